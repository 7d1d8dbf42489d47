theorem qJ0_charAt_5068e_0 : decode (mB mJ0_charAt_5068e) 0 = .ok (.aload_n 0, 1) := by decide +kernel
theorem qJ0_charAt_5068e_1 : decode (mB mJ0_charAt_5068e) 1 = .ok (.invokevirtual 492, 3) := by decide +kernel
theorem qJ0_charAt_5068e_4 : decode (mB mJ0_charAt_5068e) 4 = .ok (.ifCond .eq 12, 3) := by decide +kernel
theorem qJ0_charAt_5068e_7 : decode (mB mJ0_charAt_5068e) 7 = .ok (.aload_n 0, 1) := by decide +kernel
theorem qJ0_charAt_5068e_8 : decode (mB mJ0_charAt_5068e) 8 = .ok (.getfield 9, 3) := by decide +kernel
theorem qJ0_charAt_5068e_11 : decode (mB mJ0_charAt_5068e) 11 = .ok (.iload_n 1, 1) := by decide +kernel
theorem qJ0_charAt_5068e_12 : decode (mB mJ0_charAt_5068e) 12 = .ok (.invokestatic 495, 3) := by decide +kernel
theorem qJ0_charAt_5068e_15 : decode (mB mJ0_charAt_5068e) 15 = .ok (.ireturn, 1) := by decide +kernel
theorem qJ0_charAt_5068e_16 : decode (mB mJ0_charAt_5068e) 16 = .ok (.aload_n 0, 1) := by decide +kernel
theorem qJ0_charAt_5068e_17 : decode (mB mJ0_charAt_5068e) 17 = .ok (.getfield 9, 3) := by decide +kernel
theorem qJ0_charAt_5068e_20 : decode (mB mJ0_charAt_5068e) 20 = .ok (.iload_n 1, 1) := by decide +kernel
theorem qJ0_charAt_5068e_21 : decode (mB mJ0_charAt_5068e) 21 = .ok (.invokestatic 498, 3) := by decide +kernel
theorem qJ0_charAt_5068e_24 : decode (mB mJ0_charAt_5068e) 24 = .ok (.ireturn, 1) := by decide +kernel
theorem qJ0_checkBoundsBeginEnd_23922_0 : decode (mB mJ0_checkBoundsBeginEnd_23922) 0 = .ok (.iload_n 0, 1) := by decide +kernel
theorem qJ0_checkBoundsBeginEnd_23922_1 : decode (mB mJ0_checkBoundsBeginEnd_23922) 1 = .ok (.iload_n 1, 1) := by decide +kernel
theorem qJ0_checkBoundsBeginEnd_23922_2 : decode (mB mJ0_checkBoundsBeginEnd_23922) 2 = .ok (.iload_n 2, 1) := by decide +kernel
theorem qJ0_checkBoundsBeginEnd_23922_3 : decode (mB mJ0_checkBoundsBeginEnd_23922) 3 = .ok (.getstatic 1053, 3) := by decide +kernel
theorem qJ0_checkBoundsBeginEnd_23922_6 : decode (mB mJ0_checkBoundsBeginEnd_23922) 6 = .ok (.invokestatic 1062, 3) := by decide +kernel
theorem qJ0_checkBoundsBeginEnd_23922_9 : decode (mB mJ0_checkBoundsBeginEnd_23922) 9 = .ok (.pop, 1) := by decide +kernel
theorem qJ0_checkBoundsBeginEnd_23922_10 : decode (mB mJ0_checkBoundsBeginEnd_23922) 10 = .ok (.return_, 1) := by decide +kernel
theorem qJ0_checkBoundsOffCount_cabcc_0 : decode (mB mJ0_checkBoundsOffCount_cabcc) 0 = .ok (.iload_n 0, 1) := by decide +kernel
theorem qJ0_checkBoundsOffCount_cabcc_1 : decode (mB mJ0_checkBoundsOffCount_cabcc) 1 = .ok (.iload_n 1, 1) := by decide +kernel
theorem qJ0_checkBoundsOffCount_cabcc_2 : decode (mB mJ0_checkBoundsOffCount_cabcc) 2 = .ok (.iload_n 2, 1) := by decide +kernel
theorem qJ0_checkBoundsOffCount_cabcc_3 : decode (mB mJ0_checkBoundsOffCount_cabcc) 3 = .ok (.getstatic 1053, 3) := by decide +kernel
theorem qJ0_checkBoundsOffCount_cabcc_6 : decode (mB mJ0_checkBoundsOffCount_cabcc) 6 = .ok (.invokestatic 1065, 3) := by decide +kernel
theorem qJ0_checkBoundsOffCount_cabcc_9 : decode (mB mJ0_checkBoundsOffCount_cabcc) 9 = .ok (.ireturn, 1) := by decide +kernel
theorem qJ0_checkIndex_df160_0 : decode (mB mJ0_checkIndex_df160) 0 = .ok (.iload_n 0, 1) := by decide +kernel
theorem qJ0_checkIndex_df160_1 : decode (mB mJ0_checkIndex_df160) 1 = .ok (.iload_n 1, 1) := by decide +kernel
theorem qJ0_checkIndex_df160_2 : decode (mB mJ0_checkIndex_df160) 2 = .ok (.getstatic 1053, 3) := by decide +kernel
theorem qJ0_checkIndex_df160_5 : decode (mB mJ0_checkIndex_df160) 5 = .ok (.invokestatic 1059, 3) := by decide +kernel
theorem qJ0_checkIndex_df160_8 : decode (mB mJ0_checkIndex_df160) 8 = .ok (.pop, 1) := by decide +kernel
theorem qJ0_checkIndex_df160_9 : decode (mB mJ0_checkIndex_df160) 9 = .ok (.return_, 1) := by decide +kernel
theorem qJ0_coder_7d493_0 : decode (mB mJ0_coder_7d493) 0 = .ok (.getstatic 38, 3) := by decide +kernel
theorem qJ0_coder_7d493_3 : decode (mB mJ0_coder_7d493) 3 = .ok (.ifCond .eq 10, 3) := by decide +kernel
theorem qJ0_coder_7d493_6 : decode (mB mJ0_coder_7d493) 6 = .ok (.aload_n 0, 1) := by decide +kernel
theorem qJ0_coder_7d493_7 : decode (mB mJ0_coder_7d493) 7 = .ok (.getfield 15, 3) := by decide +kernel
theorem qJ0_coder_7d493_10 : decode (mB mJ0_coder_7d493) 10 = .ok (.goto 4, 3) := by decide +kernel
theorem qJ0_coder_7d493_13 : decode (mB mJ0_coder_7d493) 13 = .ok (.iconst 1, 1) := by decide +kernel
theorem qJ0_coder_7d493_14 : decode (mB mJ0_coder_7d493) 14 = .ok (.ireturn, 1) := by decide +kernel
theorem qJ0_getBytes_840e7_0 : decode (mB mJ0_getBytes_840e7) 0 = .ok (.aload_n 0, 1) := by decide +kernel
theorem qJ0_getBytes_840e7_1 : decode (mB mJ0_getBytes_840e7) 1 = .ok (.invokevirtual 335, 3) := by decide +kernel
theorem qJ0_getBytes_840e7_4 : decode (mB mJ0_getBytes_840e7) 4 = .ok (.iload_n 3, 1) := by decide +kernel
theorem qJ0_getBytes_840e7_5 : decode (mB mJ0_getBytes_840e7) 5 = .ok (.if_icmp .ne 23, 3) := by decide +kernel
theorem qJ0_getBytes_840e7_8 : decode (mB mJ0_getBytes_840e7) 8 = .ok (.aload_n 0, 1) := by decide +kernel
theorem qJ0_getBytes_840e7_9 : decode (mB mJ0_getBytes_840e7) 9 = .ok (.getfield 9, 3) := by decide +kernel
theorem qJ0_getBytes_840e7_12 : decode (mB mJ0_getBytes_840e7) 12 = .ok (.iconst 0, 1) := by decide +kernel
theorem qJ0_getBytes_840e7_13 : decode (mB mJ0_getBytes_840e7) 13 = .ok (.aload_n 1, 1) := by decide +kernel
theorem qJ0_getBytes_840e7_14 : decode (mB mJ0_getBytes_840e7) 14 = .ok (.iload_n 2, 1) := by decide +kernel
theorem qJ0_getBytes_840e7_15 : decode (mB mJ0_getBytes_840e7) 15 = .ok (.iload_n 3, 1) := by decide +kernel
theorem qJ0_getBytes_840e7_16 : decode (mB mJ0_getBytes_840e7) 16 = .ok (.ishl, 1) := by decide +kernel
theorem qJ0_getBytes_840e7_17 : decode (mB mJ0_getBytes_840e7) 17 = .ok (.aload_n 0, 1) := by decide +kernel
theorem qJ0_getBytes_840e7_18 : decode (mB mJ0_getBytes_840e7) 18 = .ok (.getfield 9, 3) := by decide +kernel
theorem qJ0_getBytes_840e7_21 : decode (mB mJ0_getBytes_840e7) 21 = .ok (.arraylength, 1) := by decide +kernel
theorem qJ0_getBytes_840e7_22 : decode (mB mJ0_getBytes_840e7) 22 = .ok (.invokestatic 212, 3) := by decide +kernel
theorem qJ0_getBytes_840e7_25 : decode (mB mJ0_getBytes_840e7) 25 = .ok (.goto 18, 3) := by decide +kernel
theorem qJ0_getBytes_840e7_28 : decode (mB mJ0_getBytes_840e7) 28 = .ok (.aload_n 0, 1) := by decide +kernel
theorem qJ0_getBytes_840e7_29 : decode (mB mJ0_getBytes_840e7) 29 = .ok (.getfield 9, 3) := by decide +kernel
theorem qJ0_getBytes_840e7_32 : decode (mB mJ0_getBytes_840e7) 32 = .ok (.iconst 0, 1) := by decide +kernel
theorem qJ0_getBytes_840e7_33 : decode (mB mJ0_getBytes_840e7) 33 = .ok (.aload_n 1, 1) := by decide +kernel
theorem qJ0_getBytes_840e7_34 : decode (mB mJ0_getBytes_840e7) 34 = .ok (.iload_n 2, 1) := by decide +kernel
theorem qJ0_getBytes_840e7_35 : decode (mB mJ0_getBytes_840e7) 35 = .ok (.aload_n 0, 1) := by decide +kernel
theorem qJ0_getBytes_840e7_36 : decode (mB mJ0_getBytes_840e7) 36 = .ok (.getfield 9, 3) := by decide +kernel
theorem qJ0_getBytes_840e7_39 : decode (mB mJ0_getBytes_840e7) 39 = .ok (.arraylength, 1) := by decide +kernel
theorem qJ0_getBytes_840e7_40 : decode (mB mJ0_getBytes_840e7) 40 = .ok (.invokestatic 106, 3) := by decide +kernel
theorem qJ0_getBytes_840e7_43 : decode (mB mJ0_getBytes_840e7) 43 = .ok (.return_, 1) := by decide +kernel
theorem qJ0_init_81219_0 : decode (mB mJ0_init_81219) 0 = .ok (.aload_n 0, 1) := by decide +kernel
theorem qJ0_init_81219_1 : decode (mB mJ0_init_81219) 1 = .ok (.aload_n 1, 1) := by decide +kernel
theorem qJ0_init_81219_2 : decode (mB mJ0_init_81219) 2 = .ok (.aconst_null, 1) := by decide +kernel
theorem qJ0_init_81219_3 : decode (mB mJ0_init_81219) 3 = .ok (.invokespecial 489, 3) := by decide +kernel
theorem qJ0_init_81219_6 : decode (mB mJ0_init_81219) 6 = .ok (.return_, 1) := by decide +kernel
theorem qJ0_init_db425_0 : decode (mB mJ0_init_db425) 0 = .ok (.aload_n 0, 1) := by decide +kernel
theorem qJ0_init_db425_1 : decode (mB mJ0_init_db425) 1 = .ok (.invokespecial 1, 3) := by decide +kernel
theorem qJ0_init_db425_4 : decode (mB mJ0_init_db425) 4 = .ok (.aload_n 1, 1) := by decide +kernel
theorem qJ0_init_db425_5 : decode (mB mJ0_init_db425) 5 = .ok (.invokevirtual 552, 3) := by decide +kernel
theorem qJ0_init_db425_8 : decode (mB mJ0_init_db425) 8 = .ok (.astore_n 3, 1) := by decide +kernel
theorem qJ0_init_db425_9 : decode (mB mJ0_init_db425) 9 = .ok (.aload_n 1, 1) := by decide +kernel
theorem qJ0_init_db425_10 : decode (mB mJ0_init_db425) 10 = .ok (.invokevirtual 549, 3) := by decide +kernel
theorem qJ0_init_db425_13 : decode (mB mJ0_init_db425) 13 = .ok (.istore 4, 2) := by decide +kernel
theorem qJ0_init_db425_15 : decode (mB mJ0_init_db425) 15 = .ok (.aload_n 1, 1) := by decide +kernel
theorem qJ0_init_db425_16 : decode (mB mJ0_init_db425) 16 = .ok (.invokevirtual 1047, 3) := by decide +kernel
theorem qJ0_init_db425_19 : decode (mB mJ0_init_db425) 19 = .ok (.ifCond .eq 22, 3) := by decide +kernel
theorem qJ0_init_db425_22 : decode (mB mJ0_init_db425) 22 = .ok (.aload_n 0, 1) := by decide +kernel
theorem qJ0_init_db425_23 : decode (mB mJ0_init_db425) 23 = .ok (.iconst 0, 1) := by decide +kernel
theorem qJ0_init_db425_24 : decode (mB mJ0_init_db425) 24 = .ok (.putfield 15, 3) := by decide +kernel
theorem qJ0_init_db425_27 : decode (mB mJ0_init_db425) 27 = .ok (.aload_n 0, 1) := by decide +kernel
theorem qJ0_init_db425_28 : decode (mB mJ0_init_db425) 28 = .ok (.aload_n 3, 1) := by decide +kernel
theorem qJ0_init_db425_29 : decode (mB mJ0_init_db425) 29 = .ok (.iconst 0, 1) := by decide +kernel
theorem qJ0_init_db425_30 : decode (mB mJ0_init_db425) 30 = .ok (.iload 4, 2) := by decide +kernel
theorem qJ0_init_db425_32 : decode (mB mJ0_init_db425) 32 = .ok (.invokestatic 54, 3) := by decide +kernel
theorem qJ0_init_db425_35 : decode (mB mJ0_init_db425) 35 = .ok (.putfield 9, 3) := by decide +kernel
theorem qJ0_init_db425_38 : decode (mB mJ0_init_db425) 38 = .ok (.goto 59, 3) := by decide +kernel
theorem qJ0_init_db425_41 : decode (mB mJ0_init_db425) 41 = .ok (.getstatic 38, 3) := by decide +kernel
theorem qJ0_init_db425_44 : decode (mB mJ0_init_db425) 44 = .ok (.ifCond .eq 35, 3) := by decide +kernel
theorem qJ0_init_db425_47 : decode (mB mJ0_init_db425) 47 = .ok (.aload_n 1, 1) := by decide +kernel
theorem qJ0_init_db425_48 : decode (mB mJ0_init_db425) 48 = .ok (.getfield 1048, 3) := by decide +kernel
theorem qJ0_init_db425_51 : decode (mB mJ0_init_db425) 51 = .ok (.ifCond .eq 28, 3) := by decide +kernel
theorem qJ0_init_db425_54 : decode (mB mJ0_init_db425) 54 = .ok (.aload_n 0, 1) := by decide +kernel
theorem qJ0_init_db425_55 : decode (mB mJ0_init_db425) 55 = .ok (.aload_n 3, 1) := by decide +kernel
theorem qJ0_init_db425_56 : decode (mB mJ0_init_db425) 56 = .ok (.iconst 0, 1) := by decide +kernel
theorem qJ0_init_db425_57 : decode (mB mJ0_init_db425) 57 = .ok (.iload 4, 2) := by decide +kernel
theorem qJ0_init_db425_59 : decode (mB mJ0_init_db425) 59 = .ok (.invokestatic 1051, 3) := by decide +kernel
theorem qJ0_init_db425_62 : decode (mB mJ0_init_db425) 62 = .ok (.putfield 9, 3) := by decide +kernel
theorem qJ0_init_db425_65 : decode (mB mJ0_init_db425) 65 = .ok (.aload_n 0, 1) := by decide +kernel
theorem qJ0_init_db425_66 : decode (mB mJ0_init_db425) 66 = .ok (.aload_n 0, 1) := by decide +kernel
theorem qJ0_init_db425_67 : decode (mB mJ0_init_db425) 67 = .ok (.getfield 9, 3) := by decide +kernel
theorem qJ0_init_db425_70 : decode (mB mJ0_init_db425) 70 = .ok (.iload 4, 2) := by decide +kernel
theorem qJ0_init_db425_72 : decode (mB mJ0_init_db425) 72 = .ok (.invokestatic 47, 3) := by decide +kernel
theorem qJ0_init_db425_75 : decode (mB mJ0_init_db425) 75 = .ok (.putfield 15, 3) := by decide +kernel
theorem qJ0_init_db425_78 : decode (mB mJ0_init_db425) 78 = .ok (.return_, 1) := by decide +kernel
theorem qJ0_init_db425_79 : decode (mB mJ0_init_db425) 79 = .ok (.aload_n 0, 1) := by decide +kernel
theorem qJ0_init_db425_80 : decode (mB mJ0_init_db425) 80 = .ok (.iconst 1, 1) := by decide +kernel
theorem qJ0_init_db425_81 : decode (mB mJ0_init_db425) 81 = .ok (.putfield 15, 3) := by decide +kernel
theorem qJ0_init_db425_84 : decode (mB mJ0_init_db425) 84 = .ok (.aload_n 0, 1) := by decide +kernel
theorem qJ0_init_db425_85 : decode (mB mJ0_init_db425) 85 = .ok (.aload_n 3, 1) := by decide +kernel
theorem qJ0_init_db425_86 : decode (mB mJ0_init_db425) 86 = .ok (.iconst 0, 1) := by decide +kernel
theorem qJ0_init_db425_87 : decode (mB mJ0_init_db425) 87 = .ok (.iload 4, 2) := by decide +kernel
theorem qJ0_init_db425_89 : decode (mB mJ0_init_db425) 89 = .ok (.iconst 1, 1) := by decide +kernel
theorem qJ0_init_db425_90 : decode (mB mJ0_init_db425) 90 = .ok (.ishl, 1) := by decide +kernel
theorem qJ0_init_db425_91 : decode (mB mJ0_init_db425) 91 = .ok (.invokestatic 54, 3) := by decide +kernel
theorem qJ0_init_db425_94 : decode (mB mJ0_init_db425) 94 = .ok (.putfield 9, 3) := by decide +kernel
theorem qJ0_init_db425_97 : decode (mB mJ0_init_db425) 97 = .ok (.return_, 1) := by decide +kernel
theorem qJ0_isLatin1_aae02_0 : decode (mB mJ0_isLatin1_aae02) 0 = .ok (.getstatic 38, 3) := by decide +kernel
theorem qJ0_isLatin1_aae02_3 : decode (mB mJ0_isLatin1_aae02) 3 = .ok (.ifCond .eq 14, 3) := by decide +kernel
theorem qJ0_isLatin1_aae02_6 : decode (mB mJ0_isLatin1_aae02) 6 = .ok (.aload_n 0, 1) := by decide +kernel
theorem qJ0_isLatin1_aae02_7 : decode (mB mJ0_isLatin1_aae02) 7 = .ok (.getfield 15, 3) := by decide +kernel
theorem qJ0_isLatin1_aae02_10 : decode (mB mJ0_isLatin1_aae02) 10 = .ok (.ifCond .ne 7, 3) := by decide +kernel
theorem qJ0_isLatin1_aae02_13 : decode (mB mJ0_isLatin1_aae02) 13 = .ok (.iconst 1, 1) := by decide +kernel
theorem qJ0_isLatin1_aae02_14 : decode (mB mJ0_isLatin1_aae02) 14 = .ok (.goto 4, 3) := by decide +kernel
theorem qJ0_isLatin1_aae02_17 : decode (mB mJ0_isLatin1_aae02) 17 = .ok (.iconst 0, 1) := by decide +kernel
theorem qJ0_isLatin1_aae02_18 : decode (mB mJ0_isLatin1_aae02) 18 = .ok (.ireturn, 1) := by decide +kernel
theorem qJ0_length_8abf5_0 : decode (mB mJ0_length_8abf5) 0 = .ok (.aload_n 0, 1) := by decide +kernel
theorem qJ0_length_8abf5_1 : decode (mB mJ0_length_8abf5) 1 = .ok (.getfield 9, 3) := by decide +kernel
theorem qJ0_length_8abf5_4 : decode (mB mJ0_length_8abf5) 4 = .ok (.arraylength, 1) := by decide +kernel
theorem qJ0_length_8abf5_5 : decode (mB mJ0_length_8abf5) 5 = .ok (.aload_n 0, 1) := by decide +kernel
theorem qJ0_length_8abf5_6 : decode (mB mJ0_length_8abf5) 6 = .ok (.invokevirtual 335, 3) := by decide +kernel
theorem qJ0_length_8abf5_9 : decode (mB mJ0_length_8abf5) 9 = .ok (.ishr, 1) := by decide +kernel
theorem qJ0_length_8abf5_10 : decode (mB mJ0_length_8abf5) 10 = .ok (.ireturn, 1) := by decide +kernel
theorem qJ1_canEncode_fc78d_0 : decode (mB mJ1_canEncode_fc78d) 0 = .ok (.iload_n 0, 1) := by decide +kernel
theorem qJ1_canEncode_fc78d_1 : decode (mB mJ1_canEncode_fc78d) 1 = .ok (.sipush 255, 3) := by decide +kernel
theorem qJ1_canEncode_fc78d_4 : decode (mB mJ1_canEncode_fc78d) 4 = .ok (.if_icmp .gt 7, 3) := by decide +kernel
theorem qJ1_canEncode_fc78d_7 : decode (mB mJ1_canEncode_fc78d) 7 = .ok (.iconst 1, 1) := by decide +kernel
theorem qJ1_canEncode_fc78d_8 : decode (mB mJ1_canEncode_fc78d) 8 = .ok (.goto 4, 3) := by decide +kernel
theorem qJ1_canEncode_fc78d_11 : decode (mB mJ1_canEncode_fc78d) 11 = .ok (.iconst 0, 1) := by decide +kernel
theorem qJ1_canEncode_fc78d_12 : decode (mB mJ1_canEncode_fc78d) 12 = .ok (.ireturn, 1) := by decide +kernel
theorem qJ1_charAt_3b067_0 : decode (mB mJ1_charAt_3b067) 0 = .ok (.iload_n 1, 1) := by decide +kernel
theorem qJ1_charAt_3b067_1 : decode (mB mJ1_charAt_3b067) 1 = .ok (.aload_n 0, 1) := by decide +kernel
theorem qJ1_charAt_3b067_2 : decode (mB mJ1_charAt_3b067) 2 = .ok (.arraylength, 1) := by decide +kernel
theorem qJ1_charAt_3b067_3 : decode (mB mJ1_charAt_3b067) 3 = .ok (.invokestatic 9, 3) := by decide +kernel
theorem qJ1_charAt_3b067_6 : decode (mB mJ1_charAt_3b067) 6 = .ok (.aload_n 0, 1) := by decide +kernel
theorem qJ1_charAt_3b067_7 : decode (mB mJ1_charAt_3b067) 7 = .ok (.iload_n 1, 1) := by decide +kernel
theorem qJ1_charAt_3b067_8 : decode (mB mJ1_charAt_3b067) 8 = .ok (.baload, 1) := by decide +kernel
theorem qJ1_charAt_3b067_9 : decode (mB mJ1_charAt_3b067) 9 = .ok (.sipush 255, 3) := by decide +kernel
theorem qJ1_charAt_3b067_12 : decode (mB mJ1_charAt_3b067) 12 = .ok (.iand, 1) := by decide +kernel
theorem qJ1_charAt_3b067_13 : decode (mB mJ1_charAt_3b067) 13 = .ok (.i2c, 1) := by decide +kernel
theorem qJ1_charAt_3b067_14 : decode (mB mJ1_charAt_3b067) 14 = .ok (.ireturn, 1) := by decide +kernel
theorem qJ1_fillNull_b72d1_0 : decode (mB mJ1_fillNull_b72d1) 0 = .ok (.aload_n 0, 1) := by decide +kernel
theorem qJ1_fillNull_b72d1_1 : decode (mB mJ1_fillNull_b72d1) 1 = .ok (.iload_n 1, 1) := by decide +kernel
theorem qJ1_fillNull_b72d1_2 : decode (mB mJ1_fillNull_b72d1) 2 = .ok (.iload_n 2, 1) := by decide +kernel
theorem qJ1_fillNull_b72d1_3 : decode (mB mJ1_fillNull_b72d1) 3 = .ok (.iconst 0, 1) := by decide +kernel
theorem qJ1_fillNull_b72d1_4 : decode (mB mJ1_fillNull_b72d1) 4 = .ok (.invokestatic 236, 3) := by decide +kernel
theorem qJ1_fillNull_b72d1_7 : decode (mB mJ1_fillNull_b72d1) 7 = .ok (.return_, 1) := by decide +kernel
theorem qJ1_inflate_0e8fd_0 : decode (mB mJ1_inflate_0e8fd) 0 = .ok (.aload_n 0, 1) := by decide +kernel
theorem qJ1_inflate_0e8fd_1 : decode (mB mJ1_inflate_0e8fd) 1 = .ok (.iload_n 1, 1) := by decide +kernel
theorem qJ1_inflate_0e8fd_2 : decode (mB mJ1_inflate_0e8fd) 2 = .ok (.aload_n 2, 1) := by decide +kernel
theorem qJ1_inflate_0e8fd_3 : decode (mB mJ1_inflate_0e8fd) 3 = .ok (.iload_n 3, 1) := by decide +kernel
theorem qJ1_inflate_0e8fd_4 : decode (mB mJ1_inflate_0e8fd) 4 = .ok (.iload 4, 2) := by decide +kernel
theorem qJ1_inflate_0e8fd_6 : decode (mB mJ1_inflate_0e8fd) 6 = .ok (.invokestatic 240, 3) := by decide +kernel
theorem qJ1_inflate_0e8fd_9 : decode (mB mJ1_inflate_0e8fd) 9 = .ok (.return_, 1) := by decide +kernel
theorem qJ2_charAt_3b067_0 : decode (mB mJ2_charAt_3b067) 0 = .ok (.iload_n 1, 1) := by decide +kernel
theorem qJ2_charAt_3b067_1 : decode (mB mJ2_charAt_3b067) 1 = .ok (.aload_n 0, 1) := by decide +kernel
theorem qJ2_charAt_3b067_2 : decode (mB mJ2_charAt_3b067) 2 = .ok (.invokestatic 67, 3) := by decide +kernel
theorem qJ2_charAt_3b067_5 : decode (mB mJ2_charAt_3b067) 5 = .ok (.aload_n 0, 1) := by decide +kernel
theorem qJ2_charAt_3b067_6 : decode (mB mJ2_charAt_3b067) 6 = .ok (.iload_n 1, 1) := by decide +kernel
theorem qJ2_charAt_3b067_7 : decode (mB mJ2_charAt_3b067) 7 = .ok (.invokestatic 71, 3) := by decide +kernel
theorem qJ2_charAt_3b067_10 : decode (mB mJ2_charAt_3b067) 10 = .ok (.ireturn, 1) := by decide +kernel
theorem qJ2_checkBoundsBeginEnd_d044e_0 : decode (mB mJ2_checkBoundsBeginEnd_d044e) 0 = .ok (.iload_n 0, 1) := by decide +kernel
theorem qJ2_checkBoundsBeginEnd_d044e_1 : decode (mB mJ2_checkBoundsBeginEnd_d044e) 1 = .ok (.iload_n 1, 1) := by decide +kernel
theorem qJ2_checkBoundsBeginEnd_d044e_2 : decode (mB mJ2_checkBoundsBeginEnd_d044e) 2 = .ok (.aload_n 2, 1) := by decide +kernel
theorem qJ2_checkBoundsBeginEnd_d044e_3 : decode (mB mJ2_checkBoundsBeginEnd_d044e) 3 = .ok (.invokestatic 48, 3) := by decide +kernel
theorem qJ2_checkBoundsBeginEnd_d044e_6 : decode (mB mJ2_checkBoundsBeginEnd_d044e) 6 = .ok (.invokestatic 241, 3) := by decide +kernel
theorem qJ2_checkBoundsBeginEnd_d044e_9 : decode (mB mJ2_checkBoundsBeginEnd_d044e) 9 = .ok (.return_, 1) := by decide +kernel
theorem qJ2_checkBoundsOffCount_d044e_0 : decode (mB mJ2_checkBoundsOffCount_d044e) 0 = .ok (.iload_n 0, 1) := by decide +kernel
theorem qJ2_checkBoundsOffCount_d044e_1 : decode (mB mJ2_checkBoundsOffCount_d044e) 1 = .ok (.iload_n 1, 1) := by decide +kernel
theorem qJ2_checkBoundsOffCount_d044e_2 : decode (mB mJ2_checkBoundsOffCount_d044e) 2 = .ok (.aload_n 2, 1) := by decide +kernel
theorem qJ2_checkBoundsOffCount_d044e_3 : decode (mB mJ2_checkBoundsOffCount_d044e) 3 = .ok (.invokestatic 48, 3) := by decide +kernel
theorem qJ2_checkBoundsOffCount_d044e_6 : decode (mB mJ2_checkBoundsOffCount_d044e) 6 = .ok (.invokestatic 419, 3) := by decide +kernel
theorem qJ2_checkBoundsOffCount_d044e_9 : decode (mB mJ2_checkBoundsOffCount_d044e) 9 = .ok (.pop, 1) := by decide +kernel
theorem qJ2_checkBoundsOffCount_d044e_10 : decode (mB mJ2_checkBoundsOffCount_d044e) 10 = .ok (.return_, 1) := by decide +kernel
theorem qJ2_checkIndex_2214a_0 : decode (mB mJ2_checkIndex_2214a) 0 = .ok (.iload_n 0, 1) := by decide +kernel
theorem qJ2_checkIndex_2214a_1 : decode (mB mJ2_checkIndex_2214a) 1 = .ok (.aload_n 1, 1) := by decide +kernel
theorem qJ2_checkIndex_2214a_2 : decode (mB mJ2_checkIndex_2214a) 2 = .ok (.invokestatic 48, 3) := by decide +kernel
theorem qJ2_checkIndex_2214a_5 : decode (mB mJ2_checkIndex_2214a) 5 = .ok (.invokestatic 414, 3) := by decide +kernel
theorem qJ2_checkIndex_2214a_8 : decode (mB mJ2_checkIndex_2214a) 8 = .ok (.return_, 1) := by decide +kernel
theorem qJ2_coderFromArrayLen_85cad_0 : decode (mB mJ2_coderFromArrayLen_85cad) 0 = .ok (.iload_n 1, 1) := by decide +kernel
theorem qJ2_coderFromArrayLen_85cad_1 : decode (mB mJ2_coderFromArrayLen_85cad) 1 = .ok (.aload_n 0, 1) := by decide +kernel
theorem qJ2_coderFromArrayLen_85cad_2 : decode (mB mJ2_coderFromArrayLen_85cad) 2 = .ok (.arraylength, 1) := by decide +kernel
theorem qJ2_coderFromArrayLen_85cad_3 : decode (mB mJ2_coderFromArrayLen_85cad) 3 = .ok (.isub, 1) := by decide +kernel
theorem qJ2_coderFromArrayLen_85cad_4 : decode (mB mJ2_coderFromArrayLen_85cad) 4 = .ok (.bipush 31, 2) := by decide +kernel
theorem qJ2_coderFromArrayLen_85cad_6 : decode (mB mJ2_coderFromArrayLen_85cad) 6 = .ok (.iushr, 1) := by decide +kernel
theorem qJ2_coderFromArrayLen_85cad_7 : decode (mB mJ2_coderFromArrayLen_85cad) 7 = .ok (.i2b, 1) := by decide +kernel
theorem qJ2_coderFromArrayLen_85cad_8 : decode (mB mJ2_coderFromArrayLen_85cad) 8 = .ok (.ireturn, 1) := by decide +kernel
theorem qJ2_compress_39247_0 : decode (mB mJ2_compress_39247) 0 = .ok (.iload_n 2, 1) := by decide +kernel
theorem qJ2_compress_39247_1 : decode (mB mJ2_compress_39247) 1 = .ok (.newarray .byte, 2) := by decide +kernel
theorem qJ2_compress_39247_3 : decode (mB mJ2_compress_39247) 3 = .ok (.astore_n 3, 1) := by decide +kernel
theorem qJ2_compress_39247_4 : decode (mB mJ2_compress_39247) 4 = .ok (.aload_n 0, 1) := by decide +kernel
theorem qJ2_compress_39247_5 : decode (mB mJ2_compress_39247) 5 = .ok (.iload_n 1, 1) := by decide +kernel
theorem qJ2_compress_39247_6 : decode (mB mJ2_compress_39247) 6 = .ok (.aload_n 3, 1) := by decide +kernel
theorem qJ2_compress_39247_7 : decode (mB mJ2_compress_39247) 7 = .ok (.iconst 0, 1) := by decide +kernel
theorem qJ2_compress_39247_8 : decode (mB mJ2_compress_39247) 8 = .ok (.iload_n 2, 1) := by decide +kernel
theorem qJ2_compress_39247_9 : decode (mB mJ2_compress_39247) 9 = .ok (.invokestatic 123, 3) := by decide +kernel
theorem qJ2_compress_39247_12 : decode (mB mJ2_compress_39247) 12 = .ok (.istore 4, 2) := by decide +kernel
theorem qJ2_compress_39247_14 : decode (mB mJ2_compress_39247) 14 = .ok (.iload 4, 2) := by decide +kernel
theorem qJ2_compress_39247_16 : decode (mB mJ2_compress_39247) 16 = .ok (.iload_n 2, 1) := by decide +kernel
theorem qJ2_compress_39247_17 : decode (mB mJ2_compress_39247) 17 = .ok (.if_icmp .eq 47, 3) := by decide +kernel
theorem qJ2_compress_39247_20 : decode (mB mJ2_compress_39247) 20 = .ok (.aload_n 0, 1) := by decide +kernel
theorem qJ2_compress_39247_21 : decode (mB mJ2_compress_39247) 21 = .ok (.iload_n 1, 1) := by decide +kernel
theorem qJ2_compress_39247_22 : decode (mB mJ2_compress_39247) 22 = .ok (.iconst 1, 1) := by decide +kernel
theorem qJ2_compress_39247_23 : decode (mB mJ2_compress_39247) 23 = .ok (.ishl, 1) := by decide +kernel
theorem qJ2_compress_39247_24 : decode (mB mJ2_compress_39247) 24 = .ok (.iload_n 1, 1) := by decide +kernel
theorem qJ2_compress_39247_25 : decode (mB mJ2_compress_39247) 25 = .ok (.iload_n 2, 1) := by decide +kernel
theorem qJ2_compress_39247_26 : decode (mB mJ2_compress_39247) 26 = .ok (.iadd, 1) := by decide +kernel
theorem qJ2_compress_39247_27 : decode (mB mJ2_compress_39247) 27 = .ok (.invokestatic 11, 3) := by decide +kernel
theorem qJ2_compress_39247_30 : decode (mB mJ2_compress_39247) 30 = .ok (.invokestatic 126, 3) := by decide +kernel
theorem qJ2_compress_39247_33 : decode (mB mJ2_compress_39247) 33 = .ok (.astore 5, 2) := by decide +kernel
theorem qJ2_compress_39247_35 : decode (mB mJ2_compress_39247) 35 = .ok (.aload 5, 2) := by decide +kernel
theorem qJ2_compress_39247_37 : decode (mB mJ2_compress_39247) 37 = .ok (.iload 4, 2) := by decide +kernel
theorem qJ2_compress_39247_39 : decode (mB mJ2_compress_39247) 39 = .ok (.invokestatic 71, 3) := by decide +kernel
theorem qJ2_compress_39247_42 : decode (mB mJ2_compress_39247) 42 = .ok (.sipush 255, 3) := by decide +kernel
theorem qJ2_compress_39247_45 : decode (mB mJ2_compress_39247) 45 = .ok (.if_icmp .gt 16, 3) := by decide +kernel
theorem qJ2_compress_39247_48 : decode (mB mJ2_compress_39247) 48 = .ok (.aload 5, 2) := by decide +kernel
theorem qJ2_compress_39247_50 : decode (mB mJ2_compress_39247) 50 = .ok (.iconst 0, 1) := by decide +kernel
theorem qJ2_compress_39247_51 : decode (mB mJ2_compress_39247) 51 = .ok (.aload_n 3, 1) := by decide +kernel
theorem qJ2_compress_39247_52 : decode (mB mJ2_compress_39247) 52 = .ok (.iconst 0, 1) := by decide +kernel
theorem qJ2_compress_39247_53 : decode (mB mJ2_compress_39247) 53 = .ok (.iload_n 2, 1) := by decide +kernel
theorem qJ2_compress_39247_54 : decode (mB mJ2_compress_39247) 54 = .ok (.invokestatic 123, 3) := by decide +kernel
theorem qJ2_compress_39247_57 : decode (mB mJ2_compress_39247) 57 = .ok (.iload_n 2, 1) := by decide +kernel
theorem qJ2_compress_39247_58 : decode (mB mJ2_compress_39247) 58 = .ok (.if_icmp .eq 6, 3) := by decide +kernel
theorem qJ2_compress_39247_61 : decode (mB mJ2_compress_39247) 61 = .ok (.aload 5, 2) := by decide +kernel
theorem qJ2_compress_39247_63 : decode (mB mJ2_compress_39247) 63 = .ok (.areturn, 1) := by decide +kernel
theorem qJ2_compress_39247_64 : decode (mB mJ2_compress_39247) 64 = .ok (.aload_n 3, 1) := by decide +kernel
theorem qJ2_compress_39247_65 : decode (mB mJ2_compress_39247) 65 = .ok (.areturn, 1) := by decide +kernel
theorem qJ2_compress_5af95_0 : decode (mB mJ2_compress_5af95) 0 = .ok (.iload_n 1, 1) := by decide +kernel
theorem qJ2_compress_5af95_1 : decode (mB mJ2_compress_5af95) 1 = .ok (.iload 4, 2) := by decide +kernel
theorem qJ2_compress_5af95_3 : decode (mB mJ2_compress_5af95) 3 = .ok (.aload_n 0, 1) := by decide +kernel
theorem qJ2_compress_5af95_4 : decode (mB mJ2_compress_5af95) 4 = .ok (.invokestatic 173, 3) := by decide +kernel
theorem qJ2_compress_5af95_7 : decode (mB mJ2_compress_5af95) 7 = .ok (.iconst 0, 1) := by decide +kernel
theorem qJ2_compress_5af95_8 : decode (mB mJ2_compress_5af95) 8 = .ok (.istore 5, 2) := by decide +kernel
theorem qJ2_compress_5af95_10 : decode (mB mJ2_compress_5af95) 10 = .ok (.iload 5, 2) := by decide +kernel
theorem qJ2_compress_5af95_12 : decode (mB mJ2_compress_5af95) 12 = .ok (.iload 4, 2) := by decide +kernel
theorem qJ2_compress_5af95_14 : decode (mB mJ2_compress_5af95) 14 = .ok (.if_icmp .ge 39, 3) := by decide +kernel
theorem qJ2_compress_5af95_17 : decode (mB mJ2_compress_5af95) 17 = .ok (.aload_n 0, 1) := by decide +kernel
theorem qJ2_compress_5af95_18 : decode (mB mJ2_compress_5af95) 18 = .ok (.iload_n 1, 1) := by decide +kernel
theorem qJ2_compress_5af95_19 : decode (mB mJ2_compress_5af95) 19 = .ok (.invokestatic 71, 3) := by decide +kernel
theorem qJ2_compress_5af95_22 : decode (mB mJ2_compress_5af95) 22 = .ok (.istore 6, 2) := by decide +kernel
theorem qJ2_compress_5af95_24 : decode (mB mJ2_compress_5af95) 24 = .ok (.iload 6, 2) := by decide +kernel
theorem qJ2_compress_5af95_26 : decode (mB mJ2_compress_5af95) 26 = .ok (.sipush 255, 3) := by decide +kernel
theorem qJ2_compress_5af95_29 : decode (mB mJ2_compress_5af95) 29 = .ok (.if_icmp .le 6, 3) := by decide +kernel
theorem qJ2_compress_5af95_32 : decode (mB mJ2_compress_5af95) 32 = .ok (.iload 5, 2) := by decide +kernel
theorem qJ2_compress_5af95_34 : decode (mB mJ2_compress_5af95) 34 = .ok (.ireturn, 1) := by decide +kernel
theorem qJ2_compress_5af95_35 : decode (mB mJ2_compress_5af95) 35 = .ok (.aload_n 2, 1) := by decide +kernel
theorem qJ2_compress_5af95_36 : decode (mB mJ2_compress_5af95) 36 = .ok (.iload_n 3, 1) := by decide +kernel
theorem qJ2_compress_5af95_37 : decode (mB mJ2_compress_5af95) 37 = .ok (.iload 6, 2) := by decide +kernel
theorem qJ2_compress_5af95_39 : decode (mB mJ2_compress_5af95) 39 = .ok (.i2b, 1) := by decide +kernel
theorem qJ2_compress_5af95_40 : decode (mB mJ2_compress_5af95) 40 = .ok (.bastore, 1) := by decide +kernel
theorem qJ2_compress_5af95_41 : decode (mB mJ2_compress_5af95) 41 = .ok (.iinc 1 1, 3) := by decide +kernel
theorem qJ2_compress_5af95_44 : decode (mB mJ2_compress_5af95) 44 = .ok (.iinc 3 1, 3) := by decide +kernel
theorem qJ2_compress_5af95_47 : decode (mB mJ2_compress_5af95) 47 = .ok (.iinc 5 1, 3) := by decide +kernel
theorem qJ2_compress_5af95_50 : decode (mB mJ2_compress_5af95) 50 = .ok (.goto (-40), 3) := by decide +kernel
theorem qJ2_compress_5af95_53 : decode (mB mJ2_compress_5af95) 53 = .ok (.iload 4, 2) := by decide +kernel
theorem qJ2_compress_5af95_55 : decode (mB mJ2_compress_5af95) 55 = .ok (.ireturn, 1) := by decide +kernel
theorem qJ2_fillNull_b72d1_0 : decode (mB mJ2_fillNull_b72d1) 0 = .ok (.aload_n 0, 1) := by decide +kernel
theorem qJ2_fillNull_b72d1_1 : decode (mB mJ2_fillNull_b72d1) 1 = .ok (.iload_n 1, 1) := by decide +kernel
theorem qJ2_fillNull_b72d1_2 : decode (mB mJ2_fillNull_b72d1) 2 = .ok (.iconst 1, 1) := by decide +kernel
theorem qJ2_fillNull_b72d1_3 : decode (mB mJ2_fillNull_b72d1) 3 = .ok (.ishl, 1) := by decide +kernel
theorem qJ2_fillNull_b72d1_4 : decode (mB mJ2_fillNull_b72d1) 4 = .ok (.iload_n 2, 1) := by decide +kernel
theorem qJ2_fillNull_b72d1_5 : decode (mB mJ2_fillNull_b72d1) 5 = .ok (.iconst 1, 1) := by decide +kernel
theorem qJ2_fillNull_b72d1_6 : decode (mB mJ2_fillNull_b72d1) 6 = .ok (.ishl, 1) := by decide +kernel
theorem qJ2_fillNull_b72d1_7 : decode (mB mJ2_fillNull_b72d1) 7 = .ok (.iconst 0, 1) := by decide +kernel
theorem qJ2_fillNull_b72d1_8 : decode (mB mJ2_fillNull_b72d1) 8 = .ok (.invokestatic 380, 3) := by decide +kernel
theorem qJ2_fillNull_b72d1_11 : decode (mB mJ2_fillNull_b72d1) 11 = .ok (.return_, 1) := by decide +kernel
theorem qJ2_getChar_3b067_0 : decode (mB mJ2_getChar_3b067) 0 = .ok (.getstatic 44, 3) := by decide +kernel
theorem qJ2_getChar_3b067_3 : decode (mB mJ2_getChar_3b067) 3 = .ok (.ifCond .ne 25, 3) := by decide +kernel
theorem qJ2_getChar_3b067_6 : decode (mB mJ2_getChar_3b067) 6 = .ok (.iload_n 1, 1) := by decide +kernel
theorem qJ2_getChar_3b067_7 : decode (mB mJ2_getChar_3b067) 7 = .ok (.ifCond .lt 11, 3) := by decide +kernel
theorem qJ2_getChar_3b067_10 : decode (mB mJ2_getChar_3b067) 10 = .ok (.iload_n 1, 1) := by decide +kernel
theorem qJ2_getChar_3b067_11 : decode (mB mJ2_getChar_3b067) 11 = .ok (.aload_n 0, 1) := by decide +kernel
theorem qJ2_getChar_3b067_12 : decode (mB mJ2_getChar_3b067) 12 = .ok (.invokestatic 48, 3) := by decide +kernel
theorem qJ2_getChar_3b067_15 : decode (mB mJ2_getChar_3b067) 15 = .ok (.if_icmp .lt 13, 3) := by decide +kernel
theorem qJ2_getChar_3b067_18 : decode (mB mJ2_getChar_3b067) 18 = .ok (.new 52, 3) := by decide +kernel
theorem qJ2_getChar_3b067_21 : decode (mB mJ2_getChar_3b067) 21 = .ok (.dup, 1) := by decide +kernel
theorem qJ2_getChar_3b067_22 : decode (mB mJ2_getChar_3b067) 22 = .ok (.ldc 54, 2) := by decide +kernel
theorem qJ2_getChar_3b067_24 : decode (mB mJ2_getChar_3b067) 24 = .ok (.invokespecial 56, 3) := by decide +kernel
theorem qJ2_getChar_3b067_27 : decode (mB mJ2_getChar_3b067) 27 = .ok (.athrow, 1) := by decide +kernel
theorem qJ2_getChar_3b067_28 : decode (mB mJ2_getChar_3b067) 28 = .ok (.iload_n 1, 1) := by decide +kernel
theorem qJ2_getChar_3b067_29 : decode (mB mJ2_getChar_3b067) 29 = .ok (.iconst 1, 1) := by decide +kernel
theorem qJ2_getChar_3b067_30 : decode (mB mJ2_getChar_3b067) 30 = .ok (.ishl, 1) := by decide +kernel
theorem qJ2_getChar_3b067_31 : decode (mB mJ2_getChar_3b067) 31 = .ok (.istore_n 1, 1) := by decide +kernel
theorem qJ2_getChar_3b067_32 : decode (mB mJ2_getChar_3b067) 32 = .ok (.aload_n 0, 1) := by decide +kernel
theorem qJ2_getChar_3b067_33 : decode (mB mJ2_getChar_3b067) 33 = .ok (.iload_n 1, 1) := by decide +kernel
theorem qJ2_getChar_3b067_34 : decode (mB mJ2_getChar_3b067) 34 = .ok (.iinc 1 1, 3) := by decide +kernel
theorem qJ2_getChar_3b067_37 : decode (mB mJ2_getChar_3b067) 37 = .ok (.baload, 1) := by decide +kernel
theorem qJ2_getChar_3b067_38 : decode (mB mJ2_getChar_3b067) 38 = .ok (.sipush 255, 3) := by decide +kernel
theorem qJ2_getChar_3b067_41 : decode (mB mJ2_getChar_3b067) 41 = .ok (.iand, 1) := by decide +kernel
theorem qJ2_getChar_3b067_42 : decode (mB mJ2_getChar_3b067) 42 = .ok (.getstatic 59, 3) := by decide +kernel
theorem qJ2_getChar_3b067_45 : decode (mB mJ2_getChar_3b067) 45 = .ok (.ishl, 1) := by decide +kernel
theorem qJ2_getChar_3b067_46 : decode (mB mJ2_getChar_3b067) 46 = .ok (.aload_n 0, 1) := by decide +kernel
theorem qJ2_getChar_3b067_47 : decode (mB mJ2_getChar_3b067) 47 = .ok (.iload_n 1, 1) := by decide +kernel
theorem qJ2_getChar_3b067_48 : decode (mB mJ2_getChar_3b067) 48 = .ok (.baload, 1) := by decide +kernel
theorem qJ2_getChar_3b067_49 : decode (mB mJ2_getChar_3b067) 49 = .ok (.sipush 255, 3) := by decide +kernel
theorem qJ2_getChar_3b067_52 : decode (mB mJ2_getChar_3b067) 52 = .ok (.iand, 1) := by decide +kernel
theorem qJ2_getChar_3b067_53 : decode (mB mJ2_getChar_3b067) 53 = .ok (.getstatic 63, 3) := by decide +kernel
theorem qJ2_getChar_3b067_56 : decode (mB mJ2_getChar_3b067) 56 = .ok (.ishl, 1) := by decide +kernel
theorem qJ2_getChar_3b067_57 : decode (mB mJ2_getChar_3b067) 57 = .ok (.ior, 1) := by decide +kernel
theorem qJ2_getChar_3b067_58 : decode (mB mJ2_getChar_3b067) 58 = .ok (.i2c, 1) := by decide +kernel
theorem qJ2_getChar_3b067_59 : decode (mB mJ2_getChar_3b067) 59 = .ok (.ireturn, 1) := by decide +kernel
theorem qJ2_getChars_46870_0 : decode (mB mJ2_getChars_46870) 0 = .ok (.iload_n 1, 1) := by decide +kernel
theorem qJ2_getChars_46870_1 : decode (mB mJ2_getChars_46870) 1 = .ok (.iload_n 2, 1) := by decide +kernel
theorem qJ2_getChars_46870_2 : decode (mB mJ2_getChars_46870) 2 = .ok (.aload_n 3, 1) := by decide +kernel
theorem qJ2_getChars_46870_3 : decode (mB mJ2_getChars_46870) 3 = .ok (.invokestatic 96, 3) := by decide +kernel
theorem qJ2_getChars_46870_6 : decode (mB mJ2_getChars_46870) 6 = .ok (.iload_n 0, 1) := by decide +kernel
theorem qJ2_getChars_46870_7 : decode (mB mJ2_getChars_46870) 7 = .ok (.iload_n 2, 1) := by decide +kernel
theorem qJ2_getChars_46870_8 : decode (mB mJ2_getChars_46870) 8 = .ok (.aload_n 3, 1) := by decide +kernel
theorem qJ2_getChars_46870_9 : decode (mB mJ2_getChars_46870) 9 = .ok (.invokestatic 393, 3) := by decide +kernel
theorem qJ2_getChars_46870_12 : decode (mB mJ2_getChars_46870) 12 = .ok (.istore 4, 2) := by decide +kernel
theorem qJ2_getChars_46870_14 : decode (mB mJ2_getChars_46870) 14 = .ok (.getstatic 44, 3) := by decide +kernel
theorem qJ2_getChars_46870_17 : decode (mB mJ2_getChars_46870) 17 = .ok (.ifCond .ne 17, 3) := by decide +kernel
theorem qJ2_getChars_46870_20 : decode (mB mJ2_getChars_46870) 20 = .ok (.iload_n 1, 1) := by decide +kernel
theorem qJ2_getChars_46870_21 : decode (mB mJ2_getChars_46870) 21 = .ok (.iload 4, 2) := by decide +kernel
theorem qJ2_getChars_46870_23 : decode (mB mJ2_getChars_46870) 23 = .ok (.if_icmp .eq 11, 3) := by decide +kernel
theorem qJ2_getChars_46870_26 : decode (mB mJ2_getChars_46870) 26 = .ok (.new 52, 3) := by decide +kernel
theorem qJ2_getChars_46870_29 : decode (mB mJ2_getChars_46870) 29 = .ok (.dup, 1) := by decide +kernel
theorem qJ2_getChars_46870_30 : decode (mB mJ2_getChars_46870) 30 = .ok (.invokespecial 66, 3) := by decide +kernel
theorem qJ2_getChars_46870_33 : decode (mB mJ2_getChars_46870) 33 = .ok (.athrow, 1) := by decide +kernel
theorem qJ2_getChars_46870_34 : decode (mB mJ2_getChars_46870) 34 = .ok (.iload 4, 2) := by decide +kernel
theorem qJ2_getChars_46870_36 : decode (mB mJ2_getChars_46870) 36 = .ok (.ireturn, 1) := by decide +kernel
theorem qJ2_getChars_ba4f3_0 : decode (mB mJ2_getChars_ba4f3) 0 = .ok (.iload_n 1, 1) := by decide +kernel
theorem qJ2_getChars_ba4f3_1 : decode (mB mJ2_getChars_ba4f3) 1 = .ok (.istore 5, 2) := by decide +kernel
theorem qJ2_getChars_ba4f3_3 : decode (mB mJ2_getChars_ba4f3) 3 = .ok (.iload_n 0, 1) := by decide +kernel
theorem qJ2_getChars_ba4f3_4 : decode (mB mJ2_getChars_ba4f3) 4 = .ok (.ifCond .ge 7, 3) := by decide +kernel
theorem qJ2_getChars_ba4f3_7 : decode (mB mJ2_getChars_ba4f3) 7 = .ok (.iconst 1, 1) := by decide +kernel
theorem qJ2_getChars_ba4f3_8 : decode (mB mJ2_getChars_ba4f3) 8 = .ok (.goto 4, 3) := by decide +kernel
theorem qJ2_getChars_ba4f3_11 : decode (mB mJ2_getChars_ba4f3) 11 = .ok (.iconst 0, 1) := by decide +kernel
theorem qJ2_getChars_ba4f3_12 : decode (mB mJ2_getChars_ba4f3) 12 = .ok (.istore 6, 2) := by decide +kernel
theorem qJ2_getChars_ba4f3_14 : decode (mB mJ2_getChars_ba4f3) 14 = .ok (.iload 6, 2) := by decide +kernel
theorem qJ2_getChars_ba4f3_16 : decode (mB mJ2_getChars_ba4f3) 16 = .ok (.ifCond .ne 6, 3) := by decide +kernel
theorem qJ2_getChars_ba4f3_19 : decode (mB mJ2_getChars_ba4f3) 19 = .ok (.iload_n 0, 1) := by decide +kernel
theorem qJ2_getChars_ba4f3_20 : decode (mB mJ2_getChars_ba4f3) 20 = .ok (.ineg, 1) := by decide +kernel
theorem qJ2_getChars_ba4f3_21 : decode (mB mJ2_getChars_ba4f3) 21 = .ok (.istore_n 0, 1) := by decide +kernel
theorem qJ2_getChars_ba4f3_22 : decode (mB mJ2_getChars_ba4f3) 22 = .ok (.iload_n 0, 1) := by decide +kernel
theorem qJ2_getChars_ba4f3_23 : decode (mB mJ2_getChars_ba4f3) 23 = .ok (.bipush (-100), 2) := by decide +kernel
theorem qJ2_getChars_ba4f3_25 : decode (mB mJ2_getChars_ba4f3) 25 = .ok (.if_icmp .gt 51, 3) := by decide +kernel
theorem qJ2_getChars_ba4f3_28 : decode (mB mJ2_getChars_ba4f3) 28 = .ok (.iload_n 0, 1) := by decide +kernel
theorem qJ2_getChars_ba4f3_29 : decode (mB mJ2_getChars_ba4f3) 29 = .ok (.bipush 100, 2) := by decide +kernel
theorem qJ2_getChars_ba4f3_31 : decode (mB mJ2_getChars_ba4f3) 31 = .ok (.idiv, 1) := by decide +kernel
theorem qJ2_getChars_ba4f3_32 : decode (mB mJ2_getChars_ba4f3) 32 = .ok (.istore_n 3, 1) := by decide +kernel
theorem qJ2_getChars_ba4f3_33 : decode (mB mJ2_getChars_ba4f3) 33 = .ok (.iload_n 3, 1) := by decide +kernel
theorem qJ2_getChars_ba4f3_34 : decode (mB mJ2_getChars_ba4f3) 34 = .ok (.bipush 100, 2) := by decide +kernel
theorem qJ2_getChars_ba4f3_36 : decode (mB mJ2_getChars_ba4f3) 36 = .ok (.imul, 1) := by decide +kernel
theorem qJ2_getChars_ba4f3_37 : decode (mB mJ2_getChars_ba4f3) 37 = .ok (.iload_n 0, 1) := by decide +kernel
theorem qJ2_getChars_ba4f3_38 : decode (mB mJ2_getChars_ba4f3) 38 = .ok (.isub, 1) := by decide +kernel
theorem qJ2_getChars_ba4f3_39 : decode (mB mJ2_getChars_ba4f3) 39 = .ok (.istore 4, 2) := by decide +kernel
theorem qJ2_getChars_ba4f3_41 : decode (mB mJ2_getChars_ba4f3) 41 = .ok (.iload_n 3, 1) := by decide +kernel
theorem qJ2_getChars_ba4f3_42 : decode (mB mJ2_getChars_ba4f3) 42 = .ok (.istore_n 0, 1) := by decide +kernel
theorem qJ2_getChars_ba4f3_43 : decode (mB mJ2_getChars_ba4f3) 43 = .ok (.aload_n 2, 1) := by decide +kernel
theorem qJ2_getChars_ba4f3_44 : decode (mB mJ2_getChars_ba4f3) 44 = .ok (.iinc 5 (-1), 3) := by decide +kernel
theorem qJ2_getChars_ba4f3_47 : decode (mB mJ2_getChars_ba4f3) 47 = .ok (.iload 5, 2) := by decide +kernel
theorem qJ2_getChars_ba4f3_49 : decode (mB mJ2_getChars_ba4f3) 49 = .ok (.getstatic 403, 3) := by decide +kernel
theorem qJ2_getChars_ba4f3_52 : decode (mB mJ2_getChars_ba4f3) 52 = .ok (.iload 4, 2) := by decide +kernel
theorem qJ2_getChars_ba4f3_54 : decode (mB mJ2_getChars_ba4f3) 54 = .ok (.baload, 1) := by decide +kernel
theorem qJ2_getChars_ba4f3_55 : decode (mB mJ2_getChars_ba4f3) 55 = .ok (.invokestatic 111, 3) := by decide +kernel
theorem qJ2_getChars_ba4f3_58 : decode (mB mJ2_getChars_ba4f3) 58 = .ok (.aload_n 2, 1) := by decide +kernel
theorem qJ2_getChars_ba4f3_59 : decode (mB mJ2_getChars_ba4f3) 59 = .ok (.iinc 5 (-1), 3) := by decide +kernel
theorem qJ2_getChars_ba4f3_62 : decode (mB mJ2_getChars_ba4f3) 62 = .ok (.iload 5, 2) := by decide +kernel
theorem qJ2_getChars_ba4f3_64 : decode (mB mJ2_getChars_ba4f3) 64 = .ok (.getstatic 407, 3) := by decide +kernel
theorem qJ2_getChars_ba4f3_67 : decode (mB mJ2_getChars_ba4f3) 67 = .ok (.iload 4, 2) := by decide +kernel
theorem qJ2_getChars_ba4f3_69 : decode (mB mJ2_getChars_ba4f3) 69 = .ok (.baload, 1) := by decide +kernel
theorem qJ2_getChars_ba4f3_70 : decode (mB mJ2_getChars_ba4f3) 70 = .ok (.invokestatic 111, 3) := by decide +kernel
theorem qJ2_getChars_ba4f3_73 : decode (mB mJ2_getChars_ba4f3) 73 = .ok (.goto (-51), 3) := by decide +kernel
theorem qJ2_getChars_ba4f3_76 : decode (mB mJ2_getChars_ba4f3) 76 = .ok (.aload_n 2, 1) := by decide +kernel
theorem qJ2_getChars_ba4f3_77 : decode (mB mJ2_getChars_ba4f3) 77 = .ok (.iinc 5 (-1), 3) := by decide +kernel
theorem qJ2_getChars_ba4f3_80 : decode (mB mJ2_getChars_ba4f3) 80 = .ok (.iload 5, 2) := by decide +kernel
theorem qJ2_getChars_ba4f3_82 : decode (mB mJ2_getChars_ba4f3) 82 = .ok (.getstatic 403, 3) := by decide +kernel
theorem qJ2_getChars_ba4f3_85 : decode (mB mJ2_getChars_ba4f3) 85 = .ok (.iload_n 0, 1) := by decide +kernel
theorem qJ2_getChars_ba4f3_86 : decode (mB mJ2_getChars_ba4f3) 86 = .ok (.ineg, 1) := by decide +kernel
theorem qJ2_getChars_ba4f3_87 : decode (mB mJ2_getChars_ba4f3) 87 = .ok (.baload, 1) := by decide +kernel
theorem qJ2_getChars_ba4f3_88 : decode (mB mJ2_getChars_ba4f3) 88 = .ok (.invokestatic 111, 3) := by decide +kernel
theorem qJ2_getChars_ba4f3_91 : decode (mB mJ2_getChars_ba4f3) 91 = .ok (.iload_n 0, 1) := by decide +kernel
theorem qJ2_getChars_ba4f3_92 : decode (mB mJ2_getChars_ba4f3) 92 = .ok (.bipush (-9), 2) := by decide +kernel
theorem qJ2_getChars_ba4f3_94 : decode (mB mJ2_getChars_ba4f3) 94 = .ok (.if_icmp .ge 18, 3) := by decide +kernel
theorem qJ2_getChars_ba4f3_97 : decode (mB mJ2_getChars_ba4f3) 97 = .ok (.aload_n 2, 1) := by decide +kernel
theorem qJ2_getChars_ba4f3_98 : decode (mB mJ2_getChars_ba4f3) 98 = .ok (.iinc 5 (-1), 3) := by decide +kernel
theorem qJ2_getChars_ba4f3_101 : decode (mB mJ2_getChars_ba4f3) 101 = .ok (.iload 5, 2) := by decide +kernel
theorem qJ2_getChars_ba4f3_103 : decode (mB mJ2_getChars_ba4f3) 103 = .ok (.getstatic 407, 3) := by decide +kernel
theorem qJ2_getChars_ba4f3_106 : decode (mB mJ2_getChars_ba4f3) 106 = .ok (.iload_n 0, 1) := by decide +kernel
theorem qJ2_getChars_ba4f3_107 : decode (mB mJ2_getChars_ba4f3) 107 = .ok (.ineg, 1) := by decide +kernel
theorem qJ2_getChars_ba4f3_108 : decode (mB mJ2_getChars_ba4f3) 108 = .ok (.baload, 1) := by decide +kernel
theorem qJ2_getChars_ba4f3_109 : decode (mB mJ2_getChars_ba4f3) 109 = .ok (.invokestatic 111, 3) := by decide +kernel
theorem qJ2_getChars_ba4f3_112 : decode (mB mJ2_getChars_ba4f3) 112 = .ok (.iload 6, 2) := by decide +kernel
theorem qJ2_getChars_ba4f3_114 : decode (mB mJ2_getChars_ba4f3) 114 = .ok (.ifCond .eq 14, 3) := by decide +kernel
theorem qJ2_getChars_ba4f3_117 : decode (mB mJ2_getChars_ba4f3) 117 = .ok (.aload_n 2, 1) := by decide +kernel
theorem qJ2_getChars_ba4f3_118 : decode (mB mJ2_getChars_ba4f3) 118 = .ok (.iinc 5 (-1), 3) := by decide +kernel
theorem qJ2_getChars_ba4f3_121 : decode (mB mJ2_getChars_ba4f3) 121 = .ok (.iload 5, 2) := by decide +kernel
theorem qJ2_getChars_ba4f3_123 : decode (mB mJ2_getChars_ba4f3) 123 = .ok (.bipush 45, 2) := by decide +kernel
theorem qJ2_getChars_ba4f3_125 : decode (mB mJ2_getChars_ba4f3) 125 = .ok (.invokestatic 111, 3) := by decide +kernel
theorem qJ2_getChars_ba4f3_128 : decode (mB mJ2_getChars_ba4f3) 128 = .ok (.iload 5, 2) := by decide +kernel
theorem qJ2_getChars_ba4f3_130 : decode (mB mJ2_getChars_ba4f3) 130 = .ok (.ireturn, 1) := by decide +kernel
theorem qJ2_inflate_0e8fd_0 : decode (mB mJ2_inflate_0e8fd) 0 = .ok (.iload_n 3, 1) := by decide +kernel
theorem qJ2_inflate_0e8fd_1 : decode (mB mJ2_inflate_0e8fd) 1 = .ok (.iload 4, 2) := by decide +kernel
theorem qJ2_inflate_0e8fd_3 : decode (mB mJ2_inflate_0e8fd) 3 = .ok (.aload_n 2, 1) := by decide +kernel
theorem qJ2_inflate_0e8fd_4 : decode (mB mJ2_inflate_0e8fd) 4 = .ok (.invokestatic 173, 3) := by decide +kernel
theorem qJ2_inflate_0e8fd_7 : decode (mB mJ2_inflate_0e8fd) 7 = .ok (.iconst 0, 1) := by decide +kernel
theorem qJ2_inflate_0e8fd_8 : decode (mB mJ2_inflate_0e8fd) 8 = .ok (.istore 5, 2) := by decide +kernel
theorem qJ2_inflate_0e8fd_10 : decode (mB mJ2_inflate_0e8fd) 10 = .ok (.iload 5, 2) := by decide +kernel
theorem qJ2_inflate_0e8fd_12 : decode (mB mJ2_inflate_0e8fd) 12 = .ok (.iload 4, 2) := by decide +kernel
theorem qJ2_inflate_0e8fd_14 : decode (mB mJ2_inflate_0e8fd) 14 = .ok (.if_icmp .ge 27, 3) := by decide +kernel
theorem qJ2_inflate_0e8fd_17 : decode (mB mJ2_inflate_0e8fd) 17 = .ok (.aload_n 2, 1) := by decide +kernel
theorem qJ2_inflate_0e8fd_18 : decode (mB mJ2_inflate_0e8fd) 18 = .ok (.iload_n 3, 1) := by decide +kernel
theorem qJ2_inflate_0e8fd_19 : decode (mB mJ2_inflate_0e8fd) 19 = .ok (.iinc 3 1, 3) := by decide +kernel
theorem qJ2_inflate_0e8fd_22 : decode (mB mJ2_inflate_0e8fd) 22 = .ok (.aload_n 0, 1) := by decide +kernel
theorem qJ2_inflate_0e8fd_23 : decode (mB mJ2_inflate_0e8fd) 23 = .ok (.iload_n 1, 1) := by decide +kernel
theorem qJ2_inflate_0e8fd_24 : decode (mB mJ2_inflate_0e8fd) 24 = .ok (.iinc 1 1, 3) := by decide +kernel
theorem qJ2_inflate_0e8fd_27 : decode (mB mJ2_inflate_0e8fd) 27 = .ok (.baload, 1) := by decide +kernel
theorem qJ2_inflate_0e8fd_28 : decode (mB mJ2_inflate_0e8fd) 28 = .ok (.sipush 255, 3) := by decide +kernel
theorem qJ2_inflate_0e8fd_31 : decode (mB mJ2_inflate_0e8fd) 31 = .ok (.iand, 1) := by decide +kernel
theorem qJ2_inflate_0e8fd_32 : decode (mB mJ2_inflate_0e8fd) 32 = .ok (.invokestatic 111, 3) := by decide +kernel
theorem qJ2_inflate_0e8fd_35 : decode (mB mJ2_inflate_0e8fd) 35 = .ok (.iinc 5 1, 3) := by decide +kernel
theorem qJ2_inflate_0e8fd_38 : decode (mB mJ2_inflate_0e8fd) 38 = .ok (.goto (-28), 3) := by decide +kernel
theorem qJ2_inflate_0e8fd_41 : decode (mB mJ2_inflate_0e8fd) 41 = .ok (.return_, 1) := by decide +kernel
theorem qJ2_length_9d52b_0 : decode (mB mJ2_length_9d52b) 0 = .ok (.aload_n 0, 1) := by decide +kernel
theorem qJ2_length_9d52b_1 : decode (mB mJ2_length_9d52b) 1 = .ok (.arraylength, 1) := by decide +kernel
theorem qJ2_length_9d52b_2 : decode (mB mJ2_length_9d52b) 2 = .ok (.iconst 1, 1) := by decide +kernel
theorem qJ2_length_9d52b_3 : decode (mB mJ2_length_9d52b) 3 = .ok (.ishr, 1) := by decide +kernel
theorem qJ2_length_9d52b_4 : decode (mB mJ2_length_9d52b) 4 = .ok (.ireturn, 1) := by decide +kernel
theorem qJ2_newBytesFor_77867_0 : decode (mB mJ2_newBytesFor_77867) 0 = .ok (.iload_n 0, 1) := by decide +kernel
theorem qJ2_newBytesFor_77867_1 : decode (mB mJ2_newBytesFor_77867) 1 = .ok (.invokestatic 11, 3) := by decide +kernel
theorem qJ2_newBytesFor_77867_4 : decode (mB mJ2_newBytesFor_77867) 4 = .ok (.newarray .byte, 2) := by decide +kernel
theorem qJ2_newBytesFor_77867_6 : decode (mB mJ2_newBytesFor_77867) 6 = .ok (.areturn, 1) := by decide +kernel
theorem qJ2_newBytesLength_0f7a4_0 : decode (mB mJ2_newBytesLength_0f7a4) 0 = .ok (.iload_n 0, 1) := by decide +kernel
theorem qJ2_newBytesLength_0f7a4_1 : decode (mB mJ2_newBytesLength_0f7a4) 1 = .ok (.ifCond .ge 11, 3) := by decide +kernel
theorem qJ2_newBytesLength_0f7a4_4 : decode (mB mJ2_newBytesLength_0f7a4) 4 = .ok (.new 17, 3) := by decide +kernel
theorem qJ2_newBytesLength_0f7a4_7 : decode (mB mJ2_newBytesLength_0f7a4) 7 = .ok (.dup, 1) := by decide +kernel
theorem qJ2_newBytesLength_0f7a4_8 : decode (mB mJ2_newBytesLength_0f7a4) 8 = .ok (.invokespecial 19, 3) := by decide +kernel
theorem qJ2_newBytesLength_0f7a4_11 : decode (mB mJ2_newBytesLength_0f7a4) 11 = .ok (.athrow, 1) := by decide +kernel
theorem qJ2_newBytesLength_0f7a4_12 : decode (mB mJ2_newBytesLength_0f7a4) 12 = .ok (.iload_n 0, 1) := by decide +kernel
theorem qJ2_newBytesLength_0f7a4_13 : decode (mB mJ2_newBytesLength_0f7a4) 13 = .ok (.ldc 20, 2) := by decide +kernel
theorem qJ2_newBytesLength_0f7a4_15 : decode (mB mJ2_newBytesLength_0f7a4) 15 = .ok (.if_icmp .lt 40, 3) := by decide +kernel
theorem qJ2_newBytesLength_0f7a4_18 : decode (mB mJ2_newBytesLength_0f7a4) 18 = .ok (.new 21, 3) := by decide +kernel
theorem qJ2_newBytesLength_0f7a4_21 : decode (mB mJ2_newBytesLength_0f7a4) 21 = .ok (.dup, 1) := by decide +kernel
theorem qJ2_newBytesLength_0f7a4_22 : decode (mB mJ2_newBytesLength_0f7a4) 22 = .ok (.new 23, 3) := by decide +kernel
theorem qJ2_newBytesLength_0f7a4_25 : decode (mB mJ2_newBytesLength_0f7a4) 25 = .ok (.dup, 1) := by decide +kernel
theorem qJ2_newBytesLength_0f7a4_26 : decode (mB mJ2_newBytesLength_0f7a4) 26 = .ok (.invokespecial 25, 3) := by decide +kernel
theorem qJ2_newBytesLength_0f7a4_29 : decode (mB mJ2_newBytesLength_0f7a4) 29 = .ok (.ldc 26, 2) := by decide +kernel
theorem qJ2_newBytesLength_0f7a4_31 : decode (mB mJ2_newBytesLength_0f7a4) 31 = .ok (.invokevirtual 28, 3) := by decide +kernel
theorem qJ2_newBytesLength_0f7a4_34 : decode (mB mJ2_newBytesLength_0f7a4) 34 = .ok (.iload_n 0, 1) := by decide +kernel
theorem qJ2_newBytesLength_0f7a4_35 : decode (mB mJ2_newBytesLength_0f7a4) 35 = .ok (.invokevirtual 32, 3) := by decide +kernel
theorem qJ2_newBytesLength_0f7a4_38 : decode (mB mJ2_newBytesLength_0f7a4) 38 = .ok (.ldc 35, 2) := by decide +kernel
theorem qJ2_newBytesLength_0f7a4_40 : decode (mB mJ2_newBytesLength_0f7a4) 40 = .ok (.invokevirtual 28, 3) := by decide +kernel
theorem qJ2_newBytesLength_0f7a4_43 : decode (mB mJ2_newBytesLength_0f7a4) 43 = .ok (.ldc 20, 2) := by decide +kernel
theorem qJ2_newBytesLength_0f7a4_45 : decode (mB mJ2_newBytesLength_0f7a4) 45 = .ok (.invokevirtual 32, 3) := by decide +kernel
theorem qJ2_newBytesLength_0f7a4_48 : decode (mB mJ2_newBytesLength_0f7a4) 48 = .ok (.invokevirtual 37, 3) := by decide +kernel
theorem qJ2_newBytesLength_0f7a4_51 : decode (mB mJ2_newBytesLength_0f7a4) 51 = .ok (.invokespecial 41, 3) := by decide +kernel
theorem qJ2_newBytesLength_0f7a4_54 : decode (mB mJ2_newBytesLength_0f7a4) 54 = .ok (.athrow, 1) := by decide +kernel
theorem qJ2_newBytesLength_0f7a4_55 : decode (mB mJ2_newBytesLength_0f7a4) 55 = .ok (.iload_n 0, 1) := by decide +kernel
theorem qJ2_newBytesLength_0f7a4_56 : decode (mB mJ2_newBytesLength_0f7a4) 56 = .ok (.iconst 1, 1) := by decide +kernel
theorem qJ2_newBytesLength_0f7a4_57 : decode (mB mJ2_newBytesLength_0f7a4) 57 = .ok (.ishl, 1) := by decide +kernel
theorem qJ2_newBytesLength_0f7a4_58 : decode (mB mJ2_newBytesLength_0f7a4) 58 = .ok (.ireturn, 1) := by decide +kernel
theorem qJ2_putCharSB_b72d1_0 : decode (mB mJ2_putCharSB_b72d1) 0 = .ok (.iload_n 1, 1) := by decide +kernel
theorem qJ2_putCharSB_b72d1_1 : decode (mB mJ2_putCharSB_b72d1) 1 = .ok (.aload_n 0, 1) := by decide +kernel
theorem qJ2_putCharSB_b72d1_2 : decode (mB mJ2_putCharSB_b72d1) 2 = .ok (.invokestatic 67, 3) := by decide +kernel
theorem qJ2_putCharSB_b72d1_5 : decode (mB mJ2_putCharSB_b72d1) 5 = .ok (.aload_n 0, 1) := by decide +kernel
theorem qJ2_putCharSB_b72d1_6 : decode (mB mJ2_putCharSB_b72d1) 6 = .ok (.iload_n 1, 1) := by decide +kernel
theorem qJ2_putCharSB_b72d1_7 : decode (mB mJ2_putCharSB_b72d1) 7 = .ok (.iload_n 2, 1) := by decide +kernel
theorem qJ2_putCharSB_b72d1_8 : decode (mB mJ2_putCharSB_b72d1) 8 = .ok (.invokestatic 111, 3) := by decide +kernel
theorem qJ2_putCharSB_b72d1_11 : decode (mB mJ2_putCharSB_b72d1) 11 = .ok (.return_, 1) := by decide +kernel
theorem qJ2_putChar_b72d1_0 : decode (mB mJ2_putChar_b72d1) 0 = .ok (.getstatic 44, 3) := by decide +kernel
theorem qJ2_putChar_b72d1_3 : decode (mB mJ2_putChar_b72d1) 3 = .ok (.ifCond .ne 25, 3) := by decide +kernel
theorem qJ2_putChar_b72d1_6 : decode (mB mJ2_putChar_b72d1) 6 = .ok (.iload_n 1, 1) := by decide +kernel
theorem qJ2_putChar_b72d1_7 : decode (mB mJ2_putChar_b72d1) 7 = .ok (.ifCond .lt 11, 3) := by decide +kernel
theorem qJ2_putChar_b72d1_10 : decode (mB mJ2_putChar_b72d1) 10 = .ok (.iload_n 1, 1) := by decide +kernel
theorem qJ2_putChar_b72d1_11 : decode (mB mJ2_putChar_b72d1) 11 = .ok (.aload_n 0, 1) := by decide +kernel
theorem qJ2_putChar_b72d1_12 : decode (mB mJ2_putChar_b72d1) 12 = .ok (.invokestatic 48, 3) := by decide +kernel
theorem qJ2_putChar_b72d1_15 : decode (mB mJ2_putChar_b72d1) 15 = .ok (.if_icmp .lt 13, 3) := by decide +kernel
theorem qJ2_putChar_b72d1_18 : decode (mB mJ2_putChar_b72d1) 18 = .ok (.new 52, 3) := by decide +kernel
theorem qJ2_putChar_b72d1_21 : decode (mB mJ2_putChar_b72d1) 21 = .ok (.dup, 1) := by decide +kernel
theorem qJ2_putChar_b72d1_22 : decode (mB mJ2_putChar_b72d1) 22 = .ok (.ldc 54, 2) := by decide +kernel
theorem qJ2_putChar_b72d1_24 : decode (mB mJ2_putChar_b72d1) 24 = .ok (.invokespecial 56, 3) := by decide +kernel
theorem qJ2_putChar_b72d1_27 : decode (mB mJ2_putChar_b72d1) 27 = .ok (.athrow, 1) := by decide +kernel
theorem qJ2_putChar_b72d1_28 : decode (mB mJ2_putChar_b72d1) 28 = .ok (.iload_n 1, 1) := by decide +kernel
theorem qJ2_putChar_b72d1_29 : decode (mB mJ2_putChar_b72d1) 29 = .ok (.iconst 1, 1) := by decide +kernel
theorem qJ2_putChar_b72d1_30 : decode (mB mJ2_putChar_b72d1) 30 = .ok (.ishl, 1) := by decide +kernel
theorem qJ2_putChar_b72d1_31 : decode (mB mJ2_putChar_b72d1) 31 = .ok (.istore_n 1, 1) := by decide +kernel
theorem qJ2_putChar_b72d1_32 : decode (mB mJ2_putChar_b72d1) 32 = .ok (.aload_n 0, 1) := by decide +kernel
theorem qJ2_putChar_b72d1_33 : decode (mB mJ2_putChar_b72d1) 33 = .ok (.iload_n 1, 1) := by decide +kernel
theorem qJ2_putChar_b72d1_34 : decode (mB mJ2_putChar_b72d1) 34 = .ok (.iinc 1 1, 3) := by decide +kernel
theorem qJ2_putChar_b72d1_37 : decode (mB mJ2_putChar_b72d1) 37 = .ok (.iload_n 2, 1) := by decide +kernel
theorem qJ2_putChar_b72d1_38 : decode (mB mJ2_putChar_b72d1) 38 = .ok (.getstatic 59, 3) := by decide +kernel
theorem qJ2_putChar_b72d1_41 : decode (mB mJ2_putChar_b72d1) 41 = .ok (.ishr, 1) := by decide +kernel
theorem qJ2_putChar_b72d1_42 : decode (mB mJ2_putChar_b72d1) 42 = .ok (.i2b, 1) := by decide +kernel
theorem qJ2_putChar_b72d1_43 : decode (mB mJ2_putChar_b72d1) 43 = .ok (.bastore, 1) := by decide +kernel
theorem qJ2_putChar_b72d1_44 : decode (mB mJ2_putChar_b72d1) 44 = .ok (.aload_n 0, 1) := by decide +kernel
theorem qJ2_putChar_b72d1_45 : decode (mB mJ2_putChar_b72d1) 45 = .ok (.iload_n 1, 1) := by decide +kernel
theorem qJ2_putChar_b72d1_46 : decode (mB mJ2_putChar_b72d1) 46 = .ok (.iload_n 2, 1) := by decide +kernel
theorem qJ2_putChar_b72d1_47 : decode (mB mJ2_putChar_b72d1) 47 = .ok (.getstatic 63, 3) := by decide +kernel
theorem qJ2_putChar_b72d1_50 : decode (mB mJ2_putChar_b72d1) 50 = .ok (.ishr, 1) := by decide +kernel
theorem qJ2_putChar_b72d1_51 : decode (mB mJ2_putChar_b72d1) 51 = .ok (.i2b, 1) := by decide +kernel
theorem qJ2_putChar_b72d1_52 : decode (mB mJ2_putChar_b72d1) 52 = .ok (.bastore, 1) := by decide +kernel
theorem qJ2_putChar_b72d1_53 : decode (mB mJ2_putChar_b72d1) 53 = .ok (.return_, 1) := by decide +kernel
theorem qJ2_putCharsAt_cd4e5_0 : decode (mB mJ2_putCharsAt_cd4e5) 0 = .ok (.iload_n 1, 1) := by decide +kernel
theorem qJ2_putCharsAt_cd4e5_1 : decode (mB mJ2_putCharsAt_cd4e5) 1 = .ok (.iconst 4, 1) := by decide +kernel
theorem qJ2_putCharsAt_cd4e5_2 : decode (mB mJ2_putCharsAt_cd4e5) 2 = .ok (.iadd, 1) := by decide +kernel
theorem qJ2_putCharsAt_cd4e5_3 : decode (mB mJ2_putCharsAt_cd4e5) 3 = .ok (.istore 6, 2) := by decide +kernel
theorem qJ2_putCharsAt_cd4e5_5 : decode (mB mJ2_putCharsAt_cd4e5) 5 = .ok (.iload_n 1, 1) := by decide +kernel
theorem qJ2_putCharsAt_cd4e5_6 : decode (mB mJ2_putCharsAt_cd4e5) 6 = .ok (.iload 6, 2) := by decide +kernel
theorem qJ2_putCharsAt_cd4e5_8 : decode (mB mJ2_putCharsAt_cd4e5) 8 = .ok (.aload_n 0, 1) := by decide +kernel
theorem qJ2_putCharsAt_cd4e5_9 : decode (mB mJ2_putCharsAt_cd4e5) 9 = .ok (.invokestatic 96, 3) := by decide +kernel
theorem qJ2_putCharsAt_cd4e5_12 : decode (mB mJ2_putCharsAt_cd4e5) 12 = .ok (.aload_n 0, 1) := by decide +kernel
theorem qJ2_putCharsAt_cd4e5_13 : decode (mB mJ2_putCharsAt_cd4e5) 13 = .ok (.iload_n 1, 1) := by decide +kernel
theorem qJ2_putCharsAt_cd4e5_14 : decode (mB mJ2_putCharsAt_cd4e5) 14 = .ok (.iinc 1 1, 3) := by decide +kernel
theorem qJ2_putCharsAt_cd4e5_17 : decode (mB mJ2_putCharsAt_cd4e5) 17 = .ok (.iload_n 2, 1) := by decide +kernel
theorem qJ2_putCharsAt_cd4e5_18 : decode (mB mJ2_putCharsAt_cd4e5) 18 = .ok (.invokestatic 111, 3) := by decide +kernel
theorem qJ2_putCharsAt_cd4e5_21 : decode (mB mJ2_putCharsAt_cd4e5) 21 = .ok (.aload_n 0, 1) := by decide +kernel
theorem qJ2_putCharsAt_cd4e5_22 : decode (mB mJ2_putCharsAt_cd4e5) 22 = .ok (.iload_n 1, 1) := by decide +kernel
theorem qJ2_putCharsAt_cd4e5_23 : decode (mB mJ2_putCharsAt_cd4e5) 23 = .ok (.iinc 1 1, 3) := by decide +kernel
theorem qJ2_putCharsAt_cd4e5_26 : decode (mB mJ2_putCharsAt_cd4e5) 26 = .ok (.iload_n 3, 1) := by decide +kernel
theorem qJ2_putCharsAt_cd4e5_27 : decode (mB mJ2_putCharsAt_cd4e5) 27 = .ok (.invokestatic 111, 3) := by decide +kernel
theorem qJ2_putCharsAt_cd4e5_30 : decode (mB mJ2_putCharsAt_cd4e5) 30 = .ok (.aload_n 0, 1) := by decide +kernel
theorem qJ2_putCharsAt_cd4e5_31 : decode (mB mJ2_putCharsAt_cd4e5) 31 = .ok (.iload_n 1, 1) := by decide +kernel
theorem qJ2_putCharsAt_cd4e5_32 : decode (mB mJ2_putCharsAt_cd4e5) 32 = .ok (.iinc 1 1, 3) := by decide +kernel
theorem qJ2_putCharsAt_cd4e5_35 : decode (mB mJ2_putCharsAt_cd4e5) 35 = .ok (.iload 4, 2) := by decide +kernel
theorem qJ2_putCharsAt_cd4e5_37 : decode (mB mJ2_putCharsAt_cd4e5) 37 = .ok (.invokestatic 111, 3) := by decide +kernel
theorem qJ2_putCharsAt_cd4e5_40 : decode (mB mJ2_putCharsAt_cd4e5) 40 = .ok (.aload_n 0, 1) := by decide +kernel
theorem qJ2_putCharsAt_cd4e5_41 : decode (mB mJ2_putCharsAt_cd4e5) 41 = .ok (.iload_n 1, 1) := by decide +kernel
theorem qJ2_putCharsAt_cd4e5_42 : decode (mB mJ2_putCharsAt_cd4e5) 42 = .ok (.iinc 1 1, 3) := by decide +kernel
theorem qJ2_putCharsAt_cd4e5_45 : decode (mB mJ2_putCharsAt_cd4e5) 45 = .ok (.iload 5, 2) := by decide +kernel
theorem qJ2_putCharsAt_cd4e5_47 : decode (mB mJ2_putCharsAt_cd4e5) 47 = .ok (.invokestatic 111, 3) := by decide +kernel
theorem qJ2_putCharsAt_cd4e5_50 : decode (mB mJ2_putCharsAt_cd4e5) 50 = .ok (.getstatic 44, 3) := by decide +kernel
theorem qJ2_putCharsAt_cd4e5_53 : decode (mB mJ2_putCharsAt_cd4e5) 53 = .ok (.ifCond .ne 17, 3) := by decide +kernel
theorem qJ2_putCharsAt_cd4e5_56 : decode (mB mJ2_putCharsAt_cd4e5) 56 = .ok (.iload_n 1, 1) := by decide +kernel
theorem qJ2_putCharsAt_cd4e5_57 : decode (mB mJ2_putCharsAt_cd4e5) 57 = .ok (.iload 6, 2) := by decide +kernel
theorem qJ2_putCharsAt_cd4e5_59 : decode (mB mJ2_putCharsAt_cd4e5) 59 = .ok (.if_icmp .eq 11, 3) := by decide +kernel
theorem qJ2_putCharsAt_cd4e5_62 : decode (mB mJ2_putCharsAt_cd4e5) 62 = .ok (.new 52, 3) := by decide +kernel
theorem qJ2_putCharsAt_cd4e5_65 : decode (mB mJ2_putCharsAt_cd4e5) 65 = .ok (.dup, 1) := by decide +kernel
theorem qJ2_putCharsAt_cd4e5_66 : decode (mB mJ2_putCharsAt_cd4e5) 66 = .ok (.invokespecial 66, 3) := by decide +kernel
theorem qJ2_putCharsAt_cd4e5_69 : decode (mB mJ2_putCharsAt_cd4e5) 69 = .ok (.athrow, 1) := by decide +kernel
theorem qJ2_putCharsAt_cd4e5_70 : decode (mB mJ2_putCharsAt_cd4e5) 70 = .ok (.iload 6, 2) := by decide +kernel
theorem qJ2_putCharsAt_cd4e5_72 : decode (mB mJ2_putCharsAt_cd4e5) 72 = .ok (.ireturn, 1) := by decide +kernel
theorem qJ3_checkFromIndexSize_8c36e_0 : decode (mB mJ3_checkFromIndexSize_8c36e) 0 = .ok (.iload_n 2, 1) := by decide +kernel
theorem qJ3_checkFromIndexSize_8c36e_1 : decode (mB mJ3_checkFromIndexSize_8c36e) 1 = .ok (.iload_n 0, 1) := by decide +kernel
theorem qJ3_checkFromIndexSize_8c36e_2 : decode (mB mJ3_checkFromIndexSize_8c36e) 2 = .ok (.ior, 1) := by decide +kernel
theorem qJ3_checkFromIndexSize_8c36e_3 : decode (mB mJ3_checkFromIndexSize_8c36e) 3 = .ok (.iload_n 1, 1) := by decide +kernel
theorem qJ3_checkFromIndexSize_8c36e_4 : decode (mB mJ3_checkFromIndexSize_8c36e) 4 = .ok (.ior, 1) := by decide +kernel
theorem qJ3_checkFromIndexSize_8c36e_5 : decode (mB mJ3_checkFromIndexSize_8c36e) 5 = .ok (.ifCond .lt 10, 3) := by decide +kernel
theorem qJ3_checkFromIndexSize_8c36e_8 : decode (mB mJ3_checkFromIndexSize_8c36e) 8 = .ok (.iload_n 1, 1) := by decide +kernel
theorem qJ3_checkFromIndexSize_8c36e_9 : decode (mB mJ3_checkFromIndexSize_8c36e) 9 = .ok (.iload_n 2, 1) := by decide +kernel
theorem qJ3_checkFromIndexSize_8c36e_10 : decode (mB mJ3_checkFromIndexSize_8c36e) 10 = .ok (.iload_n 0, 1) := by decide +kernel
theorem qJ3_checkFromIndexSize_8c36e_11 : decode (mB mJ3_checkFromIndexSize_8c36e) 11 = .ok (.isub, 1) := by decide +kernel
theorem qJ3_checkFromIndexSize_8c36e_12 : decode (mB mJ3_checkFromIndexSize_8c36e) 12 = .ok (.if_icmp .le 11, 3) := by decide +kernel
theorem qJ3_checkFromIndexSize_8c36e_15 : decode (mB mJ3_checkFromIndexSize_8c36e) 15 = .ok (.aload_n 3, 1) := by decide +kernel
theorem qJ3_checkFromIndexSize_8c36e_16 : decode (mB mJ3_checkFromIndexSize_8c36e) 16 = .ok (.iload_n 0, 1) := by decide +kernel
theorem qJ3_checkFromIndexSize_8c36e_17 : decode (mB mJ3_checkFromIndexSize_8c36e) 17 = .ok (.iload_n 1, 1) := by decide +kernel
theorem qJ3_checkFromIndexSize_8c36e_18 : decode (mB mJ3_checkFromIndexSize_8c36e) 18 = .ok (.iload_n 2, 1) := by decide +kernel
theorem qJ3_checkFromIndexSize_8c36e_19 : decode (mB mJ3_checkFromIndexSize_8c36e) 19 = .ok (.invokestatic 103, 3) := by decide +kernel
theorem qJ3_checkFromIndexSize_8c36e_22 : decode (mB mJ3_checkFromIndexSize_8c36e) 22 = .ok (.athrow, 1) := by decide +kernel
theorem qJ3_checkFromIndexSize_8c36e_23 : decode (mB mJ3_checkFromIndexSize_8c36e) 23 = .ok (.iload_n 0, 1) := by decide +kernel
theorem qJ3_checkFromIndexSize_8c36e_24 : decode (mB mJ3_checkFromIndexSize_8c36e) 24 = .ok (.ireturn, 1) := by decide +kernel
theorem qJ3_checkFromToIndex_8c36e_0 : decode (mB mJ3_checkFromToIndex_8c36e) 0 = .ok (.iload_n 0, 1) := by decide +kernel
theorem qJ3_checkFromToIndex_8c36e_1 : decode (mB mJ3_checkFromToIndex_8c36e) 1 = .ok (.ifCond .lt 13, 3) := by decide +kernel
theorem qJ3_checkFromToIndex_8c36e_4 : decode (mB mJ3_checkFromToIndex_8c36e) 4 = .ok (.iload_n 0, 1) := by decide +kernel
theorem qJ3_checkFromToIndex_8c36e_5 : decode (mB mJ3_checkFromToIndex_8c36e) 5 = .ok (.iload_n 1, 1) := by decide +kernel
theorem qJ3_checkFromToIndex_8c36e_6 : decode (mB mJ3_checkFromToIndex_8c36e) 6 = .ok (.if_icmp .gt 8, 3) := by decide +kernel
theorem qJ3_checkFromToIndex_8c36e_9 : decode (mB mJ3_checkFromToIndex_8c36e) 9 = .ok (.iload_n 1, 1) := by decide +kernel
theorem qJ3_checkFromToIndex_8c36e_10 : decode (mB mJ3_checkFromToIndex_8c36e) 10 = .ok (.iload_n 2, 1) := by decide +kernel
theorem qJ3_checkFromToIndex_8c36e_11 : decode (mB mJ3_checkFromToIndex_8c36e) 11 = .ok (.if_icmp .le 11, 3) := by decide +kernel
theorem qJ3_checkFromToIndex_8c36e_14 : decode (mB mJ3_checkFromToIndex_8c36e) 14 = .ok (.aload_n 3, 1) := by decide +kernel
theorem qJ3_checkFromToIndex_8c36e_15 : decode (mB mJ3_checkFromToIndex_8c36e) 15 = .ok (.iload_n 0, 1) := by decide +kernel
theorem qJ3_checkFromToIndex_8c36e_16 : decode (mB mJ3_checkFromToIndex_8c36e) 16 = .ok (.iload_n 1, 1) := by decide +kernel
theorem qJ3_checkFromToIndex_8c36e_17 : decode (mB mJ3_checkFromToIndex_8c36e) 17 = .ok (.iload_n 2, 1) := by decide +kernel
theorem qJ3_checkFromToIndex_8c36e_18 : decode (mB mJ3_checkFromToIndex_8c36e) 18 = .ok (.invokestatic 99, 3) := by decide +kernel
theorem qJ3_checkFromToIndex_8c36e_21 : decode (mB mJ3_checkFromToIndex_8c36e) 21 = .ok (.athrow, 1) := by decide +kernel
theorem qJ3_checkFromToIndex_8c36e_22 : decode (mB mJ3_checkFromToIndex_8c36e) 22 = .ok (.iload_n 0, 1) := by decide +kernel
theorem qJ3_checkFromToIndex_8c36e_23 : decode (mB mJ3_checkFromToIndex_8c36e) 23 = .ok (.ireturn, 1) := by decide +kernel
theorem qJ3_checkIndex_8e157_0 : decode (mB mJ3_checkIndex_8e157) 0 = .ok (.iload_n 0, 1) := by decide +kernel
theorem qJ3_checkIndex_8e157_1 : decode (mB mJ3_checkIndex_8e157) 1 = .ok (.ifCond .lt 8, 3) := by decide +kernel
theorem qJ3_checkIndex_8e157_4 : decode (mB mJ3_checkIndex_8e157) 4 = .ok (.iload_n 0, 1) := by decide +kernel
theorem qJ3_checkIndex_8e157_5 : decode (mB mJ3_checkIndex_8e157) 5 = .ok (.iload_n 1, 1) := by decide +kernel
theorem qJ3_checkIndex_8e157_6 : decode (mB mJ3_checkIndex_8e157) 6 = .ok (.if_icmp .lt 10, 3) := by decide +kernel
theorem qJ3_checkIndex_8e157_9 : decode (mB mJ3_checkIndex_8e157) 9 = .ok (.aload_n 2, 1) := by decide +kernel
theorem qJ3_checkIndex_8e157_10 : decode (mB mJ3_checkIndex_8e157) 10 = .ok (.iload_n 0, 1) := by decide +kernel
theorem qJ3_checkIndex_8e157_11 : decode (mB mJ3_checkIndex_8e157) 11 = .ok (.iload_n 1, 1) := by decide +kernel
theorem qJ3_checkIndex_8e157_12 : decode (mB mJ3_checkIndex_8e157) 12 = .ok (.invokestatic 95, 3) := by decide +kernel
theorem qJ3_checkIndex_8e157_15 : decode (mB mJ3_checkIndex_8e157) 15 = .ok (.athrow, 1) := by decide +kernel
theorem qJ3_checkIndex_8e157_16 : decode (mB mJ3_checkIndex_8e157) 16 = .ok (.iload_n 0, 1) := by decide +kernel
theorem qJ3_checkIndex_8e157_17 : decode (mB mJ3_checkIndex_8e157) 17 = .ok (.ireturn, 1) := by decide +kernel
theorem qJ4_append_15ec4_0 : decode (mB mJ4_append_15ec4) 0 = .ok (.aload_n 0, 1) := by decide +kernel
theorem qJ4_append_15ec4_1 : decode (mB mJ4_append_15ec4) 1 = .ok (.aload_n 1, 1) := by decide +kernel
theorem qJ4_append_15ec4_2 : decode (mB mJ4_append_15ec4) 2 = .ok (.invokespecial 29, 3) := by decide +kernel
theorem qJ4_append_15ec4_5 : decode (mB mJ4_append_15ec4) 5 = .ok (.pop, 1) := by decide +kernel
theorem qJ4_append_15ec4_6 : decode (mB mJ4_append_15ec4) 6 = .ok (.aload_n 0, 1) := by decide +kernel
theorem qJ4_append_15ec4_7 : decode (mB mJ4_append_15ec4) 7 = .ok (.areturn, 1) := by decide +kernel
theorem qJ4_append_bf812_0 : decode (mB mJ4_append_bf812) 0 = .ok (.aload_n 0, 1) := by decide +kernel
theorem qJ4_append_bf812_1 : decode (mB mJ4_append_bf812) 1 = .ok (.iload_n 1, 1) := by decide +kernel
theorem qJ4_append_bf812_2 : decode (mB mJ4_append_bf812) 2 = .ok (.invokespecial 53, 3) := by decide +kernel
theorem qJ4_append_bf812_5 : decode (mB mJ4_append_bf812) 5 = .ok (.pop, 1) := by decide +kernel
theorem qJ4_append_bf812_6 : decode (mB mJ4_append_bf812) 6 = .ok (.aload_n 0, 1) := by decide +kernel
theorem qJ4_append_bf812_7 : decode (mB mJ4_append_bf812) 7 = .ok (.areturn, 1) := by decide +kernel
theorem qJ4_append_cf468_0 : decode (mB mJ4_append_cf468) 0 = .ok (.aload_n 0, 1) := by decide +kernel
theorem qJ4_append_cf468_1 : decode (mB mJ4_append_cf468) 1 = .ok (.iload_n 1, 1) := by decide +kernel
theorem qJ4_append_cf468_2 : decode (mB mJ4_append_cf468) 2 = .ok (.invokespecial 50, 3) := by decide +kernel
theorem qJ4_append_cf468_5 : decode (mB mJ4_append_cf468) 5 = .ok (.pop, 1) := by decide +kernel
theorem qJ4_append_cf468_6 : decode (mB mJ4_append_cf468) 6 = .ok (.aload_n 0, 1) := by decide +kernel
theorem qJ4_append_cf468_7 : decode (mB mJ4_append_cf468) 7 = .ok (.areturn, 1) := by decide +kernel
theorem qJ4_charAt_5068e_0 : decode (mB mJ4_charAt_5068e) 0 = .ok (.aload_n 0, 1) := by decide +kernel
theorem qJ4_charAt_5068e_1 : decode (mB mJ4_charAt_5068e) 1 = .ok (.iload_n 1, 1) := by decide +kernel
theorem qJ4_charAt_5068e_2 : decode (mB mJ4_charAt_5068e) 2 = .ok (.invokespecial 329, 3) := by decide +kernel
theorem qJ4_charAt_5068e_5 : decode (mB mJ4_charAt_5068e) 5 = .ok (.ireturn, 1) := by decide +kernel
theorem qJ4_init_da8c8_0 : decode (mB mJ4_init_da8c8) 0 = .ok (.aload_n 0, 1) := by decide +kernel
theorem qJ4_init_da8c8_1 : decode (mB mJ4_init_da8c8) 1 = .ok (.bipush 16, 2) := by decide +kernel
theorem qJ4_init_da8c8_3 : decode (mB mJ4_init_da8c8) 3 = .ok (.invokespecial 1, 3) := by decide +kernel
theorem qJ4_init_da8c8_6 : decode (mB mJ4_init_da8c8) 6 = .ok (.return_, 1) := by decide +kernel
theorem qJ4_length_8abf5_0 : decode (mB mJ4_length_8abf5) 0 = .ok (.aload_n 0, 1) := by decide +kernel
theorem qJ4_length_8abf5_1 : decode (mB mJ4_length_8abf5) 1 = .ok (.invokespecial 343, 3) := by decide +kernel
theorem qJ4_length_8abf5_4 : decode (mB mJ4_length_8abf5) 4 = .ok (.ireturn, 1) := by decide +kernel
theorem qJ4_setLength_d00df_0 : decode (mB mJ4_setLength_d00df) 0 = .ok (.aload_n 0, 1) := by decide +kernel
theorem qJ4_setLength_d00df_1 : decode (mB mJ4_setLength_d00df) 1 = .ok (.iload_n 1, 1) := by decide +kernel
theorem qJ4_setLength_d00df_2 : decode (mB mJ4_setLength_d00df) 2 = .ok (.invokespecial 333, 3) := by decide +kernel
theorem qJ4_setLength_d00df_5 : decode (mB mJ4_setLength_d00df) 5 = .ok (.return_, 1) := by decide +kernel
theorem qJ4_toString_0e30d_0 : decode (mB mJ4_toString_0e30d) 0 = .ok (.new 18, 3) := by decide +kernel
theorem qJ4_toString_0e30d_3 : decode (mB mJ4_toString_0e30d) 3 = .ok (.dup, 1) := by decide +kernel
theorem qJ4_toString_0e30d_4 : decode (mB mJ4_toString_0e30d) 4 = .ok (.aload_n 0, 1) := by decide +kernel
theorem qJ4_toString_0e30d_5 : decode (mB mJ4_toString_0e30d) 5 = .ok (.invokespecial 137, 3) := by decide +kernel
theorem qJ4_toString_0e30d_8 : decode (mB mJ4_toString_0e30d) 8 = .ok (.areturn, 1) := by decide +kernel
theorem qJ5_appendNull_278bc_0 : decode (mB mJ5_appendNull_278bc) 0 = .ok (.aload_n 0, 1) := by decide +kernel
theorem qJ5_appendNull_278bc_1 : decode (mB mJ5_appendNull_278bc) 1 = .ok (.aload_n 0, 1) := by decide +kernel
theorem qJ5_appendNull_278bc_2 : decode (mB mJ5_appendNull_278bc) 2 = .ok (.getfield 79, 3) := by decide +kernel
theorem qJ5_appendNull_278bc_5 : decode (mB mJ5_appendNull_278bc) 5 = .ok (.iconst 4, 1) := by decide +kernel
theorem qJ5_appendNull_278bc_6 : decode (mB mJ5_appendNull_278bc) 6 = .ok (.iadd, 1) := by decide +kernel
theorem qJ5_appendNull_278bc_7 : decode (mB mJ5_appendNull_278bc) 7 = .ok (.invokevirtual 100, 3) := by decide +kernel
theorem qJ5_appendNull_278bc_10 : decode (mB mJ5_appendNull_278bc) 10 = .ok (.aload_n 0, 1) := by decide +kernel
theorem qJ5_appendNull_278bc_11 : decode (mB mJ5_appendNull_278bc) 11 = .ok (.getfield 79, 3) := by decide +kernel
theorem qJ5_appendNull_278bc_14 : decode (mB mJ5_appendNull_278bc) 14 = .ok (.istore_n 1, 1) := by decide +kernel
theorem qJ5_appendNull_278bc_15 : decode (mB mJ5_appendNull_278bc) 15 = .ok (.aload_n 0, 1) := by decide +kernel
theorem qJ5_appendNull_278bc_16 : decode (mB mJ5_appendNull_278bc) 16 = .ok (.getfield 15, 3) := by decide +kernel
theorem qJ5_appendNull_278bc_19 : decode (mB mJ5_appendNull_278bc) 19 = .ok (.astore_n 2, 1) := by decide +kernel
theorem qJ5_appendNull_278bc_20 : decode (mB mJ5_appendNull_278bc) 20 = .ok (.aload_n 0, 1) := by decide +kernel
theorem qJ5_appendNull_278bc_21 : decode (mB mJ5_appendNull_278bc) 21 = .ok (.invokevirtual 83, 3) := by decide +kernel
theorem qJ5_appendNull_278bc_24 : decode (mB mJ5_appendNull_278bc) 24 = .ok (.ifCond .eq 38, 3) := by decide +kernel
theorem qJ5_appendNull_278bc_27 : decode (mB mJ5_appendNull_278bc) 27 = .ok (.aload_n 2, 1) := by decide +kernel
theorem qJ5_appendNull_278bc_28 : decode (mB mJ5_appendNull_278bc) 28 = .ok (.iload_n 1, 1) := by decide +kernel
theorem qJ5_appendNull_278bc_29 : decode (mB mJ5_appendNull_278bc) 29 = .ok (.iinc 1 1, 3) := by decide +kernel
theorem qJ5_appendNull_278bc_32 : decode (mB mJ5_appendNull_278bc) 32 = .ok (.bipush 110, 2) := by decide +kernel
theorem qJ5_appendNull_278bc_34 : decode (mB mJ5_appendNull_278bc) 34 = .ok (.bastore, 1) := by decide +kernel
theorem qJ5_appendNull_278bc_35 : decode (mB mJ5_appendNull_278bc) 35 = .ok (.aload_n 2, 1) := by decide +kernel
theorem qJ5_appendNull_278bc_36 : decode (mB mJ5_appendNull_278bc) 36 = .ok (.iload_n 1, 1) := by decide +kernel
theorem qJ5_appendNull_278bc_37 : decode (mB mJ5_appendNull_278bc) 37 = .ok (.iinc 1 1, 3) := by decide +kernel
theorem qJ5_appendNull_278bc_40 : decode (mB mJ5_appendNull_278bc) 40 = .ok (.bipush 117, 2) := by decide +kernel
theorem qJ5_appendNull_278bc_42 : decode (mB mJ5_appendNull_278bc) 42 = .ok (.bastore, 1) := by decide +kernel
theorem qJ5_appendNull_278bc_43 : decode (mB mJ5_appendNull_278bc) 43 = .ok (.aload_n 2, 1) := by decide +kernel
theorem qJ5_appendNull_278bc_44 : decode (mB mJ5_appendNull_278bc) 44 = .ok (.iload_n 1, 1) := by decide +kernel
theorem qJ5_appendNull_278bc_45 : decode (mB mJ5_appendNull_278bc) 45 = .ok (.iinc 1 1, 3) := by decide +kernel
theorem qJ5_appendNull_278bc_48 : decode (mB mJ5_appendNull_278bc) 48 = .ok (.bipush 108, 2) := by decide +kernel
theorem qJ5_appendNull_278bc_50 : decode (mB mJ5_appendNull_278bc) 50 = .ok (.bastore, 1) := by decide +kernel
theorem qJ5_appendNull_278bc_51 : decode (mB mJ5_appendNull_278bc) 51 = .ok (.aload_n 2, 1) := by decide +kernel
theorem qJ5_appendNull_278bc_52 : decode (mB mJ5_appendNull_278bc) 52 = .ok (.iload_n 1, 1) := by decide +kernel
theorem qJ5_appendNull_278bc_53 : decode (mB mJ5_appendNull_278bc) 53 = .ok (.iinc 1 1, 3) := by decide +kernel
theorem qJ5_appendNull_278bc_56 : decode (mB mJ5_appendNull_278bc) 56 = .ok (.bipush 108, 2) := by decide +kernel
theorem qJ5_appendNull_278bc_58 : decode (mB mJ5_appendNull_278bc) 58 = .ok (.bastore, 1) := by decide +kernel
theorem qJ5_appendNull_278bc_59 : decode (mB mJ5_appendNull_278bc) 59 = .ok (.goto 17, 3) := by decide +kernel
theorem qJ5_appendNull_278bc_62 : decode (mB mJ5_appendNull_278bc) 62 = .ok (.aload_n 2, 1) := by decide +kernel
theorem qJ5_appendNull_278bc_63 : decode (mB mJ5_appendNull_278bc) 63 = .ok (.iload_n 1, 1) := by decide +kernel
theorem qJ5_appendNull_278bc_64 : decode (mB mJ5_appendNull_278bc) 64 = .ok (.bipush 110, 2) := by decide +kernel
theorem qJ5_appendNull_278bc_66 : decode (mB mJ5_appendNull_278bc) 66 = .ok (.bipush 117, 2) := by decide +kernel
theorem qJ5_appendNull_278bc_68 : decode (mB mJ5_appendNull_278bc) 68 = .ok (.bipush 108, 2) := by decide +kernel
theorem qJ5_appendNull_278bc_70 : decode (mB mJ5_appendNull_278bc) 70 = .ok (.bipush 108, 2) := by decide +kernel
theorem qJ5_appendNull_278bc_72 : decode (mB mJ5_appendNull_278bc) 72 = .ok (.invokestatic 226, 3) := by decide +kernel
theorem qJ5_appendNull_278bc_75 : decode (mB mJ5_appendNull_278bc) 75 = .ok (.istore_n 1, 1) := by decide +kernel
theorem qJ5_appendNull_278bc_76 : decode (mB mJ5_appendNull_278bc) 76 = .ok (.aload_n 0, 1) := by decide +kernel
theorem qJ5_appendNull_278bc_77 : decode (mB mJ5_appendNull_278bc) 77 = .ok (.iload_n 1, 1) := by decide +kernel
theorem qJ5_appendNull_278bc_78 : decode (mB mJ5_appendNull_278bc) 78 = .ok (.putfield 79, 3) := by decide +kernel
theorem qJ5_appendNull_278bc_81 : decode (mB mJ5_appendNull_278bc) 81 = .ok (.aload_n 0, 1) := by decide +kernel
theorem qJ5_appendNull_278bc_82 : decode (mB mJ5_appendNull_278bc) 82 = .ok (.areturn, 1) := by decide +kernel
theorem qJ5_append_3fe6f_0 : decode (mB mJ5_append_3fe6f) 0 = .ok (.aload_n 0, 1) := by decide +kernel
theorem qJ5_append_3fe6f_1 : decode (mB mJ5_append_3fe6f) 1 = .ok (.aload_n 0, 1) := by decide +kernel
theorem qJ5_append_3fe6f_2 : decode (mB mJ5_append_3fe6f) 2 = .ok (.getfield 79, 3) := by decide +kernel
theorem qJ5_append_3fe6f_5 : decode (mB mJ5_append_3fe6f) 5 = .ok (.iconst 1, 1) := by decide +kernel
theorem qJ5_append_3fe6f_6 : decode (mB mJ5_append_3fe6f) 6 = .ok (.iadd, 1) := by decide +kernel
theorem qJ5_append_3fe6f_7 : decode (mB mJ5_append_3fe6f) 7 = .ok (.invokevirtual 100, 3) := by decide +kernel
theorem qJ5_append_3fe6f_10 : decode (mB mJ5_append_3fe6f) 10 = .ok (.aload_n 0, 1) := by decide +kernel
theorem qJ5_append_3fe6f_11 : decode (mB mJ5_append_3fe6f) 11 = .ok (.invokevirtual 83, 3) := by decide +kernel
theorem qJ5_append_3fe6f_14 : decode (mB mJ5_append_3fe6f) 14 = .ok (.ifCond .eq 31, 3) := by decide +kernel
theorem qJ5_append_3fe6f_17 : decode (mB mJ5_append_3fe6f) 17 = .ok (.iload_n 1, 1) := by decide +kernel
theorem qJ5_append_3fe6f_18 : decode (mB mJ5_append_3fe6f) 18 = .ok (.invokestatic 191, 3) := by decide +kernel
theorem qJ5_append_3fe6f_21 : decode (mB mJ5_append_3fe6f) 21 = .ok (.ifCond .eq 24, 3) := by decide +kernel
theorem qJ5_append_3fe6f_24 : decode (mB mJ5_append_3fe6f) 24 = .ok (.aload_n 0, 1) := by decide +kernel
theorem qJ5_append_3fe6f_25 : decode (mB mJ5_append_3fe6f) 25 = .ok (.getfield 15, 3) := by decide +kernel
theorem qJ5_append_3fe6f_28 : decode (mB mJ5_append_3fe6f) 28 = .ok (.aload_n 0, 1) := by decide +kernel
theorem qJ5_append_3fe6f_29 : decode (mB mJ5_append_3fe6f) 29 = .ok (.dup, 1) := by decide +kernel
theorem qJ5_append_3fe6f_30 : decode (mB mJ5_append_3fe6f) 30 = .ok (.getfield 79, 3) := by decide +kernel
theorem qJ5_append_3fe6f_33 : decode (mB mJ5_append_3fe6f) 33 = .ok (.dup_x1, 1) := by decide +kernel
theorem qJ5_append_3fe6f_34 : decode (mB mJ5_append_3fe6f) 34 = .ok (.iconst 1, 1) := by decide +kernel
theorem qJ5_append_3fe6f_35 : decode (mB mJ5_append_3fe6f) 35 = .ok (.iadd, 1) := by decide +kernel
theorem qJ5_append_3fe6f_36 : decode (mB mJ5_append_3fe6f) 36 = .ok (.putfield 79, 3) := by decide +kernel
theorem qJ5_append_3fe6f_39 : decode (mB mJ5_append_3fe6f) 39 = .ok (.iload_n 1, 1) := by decide +kernel
theorem qJ5_append_3fe6f_40 : decode (mB mJ5_append_3fe6f) 40 = .ok (.i2b, 1) := by decide +kernel
theorem qJ5_append_3fe6f_41 : decode (mB mJ5_append_3fe6f) 41 = .ok (.bastore, 1) := by decide +kernel
theorem qJ5_append_3fe6f_42 : decode (mB mJ5_append_3fe6f) 42 = .ok (.goto 33, 3) := by decide +kernel
theorem qJ5_append_3fe6f_45 : decode (mB mJ5_append_3fe6f) 45 = .ok (.aload_n 0, 1) := by decide +kernel
theorem qJ5_append_3fe6f_46 : decode (mB mJ5_append_3fe6f) 46 = .ok (.invokevirtual 83, 3) := by decide +kernel
theorem qJ5_append_3fe6f_49 : decode (mB mJ5_append_3fe6f) 49 = .ok (.ifCond .eq 7, 3) := by decide +kernel
theorem qJ5_append_3fe6f_52 : decode (mB mJ5_append_3fe6f) 52 = .ok (.aload_n 0, 1) := by decide +kernel
theorem qJ5_append_3fe6f_53 : decode (mB mJ5_append_3fe6f) 53 = .ok (.invokevirtual 195, 3) := by decide +kernel
theorem qJ5_append_3fe6f_56 : decode (mB mJ5_append_3fe6f) 56 = .ok (.aload_n 0, 1) := by decide +kernel
theorem qJ5_append_3fe6f_57 : decode (mB mJ5_append_3fe6f) 57 = .ok (.getfield 15, 3) := by decide +kernel
theorem qJ5_append_3fe6f_60 : decode (mB mJ5_append_3fe6f) 60 = .ok (.aload_n 0, 1) := by decide +kernel
theorem qJ5_append_3fe6f_61 : decode (mB mJ5_append_3fe6f) 61 = .ok (.dup, 1) := by decide +kernel
theorem qJ5_append_3fe6f_62 : decode (mB mJ5_append_3fe6f) 62 = .ok (.getfield 79, 3) := by decide +kernel
theorem qJ5_append_3fe6f_65 : decode (mB mJ5_append_3fe6f) 65 = .ok (.dup_x1, 1) := by decide +kernel
theorem qJ5_append_3fe6f_66 : decode (mB mJ5_append_3fe6f) 66 = .ok (.iconst 1, 1) := by decide +kernel
theorem qJ5_append_3fe6f_67 : decode (mB mJ5_append_3fe6f) 67 = .ok (.iadd, 1) := by decide +kernel
theorem qJ5_append_3fe6f_68 : decode (mB mJ5_append_3fe6f) 68 = .ok (.putfield 79, 3) := by decide +kernel
theorem qJ5_append_3fe6f_71 : decode (mB mJ5_append_3fe6f) 71 = .ok (.iload_n 1, 1) := by decide +kernel
theorem qJ5_append_3fe6f_72 : decode (mB mJ5_append_3fe6f) 72 = .ok (.invokestatic 197, 3) := by decide +kernel
theorem qJ5_append_3fe6f_75 : decode (mB mJ5_append_3fe6f) 75 = .ok (.aload_n 0, 1) := by decide +kernel
theorem qJ5_append_3fe6f_76 : decode (mB mJ5_append_3fe6f) 76 = .ok (.areturn, 1) := by decide +kernel
theorem qJ5_append_c97b9_0 : decode (mB mJ5_append_c97b9) 0 = .ok (.aload_n 0, 1) := by decide +kernel
theorem qJ5_append_c97b9_1 : decode (mB mJ5_append_c97b9) 1 = .ok (.getfield 79, 3) := by decide +kernel
theorem qJ5_append_c97b9_4 : decode (mB mJ5_append_c97b9) 4 = .ok (.istore_n 2, 1) := by decide +kernel
theorem qJ5_append_c97b9_5 : decode (mB mJ5_append_c97b9) 5 = .ok (.iload_n 2, 1) := by decide +kernel
theorem qJ5_append_c97b9_6 : decode (mB mJ5_append_c97b9) 6 = .ok (.iload_n 1, 1) := by decide +kernel
theorem qJ5_append_c97b9_7 : decode (mB mJ5_append_c97b9) 7 = .ok (.invokestatic 245, 3) := by decide +kernel
theorem qJ5_append_c97b9_10 : decode (mB mJ5_append_c97b9) 10 = .ok (.iadd, 1) := by decide +kernel
theorem qJ5_append_c97b9_11 : decode (mB mJ5_append_c97b9) 11 = .ok (.istore_n 3, 1) := by decide +kernel
theorem qJ5_append_c97b9_12 : decode (mB mJ5_append_c97b9) 12 = .ok (.aload_n 0, 1) := by decide +kernel
theorem qJ5_append_c97b9_13 : decode (mB mJ5_append_c97b9) 13 = .ok (.iload_n 3, 1) := by decide +kernel
theorem qJ5_append_c97b9_14 : decode (mB mJ5_append_c97b9) 14 = .ok (.invokevirtual 100, 3) := by decide +kernel
theorem qJ5_append_c97b9_17 : decode (mB mJ5_append_c97b9) 17 = .ok (.aload_n 0, 1) := by decide +kernel
theorem qJ5_append_c97b9_18 : decode (mB mJ5_append_c97b9) 18 = .ok (.invokevirtual 83, 3) := by decide +kernel
theorem qJ5_append_c97b9_21 : decode (mB mJ5_append_c97b9) 21 = .ok (.ifCond .eq 16, 3) := by decide +kernel
theorem qJ5_append_c97b9_24 : decode (mB mJ5_append_c97b9) 24 = .ok (.iload_n 1, 1) := by decide +kernel
theorem qJ5_append_c97b9_25 : decode (mB mJ5_append_c97b9) 25 = .ok (.iload_n 3, 1) := by decide +kernel
theorem qJ5_append_c97b9_26 : decode (mB mJ5_append_c97b9) 26 = .ok (.aload_n 0, 1) := by decide +kernel
theorem qJ5_append_c97b9_27 : decode (mB mJ5_append_c97b9) 27 = .ok (.getfield 15, 3) := by decide +kernel
theorem qJ5_append_c97b9_30 : decode (mB mJ5_append_c97b9) 30 = .ok (.invokestatic 248, 3) := by decide +kernel
theorem qJ5_append_c97b9_33 : decode (mB mJ5_append_c97b9) 33 = .ok (.pop, 1) := by decide +kernel
theorem qJ5_append_c97b9_34 : decode (mB mJ5_append_c97b9) 34 = .ok (.goto 14, 3) := by decide +kernel
theorem qJ5_append_c97b9_37 : decode (mB mJ5_append_c97b9) 37 = .ok (.iload_n 1, 1) := by decide +kernel
theorem qJ5_append_c97b9_38 : decode (mB mJ5_append_c97b9) 38 = .ok (.iload_n 2, 1) := by decide +kernel
theorem qJ5_append_c97b9_39 : decode (mB mJ5_append_c97b9) 39 = .ok (.iload_n 3, 1) := by decide +kernel
theorem qJ5_append_c97b9_40 : decode (mB mJ5_append_c97b9) 40 = .ok (.aload_n 0, 1) := by decide +kernel
theorem qJ5_append_c97b9_41 : decode (mB mJ5_append_c97b9) 41 = .ok (.getfield 15, 3) := by decide +kernel
theorem qJ5_append_c97b9_44 : decode (mB mJ5_append_c97b9) 44 = .ok (.invokestatic 251, 3) := by decide +kernel
theorem qJ5_append_c97b9_47 : decode (mB mJ5_append_c97b9) 47 = .ok (.pop, 1) := by decide +kernel
theorem qJ5_append_c97b9_48 : decode (mB mJ5_append_c97b9) 48 = .ok (.aload_n 0, 1) := by decide +kernel
theorem qJ5_append_c97b9_49 : decode (mB mJ5_append_c97b9) 49 = .ok (.iload_n 3, 1) := by decide +kernel
theorem qJ5_append_c97b9_50 : decode (mB mJ5_append_c97b9) 50 = .ok (.putfield 79, 3) := by decide +kernel
theorem qJ5_append_c97b9_53 : decode (mB mJ5_append_c97b9) 53 = .ok (.aload_n 0, 1) := by decide +kernel
theorem qJ5_append_c97b9_54 : decode (mB mJ5_append_c97b9) 54 = .ok (.areturn, 1) := by decide +kernel
theorem qJ5_append_cf1ce_0 : decode (mB mJ5_append_cf1ce) 0 = .ok (.aload_n 1, 1) := by decide +kernel
theorem qJ5_append_cf1ce_1 : decode (mB mJ5_append_cf1ce) 1 = .ok (.ifnonnull 8, 3) := by decide +kernel
theorem qJ5_append_cf1ce_4 : decode (mB mJ5_append_cf1ce) 4 = .ok (.aload_n 0, 1) := by decide +kernel
theorem qJ5_append_cf1ce_5 : decode (mB mJ5_append_cf1ce) 5 = .ok (.invokevirtual 204, 3) := by decide +kernel
theorem qJ5_append_cf1ce_8 : decode (mB mJ5_append_cf1ce) 8 = .ok (.areturn, 1) := by decide +kernel
theorem qJ5_append_cf1ce_9 : decode (mB mJ5_append_cf1ce) 9 = .ok (.aload_n 1, 1) := by decide +kernel
theorem qJ5_append_cf1ce_10 : decode (mB mJ5_append_cf1ce) 10 = .ok (.invokevirtual 32, 3) := by decide +kernel
theorem qJ5_append_cf1ce_13 : decode (mB mJ5_append_cf1ce) 13 = .ok (.istore_n 2, 1) := by decide +kernel
theorem qJ5_append_cf1ce_14 : decode (mB mJ5_append_cf1ce) 14 = .ok (.aload_n 0, 1) := by decide +kernel
theorem qJ5_append_cf1ce_15 : decode (mB mJ5_append_cf1ce) 15 = .ok (.aload_n 0, 1) := by decide +kernel
theorem qJ5_append_cf1ce_16 : decode (mB mJ5_append_cf1ce) 16 = .ok (.getfield 79, 3) := by decide +kernel
theorem qJ5_append_cf1ce_19 : decode (mB mJ5_append_cf1ce) 19 = .ok (.iload_n 2, 1) := by decide +kernel
theorem qJ5_append_cf1ce_20 : decode (mB mJ5_append_cf1ce) 20 = .ok (.iadd, 1) := by decide +kernel
theorem qJ5_append_cf1ce_21 : decode (mB mJ5_append_cf1ce) 21 = .ok (.invokevirtual 100, 3) := by decide +kernel
theorem qJ5_append_cf1ce_24 : decode (mB mJ5_append_cf1ce) 24 = .ok (.aload_n 0, 1) := by decide +kernel
theorem qJ5_append_cf1ce_25 : decode (mB mJ5_append_cf1ce) 25 = .ok (.aload_n 0, 1) := by decide +kernel
theorem qJ5_append_cf1ce_26 : decode (mB mJ5_append_cf1ce) 26 = .ok (.getfield 79, 3) := by decide +kernel
theorem qJ5_append_cf1ce_29 : decode (mB mJ5_append_cf1ce) 29 = .ok (.aload_n 1, 1) := by decide +kernel
theorem qJ5_append_cf1ce_30 : decode (mB mJ5_append_cf1ce) 30 = .ok (.invokevirtual 208, 3) := by decide +kernel
theorem qJ5_append_cf1ce_33 : decode (mB mJ5_append_cf1ce) 33 = .ok (.aload_n 0, 1) := by decide +kernel
theorem qJ5_append_cf1ce_34 : decode (mB mJ5_append_cf1ce) 34 = .ok (.dup, 1) := by decide +kernel
theorem qJ5_append_cf1ce_35 : decode (mB mJ5_append_cf1ce) 35 = .ok (.getfield 79, 3) := by decide +kernel
theorem qJ5_append_cf1ce_38 : decode (mB mJ5_append_cf1ce) 38 = .ok (.iload_n 2, 1) := by decide +kernel
theorem qJ5_append_cf1ce_39 : decode (mB mJ5_append_cf1ce) 39 = .ok (.iadd, 1) := by decide +kernel
theorem qJ5_append_cf1ce_40 : decode (mB mJ5_append_cf1ce) 40 = .ok (.putfield 79, 3) := by decide +kernel
theorem qJ5_append_cf1ce_43 : decode (mB mJ5_append_cf1ce) 43 = .ok (.aload_n 0, 1) := by decide +kernel
theorem qJ5_append_cf1ce_44 : decode (mB mJ5_append_cf1ce) 44 = .ok (.areturn, 1) := by decide +kernel
theorem qJ5_charAt_5068e_0 : decode (mB mJ5_charAt_5068e) 0 = .ok (.aload_n 0, 1) := by decide +kernel
theorem qJ5_charAt_5068e_1 : decode (mB mJ5_charAt_5068e) 1 = .ok (.getfield 22, 3) := by decide +kernel
theorem qJ5_charAt_5068e_4 : decode (mB mJ5_charAt_5068e) 4 = .ok (.istore_n 2, 1) := by decide +kernel
theorem qJ5_charAt_5068e_5 : decode (mB mJ5_charAt_5068e) 5 = .ok (.aload_n 0, 1) := by decide +kernel
theorem qJ5_charAt_5068e_6 : decode (mB mJ5_charAt_5068e) 6 = .ok (.getfield 15, 3) := by decide +kernel
theorem qJ5_charAt_5068e_9 : decode (mB mJ5_charAt_5068e) 9 = .ok (.astore_n 3, 1) := by decide +kernel
theorem qJ5_charAt_5068e_10 : decode (mB mJ5_charAt_5068e) 10 = .ok (.aload_n 0, 1) := by decide +kernel
theorem qJ5_charAt_5068e_11 : decode (mB mJ5_charAt_5068e) 11 = .ok (.getfield 79, 3) := by decide +kernel
theorem qJ5_charAt_5068e_14 : decode (mB mJ5_charAt_5068e) 14 = .ok (.aload_n 3, 1) := by decide +kernel
theorem qJ5_charAt_5068e_15 : decode (mB mJ5_charAt_5068e) 15 = .ok (.arraylength, 1) := by decide +kernel
theorem qJ5_charAt_5068e_16 : decode (mB mJ5_charAt_5068e) 16 = .ok (.iload_n 2, 1) := by decide +kernel
theorem qJ5_charAt_5068e_17 : decode (mB mJ5_charAt_5068e) 17 = .ok (.ishr, 1) := by decide +kernel
theorem qJ5_charAt_5068e_18 : decode (mB mJ5_charAt_5068e) 18 = .ok (.invokestatic 138, 3) := by decide +kernel
theorem qJ5_charAt_5068e_21 : decode (mB mJ5_charAt_5068e) 21 = .ok (.istore 4, 2) := by decide +kernel
theorem qJ5_charAt_5068e_23 : decode (mB mJ5_charAt_5068e) 23 = .ok (.iload_n 1, 1) := by decide +kernel
theorem qJ5_charAt_5068e_24 : decode (mB mJ5_charAt_5068e) 24 = .ok (.iload 4, 2) := by decide +kernel
theorem qJ5_charAt_5068e_26 : decode (mB mJ5_charAt_5068e) 26 = .ok (.invokestatic 144, 3) := by decide +kernel
theorem qJ5_charAt_5068e_29 : decode (mB mJ5_charAt_5068e) 29 = .ok (.iload_n 2, 1) := by decide +kernel
theorem qJ5_charAt_5068e_30 : decode (mB mJ5_charAt_5068e) 30 = .ok (.ifCond .ne 12, 3) := by decide +kernel
theorem qJ5_charAt_5068e_33 : decode (mB mJ5_charAt_5068e) 33 = .ok (.aload_n 3, 1) := by decide +kernel
theorem qJ5_charAt_5068e_34 : decode (mB mJ5_charAt_5068e) 34 = .ok (.iload_n 1, 1) := by decide +kernel
theorem qJ5_charAt_5068e_35 : decode (mB mJ5_charAt_5068e) 35 = .ok (.baload, 1) := by decide +kernel
theorem qJ5_charAt_5068e_36 : decode (mB mJ5_charAt_5068e) 36 = .ok (.sipush 255, 3) := by decide +kernel
theorem qJ5_charAt_5068e_39 : decode (mB mJ5_charAt_5068e) 39 = .ok (.iand, 1) := by decide +kernel
theorem qJ5_charAt_5068e_40 : decode (mB mJ5_charAt_5068e) 40 = .ok (.i2c, 1) := by decide +kernel
theorem qJ5_charAt_5068e_41 : decode (mB mJ5_charAt_5068e) 41 = .ok (.ireturn, 1) := by decide +kernel
theorem qJ5_charAt_5068e_42 : decode (mB mJ5_charAt_5068e) 42 = .ok (.aload_n 3, 1) := by decide +kernel
theorem qJ5_charAt_5068e_43 : decode (mB mJ5_charAt_5068e) 43 = .ok (.iload_n 1, 1) := by decide +kernel
theorem qJ5_charAt_5068e_44 : decode (mB mJ5_charAt_5068e) 44 = .ok (.invokestatic 148, 3) := by decide +kernel
theorem qJ5_charAt_5068e_47 : decode (mB mJ5_charAt_5068e) 47 = .ok (.ireturn, 1) := by decide +kernel
theorem qJ5_ensureCapacityInternal_d00df_0 : decode (mB mJ5_ensureCapacityInternal_d00df) 0 = .ok (.aload_n 0, 1) := by decide +kernel
theorem qJ5_ensureCapacityInternal_d00df_1 : decode (mB mJ5_ensureCapacityInternal_d00df) 1 = .ok (.getfield 15, 3) := by decide +kernel
theorem qJ5_ensureCapacityInternal_d00df_4 : decode (mB mJ5_ensureCapacityInternal_d00df) 4 = .ok (.arraylength, 1) := by decide +kernel
theorem qJ5_ensureCapacityInternal_d00df_5 : decode (mB mJ5_ensureCapacityInternal_d00df) 5 = .ok (.aload_n 0, 1) := by decide +kernel
theorem qJ5_ensureCapacityInternal_d00df_6 : decode (mB mJ5_ensureCapacityInternal_d00df) 6 = .ok (.getfield 22, 3) := by decide +kernel
theorem qJ5_ensureCapacityInternal_d00df_9 : decode (mB mJ5_ensureCapacityInternal_d00df) 9 = .ok (.ishr, 1) := by decide +kernel
theorem qJ5_ensureCapacityInternal_d00df_10 : decode (mB mJ5_ensureCapacityInternal_d00df) 10 = .ok (.istore_n 2, 1) := by decide +kernel
theorem qJ5_ensureCapacityInternal_d00df_11 : decode (mB mJ5_ensureCapacityInternal_d00df) 11 = .ok (.iload_n 1, 1) := by decide +kernel
theorem qJ5_ensureCapacityInternal_d00df_12 : decode (mB mJ5_ensureCapacityInternal_d00df) 12 = .ok (.iload_n 2, 1) := by decide +kernel
theorem qJ5_ensureCapacityInternal_d00df_13 : decode (mB mJ5_ensureCapacityInternal_d00df) 13 = .ok (.isub, 1) := by decide +kernel
theorem qJ5_ensureCapacityInternal_d00df_14 : decode (mB mJ5_ensureCapacityInternal_d00df) 14 = .ok (.ifCond .le 24, 3) := by decide +kernel
theorem qJ5_ensureCapacityInternal_d00df_17 : decode (mB mJ5_ensureCapacityInternal_d00df) 17 = .ok (.aload_n 0, 1) := by decide +kernel
theorem qJ5_ensureCapacityInternal_d00df_18 : decode (mB mJ5_ensureCapacityInternal_d00df) 18 = .ok (.aload_n 0, 1) := by decide +kernel
theorem qJ5_ensureCapacityInternal_d00df_19 : decode (mB mJ5_ensureCapacityInternal_d00df) 19 = .ok (.getfield 15, 3) := by decide +kernel
theorem qJ5_ensureCapacityInternal_d00df_22 : decode (mB mJ5_ensureCapacityInternal_d00df) 22 = .ok (.aload_n 0, 1) := by decide +kernel
theorem qJ5_ensureCapacityInternal_d00df_23 : decode (mB mJ5_ensureCapacityInternal_d00df) 23 = .ok (.iload_n 1, 1) := by decide +kernel
theorem qJ5_ensureCapacityInternal_d00df_24 : decode (mB mJ5_ensureCapacityInternal_d00df) 24 = .ok (.invokevirtual 104, 3) := by decide +kernel
theorem qJ5_ensureCapacityInternal_d00df_27 : decode (mB mJ5_ensureCapacityInternal_d00df) 27 = .ok (.aload_n 0, 1) := by decide +kernel
theorem qJ5_ensureCapacityInternal_d00df_28 : decode (mB mJ5_ensureCapacityInternal_d00df) 28 = .ok (.getfield 22, 3) := by decide +kernel
theorem qJ5_ensureCapacityInternal_d00df_31 : decode (mB mJ5_ensureCapacityInternal_d00df) 31 = .ok (.ishl, 1) := by decide +kernel
theorem qJ5_ensureCapacityInternal_d00df_32 : decode (mB mJ5_ensureCapacityInternal_d00df) 32 = .ok (.invokestatic 108, 3) := by decide +kernel
theorem qJ5_ensureCapacityInternal_d00df_35 : decode (mB mJ5_ensureCapacityInternal_d00df) 35 = .ok (.putfield 15, 3) := by decide +kernel
theorem qJ5_ensureCapacityInternal_d00df_38 : decode (mB mJ5_ensureCapacityInternal_d00df) 38 = .ok (.return_, 1) := by decide +kernel
theorem qJ5_getValue_6d5f1_0 : decode (mB mJ5_getValue_6d5f1) 0 = .ok (.aload_n 0, 1) := by decide +kernel
theorem qJ5_getValue_6d5f1_1 : decode (mB mJ5_getValue_6d5f1) 1 = .ok (.getfield 15, 3) := by decide +kernel
theorem qJ5_getValue_6d5f1_4 : decode (mB mJ5_getValue_6d5f1) 4 = .ok (.areturn, 1) := by decide +kernel
theorem qJ5_inflateIfNeededFor_a7421_0 : decode (mB mJ5_inflateIfNeededFor_a7421) 0 = .ok (.getstatic 18, 3) := by decide +kernel
theorem qJ5_inflateIfNeededFor_a7421_3 : decode (mB mJ5_inflateIfNeededFor_a7421) 3 = .ok (.ifCond .eq 18, 3) := by decide +kernel
theorem qJ5_inflateIfNeededFor_a7421_6 : decode (mB mJ5_inflateIfNeededFor_a7421) 6 = .ok (.aload_n 0, 1) := by decide +kernel
theorem qJ5_inflateIfNeededFor_a7421_7 : decode (mB mJ5_inflateIfNeededFor_a7421) 7 = .ok (.getfield 22, 3) := by decide +kernel
theorem qJ5_inflateIfNeededFor_a7421_10 : decode (mB mJ5_inflateIfNeededFor_a7421) 10 = .ok (.aload_n 1, 1) := by decide +kernel
theorem qJ5_inflateIfNeededFor_a7421_11 : decode (mB mJ5_inflateIfNeededFor_a7421) 11 = .ok (.invokevirtual 40, 3) := by decide +kernel
theorem qJ5_inflateIfNeededFor_a7421_14 : decode (mB mJ5_inflateIfNeededFor_a7421) 14 = .ok (.if_icmp .eq 7, 3) := by decide +kernel
theorem qJ5_inflateIfNeededFor_a7421_17 : decode (mB mJ5_inflateIfNeededFor_a7421) 17 = .ok (.aload_n 0, 1) := by decide +kernel
theorem qJ5_inflateIfNeededFor_a7421_18 : decode (mB mJ5_inflateIfNeededFor_a7421) 18 = .ok (.invokevirtual 195, 3) := by decide +kernel
theorem qJ5_inflateIfNeededFor_a7421_21 : decode (mB mJ5_inflateIfNeededFor_a7421) 21 = .ok (.return_, 1) := by decide +kernel
theorem qJ5_inflate_da8c8_0 : decode (mB mJ5_inflate_da8c8) 0 = .ok (.aload_n 0, 1) := by decide +kernel
theorem qJ5_inflate_da8c8_1 : decode (mB mJ5_inflate_da8c8) 1 = .ok (.invokevirtual 83, 3) := by decide +kernel
theorem qJ5_inflate_da8c8_4 : decode (mB mJ5_inflate_da8c8) 4 = .ok (.ifCond .ne 4, 3) := by decide +kernel
theorem qJ5_inflate_da8c8_7 : decode (mB mJ5_inflate_da8c8) 7 = .ok (.return_, 1) := by decide +kernel
theorem qJ5_inflate_da8c8_8 : decode (mB mJ5_inflate_da8c8) 8 = .ok (.aload_n 0, 1) := by decide +kernel
theorem qJ5_inflate_da8c8_9 : decode (mB mJ5_inflate_da8c8) 9 = .ok (.getfield 15, 3) := by decide +kernel
theorem qJ5_inflate_da8c8_12 : decode (mB mJ5_inflate_da8c8) 12 = .ok (.arraylength, 1) := by decide +kernel
theorem qJ5_inflate_da8c8_13 : decode (mB mJ5_inflate_da8c8) 13 = .ok (.invokestatic 26, 3) := by decide +kernel
theorem qJ5_inflate_da8c8_16 : decode (mB mJ5_inflate_da8c8) 16 = .ok (.astore_n 1, 1) := by decide +kernel
theorem qJ5_inflate_da8c8_17 : decode (mB mJ5_inflate_da8c8) 17 = .ok (.aload_n 0, 1) := by decide +kernel
theorem qJ5_inflate_da8c8_18 : decode (mB mJ5_inflate_da8c8) 18 = .ok (.getfield 15, 3) := by decide +kernel
theorem qJ5_inflate_da8c8_21 : decode (mB mJ5_inflate_da8c8) 21 = .ok (.iconst 0, 1) := by decide +kernel
theorem qJ5_inflate_da8c8_22 : decode (mB mJ5_inflate_da8c8) 22 = .ok (.aload_n 1, 1) := by decide +kernel
theorem qJ5_inflate_da8c8_23 : decode (mB mJ5_inflate_da8c8) 23 = .ok (.iconst 0, 1) := by decide +kernel
theorem qJ5_inflate_da8c8_24 : decode (mB mJ5_inflate_da8c8) 24 = .ok (.aload_n 0, 1) := by decide +kernel
theorem qJ5_inflate_da8c8_25 : decode (mB mJ5_inflate_da8c8) 25 = .ok (.getfield 79, 3) := by decide +kernel
theorem qJ5_inflate_da8c8_28 : decode (mB mJ5_inflate_da8c8) 28 = .ok (.invokestatic 125, 3) := by decide +kernel
theorem qJ5_inflate_da8c8_31 : decode (mB mJ5_inflate_da8c8) 31 = .ok (.aload_n 0, 1) := by decide +kernel
theorem qJ5_inflate_da8c8_32 : decode (mB mJ5_inflate_da8c8) 32 = .ok (.aload_n 1, 1) := by decide +kernel
theorem qJ5_inflate_da8c8_33 : decode (mB mJ5_inflate_da8c8) 33 = .ok (.putfield 15, 3) := by decide +kernel
theorem qJ5_inflate_da8c8_36 : decode (mB mJ5_inflate_da8c8) 36 = .ok (.aload_n 0, 1) := by decide +kernel
theorem qJ5_inflate_da8c8_37 : decode (mB mJ5_inflate_da8c8) 37 = .ok (.iconst 1, 1) := by decide +kernel
theorem qJ5_inflate_da8c8_38 : decode (mB mJ5_inflate_da8c8) 38 = .ok (.putfield 22, 3) := by decide +kernel
theorem qJ5_inflate_da8c8_41 : decode (mB mJ5_inflate_da8c8) 41 = .ok (.return_, 1) := by decide +kernel
theorem qJ5_init_d00df_0 : decode (mB mJ5_init_d00df) 0 = .ok (.aload_n 0, 1) := by decide +kernel
theorem qJ5_init_d00df_1 : decode (mB mJ5_init_d00df) 1 = .ok (.invokespecial 3, 3) := by decide +kernel
theorem qJ5_init_d00df_4 : decode (mB mJ5_init_d00df) 4 = .ok (.getstatic 18, 3) := by decide +kernel
theorem qJ5_init_d00df_7 : decode (mB mJ5_init_d00df) 7 = .ok (.ifCond .eq 18, 3) := by decide +kernel
theorem qJ5_init_d00df_10 : decode (mB mJ5_init_d00df) 10 = .ok (.aload_n 0, 1) := by decide +kernel
theorem qJ5_init_d00df_11 : decode (mB mJ5_init_d00df) 11 = .ok (.iload_n 1, 1) := by decide +kernel
theorem qJ5_init_d00df_12 : decode (mB mJ5_init_d00df) 12 = .ok (.newarray .byte, 2) := by decide +kernel
theorem qJ5_init_d00df_14 : decode (mB mJ5_init_d00df) 14 = .ok (.putfield 15, 3) := by decide +kernel
theorem qJ5_init_d00df_17 : decode (mB mJ5_init_d00df) 17 = .ok (.aload_n 0, 1) := by decide +kernel
theorem qJ5_init_d00df_18 : decode (mB mJ5_init_d00df) 18 = .ok (.iconst 0, 1) := by decide +kernel
theorem qJ5_init_d00df_19 : decode (mB mJ5_init_d00df) 19 = .ok (.putfield 22, 3) := by decide +kernel
theorem qJ5_init_d00df_22 : decode (mB mJ5_init_d00df) 22 = .ok (.goto 16, 3) := by decide +kernel
theorem qJ5_init_d00df_25 : decode (mB mJ5_init_d00df) 25 = .ok (.aload_n 0, 1) := by decide +kernel
theorem qJ5_init_d00df_26 : decode (mB mJ5_init_d00df) 26 = .ok (.iload_n 1, 1) := by decide +kernel
theorem qJ5_init_d00df_27 : decode (mB mJ5_init_d00df) 27 = .ok (.invokestatic 26, 3) := by decide +kernel
theorem qJ5_init_d00df_30 : decode (mB mJ5_init_d00df) 30 = .ok (.putfield 15, 3) := by decide +kernel
theorem qJ5_init_d00df_33 : decode (mB mJ5_init_d00df) 33 = .ok (.aload_n 0, 1) := by decide +kernel
theorem qJ5_init_d00df_34 : decode (mB mJ5_init_d00df) 34 = .ok (.iconst 1, 1) := by decide +kernel
theorem qJ5_init_d00df_35 : decode (mB mJ5_init_d00df) 35 = .ok (.putfield 22, 3) := by decide +kernel
theorem qJ5_init_d00df_38 : decode (mB mJ5_init_d00df) 38 = .ok (.return_, 1) := by decide +kernel
theorem qJ5_isLatin1_aae02_0 : decode (mB mJ5_isLatin1_aae02) 0 = .ok (.getstatic 18, 3) := by decide +kernel
theorem qJ5_isLatin1_aae02_3 : decode (mB mJ5_isLatin1_aae02) 3 = .ok (.ifCond .eq 14, 3) := by decide +kernel
theorem qJ5_isLatin1_aae02_6 : decode (mB mJ5_isLatin1_aae02) 6 = .ok (.aload_n 0, 1) := by decide +kernel
theorem qJ5_isLatin1_aae02_7 : decode (mB mJ5_isLatin1_aae02) 7 = .ok (.getfield 22, 3) := by decide +kernel
theorem qJ5_isLatin1_aae02_10 : decode (mB mJ5_isLatin1_aae02) 10 = .ok (.ifCond .ne 7, 3) := by decide +kernel
theorem qJ5_isLatin1_aae02_13 : decode (mB mJ5_isLatin1_aae02) 13 = .ok (.iconst 1, 1) := by decide +kernel
theorem qJ5_isLatin1_aae02_14 : decode (mB mJ5_isLatin1_aae02) 14 = .ok (.goto 4, 3) := by decide +kernel
theorem qJ5_isLatin1_aae02_17 : decode (mB mJ5_isLatin1_aae02) 17 = .ok (.iconst 0, 1) := by decide +kernel
theorem qJ5_isLatin1_aae02_18 : decode (mB mJ5_isLatin1_aae02) 18 = .ok (.ireturn, 1) := by decide +kernel
theorem qJ5_length_8abf5_0 : decode (mB mJ5_length_8abf5) 0 = .ok (.aload_n 0, 1) := by decide +kernel
theorem qJ5_length_8abf5_1 : decode (mB mJ5_length_8abf5) 1 = .ok (.getfield 79, 3) := by decide +kernel
theorem qJ5_length_8abf5_4 : decode (mB mJ5_length_8abf5) 4 = .ok (.ireturn, 1) := by decide +kernel
theorem qJ5_newCapacity_0f7a4_0 : decode (mB mJ5_newCapacity_0f7a4) 0 = .ok (.aload_n 0, 1) := by decide +kernel
theorem qJ5_newCapacity_0f7a4_1 : decode (mB mJ5_newCapacity_0f7a4) 1 = .ok (.getfield 15, 3) := by decide +kernel
theorem qJ5_newCapacity_0f7a4_4 : decode (mB mJ5_newCapacity_0f7a4) 4 = .ok (.arraylength, 1) := by decide +kernel
theorem qJ5_newCapacity_0f7a4_5 : decode (mB mJ5_newCapacity_0f7a4) 5 = .ok (.istore_n 2, 1) := by decide +kernel
theorem qJ5_newCapacity_0f7a4_6 : decode (mB mJ5_newCapacity_0f7a4) 6 = .ok (.iload_n 1, 1) := by decide +kernel
theorem qJ5_newCapacity_0f7a4_7 : decode (mB mJ5_newCapacity_0f7a4) 7 = .ok (.aload_n 0, 1) := by decide +kernel
theorem qJ5_newCapacity_0f7a4_8 : decode (mB mJ5_newCapacity_0f7a4) 8 = .ok (.getfield 22, 3) := by decide +kernel
theorem qJ5_newCapacity_0f7a4_11 : decode (mB mJ5_newCapacity_0f7a4) 11 = .ok (.ishl, 1) := by decide +kernel
theorem qJ5_newCapacity_0f7a4_12 : decode (mB mJ5_newCapacity_0f7a4) 12 = .ok (.istore_n 3, 1) := by decide +kernel
theorem qJ5_newCapacity_0f7a4_13 : decode (mB mJ5_newCapacity_0f7a4) 13 = .ok (.iload_n 3, 1) := by decide +kernel
theorem qJ5_newCapacity_0f7a4_14 : decode (mB mJ5_newCapacity_0f7a4) 14 = .ok (.iload_n 2, 1) := by decide +kernel
theorem qJ5_newCapacity_0f7a4_15 : decode (mB mJ5_newCapacity_0f7a4) 15 = .ok (.isub, 1) := by decide +kernel
theorem qJ5_newCapacity_0f7a4_16 : decode (mB mJ5_newCapacity_0f7a4) 16 = .ok (.istore 4, 2) := by decide +kernel
theorem qJ5_newCapacity_0f7a4_18 : decode (mB mJ5_newCapacity_0f7a4) 18 = .ok (.iload_n 2, 1) := by decide +kernel
theorem qJ5_newCapacity_0f7a4_19 : decode (mB mJ5_newCapacity_0f7a4) 19 = .ok (.iload 4, 2) := by decide +kernel
theorem qJ5_newCapacity_0f7a4_21 : decode (mB mJ5_newCapacity_0f7a4) 21 = .ok (.iload_n 2, 1) := by decide +kernel
theorem qJ5_newCapacity_0f7a4_22 : decode (mB mJ5_newCapacity_0f7a4) 22 = .ok (.iconst 2, 1) := by decide +kernel
theorem qJ5_newCapacity_0f7a4_23 : decode (mB mJ5_newCapacity_0f7a4) 23 = .ok (.aload_n 0, 1) := by decide +kernel
theorem qJ5_newCapacity_0f7a4_24 : decode (mB mJ5_newCapacity_0f7a4) 24 = .ok (.getfield 22, 3) := by decide +kernel
theorem qJ5_newCapacity_0f7a4_27 : decode (mB mJ5_newCapacity_0f7a4) 27 = .ok (.ishl, 1) := by decide +kernel
theorem qJ5_newCapacity_0f7a4_28 : decode (mB mJ5_newCapacity_0f7a4) 28 = .ok (.iadd, 1) := by decide +kernel
theorem qJ5_newCapacity_0f7a4_29 : decode (mB mJ5_newCapacity_0f7a4) 29 = .ok (.invokestatic 114, 3) := by decide +kernel
theorem qJ5_newCapacity_0f7a4_32 : decode (mB mJ5_newCapacity_0f7a4) 32 = .ok (.istore 5, 2) := by decide +kernel
theorem qJ5_newCapacity_0f7a4_34 : decode (mB mJ5_newCapacity_0f7a4) 34 = .ok (.iload 5, 2) := by decide +kernel
theorem qJ5_newCapacity_0f7a4_36 : decode (mB mJ5_newCapacity_0f7a4) 36 = .ok (.ldc 39, 2) := by decide +kernel
theorem qJ5_newCapacity_0f7a4_38 : decode (mB mJ5_newCapacity_0f7a4) 38 = .ok (.if_icmp .ne 13, 3) := by decide +kernel
theorem qJ5_newCapacity_0f7a4_41 : decode (mB mJ5_newCapacity_0f7a4) 41 = .ok (.new 120, 3) := by decide +kernel
theorem qJ5_newCapacity_0f7a4_44 : decode (mB mJ5_newCapacity_0f7a4) 44 = .ok (.dup, 1) := by decide +kernel
theorem qJ5_newCapacity_0f7a4_45 : decode (mB mJ5_newCapacity_0f7a4) 45 = .ok (.ldc 122, 2) := by decide +kernel
theorem qJ5_newCapacity_0f7a4_47 : decode (mB mJ5_newCapacity_0f7a4) 47 = .ok (.invokespecial 124, 3) := by decide +kernel
theorem qJ5_newCapacity_0f7a4_50 : decode (mB mJ5_newCapacity_0f7a4) 50 = .ok (.athrow, 1) := by decide +kernel
theorem qJ5_newCapacity_0f7a4_51 : decode (mB mJ5_newCapacity_0f7a4) 51 = .ok (.iload 5, 2) := by decide +kernel
theorem qJ5_newCapacity_0f7a4_53 : decode (mB mJ5_newCapacity_0f7a4) 53 = .ok (.aload_n 0, 1) := by decide +kernel
theorem qJ5_newCapacity_0f7a4_54 : decode (mB mJ5_newCapacity_0f7a4) 54 = .ok (.getfield 22, 3) := by decide +kernel
theorem qJ5_newCapacity_0f7a4_57 : decode (mB mJ5_newCapacity_0f7a4) 57 = .ok (.ishr, 1) := by decide +kernel
theorem qJ5_newCapacity_0f7a4_58 : decode (mB mJ5_newCapacity_0f7a4) 58 = .ok (.ireturn, 1) := by decide +kernel
theorem qJ5_putStringAt_47b60_0 : decode (mB mJ5_putStringAt_47b60) 0 = .ok (.aload_n 0, 1) := by decide +kernel
theorem qJ5_putStringAt_47b60_1 : decode (mB mJ5_putStringAt_47b60) 1 = .ok (.aload_n 2, 1) := by decide +kernel
theorem qJ5_putStringAt_47b60_2 : decode (mB mJ5_putStringAt_47b60) 2 = .ok (.invokevirtual 397, 3) := by decide +kernel
theorem qJ5_putStringAt_47b60_5 : decode (mB mJ5_putStringAt_47b60) 5 = .ok (.aload_n 2, 1) := by decide +kernel
theorem qJ5_putStringAt_47b60_6 : decode (mB mJ5_putStringAt_47b60) 6 = .ok (.aload_n 0, 1) := by decide +kernel
theorem qJ5_putStringAt_47b60_7 : decode (mB mJ5_putStringAt_47b60) 7 = .ok (.getfield 15, 3) := by decide +kernel
theorem qJ5_putStringAt_47b60_10 : decode (mB mJ5_putStringAt_47b60) 10 = .ok (.iload_n 1, 1) := by decide +kernel
theorem qJ5_putStringAt_47b60_11 : decode (mB mJ5_putStringAt_47b60) 11 = .ok (.aload_n 0, 1) := by decide +kernel
theorem qJ5_putStringAt_47b60_12 : decode (mB mJ5_putStringAt_47b60) 12 = .ok (.getfield 22, 3) := by decide +kernel
theorem qJ5_putStringAt_47b60_15 : decode (mB mJ5_putStringAt_47b60) 15 = .ok (.invokevirtual 399, 3) := by decide +kernel
theorem qJ5_putStringAt_47b60_18 : decode (mB mJ5_putStringAt_47b60) 18 = .ok (.return_, 1) := by decide +kernel
theorem qJ5_setLength_d00df_0 : decode (mB mJ5_setLength_d00df) 0 = .ok (.iload_n 1, 1) := by decide +kernel
theorem qJ5_setLength_d00df_1 : decode (mB mJ5_setLength_d00df) 1 = .ok (.ifCond .ge 12, 3) := by decide +kernel
theorem qJ5_setLength_d00df_4 : decode (mB mJ5_setLength_d00df) 4 = .ok (.new 129, 3) := by decide +kernel
theorem qJ5_setLength_d00df_7 : decode (mB mJ5_setLength_d00df) 7 = .ok (.dup, 1) := by decide +kernel
theorem qJ5_setLength_d00df_8 : decode (mB mJ5_setLength_d00df) 8 = .ok (.iload_n 1, 1) := by decide +kernel
theorem qJ5_setLength_d00df_9 : decode (mB mJ5_setLength_d00df) 9 = .ok (.invokespecial 131, 3) := by decide +kernel
theorem qJ5_setLength_d00df_12 : decode (mB mJ5_setLength_d00df) 12 = .ok (.athrow, 1) := by decide +kernel
theorem qJ5_setLength_d00df_13 : decode (mB mJ5_setLength_d00df) 13 = .ok (.aload_n 0, 1) := by decide +kernel
theorem qJ5_setLength_d00df_14 : decode (mB mJ5_setLength_d00df) 14 = .ok (.iload_n 1, 1) := by decide +kernel
theorem qJ5_setLength_d00df_15 : decode (mB mJ5_setLength_d00df) 15 = .ok (.invokevirtual 100, 3) := by decide +kernel
theorem qJ5_setLength_d00df_18 : decode (mB mJ5_setLength_d00df) 18 = .ok (.aload_n 0, 1) := by decide +kernel
theorem qJ5_setLength_d00df_19 : decode (mB mJ5_setLength_d00df) 19 = .ok (.getfield 79, 3) := by decide +kernel
theorem qJ5_setLength_d00df_22 : decode (mB mJ5_setLength_d00df) 22 = .ok (.iload_n 1, 1) := by decide +kernel
theorem qJ5_setLength_d00df_23 : decode (mB mJ5_setLength_d00df) 23 = .ok (.if_icmp .ge 40, 3) := by decide +kernel
theorem qJ5_setLength_d00df_26 : decode (mB mJ5_setLength_d00df) 26 = .ok (.aload_n 0, 1) := by decide +kernel
theorem qJ5_setLength_d00df_27 : decode (mB mJ5_setLength_d00df) 27 = .ok (.invokevirtual 83, 3) := by decide +kernel
theorem qJ5_setLength_d00df_30 : decode (mB mJ5_setLength_d00df) 30 = .ok (.ifCond .eq 18, 3) := by decide +kernel
theorem qJ5_setLength_d00df_33 : decode (mB mJ5_setLength_d00df) 33 = .ok (.aload_n 0, 1) := by decide +kernel
theorem qJ5_setLength_d00df_34 : decode (mB mJ5_setLength_d00df) 34 = .ok (.getfield 15, 3) := by decide +kernel
theorem qJ5_setLength_d00df_37 : decode (mB mJ5_setLength_d00df) 37 = .ok (.aload_n 0, 1) := by decide +kernel
theorem qJ5_setLength_d00df_38 : decode (mB mJ5_setLength_d00df) 38 = .ok (.getfield 79, 3) := by decide +kernel
theorem qJ5_setLength_d00df_41 : decode (mB mJ5_setLength_d00df) 41 = .ok (.iload_n 1, 1) := by decide +kernel
theorem qJ5_setLength_d00df_42 : decode (mB mJ5_setLength_d00df) 42 = .ok (.invokestatic 133, 3) := by decide +kernel
theorem qJ5_setLength_d00df_45 : decode (mB mJ5_setLength_d00df) 45 = .ok (.goto 31, 3) := by decide +kernel
theorem qJ5_setLength_d00df_48 : decode (mB mJ5_setLength_d00df) 48 = .ok (.aload_n 0, 1) := by decide +kernel
theorem qJ5_setLength_d00df_49 : decode (mB mJ5_setLength_d00df) 49 = .ok (.getfield 15, 3) := by decide +kernel
theorem qJ5_setLength_d00df_52 : decode (mB mJ5_setLength_d00df) 52 = .ok (.aload_n 0, 1) := by decide +kernel
theorem qJ5_setLength_d00df_53 : decode (mB mJ5_setLength_d00df) 53 = .ok (.getfield 79, 3) := by decide +kernel
theorem qJ5_setLength_d00df_56 : decode (mB mJ5_setLength_d00df) 56 = .ok (.iload_n 1, 1) := by decide +kernel
theorem qJ5_setLength_d00df_57 : decode (mB mJ5_setLength_d00df) 57 = .ok (.invokestatic 137, 3) := by decide +kernel
theorem qJ5_setLength_d00df_60 : decode (mB mJ5_setLength_d00df) 60 = .ok (.goto 16, 3) := by decide +kernel
theorem qJ5_setLength_d00df_63 : decode (mB mJ5_setLength_d00df) 63 = .ok (.aload_n 0, 1) := by decide +kernel
theorem qJ5_setLength_d00df_64 : decode (mB mJ5_setLength_d00df) 64 = .ok (.getfield 79, 3) := by decide +kernel
theorem qJ5_setLength_d00df_67 : decode (mB mJ5_setLength_d00df) 67 = .ok (.iload_n 1, 1) := by decide +kernel
theorem qJ5_setLength_d00df_68 : decode (mB mJ5_setLength_d00df) 68 = .ok (.if_icmp .le 8, 3) := by decide +kernel
theorem qJ5_setLength_d00df_71 : decode (mB mJ5_setLength_d00df) 71 = .ok (.aload_n 0, 1) := by decide +kernel
theorem qJ5_setLength_d00df_72 : decode (mB mJ5_setLength_d00df) 72 = .ok (.iconst 1, 1) := by decide +kernel
theorem qJ5_setLength_d00df_73 : decode (mB mJ5_setLength_d00df) 73 = .ok (.putfield 73, 3) := by decide +kernel
theorem qJ5_setLength_d00df_76 : decode (mB mJ5_setLength_d00df) 76 = .ok (.aload_n 0, 1) := by decide +kernel
theorem qJ5_setLength_d00df_77 : decode (mB mJ5_setLength_d00df) 77 = .ok (.iload_n 1, 1) := by decide +kernel
theorem qJ5_setLength_d00df_78 : decode (mB mJ5_setLength_d00df) 78 = .ok (.putfield 79, 3) := by decide +kernel
theorem qJ5_setLength_d00df_81 : decode (mB mJ5_setLength_d00df) 81 = .ok (.return_, 1) := by decide +kernel
theorem qJ6_getChars_ba4f3_0 : decode (mB mJ6_getChars_ba4f3) 0 = .ok (.iload_n 1, 1) := by decide +kernel
theorem qJ6_getChars_ba4f3_1 : decode (mB mJ6_getChars_ba4f3) 1 = .ok (.istore 5, 2) := by decide +kernel
theorem qJ6_getChars_ba4f3_3 : decode (mB mJ6_getChars_ba4f3) 3 = .ok (.iload_n 0, 1) := by decide +kernel
theorem qJ6_getChars_ba4f3_4 : decode (mB mJ6_getChars_ba4f3) 4 = .ok (.ifCond .ge 7, 3) := by decide +kernel
theorem qJ6_getChars_ba4f3_7 : decode (mB mJ6_getChars_ba4f3) 7 = .ok (.iconst 1, 1) := by decide +kernel
theorem qJ6_getChars_ba4f3_8 : decode (mB mJ6_getChars_ba4f3) 8 = .ok (.goto 4, 3) := by decide +kernel
theorem qJ6_getChars_ba4f3_11 : decode (mB mJ6_getChars_ba4f3) 11 = .ok (.iconst 0, 1) := by decide +kernel
theorem qJ6_getChars_ba4f3_12 : decode (mB mJ6_getChars_ba4f3) 12 = .ok (.istore 6, 2) := by decide +kernel
theorem qJ6_getChars_ba4f3_14 : decode (mB mJ6_getChars_ba4f3) 14 = .ok (.iload 6, 2) := by decide +kernel
theorem qJ6_getChars_ba4f3_16 : decode (mB mJ6_getChars_ba4f3) 16 = .ok (.ifCond .ne 6, 3) := by decide +kernel
theorem qJ6_getChars_ba4f3_19 : decode (mB mJ6_getChars_ba4f3) 19 = .ok (.iload_n 0, 1) := by decide +kernel
theorem qJ6_getChars_ba4f3_20 : decode (mB mJ6_getChars_ba4f3) 20 = .ok (.ineg, 1) := by decide +kernel
theorem qJ6_getChars_ba4f3_21 : decode (mB mJ6_getChars_ba4f3) 21 = .ok (.istore_n 0, 1) := by decide +kernel
theorem qJ6_getChars_ba4f3_22 : decode (mB mJ6_getChars_ba4f3) 22 = .ok (.iload_n 0, 1) := by decide +kernel
theorem qJ6_getChars_ba4f3_23 : decode (mB mJ6_getChars_ba4f3) 23 = .ok (.bipush (-100), 2) := by decide +kernel
theorem qJ6_getChars_ba4f3_25 : decode (mB mJ6_getChars_ba4f3) 25 = .ok (.if_icmp .gt 47, 3) := by decide +kernel
theorem qJ6_getChars_ba4f3_28 : decode (mB mJ6_getChars_ba4f3) 28 = .ok (.iload_n 0, 1) := by decide +kernel
theorem qJ6_getChars_ba4f3_29 : decode (mB mJ6_getChars_ba4f3) 29 = .ok (.bipush 100, 2) := by decide +kernel
theorem qJ6_getChars_ba4f3_31 : decode (mB mJ6_getChars_ba4f3) 31 = .ok (.idiv, 1) := by decide +kernel
theorem qJ6_getChars_ba4f3_32 : decode (mB mJ6_getChars_ba4f3) 32 = .ok (.istore_n 3, 1) := by decide +kernel
theorem qJ6_getChars_ba4f3_33 : decode (mB mJ6_getChars_ba4f3) 33 = .ok (.iload_n 3, 1) := by decide +kernel
theorem qJ6_getChars_ba4f3_34 : decode (mB mJ6_getChars_ba4f3) 34 = .ok (.bipush 100, 2) := by decide +kernel
theorem qJ6_getChars_ba4f3_36 : decode (mB mJ6_getChars_ba4f3) 36 = .ok (.imul, 1) := by decide +kernel
theorem qJ6_getChars_ba4f3_37 : decode (mB mJ6_getChars_ba4f3) 37 = .ok (.iload_n 0, 1) := by decide +kernel
theorem qJ6_getChars_ba4f3_38 : decode (mB mJ6_getChars_ba4f3) 38 = .ok (.isub, 1) := by decide +kernel
theorem qJ6_getChars_ba4f3_39 : decode (mB mJ6_getChars_ba4f3) 39 = .ok (.istore 4, 2) := by decide +kernel
theorem qJ6_getChars_ba4f3_41 : decode (mB mJ6_getChars_ba4f3) 41 = .ok (.iload_n 3, 1) := by decide +kernel
theorem qJ6_getChars_ba4f3_42 : decode (mB mJ6_getChars_ba4f3) 42 = .ok (.istore_n 0, 1) := by decide +kernel
theorem qJ6_getChars_ba4f3_43 : decode (mB mJ6_getChars_ba4f3) 43 = .ok (.aload_n 2, 1) := by decide +kernel
theorem qJ6_getChars_ba4f3_44 : decode (mB mJ6_getChars_ba4f3) 44 = .ok (.iinc 5 (-1), 3) := by decide +kernel
theorem qJ6_getChars_ba4f3_47 : decode (mB mJ6_getChars_ba4f3) 47 = .ok (.iload 5, 2) := by decide +kernel
theorem qJ6_getChars_ba4f3_49 : decode (mB mJ6_getChars_ba4f3) 49 = .ok (.getstatic 83, 3) := by decide +kernel
theorem qJ6_getChars_ba4f3_52 : decode (mB mJ6_getChars_ba4f3) 52 = .ok (.iload 4, 2) := by decide +kernel
theorem qJ6_getChars_ba4f3_54 : decode (mB mJ6_getChars_ba4f3) 54 = .ok (.baload, 1) := by decide +kernel
theorem qJ6_getChars_ba4f3_55 : decode (mB mJ6_getChars_ba4f3) 55 = .ok (.bastore, 1) := by decide +kernel
theorem qJ6_getChars_ba4f3_56 : decode (mB mJ6_getChars_ba4f3) 56 = .ok (.aload_n 2, 1) := by decide +kernel
theorem qJ6_getChars_ba4f3_57 : decode (mB mJ6_getChars_ba4f3) 57 = .ok (.iinc 5 (-1), 3) := by decide +kernel
theorem qJ6_getChars_ba4f3_60 : decode (mB mJ6_getChars_ba4f3) 60 = .ok (.iload 5, 2) := by decide +kernel
theorem qJ6_getChars_ba4f3_62 : decode (mB mJ6_getChars_ba4f3) 62 = .ok (.getstatic 87, 3) := by decide +kernel
theorem qJ6_getChars_ba4f3_65 : decode (mB mJ6_getChars_ba4f3) 65 = .ok (.iload 4, 2) := by decide +kernel
theorem qJ6_getChars_ba4f3_67 : decode (mB mJ6_getChars_ba4f3) 67 = .ok (.baload, 1) := by decide +kernel
theorem qJ6_getChars_ba4f3_68 : decode (mB mJ6_getChars_ba4f3) 68 = .ok (.bastore, 1) := by decide +kernel
theorem qJ6_getChars_ba4f3_69 : decode (mB mJ6_getChars_ba4f3) 69 = .ok (.goto (-47), 3) := by decide +kernel
theorem qJ6_getChars_ba4f3_72 : decode (mB mJ6_getChars_ba4f3) 72 = .ok (.aload_n 2, 1) := by decide +kernel
theorem qJ6_getChars_ba4f3_73 : decode (mB mJ6_getChars_ba4f3) 73 = .ok (.iinc 5 (-1), 3) := by decide +kernel
theorem qJ6_getChars_ba4f3_76 : decode (mB mJ6_getChars_ba4f3) 76 = .ok (.iload 5, 2) := by decide +kernel
theorem qJ6_getChars_ba4f3_78 : decode (mB mJ6_getChars_ba4f3) 78 = .ok (.getstatic 83, 3) := by decide +kernel
theorem qJ6_getChars_ba4f3_81 : decode (mB mJ6_getChars_ba4f3) 81 = .ok (.iload_n 0, 1) := by decide +kernel
theorem qJ6_getChars_ba4f3_82 : decode (mB mJ6_getChars_ba4f3) 82 = .ok (.ineg, 1) := by decide +kernel
theorem qJ6_getChars_ba4f3_83 : decode (mB mJ6_getChars_ba4f3) 83 = .ok (.baload, 1) := by decide +kernel
theorem qJ6_getChars_ba4f3_84 : decode (mB mJ6_getChars_ba4f3) 84 = .ok (.bastore, 1) := by decide +kernel
theorem qJ6_getChars_ba4f3_85 : decode (mB mJ6_getChars_ba4f3) 85 = .ok (.iload_n 0, 1) := by decide +kernel
theorem qJ6_getChars_ba4f3_86 : decode (mB mJ6_getChars_ba4f3) 86 = .ok (.bipush (-9), 2) := by decide +kernel
theorem qJ6_getChars_ba4f3_88 : decode (mB mJ6_getChars_ba4f3) 88 = .ok (.if_icmp .ge 16, 3) := by decide +kernel
theorem qJ6_getChars_ba4f3_91 : decode (mB mJ6_getChars_ba4f3) 91 = .ok (.aload_n 2, 1) := by decide +kernel
theorem qJ6_getChars_ba4f3_92 : decode (mB mJ6_getChars_ba4f3) 92 = .ok (.iinc 5 (-1), 3) := by decide +kernel
theorem qJ6_getChars_ba4f3_95 : decode (mB mJ6_getChars_ba4f3) 95 = .ok (.iload 5, 2) := by decide +kernel
theorem qJ6_getChars_ba4f3_97 : decode (mB mJ6_getChars_ba4f3) 97 = .ok (.getstatic 87, 3) := by decide +kernel
theorem qJ6_getChars_ba4f3_100 : decode (mB mJ6_getChars_ba4f3) 100 = .ok (.iload_n 0, 1) := by decide +kernel
theorem qJ6_getChars_ba4f3_101 : decode (mB mJ6_getChars_ba4f3) 101 = .ok (.ineg, 1) := by decide +kernel
theorem qJ6_getChars_ba4f3_102 : decode (mB mJ6_getChars_ba4f3) 102 = .ok (.baload, 1) := by decide +kernel
theorem qJ6_getChars_ba4f3_103 : decode (mB mJ6_getChars_ba4f3) 103 = .ok (.bastore, 1) := by decide +kernel
theorem qJ6_getChars_ba4f3_104 : decode (mB mJ6_getChars_ba4f3) 104 = .ok (.iload 6, 2) := by decide +kernel
theorem qJ6_getChars_ba4f3_106 : decode (mB mJ6_getChars_ba4f3) 106 = .ok (.ifCond .eq 12, 3) := by decide +kernel
theorem qJ6_getChars_ba4f3_109 : decode (mB mJ6_getChars_ba4f3) 109 = .ok (.aload_n 2, 1) := by decide +kernel
theorem qJ6_getChars_ba4f3_110 : decode (mB mJ6_getChars_ba4f3) 110 = .ok (.iinc 5 (-1), 3) := by decide +kernel
theorem qJ6_getChars_ba4f3_113 : decode (mB mJ6_getChars_ba4f3) 113 = .ok (.iload 5, 2) := by decide +kernel
theorem qJ6_getChars_ba4f3_115 : decode (mB mJ6_getChars_ba4f3) 115 = .ok (.bipush 45, 2) := by decide +kernel
theorem qJ6_getChars_ba4f3_117 : decode (mB mJ6_getChars_ba4f3) 117 = .ok (.bastore, 1) := by decide +kernel
theorem qJ6_getChars_ba4f3_118 : decode (mB mJ6_getChars_ba4f3) 118 = .ok (.iload 5, 2) := by decide +kernel
theorem qJ6_getChars_ba4f3_120 : decode (mB mJ6_getChars_ba4f3) 120 = .ok (.ireturn, 1) := by decide +kernel
theorem qJ6_stringSize_0f7a4_0 : decode (mB mJ6_stringSize_0f7a4) 0 = .ok (.iconst 1, 1) := by decide +kernel
theorem qJ6_stringSize_0f7a4_1 : decode (mB mJ6_stringSize_0f7a4) 1 = .ok (.istore_n 1, 1) := by decide +kernel
theorem qJ6_stringSize_0f7a4_2 : decode (mB mJ6_stringSize_0f7a4) 2 = .ok (.iload_n 0, 1) := by decide +kernel
theorem qJ6_stringSize_0f7a4_3 : decode (mB mJ6_stringSize_0f7a4) 3 = .ok (.ifCond .lt 8, 3) := by decide +kernel
theorem qJ6_stringSize_0f7a4_6 : decode (mB mJ6_stringSize_0f7a4) 6 = .ok (.iconst 0, 1) := by decide +kernel
theorem qJ6_stringSize_0f7a4_7 : decode (mB mJ6_stringSize_0f7a4) 7 = .ok (.istore_n 1, 1) := by decide +kernel
theorem qJ6_stringSize_0f7a4_8 : decode (mB mJ6_stringSize_0f7a4) 8 = .ok (.iload_n 0, 1) := by decide +kernel
theorem qJ6_stringSize_0f7a4_9 : decode (mB mJ6_stringSize_0f7a4) 9 = .ok (.ineg, 1) := by decide +kernel
theorem qJ6_stringSize_0f7a4_10 : decode (mB mJ6_stringSize_0f7a4) 10 = .ok (.istore_n 0, 1) := by decide +kernel
theorem qJ6_stringSize_0f7a4_11 : decode (mB mJ6_stringSize_0f7a4) 11 = .ok (.bipush (-10), 2) := by decide +kernel
theorem qJ6_stringSize_0f7a4_13 : decode (mB mJ6_stringSize_0f7a4) 13 = .ok (.istore_n 2, 1) := by decide +kernel
theorem qJ6_stringSize_0f7a4_14 : decode (mB mJ6_stringSize_0f7a4) 14 = .ok (.iconst 1, 1) := by decide +kernel
theorem qJ6_stringSize_0f7a4_15 : decode (mB mJ6_stringSize_0f7a4) 15 = .ok (.istore_n 3, 1) := by decide +kernel
theorem qJ6_stringSize_0f7a4_16 : decode (mB mJ6_stringSize_0f7a4) 16 = .ok (.iload_n 3, 1) := by decide +kernel
theorem qJ6_stringSize_0f7a4_17 : decode (mB mJ6_stringSize_0f7a4) 17 = .ok (.bipush 10, 2) := by decide +kernel
theorem qJ6_stringSize_0f7a4_19 : decode (mB mJ6_stringSize_0f7a4) 19 = .ok (.if_icmp .ge 23, 3) := by decide +kernel
theorem qJ6_stringSize_0f7a4_22 : decode (mB mJ6_stringSize_0f7a4) 22 = .ok (.iload_n 0, 1) := by decide +kernel
theorem qJ6_stringSize_0f7a4_23 : decode (mB mJ6_stringSize_0f7a4) 23 = .ok (.iload_n 2, 1) := by decide +kernel
theorem qJ6_stringSize_0f7a4_24 : decode (mB mJ6_stringSize_0f7a4) 24 = .ok (.if_icmp .le 7, 3) := by decide +kernel
theorem qJ6_stringSize_0f7a4_27 : decode (mB mJ6_stringSize_0f7a4) 27 = .ok (.iload_n 3, 1) := by decide +kernel
theorem qJ6_stringSize_0f7a4_28 : decode (mB mJ6_stringSize_0f7a4) 28 = .ok (.iload_n 1, 1) := by decide +kernel
theorem qJ6_stringSize_0f7a4_29 : decode (mB mJ6_stringSize_0f7a4) 29 = .ok (.iadd, 1) := by decide +kernel
theorem qJ6_stringSize_0f7a4_30 : decode (mB mJ6_stringSize_0f7a4) 30 = .ok (.ireturn, 1) := by decide +kernel
theorem qJ6_stringSize_0f7a4_31 : decode (mB mJ6_stringSize_0f7a4) 31 = .ok (.bipush 10, 2) := by decide +kernel
theorem qJ6_stringSize_0f7a4_33 : decode (mB mJ6_stringSize_0f7a4) 33 = .ok (.iload_n 2, 1) := by decide +kernel
theorem qJ6_stringSize_0f7a4_34 : decode (mB mJ6_stringSize_0f7a4) 34 = .ok (.imul, 1) := by decide +kernel
theorem qJ6_stringSize_0f7a4_35 : decode (mB mJ6_stringSize_0f7a4) 35 = .ok (.istore_n 2, 1) := by decide +kernel
theorem qJ6_stringSize_0f7a4_36 : decode (mB mJ6_stringSize_0f7a4) 36 = .ok (.iinc 3 1, 3) := by decide +kernel
theorem qJ6_stringSize_0f7a4_39 : decode (mB mJ6_stringSize_0f7a4) 39 = .ok (.goto (-23), 3) := by decide +kernel
theorem qJ6_stringSize_0f7a4_42 : decode (mB mJ6_stringSize_0f7a4) 42 = .ok (.bipush 10, 2) := by decide +kernel
theorem qJ6_stringSize_0f7a4_44 : decode (mB mJ6_stringSize_0f7a4) 44 = .ok (.iload_n 1, 1) := by decide +kernel
theorem qJ6_stringSize_0f7a4_45 : decode (mB mJ6_stringSize_0f7a4) 45 = .ok (.iadd, 1) := by decide +kernel
theorem qJ6_stringSize_0f7a4_46 : decode (mB mJ6_stringSize_0f7a4) 46 = .ok (.ireturn, 1) := by decide +kernel
theorem qJ7_checkLength_df160_0 : decode (mB mJ7_checkLength_df160) 0 = .ok (.iload_n 1, 1) := by decide +kernel
theorem qJ7_checkLength_df160_1 : decode (mB mJ7_checkLength_df160) 1 = .ok (.iload_n 0, 1) := by decide +kernel
theorem qJ7_checkLength_df160_2 : decode (mB mJ7_checkLength_df160) 2 = .ok (.if_icmp .ge 35, 3) := by decide +kernel
theorem qJ7_checkLength_df160_5 : decode (mB mJ7_checkLength_df160) 5 = .ok (.new 43, 3) := by decide +kernel
theorem qJ7_checkLength_df160_8 : decode (mB mJ7_checkLength_df160) 8 = .ok (.dup, 1) := by decide +kernel
theorem qJ7_checkLength_df160_9 : decode (mB mJ7_checkLength_df160) 9 = .ok (.new 45, 3) := by decide +kernel
theorem qJ7_checkLength_df160_12 : decode (mB mJ7_checkLength_df160) 12 = .ok (.dup, 1) := by decide +kernel
theorem qJ7_checkLength_df160_13 : decode (mB mJ7_checkLength_df160) 13 = .ok (.invokespecial 47, 3) := by decide +kernel
theorem qJ7_checkLength_df160_16 : decode (mB mJ7_checkLength_df160) 16 = .ok (.iload_n 0, 1) := by decide +kernel
theorem qJ7_checkLength_df160_17 : decode (mB mJ7_checkLength_df160) 17 = .ok (.invokevirtual 54, 3) := by decide +kernel
theorem qJ7_checkLength_df160_20 : decode (mB mJ7_checkLength_df160) 20 = .ok (.ldc_w 337, 3) := by decide +kernel
theorem qJ7_checkLength_df160_23 : decode (mB mJ7_checkLength_df160) 23 = .ok (.invokevirtual 50, 3) := by decide +kernel
theorem qJ7_checkLength_df160_26 : decode (mB mJ7_checkLength_df160) 26 = .ok (.iload_n 1, 1) := by decide +kernel
theorem qJ7_checkLength_df160_27 : decode (mB mJ7_checkLength_df160) 27 = .ok (.invokevirtual 54, 3) := by decide +kernel
theorem qJ7_checkLength_df160_30 : decode (mB mJ7_checkLength_df160) 30 = .ok (.invokevirtual 61, 3) := by decide +kernel
theorem qJ7_checkLength_df160_33 : decode (mB mJ7_checkLength_df160) 33 = .ok (.invokespecial 65, 3) := by decide +kernel
theorem qJ7_checkLength_df160_36 : decode (mB mJ7_checkLength_df160) 36 = .ok (.athrow, 1) := by decide +kernel
theorem qJ7_checkLength_df160_37 : decode (mB mJ7_checkLength_df160) 37 = .ok (.return_, 1) := by decide +kernel
theorem qJ7_copyOfRangeByte_39247_0 : decode (mB mJ7_copyOfRangeByte_39247) 0 = .ok (.iload_n 1, 1) := by decide +kernel
theorem qJ7_copyOfRangeByte_39247_1 : decode (mB mJ7_copyOfRangeByte_39247) 1 = .ok (.iload_n 2, 1) := by decide +kernel
theorem qJ7_copyOfRangeByte_39247_2 : decode (mB mJ7_copyOfRangeByte_39247) 2 = .ok (.invokestatic 343, 3) := by decide +kernel
theorem qJ7_copyOfRangeByte_39247_5 : decode (mB mJ7_copyOfRangeByte_39247) 5 = .ok (.iload_n 2, 1) := by decide +kernel
theorem qJ7_copyOfRangeByte_39247_6 : decode (mB mJ7_copyOfRangeByte_39247) 6 = .ok (.iload_n 1, 1) := by decide +kernel
theorem qJ7_copyOfRangeByte_39247_7 : decode (mB mJ7_copyOfRangeByte_39247) 7 = .ok (.isub, 1) := by decide +kernel
theorem qJ7_copyOfRangeByte_39247_8 : decode (mB mJ7_copyOfRangeByte_39247) 8 = .ok (.istore_n 3, 1) := by decide +kernel
theorem qJ7_copyOfRangeByte_39247_9 : decode (mB mJ7_copyOfRangeByte_39247) 9 = .ok (.iload_n 3, 1) := by decide +kernel
theorem qJ7_copyOfRangeByte_39247_10 : decode (mB mJ7_copyOfRangeByte_39247) 10 = .ok (.newarray .byte, 2) := by decide +kernel
theorem qJ7_copyOfRangeByte_39247_12 : decode (mB mJ7_copyOfRangeByte_39247) 12 = .ok (.astore 4, 2) := by decide +kernel
theorem qJ7_copyOfRangeByte_39247_14 : decode (mB mJ7_copyOfRangeByte_39247) 14 = .ok (.aload_n 0, 1) := by decide +kernel
theorem qJ7_copyOfRangeByte_39247_15 : decode (mB mJ7_copyOfRangeByte_39247) 15 = .ok (.iload_n 1, 1) := by decide +kernel
theorem qJ7_copyOfRangeByte_39247_16 : decode (mB mJ7_copyOfRangeByte_39247) 16 = .ok (.aload 4, 2) := by decide +kernel
theorem qJ7_copyOfRangeByte_39247_18 : decode (mB mJ7_copyOfRangeByte_39247) 18 = .ok (.iconst 0, 1) := by decide +kernel
theorem qJ7_copyOfRangeByte_39247_19 : decode (mB mJ7_copyOfRangeByte_39247) 19 = .ok (.aload_n 0, 1) := by decide +kernel
theorem qJ7_copyOfRangeByte_39247_20 : decode (mB mJ7_copyOfRangeByte_39247) 20 = .ok (.arraylength, 1) := by decide +kernel
theorem qJ7_copyOfRangeByte_39247_21 : decode (mB mJ7_copyOfRangeByte_39247) 21 = .ok (.iload_n 1, 1) := by decide +kernel
theorem qJ7_copyOfRangeByte_39247_22 : decode (mB mJ7_copyOfRangeByte_39247) 22 = .ok (.isub, 1) := by decide +kernel
theorem qJ7_copyOfRangeByte_39247_23 : decode (mB mJ7_copyOfRangeByte_39247) 23 = .ok (.iload_n 3, 1) := by decide +kernel
theorem qJ7_copyOfRangeByte_39247_24 : decode (mB mJ7_copyOfRangeByte_39247) 24 = .ok (.invokestatic 304, 3) := by decide +kernel
theorem qJ7_copyOfRangeByte_39247_27 : decode (mB mJ7_copyOfRangeByte_39247) 27 = .ok (.invokestatic 150, 3) := by decide +kernel
theorem qJ7_copyOfRangeByte_39247_30 : decode (mB mJ7_copyOfRangeByte_39247) 30 = .ok (.aload 4, 2) := by decide +kernel
theorem qJ7_copyOfRangeByte_39247_32 : decode (mB mJ7_copyOfRangeByte_39247) 32 = .ok (.areturn, 1) := by decide +kernel
theorem qJ7_copyOfRange_39247_0 : decode (mB mJ7_copyOfRange_39247) 0 = .ok (.iload_n 1, 1) := by decide +kernel
theorem qJ7_copyOfRange_39247_1 : decode (mB mJ7_copyOfRange_39247) 1 = .ok (.ifCond .ne 9, 3) := by decide +kernel
theorem qJ7_copyOfRange_39247_4 : decode (mB mJ7_copyOfRange_39247) 4 = .ok (.iload_n 2, 1) := by decide +kernel
theorem qJ7_copyOfRange_39247_5 : decode (mB mJ7_copyOfRange_39247) 5 = .ok (.aload_n 0, 1) := by decide +kernel
theorem qJ7_copyOfRange_39247_6 : decode (mB mJ7_copyOfRange_39247) 6 = .ok (.arraylength, 1) := by decide +kernel
theorem qJ7_copyOfRange_39247_7 : decode (mB mJ7_copyOfRange_39247) 7 = .ok (.if_icmp .eq 10, 3) := by decide +kernel
theorem qJ7_copyOfRange_39247_10 : decode (mB mJ7_copyOfRange_39247) 10 = .ok (.aload_n 0, 1) := by decide +kernel
theorem qJ7_copyOfRange_39247_11 : decode (mB mJ7_copyOfRange_39247) 11 = .ok (.iload_n 1, 1) := by decide +kernel
theorem qJ7_copyOfRange_39247_12 : decode (mB mJ7_copyOfRange_39247) 12 = .ok (.iload_n 2, 1) := by decide +kernel
theorem qJ7_copyOfRange_39247_13 : decode (mB mJ7_copyOfRange_39247) 13 = .ok (.invokestatic 339, 3) := by decide +kernel
theorem qJ7_copyOfRange_39247_16 : decode (mB mJ7_copyOfRange_39247) 16 = .ok (.areturn, 1) := by decide +kernel
theorem qJ7_copyOfRange_39247_17 : decode (mB mJ7_copyOfRange_39247) 17 = .ok (.aload_n 0, 1) := by decide +kernel
theorem qJ7_copyOfRange_39247_18 : decode (mB mJ7_copyOfRange_39247) 18 = .ok (.invokevirtual 310, 3) := by decide +kernel
theorem qJ7_copyOfRange_39247_21 : decode (mB mJ7_copyOfRange_39247) 21 = .ok (.checkcast 311, 3) := by decide +kernel
theorem qJ7_copyOfRange_39247_24 : decode (mB mJ7_copyOfRange_39247) 24 = .ok (.areturn, 1) := by decide +kernel
theorem qJ7_copyOf_9075b_0 : decode (mB mJ7_copyOf_9075b) 0 = .ok (.iload_n 1, 1) := by decide +kernel
theorem qJ7_copyOf_9075b_1 : decode (mB mJ7_copyOf_9075b) 1 = .ok (.aload_n 0, 1) := by decide +kernel
theorem qJ7_copyOf_9075b_2 : decode (mB mJ7_copyOf_9075b) 2 = .ok (.arraylength, 1) := by decide +kernel
theorem qJ7_copyOf_9075b_3 : decode (mB mJ7_copyOf_9075b) 3 = .ok (.if_icmp .ne 11, 3) := by decide +kernel
theorem qJ7_copyOf_9075b_6 : decode (mB mJ7_copyOf_9075b) 6 = .ok (.aload_n 0, 1) := by decide +kernel
theorem qJ7_copyOf_9075b_7 : decode (mB mJ7_copyOf_9075b) 7 = .ok (.invokevirtual 310, 3) := by decide +kernel
theorem qJ7_copyOf_9075b_10 : decode (mB mJ7_copyOf_9075b) 10 = .ok (.checkcast 311, 3) := by decide +kernel
theorem qJ7_copyOf_9075b_13 : decode (mB mJ7_copyOf_9075b) 13 = .ok (.areturn, 1) := by decide +kernel
theorem qJ7_copyOf_9075b_14 : decode (mB mJ7_copyOf_9075b) 14 = .ok (.iload_n 1, 1) := by decide +kernel
theorem qJ7_copyOf_9075b_15 : decode (mB mJ7_copyOf_9075b) 15 = .ok (.newarray .byte, 2) := by decide +kernel
theorem qJ7_copyOf_9075b_17 : decode (mB mJ7_copyOf_9075b) 17 = .ok (.astore_n 2, 1) := by decide +kernel
theorem qJ7_copyOf_9075b_18 : decode (mB mJ7_copyOf_9075b) 18 = .ok (.aload_n 0, 1) := by decide +kernel
theorem qJ7_copyOf_9075b_19 : decode (mB mJ7_copyOf_9075b) 19 = .ok (.iconst 0, 1) := by decide +kernel
theorem qJ7_copyOf_9075b_20 : decode (mB mJ7_copyOf_9075b) 20 = .ok (.aload_n 2, 1) := by decide +kernel
theorem qJ7_copyOf_9075b_21 : decode (mB mJ7_copyOf_9075b) 21 = .ok (.iconst 0, 1) := by decide +kernel
theorem qJ7_copyOf_9075b_22 : decode (mB mJ7_copyOf_9075b) 22 = .ok (.aload_n 0, 1) := by decide +kernel
theorem qJ7_copyOf_9075b_23 : decode (mB mJ7_copyOf_9075b) 23 = .ok (.arraylength, 1) := by decide +kernel
theorem qJ7_copyOf_9075b_24 : decode (mB mJ7_copyOf_9075b) 24 = .ok (.iload_n 1, 1) := by decide +kernel
theorem qJ7_copyOf_9075b_25 : decode (mB mJ7_copyOf_9075b) 25 = .ok (.invokestatic 304, 3) := by decide +kernel
theorem qJ7_copyOf_9075b_28 : decode (mB mJ7_copyOf_9075b) 28 = .ok (.invokestatic 150, 3) := by decide +kernel
theorem qJ7_copyOf_9075b_31 : decode (mB mJ7_copyOf_9075b) 31 = .ok (.aload_n 2, 1) := by decide +kernel
theorem qJ7_copyOf_9075b_32 : decode (mB mJ7_copyOf_9075b) 32 = .ok (.areturn, 1) := by decide +kernel
theorem qJ7_fill_eb02e_0 : decode (mB mJ7_fill_eb02e) 0 = .ok (.aload_n 0, 1) := by decide +kernel
theorem qJ7_fill_eb02e_1 : decode (mB mJ7_fill_eb02e) 1 = .ok (.arraylength, 1) := by decide +kernel
theorem qJ7_fill_eb02e_2 : decode (mB mJ7_fill_eb02e) 2 = .ok (.iload_n 1, 1) := by decide +kernel
theorem qJ7_fill_eb02e_3 : decode (mB mJ7_fill_eb02e) 3 = .ok (.iload_n 2, 1) := by decide +kernel
theorem qJ7_fill_eb02e_4 : decode (mB mJ7_fill_eb02e) 4 = .ok (.invokestatic 13, 3) := by decide +kernel
theorem qJ7_fill_eb02e_7 : decode (mB mJ7_fill_eb02e) 7 = .ok (.iload_n 1, 1) := by decide +kernel
theorem qJ7_fill_eb02e_8 : decode (mB mJ7_fill_eb02e) 8 = .ok (.istore 4, 2) := by decide +kernel
theorem qJ7_fill_eb02e_10 : decode (mB mJ7_fill_eb02e) 10 = .ok (.iload 4, 2) := by decide +kernel
theorem qJ7_fill_eb02e_12 : decode (mB mJ7_fill_eb02e) 12 = .ok (.iload_n 2, 1) := by decide +kernel
theorem qJ7_fill_eb02e_13 : decode (mB mJ7_fill_eb02e) 13 = .ok (.if_icmp .ge 14, 3) := by decide +kernel
theorem qJ7_fill_eb02e_16 : decode (mB mJ7_fill_eb02e) 16 = .ok (.aload_n 0, 1) := by decide +kernel
theorem qJ7_fill_eb02e_17 : decode (mB mJ7_fill_eb02e) 17 = .ok (.iload 4, 2) := by decide +kernel
theorem qJ7_fill_eb02e_19 : decode (mB mJ7_fill_eb02e) 19 = .ok (.iload_n 3, 1) := by decide +kernel
theorem qJ7_fill_eb02e_20 : decode (mB mJ7_fill_eb02e) 20 = .ok (.bastore, 1) := by decide +kernel
theorem qJ7_fill_eb02e_21 : decode (mB mJ7_fill_eb02e) 21 = .ok (.iinc 4 1, 3) := by decide +kernel
theorem qJ7_fill_eb02e_24 : decode (mB mJ7_fill_eb02e) 24 = .ok (.goto (-14), 3) := by decide +kernel
theorem qJ7_fill_eb02e_27 : decode (mB mJ7_fill_eb02e) 27 = .ok (.return_, 1) := by decide +kernel
theorem qJ7_rangeCheck_23922_0 : decode (mB mJ7_rangeCheck_23922) 0 = .ok (.iload_n 1, 1) := by decide +kernel
theorem qJ7_rangeCheck_23922_1 : decode (mB mJ7_rangeCheck_23922) 1 = .ok (.iload_n 2, 1) := by decide +kernel
theorem qJ7_rangeCheck_23922_2 : decode (mB mJ7_rangeCheck_23922) 2 = .ok (.if_icmp .le 44, 3) := by decide +kernel
theorem qJ7_rangeCheck_23922_5 : decode (mB mJ7_rangeCheck_23922) 5 = .ok (.new 43, 3) := by decide +kernel
theorem qJ7_rangeCheck_23922_8 : decode (mB mJ7_rangeCheck_23922) 8 = .ok (.dup, 1) := by decide +kernel
theorem qJ7_rangeCheck_23922_9 : decode (mB mJ7_rangeCheck_23922) 9 = .ok (.new 45, 3) := by decide +kernel
theorem qJ7_rangeCheck_23922_12 : decode (mB mJ7_rangeCheck_23922) 12 = .ok (.dup, 1) := by decide +kernel
theorem qJ7_rangeCheck_23922_13 : decode (mB mJ7_rangeCheck_23922) 13 = .ok (.invokespecial 47, 3) := by decide +kernel
theorem qJ7_rangeCheck_23922_16 : decode (mB mJ7_rangeCheck_23922) 16 = .ok (.ldc 48, 2) := by decide +kernel
theorem qJ7_rangeCheck_23922_18 : decode (mB mJ7_rangeCheck_23922) 18 = .ok (.invokevirtual 50, 3) := by decide +kernel
theorem qJ7_rangeCheck_23922_21 : decode (mB mJ7_rangeCheck_23922) 21 = .ok (.iload_n 1, 1) := by decide +kernel
theorem qJ7_rangeCheck_23922_22 : decode (mB mJ7_rangeCheck_23922) 22 = .ok (.invokevirtual 54, 3) := by decide +kernel
theorem qJ7_rangeCheck_23922_25 : decode (mB mJ7_rangeCheck_23922) 25 = .ok (.ldc 57, 2) := by decide +kernel
theorem qJ7_rangeCheck_23922_27 : decode (mB mJ7_rangeCheck_23922) 27 = .ok (.invokevirtual 50, 3) := by decide +kernel
theorem qJ7_rangeCheck_23922_30 : decode (mB mJ7_rangeCheck_23922) 30 = .ok (.iload_n 2, 1) := by decide +kernel
theorem qJ7_rangeCheck_23922_31 : decode (mB mJ7_rangeCheck_23922) 31 = .ok (.invokevirtual 54, 3) := by decide +kernel
theorem qJ7_rangeCheck_23922_34 : decode (mB mJ7_rangeCheck_23922) 34 = .ok (.ldc 59, 2) := by decide +kernel
theorem qJ7_rangeCheck_23922_36 : decode (mB mJ7_rangeCheck_23922) 36 = .ok (.invokevirtual 50, 3) := by decide +kernel
theorem qJ7_rangeCheck_23922_39 : decode (mB mJ7_rangeCheck_23922) 39 = .ok (.invokevirtual 61, 3) := by decide +kernel
theorem qJ7_rangeCheck_23922_42 : decode (mB mJ7_rangeCheck_23922) 42 = .ok (.invokespecial 65, 3) := by decide +kernel
theorem qJ7_rangeCheck_23922_45 : decode (mB mJ7_rangeCheck_23922) 45 = .ok (.athrow, 1) := by decide +kernel
theorem qJ7_rangeCheck_23922_46 : decode (mB mJ7_rangeCheck_23922) 46 = .ok (.iload_n 1, 1) := by decide +kernel
theorem qJ7_rangeCheck_23922_47 : decode (mB mJ7_rangeCheck_23922) 47 = .ok (.ifCond .ge 12, 3) := by decide +kernel
theorem qJ7_rangeCheck_23922_50 : decode (mB mJ7_rangeCheck_23922) 50 = .ok (.new 68, 3) := by decide +kernel
theorem qJ7_rangeCheck_23922_53 : decode (mB mJ7_rangeCheck_23922) 53 = .ok (.dup, 1) := by decide +kernel
theorem qJ7_rangeCheck_23922_54 : decode (mB mJ7_rangeCheck_23922) 54 = .ok (.iload_n 1, 1) := by decide +kernel
theorem qJ7_rangeCheck_23922_55 : decode (mB mJ7_rangeCheck_23922) 55 = .ok (.invokespecial 70, 3) := by decide +kernel
theorem qJ7_rangeCheck_23922_58 : decode (mB mJ7_rangeCheck_23922) 58 = .ok (.athrow, 1) := by decide +kernel
theorem qJ7_rangeCheck_23922_59 : decode (mB mJ7_rangeCheck_23922) 59 = .ok (.iload_n 2, 1) := by decide +kernel
theorem qJ7_rangeCheck_23922_60 : decode (mB mJ7_rangeCheck_23922) 60 = .ok (.iload_n 0, 1) := by decide +kernel
theorem qJ7_rangeCheck_23922_61 : decode (mB mJ7_rangeCheck_23922) 61 = .ok (.if_icmp .le 12, 3) := by decide +kernel
theorem qJ7_rangeCheck_23922_64 : decode (mB mJ7_rangeCheck_23922) 64 = .ok (.new 68, 3) := by decide +kernel
theorem qJ7_rangeCheck_23922_67 : decode (mB mJ7_rangeCheck_23922) 67 = .ok (.dup, 1) := by decide +kernel
theorem qJ7_rangeCheck_23922_68 : decode (mB mJ7_rangeCheck_23922) 68 = .ok (.iload_n 2, 1) := by decide +kernel
theorem qJ7_rangeCheck_23922_69 : decode (mB mJ7_rangeCheck_23922) 69 = .ok (.invokespecial 70, 3) := by decide +kernel
theorem qJ7_rangeCheck_23922_72 : decode (mB mJ7_rangeCheck_23922) 72 = .ok (.athrow, 1) := by decide +kernel
theorem qJ7_rangeCheck_23922_73 : decode (mB mJ7_rangeCheck_23922) 73 = .ok (.return_, 1) := by decide +kernel
theorem qJ8_hugeLength_7cf53_0 : decode (mB mJ8_hugeLength_7cf53) 0 = .ok (.iload_n 0, 1) := by decide +kernel
theorem qJ8_hugeLength_7cf53_1 : decode (mB mJ8_hugeLength_7cf53) 1 = .ok (.iload_n 1, 1) := by decide +kernel
theorem qJ8_hugeLength_7cf53_2 : decode (mB mJ8_hugeLength_7cf53) 2 = .ok (.iadd, 1) := by decide +kernel
theorem qJ8_hugeLength_7cf53_3 : decode (mB mJ8_hugeLength_7cf53) 3 = .ok (.istore_n 2, 1) := by decide +kernel
theorem qJ8_hugeLength_7cf53_4 : decode (mB mJ8_hugeLength_7cf53) 4 = .ok (.iload_n 2, 1) := by decide +kernel
theorem qJ8_hugeLength_7cf53_5 : decode (mB mJ8_hugeLength_7cf53) 5 = .ok (.ifCond .ge 44, 3) := by decide +kernel
theorem qJ8_hugeLength_7cf53_8 : decode (mB mJ8_hugeLength_7cf53) 8 = .ok (.new 204, 3) := by decide +kernel
theorem qJ8_hugeLength_7cf53_11 : decode (mB mJ8_hugeLength_7cf53) 11 = .ok (.dup, 1) := by decide +kernel
theorem qJ8_hugeLength_7cf53_12 : decode (mB mJ8_hugeLength_7cf53) 12 = .ok (.new 89, 3) := by decide +kernel
theorem qJ8_hugeLength_7cf53_15 : decode (mB mJ8_hugeLength_7cf53) 15 = .ok (.dup, 1) := by decide +kernel
theorem qJ8_hugeLength_7cf53_16 : decode (mB mJ8_hugeLength_7cf53) 16 = .ok (.invokespecial 91, 3) := by decide +kernel
theorem qJ8_hugeLength_7cf53_19 : decode (mB mJ8_hugeLength_7cf53) 19 = .ok (.ldc 206, 2) := by decide +kernel
theorem qJ8_hugeLength_7cf53_21 : decode (mB mJ8_hugeLength_7cf53) 21 = .ok (.invokevirtual 94, 3) := by decide +kernel
theorem qJ8_hugeLength_7cf53_24 : decode (mB mJ8_hugeLength_7cf53) 24 = .ok (.iload_n 0, 1) := by decide +kernel
theorem qJ8_hugeLength_7cf53_25 : decode (mB mJ8_hugeLength_7cf53) 25 = .ok (.invokevirtual 98, 3) := by decide +kernel
theorem qJ8_hugeLength_7cf53_28 : decode (mB mJ8_hugeLength_7cf53) 28 = .ok (.ldc 208, 2) := by decide +kernel
theorem qJ8_hugeLength_7cf53_30 : decode (mB mJ8_hugeLength_7cf53) 30 = .ok (.invokevirtual 94, 3) := by decide +kernel
theorem qJ8_hugeLength_7cf53_33 : decode (mB mJ8_hugeLength_7cf53) 33 = .ok (.iload_n 1, 1) := by decide +kernel
theorem qJ8_hugeLength_7cf53_34 : decode (mB mJ8_hugeLength_7cf53) 34 = .ok (.invokevirtual 98, 3) := by decide +kernel
theorem qJ8_hugeLength_7cf53_37 : decode (mB mJ8_hugeLength_7cf53) 37 = .ok (.ldc 210, 2) := by decide +kernel
theorem qJ8_hugeLength_7cf53_39 : decode (mB mJ8_hugeLength_7cf53) 39 = .ok (.invokevirtual 94, 3) := by decide +kernel
theorem qJ8_hugeLength_7cf53_42 : decode (mB mJ8_hugeLength_7cf53) 42 = .ok (.invokevirtual 101, 3) := by decide +kernel
theorem qJ8_hugeLength_7cf53_45 : decode (mB mJ8_hugeLength_7cf53) 45 = .ok (.invokespecial 212, 3) := by decide +kernel
theorem qJ8_hugeLength_7cf53_48 : decode (mB mJ8_hugeLength_7cf53) 48 = .ok (.athrow, 1) := by decide +kernel
theorem qJ8_hugeLength_7cf53_49 : decode (mB mJ8_hugeLength_7cf53) 49 = .ok (.iload_n 2, 1) := by decide +kernel
theorem qJ8_hugeLength_7cf53_50 : decode (mB mJ8_hugeLength_7cf53) 50 = .ok (.ldc 200, 2) := by decide +kernel
theorem qJ8_hugeLength_7cf53_52 : decode (mB mJ8_hugeLength_7cf53) 52 = .ok (.if_icmp .gt 6, 3) := by decide +kernel
theorem qJ8_hugeLength_7cf53_55 : decode (mB mJ8_hugeLength_7cf53) 55 = .ok (.ldc 200, 2) := by decide +kernel
theorem qJ8_hugeLength_7cf53_57 : decode (mB mJ8_hugeLength_7cf53) 57 = .ok (.ireturn, 1) := by decide +kernel
theorem qJ8_hugeLength_7cf53_58 : decode (mB mJ8_hugeLength_7cf53) 58 = .ok (.iload_n 2, 1) := by decide +kernel
theorem qJ8_hugeLength_7cf53_59 : decode (mB mJ8_hugeLength_7cf53) 59 = .ok (.ireturn, 1) := by decide +kernel
theorem qJ8_newLength_cabcc_0 : decode (mB mJ8_newLength_cabcc) 0 = .ok (.iload_n 0, 1) := by decide +kernel
theorem qJ8_newLength_cabcc_1 : decode (mB mJ8_newLength_cabcc) 1 = .ok (.iload_n 1, 1) := by decide +kernel
theorem qJ8_newLength_cabcc_2 : decode (mB mJ8_newLength_cabcc) 2 = .ok (.iload_n 2, 1) := by decide +kernel
theorem qJ8_newLength_cabcc_3 : decode (mB mJ8_newLength_cabcc) 3 = .ok (.invokestatic 194, 3) := by decide +kernel
theorem qJ8_newLength_cabcc_6 : decode (mB mJ8_newLength_cabcc) 6 = .ok (.iadd, 1) := by decide +kernel
theorem qJ8_newLength_cabcc_7 : decode (mB mJ8_newLength_cabcc) 7 = .ok (.istore_n 3, 1) := by decide +kernel
theorem qJ8_newLength_cabcc_8 : decode (mB mJ8_newLength_cabcc) 8 = .ok (.iconst 0, 1) := by decide +kernel
theorem qJ8_newLength_cabcc_9 : decode (mB mJ8_newLength_cabcc) 9 = .ok (.iload_n 3, 1) := by decide +kernel
theorem qJ8_newLength_cabcc_10 : decode (mB mJ8_newLength_cabcc) 10 = .ok (.if_icmp .ge 11, 3) := by decide +kernel
theorem qJ8_newLength_cabcc_13 : decode (mB mJ8_newLength_cabcc) 13 = .ok (.iload_n 3, 1) := by decide +kernel
theorem qJ8_newLength_cabcc_14 : decode (mB mJ8_newLength_cabcc) 14 = .ok (.ldc 200, 2) := by decide +kernel
theorem qJ8_newLength_cabcc_16 : decode (mB mJ8_newLength_cabcc) 16 = .ok (.if_icmp .gt 5, 3) := by decide +kernel
theorem qJ8_newLength_cabcc_19 : decode (mB mJ8_newLength_cabcc) 19 = .ok (.iload_n 3, 1) := by decide +kernel
theorem qJ8_newLength_cabcc_20 : decode (mB mJ8_newLength_cabcc) 20 = .ok (.ireturn, 1) := by decide +kernel
theorem qJ8_newLength_cabcc_21 : decode (mB mJ8_newLength_cabcc) 21 = .ok (.iload_n 0, 1) := by decide +kernel
theorem qJ8_newLength_cabcc_22 : decode (mB mJ8_newLength_cabcc) 22 = .ok (.iload_n 1, 1) := by decide +kernel
theorem qJ8_newLength_cabcc_23 : decode (mB mJ8_newLength_cabcc) 23 = .ok (.invokestatic 201, 3) := by decide +kernel
theorem qJ8_newLength_cabcc_26 : decode (mB mJ8_newLength_cabcc) 26 = .ok (.ireturn, 1) := by decide +kernel
theorem qJ9_abs_0f7a4_0 : decode (mB mJ9_abs_0f7a4) 0 = .ok (.iload_n 0, 1) := by decide +kernel
theorem qJ9_abs_0f7a4_1 : decode (mB mJ9_abs_0f7a4) 1 = .ok (.ifCond .ge 8, 3) := by decide +kernel
theorem qJ9_abs_0f7a4_4 : decode (mB mJ9_abs_0f7a4) 4 = .ok (.iload_n 0, 1) := by decide +kernel
theorem qJ9_abs_0f7a4_5 : decode (mB mJ9_abs_0f7a4) 5 = .ok (.ineg, 1) := by decide +kernel
theorem qJ9_abs_0f7a4_6 : decode (mB mJ9_abs_0f7a4) 6 = .ok (.goto 4, 3) := by decide +kernel
theorem qJ9_abs_0f7a4_9 : decode (mB mJ9_abs_0f7a4) 9 = .ok (.iload_n 0, 1) := by decide +kernel
theorem qJ9_abs_0f7a4_10 : decode (mB mJ9_abs_0f7a4) 10 = .ok (.ireturn, 1) := by decide +kernel
theorem qJ9_max_7cf53_0 : decode (mB mJ9_max_7cf53) 0 = .ok (.iload_n 0, 1) := by decide +kernel
theorem qJ9_max_7cf53_1 : decode (mB mJ9_max_7cf53) 1 = .ok (.iload_n 1, 1) := by decide +kernel
theorem qJ9_max_7cf53_2 : decode (mB mJ9_max_7cf53) 2 = .ok (.if_icmp .lt 7, 3) := by decide +kernel
theorem qJ9_max_7cf53_5 : decode (mB mJ9_max_7cf53) 5 = .ok (.iload_n 0, 1) := by decide +kernel
theorem qJ9_max_7cf53_6 : decode (mB mJ9_max_7cf53) 6 = .ok (.goto 4, 3) := by decide +kernel
theorem qJ9_max_7cf53_9 : decode (mB mJ9_max_7cf53) 9 = .ok (.iload_n 1, 1) := by decide +kernel
theorem qJ9_max_7cf53_10 : decode (mB mJ9_max_7cf53) 10 = .ok (.ireturn, 1) := by decide +kernel
theorem qJ9_min_7cf53_0 : decode (mB mJ9_min_7cf53) 0 = .ok (.iload_n 0, 1) := by decide +kernel
theorem qJ9_min_7cf53_1 : decode (mB mJ9_min_7cf53) 1 = .ok (.iload_n 1, 1) := by decide +kernel
theorem qJ9_min_7cf53_2 : decode (mB mJ9_min_7cf53) 2 = .ok (.if_icmp .gt 7, 3) := by decide +kernel
theorem qJ9_min_7cf53_5 : decode (mB mJ9_min_7cf53) 5 = .ok (.iload_n 0, 1) := by decide +kernel
theorem qJ9_min_7cf53_6 : decode (mB mJ9_min_7cf53) 6 = .ok (.goto 4, 3) := by decide +kernel
theorem qJ9_min_7cf53_9 : decode (mB mJ9_min_7cf53) 9 = .ok (.iload_n 1, 1) := by decide +kernel
theorem qJ9_min_7cf53_10 : decode (mB mJ9_min_7cf53) 10 = .ok (.ireturn, 1) := by decide +kernel
theorem qJx00060_init_d00df_0 : decode (mB mJx00060_init_d00df) 0 = .ok (.aload_n 0, 1) := by decide +kernel
theorem qJx00060_init_d00df_1 : decode (mB mJx00060_init_d00df) 1 = .ok (.new 10, 3) := by decide +kernel
theorem qJx00060_init_d00df_4 : decode (mB mJx00060_init_d00df) 4 = .ok (.dup, 1) := by decide +kernel
theorem qJx00060_init_d00df_5 : decode (mB mJx00060_init_d00df) 5 = .ok (.invokespecial 12, 3) := by decide +kernel
theorem qJx00060_init_d00df_8 : decode (mB mJx00060_init_d00df) 8 = .ok (.ldc 13, 2) := by decide +kernel
theorem qJx00060_init_d00df_10 : decode (mB mJx00060_init_d00df) 10 = .ok (.invokevirtual 15, 3) := by decide +kernel
theorem qJx00060_init_d00df_13 : decode (mB mJx00060_init_d00df) 13 = .ok (.iload_n 1, 1) := by decide +kernel
theorem qJx00060_init_d00df_14 : decode (mB mJx00060_init_d00df) 14 = .ok (.invokevirtual 19, 3) := by decide +kernel
theorem qJx00060_init_d00df_17 : decode (mB mJx00060_init_d00df) 17 = .ok (.invokevirtual 22, 3) := by decide +kernel
theorem qJx00060_init_d00df_20 : decode (mB mJx00060_init_d00df) 20 = .ok (.invokespecial 7, 3) := by decide +kernel
theorem qJx00060_init_d00df_23 : decode (mB mJx00060_init_d00df) 23 = .ok (.return_, 1) := by decide +kernel
theorem qJx7c733_init_d00df_0 : decode (mB mJx7c733_init_d00df) 0 = .ok (.aload_n 0, 1) := by decide +kernel
theorem qJx7c733_init_d00df_1 : decode (mB mJx7c733_init_d00df) 1 = .ok (.new 10, 3) := by decide +kernel
theorem qJx7c733_init_d00df_4 : decode (mB mJx7c733_init_d00df) 4 = .ok (.dup, 1) := by decide +kernel
theorem qJx7c733_init_d00df_5 : decode (mB mJx7c733_init_d00df) 5 = .ok (.invokespecial 12, 3) := by decide +kernel
theorem qJx7c733_init_d00df_8 : decode (mB mJx7c733_init_d00df) 8 = .ok (.ldc 13, 2) := by decide +kernel
theorem qJx7c733_init_d00df_10 : decode (mB mJx7c733_init_d00df) 10 = .ok (.invokevirtual 15, 3) := by decide +kernel
theorem qJx7c733_init_d00df_13 : decode (mB mJx7c733_init_d00df) 13 = .ok (.iload_n 1, 1) := by decide +kernel
theorem qJx7c733_init_d00df_14 : decode (mB mJx7c733_init_d00df) 14 = .ok (.invokevirtual 19, 3) := by decide +kernel
theorem qJx7c733_init_d00df_17 : decode (mB mJx7c733_init_d00df) 17 = .ok (.invokevirtual 22, 3) := by decide +kernel
theorem qJx7c733_init_d00df_20 : decode (mB mJx7c733_init_d00df) 20 = .ok (.invokespecial 7, 3) := by decide +kernel
theorem qJx7c733_init_d00df_23 : decode (mB mJx7c733_init_d00df) 23 = .ok (.return_, 1) := by decide +kernel
theorem qL_append_0 : decode (mB mL_append) 0 = .ok (.aload 6, 2) := by decide +kernel
theorem qL_append_2 : decode (mB mL_append) 2 = .ok (.iconst 0, 1) := by decide +kernel
theorem qL_append_3 : decode (mB mL_append) 3 = .ok (.aload_n 0, 1) := by decide +kernel
theorem qL_append_4 : decode (mB mL_append) 4 = .ok (.iload_n 1, 1) := by decide +kernel
theorem qL_append_5 : decode (mB mL_append) 5 = .ok (.iload_n 2, 1) := by decide +kernel
theorem qL_append_6 : decode (mB mL_append) 6 = .ok (.iload_n 3, 1) := by decide +kernel
theorem qL_append_7 : decode (mB mL_append) 7 = .ok (.iload 4, 2) := by decide +kernel
theorem qL_append_9 : decode (mB mL_append) 9 = .ok (.iload 5, 2) := by decide +kernel
theorem qL_append_11 : decode (mB mL_append) 11 = .ok (.invokevirtual 7, 3) := by decide +kernel
theorem qL_append_14 : decode (mB mL_append) 14 = .ok (.i2l, 1) := by decide +kernel
theorem qL_append_15 : decode (mB mL_append) 15 = .ok (.lastore, 1) := by decide +kernel
theorem qL_append_16 : decode (mB mL_append) 16 = .ok (.goto 7, 3) := by decide +kernel
theorem qL_append_19 : decode (mB mL_append) 19 = .ok (.astore 7, 2) := by decide +kernel
theorem qL_append_21 : decode (mB mL_append) 21 = .ok (.iconst 1, 1) := by decide +kernel
theorem qL_append_22 : decode (mB mL_append) 22 = .ok (.ireturn, 1) := by decide +kernel
theorem qL_append_23 : decode (mB mL_append) 23 = .ok (.iconst 0, 1) := by decide +kernel
theorem qL_append_24 : decode (mB mL_append) 24 = .ok (.ireturn, 1) := by decide +kernel
theorem qL_bathDegrees_0 : decode (mB mL_bathDegrees) 0 = .ok (.aload_n 2, 1) := by decide +kernel
theorem qL_bathDegrees_1 : decode (mB mL_bathDegrees) 1 = .ok (.iconst 0, 1) := by decide +kernel
theorem qL_bathDegrees_2 : decode (mB mL_bathDegrees) 2 = .ok (.aload_n 0, 1) := by decide +kernel
theorem qL_bathDegrees_3 : decode (mB mL_bathDegrees) 3 = .ok (.iload_n 1, 1) := by decide +kernel
theorem qL_bathDegrees_4 : decode (mB mL_bathDegrees) 4 = .ok (.invokevirtual 21, 3) := by decide +kernel
theorem qL_bathDegrees_7 : decode (mB mL_bathDegrees) 7 = .ok (.i2l, 1) := by decide +kernel
theorem qL_bathDegrees_8 : decode (mB mL_bathDegrees) 8 = .ok (.lastore, 1) := by decide +kernel
theorem qL_bathDegrees_9 : decode (mB mL_bathDegrees) 9 = .ok (.goto 6, 3) := by decide +kernel
theorem qL_bathDegrees_12 : decode (mB mL_bathDegrees) 12 = .ok (.astore_n 3, 1) := by decide +kernel
theorem qL_bathDegrees_13 : decode (mB mL_bathDegrees) 13 = .ok (.iconst 1, 1) := by decide +kernel
theorem qL_bathDegrees_14 : decode (mB mL_bathDegrees) 14 = .ok (.ireturn, 1) := by decide +kernel
theorem qL_bathDegrees_15 : decode (mB mL_bathDegrees) 15 = .ok (.iconst 0, 1) := by decide +kernel
theorem qL_bathDegrees_16 : decode (mB mL_bathDegrees) 16 = .ok (.ireturn, 1) := by decide +kernel
theorem qL_bathOf_0 : decode (mB mL_bathOf) 0 = .ok (.aload_n 2, 1) := by decide +kernel
theorem qL_bathOf_1 : decode (mB mL_bathOf) 1 = .ok (.iconst 0, 1) := by decide +kernel
theorem qL_bathOf_2 : decode (mB mL_bathOf) 2 = .ok (.aload_n 0, 1) := by decide +kernel
theorem qL_bathOf_3 : decode (mB mL_bathOf) 3 = .ok (.iload_n 1, 1) := by decide +kernel
theorem qL_bathOf_4 : decode (mB mL_bathOf) 4 = .ok (.invokevirtual 54, 3) := by decide +kernel
theorem qL_bathOf_7 : decode (mB mL_bathOf) 7 = .ok (.i2l, 1) := by decide +kernel
theorem qL_bathOf_8 : decode (mB mL_bathOf) 8 = .ok (.lastore, 1) := by decide +kernel
theorem qL_bathOf_9 : decode (mB mL_bathOf) 9 = .ok (.goto 6, 3) := by decide +kernel
theorem qL_bathOf_12 : decode (mB mL_bathOf) 12 = .ok (.astore_n 3, 1) := by decide +kernel
theorem qL_bathOf_13 : decode (mB mL_bathOf) 13 = .ok (.iconst 1, 1) := by decide +kernel
theorem qL_bathOf_14 : decode (mB mL_bathOf) 14 = .ok (.ireturn, 1) := by decide +kernel
theorem qL_bathOf_15 : decode (mB mL_bathOf) 15 = .ok (.iconst 0, 1) := by decide +kernel
theorem qL_bathOf_16 : decode (mB mL_bathOf) 16 = .ok (.ireturn, 1) := by decide +kernel
theorem qL_bathsToMark_0 : decode (mB mL_bathsToMark) 0 = .ok (.aload_n 2, 1) := by decide +kernel
theorem qL_bathsToMark_1 : decode (mB mL_bathsToMark) 1 = .ok (.iconst 0, 1) := by decide +kernel
theorem qL_bathsToMark_2 : decode (mB mL_bathsToMark) 2 = .ok (.aload_n 0, 1) := by decide +kernel
theorem qL_bathsToMark_3 : decode (mB mL_bathsToMark) 3 = .ok (.iload_n 1, 1) := by decide +kernel
theorem qL_bathsToMark_4 : decode (mB mL_bathsToMark) 4 = .ok (.invokevirtual 123, 3) := by decide +kernel
theorem qL_bathsToMark_7 : decode (mB mL_bathsToMark) 7 = .ok (.i2l, 1) := by decide +kernel
theorem qL_bathsToMark_8 : decode (mB mL_bathsToMark) 8 = .ok (.lastore, 1) := by decide +kernel
theorem qL_bathsToMark_9 : decode (mB mL_bathsToMark) 9 = .ok (.goto 6, 3) := by decide +kernel
theorem qL_bathsToMark_12 : decode (mB mL_bathsToMark) 12 = .ok (.astore_n 3, 1) := by decide +kernel
theorem qL_bathsToMark_13 : decode (mB mL_bathsToMark) 13 = .ok (.iconst 1, 1) := by decide +kernel
theorem qL_bathsToMark_14 : decode (mB mL_bathsToMark) 14 = .ok (.ireturn, 1) := by decide +kernel
theorem qL_bathsToMark_15 : decode (mB mL_bathsToMark) 15 = .ok (.iconst 0, 1) := by decide +kernel
theorem qL_bathsToMark_16 : decode (mB mL_bathsToMark) 16 = .ok (.ireturn, 1) := by decide +kernel
theorem qL_dip_0 : decode (mB mL_dip) 0 = .ok (.aload_n 3, 1) := by decide +kernel
theorem qL_dip_1 : decode (mB mL_dip) 1 = .ok (.iconst 0, 1) := by decide +kernel
theorem qL_dip_2 : decode (mB mL_dip) 2 = .ok (.aload_n 0, 1) := by decide +kernel
theorem qL_dip_3 : decode (mB mL_dip) 3 = .ok (.iload_n 1, 1) := by decide +kernel
theorem qL_dip_4 : decode (mB mL_dip) 4 = .ok (.iload_n 2, 1) := by decide +kernel
theorem qL_dip_5 : decode (mB mL_dip) 5 = .ok (.invokevirtual 126, 3) := by decide +kernel
theorem qL_dip_8 : decode (mB mL_dip) 8 = .ok (.i2l, 1) := by decide +kernel
theorem qL_dip_9 : decode (mB mL_dip) 9 = .ok (.lastore, 1) := by decide +kernel
theorem qL_dip_10 : decode (mB mL_dip) 10 = .ok (.goto 11, 3) := by decide +kernel
theorem qL_dip_13 : decode (mB mL_dip) 13 = .ok (.astore 4, 2) := by decide +kernel
theorem qL_dip_15 : decode (mB mL_dip) 15 = .ok (.iconst 1, 1) := by decide +kernel
theorem qL_dip_16 : decode (mB mL_dip) 16 = .ok (.ireturn, 1) := by decide +kernel
theorem qL_dip_17 : decode (mB mL_dip) 17 = .ok (.astore 4, 2) := by decide +kernel
theorem qL_dip_19 : decode (mB mL_dip) 19 = .ok (.iconst 2, 1) := by decide +kernel
theorem qL_dip_20 : decode (mB mL_dip) 20 = .ok (.ireturn, 1) := by decide +kernel
theorem qL_dip_21 : decode (mB mL_dip) 21 = .ok (.iconst 0, 1) := by decide +kernel
theorem qL_dip_22 : decode (mB mL_dip) 22 = .ok (.ireturn, 1) := by decide +kernel
theorem qL_dipRefusal_0 : decode (mB mL_dipRefusal) 0 = .ok (.aload_n 3, 1) := by decide +kernel
theorem qL_dipRefusal_1 : decode (mB mL_dipRefusal) 1 = .ok (.iconst 0, 1) := by decide +kernel
theorem qL_dipRefusal_2 : decode (mB mL_dipRefusal) 2 = .ok (.aload_n 0, 1) := by decide +kernel
theorem qL_dipRefusal_3 : decode (mB mL_dipRefusal) 3 = .ok (.iload_n 1, 1) := by decide +kernel
theorem qL_dipRefusal_4 : decode (mB mL_dipRefusal) 4 = .ok (.iload_n 2, 1) := by decide +kernel
theorem qL_dipRefusal_5 : decode (mB mL_dipRefusal) 5 = .ok (.invokevirtual 96, 3) := by decide +kernel
theorem qL_dipRefusal_8 : decode (mB mL_dipRefusal) 8 = .ok (.i2l, 1) := by decide +kernel
theorem qL_dipRefusal_9 : decode (mB mL_dipRefusal) 9 = .ok (.lastore, 1) := by decide +kernel
theorem qL_dipRefusal_10 : decode (mB mL_dipRefusal) 10 = .ok (.goto 7, 3) := by decide +kernel
theorem qL_dipRefusal_13 : decode (mB mL_dipRefusal) 13 = .ok (.astore 4, 2) := by decide +kernel
theorem qL_dipRefusal_15 : decode (mB mL_dipRefusal) 15 = .ok (.iconst 1, 1) := by decide +kernel
theorem qL_dipRefusal_16 : decode (mB mL_dipRefusal) 16 = .ok (.ireturn, 1) := by decide +kernel
theorem qL_dipRefusal_17 : decode (mB mL_dipRefusal) 17 = .ok (.iconst 0, 1) := by decide +kernel
theorem qL_dipRefusal_18 : decode (mB mL_dipRefusal) 18 = .ok (.ireturn, 1) := by decide +kernel
theorem qL_disagreement_0 : decode (mB mL_disagreement) 0 = .ok (.aload_n 3, 1) := by decide +kernel
theorem qL_disagreement_1 : decode (mB mL_disagreement) 1 = .ok (.iconst 0, 1) := by decide +kernel
theorem qL_disagreement_2 : decode (mB mL_disagreement) 2 = .ok (.aload_n 0, 1) := by decide +kernel
theorem qL_disagreement_3 : decode (mB mL_disagreement) 3 = .ok (.iload_n 1, 1) := by decide +kernel
theorem qL_disagreement_4 : decode (mB mL_disagreement) 4 = .ok (.iload_n 2, 1) := by decide +kernel
theorem qL_disagreement_5 : decode (mB mL_disagreement) 5 = .ok (.invokevirtual 117, 3) := by decide +kernel
theorem qL_disagreement_8 : decode (mB mL_disagreement) 8 = .ok (.i2l, 1) := by decide +kernel
theorem qL_disagreement_9 : decode (mB mL_disagreement) 9 = .ok (.lastore, 1) := by decide +kernel
theorem qL_disagreement_10 : decode (mB mL_disagreement) 10 = .ok (.goto 11, 3) := by decide +kernel
theorem qL_disagreement_13 : decode (mB mL_disagreement) 13 = .ok (.astore 4, 2) := by decide +kernel
theorem qL_disagreement_15 : decode (mB mL_disagreement) 15 = .ok (.iconst 1, 1) := by decide +kernel
theorem qL_disagreement_16 : decode (mB mL_disagreement) 16 = .ok (.ireturn, 1) := by decide +kernel
theorem qL_disagreement_17 : decode (mB mL_disagreement) 17 = .ok (.astore 4, 2) := by decide +kernel
theorem qL_disagreement_19 : decode (mB mL_disagreement) 19 = .ok (.iconst 2, 1) := by decide +kernel
theorem qL_disagreement_20 : decode (mB mL_disagreement) 20 = .ok (.ireturn, 1) := by decide +kernel
theorem qL_disagreement_21 : decode (mB mL_disagreement) 21 = .ok (.iconst 0, 1) := by decide +kernel
theorem qL_disagreement_22 : decode (mB mL_disagreement) 22 = .ok (.ireturn, 1) := by decide +kernel
theorem qL_erasePoint_0 : decode (mB mL_erasePoint) 0 = .ok (.aload_n 3, 1) := by decide +kernel
theorem qL_erasePoint_1 : decode (mB mL_erasePoint) 1 = .ok (.iconst 0, 1) := by decide +kernel
theorem qL_erasePoint_2 : decode (mB mL_erasePoint) 2 = .ok (.aload_n 0, 1) := by decide +kernel
theorem qL_erasePoint_3 : decode (mB mL_erasePoint) 3 = .ok (.iload_n 1, 1) := by decide +kernel
theorem qL_erasePoint_4 : decode (mB mL_erasePoint) 4 = .ok (.iload_n 2, 1) := by decide +kernel
theorem qL_erasePoint_5 : decode (mB mL_erasePoint) 5 = .ok (.invokevirtual 135, 3) := by decide +kernel
theorem qL_erasePoint_8 : decode (mB mL_erasePoint) 8 = .ok (.i2l, 1) := by decide +kernel
theorem qL_erasePoint_9 : decode (mB mL_erasePoint) 9 = .ok (.lastore, 1) := by decide +kernel
theorem qL_erasePoint_10 : decode (mB mL_erasePoint) 10 = .ok (.goto 11, 3) := by decide +kernel
theorem qL_erasePoint_13 : decode (mB mL_erasePoint) 13 = .ok (.astore 4, 2) := by decide +kernel
theorem qL_erasePoint_15 : decode (mB mL_erasePoint) 15 = .ok (.iconst 1, 1) := by decide +kernel
theorem qL_erasePoint_16 : decode (mB mL_erasePoint) 16 = .ok (.ireturn, 1) := by decide +kernel
theorem qL_erasePoint_17 : decode (mB mL_erasePoint) 17 = .ok (.astore 4, 2) := by decide +kernel
theorem qL_erasePoint_19 : decode (mB mL_erasePoint) 19 = .ok (.iconst 2, 1) := by decide +kernel
theorem qL_erasePoint_20 : decode (mB mL_erasePoint) 20 = .ok (.ireturn, 1) := by decide +kernel
theorem qL_erasePoint_21 : decode (mB mL_erasePoint) 21 = .ok (.iconst 0, 1) := by decide +kernel
theorem qL_erasePoint_22 : decode (mB mL_erasePoint) 22 = .ok (.ireturn, 1) := by decide +kernel
theorem qL_fillOf_0 : decode (mB mL_fillOf) 0 = .ok (.aload_n 2, 1) := by decide +kernel
theorem qL_fillOf_1 : decode (mB mL_fillOf) 1 = .ok (.iconst 0, 1) := by decide +kernel
theorem qL_fillOf_2 : decode (mB mL_fillOf) 2 = .ok (.aload_n 0, 1) := by decide +kernel
theorem qL_fillOf_3 : decode (mB mL_fillOf) 3 = .ok (.iload_n 1, 1) := by decide +kernel
theorem qL_fillOf_4 : decode (mB mL_fillOf) 4 = .ok (.invokevirtual 38, 3) := by decide +kernel
theorem qL_fillOf_7 : decode (mB mL_fillOf) 7 = .ok (.i2l, 1) := by decide +kernel
theorem qL_fillOf_8 : decode (mB mL_fillOf) 8 = .ok (.lastore, 1) := by decide +kernel
theorem qL_fillOf_9 : decode (mB mL_fillOf) 9 = .ok (.goto 6, 3) := by decide +kernel
theorem qL_fillOf_12 : decode (mB mL_fillOf) 12 = .ok (.astore_n 3, 1) := by decide +kernel
theorem qL_fillOf_13 : decode (mB mL_fillOf) 13 = .ok (.iconst 1, 1) := by decide +kernel
theorem qL_fillOf_14 : decode (mB mL_fillOf) 14 = .ok (.ireturn, 1) := by decide +kernel
theorem qL_fillOf_15 : decode (mB mL_fillOf) 15 = .ok (.iconst 0, 1) := by decide +kernel
theorem qL_fillOf_16 : decode (mB mL_fillOf) 16 = .ok (.ireturn, 1) := by decide +kernel
theorem qL_fitError_0 : decode (mB mL_fitError) 0 = .ok (.aload_n 2, 1) := by decide +kernel
theorem qL_fitError_1 : decode (mB mL_fitError) 1 = .ok (.iconst 0, 1) := by decide +kernel
theorem qL_fitError_2 : decode (mB mL_fitError) 2 = .ok (.aload_n 0, 1) := by decide +kernel
theorem qL_fitError_3 : decode (mB mL_fitError) 3 = .ok (.iload_n 1, 1) := by decide +kernel
theorem qL_fitError_4 : decode (mB mL_fitError) 4 = .ok (.invokevirtual 90, 3) := by decide +kernel
theorem qL_fitError_7 : decode (mB mL_fitError) 7 = .ok (.i2l, 1) := by decide +kernel
theorem qL_fitError_8 : decode (mB mL_fitError) 8 = .ok (.lastore, 1) := by decide +kernel
theorem qL_fitError_9 : decode (mB mL_fitError) 9 = .ok (.goto 9, 3) := by decide +kernel
theorem qL_fitError_12 : decode (mB mL_fitError) 12 = .ok (.astore_n 3, 1) := by decide +kernel
theorem qL_fitError_13 : decode (mB mL_fitError) 13 = .ok (.iconst 1, 1) := by decide +kernel
theorem qL_fitError_14 : decode (mB mL_fitError) 14 = .ok (.ireturn, 1) := by decide +kernel
theorem qL_fitError_15 : decode (mB mL_fitError) 15 = .ok (.astore_n 3, 1) := by decide +kernel
theorem qL_fitError_16 : decode (mB mL_fitError) 16 = .ok (.iconst 2, 1) := by decide +kernel
theorem qL_fitError_17 : decode (mB mL_fitError) 17 = .ok (.ireturn, 1) := by decide +kernel
theorem qL_fitError_18 : decode (mB mL_fitError) 18 = .ok (.iconst 0, 1) := by decide +kernel
theorem qL_fitError_19 : decode (mB mL_fitError) 19 = .ok (.ireturn, 1) := by decide +kernel
theorem qL_freeHeightAt_0 : decode (mB mL_freeHeightAt) 0 = .ok (.aload_n 3, 1) := by decide +kernel
theorem qL_freeHeightAt_1 : decode (mB mL_freeHeightAt) 1 = .ok (.iconst 0, 1) := by decide +kernel
theorem qL_freeHeightAt_2 : decode (mB mL_freeHeightAt) 2 = .ok (.aload_n 0, 1) := by decide +kernel
theorem qL_freeHeightAt_3 : decode (mB mL_freeHeightAt) 3 = .ok (.iload_n 1, 1) := by decide +kernel
theorem qL_freeHeightAt_4 : decode (mB mL_freeHeightAt) 4 = .ok (.iload_n 2, 1) := by decide +kernel
theorem qL_freeHeightAt_5 : decode (mB mL_freeHeightAt) 5 = .ok (.invokevirtual 60, 3) := by decide +kernel
theorem qL_freeHeightAt_8 : decode (mB mL_freeHeightAt) 8 = .ok (.i2l, 1) := by decide +kernel
theorem qL_freeHeightAt_9 : decode (mB mL_freeHeightAt) 9 = .ok (.lastore, 1) := by decide +kernel
theorem qL_freeHeightAt_10 : decode (mB mL_freeHeightAt) 10 = .ok (.goto 11, 3) := by decide +kernel
theorem qL_freeHeightAt_13 : decode (mB mL_freeHeightAt) 13 = .ok (.astore 4, 2) := by decide +kernel
theorem qL_freeHeightAt_15 : decode (mB mL_freeHeightAt) 15 = .ok (.iconst 1, 1) := by decide +kernel
theorem qL_freeHeightAt_16 : decode (mB mL_freeHeightAt) 16 = .ok (.ireturn, 1) := by decide +kernel
theorem qL_freeHeightAt_17 : decode (mB mL_freeHeightAt) 17 = .ok (.astore 4, 2) := by decide +kernel
theorem qL_freeHeightAt_19 : decode (mB mL_freeHeightAt) 19 = .ok (.iconst 2, 1) := by decide +kernel
theorem qL_freeHeightAt_20 : decode (mB mL_freeHeightAt) 20 = .ok (.ireturn, 1) := by decide +kernel
theorem qL_freeHeightAt_21 : decode (mB mL_freeHeightAt) 21 = .ok (.iconst 0, 1) := by decide +kernel
theorem qL_freeHeightAt_22 : decode (mB mL_freeHeightAt) 22 = .ok (.ireturn, 1) := by decide +kernel
theorem qL_greatestTemperature_0 : decode (mB mL_greatestTemperature) 0 = .ok (.aload_n 2, 1) := by decide +kernel
theorem qL_greatestTemperature_1 : decode (mB mL_greatestTemperature) 1 = .ok (.iconst 0, 1) := by decide +kernel
theorem qL_greatestTemperature_2 : decode (mB mL_greatestTemperature) 2 = .ok (.aload_n 0, 1) := by decide +kernel
theorem qL_greatestTemperature_3 : decode (mB mL_greatestTemperature) 3 = .ok (.iload_n 1, 1) := by decide +kernel
theorem qL_greatestTemperature_4 : decode (mB mL_greatestTemperature) 4 = .ok (.invokevirtual 64, 3) := by decide +kernel
theorem qL_greatestTemperature_7 : decode (mB mL_greatestTemperature) 7 = .ok (.i2l, 1) := by decide +kernel
theorem qL_greatestTemperature_8 : decode (mB mL_greatestTemperature) 8 = .ok (.lastore, 1) := by decide +kernel
theorem qL_greatestTemperature_9 : decode (mB mL_greatestTemperature) 9 = .ok (.goto 6, 3) := by decide +kernel
theorem qL_greatestTemperature_12 : decode (mB mL_greatestTemperature) 12 = .ok (.astore_n 3, 1) := by decide +kernel
theorem qL_greatestTemperature_13 : decode (mB mL_greatestTemperature) 13 = .ok (.iconst 1, 1) := by decide +kernel
theorem qL_greatestTemperature_14 : decode (mB mL_greatestTemperature) 14 = .ok (.ireturn, 1) := by decide +kernel
theorem qL_greatestTemperature_15 : decode (mB mL_greatestTemperature) 15 = .ok (.iconst 0, 1) := by decide +kernel
theorem qL_greatestTemperature_16 : decode (mB mL_greatestTemperature) 16 = .ok (.ireturn, 1) := by decide +kernel
theorem qL_hasScale_0 : decode (mB mL_hasScale) 0 = .ok (.aload_n 2, 1) := by decide +kernel
theorem qL_hasScale_1 : decode (mB mL_hasScale) 1 = .ok (.iconst 0, 1) := by decide +kernel
theorem qL_hasScale_2 : decode (mB mL_hasScale) 2 = .ok (.aload_n 0, 1) := by decide +kernel
theorem qL_hasScale_3 : decode (mB mL_hasScale) 3 = .ok (.iload_n 1, 1) := by decide +kernel
theorem qL_hasScale_4 : decode (mB mL_hasScale) 4 = .ok (.invokevirtual 78, 3) := by decide +kernel
theorem qL_hasScale_7 : decode (mB mL_hasScale) 7 = .ok (.ifCond .eq 7, 3) := by decide +kernel
theorem qL_hasScale_10 : decode (mB mL_hasScale) 10 = .ok (.lconst 1, 1) := by decide +kernel
theorem qL_hasScale_11 : decode (mB mL_hasScale) 11 = .ok (.goto 4, 3) := by decide +kernel
theorem qL_hasScale_14 : decode (mB mL_hasScale) 14 = .ok (.lconst 0, 1) := by decide +kernel
theorem qL_hasScale_15 : decode (mB mL_hasScale) 15 = .ok (.lastore, 1) := by decide +kernel
theorem qL_hasScale_16 : decode (mB mL_hasScale) 16 = .ok (.goto 6, 3) := by decide +kernel
theorem qL_hasScale_19 : decode (mB mL_hasScale) 19 = .ok (.astore_n 3, 1) := by decide +kernel
theorem qL_hasScale_20 : decode (mB mL_hasScale) 20 = .ok (.iconst 1, 1) := by decide +kernel
theorem qL_hasScale_21 : decode (mB mL_hasScale) 21 = .ok (.ireturn, 1) := by decide +kernel
theorem qL_hasScale_22 : decode (mB mL_hasScale) 22 = .ok (.iconst 0, 1) := by decide +kernel
theorem qL_hasScale_23 : decode (mB mL_hasScale) 23 = .ok (.ireturn, 1) := by decide +kernel
theorem qL_height_0 : decode (mB mL_height) 0 = .ok (.aload_n 2, 1) := by decide +kernel
theorem qL_height_1 : decode (mB mL_height) 1 = .ok (.iconst 0, 1) := by decide +kernel
theorem qL_height_2 : decode (mB mL_height) 2 = .ok (.aload_n 0, 1) := by decide +kernel
theorem qL_height_3 : decode (mB mL_height) 3 = .ok (.iload_n 1, 1) := by decide +kernel
theorem qL_height_4 : decode (mB mL_height) 4 = .ok (.invokevirtual 57, 3) := by decide +kernel
theorem qL_height_7 : decode (mB mL_height) 7 = .ok (.i2l, 1) := by decide +kernel
theorem qL_height_8 : decode (mB mL_height) 8 = .ok (.lastore, 1) := by decide +kernel
theorem qL_height_9 : decode (mB mL_height) 9 = .ok (.goto 6, 3) := by decide +kernel
theorem qL_height_12 : decode (mB mL_height) 12 = .ok (.astore_n 3, 1) := by decide +kernel
theorem qL_height_13 : decode (mB mL_height) 13 = .ok (.iconst 1, 1) := by decide +kernel
theorem qL_height_14 : decode (mB mL_height) 14 = .ok (.ireturn, 1) := by decide +kernel
theorem qL_height_15 : decode (mB mL_height) 15 = .ok (.iconst 0, 1) := by decide +kernel
theorem qL_height_16 : decode (mB mL_height) 16 = .ok (.ireturn, 1) := by decide +kernel
theorem qL_heightAfter_0 : decode (mB mL_heightAfter) 0 = .ok (.aload_n 3, 1) := by decide +kernel
theorem qL_heightAfter_1 : decode (mB mL_heightAfter) 1 = .ok (.iconst 0, 1) := by decide +kernel
theorem qL_heightAfter_2 : decode (mB mL_heightAfter) 2 = .ok (.aload_n 0, 1) := by decide +kernel
theorem qL_heightAfter_3 : decode (mB mL_heightAfter) 3 = .ok (.iload_n 1, 1) := by decide +kernel
theorem qL_heightAfter_4 : decode (mB mL_heightAfter) 4 = .ok (.iload_n 2, 1) := by decide +kernel
theorem qL_heightAfter_5 : decode (mB mL_heightAfter) 5 = .ok (.invokevirtual 102, 3) := by decide +kernel
theorem qL_heightAfter_8 : decode (mB mL_heightAfter) 8 = .ok (.i2l, 1) := by decide +kernel
theorem qL_heightAfter_9 : decode (mB mL_heightAfter) 9 = .ok (.lastore, 1) := by decide +kernel
theorem qL_heightAfter_10 : decode (mB mL_heightAfter) 10 = .ok (.goto 11, 3) := by decide +kernel
theorem qL_heightAfter_13 : decode (mB mL_heightAfter) 13 = .ok (.astore 4, 2) := by decide +kernel
theorem qL_heightAfter_15 : decode (mB mL_heightAfter) 15 = .ok (.iconst 1, 1) := by decide +kernel
theorem qL_heightAfter_16 : decode (mB mL_heightAfter) 16 = .ok (.ireturn, 1) := by decide +kernel
theorem qL_heightAfter_17 : decode (mB mL_heightAfter) 17 = .ok (.astore 4, 2) := by decide +kernel
theorem qL_heightAfter_19 : decode (mB mL_heightAfter) 19 = .ok (.iconst 2, 1) := by decide +kernel
theorem qL_heightAfter_20 : decode (mB mL_heightAfter) 20 = .ok (.ireturn, 1) := by decide +kernel
theorem qL_heightAfter_21 : decode (mB mL_heightAfter) 21 = .ok (.iconst 0, 1) := by decide +kernel
theorem qL_heightAfter_22 : decode (mB mL_heightAfter) 22 = .ok (.ireturn, 1) := by decide +kernel
theorem qL_isLeaky_0 : decode (mB mL_isLeaky) 0 = .ok (.aload_n 2, 1) := by decide +kernel
theorem qL_isLeaky_1 : decode (mB mL_isLeaky) 1 = .ok (.iconst 0, 1) := by decide +kernel
theorem qL_isLeaky_2 : decode (mB mL_isLeaky) 2 = .ok (.aload_n 0, 1) := by decide +kernel
theorem qL_isLeaky_3 : decode (mB mL_isLeaky) 3 = .ok (.iload_n 1, 1) := by decide +kernel
theorem qL_isLeaky_4 : decode (mB mL_isLeaky) 4 = .ok (.invokevirtual 51, 3) := by decide +kernel
theorem qL_isLeaky_7 : decode (mB mL_isLeaky) 7 = .ok (.ifCond .eq 7, 3) := by decide +kernel
theorem qL_isLeaky_10 : decode (mB mL_isLeaky) 10 = .ok (.lconst 1, 1) := by decide +kernel
theorem qL_isLeaky_11 : decode (mB mL_isLeaky) 11 = .ok (.goto 4, 3) := by decide +kernel
theorem qL_isLeaky_14 : decode (mB mL_isLeaky) 14 = .ok (.lconst 0, 1) := by decide +kernel
theorem qL_isLeaky_15 : decode (mB mL_isLeaky) 15 = .ok (.lastore, 1) := by decide +kernel
theorem qL_isLeaky_16 : decode (mB mL_isLeaky) 16 = .ok (.goto 6, 3) := by decide +kernel
theorem qL_isLeaky_19 : decode (mB mL_isLeaky) 19 = .ok (.astore_n 3, 1) := by decide +kernel
theorem qL_isLeaky_20 : decode (mB mL_isLeaky) 20 = .ok (.iconst 1, 1) := by decide +kernel
theorem qL_isLeaky_21 : decode (mB mL_isLeaky) 21 = .ok (.ireturn, 1) := by decide +kernel
theorem qL_isLeaky_22 : decode (mB mL_isLeaky) 22 = .ok (.iconst 0, 1) := by decide +kernel
theorem qL_isLeaky_23 : decode (mB mL_isLeaky) 23 = .ok (.ireturn, 1) := by decide +kernel
theorem qL_isSettled_0 : decode (mB mL_isSettled) 0 = .ok (.aload_n 2, 1) := by decide +kernel
theorem qL_isSettled_1 : decode (mB mL_isSettled) 1 = .ok (.iconst 0, 1) := by decide +kernel
theorem qL_isSettled_2 : decode (mB mL_isSettled) 2 = .ok (.aload_n 0, 1) := by decide +kernel
theorem qL_isSettled_3 : decode (mB mL_isSettled) 3 = .ok (.iload_n 1, 1) := by decide +kernel
theorem qL_isSettled_4 : decode (mB mL_isSettled) 4 = .ok (.invokevirtual 47, 3) := by decide +kernel
theorem qL_isSettled_7 : decode (mB mL_isSettled) 7 = .ok (.ifCond .eq 7, 3) := by decide +kernel
theorem qL_isSettled_10 : decode (mB mL_isSettled) 10 = .ok (.lconst 1, 1) := by decide +kernel
theorem qL_isSettled_11 : decode (mB mL_isSettled) 11 = .ok (.goto 4, 3) := by decide +kernel
theorem qL_isSettled_14 : decode (mB mL_isSettled) 14 = .ok (.lconst 0, 1) := by decide +kernel
theorem qL_isSettled_15 : decode (mB mL_isSettled) 15 = .ok (.lastore, 1) := by decide +kernel
theorem qL_isSettled_16 : decode (mB mL_isSettled) 16 = .ok (.goto 6, 3) := by decide +kernel
theorem qL_isSettled_19 : decode (mB mL_isSettled) 19 = .ok (.astore_n 3, 1) := by decide +kernel
theorem qL_isSettled_20 : decode (mB mL_isSettled) 20 = .ok (.iconst 1, 1) := by decide +kernel
theorem qL_isSettled_21 : decode (mB mL_isSettled) 21 = .ok (.ireturn, 1) := by decide +kernel
theorem qL_isSettled_22 : decode (mB mL_isSettled) 22 = .ok (.iconst 0, 1) := by decide +kernel
theorem qL_isSettled_23 : decode (mB mL_isSettled) 23 = .ok (.ireturn, 1) := by decide +kernel
theorem qL_layThumb_0 : decode (mB mL_layThumb) 0 = .ok (.aload_n 3, 1) := by decide +kernel
theorem qL_layThumb_1 : decode (mB mL_layThumb) 1 = .ok (.iconst 0, 1) := by decide +kernel
theorem qL_layThumb_2 : decode (mB mL_layThumb) 2 = .ok (.aload_n 0, 1) := by decide +kernel
theorem qL_layThumb_3 : decode (mB mL_layThumb) 3 = .ok (.iload_n 1, 1) := by decide +kernel
theorem qL_layThumb_4 : decode (mB mL_layThumb) 4 = .ok (.iload_n 2, 1) := by decide +kernel
theorem qL_layThumb_5 : decode (mB mL_layThumb) 5 = .ok (.invokevirtual 138, 3) := by decide +kernel
theorem qL_layThumb_8 : decode (mB mL_layThumb) 8 = .ok (.i2l, 1) := by decide +kernel
theorem qL_layThumb_9 : decode (mB mL_layThumb) 9 = .ok (.lastore, 1) := by decide +kernel
theorem qL_layThumb_10 : decode (mB mL_layThumb) 10 = .ok (.goto 11, 3) := by decide +kernel
theorem qL_layThumb_13 : decode (mB mL_layThumb) 13 = .ok (.astore 4, 2) := by decide +kernel
theorem qL_layThumb_15 : decode (mB mL_layThumb) 15 = .ok (.iconst 1, 1) := by decide +kernel
theorem qL_layThumb_16 : decode (mB mL_layThumb) 16 = .ok (.ireturn, 1) := by decide +kernel
theorem qL_layThumb_17 : decode (mB mL_layThumb) 17 = .ok (.astore 4, 2) := by decide +kernel
theorem qL_layThumb_19 : decode (mB mL_layThumb) 19 = .ok (.iconst 2, 1) := by decide +kernel
theorem qL_layThumb_20 : decode (mB mL_layThumb) 20 = .ok (.ireturn, 1) := by decide +kernel
theorem qL_layThumb_21 : decode (mB mL_layThumb) 21 = .ok (.iconst 0, 1) := by decide +kernel
theorem qL_layThumb_22 : decode (mB mL_layThumb) 22 = .ok (.ireturn, 1) := by decide +kernel
theorem qL_lift_0 : decode (mB mL_lift) 0 = .ok (.aload_n 2, 1) := by decide +kernel
theorem qL_lift_1 : decode (mB mL_lift) 1 = .ok (.iconst 0, 1) := by decide +kernel
theorem qL_lift_2 : decode (mB mL_lift) 2 = .ok (.aload_n 0, 1) := by decide +kernel
theorem qL_lift_3 : decode (mB mL_lift) 3 = .ok (.iload_n 1, 1) := by decide +kernel
theorem qL_lift_4 : decode (mB mL_lift) 4 = .ok (.invokevirtual 129, 3) := by decide +kernel
theorem qL_lift_7 : decode (mB mL_lift) 7 = .ok (.i2l, 1) := by decide +kernel
theorem qL_lift_8 : decode (mB mL_lift) 8 = .ok (.lastore, 1) := by decide +kernel
theorem qL_lift_9 : decode (mB mL_lift) 9 = .ok (.goto 9, 3) := by decide +kernel
theorem qL_lift_12 : decode (mB mL_lift) 12 = .ok (.astore_n 3, 1) := by decide +kernel
theorem qL_lift_13 : decode (mB mL_lift) 13 = .ok (.iconst 1, 1) := by decide +kernel
theorem qL_lift_14 : decode (mB mL_lift) 14 = .ok (.ireturn, 1) := by decide +kernel
theorem qL_lift_15 : decode (mB mL_lift) 15 = .ok (.astore_n 3, 1) := by decide +kernel
theorem qL_lift_16 : decode (mB mL_lift) 16 = .ok (.iconst 2, 1) := by decide +kernel
theorem qL_lift_17 : decode (mB mL_lift) 17 = .ok (.ireturn, 1) := by decide +kernel
theorem qL_lift_18 : decode (mB mL_lift) 18 = .ok (.iconst 0, 1) := by decide +kernel
theorem qL_lift_19 : decode (mB mL_lift) 19 = .ok (.ireturn, 1) := by decide +kernel
theorem qL_lossAfter_0 : decode (mB mL_lossAfter) 0 = .ok (.aload_n 2, 1) := by decide +kernel
theorem qL_lossAfter_1 : decode (mB mL_lossAfter) 1 = .ok (.iconst 0, 1) := by decide +kernel
theorem qL_lossAfter_2 : decode (mB mL_lossAfter) 2 = .ok (.aload_n 0, 1) := by decide +kernel
theorem qL_lossAfter_3 : decode (mB mL_lossAfter) 3 = .ok (.iload_n 1, 1) := by decide +kernel
theorem qL_lossAfter_4 : decode (mB mL_lossAfter) 4 = .ok (.invokevirtual 120, 3) := by decide +kernel
theorem qL_lossAfter_7 : decode (mB mL_lossAfter) 7 = .ok (.i2l, 1) := by decide +kernel
theorem qL_lossAfter_8 : decode (mB mL_lossAfter) 8 = .ok (.lastore, 1) := by decide +kernel
theorem qL_lossAfter_9 : decode (mB mL_lossAfter) 9 = .ok (.goto 6, 3) := by decide +kernel
theorem qL_lossAfter_12 : decode (mB mL_lossAfter) 12 = .ok (.astore_n 3, 1) := by decide +kernel
theorem qL_lossAfter_13 : decode (mB mL_lossAfter) 13 = .ok (.iconst 1, 1) := by decide +kernel
theorem qL_lossAfter_14 : decode (mB mL_lossAfter) 14 = .ok (.ireturn, 1) := by decide +kernel
theorem qL_lossAfter_15 : decode (mB mL_lossAfter) 15 = .ok (.iconst 0, 1) := by decide +kernel
theorem qL_lossAfter_16 : decode (mB mL_lossAfter) 16 = .ok (.ireturn, 1) := by decide +kernel
theorem qL_mark_0 : decode (mB mL_mark) 0 = .ok (.aload_n 2, 1) := by decide +kernel
theorem qL_mark_1 : decode (mB mL_mark) 1 = .ok (.iconst 0, 1) := by decide +kernel
theorem qL_mark_2 : decode (mB mL_mark) 2 = .ok (.aload_n 0, 1) := by decide +kernel
theorem qL_mark_3 : decode (mB mL_mark) 3 = .ok (.iload_n 1, 1) := by decide +kernel
theorem qL_mark_4 : decode (mB mL_mark) 4 = .ok (.invokevirtual 132, 3) := by decide +kernel
theorem qL_mark_7 : decode (mB mL_mark) 7 = .ok (.i2l, 1) := by decide +kernel
theorem qL_mark_8 : decode (mB mL_mark) 8 = .ok (.lastore, 1) := by decide +kernel
theorem qL_mark_9 : decode (mB mL_mark) 9 = .ok (.goto 9, 3) := by decide +kernel
theorem qL_mark_12 : decode (mB mL_mark) 12 = .ok (.astore_n 3, 1) := by decide +kernel
theorem qL_mark_13 : decode (mB mL_mark) 13 = .ok (.iconst 1, 1) := by decide +kernel
theorem qL_mark_14 : decode (mB mL_mark) 14 = .ok (.ireturn, 1) := by decide +kernel
theorem qL_mark_15 : decode (mB mL_mark) 15 = .ok (.astore_n 3, 1) := by decide +kernel
theorem qL_mark_16 : decode (mB mL_mark) 16 = .ok (.iconst 2, 1) := by decide +kernel
theorem qL_mark_17 : decode (mB mL_mark) 17 = .ok (.ireturn, 1) := by decide +kernel
theorem qL_mark_18 : decode (mB mL_mark) 18 = .ok (.iconst 0, 1) := by decide +kernel
theorem qL_mark_19 : decode (mB mL_mark) 19 = .ok (.ireturn, 1) := by decide +kernel
theorem qL_markRefusal_0 : decode (mB mL_markRefusal) 0 = .ok (.aload_n 2, 1) := by decide +kernel
theorem qL_markRefusal_1 : decode (mB mL_markRefusal) 1 = .ok (.iconst 0, 1) := by decide +kernel
theorem qL_markRefusal_2 : decode (mB mL_markRefusal) 2 = .ok (.aload_n 0, 1) := by decide +kernel
theorem qL_markRefusal_3 : decode (mB mL_markRefusal) 3 = .ok (.iload_n 1, 1) := by decide +kernel
theorem qL_markRefusal_4 : decode (mB mL_markRefusal) 4 = .ok (.invokevirtual 99, 3) := by decide +kernel
theorem qL_markRefusal_7 : decode (mB mL_markRefusal) 7 = .ok (.i2l, 1) := by decide +kernel
theorem qL_markRefusal_8 : decode (mB mL_markRefusal) 8 = .ok (.lastore, 1) := by decide +kernel
theorem qL_markRefusal_9 : decode (mB mL_markRefusal) 9 = .ok (.goto 6, 3) := by decide +kernel
theorem qL_markRefusal_12 : decode (mB mL_markRefusal) 12 = .ok (.astore_n 3, 1) := by decide +kernel
theorem qL_markRefusal_13 : decode (mB mL_markRefusal) 13 = .ok (.iconst 1, 1) := by decide +kernel
theorem qL_markRefusal_14 : decode (mB mL_markRefusal) 14 = .ok (.ireturn, 1) := by decide +kernel
theorem qL_markRefusal_15 : decode (mB mL_markRefusal) 15 = .ok (.iconst 0, 1) := by decide +kernel
theorem qL_markRefusal_16 : decode (mB mL_markRefusal) 16 = .ok (.ireturn, 1) := by decide +kernel
theorem qL_minutesUntilHeight_0 : decode (mB mL_minutesUntilHeight) 0 = .ok (.aload_n 3, 1) := by decide +kernel
theorem qL_minutesUntilHeight_1 : decode (mB mL_minutesUntilHeight) 1 = .ok (.iconst 0, 1) := by decide +kernel
theorem qL_minutesUntilHeight_2 : decode (mB mL_minutesUntilHeight) 2 = .ok (.aload_n 0, 1) := by decide +kernel
theorem qL_minutesUntilHeight_3 : decode (mB mL_minutesUntilHeight) 3 = .ok (.iload_n 1, 1) := by decide +kernel
theorem qL_minutesUntilHeight_4 : decode (mB mL_minutesUntilHeight) 4 = .ok (.iload_n 2, 1) := by decide +kernel
theorem qL_minutesUntilHeight_5 : decode (mB mL_minutesUntilHeight) 5 = .ok (.invokevirtual 114, 3) := by decide +kernel
theorem qL_minutesUntilHeight_8 : decode (mB mL_minutesUntilHeight) 8 = .ok (.i2l, 1) := by decide +kernel
theorem qL_minutesUntilHeight_9 : decode (mB mL_minutesUntilHeight) 9 = .ok (.lastore, 1) := by decide +kernel
theorem qL_minutesUntilHeight_10 : decode (mB mL_minutesUntilHeight) 10 = .ok (.goto 11, 3) := by decide +kernel
theorem qL_minutesUntilHeight_13 : decode (mB mL_minutesUntilHeight) 13 = .ok (.astore 4, 2) := by decide +kernel
theorem qL_minutesUntilHeight_15 : decode (mB mL_minutesUntilHeight) 15 = .ok (.iconst 1, 1) := by decide +kernel
theorem qL_minutesUntilHeight_16 : decode (mB mL_minutesUntilHeight) 16 = .ok (.ireturn, 1) := by decide +kernel
theorem qL_minutesUntilHeight_17 : decode (mB mL_minutesUntilHeight) 17 = .ok (.astore 4, 2) := by decide +kernel
theorem qL_minutesUntilHeight_19 : decode (mB mL_minutesUntilHeight) 19 = .ok (.iconst 2, 1) := by decide +kernel
theorem qL_minutesUntilHeight_20 : decode (mB mL_minutesUntilHeight) 20 = .ok (.ireturn, 1) := by decide +kernel
theorem qL_minutesUntilHeight_21 : decode (mB mL_minutesUntilHeight) 21 = .ok (.iconst 0, 1) := by decide +kernel
theorem qL_minutesUntilHeight_22 : decode (mB mL_minutesUntilHeight) 22 = .ok (.ireturn, 1) := by decide +kernel
theorem qL_minutesUntilSettled_0 : decode (mB mL_minutesUntilSettled) 0 = .ok (.aload_n 2, 1) := by decide +kernel
theorem qL_minutesUntilSettled_1 : decode (mB mL_minutesUntilSettled) 1 = .ok (.iconst 0, 1) := by decide +kernel
theorem qL_minutesUntilSettled_2 : decode (mB mL_minutesUntilSettled) 2 = .ok (.aload_n 0, 1) := by decide +kernel
theorem qL_minutesUntilSettled_3 : decode (mB mL_minutesUntilSettled) 3 = .ok (.iload_n 1, 1) := by decide +kernel
theorem qL_minutesUntilSettled_4 : decode (mB mL_minutesUntilSettled) 4 = .ok (.invokevirtual 108, 3) := by decide +kernel
theorem qL_minutesUntilSettled_7 : decode (mB mL_minutesUntilSettled) 7 = .ok (.i2l, 1) := by decide +kernel
theorem qL_minutesUntilSettled_8 : decode (mB mL_minutesUntilSettled) 8 = .ok (.lastore, 1) := by decide +kernel
theorem qL_minutesUntilSettled_9 : decode (mB mL_minutesUntilSettled) 9 = .ok (.goto 6, 3) := by decide +kernel
theorem qL_minutesUntilSettled_12 : decode (mB mL_minutesUntilSettled) 12 = .ok (.astore_n 3, 1) := by decide +kernel
theorem qL_minutesUntilSettled_13 : decode (mB mL_minutesUntilSettled) 13 = .ok (.iconst 1, 1) := by decide +kernel
theorem qL_minutesUntilSettled_14 : decode (mB mL_minutesUntilSettled) 14 = .ok (.ireturn, 1) := by decide +kernel
theorem qL_minutesUntilSettled_15 : decode (mB mL_minutesUntilSettled) 15 = .ok (.iconst 0, 1) := by decide +kernel
theorem qL_minutesUntilSettled_16 : decode (mB mL_minutesUntilSettled) 16 = .ok (.ireturn, 1) := by decide +kernel
theorem qL_minutesUntilSpill_0 : decode (mB mL_minutesUntilSpill) 0 = .ok (.aload_n 2, 1) := by decide +kernel
theorem qL_minutesUntilSpill_1 : decode (mB mL_minutesUntilSpill) 1 = .ok (.iconst 0, 1) := by decide +kernel
theorem qL_minutesUntilSpill_2 : decode (mB mL_minutesUntilSpill) 2 = .ok (.aload_n 0, 1) := by decide +kernel
theorem qL_minutesUntilSpill_3 : decode (mB mL_minutesUntilSpill) 3 = .ok (.iload_n 1, 1) := by decide +kernel
theorem qL_minutesUntilSpill_4 : decode (mB mL_minutesUntilSpill) 4 = .ok (.invokevirtual 111, 3) := by decide +kernel
theorem qL_minutesUntilSpill_7 : decode (mB mL_minutesUntilSpill) 7 = .ok (.i2l, 1) := by decide +kernel
theorem qL_minutesUntilSpill_8 : decode (mB mL_minutesUntilSpill) 8 = .ok (.lastore, 1) := by decide +kernel
theorem qL_minutesUntilSpill_9 : decode (mB mL_minutesUntilSpill) 9 = .ok (.goto 6, 3) := by decide +kernel
theorem qL_minutesUntilSpill_12 : decode (mB mL_minutesUntilSpill) 12 = .ok (.astore_n 3, 1) := by decide +kernel
theorem qL_minutesUntilSpill_13 : decode (mB mL_minutesUntilSpill) 13 = .ok (.iconst 1, 1) := by decide +kernel
theorem qL_minutesUntilSpill_14 : decode (mB mL_minutesUntilSpill) 14 = .ok (.ireturn, 1) := by decide +kernel
theorem qL_minutesUntilSpill_15 : decode (mB mL_minutesUntilSpill) 15 = .ok (.iconst 0, 1) := by decide +kernel
theorem qL_minutesUntilSpill_16 : decode (mB mL_minutesUntilSpill) 16 = .ok (.ireturn, 1) := by decide +kernel
theorem qL_outputByte_0 : decode (mB mL_outputByte) 0 = .ok (.aload_n 2, 1) := by decide +kernel
theorem qL_outputByte_1 : decode (mB mL_outputByte) 1 = .ok (.iconst 0, 1) := by decide +kernel
theorem qL_outputByte_2 : decode (mB mL_outputByte) 2 = .ok (.aload_n 0, 1) := by decide +kernel
theorem qL_outputByte_3 : decode (mB mL_outputByte) 3 = .ok (.iload_n 1, 1) := by decide +kernel
theorem qL_outputByte_4 : decode (mB mL_outputByte) 4 = .ok (.invokevirtual 167, 3) := by decide +kernel
theorem qL_outputByte_7 : decode (mB mL_outputByte) 7 = .ok (.i2l, 1) := by decide +kernel
theorem qL_outputByte_8 : decode (mB mL_outputByte) 8 = .ok (.lastore, 1) := by decide +kernel
theorem qL_outputByte_9 : decode (mB mL_outputByte) 9 = .ok (.goto 6, 3) := by decide +kernel
theorem qL_outputByte_12 : decode (mB mL_outputByte) 12 = .ok (.astore_n 3, 1) := by decide +kernel
theorem qL_outputByte_13 : decode (mB mL_outputByte) 13 = .ok (.iconst 1, 1) := by decide +kernel
theorem qL_outputByte_14 : decode (mB mL_outputByte) 14 = .ok (.ireturn, 1) := by decide +kernel
theorem qL_outputByte_15 : decode (mB mL_outputByte) 15 = .ok (.iconst 0, 1) := by decide +kernel
theorem qL_outputByte_16 : decode (mB mL_outputByte) 16 = .ok (.ireturn, 1) := by decide +kernel
theorem qL_pass_0 : decode (mB mL_pass) 0 = .ok (.aload_n 2, 1) := by decide +kernel
theorem qL_pass_1 : decode (mB mL_pass) 1 = .ok (.iconst 0, 1) := by decide +kernel
theorem qL_pass_2 : decode (mB mL_pass) 2 = .ok (.aload_n 0, 1) := by decide +kernel
theorem qL_pass_3 : decode (mB mL_pass) 3 = .ok (.iload_n 1, 1) := by decide +kernel
theorem qL_pass_4 : decode (mB mL_pass) 4 = .ok (.invokevirtual 151, 3) := by decide +kernel
theorem qL_pass_7 : decode (mB mL_pass) 7 = .ok (.i2l, 1) := by decide +kernel
theorem qL_pass_8 : decode (mB mL_pass) 8 = .ok (.lastore, 1) := by decide +kernel
theorem qL_pass_9 : decode (mB mL_pass) 9 = .ok (.goto 6, 3) := by decide +kernel
theorem qL_pass_12 : decode (mB mL_pass) 12 = .ok (.astore_n 3, 1) := by decide +kernel
theorem qL_pass_13 : decode (mB mL_pass) 13 = .ok (.iconst 1, 1) := by decide +kernel
theorem qL_pass_14 : decode (mB mL_pass) 14 = .ok (.ireturn, 1) := by decide +kernel
theorem qL_pass_15 : decode (mB mL_pass) 15 = .ok (.iconst 0, 1) := by decide +kernel
theorem qL_pass_16 : decode (mB mL_pass) 16 = .ok (.ireturn, 1) := by decide +kernel
theorem qL_pointCount_0 : decode (mB mL_pointCount) 0 = .ok (.aload_n 2, 1) := by decide +kernel
theorem qL_pointCount_1 : decode (mB mL_pointCount) 1 = .ok (.iconst 0, 1) := by decide +kernel
theorem qL_pointCount_2 : decode (mB mL_pointCount) 2 = .ok (.aload_n 0, 1) := by decide +kernel
theorem qL_pointCount_3 : decode (mB mL_pointCount) 3 = .ok (.iload_n 1, 1) := by decide +kernel
theorem qL_pointCount_4 : decode (mB mL_pointCount) 4 = .ok (.invokevirtual 67, 3) := by decide +kernel
theorem qL_pointCount_7 : decode (mB mL_pointCount) 7 = .ok (.i2l, 1) := by decide +kernel
theorem qL_pointCount_8 : decode (mB mL_pointCount) 8 = .ok (.lastore, 1) := by decide +kernel
theorem qL_pointCount_9 : decode (mB mL_pointCount) 9 = .ok (.goto 6, 3) := by decide +kernel
theorem qL_pointCount_12 : decode (mB mL_pointCount) 12 = .ok (.astore_n 3, 1) := by decide +kernel
theorem qL_pointCount_13 : decode (mB mL_pointCount) 13 = .ok (.iconst 1, 1) := by decide +kernel
theorem qL_pointCount_14 : decode (mB mL_pointCount) 14 = .ok (.ireturn, 1) := by decide +kernel
theorem qL_pointCount_15 : decode (mB mL_pointCount) 15 = .ok (.iconst 0, 1) := by decide +kernel
theorem qL_pointCount_16 : decode (mB mL_pointCount) 16 = .ok (.ireturn, 1) := by decide +kernel
theorem qL_pointDegrees_0 : decode (mB mL_pointDegrees) 0 = .ok (.aload_n 3, 1) := by decide +kernel
theorem qL_pointDegrees_1 : decode (mB mL_pointDegrees) 1 = .ok (.iconst 0, 1) := by decide +kernel
theorem qL_pointDegrees_2 : decode (mB mL_pointDegrees) 2 = .ok (.aload_n 0, 1) := by decide +kernel
theorem qL_pointDegrees_3 : decode (mB mL_pointDegrees) 3 = .ok (.iload_n 1, 1) := by decide +kernel
theorem qL_pointDegrees_4 : decode (mB mL_pointDegrees) 4 = .ok (.iload_n 2, 1) := by decide +kernel
theorem qL_pointDegrees_5 : decode (mB mL_pointDegrees) 5 = .ok (.invokevirtual 70, 3) := by decide +kernel
theorem qL_pointDegrees_8 : decode (mB mL_pointDegrees) 8 = .ok (.i2l, 1) := by decide +kernel
theorem qL_pointDegrees_9 : decode (mB mL_pointDegrees) 9 = .ok (.lastore, 1) := by decide +kernel
theorem qL_pointDegrees_10 : decode (mB mL_pointDegrees) 10 = .ok (.goto 11, 3) := by decide +kernel
theorem qL_pointDegrees_13 : decode (mB mL_pointDegrees) 13 = .ok (.astore 4, 2) := by decide +kernel
theorem qL_pointDegrees_15 : decode (mB mL_pointDegrees) 15 = .ok (.iconst 1, 1) := by decide +kernel
theorem qL_pointDegrees_16 : decode (mB mL_pointDegrees) 16 = .ok (.ireturn, 1) := by decide +kernel
theorem qL_pointDegrees_17 : decode (mB mL_pointDegrees) 17 = .ok (.astore 4, 2) := by decide +kernel
theorem qL_pointDegrees_19 : decode (mB mL_pointDegrees) 19 = .ok (.iconst 2, 1) := by decide +kernel
theorem qL_pointDegrees_20 : decode (mB mL_pointDegrees) 20 = .ok (.ireturn, 1) := by decide +kernel
theorem qL_pointDegrees_21 : decode (mB mL_pointDegrees) 21 = .ok (.iconst 0, 1) := by decide +kernel
theorem qL_pointDegrees_22 : decode (mB mL_pointDegrees) 22 = .ok (.ireturn, 1) := by decide +kernel
theorem qL_pointHeight_0 : decode (mB mL_pointHeight) 0 = .ok (.aload_n 3, 1) := by decide +kernel
theorem qL_pointHeight_1 : decode (mB mL_pointHeight) 1 = .ok (.iconst 0, 1) := by decide +kernel
theorem qL_pointHeight_2 : decode (mB mL_pointHeight) 2 = .ok (.aload_n 0, 1) := by decide +kernel
theorem qL_pointHeight_3 : decode (mB mL_pointHeight) 3 = .ok (.iload_n 1, 1) := by decide +kernel
theorem qL_pointHeight_4 : decode (mB mL_pointHeight) 4 = .ok (.iload_n 2, 1) := by decide +kernel
theorem qL_pointHeight_5 : decode (mB mL_pointHeight) 5 = .ok (.invokevirtual 75, 3) := by decide +kernel
theorem qL_pointHeight_8 : decode (mB mL_pointHeight) 8 = .ok (.i2l, 1) := by decide +kernel
theorem qL_pointHeight_9 : decode (mB mL_pointHeight) 9 = .ok (.lastore, 1) := by decide +kernel
theorem qL_pointHeight_10 : decode (mB mL_pointHeight) 10 = .ok (.goto 11, 3) := by decide +kernel
theorem qL_pointHeight_13 : decode (mB mL_pointHeight) 13 = .ok (.astore 4, 2) := by decide +kernel
theorem qL_pointHeight_15 : decode (mB mL_pointHeight) 15 = .ok (.iconst 1, 1) := by decide +kernel
theorem qL_pointHeight_16 : decode (mB mL_pointHeight) 16 = .ok (.ireturn, 1) := by decide +kernel
theorem qL_pointHeight_17 : decode (mB mL_pointHeight) 17 = .ok (.astore 4, 2) := by decide +kernel
theorem qL_pointHeight_19 : decode (mB mL_pointHeight) 19 = .ok (.iconst 2, 1) := by decide +kernel
theorem qL_pointHeight_20 : decode (mB mL_pointHeight) 20 = .ok (.ireturn, 1) := by decide +kernel
theorem qL_pointHeight_21 : decode (mB mL_pointHeight) 21 = .ok (.iconst 0, 1) := by decide +kernel
theorem qL_pointHeight_22 : decode (mB mL_pointHeight) 22 = .ok (.ireturn, 1) := by decide +kernel
theorem qL_printTube_0 : decode (mB mL_printTube) 0 = .ok (.aload_n 2, 1) := by decide +kernel
theorem qL_printTube_1 : decode (mB mL_printTube) 1 = .ok (.iconst 0, 1) := by decide +kernel
theorem qL_printTube_2 : decode (mB mL_printTube) 2 = .ok (.aload_n 0, 1) := by decide +kernel
theorem qL_printTube_3 : decode (mB mL_printTube) 3 = .ok (.iload_n 1, 1) := by decide +kernel
theorem qL_printTube_4 : decode (mB mL_printTube) 4 = .ok (.invokevirtual 164, 3) := by decide +kernel
theorem qL_printTube_7 : decode (mB mL_printTube) 7 = .ok (.i2l, 1) := by decide +kernel
theorem qL_printTube_8 : decode (mB mL_printTube) 8 = .ok (.lastore, 1) := by decide +kernel
theorem qL_printTube_9 : decode (mB mL_printTube) 9 = .ok (.goto 6, 3) := by decide +kernel
theorem qL_printTube_12 : decode (mB mL_printTube) 12 = .ok (.astore_n 3, 1) := by decide +kernel
theorem qL_printTube_13 : decode (mB mL_printTube) 13 = .ok (.iconst 1, 1) := by decide +kernel
theorem qL_printTube_14 : decode (mB mL_printTube) 14 = .ok (.ireturn, 1) := by decide +kernel
theorem qL_printTube_15 : decode (mB mL_printTube) 15 = .ok (.iconst 0, 1) := by decide +kernel
theorem qL_printTube_16 : decode (mB mL_printTube) 16 = .ok (.ireturn, 1) := by decide +kernel
theorem qL_reading_0 : decode (mB mL_reading) 0 = .ok (.aload_n 2, 1) := by decide +kernel
theorem qL_reading_1 : decode (mB mL_reading) 1 = .ok (.iconst 0, 1) := by decide +kernel
theorem qL_reading_2 : decode (mB mL_reading) 2 = .ok (.aload_n 0, 1) := by decide +kernel
theorem qL_reading_3 : decode (mB mL_reading) 3 = .ok (.iload_n 1, 1) := by decide +kernel
theorem qL_reading_4 : decode (mB mL_reading) 4 = .ok (.invokevirtual 81, 3) := by decide +kernel
theorem qL_reading_7 : decode (mB mL_reading) 7 = .ok (.i2l, 1) := by decide +kernel
theorem qL_reading_8 : decode (mB mL_reading) 8 = .ok (.lastore, 1) := by decide +kernel
theorem qL_reading_9 : decode (mB mL_reading) 9 = .ok (.goto 9, 3) := by decide +kernel
theorem qL_reading_12 : decode (mB mL_reading) 12 = .ok (.astore_n 3, 1) := by decide +kernel
theorem qL_reading_13 : decode (mB mL_reading) 13 = .ok (.iconst 1, 1) := by decide +kernel
theorem qL_reading_14 : decode (mB mL_reading) 14 = .ok (.ireturn, 1) := by decide +kernel
theorem qL_reading_15 : decode (mB mL_reading) 15 = .ok (.astore_n 3, 1) := by decide +kernel
theorem qL_reading_16 : decode (mB mL_reading) 16 = .ok (.iconst 2, 1) := by decide +kernel
theorem qL_reading_17 : decode (mB mL_reading) 17 = .ok (.ireturn, 1) := by decide +kernel
theorem qL_reading_18 : decode (mB mL_reading) 18 = .ok (.iconst 0, 1) := by decide +kernel
theorem qL_reading_19 : decode (mB mL_reading) 19 = .ok (.ireturn, 1) := by decide +kernel
theorem qL_readingError_0 : decode (mB mL_readingError) 0 = .ok (.aload_n 2, 1) := by decide +kernel
theorem qL_readingError_1 : decode (mB mL_readingError) 1 = .ok (.iconst 0, 1) := by decide +kernel
theorem qL_readingError_2 : decode (mB mL_readingError) 2 = .ok (.aload_n 0, 1) := by decide +kernel
theorem qL_readingError_3 : decode (mB mL_readingError) 3 = .ok (.iload_n 1, 1) := by decide +kernel
theorem qL_readingError_4 : decode (mB mL_readingError) 4 = .ok (.invokevirtual 84, 3) := by decide +kernel
theorem qL_readingError_7 : decode (mB mL_readingError) 7 = .ok (.i2l, 1) := by decide +kernel
theorem qL_readingError_8 : decode (mB mL_readingError) 8 = .ok (.lastore, 1) := by decide +kernel
theorem qL_readingError_9 : decode (mB mL_readingError) 9 = .ok (.goto 9, 3) := by decide +kernel
theorem qL_readingError_12 : decode (mB mL_readingError) 12 = .ok (.astore_n 3, 1) := by decide +kernel
theorem qL_readingError_13 : decode (mB mL_readingError) 13 = .ok (.iconst 1, 1) := by decide +kernel
theorem qL_readingError_14 : decode (mB mL_readingError) 14 = .ok (.ireturn, 1) := by decide +kernel
theorem qL_readingError_15 : decode (mB mL_readingError) 15 = .ok (.astore_n 3, 1) := by decide +kernel
theorem qL_readingError_16 : decode (mB mL_readingError) 16 = .ok (.iconst 2, 1) := by decide +kernel
theorem qL_readingError_17 : decode (mB mL_readingError) 17 = .ok (.ireturn, 1) := by decide +kernel
theorem qL_readingError_18 : decode (mB mL_readingError) 18 = .ok (.iconst 0, 1) := by decide +kernel
theorem qL_readingError_19 : decode (mB mL_readingError) 19 = .ok (.ireturn, 1) := by decide +kernel
theorem qL_restore_0 : decode (mB mL_restore) 0 = .ok (.aload_n 2, 1) := by decide +kernel
theorem qL_restore_1 : decode (mB mL_restore) 1 = .ok (.iconst 0, 1) := by decide +kernel
theorem qL_restore_2 : decode (mB mL_restore) 2 = .ok (.aload_n 0, 1) := by decide +kernel
theorem qL_restore_3 : decode (mB mL_restore) 3 = .ok (.iload_n 1, 1) := by decide +kernel
theorem qL_restore_4 : decode (mB mL_restore) 4 = .ok (.invokevirtual 157, 3) := by decide +kernel
theorem qL_restore_7 : decode (mB mL_restore) 7 = .ok (.i2l, 1) := by decide +kernel
theorem qL_restore_8 : decode (mB mL_restore) 8 = .ok (.lastore, 1) := by decide +kernel
theorem qL_restore_9 : decode (mB mL_restore) 9 = .ok (.goto 9, 3) := by decide +kernel
theorem qL_restore_12 : decode (mB mL_restore) 12 = .ok (.astore_n 3, 1) := by decide +kernel
theorem qL_restore_13 : decode (mB mL_restore) 13 = .ok (.iconst 1, 1) := by decide +kernel
theorem qL_restore_14 : decode (mB mL_restore) 14 = .ok (.ireturn, 1) := by decide +kernel
theorem qL_restore_15 : decode (mB mL_restore) 15 = .ok (.astore_n 3, 1) := by decide +kernel
theorem qL_restore_16 : decode (mB mL_restore) 16 = .ok (.iconst 2, 1) := by decide +kernel
theorem qL_restore_17 : decode (mB mL_restore) 17 = .ok (.ireturn, 1) := by decide +kernel
theorem qL_restore_18 : decode (mB mL_restore) 18 = .ok (.iconst 0, 1) := by decide +kernel
theorem qL_restore_19 : decode (mB mL_restore) 19 = .ok (.ireturn, 1) := by decide +kernel
theorem qL_save_0 : decode (mB mL_save) 0 = .ok (.aload_n 2, 1) := by decide +kernel
theorem qL_save_1 : decode (mB mL_save) 1 = .ok (.iconst 0, 1) := by decide +kernel
theorem qL_save_2 : decode (mB mL_save) 2 = .ok (.aload_n 0, 1) := by decide +kernel
theorem qL_save_3 : decode (mB mL_save) 3 = .ok (.iload_n 1, 1) := by decide +kernel
theorem qL_save_4 : decode (mB mL_save) 4 = .ok (.invokevirtual 154, 3) := by decide +kernel
theorem qL_save_7 : decode (mB mL_save) 7 = .ok (.i2l, 1) := by decide +kernel
theorem qL_save_8 : decode (mB mL_save) 8 = .ok (.lastore, 1) := by decide +kernel
theorem qL_save_9 : decode (mB mL_save) 9 = .ok (.goto 6, 3) := by decide +kernel
theorem qL_save_12 : decode (mB mL_save) 12 = .ok (.astore_n 3, 1) := by decide +kernel
theorem qL_save_13 : decode (mB mL_save) 13 = .ok (.iconst 1, 1) := by decide +kernel
theorem qL_save_14 : decode (mB mL_save) 14 = .ok (.ireturn, 1) := by decide +kernel
theorem qL_save_15 : decode (mB mL_save) 15 = .ok (.iconst 0, 1) := by decide +kernel
theorem qL_save_16 : decode (mB mL_save) 16 = .ok (.ireturn, 1) := by decide +kernel
theorem qL_scaleAt_0 : decode (mB mL_scaleAt) 0 = .ok (.aload_n 3, 1) := by decide +kernel
theorem qL_scaleAt_1 : decode (mB mL_scaleAt) 1 = .ok (.iconst 0, 1) := by decide +kernel
theorem qL_scaleAt_2 : decode (mB mL_scaleAt) 2 = .ok (.aload_n 0, 1) := by decide +kernel
theorem qL_scaleAt_3 : decode (mB mL_scaleAt) 3 = .ok (.iload_n 1, 1) := by decide +kernel
theorem qL_scaleAt_4 : decode (mB mL_scaleAt) 4 = .ok (.iload_n 2, 1) := by decide +kernel
theorem qL_scaleAt_5 : decode (mB mL_scaleAt) 5 = .ok (.invokevirtual 87, 3) := by decide +kernel
theorem qL_scaleAt_8 : decode (mB mL_scaleAt) 8 = .ok (.i2l, 1) := by decide +kernel
theorem qL_scaleAt_9 : decode (mB mL_scaleAt) 9 = .ok (.lastore, 1) := by decide +kernel
theorem qL_scaleAt_10 : decode (mB mL_scaleAt) 10 = .ok (.goto 15, 3) := by decide +kernel
theorem qL_scaleAt_13 : decode (mB mL_scaleAt) 13 = .ok (.astore 4, 2) := by decide +kernel
theorem qL_scaleAt_15 : decode (mB mL_scaleAt) 15 = .ok (.iconst 1, 1) := by decide +kernel
theorem qL_scaleAt_16 : decode (mB mL_scaleAt) 16 = .ok (.ireturn, 1) := by decide +kernel
theorem qL_scaleAt_17 : decode (mB mL_scaleAt) 17 = .ok (.astore 4, 2) := by decide +kernel
theorem qL_scaleAt_19 : decode (mB mL_scaleAt) 19 = .ok (.iconst 2, 1) := by decide +kernel
theorem qL_scaleAt_20 : decode (mB mL_scaleAt) 20 = .ok (.ireturn, 1) := by decide +kernel
theorem qL_scaleAt_21 : decode (mB mL_scaleAt) 21 = .ok (.astore 4, 2) := by decide +kernel
theorem qL_scaleAt_23 : decode (mB mL_scaleAt) 23 = .ok (.iconst 3, 1) := by decide +kernel
theorem qL_scaleAt_24 : decode (mB mL_scaleAt) 24 = .ok (.ireturn, 1) := by decide +kernel
theorem qL_scaleAt_25 : decode (mB mL_scaleAt) 25 = .ok (.iconst 0, 1) := by decide +kernel
theorem qL_scaleAt_26 : decode (mB mL_scaleAt) 26 = .ok (.ireturn, 1) := by decide +kernel
theorem qL_sensitivity_0 : decode (mB mL_sensitivity) 0 = .ok (.aload_n 2, 1) := by decide +kernel
theorem qL_sensitivity_1 : decode (mB mL_sensitivity) 1 = .ok (.iconst 0, 1) := by decide +kernel
theorem qL_sensitivity_2 : decode (mB mL_sensitivity) 2 = .ok (.aload_n 0, 1) := by decide +kernel
theorem qL_sensitivity_3 : decode (mB mL_sensitivity) 3 = .ok (.iload_n 1, 1) := by decide +kernel
theorem qL_sensitivity_4 : decode (mB mL_sensitivity) 4 = .ok (.invokevirtual 93, 3) := by decide +kernel
theorem qL_sensitivity_7 : decode (mB mL_sensitivity) 7 = .ok (.i2l, 1) := by decide +kernel
theorem qL_sensitivity_8 : decode (mB mL_sensitivity) 8 = .ok (.lastore, 1) := by decide +kernel
theorem qL_sensitivity_9 : decode (mB mL_sensitivity) 9 = .ok (.goto 6, 3) := by decide +kernel
theorem qL_sensitivity_12 : decode (mB mL_sensitivity) 12 = .ok (.astore_n 3, 1) := by decide +kernel
theorem qL_sensitivity_13 : decode (mB mL_sensitivity) 13 = .ok (.iconst 1, 1) := by decide +kernel
theorem qL_sensitivity_14 : decode (mB mL_sensitivity) 14 = .ok (.ireturn, 1) := by decide +kernel
theorem qL_sensitivity_15 : decode (mB mL_sensitivity) 15 = .ok (.iconst 0, 1) := by decide +kernel
theorem qL_sensitivity_16 : decode (mB mL_sensitivity) 16 = .ok (.ireturn, 1) := by decide +kernel
theorem qL_setLeaky_0 : decode (mB mL_setLeaky) 0 = .ok (.aload_n 3, 1) := by decide +kernel
theorem qL_setLeaky_1 : decode (mB mL_setLeaky) 1 = .ok (.iconst 0, 1) := by decide +kernel
theorem qL_setLeaky_2 : decode (mB mL_setLeaky) 2 = .ok (.aload_n 0, 1) := by decide +kernel
theorem qL_setLeaky_3 : decode (mB mL_setLeaky) 3 = .ok (.iload_n 1, 1) := by decide +kernel
theorem qL_setLeaky_4 : decode (mB mL_setLeaky) 4 = .ok (.iload_n 2, 1) := by decide +kernel
theorem qL_setLeaky_5 : decode (mB mL_setLeaky) 5 = .ok (.invokevirtual 147, 3) := by decide +kernel
theorem qL_setLeaky_8 : decode (mB mL_setLeaky) 8 = .ok (.ifCond .eq 7, 3) := by decide +kernel
theorem qL_setLeaky_11 : decode (mB mL_setLeaky) 11 = .ok (.lconst 1, 1) := by decide +kernel
theorem qL_setLeaky_12 : decode (mB mL_setLeaky) 12 = .ok (.goto 4, 3) := by decide +kernel
theorem qL_setLeaky_15 : decode (mB mL_setLeaky) 15 = .ok (.lconst 0, 1) := by decide +kernel
theorem qL_setLeaky_16 : decode (mB mL_setLeaky) 16 = .ok (.lastore, 1) := by decide +kernel
theorem qL_setLeaky_17 : decode (mB mL_setLeaky) 17 = .ok (.goto 7, 3) := by decide +kernel
theorem qL_setLeaky_20 : decode (mB mL_setLeaky) 20 = .ok (.astore 4, 2) := by decide +kernel
theorem qL_setLeaky_22 : decode (mB mL_setLeaky) 22 = .ok (.iconst 1, 1) := by decide +kernel
theorem qL_setLeaky_23 : decode (mB mL_setLeaky) 23 = .ok (.ireturn, 1) := by decide +kernel
theorem qL_setLeaky_24 : decode (mB mL_setLeaky) 24 = .ok (.iconst 0, 1) := by decide +kernel
theorem qL_setLeaky_25 : decode (mB mL_setLeaky) 25 = .ok (.ireturn, 1) := by decide +kernel
theorem qL_setRoom_0 : decode (mB mL_setRoom) 0 = .ok (.aload_n 2, 1) := by decide +kernel
theorem qL_setRoom_1 : decode (mB mL_setRoom) 1 = .ok (.iconst 0, 1) := by decide +kernel
theorem qL_setRoom_2 : decode (mB mL_setRoom) 2 = .ok (.aload_n 0, 1) := by decide +kernel
theorem qL_setRoom_3 : decode (mB mL_setRoom) 3 = .ok (.iload_n 1, 1) := by decide +kernel
theorem qL_setRoom_4 : decode (mB mL_setRoom) 4 = .ok (.invokevirtual 144, 3) := by decide +kernel
theorem qL_setRoom_7 : decode (mB mL_setRoom) 7 = .ok (.i2l, 1) := by decide +kernel
theorem qL_setRoom_8 : decode (mB mL_setRoom) 8 = .ok (.lastore, 1) := by decide +kernel
theorem qL_setRoom_9 : decode (mB mL_setRoom) 9 = .ok (.goto 6, 3) := by decide +kernel
theorem qL_setRoom_12 : decode (mB mL_setRoom) 12 = .ok (.astore_n 3, 1) := by decide +kernel
theorem qL_setRoom_13 : decode (mB mL_setRoom) 13 = .ok (.iconst 1, 1) := by decide +kernel
theorem qL_setRoom_14 : decode (mB mL_setRoom) 14 = .ok (.ireturn, 1) := by decide +kernel
theorem qL_setRoom_15 : decode (mB mL_setRoom) 15 = .ok (.iconst 0, 1) := by decide +kernel
theorem qL_setRoom_16 : decode (mB mL_setRoom) 16 = .ok (.ireturn, 1) := by decide +kernel
theorem qL_spiritInTubes_0 : decode (mB mL_spiritInTubes) 0 = .ok (.aload_n 2, 1) := by decide +kernel
theorem qL_spiritInTubes_1 : decode (mB mL_spiritInTubes) 1 = .ok (.iconst 0, 1) := by decide +kernel
theorem qL_spiritInTubes_2 : decode (mB mL_spiritInTubes) 2 = .ok (.aload_n 0, 1) := by decide +kernel
theorem qL_spiritInTubes_3 : decode (mB mL_spiritInTubes) 3 = .ok (.iload_n 1, 1) := by decide +kernel
theorem qL_spiritInTubes_4 : decode (mB mL_spiritInTubes) 4 = .ok (.invokevirtual 29, 3) := by decide +kernel
theorem qL_spiritInTubes_7 : decode (mB mL_spiritInTubes) 7 = .ok (.i2l, 1) := by decide +kernel
theorem qL_spiritInTubes_8 : decode (mB mL_spiritInTubes) 8 = .ok (.lastore, 1) := by decide +kernel
theorem qL_spiritInTubes_9 : decode (mB mL_spiritInTubes) 9 = .ok (.goto 6, 3) := by decide +kernel
theorem qL_spiritInTubes_12 : decode (mB mL_spiritInTubes) 12 = .ok (.astore_n 3, 1) := by decide +kernel
theorem qL_spiritInTubes_13 : decode (mB mL_spiritInTubes) 13 = .ok (.iconst 1, 1) := by decide +kernel
theorem qL_spiritInTubes_14 : decode (mB mL_spiritInTubes) 14 = .ok (.ireturn, 1) := by decide +kernel
theorem qL_spiritInTubes_15 : decode (mB mL_spiritInTubes) 15 = .ok (.iconst 0, 1) := by decide +kernel
theorem qL_spiritInTubes_16 : decode (mB mL_spiritInTubes) 16 = .ok (.ireturn, 1) := by decide +kernel
theorem qL_spiritLost_0 : decode (mB mL_spiritLost) 0 = .ok (.aload_n 2, 1) := by decide +kernel
theorem qL_spiritLost_1 : decode (mB mL_spiritLost) 1 = .ok (.iconst 0, 1) := by decide +kernel
theorem qL_spiritLost_2 : decode (mB mL_spiritLost) 2 = .ok (.aload_n 0, 1) := by decide +kernel
theorem qL_spiritLost_3 : decode (mB mL_spiritLost) 3 = .ok (.iload_n 1, 1) := by decide +kernel
theorem qL_spiritLost_4 : decode (mB mL_spiritLost) 4 = .ok (.invokevirtual 32, 3) := by decide +kernel
theorem qL_spiritLost_7 : decode (mB mL_spiritLost) 7 = .ok (.i2l, 1) := by decide +kernel
theorem qL_spiritLost_8 : decode (mB mL_spiritLost) 8 = .ok (.lastore, 1) := by decide +kernel
theorem qL_spiritLost_9 : decode (mB mL_spiritLost) 9 = .ok (.goto 6, 3) := by decide +kernel
theorem qL_spiritLost_12 : decode (mB mL_spiritLost) 12 = .ok (.astore_n 3, 1) := by decide +kernel
theorem qL_spiritLost_13 : decode (mB mL_spiritLost) 13 = .ok (.iconst 1, 1) := by decide +kernel
theorem qL_spiritLost_14 : decode (mB mL_spiritLost) 14 = .ok (.ireturn, 1) := by decide +kernel
theorem qL_spiritLost_15 : decode (mB mL_spiritLost) 15 = .ok (.iconst 0, 1) := by decide +kernel
theorem qL_spiritLost_16 : decode (mB mL_spiritLost) 16 = .ok (.ireturn, 1) := by decide +kernel
theorem qL_spiritOf_0 : decode (mB mL_spiritOf) 0 = .ok (.aload_n 2, 1) := by decide +kernel
theorem qL_spiritOf_1 : decode (mB mL_spiritOf) 1 = .ok (.iconst 0, 1) := by decide +kernel
theorem qL_spiritOf_2 : decode (mB mL_spiritOf) 2 = .ok (.aload_n 0, 1) := by decide +kernel
theorem qL_spiritOf_3 : decode (mB mL_spiritOf) 3 = .ok (.iload_n 1, 1) := by decide +kernel
theorem qL_spiritOf_4 : decode (mB mL_spiritOf) 4 = .ok (.invokevirtual 35, 3) := by decide +kernel
theorem qL_spiritOf_7 : decode (mB mL_spiritOf) 7 = .ok (.i2l, 1) := by decide +kernel
theorem qL_spiritOf_8 : decode (mB mL_spiritOf) 8 = .ok (.lastore, 1) := by decide +kernel
theorem qL_spiritOf_9 : decode (mB mL_spiritOf) 9 = .ok (.goto 6, 3) := by decide +kernel
theorem qL_spiritOf_12 : decode (mB mL_spiritOf) 12 = .ok (.astore_n 3, 1) := by decide +kernel
theorem qL_spiritOf_13 : decode (mB mL_spiritOf) 13 = .ok (.iconst 1, 1) := by decide +kernel
theorem qL_spiritOf_14 : decode (mB mL_spiritOf) 14 = .ok (.ireturn, 1) := by decide +kernel
theorem qL_spiritOf_15 : decode (mB mL_spiritOf) 15 = .ok (.iconst 0, 1) := by decide +kernel
theorem qL_spiritOf_16 : decode (mB mL_spiritOf) 16 = .ok (.ireturn, 1) := by decide +kernel
theorem qL_surroundingsOf_0 : decode (mB mL_surroundingsOf) 0 = .ok (.aload_n 2, 1) := by decide +kernel
theorem qL_surroundingsOf_1 : decode (mB mL_surroundingsOf) 1 = .ok (.iconst 0, 1) := by decide +kernel
theorem qL_surroundingsOf_2 : decode (mB mL_surroundingsOf) 2 = .ok (.aload_n 0, 1) := by decide +kernel
theorem qL_surroundingsOf_3 : decode (mB mL_surroundingsOf) 3 = .ok (.iload_n 1, 1) := by decide +kernel
theorem qL_surroundingsOf_4 : decode (mB mL_surroundingsOf) 4 = .ok (.invokevirtual 44, 3) := by decide +kernel
theorem qL_surroundingsOf_7 : decode (mB mL_surroundingsOf) 7 = .ok (.i2l, 1) := by decide +kernel
theorem qL_surroundingsOf_8 : decode (mB mL_surroundingsOf) 8 = .ok (.lastore, 1) := by decide +kernel
theorem qL_surroundingsOf_9 : decode (mB mL_surroundingsOf) 9 = .ok (.goto 6, 3) := by decide +kernel
theorem qL_surroundingsOf_12 : decode (mB mL_surroundingsOf) 12 = .ok (.astore_n 3, 1) := by decide +kernel
theorem qL_surroundingsOf_13 : decode (mB mL_surroundingsOf) 13 = .ok (.iconst 1, 1) := by decide +kernel
theorem qL_surroundingsOf_14 : decode (mB mL_surroundingsOf) 14 = .ok (.ireturn, 1) := by decide +kernel
theorem qL_surroundingsOf_15 : decode (mB mL_surroundingsOf) 15 = .ok (.iconst 0, 1) := by decide +kernel
theorem qL_surroundingsOf_16 : decode (mB mL_surroundingsOf) 16 = .ok (.ireturn, 1) := by decide +kernel
theorem qL_temperatureAfter_0 : decode (mB mL_temperatureAfter) 0 = .ok (.aload_n 3, 1) := by decide +kernel
theorem qL_temperatureAfter_1 : decode (mB mL_temperatureAfter) 1 = .ok (.iconst 0, 1) := by decide +kernel
theorem qL_temperatureAfter_2 : decode (mB mL_temperatureAfter) 2 = .ok (.aload_n 0, 1) := by decide +kernel
theorem qL_temperatureAfter_3 : decode (mB mL_temperatureAfter) 3 = .ok (.iload_n 1, 1) := by decide +kernel
theorem qL_temperatureAfter_4 : decode (mB mL_temperatureAfter) 4 = .ok (.iload_n 2, 1) := by decide +kernel
theorem qL_temperatureAfter_5 : decode (mB mL_temperatureAfter) 5 = .ok (.invokevirtual 105, 3) := by decide +kernel
theorem qL_temperatureAfter_8 : decode (mB mL_temperatureAfter) 8 = .ok (.i2l, 1) := by decide +kernel
theorem qL_temperatureAfter_9 : decode (mB mL_temperatureAfter) 9 = .ok (.lastore, 1) := by decide +kernel
theorem qL_temperatureAfter_10 : decode (mB mL_temperatureAfter) 10 = .ok (.goto 11, 3) := by decide +kernel
theorem qL_temperatureAfter_13 : decode (mB mL_temperatureAfter) 13 = .ok (.astore 4, 2) := by decide +kernel
theorem qL_temperatureAfter_15 : decode (mB mL_temperatureAfter) 15 = .ok (.iconst 1, 1) := by decide +kernel
theorem qL_temperatureAfter_16 : decode (mB mL_temperatureAfter) 16 = .ok (.ireturn, 1) := by decide +kernel
theorem qL_temperatureAfter_17 : decode (mB mL_temperatureAfter) 17 = .ok (.astore 4, 2) := by decide +kernel
theorem qL_temperatureAfter_19 : decode (mB mL_temperatureAfter) 19 = .ok (.iconst 2, 1) := by decide +kernel
theorem qL_temperatureAfter_20 : decode (mB mL_temperatureAfter) 20 = .ok (.ireturn, 1) := by decide +kernel
theorem qL_temperatureAfter_21 : decode (mB mL_temperatureAfter) 21 = .ok (.iconst 0, 1) := by decide +kernel
theorem qL_temperatureAfter_22 : decode (mB mL_temperatureAfter) 22 = .ok (.ireturn, 1) := by decide +kernel
theorem qL_temperatureOf_0 : decode (mB mL_temperatureOf) 0 = .ok (.aload_n 2, 1) := by decide +kernel
theorem qL_temperatureOf_1 : decode (mB mL_temperatureOf) 1 = .ok (.iconst 0, 1) := by decide +kernel
theorem qL_temperatureOf_2 : decode (mB mL_temperatureOf) 2 = .ok (.aload_n 0, 1) := by decide +kernel
theorem qL_temperatureOf_3 : decode (mB mL_temperatureOf) 3 = .ok (.iload_n 1, 1) := by decide +kernel
theorem qL_temperatureOf_4 : decode (mB mL_temperatureOf) 4 = .ok (.invokevirtual 41, 3) := by decide +kernel
theorem qL_temperatureOf_7 : decode (mB mL_temperatureOf) 7 = .ok (.i2l, 1) := by decide +kernel
theorem qL_temperatureOf_8 : decode (mB mL_temperatureOf) 8 = .ok (.lastore, 1) := by decide +kernel
theorem qL_temperatureOf_9 : decode (mB mL_temperatureOf) 9 = .ok (.goto 6, 3) := by decide +kernel
theorem qL_temperatureOf_12 : decode (mB mL_temperatureOf) 12 = .ok (.astore_n 3, 1) := by decide +kernel
theorem qL_temperatureOf_13 : decode (mB mL_temperatureOf) 13 = .ok (.iconst 1, 1) := by decide +kernel
theorem qL_temperatureOf_14 : decode (mB mL_temperatureOf) 14 = .ok (.ireturn, 1) := by decide +kernel
theorem qL_temperatureOf_15 : decode (mB mL_temperatureOf) 15 = .ok (.iconst 0, 1) := by decide +kernel
theorem qL_temperatureOf_16 : decode (mB mL_temperatureOf) 16 = .ok (.ireturn, 1) := by decide +kernel
theorem qL_topUp_0 : decode (mB mL_topUp) 0 = .ok (.aload_n 3, 1) := by decide +kernel
theorem qL_topUp_1 : decode (mB mL_topUp) 1 = .ok (.iconst 0, 1) := by decide +kernel
theorem qL_topUp_2 : decode (mB mL_topUp) 2 = .ok (.aload_n 0, 1) := by decide +kernel
theorem qL_topUp_3 : decode (mB mL_topUp) 3 = .ok (.iload_n 1, 1) := by decide +kernel
theorem qL_topUp_4 : decode (mB mL_topUp) 4 = .ok (.iload_n 2, 1) := by decide +kernel
theorem qL_topUp_5 : decode (mB mL_topUp) 5 = .ok (.invokevirtual 141, 3) := by decide +kernel
theorem qL_topUp_8 : decode (mB mL_topUp) 8 = .ok (.i2l, 1) := by decide +kernel
theorem qL_topUp_9 : decode (mB mL_topUp) 9 = .ok (.lastore, 1) := by decide +kernel
theorem qL_topUp_10 : decode (mB mL_topUp) 10 = .ok (.goto 15, 3) := by decide +kernel
theorem qL_topUp_13 : decode (mB mL_topUp) 13 = .ok (.astore 4, 2) := by decide +kernel
theorem qL_topUp_15 : decode (mB mL_topUp) 15 = .ok (.iconst 1, 1) := by decide +kernel
theorem qL_topUp_16 : decode (mB mL_topUp) 16 = .ok (.ireturn, 1) := by decide +kernel
theorem qL_topUp_17 : decode (mB mL_topUp) 17 = .ok (.astore 4, 2) := by decide +kernel
theorem qL_topUp_19 : decode (mB mL_topUp) 19 = .ok (.iconst 2, 1) := by decide +kernel
theorem qL_topUp_20 : decode (mB mL_topUp) 20 = .ok (.ireturn, 1) := by decide +kernel
theorem qL_topUp_21 : decode (mB mL_topUp) 21 = .ok (.astore 4, 2) := by decide +kernel
theorem qL_topUp_23 : decode (mB mL_topUp) 23 = .ok (.iconst 3, 1) := by decide +kernel
theorem qL_topUp_24 : decode (mB mL_topUp) 24 = .ok (.ireturn, 1) := by decide +kernel
theorem qL_topUp_25 : decode (mB mL_topUp) 25 = .ok (.iconst 0, 1) := by decide +kernel
theorem qL_topUp_26 : decode (mB mL_topUp) 26 = .ok (.ireturn, 1) := by decide +kernel
theorem qL_truncate_0 : decode (mB mL_truncate) 0 = .ok (.aload_n 2, 1) := by decide +kernel
theorem qL_truncate_1 : decode (mB mL_truncate) 1 = .ok (.iconst 0, 1) := by decide +kernel
theorem qL_truncate_2 : decode (mB mL_truncate) 2 = .ok (.aload_n 0, 1) := by decide +kernel
theorem qL_truncate_3 : decode (mB mL_truncate) 3 = .ok (.iload_n 1, 1) := by decide +kernel
theorem qL_truncate_4 : decode (mB mL_truncate) 4 = .ok (.invokevirtual 15, 3) := by decide +kernel
theorem qL_truncate_7 : decode (mB mL_truncate) 7 = .ok (.i2l, 1) := by decide +kernel
theorem qL_truncate_8 : decode (mB mL_truncate) 8 = .ok (.lastore, 1) := by decide +kernel
theorem qL_truncate_9 : decode (mB mL_truncate) 9 = .ok (.goto 6, 3) := by decide +kernel
theorem qL_truncate_12 : decode (mB mL_truncate) 12 = .ok (.astore_n 3, 1) := by decide +kernel
theorem qL_truncate_13 : decode (mB mL_truncate) 13 = .ok (.iconst 1, 1) := by decide +kernel
theorem qL_truncate_14 : decode (mB mL_truncate) 14 = .ok (.ireturn, 1) := by decide +kernel
theorem qL_truncate_15 : decode (mB mL_truncate) 15 = .ok (.iconst 0, 1) := by decide +kernel
theorem qL_truncate_16 : decode (mB mL_truncate) 16 = .ok (.ireturn, 1) := by decide +kernel
theorem qL_tubesIn_0 : decode (mB mL_tubesIn) 0 = .ok (.aload_n 2, 1) := by decide +kernel
theorem qL_tubesIn_1 : decode (mB mL_tubesIn) 1 = .ok (.iconst 0, 1) := by decide +kernel
theorem qL_tubesIn_2 : decode (mB mL_tubesIn) 2 = .ok (.aload_n 0, 1) := by decide +kernel
theorem qL_tubesIn_3 : decode (mB mL_tubesIn) 3 = .ok (.iload_n 1, 1) := by decide +kernel
theorem qL_tubesIn_4 : decode (mB mL_tubesIn) 4 = .ok (.invokevirtual 26, 3) := by decide +kernel
theorem qL_tubesIn_7 : decode (mB mL_tubesIn) 7 = .ok (.i2l, 1) := by decide +kernel
theorem qL_tubesIn_8 : decode (mB mL_tubesIn) 8 = .ok (.lastore, 1) := by decide +kernel
theorem qL_tubesIn_9 : decode (mB mL_tubesIn) 9 = .ok (.goto 6, 3) := by decide +kernel
theorem qL_tubesIn_12 : decode (mB mL_tubesIn) 12 = .ok (.astore_n 3, 1) := by decide +kernel
theorem qL_tubesIn_13 : decode (mB mL_tubesIn) 13 = .ok (.iconst 1, 1) := by decide +kernel
theorem qL_tubesIn_14 : decode (mB mL_tubesIn) 14 = .ok (.ireturn, 1) := by decide +kernel
theorem qL_tubesIn_15 : decode (mB mL_tubesIn) 15 = .ok (.iconst 0, 1) := by decide +kernel
theorem qL_tubesIn_16 : decode (mB mL_tubesIn) 16 = .ok (.ireturn, 1) := by decide +kernel
theorem qL_undo_0 : decode (mB mL_undo) 0 = .ok (.aload_n 1, 1) := by decide +kernel
theorem qL_undo_1 : decode (mB mL_undo) 1 = .ok (.iconst 0, 1) := by decide +kernel
theorem qL_undo_2 : decode (mB mL_undo) 2 = .ok (.aload_n 0, 1) := by decide +kernel
theorem qL_undo_3 : decode (mB mL_undo) 3 = .ok (.invokevirtual 160, 3) := by decide +kernel
theorem qL_undo_6 : decode (mB mL_undo) 6 = .ok (.i2l, 1) := by decide +kernel
theorem qL_undo_7 : decode (mB mL_undo) 7 = .ok (.lastore, 1) := by decide +kernel
theorem qL_undo_8 : decode (mB mL_undo) 8 = .ok (.goto 6, 3) := by decide +kernel
theorem qL_undo_11 : decode (mB mL_undo) 11 = .ok (.astore_n 2, 1) := by decide +kernel
theorem qL_undo_12 : decode (mB mL_undo) 12 = .ok (.iconst 1, 1) := by decide +kernel
theorem qL_undo_13 : decode (mB mL_undo) 13 = .ok (.ireturn, 1) := by decide +kernel
theorem qL_undo_14 : decode (mB mL_undo) 14 = .ok (.iconst 0, 1) := by decide +kernel
theorem qL_undo_15 : decode (mB mL_undo) 15 = .ok (.ireturn, 1) := by decide +kernel
theorem qX0_addBath_0 : decode (mB mX0_addBath) 0 = .ok (.aload_n 0, 1) := by decide +kernel
theorem qX0_addBath_1 : decode (mB mX0_addBath) 1 = .ok (.getfield 49, 3) := by decide +kernel
theorem qX0_addBath_4 : decode (mB mX0_addBath) 4 = .ok (.iconst 4, 1) := by decide +kernel
theorem qX0_addBath_5 : decode (mB mX0_addBath) 5 = .ok (.if_icmp .ge 33, 3) := by decide +kernel
theorem qX0_addBath_8 : decode (mB mX0_addBath) 8 = .ok (.aload_n 0, 1) := by decide +kernel
theorem qX0_addBath_9 : decode (mB mX0_addBath) 9 = .ok (.getfield 18, 3) := by decide +kernel
theorem qX0_addBath_12 : decode (mB mX0_addBath) 12 = .ok (.aload_n 0, 1) := by decide +kernel
theorem qX0_addBath_13 : decode (mB mX0_addBath) 13 = .ok (.getfield 49, 3) := by decide +kernel
theorem qX0_addBath_16 : decode (mB mX0_addBath) 16 = .ok (.iload_n 1, 1) := by decide +kernel
theorem qX0_addBath_17 : decode (mB mX0_addBath) 17 = .ok (.iastore, 1) := by decide +kernel
theorem qX0_addBath_18 : decode (mB mX0_addBath) 18 = .ok (.aload_n 0, 1) := by decide +kernel
theorem qX0_addBath_19 : decode (mB mX0_addBath) 19 = .ok (.getfield 21, 3) := by decide +kernel
theorem qX0_addBath_22 : decode (mB mX0_addBath) 22 = .ok (.aload_n 0, 1) := by decide +kernel
theorem qX0_addBath_23 : decode (mB mX0_addBath) 23 = .ok (.getfield 49, 3) := by decide +kernel
theorem qX0_addBath_26 : decode (mB mX0_addBath) 26 = .ok (.iload_n 2, 1) := by decide +kernel
theorem qX0_addBath_27 : decode (mB mX0_addBath) 27 = .ok (.iastore, 1) := by decide +kernel
theorem qX0_addBath_28 : decode (mB mX0_addBath) 28 = .ok (.aload_n 0, 1) := by decide +kernel
theorem qX0_addBath_29 : decode (mB mX0_addBath) 29 = .ok (.dup, 1) := by decide +kernel
theorem qX0_addBath_30 : decode (mB mX0_addBath) 30 = .ok (.getfield 49, 3) := by decide +kernel
theorem qX0_addBath_33 : decode (mB mX0_addBath) 33 = .ok (.iconst 1, 1) := by decide +kernel
theorem qX0_addBath_34 : decode (mB mX0_addBath) 34 = .ok (.iadd, 1) := by decide +kernel
theorem qX0_addBath_35 : decode (mB mX0_addBath) 35 = .ok (.putfield 49, 3) := by decide +kernel
theorem qX0_addBath_38 : decode (mB mX0_addBath) 38 = .ok (.return_, 1) := by decide +kernel
theorem qX0_addSpirit_0 : decode (mB mX0_addSpirit) 0 = .ok (.aload_n 0, 1) := by decide +kernel
theorem qX0_addSpirit_1 : decode (mB mX0_addSpirit) 1 = .ok (.getfield 46, 3) := by decide +kernel
theorem qX0_addSpirit_4 : decode (mB mX0_addSpirit) 4 = .ok (.iconst 5, 1) := by decide +kernel
theorem qX0_addSpirit_5 : decode (mB mX0_addSpirit) 5 = .ok (.if_icmp .ge 33, 3) := by decide +kernel
theorem qX0_addSpirit_8 : decode (mB mX0_addSpirit) 8 = .ok (.aload_n 0, 1) := by decide +kernel
theorem qX0_addSpirit_9 : decode (mB mX0_addSpirit) 9 = .ok (.getfield 11, 3) := by decide +kernel
theorem qX0_addSpirit_12 : decode (mB mX0_addSpirit) 12 = .ok (.aload_n 0, 1) := by decide +kernel
theorem qX0_addSpirit_13 : decode (mB mX0_addSpirit) 13 = .ok (.getfield 46, 3) := by decide +kernel
theorem qX0_addSpirit_16 : decode (mB mX0_addSpirit) 16 = .ok (.iload_n 1, 1) := by decide +kernel
theorem qX0_addSpirit_17 : decode (mB mX0_addSpirit) 17 = .ok (.iastore, 1) := by decide +kernel
theorem qX0_addSpirit_18 : decode (mB mX0_addSpirit) 18 = .ok (.aload_n 0, 1) := by decide +kernel
theorem qX0_addSpirit_19 : decode (mB mX0_addSpirit) 19 = .ok (.getfield 15, 3) := by decide +kernel
theorem qX0_addSpirit_22 : decode (mB mX0_addSpirit) 22 = .ok (.aload_n 0, 1) := by decide +kernel
theorem qX0_addSpirit_23 : decode (mB mX0_addSpirit) 23 = .ok (.getfield 46, 3) := by decide +kernel
theorem qX0_addSpirit_26 : decode (mB mX0_addSpirit) 26 = .ok (.iload_n 2, 1) := by decide +kernel
theorem qX0_addSpirit_27 : decode (mB mX0_addSpirit) 27 = .ok (.iastore, 1) := by decide +kernel
theorem qX0_addSpirit_28 : decode (mB mX0_addSpirit) 28 = .ok (.aload_n 0, 1) := by decide +kernel
theorem qX0_addSpirit_29 : decode (mB mX0_addSpirit) 29 = .ok (.dup, 1) := by decide +kernel
theorem qX0_addSpirit_30 : decode (mB mX0_addSpirit) 30 = .ok (.getfield 46, 3) := by decide +kernel
theorem qX0_addSpirit_33 : decode (mB mX0_addSpirit) 33 = .ok (.iconst 1, 1) := by decide +kernel
theorem qX0_addSpirit_34 : decode (mB mX0_addSpirit) 34 = .ok (.iadd, 1) := by decide +kernel
theorem qX0_addSpirit_35 : decode (mB mX0_addSpirit) 35 = .ok (.putfield 46, 3) := by decide +kernel
theorem qX0_addSpirit_38 : decode (mB mX0_addSpirit) 38 = .ok (.return_, 1) := by decide +kernel
theorem qX0_addTube_0 : decode (mB mX0_addTube) 0 = .ok (.aload_n 0, 1) := by decide +kernel
theorem qX0_addTube_1 : decode (mB mX0_addTube) 1 = .ok (.getfield 52, 3) := by decide +kernel
theorem qX0_addTube_4 : decode (mB mX0_addTube) 4 = .ok (.bipush 8, 2) := by decide +kernel
theorem qX0_addTube_6 : decode (mB mX0_addTube) 6 = .ok (.if_icmp .ge 72, 3) := by decide +kernel
theorem qX0_addTube_9 : decode (mB mX0_addTube) 9 = .ok (.iload_n 1, 1) := by decide +kernel
theorem qX0_addTube_10 : decode (mB mX0_addTube) 10 = .ok (.ifCond .lt 68, 3) := by decide +kernel
theorem qX0_addTube_13 : decode (mB mX0_addTube) 13 = .ok (.iload_n 1, 1) := by decide +kernel
theorem qX0_addTube_14 : decode (mB mX0_addTube) 14 = .ok (.aload_n 0, 1) := by decide +kernel
theorem qX0_addTube_15 : decode (mB mX0_addTube) 15 = .ok (.getfield 46, 3) := by decide +kernel
theorem qX0_addTube_18 : decode (mB mX0_addTube) 18 = .ok (.if_icmp .ge 60, 3) := by decide +kernel
theorem qX0_addTube_21 : decode (mB mX0_addTube) 21 = .ok (.aload_n 0, 1) := by decide +kernel
theorem qX0_addTube_22 : decode (mB mX0_addTube) 22 = .ok (.getfield 26, 3) := by decide +kernel
theorem qX0_addTube_25 : decode (mB mX0_addTube) 25 = .ok (.aload_n 0, 1) := by decide +kernel
theorem qX0_addTube_26 : decode (mB mX0_addTube) 26 = .ok (.getfield 52, 3) := by decide +kernel
theorem qX0_addTube_29 : decode (mB mX0_addTube) 29 = .ok (.aaload, 1) := by decide +kernel
theorem qX0_addTube_30 : decode (mB mX0_addTube) 30 = .ok (.astore 6, 2) := by decide +kernel
theorem qX0_addTube_32 : decode (mB mX0_addTube) 32 = .ok (.aload 6, 2) := by decide +kernel
theorem qX0_addTube_34 : decode (mB mX0_addTube) 34 = .ok (.iload_n 2, 1) := by decide +kernel
theorem qX0_addTube_35 : decode (mB mX0_addTube) 35 = .ok (.iload_n 3, 1) := by decide +kernel
theorem qX0_addTube_36 : decode (mB mX0_addTube) 36 = .ok (.iload 4, 2) := by decide +kernel
theorem qX0_addTube_38 : decode (mB mX0_addTube) 38 = .ok (.iload 5, 2) := by decide +kernel
theorem qX0_addTube_40 : decode (mB mX0_addTube) 40 = .ok (.bipush 10, 2) := by decide +kernel
theorem qX0_addTube_42 : decode (mB mX0_addTube) 42 = .ok (.aload_n 0, 1) := by decide +kernel
theorem qX0_addTube_43 : decode (mB mX0_addTube) 43 = .ok (.getfield 58, 3) := by decide +kernel
theorem qX0_addTube_46 : decode (mB mX0_addTube) 46 = .ok (.imul, 1) := by decide +kernel
theorem qX0_addTube_47 : decode (mB mX0_addTube) 47 = .ok (.invokevirtual 68, 3) := by decide +kernel
theorem qX0_addTube_50 : decode (mB mX0_addTube) 50 = .ok (.aload 6, 2) := by decide +kernel
theorem qX0_addTube_52 : decode (mB mX0_addTube) 52 = .ok (.iload_n 1, 1) := by decide +kernel
theorem qX0_addTube_53 : decode (mB mX0_addTube) 53 = .ok (.aload_n 0, 1) := by decide +kernel
theorem qX0_addTube_54 : decode (mB mX0_addTube) 54 = .ok (.getfield 11, 3) := by decide +kernel
theorem qX0_addTube_57 : decode (mB mX0_addTube) 57 = .ok (.iload_n 1, 1) := by decide +kernel
theorem qX0_addTube_58 : decode (mB mX0_addTube) 58 = .ok (.iaload, 1) := by decide +kernel
theorem qX0_addTube_59 : decode (mB mX0_addTube) 59 = .ok (.aload_n 0, 1) := by decide +kernel
theorem qX0_addTube_60 : decode (mB mX0_addTube) 60 = .ok (.getfield 15, 3) := by decide +kernel
theorem qX0_addTube_63 : decode (mB mX0_addTube) 63 = .ok (.iload_n 1, 1) := by decide +kernel
theorem qX0_addTube_64 : decode (mB mX0_addTube) 64 = .ok (.iaload, 1) := by decide +kernel
theorem qX0_addTube_65 : decode (mB mX0_addTube) 65 = .ok (.invokevirtual 72, 3) := by decide +kernel
theorem qX0_addTube_68 : decode (mB mX0_addTube) 68 = .ok (.aload_n 0, 1) := by decide +kernel
theorem qX0_addTube_69 : decode (mB mX0_addTube) 69 = .ok (.dup, 1) := by decide +kernel
theorem qX0_addTube_70 : decode (mB mX0_addTube) 70 = .ok (.getfield 52, 3) := by decide +kernel
theorem qX0_addTube_73 : decode (mB mX0_addTube) 73 = .ok (.iconst 1, 1) := by decide +kernel
theorem qX0_addTube_74 : decode (mB mX0_addTube) 74 = .ok (.iadd, 1) := by decide +kernel
theorem qX0_addTube_75 : decode (mB mX0_addTube) 75 = .ok (.putfield 52, 3) := by decide +kernel
theorem qX0_addTube_78 : decode (mB mX0_addTube) 78 = .ok (.return_, 1) := by decide +kernel
theorem qX0_atRest_0 : decode (mB mX0_atRest) 0 = .ok (.aload_n 1, 1) := by decide +kernel
theorem qX0_atRest_1 : decode (mB mX0_atRest) 1 = .ok (.getfield 82, 3) := by decide +kernel
theorem qX0_atRest_4 : decode (mB mX0_atRest) 4 = .ok (.aload_n 0, 1) := by decide +kernel
theorem qX0_atRest_5 : decode (mB mX0_atRest) 5 = .ok (.aload_n 1, 1) := by decide +kernel
theorem qX0_atRest_6 : decode (mB mX0_atRest) 6 = .ok (.invokevirtual 85, 3) := by decide +kernel
theorem qX0_atRest_9 : decode (mB mX0_atRest) 9 = .ok (.if_icmp .ne 7, 3) := by decide +kernel
theorem qX0_atRest_12 : decode (mB mX0_atRest) 12 = .ok (.iconst 1, 1) := by decide +kernel
theorem qX0_atRest_13 : decode (mB mX0_atRest) 13 = .ok (.goto 4, 3) := by decide +kernel
theorem qX0_atRest_16 : decode (mB mX0_atRest) 16 = .ok (.iconst 0, 1) := by decide +kernel
theorem qX0_atRest_17 : decode (mB mX0_atRest) 17 = .ok (.ireturn, 1) := by decide +kernel
theorem qX0_clear_0 : decode (mB mX0_clear) 0 = .ok (.aload_n 0, 1) := by decide +kernel
theorem qX0_clear_1 : decode (mB mX0_clear) 1 = .ok (.iconst 0, 1) := by decide +kernel
theorem qX0_clear_2 : decode (mB mX0_clear) 2 = .ok (.putfield 46, 3) := by decide +kernel
theorem qX0_clear_5 : decode (mB mX0_clear) 5 = .ok (.aload_n 0, 1) := by decide +kernel
theorem qX0_clear_6 : decode (mB mX0_clear) 6 = .ok (.iconst 0, 1) := by decide +kernel
theorem qX0_clear_7 : decode (mB mX0_clear) 7 = .ok (.putfield 49, 3) := by decide +kernel
theorem qX0_clear_10 : decode (mB mX0_clear) 10 = .ok (.aload_n 0, 1) := by decide +kernel
theorem qX0_clear_11 : decode (mB mX0_clear) 11 = .ok (.iconst 0, 1) := by decide +kernel
theorem qX0_clear_12 : decode (mB mX0_clear) 12 = .ok (.putfield 52, 3) := by decide +kernel
theorem qX0_clear_15 : decode (mB mX0_clear) 15 = .ok (.aload_n 0, 1) := by decide +kernel
theorem qX0_clear_16 : decode (mB mX0_clear) 16 = .ok (.iconst 0, 1) := by decide +kernel
theorem qX0_clear_17 : decode (mB mX0_clear) 17 = .ok (.putfield 55, 3) := by decide +kernel
theorem qX0_clear_20 : decode (mB mX0_clear) 20 = .ok (.aload_n 0, 1) := by decide +kernel
theorem qX0_clear_21 : decode (mB mX0_clear) 21 = .ok (.iconst 0, 1) := by decide +kernel
theorem qX0_clear_22 : decode (mB mX0_clear) 22 = .ok (.putfield 58, 3) := by decide +kernel
theorem qX0_clear_25 : decode (mB mX0_clear) 25 = .ok (.aload_n 0, 1) := by decide +kernel
theorem qX0_clear_26 : decode (mB mX0_clear) 26 = .ok (.iconst 1, 1) := by decide +kernel
theorem qX0_clear_27 : decode (mB mX0_clear) 27 = .ok (.putfield 33, 3) := by decide +kernel
theorem qX0_clear_30 : decode (mB mX0_clear) 30 = .ok (.aload_n 0, 1) := by decide +kernel
theorem qX0_clear_31 : decode (mB mX0_clear) 31 = .ok (.iconst (-1), 1) := by decide +kernel
theorem qX0_clear_32 : decode (mB mX0_clear) 32 = .ok (.putfield 37, 3) := by decide +kernel
theorem qX0_clear_35 : decode (mB mX0_clear) 35 = .ok (.aload_n 0, 1) := by decide +kernel
theorem qX0_clear_36 : decode (mB mX0_clear) 36 = .ok (.iconst 0, 1) := by decide +kernel
theorem qX0_clear_37 : decode (mB mX0_clear) 37 = .ok (.putfield 61, 3) := by decide +kernel
theorem qX0_clear_40 : decode (mB mX0_clear) 40 = .ok (.return_, 1) := by decide +kernel
theorem qX0_copyFrom_0 : decode (mB mX0_copyFrom) 0 = .ok (.aload_n 1, 1) := by decide +kernel
theorem qX0_copyFrom_1 : decode (mB mX0_copyFrom) 1 = .ok (.getfield 11, 3) := by decide +kernel
theorem qX0_copyFrom_4 : decode (mB mX0_copyFrom) 4 = .ok (.iconst 0, 1) := by decide +kernel
theorem qX0_copyFrom_5 : decode (mB mX0_copyFrom) 5 = .ok (.aload_n 0, 1) := by decide +kernel
theorem qX0_copyFrom_6 : decode (mB mX0_copyFrom) 6 = .ok (.getfield 11, 3) := by decide +kernel
theorem qX0_copyFrom_9 : decode (mB mX0_copyFrom) 9 = .ok (.iconst 0, 1) := by decide +kernel
theorem qX0_copyFrom_10 : decode (mB mX0_copyFrom) 10 = .ok (.iconst 5, 1) := by decide +kernel
theorem qX0_copyFrom_11 : decode (mB mX0_copyFrom) 11 = .ok (.invokestatic 40, 3) := by decide +kernel
theorem qX0_copyFrom_14 : decode (mB mX0_copyFrom) 14 = .ok (.aload_n 1, 1) := by decide +kernel
theorem qX0_copyFrom_15 : decode (mB mX0_copyFrom) 15 = .ok (.getfield 15, 3) := by decide +kernel
theorem qX0_copyFrom_18 : decode (mB mX0_copyFrom) 18 = .ok (.iconst 0, 1) := by decide +kernel
theorem qX0_copyFrom_19 : decode (mB mX0_copyFrom) 19 = .ok (.aload_n 0, 1) := by decide +kernel
theorem qX0_copyFrom_20 : decode (mB mX0_copyFrom) 20 = .ok (.getfield 15, 3) := by decide +kernel
theorem qX0_copyFrom_23 : decode (mB mX0_copyFrom) 23 = .ok (.iconst 0, 1) := by decide +kernel
theorem qX0_copyFrom_24 : decode (mB mX0_copyFrom) 24 = .ok (.iconst 5, 1) := by decide +kernel
theorem qX0_copyFrom_25 : decode (mB mX0_copyFrom) 25 = .ok (.invokestatic 40, 3) := by decide +kernel
theorem qX0_copyFrom_28 : decode (mB mX0_copyFrom) 28 = .ok (.aload_n 1, 1) := by decide +kernel
theorem qX0_copyFrom_29 : decode (mB mX0_copyFrom) 29 = .ok (.getfield 18, 3) := by decide +kernel
theorem qX0_copyFrom_32 : decode (mB mX0_copyFrom) 32 = .ok (.iconst 0, 1) := by decide +kernel
theorem qX0_copyFrom_33 : decode (mB mX0_copyFrom) 33 = .ok (.aload_n 0, 1) := by decide +kernel
theorem qX0_copyFrom_34 : decode (mB mX0_copyFrom) 34 = .ok (.getfield 18, 3) := by decide +kernel
theorem qX0_copyFrom_37 : decode (mB mX0_copyFrom) 37 = .ok (.iconst 0, 1) := by decide +kernel
theorem qX0_copyFrom_38 : decode (mB mX0_copyFrom) 38 = .ok (.iconst 4, 1) := by decide +kernel
theorem qX0_copyFrom_39 : decode (mB mX0_copyFrom) 39 = .ok (.invokestatic 40, 3) := by decide +kernel
theorem qX0_copyFrom_42 : decode (mB mX0_copyFrom) 42 = .ok (.aload_n 1, 1) := by decide +kernel
theorem qX0_copyFrom_43 : decode (mB mX0_copyFrom) 43 = .ok (.getfield 21, 3) := by decide +kernel
theorem qX0_copyFrom_46 : decode (mB mX0_copyFrom) 46 = .ok (.iconst 0, 1) := by decide +kernel
theorem qX0_copyFrom_47 : decode (mB mX0_copyFrom) 47 = .ok (.aload_n 0, 1) := by decide +kernel
theorem qX0_copyFrom_48 : decode (mB mX0_copyFrom) 48 = .ok (.getfield 21, 3) := by decide +kernel
theorem qX0_copyFrom_51 : decode (mB mX0_copyFrom) 51 = .ok (.iconst 0, 1) := by decide +kernel
theorem qX0_copyFrom_52 : decode (mB mX0_copyFrom) 52 = .ok (.iconst 4, 1) := by decide +kernel
theorem qX0_copyFrom_53 : decode (mB mX0_copyFrom) 53 = .ok (.invokestatic 40, 3) := by decide +kernel
theorem qX0_copyFrom_56 : decode (mB mX0_copyFrom) 56 = .ok (.aload_n 0, 1) := by decide +kernel
theorem qX0_copyFrom_57 : decode (mB mX0_copyFrom) 57 = .ok (.aload_n 1, 1) := by decide +kernel
theorem qX0_copyFrom_58 : decode (mB mX0_copyFrom) 58 = .ok (.getfield 46, 3) := by decide +kernel
theorem qX0_copyFrom_61 : decode (mB mX0_copyFrom) 61 = .ok (.putfield 46, 3) := by decide +kernel
theorem qX0_copyFrom_64 : decode (mB mX0_copyFrom) 64 = .ok (.aload_n 0, 1) := by decide +kernel
theorem qX0_copyFrom_65 : decode (mB mX0_copyFrom) 65 = .ok (.aload_n 1, 1) := by decide +kernel
theorem qX0_copyFrom_66 : decode (mB mX0_copyFrom) 66 = .ok (.getfield 49, 3) := by decide +kernel
theorem qX0_copyFrom_69 : decode (mB mX0_copyFrom) 69 = .ok (.putfield 49, 3) := by decide +kernel
theorem qX0_copyFrom_72 : decode (mB mX0_copyFrom) 72 = .ok (.aload_n 0, 1) := by decide +kernel
theorem qX0_copyFrom_73 : decode (mB mX0_copyFrom) 73 = .ok (.aload_n 1, 1) := by decide +kernel
theorem qX0_copyFrom_74 : decode (mB mX0_copyFrom) 74 = .ok (.getfield 52, 3) := by decide +kernel
theorem qX0_copyFrom_77 : decode (mB mX0_copyFrom) 77 = .ok (.putfield 52, 3) := by decide +kernel
theorem qX0_copyFrom_80 : decode (mB mX0_copyFrom) 80 = .ok (.aload_n 0, 1) := by decide +kernel
theorem qX0_copyFrom_81 : decode (mB mX0_copyFrom) 81 = .ok (.aload_n 1, 1) := by decide +kernel
theorem qX0_copyFrom_82 : decode (mB mX0_copyFrom) 82 = .ok (.getfield 55, 3) := by decide +kernel
theorem qX0_copyFrom_85 : decode (mB mX0_copyFrom) 85 = .ok (.putfield 55, 3) := by decide +kernel
theorem qX0_copyFrom_88 : decode (mB mX0_copyFrom) 88 = .ok (.aload_n 0, 1) := by decide +kernel
theorem qX0_copyFrom_89 : decode (mB mX0_copyFrom) 89 = .ok (.aload_n 1, 1) := by decide +kernel
theorem qX0_copyFrom_90 : decode (mB mX0_copyFrom) 90 = .ok (.getfield 58, 3) := by decide +kernel
theorem qX0_copyFrom_93 : decode (mB mX0_copyFrom) 93 = .ok (.putfield 58, 3) := by decide +kernel
theorem qX0_copyFrom_96 : decode (mB mX0_copyFrom) 96 = .ok (.aload_n 0, 1) := by decide +kernel
theorem qX0_copyFrom_97 : decode (mB mX0_copyFrom) 97 = .ok (.aload_n 1, 1) := by decide +kernel
theorem qX0_copyFrom_98 : decode (mB mX0_copyFrom) 98 = .ok (.getfield 33, 3) := by decide +kernel
theorem qX0_copyFrom_101 : decode (mB mX0_copyFrom) 101 = .ok (.putfield 33, 3) := by decide +kernel
theorem qX0_copyFrom_104 : decode (mB mX0_copyFrom) 104 = .ok (.aload_n 0, 1) := by decide +kernel
theorem qX0_copyFrom_105 : decode (mB mX0_copyFrom) 105 = .ok (.aload_n 1, 1) := by decide +kernel
theorem qX0_copyFrom_106 : decode (mB mX0_copyFrom) 106 = .ok (.getfield 37, 3) := by decide +kernel
theorem qX0_copyFrom_109 : decode (mB mX0_copyFrom) 109 = .ok (.putfield 37, 3) := by decide +kernel
theorem qX0_copyFrom_112 : decode (mB mX0_copyFrom) 112 = .ok (.aload_n 0, 1) := by decide +kernel
theorem qX0_copyFrom_113 : decode (mB mX0_copyFrom) 113 = .ok (.aload_n 1, 1) := by decide +kernel
theorem qX0_copyFrom_114 : decode (mB mX0_copyFrom) 114 = .ok (.getfield 61, 3) := by decide +kernel
theorem qX0_copyFrom_117 : decode (mB mX0_copyFrom) 117 = .ok (.putfield 61, 3) := by decide +kernel
theorem qX0_copyFrom_120 : decode (mB mX0_copyFrom) 120 = .ok (.iconst 0, 1) := by decide +kernel
theorem qX0_copyFrom_121 : decode (mB mX0_copyFrom) 121 = .ok (.istore_n 2, 1) := by decide +kernel
theorem qX0_copyFrom_122 : decode (mB mX0_copyFrom) 122 = .ok (.iload_n 2, 1) := by decide +kernel
theorem qX0_copyFrom_123 : decode (mB mX0_copyFrom) 123 = .ok (.aload_n 0, 1) := by decide +kernel
theorem qX0_copyFrom_124 : decode (mB mX0_copyFrom) 124 = .ok (.getfield 52, 3) := by decide +kernel
theorem qX0_copyFrom_127 : decode (mB mX0_copyFrom) 127 = .ok (.if_icmp .ge 24, 3) := by decide +kernel
theorem qX0_copyFrom_130 : decode (mB mX0_copyFrom) 130 = .ok (.aload_n 0, 1) := by decide +kernel
theorem qX0_copyFrom_131 : decode (mB mX0_copyFrom) 131 = .ok (.getfield 26, 3) := by decide +kernel
theorem qX0_copyFrom_134 : decode (mB mX0_copyFrom) 134 = .ok (.iload_n 2, 1) := by decide +kernel
theorem qX0_copyFrom_135 : decode (mB mX0_copyFrom) 135 = .ok (.aaload, 1) := by decide +kernel
theorem qX0_copyFrom_136 : decode (mB mX0_copyFrom) 136 = .ok (.aload_n 1, 1) := by decide +kernel
theorem qX0_copyFrom_137 : decode (mB mX0_copyFrom) 137 = .ok (.getfield 26, 3) := by decide +kernel
theorem qX0_copyFrom_140 : decode (mB mX0_copyFrom) 140 = .ok (.iload_n 2, 1) := by decide +kernel
theorem qX0_copyFrom_141 : decode (mB mX0_copyFrom) 141 = .ok (.aaload, 1) := by decide +kernel
theorem qX0_copyFrom_142 : decode (mB mX0_copyFrom) 142 = .ok (.invokevirtual 64, 3) := by decide +kernel
theorem qX0_copyFrom_145 : decode (mB mX0_copyFrom) 145 = .ok (.iinc 2 1, 3) := by decide +kernel
theorem qX0_copyFrom_148 : decode (mB mX0_copyFrom) 148 = .ok (.goto (-26), 3) := by decide +kernel
theorem qX0_copyFrom_151 : decode (mB mX0_copyFrom) 151 = .ok (.return_, 1) := by decide +kernel
theorem qX0_endThumbMinute_0 : decode (mB mX0_endThumbMinute) 0 = .ok (.aload_n 0, 1) := by decide +kernel
theorem qX0_endThumbMinute_1 : decode (mB mX0_endThumbMinute) 1 = .ok (.getfield 37, 3) := by decide +kernel
theorem qX0_endThumbMinute_4 : decode (mB mX0_endThumbMinute) 4 = .ok (.iload_n 1, 1) := by decide +kernel
theorem qX0_endThumbMinute_5 : decode (mB mX0_endThumbMinute) 5 = .ok (.if_icmp .ne 25, 3) := by decide +kernel
theorem qX0_endThumbMinute_8 : decode (mB mX0_endThumbMinute) 8 = .ok (.aload_n 0, 1) := by decide +kernel
theorem qX0_endThumbMinute_9 : decode (mB mX0_endThumbMinute) 9 = .ok (.dup, 1) := by decide +kernel
theorem qX0_endThumbMinute_10 : decode (mB mX0_endThumbMinute) 10 = .ok (.getfield 61, 3) := by decide +kernel
theorem qX0_endThumbMinute_13 : decode (mB mX0_endThumbMinute) 13 = .ok (.iconst 1, 1) := by decide +kernel
theorem qX0_endThumbMinute_14 : decode (mB mX0_endThumbMinute) 14 = .ok (.isub, 1) := by decide +kernel
theorem qX0_endThumbMinute_15 : decode (mB mX0_endThumbMinute) 15 = .ok (.putfield 61, 3) := by decide +kernel
theorem qX0_endThumbMinute_18 : decode (mB mX0_endThumbMinute) 18 = .ok (.aload_n 0, 1) := by decide +kernel
theorem qX0_endThumbMinute_19 : decode (mB mX0_endThumbMinute) 19 = .ok (.getfield 61, 3) := by decide +kernel
theorem qX0_endThumbMinute_22 : decode (mB mX0_endThumbMinute) 22 = .ok (.ifCond .gt 8, 3) := by decide +kernel
theorem qX0_endThumbMinute_25 : decode (mB mX0_endThumbMinute) 25 = .ok (.aload_n 0, 1) := by decide +kernel
theorem qX0_endThumbMinute_26 : decode (mB mX0_endThumbMinute) 26 = .ok (.iconst (-1), 1) := by decide +kernel
theorem qX0_endThumbMinute_27 : decode (mB mX0_endThumbMinute) 27 = .ok (.putfield 37, 3) := by decide +kernel
theorem qX0_endThumbMinute_30 : decode (mB mX0_endThumbMinute) 30 = .ok (.return_, 1) := by decide +kernel
theorem qX0_init_0 : decode (mB mX0_init) 0 = .ok (.aload_n 0, 1) := by decide +kernel
theorem qX0_init_1 : decode (mB mX0_init) 1 = .ok (.invokespecial 3, 3) := by decide +kernel
theorem qX0_init_4 : decode (mB mX0_init) 4 = .ok (.aload_n 0, 1) := by decide +kernel
theorem qX0_init_5 : decode (mB mX0_init) 5 = .ok (.iconst 5, 1) := by decide +kernel
theorem qX0_init_6 : decode (mB mX0_init) 6 = .ok (.newarray .int, 2) := by decide +kernel
theorem qX0_init_8 : decode (mB mX0_init) 8 = .ok (.putfield 11, 3) := by decide +kernel
theorem qX0_init_11 : decode (mB mX0_init) 11 = .ok (.aload_n 0, 1) := by decide +kernel
theorem qX0_init_12 : decode (mB mX0_init) 12 = .ok (.iconst 5, 1) := by decide +kernel
theorem qX0_init_13 : decode (mB mX0_init) 13 = .ok (.newarray .int, 2) := by decide +kernel
theorem qX0_init_15 : decode (mB mX0_init) 15 = .ok (.putfield 15, 3) := by decide +kernel
theorem qX0_init_18 : decode (mB mX0_init) 18 = .ok (.aload_n 0, 1) := by decide +kernel
theorem qX0_init_19 : decode (mB mX0_init) 19 = .ok (.iconst 4, 1) := by decide +kernel
theorem qX0_init_20 : decode (mB mX0_init) 20 = .ok (.newarray .int, 2) := by decide +kernel
theorem qX0_init_22 : decode (mB mX0_init) 22 = .ok (.putfield 18, 3) := by decide +kernel
theorem qX0_init_25 : decode (mB mX0_init) 25 = .ok (.aload_n 0, 1) := by decide +kernel
theorem qX0_init_26 : decode (mB mX0_init) 26 = .ok (.iconst 4, 1) := by decide +kernel
theorem qX0_init_27 : decode (mB mX0_init) 27 = .ok (.newarray .int, 2) := by decide +kernel
theorem qX0_init_29 : decode (mB mX0_init) 29 = .ok (.putfield 21, 3) := by decide +kernel
theorem qX0_init_32 : decode (mB mX0_init) 32 = .ok (.aload_n 0, 1) := by decide +kernel
theorem qX0_init_33 : decode (mB mX0_init) 33 = .ok (.bipush 8, 2) := by decide +kernel
theorem qX0_init_35 : decode (mB mX0_init) 35 = .ok (.anewarray 24, 3) := by decide +kernel
theorem qX0_init_38 : decode (mB mX0_init) 38 = .ok (.putfield 26, 3) := by decide +kernel
theorem qX0_init_41 : decode (mB mX0_init) 41 = .ok (.iconst 0, 1) := by decide +kernel
theorem qX0_init_42 : decode (mB mX0_init) 42 = .ok (.istore_n 1, 1) := by decide +kernel
theorem qX0_init_43 : decode (mB mX0_init) 43 = .ok (.iload_n 1, 1) := by decide +kernel
theorem qX0_init_44 : decode (mB mX0_init) 44 = .ok (.bipush 8, 2) := by decide +kernel
theorem qX0_init_46 : decode (mB mX0_init) 46 = .ok (.if_icmp .ge 23, 3) := by decide +kernel
theorem qX0_init_49 : decode (mB mX0_init) 49 = .ok (.aload_n 0, 1) := by decide +kernel
theorem qX0_init_50 : decode (mB mX0_init) 50 = .ok (.getfield 26, 3) := by decide +kernel
theorem qX0_init_53 : decode (mB mX0_init) 53 = .ok (.iload_n 1, 1) := by decide +kernel
theorem qX0_init_54 : decode (mB mX0_init) 54 = .ok (.new 24, 3) := by decide +kernel
theorem qX0_init_57 : decode (mB mX0_init) 57 = .ok (.dup, 1) := by decide +kernel
theorem qX0_init_58 : decode (mB mX0_init) 58 = .ok (.iload_n 1, 1) := by decide +kernel
theorem qX0_init_59 : decode (mB mX0_init) 59 = .ok (.invokespecial 30, 3) := by decide +kernel
theorem qX0_init_62 : decode (mB mX0_init) 62 = .ok (.aastore, 1) := by decide +kernel
theorem qX0_init_63 : decode (mB mX0_init) 63 = .ok (.iinc 1 1, 3) := by decide +kernel
theorem qX0_init_66 : decode (mB mX0_init) 66 = .ok (.goto (-23), 3) := by decide +kernel
theorem qX0_init_69 : decode (mB mX0_init) 69 = .ok (.aload_n 0, 1) := by decide +kernel
theorem qX0_init_70 : decode (mB mX0_init) 70 = .ok (.iconst 1, 1) := by decide +kernel
theorem qX0_init_71 : decode (mB mX0_init) 71 = .ok (.putfield 33, 3) := by decide +kernel
theorem qX0_init_74 : decode (mB mX0_init) 74 = .ok (.aload_n 0, 1) := by decide +kernel
theorem qX0_init_75 : decode (mB mX0_init) 75 = .ok (.iconst (-1), 1) := by decide +kernel
theorem qX0_init_76 : decode (mB mX0_init) 76 = .ok (.putfield 37, 3) := by decide +kernel
theorem qX0_init_79 : decode (mB mX0_init) 79 = .ok (.return_, 1) := by decide +kernel
theorem qX0_markPoint_0 : decode (mB mX0_markPoint) 0 = .ok (.aload_n 1, 1) := by decide +kernel
theorem qX0_markPoint_1 : decode (mB mX0_markPoint) 1 = .ok (.getfield 79, 3) := by decide +kernel
theorem qX0_markPoint_4 : decode (mB mX0_markPoint) 4 = .ok (.ifCond .lt 31, 3) := by decide +kernel
theorem qX0_markPoint_7 : decode (mB mX0_markPoint) 7 = .ok (.aload_n 1, 1) := by decide +kernel
theorem qX0_markPoint_8 : decode (mB mX0_markPoint) 8 = .ok (.getfield 79, 3) := by decide +kernel
theorem qX0_markPoint_11 : decode (mB mX0_markPoint) 11 = .ok (.aload_n 0, 1) := by decide +kernel
theorem qX0_markPoint_12 : decode (mB mX0_markPoint) 12 = .ok (.getfield 49, 3) := by decide +kernel
theorem qX0_markPoint_15 : decode (mB mX0_markPoint) 15 = .ok (.if_icmp .ge 20, 3) := by decide +kernel
theorem qX0_markPoint_18 : decode (mB mX0_markPoint) 18 = .ok (.aload_n 1, 1) := by decide +kernel
theorem qX0_markPoint_19 : decode (mB mX0_markPoint) 19 = .ok (.aload_n 0, 1) := by decide +kernel
theorem qX0_markPoint_20 : decode (mB mX0_markPoint) 20 = .ok (.getfield 21, 3) := by decide +kernel
theorem qX0_markPoint_23 : decode (mB mX0_markPoint) 23 = .ok (.aload_n 1, 1) := by decide +kernel
theorem qX0_markPoint_24 : decode (mB mX0_markPoint) 24 = .ok (.getfield 79, 3) := by decide +kernel
theorem qX0_markPoint_27 : decode (mB mX0_markPoint) 27 = .ok (.iaload, 1) := by decide +kernel
theorem qX0_markPoint_28 : decode (mB mX0_markPoint) 28 = .ok (.aload_n 1, 1) := by decide +kernel
theorem qX0_markPoint_29 : decode (mB mX0_markPoint) 29 = .ok (.invokevirtual 97, 3) := by decide +kernel
theorem qX0_markPoint_32 : decode (mB mX0_markPoint) 32 = .ok (.invokevirtual 107, 3) := by decide +kernel
theorem qX0_markPoint_35 : decode (mB mX0_markPoint) 35 = .ok (.return_, 1) := by decide +kernel
theorem qX0_passMinutes_0 : decode (mB mX0_passMinutes) 0 = .ok (.iconst 0, 1) := by decide +kernel
theorem qX0_passMinutes_1 : decode (mB mX0_passMinutes) 1 = .ok (.istore_n 2, 1) := by decide +kernel
theorem qX0_passMinutes_2 : decode (mB mX0_passMinutes) 2 = .ok (.iconst 0, 1) := by decide +kernel
theorem qX0_passMinutes_3 : decode (mB mX0_passMinutes) 3 = .ok (.istore_n 3, 1) := by decide +kernel
theorem qX0_passMinutes_4 : decode (mB mX0_passMinutes) 4 = .ok (.iload_n 3, 1) := by decide +kernel
theorem qX0_passMinutes_5 : decode (mB mX0_passMinutes) 5 = .ok (.iload_n 1, 1) := by decide +kernel
theorem qX0_passMinutes_6 : decode (mB mX0_passMinutes) 6 = .ok (.if_icmp .ge 75, 3) := by decide +kernel
theorem qX0_passMinutes_9 : decode (mB mX0_passMinutes) 9 = .ok (.aload_n 0, 1) := by decide +kernel
theorem qX0_passMinutes_10 : decode (mB mX0_passMinutes) 10 = .ok (.dup, 1) := by decide +kernel
theorem qX0_passMinutes_11 : decode (mB mX0_passMinutes) 11 = .ok (.getfield 55, 3) := by decide +kernel
theorem qX0_passMinutes_14 : decode (mB mX0_passMinutes) 14 = .ok (.iconst 1, 1) := by decide +kernel
theorem qX0_passMinutes_15 : decode (mB mX0_passMinutes) 15 = .ok (.iadd, 1) := by decide +kernel
theorem qX0_passMinutes_16 : decode (mB mX0_passMinutes) 16 = .ok (.putfield 55, 3) := by decide +kernel
theorem qX0_passMinutes_19 : decode (mB mX0_passMinutes) 19 = .ok (.iconst 0, 1) := by decide +kernel
theorem qX0_passMinutes_20 : decode (mB mX0_passMinutes) 20 = .ok (.istore 4, 2) := by decide +kernel
theorem qX0_passMinutes_22 : decode (mB mX0_passMinutes) 22 = .ok (.iload 4, 2) := by decide +kernel
theorem qX0_passMinutes_24 : decode (mB mX0_passMinutes) 24 = .ok (.aload_n 0, 1) := by decide +kernel
theorem qX0_passMinutes_25 : decode (mB mX0_passMinutes) 25 = .ok (.getfield 52, 3) := by decide +kernel
theorem qX0_passMinutes_28 : decode (mB mX0_passMinutes) 28 = .ok (.if_icmp .ge 47, 3) := by decide +kernel
theorem qX0_passMinutes_31 : decode (mB mX0_passMinutes) 31 = .ok (.iload_n 2, 1) := by decide +kernel
theorem qX0_passMinutes_32 : decode (mB mX0_passMinutes) 32 = .ok (.aload_n 0, 1) := by decide +kernel
theorem qX0_passMinutes_33 : decode (mB mX0_passMinutes) 33 = .ok (.getfield 26, 3) := by decide +kernel
theorem qX0_passMinutes_36 : decode (mB mX0_passMinutes) 36 = .ok (.iload 4, 2) := by decide +kernel
theorem qX0_passMinutes_38 : decode (mB mX0_passMinutes) 38 = .ok (.aaload, 1) := by decide +kernel
theorem qX0_passMinutes_39 : decode (mB mX0_passMinutes) 39 = .ok (.aload_n 0, 1) := by decide +kernel
theorem qX0_passMinutes_40 : decode (mB mX0_passMinutes) 40 = .ok (.getfield 55, 3) := by decide +kernel
theorem qX0_passMinutes_43 : decode (mB mX0_passMinutes) 43 = .ok (.aload_n 0, 1) := by decide +kernel
theorem qX0_passMinutes_44 : decode (mB mX0_passMinutes) 44 = .ok (.aload_n 0, 1) := by decide +kernel
theorem qX0_passMinutes_45 : decode (mB mX0_passMinutes) 45 = .ok (.getfield 26, 3) := by decide +kernel
theorem qX0_passMinutes_48 : decode (mB mX0_passMinutes) 48 = .ok (.iload 4, 2) := by decide +kernel
theorem qX0_passMinutes_50 : decode (mB mX0_passMinutes) 50 = .ok (.aaload, 1) := by decide +kernel
theorem qX0_passMinutes_51 : decode (mB mX0_passMinutes) 51 = .ok (.invokevirtual 85, 3) := by decide +kernel
theorem qX0_passMinutes_54 : decode (mB mX0_passMinutes) 54 = .ok (.aload_n 0, 1) := by decide +kernel
theorem qX0_passMinutes_55 : decode (mB mX0_passMinutes) 55 = .ok (.getfield 33, 3) := by decide +kernel
theorem qX0_passMinutes_58 : decode (mB mX0_passMinutes) 58 = .ok (.invokevirtual 111, 3) := by decide +kernel
theorem qX0_passMinutes_61 : decode (mB mX0_passMinutes) 61 = .ok (.iadd, 1) := by decide +kernel
theorem qX0_passMinutes_62 : decode (mB mX0_passMinutes) 62 = .ok (.istore_n 2, 1) := by decide +kernel
theorem qX0_passMinutes_63 : decode (mB mX0_passMinutes) 63 = .ok (.aload_n 0, 1) := by decide +kernel
theorem qX0_passMinutes_64 : decode (mB mX0_passMinutes) 64 = .ok (.iload 4, 2) := by decide +kernel
theorem qX0_passMinutes_66 : decode (mB mX0_passMinutes) 66 = .ok (.invokevirtual 115, 3) := by decide +kernel
theorem qX0_passMinutes_69 : decode (mB mX0_passMinutes) 69 = .ok (.iinc 4 1, 3) := by decide +kernel
theorem qX0_passMinutes_72 : decode (mB mX0_passMinutes) 72 = .ok (.goto (-50), 3) := by decide +kernel
theorem qX0_passMinutes_75 : decode (mB mX0_passMinutes) 75 = .ok (.iinc 3 1, 3) := by decide +kernel
theorem qX0_passMinutes_78 : decode (mB mX0_passMinutes) 78 = .ok (.goto (-74), 3) := by decide +kernel
theorem qX0_passMinutes_81 : decode (mB mX0_passMinutes) 81 = .ok (.iload_n 2, 1) := by decide +kernel
theorem qX0_passMinutes_82 : decode (mB mX0_passMinutes) 82 = .ok (.ireturn, 1) := by decide +kernel
theorem qX0_tenthsAround_0 : decode (mB mX0_tenthsAround) 0 = .ok (.aload_n 0, 1) := by decide +kernel
theorem qX0_tenthsAround_1 : decode (mB mX0_tenthsAround) 1 = .ok (.getfield 37, 3) := by decide +kernel
theorem qX0_tenthsAround_4 : decode (mB mX0_tenthsAround) 4 = .ok (.aload_n 1, 1) := by decide +kernel
theorem qX0_tenthsAround_5 : decode (mB mX0_tenthsAround) 5 = .ok (.getfield 76, 3) := by decide +kernel
theorem qX0_tenthsAround_8 : decode (mB mX0_tenthsAround) 8 = .ok (.if_icmp .ne 7, 3) := by decide +kernel
theorem qX0_tenthsAround_11 : decode (mB mX0_tenthsAround) 11 = .ok (.sipush 370, 3) := by decide +kernel
theorem qX0_tenthsAround_14 : decode (mB mX0_tenthsAround) 14 = .ok (.ireturn, 1) := by decide +kernel
theorem qX0_tenthsAround_15 : decode (mB mX0_tenthsAround) 15 = .ok (.aload_n 1, 1) := by decide +kernel
theorem qX0_tenthsAround_16 : decode (mB mX0_tenthsAround) 16 = .ok (.getfield 79, 3) := by decide +kernel
theorem qX0_tenthsAround_19 : decode (mB mX0_tenthsAround) 19 = .ok (.ifCond .lt 27, 3) := by decide +kernel
theorem qX0_tenthsAround_22 : decode (mB mX0_tenthsAround) 22 = .ok (.aload_n 1, 1) := by decide +kernel
theorem qX0_tenthsAround_23 : decode (mB mX0_tenthsAround) 23 = .ok (.getfield 79, 3) := by decide +kernel
theorem qX0_tenthsAround_26 : decode (mB mX0_tenthsAround) 26 = .ok (.aload_n 0, 1) := by decide +kernel
theorem qX0_tenthsAround_27 : decode (mB mX0_tenthsAround) 27 = .ok (.getfield 49, 3) := by decide +kernel
theorem qX0_tenthsAround_30 : decode (mB mX0_tenthsAround) 30 = .ok (.if_icmp .ge 16, 3) := by decide +kernel
theorem qX0_tenthsAround_33 : decode (mB mX0_tenthsAround) 33 = .ok (.bipush 10, 2) := by decide +kernel
theorem qX0_tenthsAround_35 : decode (mB mX0_tenthsAround) 35 = .ok (.aload_n 0, 1) := by decide +kernel
theorem qX0_tenthsAround_36 : decode (mB mX0_tenthsAround) 36 = .ok (.getfield 21, 3) := by decide +kernel
theorem qX0_tenthsAround_39 : decode (mB mX0_tenthsAround) 39 = .ok (.aload_n 1, 1) := by decide +kernel
theorem qX0_tenthsAround_40 : decode (mB mX0_tenthsAround) 40 = .ok (.getfield 79, 3) := by decide +kernel
theorem qX0_tenthsAround_43 : decode (mB mX0_tenthsAround) 43 = .ok (.iaload, 1) := by decide +kernel
theorem qX0_tenthsAround_44 : decode (mB mX0_tenthsAround) 44 = .ok (.imul, 1) := by decide +kernel
theorem qX0_tenthsAround_45 : decode (mB mX0_tenthsAround) 45 = .ok (.ireturn, 1) := by decide +kernel
theorem qX0_tenthsAround_46 : decode (mB mX0_tenthsAround) 46 = .ok (.bipush 10, 2) := by decide +kernel
theorem qX0_tenthsAround_48 : decode (mB mX0_tenthsAround) 48 = .ok (.aload_n 0, 1) := by decide +kernel
theorem qX0_tenthsAround_49 : decode (mB mX0_tenthsAround) 49 = .ok (.getfield 58, 3) := by decide +kernel
theorem qX0_tenthsAround_52 : decode (mB mX0_tenthsAround) 52 = .ok (.imul, 1) := by decide +kernel
theorem qX0_tenthsAround_53 : decode (mB mX0_tenthsAround) 53 = .ok (.ireturn, 1) := by decide +kernel
theorem qX0_whyNotDip_0 : decode (mB mX0_whyNotDip) 0 = .ok (.aload_n 1, 1) := by decide +kernel
theorem qX0_whyNotDip_1 : decode (mB mX0_whyNotDip) 1 = .ok (.getfield 79, 3) := by decide +kernel
theorem qX0_whyNotDip_4 : decode (mB mX0_whyNotDip) 4 = .ok (.iload_n 2, 1) := by decide +kernel
theorem qX0_whyNotDip_5 : decode (mB mX0_whyNotDip) 5 = .ok (.if_icmp .ne 5, 3) := by decide +kernel
theorem qX0_whyNotDip_8 : decode (mB mX0_whyNotDip) 8 = .ok (.iconst 1, 1) := by decide +kernel
theorem qX0_whyNotDip_9 : decode (mB mX0_whyNotDip) 9 = .ok (.ireturn, 1) := by decide +kernel
theorem qX0_whyNotDip_10 : decode (mB mX0_whyNotDip) 10 = .ok (.aload_n 0, 1) := by decide +kernel
theorem qX0_whyNotDip_11 : decode (mB mX0_whyNotDip) 11 = .ok (.getfield 37, 3) := by decide +kernel
theorem qX0_whyNotDip_14 : decode (mB mX0_whyNotDip) 14 = .ok (.aload_n 1, 1) := by decide +kernel
theorem qX0_whyNotDip_15 : decode (mB mX0_whyNotDip) 15 = .ok (.getfield 76, 3) := by decide +kernel
theorem qX0_whyNotDip_18 : decode (mB mX0_whyNotDip) 18 = .ok (.if_icmp .ne 7, 3) := by decide +kernel
theorem qX0_whyNotDip_21 : decode (mB mX0_whyNotDip) 21 = .ok (.iconst 2, 1) := by decide +kernel
theorem qX0_whyNotDip_22 : decode (mB mX0_whyNotDip) 22 = .ok (.goto 4, 3) := by decide +kernel
theorem qX0_whyNotDip_25 : decode (mB mX0_whyNotDip) 25 = .ok (.iconst 0, 1) := by decide +kernel
theorem qX0_whyNotDip_26 : decode (mB mX0_whyNotDip) 26 = .ok (.ireturn, 1) := by decide +kernel
theorem qX0_whyNotMark_0 : decode (mB mX0_whyNotMark) 0 = .ok (.aload_n 1, 1) := by decide +kernel
theorem qX0_whyNotMark_1 : decode (mB mX0_whyNotMark) 1 = .ok (.getfield 79, 3) := by decide +kernel
theorem qX0_whyNotMark_4 : decode (mB mX0_whyNotMark) 4 = .ok (.ifCond .lt 14, 3) := by decide +kernel
theorem qX0_whyNotMark_7 : decode (mB mX0_whyNotMark) 7 = .ok (.aload_n 1, 1) := by decide +kernel
theorem qX0_whyNotMark_8 : decode (mB mX0_whyNotMark) 8 = .ok (.getfield 79, 3) := by decide +kernel
theorem qX0_whyNotMark_11 : decode (mB mX0_whyNotMark) 11 = .ok (.aload_n 0, 1) := by decide +kernel
theorem qX0_whyNotMark_12 : decode (mB mX0_whyNotMark) 12 = .ok (.getfield 49, 3) := by decide +kernel
theorem qX0_whyNotMark_15 : decode (mB mX0_whyNotMark) 15 = .ok (.if_icmp .lt 5, 3) := by decide +kernel
theorem qX0_whyNotMark_18 : decode (mB mX0_whyNotMark) 18 = .ok (.iconst 1, 1) := by decide +kernel
theorem qX0_whyNotMark_19 : decode (mB mX0_whyNotMark) 19 = .ok (.ireturn, 1) := by decide +kernel
theorem qX0_whyNotMark_20 : decode (mB mX0_whyNotMark) 20 = .ok (.aload_n 0, 1) := by decide +kernel
theorem qX0_whyNotMark_21 : decode (mB mX0_whyNotMark) 21 = .ok (.getfield 37, 3) := by decide +kernel
theorem qX0_whyNotMark_24 : decode (mB mX0_whyNotMark) 24 = .ok (.aload_n 1, 1) := by decide +kernel
theorem qX0_whyNotMark_25 : decode (mB mX0_whyNotMark) 25 = .ok (.getfield 76, 3) := by decide +kernel
theorem qX0_whyNotMark_28 : decode (mB mX0_whyNotMark) 28 = .ok (.if_icmp .eq 11, 3) := by decide +kernel
theorem qX0_whyNotMark_31 : decode (mB mX0_whyNotMark) 31 = .ok (.aload_n 0, 1) := by decide +kernel
theorem qX0_whyNotMark_32 : decode (mB mX0_whyNotMark) 32 = .ok (.aload_n 1, 1) := by decide +kernel
theorem qX0_whyNotMark_33 : decode (mB mX0_whyNotMark) 33 = .ok (.invokevirtual 89, 3) := by decide +kernel
theorem qX0_whyNotMark_36 : decode (mB mX0_whyNotMark) 36 = .ok (.ifCond .ne 5, 3) := by decide +kernel
theorem qX0_whyNotMark_39 : decode (mB mX0_whyNotMark) 39 = .ok (.iconst 2, 1) := by decide +kernel
theorem qX0_whyNotMark_40 : decode (mB mX0_whyNotMark) 40 = .ok (.ireturn, 1) := by decide +kernel
theorem qX0_whyNotMark_41 : decode (mB mX0_whyNotMark) 41 = .ok (.aload_n 1, 1) := by decide +kernel
theorem qX0_whyNotMark_42 : decode (mB mX0_whyNotMark) 42 = .ok (.aload_n 0, 1) := by decide +kernel
theorem qX0_whyNotMark_43 : decode (mB mX0_whyNotMark) 43 = .ok (.getfield 21, 3) := by decide +kernel
theorem qX0_whyNotMark_46 : decode (mB mX0_whyNotMark) 46 = .ok (.aload_n 1, 1) := by decide +kernel
theorem qX0_whyNotMark_47 : decode (mB mX0_whyNotMark) 47 = .ok (.getfield 79, 3) := by decide +kernel
theorem qX0_whyNotMark_50 : decode (mB mX0_whyNotMark) 50 = .ok (.iaload, 1) := by decide +kernel
theorem qX0_whyNotMark_51 : decode (mB mX0_whyNotMark) 51 = .ok (.invokevirtual 93, 3) := by decide +kernel
theorem qX0_whyNotMark_54 : decode (mB mX0_whyNotMark) 54 = .ok (.ifCond .eq 5, 3) := by decide +kernel
theorem qX0_whyNotMark_57 : decode (mB mX0_whyNotMark) 57 = .ok (.iconst 3, 1) := by decide +kernel
theorem qX0_whyNotMark_58 : decode (mB mX0_whyNotMark) 58 = .ok (.ireturn, 1) := by decide +kernel
theorem qX0_whyNotMark_59 : decode (mB mX0_whyNotMark) 59 = .ok (.aload_n 1, 1) := by decide +kernel
theorem qX0_whyNotMark_60 : decode (mB mX0_whyNotMark) 60 = .ok (.aload_n 1, 1) := by decide +kernel
theorem qX0_whyNotMark_61 : decode (mB mX0_whyNotMark) 61 = .ok (.invokevirtual 97, 3) := by decide +kernel
theorem qX0_whyNotMark_64 : decode (mB mX0_whyNotMark) 64 = .ok (.invokevirtual 101, 3) := by decide +kernel
theorem qX0_whyNotMark_67 : decode (mB mX0_whyNotMark) 67 = .ok (.ifCond .eq 5, 3) := by decide +kernel
theorem qX0_whyNotMark_70 : decode (mB mX0_whyNotMark) 70 = .ok (.iconst 4, 1) := by decide +kernel
theorem qX0_whyNotMark_71 : decode (mB mX0_whyNotMark) 71 = .ok (.ireturn, 1) := by decide +kernel
theorem qX0_whyNotMark_72 : decode (mB mX0_whyNotMark) 72 = .ok (.aload_n 1, 1) := by decide +kernel
theorem qX0_whyNotMark_73 : decode (mB mX0_whyNotMark) 73 = .ok (.getfield 104, 3) := by decide +kernel
theorem qX0_whyNotMark_76 : decode (mB mX0_whyNotMark) 76 = .ok (.bipush 6, 2) := by decide +kernel
theorem qX0_whyNotMark_78 : decode (mB mX0_whyNotMark) 78 = .ok (.if_icmp .lt 7, 3) := by decide +kernel
theorem qX0_whyNotMark_81 : decode (mB mX0_whyNotMark) 81 = .ok (.iconst 5, 1) := by decide +kernel
theorem qX0_whyNotMark_82 : decode (mB mX0_whyNotMark) 82 = .ok (.goto 4, 3) := by decide +kernel
theorem qX0_whyNotMark_85 : decode (mB mX0_whyNotMark) 85 = .ok (.iconst 0, 1) := by decide +kernel
theorem qX0_whyNotMark_86 : decode (mB mX0_whyNotMark) 86 = .ok (.ireturn, 1) := by decide +kernel
theorem qX1_atWord_0 : decode (mB mX1_atWord) 0 = .ok (.aload_n 0, 1) := by decide +kernel
theorem qX1_atWord_1 : decode (mB mX1_atWord) 1 = .ok (.getfield 57, 3) := by decide +kernel
theorem qX1_atWord_4 : decode (mB mX1_atWord) 4 = .ok (.iconst 1, 1) := by decide +kernel
theorem qX1_atWord_5 : decode (mB mX1_atWord) 5 = .ok (.if_icmp .ne 19, 3) := by decide +kernel
theorem qX1_atWord_8 : decode (mB mX1_atWord) 8 = .ok (.aload_n 0, 1) := by decide +kernel
theorem qX1_atWord_9 : decode (mB mX1_atWord) 9 = .ok (.getfield 48, 3) := by decide +kernel
theorem qX1_atWord_12 : decode (mB mX1_atWord) 12 = .ok (.aload_n 0, 1) := by decide +kernel
theorem qX1_atWord_13 : decode (mB mX1_atWord) 13 = .ok (.getfield 242, 3) := by decide +kernel
theorem qX1_atWord_16 : decode (mB mX1_atWord) 16 = .ok (.isub, 1) := by decide +kernel
theorem qX1_atWord_17 : decode (mB mX1_atWord) 17 = .ok (.aload_n 1, 1) := by decide +kernel
theorem qX1_atWord_18 : decode (mB mX1_atWord) 18 = .ok (.invokevirtual 33, 3) := by decide +kernel
theorem qX1_atWord_21 : decode (mB mX1_atWord) 21 = .ok (.if_icmp .eq 5, 3) := by decide +kernel
theorem qX1_atWord_24 : decode (mB mX1_atWord) 24 = .ok (.iconst 0, 1) := by decide +kernel
theorem qX1_atWord_25 : decode (mB mX1_atWord) 25 = .ok (.ireturn, 1) := by decide +kernel
theorem qX1_atWord_26 : decode (mB mX1_atWord) 26 = .ok (.iconst 0, 1) := by decide +kernel
theorem qX1_atWord_27 : decode (mB mX1_atWord) 27 = .ok (.istore_n 2, 1) := by decide +kernel
theorem qX1_atWord_28 : decode (mB mX1_atWord) 28 = .ok (.iload_n 2, 1) := by decide +kernel
theorem qX1_atWord_29 : decode (mB mX1_atWord) 29 = .ok (.aload_n 1, 1) := by decide +kernel
theorem qX1_atWord_30 : decode (mB mX1_atWord) 30 = .ok (.invokevirtual 33, 3) := by decide +kernel
theorem qX1_atWord_33 : decode (mB mX1_atWord) 33 = .ok (.if_icmp .ge 30, 3) := by decide +kernel
theorem qX1_atWord_36 : decode (mB mX1_atWord) 36 = .ok (.aload_n 0, 1) := by decide +kernel
theorem qX1_atWord_37 : decode (mB mX1_atWord) 37 = .ok (.getfield 11, 3) := by decide +kernel
theorem qX1_atWord_40 : decode (mB mX1_atWord) 40 = .ok (.aload_n 0, 1) := by decide +kernel
theorem qX1_atWord_41 : decode (mB mX1_atWord) 41 = .ok (.getfield 242, 3) := by decide +kernel
theorem qX1_atWord_44 : decode (mB mX1_atWord) 44 = .ok (.iload_n 2, 1) := by decide +kernel
theorem qX1_atWord_45 : decode (mB mX1_atWord) 45 = .ok (.iadd, 1) := by decide +kernel
theorem qX1_atWord_46 : decode (mB mX1_atWord) 46 = .ok (.baload, 1) := by decide +kernel
theorem qX1_atWord_47 : decode (mB mX1_atWord) 47 = .ok (.aload_n 1, 1) := by decide +kernel
theorem qX1_atWord_48 : decode (mB mX1_atWord) 48 = .ok (.iload_n 2, 1) := by decide +kernel
theorem qX1_atWord_49 : decode (mB mX1_atWord) 49 = .ok (.invokevirtual 38, 3) := by decide +kernel
theorem qX1_atWord_52 : decode (mB mX1_atWord) 52 = .ok (.if_icmp .eq 5, 3) := by decide +kernel
theorem qX1_atWord_55 : decode (mB mX1_atWord) 55 = .ok (.iconst 0, 1) := by decide +kernel
theorem qX1_atWord_56 : decode (mB mX1_atWord) 56 = .ok (.ireturn, 1) := by decide +kernel
theorem qX1_atWord_57 : decode (mB mX1_atWord) 57 = .ok (.iinc 2 1, 3) := by decide +kernel
theorem qX1_atWord_60 : decode (mB mX1_atWord) 60 = .ok (.goto (-32), 3) := by decide +kernel
theorem qX1_atWord_63 : decode (mB mX1_atWord) 63 = .ok (.iconst 1, 1) := by decide +kernel
theorem qX1_atWord_64 : decode (mB mX1_atWord) 64 = .ok (.ireturn, 1) := by decide +kernel
theorem qX1_fail_0 : decode (mB mX1_fail) 0 = .ok (.aload_n 0, 1) := by decide +kernel
theorem qX1_fail_1 : decode (mB mX1_fail) 1 = .ok (.getfield 45, 3) := by decide +kernel
theorem qX1_fail_4 : decode (mB mX1_fail) 4 = .ok (.ifCond .ne 16, 3) := by decide +kernel
theorem qX1_fail_7 : decode (mB mX1_fail) 7 = .ok (.aload_n 0, 1) := by decide +kernel
theorem qX1_fail_8 : decode (mB mX1_fail) 8 = .ok (.iload_n 1, 1) := by decide +kernel
theorem qX1_fail_9 : decode (mB mX1_fail) 9 = .ok (.putfield 45, 3) := by decide +kernel
theorem qX1_fail_12 : decode (mB mX1_fail) 12 = .ok (.aload_n 0, 1) := by decide +kernel
theorem qX1_fail_13 : decode (mB mX1_fail) 13 = .ok (.aload_n 0, 1) := by decide +kernel
theorem qX1_fail_14 : decode (mB mX1_fail) 14 = .ok (.getfield 242, 3) := by decide +kernel
theorem qX1_fail_17 : decode (mB mX1_fail) 17 = .ok (.putfield 22, 3) := by decide +kernel
theorem qX1_fail_20 : decode (mB mX1_fail) 20 = .ok (.return_, 1) := by decide +kernel
theorem qX1_indexOfName_0 : decode (mB mX1_indexOfName) 0 = .ok (.iconst 0, 1) := by decide +kernel
theorem qX1_indexOfName_1 : decode (mB mX1_indexOfName) 1 = .ok (.istore_n 3, 1) := by decide +kernel
theorem qX1_indexOfName_2 : decode (mB mX1_indexOfName) 2 = .ok (.iload_n 3, 1) := by decide +kernel
theorem qX1_indexOfName_3 : decode (mB mX1_indexOfName) 3 = .ok (.iload_n 1, 1) := by decide +kernel
theorem qX1_indexOfName_4 : decode (mB mX1_indexOfName) 4 = .ok (.if_icmp .ge 24, 3) := by decide +kernel
theorem qX1_indexOfName_7 : decode (mB mX1_indexOfName) 7 = .ok (.iload_n 3, 1) := by decide +kernel
theorem qX1_indexOfName_8 : decode (mB mX1_indexOfName) 8 = .ok (.aload_n 0, 1) := by decide +kernel
theorem qX1_indexOfName_9 : decode (mB mX1_indexOfName) 9 = .ok (.arraylength, 1) := by decide +kernel
theorem qX1_indexOfName_10 : decode (mB mX1_indexOfName) 10 = .ok (.if_icmp .ge 18, 3) := by decide +kernel
theorem qX1_indexOfName_13 : decode (mB mX1_indexOfName) 13 = .ok (.aload_n 0, 1) := by decide +kernel
theorem qX1_indexOfName_14 : decode (mB mX1_indexOfName) 14 = .ok (.iload_n 3, 1) := by decide +kernel
theorem qX1_indexOfName_15 : decode (mB mX1_indexOfName) 15 = .ok (.iaload, 1) := by decide +kernel
theorem qX1_indexOfName_16 : decode (mB mX1_indexOfName) 16 = .ok (.iload_n 2, 1) := by decide +kernel
theorem qX1_indexOfName_17 : decode (mB mX1_indexOfName) 17 = .ok (.if_icmp .ne 5, 3) := by decide +kernel
theorem qX1_indexOfName_20 : decode (mB mX1_indexOfName) 20 = .ok (.iload_n 3, 1) := by decide +kernel
theorem qX1_indexOfName_21 : decode (mB mX1_indexOfName) 21 = .ok (.ireturn, 1) := by decide +kernel
theorem qX1_indexOfName_22 : decode (mB mX1_indexOfName) 22 = .ok (.iinc 3 1, 3) := by decide +kernel
theorem qX1_indexOfName_25 : decode (mB mX1_indexOfName) 25 = .ok (.goto (-23), 3) := by decide +kernel
theorem qX1_indexOfName_28 : decode (mB mX1_indexOfName) 28 = .ok (.iconst (-1), 1) := by decide +kernel
theorem qX1_indexOfName_29 : decode (mB mX1_indexOfName) 29 = .ok (.ireturn, 1) := by decide +kernel
theorem qX1_init_0 : decode (mB mX1_init) 0 = .ok (.aload_n 0, 1) := by decide +kernel
theorem qX1_init_1 : decode (mB mX1_init) 1 = .ok (.invokespecial 3, 3) := by decide +kernel
theorem qX1_init_4 : decode (mB mX1_init) 4 = .ok (.aload_n 0, 1) := by decide +kernel
theorem qX1_init_5 : decode (mB mX1_init) 5 = .ok (.sipush 600, 3) := by decide +kernel
theorem qX1_init_8 : decode (mB mX1_init) 8 = .ok (.newarray .byte, 2) := by decide +kernel
theorem qX1_init_10 : decode (mB mX1_init) 10 = .ok (.putfield 11, 3) := by decide +kernel
theorem qX1_init_13 : decode (mB mX1_init) 13 = .ok (.aload_n 0, 1) := by decide +kernel
theorem qX1_init_14 : decode (mB mX1_init) 14 = .ok (.new 15, 3) := by decide +kernel
theorem qX1_init_17 : decode (mB mX1_init) 17 = .ok (.dup, 1) := by decide +kernel
theorem qX1_init_18 : decode (mB mX1_init) 18 = .ok (.invokespecial 17, 3) := by decide +kernel
theorem qX1_init_21 : decode (mB mX1_init) 21 = .ok (.putfield 18, 3) := by decide +kernel
theorem qX1_init_24 : decode (mB mX1_init) 24 = .ok (.aload_n 0, 1) := by decide +kernel
theorem qX1_init_25 : decode (mB mX1_init) 25 = .ok (.iconst (-1), 1) := by decide +kernel
theorem qX1_init_26 : decode (mB mX1_init) 26 = .ok (.putfield 22, 3) := by decide +kernel
theorem qX1_init_29 : decode (mB mX1_init) 29 = .ok (.return_, 1) := by decide +kernel
theorem qX1_kindOf_0 : decode (mB mX1_kindOf) 0 = .ok (.iload_n 0, 1) := by decide +kernel
theorem qX1_kindOf_1 : decode (mB mX1_kindOf) 1 = .ok (.bipush 97, 2) := by decide +kernel
theorem qX1_kindOf_3 : decode (mB mX1_kindOf) 3 = .ok (.if_icmp .lt 11, 3) := by decide +kernel
theorem qX1_kindOf_6 : decode (mB mX1_kindOf) 6 = .ok (.iload_n 0, 1) := by decide +kernel
theorem qX1_kindOf_7 : decode (mB mX1_kindOf) 7 = .ok (.bipush 122, 2) := by decide +kernel
theorem qX1_kindOf_9 : decode (mB mX1_kindOf) 9 = .ok (.if_icmp .gt 5, 3) := by decide +kernel
theorem qX1_kindOf_12 : decode (mB mX1_kindOf) 12 = .ok (.iconst 1, 1) := by decide +kernel
theorem qX1_kindOf_13 : decode (mB mX1_kindOf) 13 = .ok (.ireturn, 1) := by decide +kernel
theorem qX1_kindOf_14 : decode (mB mX1_kindOf) 14 = .ok (.iload_n 0, 1) := by decide +kernel
theorem qX1_kindOf_15 : decode (mB mX1_kindOf) 15 = .ok (.bipush 48, 2) := by decide +kernel
theorem qX1_kindOf_17 : decode (mB mX1_kindOf) 17 = .ok (.if_icmp .lt 11, 3) := by decide +kernel
theorem qX1_kindOf_20 : decode (mB mX1_kindOf) 20 = .ok (.iload_n 0, 1) := by decide +kernel
theorem qX1_kindOf_21 : decode (mB mX1_kindOf) 21 = .ok (.bipush 57, 2) := by decide +kernel
theorem qX1_kindOf_23 : decode (mB mX1_kindOf) 23 = .ok (.if_icmp .gt 5, 3) := by decide +kernel
theorem qX1_kindOf_26 : decode (mB mX1_kindOf) 26 = .ok (.iconst 2, 1) := by decide +kernel
theorem qX1_kindOf_27 : decode (mB mX1_kindOf) 27 = .ok (.ireturn, 1) := by decide +kernel
theorem qX1_kindOf_28 : decode (mB mX1_kindOf) 28 = .ok (.iload_n 0, 1) := by decide +kernel
theorem qX1_kindOf_29 : decode (mB mX1_kindOf) 29 = .ok (.bipush 45, 2) := by decide +kernel
theorem qX1_kindOf_31 : decode (mB mX1_kindOf) 31 = .ok (.if_icmp .ne 5, 3) := by decide +kernel
theorem qX1_kindOf_34 : decode (mB mX1_kindOf) 34 = .ok (.iconst 3, 1) := by decide +kernel
theorem qX1_kindOf_35 : decode (mB mX1_kindOf) 35 = .ok (.ireturn, 1) := by decide +kernel
theorem qX1_kindOf_36 : decode (mB mX1_kindOf) 36 = .ok (.iload_n 0, 1) := by decide +kernel
theorem qX1_kindOf_37 : decode (mB mX1_kindOf) 37 = .ok (.bipush 59, 2) := by decide +kernel
theorem qX1_kindOf_39 : decode (mB mX1_kindOf) 39 = .ok (.if_icmp .ne 7, 3) := by decide +kernel
theorem qX1_kindOf_42 : decode (mB mX1_kindOf) 42 = .ok (.iconst 4, 1) := by decide +kernel
theorem qX1_kindOf_43 : decode (mB mX1_kindOf) 43 = .ok (.goto 4, 3) := by decide +kernel
theorem qX1_kindOf_46 : decode (mB mX1_kindOf) 46 = .ok (.iconst 5, 1) := by decide +kernel
theorem qX1_kindOf_47 : decode (mB mX1_kindOf) 47 = .ok (.ireturn, 1) := by decide +kernel
theorem qX1_nextToken_0 : decode (mB mX1_nextToken) 0 = .ok (.aload_n 0, 1) := by decide +kernel
theorem qX1_nextToken_1 : decode (mB mX1_nextToken) 1 = .ok (.aload_n 0, 1) := by decide +kernel
theorem qX1_nextToken_2 : decode (mB mX1_nextToken) 2 = .ok (.getfield 48, 3) := by decide +kernel
theorem qX1_nextToken_5 : decode (mB mX1_nextToken) 5 = .ok (.putfield 242, 3) := by decide +kernel
theorem qX1_nextToken_8 : decode (mB mX1_nextToken) 8 = .ok (.aload_n 0, 1) := by decide +kernel
theorem qX1_nextToken_9 : decode (mB mX1_nextToken) 9 = .ok (.getfield 242, 3) := by decide +kernel
theorem qX1_nextToken_12 : decode (mB mX1_nextToken) 12 = .ok (.aload_n 0, 1) := by decide +kernel
theorem qX1_nextToken_13 : decode (mB mX1_nextToken) 13 = .ok (.getfield 26, 3) := by decide +kernel
theorem qX1_nextToken_16 : decode (mB mX1_nextToken) 16 = .ok (.if_icmp .ge 44, 3) := by decide +kernel
theorem qX1_nextToken_19 : decode (mB mX1_nextToken) 19 = .ok (.aload_n 0, 1) := by decide +kernel
theorem qX1_nextToken_20 : decode (mB mX1_nextToken) 20 = .ok (.getfield 11, 3) := by decide +kernel
theorem qX1_nextToken_23 : decode (mB mX1_nextToken) 23 = .ok (.aload_n 0, 1) := by decide +kernel
theorem qX1_nextToken_24 : decode (mB mX1_nextToken) 24 = .ok (.getfield 242, 3) := by decide +kernel
theorem qX1_nextToken_27 : decode (mB mX1_nextToken) 27 = .ok (.baload, 1) := by decide +kernel
theorem qX1_nextToken_28 : decode (mB mX1_nextToken) 28 = .ok (.bipush 32, 2) := by decide +kernel
theorem qX1_nextToken_30 : decode (mB mX1_nextToken) 30 = .ok (.if_icmp .eq 17, 3) := by decide +kernel
theorem qX1_nextToken_33 : decode (mB mX1_nextToken) 33 = .ok (.aload_n 0, 1) := by decide +kernel
theorem qX1_nextToken_34 : decode (mB mX1_nextToken) 34 = .ok (.getfield 11, 3) := by decide +kernel
theorem qX1_nextToken_37 : decode (mB mX1_nextToken) 37 = .ok (.aload_n 0, 1) := by decide +kernel
theorem qX1_nextToken_38 : decode (mB mX1_nextToken) 38 = .ok (.getfield 242, 3) := by decide +kernel
theorem qX1_nextToken_41 : decode (mB mX1_nextToken) 41 = .ok (.baload, 1) := by decide +kernel
theorem qX1_nextToken_42 : decode (mB mX1_nextToken) 42 = .ok (.bipush 10, 2) := by decide +kernel
theorem qX1_nextToken_44 : decode (mB mX1_nextToken) 44 = .ok (.if_icmp .ne 16, 3) := by decide +kernel
theorem qX1_nextToken_47 : decode (mB mX1_nextToken) 47 = .ok (.aload_n 0, 1) := by decide +kernel
theorem qX1_nextToken_48 : decode (mB mX1_nextToken) 48 = .ok (.dup, 1) := by decide +kernel
theorem qX1_nextToken_49 : decode (mB mX1_nextToken) 49 = .ok (.getfield 242, 3) := by decide +kernel
theorem qX1_nextToken_52 : decode (mB mX1_nextToken) 52 = .ok (.iconst 1, 1) := by decide +kernel
theorem qX1_nextToken_53 : decode (mB mX1_nextToken) 53 = .ok (.iadd, 1) := by decide +kernel
theorem qX1_nextToken_54 : decode (mB mX1_nextToken) 54 = .ok (.putfield 242, 3) := by decide +kernel
theorem qX1_nextToken_57 : decode (mB mX1_nextToken) 57 = .ok (.goto (-49), 3) := by decide +kernel
theorem qX1_nextToken_60 : decode (mB mX1_nextToken) 60 = .ok (.aload_n 0, 1) := by decide +kernel
theorem qX1_nextToken_61 : decode (mB mX1_nextToken) 61 = .ok (.aload_n 0, 1) := by decide +kernel
theorem qX1_nextToken_62 : decode (mB mX1_nextToken) 62 = .ok (.getfield 242, 3) := by decide +kernel
theorem qX1_nextToken_65 : decode (mB mX1_nextToken) 65 = .ok (.putfield 48, 3) := by decide +kernel
theorem qX1_nextToken_68 : decode (mB mX1_nextToken) 68 = .ok (.aload_n 0, 1) := by decide +kernel
theorem qX1_nextToken_69 : decode (mB mX1_nextToken) 69 = .ok (.getfield 242, 3) := by decide +kernel
theorem qX1_nextToken_72 : decode (mB mX1_nextToken) 72 = .ok (.aload_n 0, 1) := by decide +kernel
theorem qX1_nextToken_73 : decode (mB mX1_nextToken) 73 = .ok (.getfield 26, 3) := by decide +kernel
theorem qX1_nextToken_76 : decode (mB mX1_nextToken) 76 = .ok (.if_icmp .lt 9, 3) := by decide +kernel
theorem qX1_nextToken_79 : decode (mB mX1_nextToken) 79 = .ok (.aload_n 0, 1) := by decide +kernel
theorem qX1_nextToken_80 : decode (mB mX1_nextToken) 80 = .ok (.iconst 0, 1) := by decide +kernel
theorem qX1_nextToken_81 : decode (mB mX1_nextToken) 81 = .ok (.putfield 57, 3) := by decide +kernel
theorem qX1_nextToken_84 : decode (mB mX1_nextToken) 84 = .ok (.return_, 1) := by decide +kernel
theorem qX1_nextToken_85 : decode (mB mX1_nextToken) 85 = .ok (.aload_n 0, 1) := by decide +kernel
theorem qX1_nextToken_86 : decode (mB mX1_nextToken) 86 = .ok (.aload_n 0, 1) := by decide +kernel
theorem qX1_nextToken_87 : decode (mB mX1_nextToken) 87 = .ok (.getfield 11, 3) := by decide +kernel
theorem qX1_nextToken_90 : decode (mB mX1_nextToken) 90 = .ok (.aload_n 0, 1) := by decide +kernel
theorem qX1_nextToken_91 : decode (mB mX1_nextToken) 91 = .ok (.getfield 242, 3) := by decide +kernel
theorem qX1_nextToken_94 : decode (mB mX1_nextToken) 94 = .ok (.baload, 1) := by decide +kernel
theorem qX1_nextToken_95 : decode (mB mX1_nextToken) 95 = .ok (.invokestatic 259, 3) := by decide +kernel
theorem qX1_nextToken_98 : decode (mB mX1_nextToken) 98 = .ok (.putfield 57, 3) := by decide +kernel
theorem qX1_nextToken_101 : decode (mB mX1_nextToken) 101 = .ok (.aload_n 0, 1) := by decide +kernel
theorem qX1_nextToken_102 : decode (mB mX1_nextToken) 102 = .ok (.dup, 1) := by decide +kernel
theorem qX1_nextToken_103 : decode (mB mX1_nextToken) 103 = .ok (.getfield 48, 3) := by decide +kernel
theorem qX1_nextToken_106 : decode (mB mX1_nextToken) 106 = .ok (.iconst 1, 1) := by decide +kernel
theorem qX1_nextToken_107 : decode (mB mX1_nextToken) 107 = .ok (.iadd, 1) := by decide +kernel
theorem qX1_nextToken_108 : decode (mB mX1_nextToken) 108 = .ok (.putfield 48, 3) := by decide +kernel
theorem qX1_nextToken_111 : decode (mB mX1_nextToken) 111 = .ok (.aload_n 0, 1) := by decide +kernel
theorem qX1_nextToken_112 : decode (mB mX1_nextToken) 112 = .ok (.getfield 57, 3) := by decide +kernel
theorem qX1_nextToken_115 : decode (mB mX1_nextToken) 115 = .ok (.iconst 1, 1) := by decide +kernel
theorem qX1_nextToken_116 : decode (mB mX1_nextToken) 116 = .ok (.if_icmp .eq 11, 3) := by decide +kernel
theorem qX1_nextToken_119 : decode (mB mX1_nextToken) 119 = .ok (.aload_n 0, 1) := by decide +kernel
theorem qX1_nextToken_120 : decode (mB mX1_nextToken) 120 = .ok (.getfield 57, 3) := by decide +kernel
theorem qX1_nextToken_123 : decode (mB mX1_nextToken) 123 = .ok (.iconst 2, 1) := by decide +kernel
theorem qX1_nextToken_124 : decode (mB mX1_nextToken) 124 = .ok (.if_icmp .ne 46, 3) := by decide +kernel
theorem qX1_nextToken_127 : decode (mB mX1_nextToken) 127 = .ok (.aload_n 0, 1) := by decide +kernel
theorem qX1_nextToken_128 : decode (mB mX1_nextToken) 128 = .ok (.getfield 48, 3) := by decide +kernel
theorem qX1_nextToken_131 : decode (mB mX1_nextToken) 131 = .ok (.aload_n 0, 1) := by decide +kernel
theorem qX1_nextToken_132 : decode (mB mX1_nextToken) 132 = .ok (.getfield 26, 3) := by decide +kernel
theorem qX1_nextToken_135 : decode (mB mX1_nextToken) 135 = .ok (.if_icmp .ge 35, 3) := by decide +kernel
theorem qX1_nextToken_138 : decode (mB mX1_nextToken) 138 = .ok (.aload_n 0, 1) := by decide +kernel
theorem qX1_nextToken_139 : decode (mB mX1_nextToken) 139 = .ok (.getfield 11, 3) := by decide +kernel
theorem qX1_nextToken_142 : decode (mB mX1_nextToken) 142 = .ok (.aload_n 0, 1) := by decide +kernel
theorem qX1_nextToken_143 : decode (mB mX1_nextToken) 143 = .ok (.getfield 48, 3) := by decide +kernel
theorem qX1_nextToken_146 : decode (mB mX1_nextToken) 146 = .ok (.baload, 1) := by decide +kernel
theorem qX1_nextToken_147 : decode (mB mX1_nextToken) 147 = .ok (.invokestatic 259, 3) := by decide +kernel
theorem qX1_nextToken_150 : decode (mB mX1_nextToken) 150 = .ok (.aload_n 0, 1) := by decide +kernel
theorem qX1_nextToken_151 : decode (mB mX1_nextToken) 151 = .ok (.getfield 57, 3) := by decide +kernel
theorem qX1_nextToken_154 : decode (mB mX1_nextToken) 154 = .ok (.if_icmp .ne 16, 3) := by decide +kernel
theorem qX1_nextToken_157 : decode (mB mX1_nextToken) 157 = .ok (.aload_n 0, 1) := by decide +kernel
theorem qX1_nextToken_158 : decode (mB mX1_nextToken) 158 = .ok (.dup, 1) := by decide +kernel
theorem qX1_nextToken_159 : decode (mB mX1_nextToken) 159 = .ok (.getfield 48, 3) := by decide +kernel
theorem qX1_nextToken_162 : decode (mB mX1_nextToken) 162 = .ok (.iconst 1, 1) := by decide +kernel
theorem qX1_nextToken_163 : decode (mB mX1_nextToken) 163 = .ok (.iadd, 1) := by decide +kernel
theorem qX1_nextToken_164 : decode (mB mX1_nextToken) 164 = .ok (.putfield 48, 3) := by decide +kernel
theorem qX1_nextToken_167 : decode (mB mX1_nextToken) 167 = .ok (.goto (-56), 3) := by decide +kernel
theorem qX1_nextToken_170 : decode (mB mX1_nextToken) 170 = .ok (.return_, 1) := by decide +kernel
theorem qX1_putByte_0 : decode (mB mX1_putByte) 0 = .ok (.aload_n 0, 1) := by decide +kernel
theorem qX1_putByte_1 : decode (mB mX1_putByte) 1 = .ok (.getfield 26, 3) := by decide +kernel
theorem qX1_putByte_4 : decode (mB mX1_putByte) 4 = .ok (.ifCond .lt 34, 3) := by decide +kernel
theorem qX1_putByte_7 : decode (mB mX1_putByte) 7 = .ok (.aload_n 0, 1) := by decide +kernel
theorem qX1_putByte_8 : decode (mB mX1_putByte) 8 = .ok (.getfield 26, 3) := by decide +kernel
theorem qX1_putByte_11 : decode (mB mX1_putByte) 11 = .ok (.sipush 600, 3) := by decide +kernel
theorem qX1_putByte_14 : decode (mB mX1_putByte) 14 = .ok (.if_icmp .ge 24, 3) := by decide +kernel
theorem qX1_putByte_17 : decode (mB mX1_putByte) 17 = .ok (.aload_n 0, 1) := by decide +kernel
theorem qX1_putByte_18 : decode (mB mX1_putByte) 18 = .ok (.getfield 11, 3) := by decide +kernel
theorem qX1_putByte_21 : decode (mB mX1_putByte) 21 = .ok (.aload_n 0, 1) := by decide +kernel
theorem qX1_putByte_22 : decode (mB mX1_putByte) 22 = .ok (.getfield 26, 3) := by decide +kernel
theorem qX1_putByte_25 : decode (mB mX1_putByte) 25 = .ok (.iload_n 1, 1) := by decide +kernel
theorem qX1_putByte_26 : decode (mB mX1_putByte) 26 = .ok (.i2b, 1) := by decide +kernel
theorem qX1_putByte_27 : decode (mB mX1_putByte) 27 = .ok (.bastore, 1) := by decide +kernel
theorem qX1_putByte_28 : decode (mB mX1_putByte) 28 = .ok (.aload_n 0, 1) := by decide +kernel
theorem qX1_putByte_29 : decode (mB mX1_putByte) 29 = .ok (.dup, 1) := by decide +kernel
theorem qX1_putByte_30 : decode (mB mX1_putByte) 30 = .ok (.getfield 26, 3) := by decide +kernel
theorem qX1_putByte_33 : decode (mB mX1_putByte) 33 = .ok (.iconst 1, 1) := by decide +kernel
theorem qX1_putByte_34 : decode (mB mX1_putByte) 34 = .ok (.iadd, 1) := by decide +kernel
theorem qX1_putByte_35 : decode (mB mX1_putByte) 35 = .ok (.putfield 26, 3) := by decide +kernel
theorem qX1_putByte_38 : decode (mB mX1_putByte) 38 = .ok (.return_, 1) := by decide +kernel
theorem qX1_putFourBytes_0 : decode (mB mX1_putFourBytes) 0 = .ok (.aload_n 0, 1) := by decide +kernel
theorem qX1_putFourBytes_1 : decode (mB mX1_putFourBytes) 1 = .ok (.iload_n 1, 1) := by decide +kernel
theorem qX1_putFourBytes_2 : decode (mB mX1_putFourBytes) 2 = .ok (.bipush 24, 2) := by decide +kernel
theorem qX1_putFourBytes_4 : decode (mB mX1_putFourBytes) 4 = .ok (.ishr, 1) := by decide +kernel
theorem qX1_putFourBytes_5 : decode (mB mX1_putFourBytes) 5 = .ok (.invokevirtual 29, 3) := by decide +kernel
theorem qX1_putFourBytes_8 : decode (mB mX1_putFourBytes) 8 = .ok (.aload_n 0, 1) := by decide +kernel
theorem qX1_putFourBytes_9 : decode (mB mX1_putFourBytes) 9 = .ok (.iload_n 1, 1) := by decide +kernel
theorem qX1_putFourBytes_10 : decode (mB mX1_putFourBytes) 10 = .ok (.bipush 16, 2) := by decide +kernel
theorem qX1_putFourBytes_12 : decode (mB mX1_putFourBytes) 12 = .ok (.ishr, 1) := by decide +kernel
theorem qX1_putFourBytes_13 : decode (mB mX1_putFourBytes) 13 = .ok (.invokevirtual 29, 3) := by decide +kernel
theorem qX1_putFourBytes_16 : decode (mB mX1_putFourBytes) 16 = .ok (.aload_n 0, 1) := by decide +kernel
theorem qX1_putFourBytes_17 : decode (mB mX1_putFourBytes) 17 = .ok (.iload_n 1, 1) := by decide +kernel
theorem qX1_putFourBytes_18 : decode (mB mX1_putFourBytes) 18 = .ok (.bipush 8, 2) := by decide +kernel
theorem qX1_putFourBytes_20 : decode (mB mX1_putFourBytes) 20 = .ok (.ishr, 1) := by decide +kernel
theorem qX1_putFourBytes_21 : decode (mB mX1_putFourBytes) 21 = .ok (.invokevirtual 29, 3) := by decide +kernel
theorem qX1_putFourBytes_24 : decode (mB mX1_putFourBytes) 24 = .ok (.aload_n 0, 1) := by decide +kernel
theorem qX1_putFourBytes_25 : decode (mB mX1_putFourBytes) 25 = .ok (.iload_n 1, 1) := by decide +kernel
theorem qX1_putFourBytes_26 : decode (mB mX1_putFourBytes) 26 = .ok (.invokevirtual 29, 3) := by decide +kernel
theorem qX1_putFourBytes_29 : decode (mB mX1_putFourBytes) 29 = .ok (.return_, 1) := by decide +kernel
theorem qX1_putText_0 : decode (mB mX1_putText) 0 = .ok (.iconst 0, 1) := by decide +kernel
theorem qX1_putText_1 : decode (mB mX1_putText) 1 = .ok (.istore_n 2, 1) := by decide +kernel
theorem qX1_putText_2 : decode (mB mX1_putText) 2 = .ok (.iload_n 2, 1) := by decide +kernel
theorem qX1_putText_3 : decode (mB mX1_putText) 3 = .ok (.aload_n 1, 1) := by decide +kernel
theorem qX1_putText_4 : decode (mB mX1_putText) 4 = .ok (.invokevirtual 33, 3) := by decide +kernel
theorem qX1_putText_7 : decode (mB mX1_putText) 7 = .ok (.if_icmp .ge 18, 3) := by decide +kernel
theorem qX1_putText_10 : decode (mB mX1_putText) 10 = .ok (.aload_n 0, 1) := by decide +kernel
theorem qX1_putText_11 : decode (mB mX1_putText) 11 = .ok (.aload_n 1, 1) := by decide +kernel
theorem qX1_putText_12 : decode (mB mX1_putText) 12 = .ok (.iload_n 2, 1) := by decide +kernel
theorem qX1_putText_13 : decode (mB mX1_putText) 13 = .ok (.invokevirtual 38, 3) := by decide +kernel
theorem qX1_putText_16 : decode (mB mX1_putText) 16 = .ok (.invokevirtual 29, 3) := by decide +kernel
theorem qX1_putText_19 : decode (mB mX1_putText) 19 = .ok (.iinc 2 1, 3) := by decide +kernel
theorem qX1_putText_22 : decode (mB mX1_putText) 22 = .ok (.goto (-20), 3) := by decide +kernel
theorem qX1_putText_25 : decode (mB mX1_putText) 25 = .ok (.return_, 1) := by decide +kernel
theorem qX1_readBath_0 : decode (mB mX1_readBath) 0 = .ok (.aload_n 0, 1) := by decide +kernel
theorem qX1_readBath_1 : decode (mB mX1_readBath) 1 = .ok (.invokevirtual 171, 3) := by decide +kernel
theorem qX1_readBath_4 : decode (mB mX1_readBath) 4 = .ok (.istore_n 1, 1) := by decide +kernel
theorem qX1_readBath_5 : decode (mB mX1_readBath) 5 = .ok (.aload_n 0, 1) := by decide +kernel
theorem qX1_readBath_6 : decode (mB mX1_readBath) 6 = .ok (.invokevirtual 76, 3) := by decide +kernel
theorem qX1_readBath_9 : decode (mB mX1_readBath) 9 = .ok (.istore_n 2, 1) := by decide +kernel
theorem qX1_readBath_10 : decode (mB mX1_readBath) 10 = .ok (.aload_n 0, 1) := by decide +kernel
theorem qX1_readBath_11 : decode (mB mX1_readBath) 11 = .ok (.iconst 0, 1) := by decide +kernel
theorem qX1_readBath_12 : decode (mB mX1_readBath) 12 = .ok (.invokevirtual 83, 3) := by decide +kernel
theorem qX1_readBath_15 : decode (mB mX1_readBath) 15 = .ok (.ifCond .eq 12, 3) := by decide +kernel
theorem qX1_readBath_18 : decode (mB mX1_readBath) 18 = .ok (.aload_n 0, 1) := by decide +kernel
theorem qX1_readBath_19 : decode (mB mX1_readBath) 19 = .ok (.getfield 18, 3) := by decide +kernel
theorem qX1_readBath_22 : decode (mB mX1_readBath) 22 = .ok (.iload_n 1, 1) := by decide +kernel
theorem qX1_readBath_23 : decode (mB mX1_readBath) 23 = .ok (.iload_n 2, 1) := by decide +kernel
theorem qX1_readBath_24 : decode (mB mX1_readBath) 24 = .ok (.invokevirtual 177, 3) := by decide +kernel
theorem qX1_readBath_27 : decode (mB mX1_readBath) 27 = .ok (.return_, 1) := by decide +kernel
theorem qX1_readDeed_0 : decode (mB mX1_readDeed) 0 = .ok (.aload_n 0, 1) := by decide +kernel
theorem qX1_readDeed_1 : decode (mB mX1_readDeed) 1 = .ok (.ldc 124, 2) := by decide +kernel
theorem qX1_readDeed_3 : decode (mB mX1_readDeed) 3 = .ok (.invokevirtual 72, 3) := by decide +kernel
theorem qX1_readDeed_6 : decode (mB mX1_readDeed) 6 = .ok (.ifCond .eq 11, 3) := by decide +kernel
theorem qX1_readDeed_9 : decode (mB mX1_readDeed) 9 = .ok (.aload_n 0, 1) := by decide +kernel
theorem qX1_readDeed_10 : decode (mB mX1_readDeed) 10 = .ok (.iconst 1, 1) := by decide +kernel
theorem qX1_readDeed_11 : decode (mB mX1_readDeed) 11 = .ok (.invokevirtual 126, 3) := by decide +kernel
theorem qX1_readDeed_14 : decode (mB mX1_readDeed) 14 = .ok (.goto 150, 3) := by decide +kernel
theorem qX1_readDeed_17 : decode (mB mX1_readDeed) 17 = .ok (.aload_n 0, 1) := by decide +kernel
theorem qX1_readDeed_18 : decode (mB mX1_readDeed) 18 = .ok (.ldc 130, 2) := by decide +kernel
theorem qX1_readDeed_20 : decode (mB mX1_readDeed) 20 = .ok (.invokevirtual 72, 3) := by decide +kernel
theorem qX1_readDeed_23 : decode (mB mX1_readDeed) 23 = .ok (.ifCond .eq 11, 3) := by decide +kernel
theorem qX1_readDeed_26 : decode (mB mX1_readDeed) 26 = .ok (.aload_n 0, 1) := by decide +kernel
theorem qX1_readDeed_27 : decode (mB mX1_readDeed) 27 = .ok (.iconst 0, 1) := by decide +kernel
theorem qX1_readDeed_28 : decode (mB mX1_readDeed) 28 = .ok (.invokevirtual 126, 3) := by decide +kernel
theorem qX1_readDeed_31 : decode (mB mX1_readDeed) 31 = .ok (.goto 133, 3) := by decide +kernel
theorem qX1_readDeed_34 : decode (mB mX1_readDeed) 34 = .ok (.aload_n 0, 1) := by decide +kernel
theorem qX1_readDeed_35 : decode (mB mX1_readDeed) 35 = .ok (.ldc 132, 2) := by decide +kernel
theorem qX1_readDeed_37 : decode (mB mX1_readDeed) 37 = .ok (.invokevirtual 72, 3) := by decide +kernel
theorem qX1_readDeed_40 : decode (mB mX1_readDeed) 40 = .ok (.ifCond .eq 10, 3) := by decide +kernel
theorem qX1_readDeed_43 : decode (mB mX1_readDeed) 43 = .ok (.aload_n 0, 1) := by decide +kernel
theorem qX1_readDeed_44 : decode (mB mX1_readDeed) 44 = .ok (.invokevirtual 134, 3) := by decide +kernel
theorem qX1_readDeed_47 : decode (mB mX1_readDeed) 47 = .ok (.goto 117, 3) := by decide +kernel
theorem qX1_readDeed_50 : decode (mB mX1_readDeed) 50 = .ok (.aload_n 0, 1) := by decide +kernel
theorem qX1_readDeed_51 : decode (mB mX1_readDeed) 51 = .ok (.ldc 137, 2) := by decide +kernel
theorem qX1_readDeed_53 : decode (mB mX1_readDeed) 53 = .ok (.invokevirtual 72, 3) := by decide +kernel
theorem qX1_readDeed_56 : decode (mB mX1_readDeed) 56 = .ok (.ifCond .eq 10, 3) := by decide +kernel
theorem qX1_readDeed_59 : decode (mB mX1_readDeed) 59 = .ok (.aload_n 0, 1) := by decide +kernel
theorem qX1_readDeed_60 : decode (mB mX1_readDeed) 60 = .ok (.invokevirtual 139, 3) := by decide +kernel
theorem qX1_readDeed_63 : decode (mB mX1_readDeed) 63 = .ok (.goto 101, 3) := by decide +kernel
theorem qX1_readDeed_66 : decode (mB mX1_readDeed) 66 = .ok (.aload_n 0, 1) := by decide +kernel
theorem qX1_readDeed_67 : decode (mB mX1_readDeed) 67 = .ok (.ldc 142, 2) := by decide +kernel
theorem qX1_readDeed_69 : decode (mB mX1_readDeed) 69 = .ok (.invokevirtual 72, 3) := by decide +kernel
theorem qX1_readDeed_72 : decode (mB mX1_readDeed) 72 = .ok (.ifCond .eq 10, 3) := by decide +kernel
theorem qX1_readDeed_75 : decode (mB mX1_readDeed) 75 = .ok (.aload_n 0, 1) := by decide +kernel
theorem qX1_readDeed_76 : decode (mB mX1_readDeed) 76 = .ok (.invokevirtual 144, 3) := by decide +kernel
theorem qX1_readDeed_79 : decode (mB mX1_readDeed) 79 = .ok (.goto 85, 3) := by decide +kernel
theorem qX1_readDeed_82 : decode (mB mX1_readDeed) 82 = .ok (.aload_n 0, 1) := by decide +kernel
theorem qX1_readDeed_83 : decode (mB mX1_readDeed) 83 = .ok (.ldc 147, 2) := by decide +kernel
theorem qX1_readDeed_85 : decode (mB mX1_readDeed) 85 = .ok (.invokevirtual 72, 3) := by decide +kernel
theorem qX1_readDeed_88 : decode (mB mX1_readDeed) 88 = .ok (.ifCond .eq 10, 3) := by decide +kernel
theorem qX1_readDeed_91 : decode (mB mX1_readDeed) 91 = .ok (.aload_n 0, 1) := by decide +kernel
theorem qX1_readDeed_92 : decode (mB mX1_readDeed) 92 = .ok (.invokevirtual 149, 3) := by decide +kernel
theorem qX1_readDeed_95 : decode (mB mX1_readDeed) 95 = .ok (.goto 69, 3) := by decide +kernel
theorem qX1_readDeed_98 : decode (mB mX1_readDeed) 98 = .ok (.aload_n 0, 1) := by decide +kernel
theorem qX1_readDeed_99 : decode (mB mX1_readDeed) 99 = .ok (.ldc 152, 2) := by decide +kernel
theorem qX1_readDeed_101 : decode (mB mX1_readDeed) 101 = .ok (.invokevirtual 72, 3) := by decide +kernel
theorem qX1_readDeed_104 : decode (mB mX1_readDeed) 104 = .ok (.ifCond .eq 10, 3) := by decide +kernel
theorem qX1_readDeed_107 : decode (mB mX1_readDeed) 107 = .ok (.aload_n 0, 1) := by decide +kernel
theorem qX1_readDeed_108 : decode (mB mX1_readDeed) 108 = .ok (.invokevirtual 154, 3) := by decide +kernel
theorem qX1_readDeed_111 : decode (mB mX1_readDeed) 111 = .ok (.goto 53, 3) := by decide +kernel
theorem qX1_readDeed_114 : decode (mB mX1_readDeed) 114 = .ok (.aload_n 0, 1) := by decide +kernel
theorem qX1_readDeed_115 : decode (mB mX1_readDeed) 115 = .ok (.ldc 157, 2) := by decide +kernel
theorem qX1_readDeed_117 : decode (mB mX1_readDeed) 117 = .ok (.invokevirtual 72, 3) := by decide +kernel
theorem qX1_readDeed_120 : decode (mB mX1_readDeed) 120 = .ok (.ifCond .eq 10, 3) := by decide +kernel
theorem qX1_readDeed_123 : decode (mB mX1_readDeed) 123 = .ok (.aload_n 0, 1) := by decide +kernel
theorem qX1_readDeed_124 : decode (mB mX1_readDeed) 124 = .ok (.invokevirtual 159, 3) := by decide +kernel
theorem qX1_readDeed_127 : decode (mB mX1_readDeed) 127 = .ok (.goto 37, 3) := by decide +kernel
theorem qX1_readDeed_130 : decode (mB mX1_readDeed) 130 = .ok (.aload_n 0, 1) := by decide +kernel
theorem qX1_readDeed_131 : decode (mB mX1_readDeed) 131 = .ok (.ldc 162, 2) := by decide +kernel
theorem qX1_readDeed_133 : decode (mB mX1_readDeed) 133 = .ok (.invokevirtual 72, 3) := by decide +kernel
theorem qX1_readDeed_136 : decode (mB mX1_readDeed) 136 = .ok (.ifCond .eq 10, 3) := by decide +kernel
theorem qX1_readDeed_139 : decode (mB mX1_readDeed) 139 = .ok (.aload_n 0, 1) := by decide +kernel
theorem qX1_readDeed_140 : decode (mB mX1_readDeed) 140 = .ok (.invokevirtual 163, 3) := by decide +kernel
theorem qX1_readDeed_143 : decode (mB mX1_readDeed) 143 = .ok (.goto 21, 3) := by decide +kernel
theorem qX1_readDeed_146 : decode (mB mX1_readDeed) 146 = .ok (.aload_n 0, 1) := by decide +kernel
theorem qX1_readDeed_147 : decode (mB mX1_readDeed) 147 = .ok (.ldc 166, 2) := by decide +kernel
theorem qX1_readDeed_149 : decode (mB mX1_readDeed) 149 = .ok (.invokevirtual 72, 3) := by decide +kernel
theorem qX1_readDeed_152 : decode (mB mX1_readDeed) 152 = .ok (.ifCond .eq 10, 3) := by decide +kernel
theorem qX1_readDeed_155 : decode (mB mX1_readDeed) 155 = .ok (.aload_n 0, 1) := by decide +kernel
theorem qX1_readDeed_156 : decode (mB mX1_readDeed) 156 = .ok (.invokevirtual 168, 3) := by decide +kernel
theorem qX1_readDeed_159 : decode (mB mX1_readDeed) 159 = .ok (.goto 5, 3) := by decide +kernel
theorem qX1_readDeed_162 : decode (mB mX1_readDeed) 162 = .ok (.iconst 0, 1) := by decide +kernel
theorem qX1_readDeed_163 : decode (mB mX1_readDeed) 163 = .ok (.ireturn, 1) := by decide +kernel
theorem qX1_readDeed_164 : decode (mB mX1_readDeed) 164 = .ok (.iconst 1, 1) := by decide +kernel
theorem qX1_readDeed_165 : decode (mB mX1_readDeed) 165 = .ok (.ireturn, 1) := by decide +kernel
theorem qX1_readDescription_0 : decode (mB mX1_readDescription) 0 = .ok (.aload_n 0, 1) := by decide +kernel
theorem qX1_readDescription_1 : decode (mB mX1_readDescription) 1 = .ok (.ldc 93, 2) := by decide +kernel
theorem qX1_readDescription_3 : decode (mB mX1_readDescription) 3 = .ok (.invokevirtual 95, 3) := by decide +kernel
theorem qX1_readDescription_6 : decode (mB mX1_readDescription) 6 = .ok (.ifCond .eq 22, 3) := by decide +kernel
theorem qX1_readDescription_9 : decode (mB mX1_readDescription) 9 = .ok (.aload_n 0, 1) := by decide +kernel
theorem qX1_readDescription_10 : decode (mB mX1_readDescription) 10 = .ok (.aload_n 0, 1) := by decide +kernel
theorem qX1_readDescription_11 : decode (mB mX1_readDescription) 11 = .ok (.getfield 18, 3) := by decide +kernel
theorem qX1_readDescription_14 : decode (mB mX1_readDescription) 14 = .ok (.getfield 98, 3) := by decide +kernel
theorem qX1_readDescription_17 : decode (mB mX1_readDescription) 17 = .ok (.iconst 5, 1) := by decide +kernel
theorem qX1_readDescription_18 : decode (mB mX1_readDescription) 18 = .ok (.invokevirtual 101, 3) := by decide +kernel
theorem qX1_readDescription_21 : decode (mB mX1_readDescription) 21 = .ok (.aload_n 0, 1) := by decide +kernel
theorem qX1_readDescription_22 : decode (mB mX1_readDescription) 22 = .ok (.invokevirtual 105, 3) := by decide +kernel
theorem qX1_readDescription_25 : decode (mB mX1_readDescription) 25 = .ok (.goto 62, 3) := by decide +kernel
theorem qX1_readDescription_28 : decode (mB mX1_readDescription) 28 = .ok (.aload_n 0, 1) := by decide +kernel
theorem qX1_readDescription_29 : decode (mB mX1_readDescription) 29 = .ok (.ldc 108, 2) := by decide +kernel
theorem qX1_readDescription_31 : decode (mB mX1_readDescription) 31 = .ok (.invokevirtual 95, 3) := by decide +kernel
theorem qX1_readDescription_34 : decode (mB mX1_readDescription) 34 = .ok (.ifCond .eq 22, 3) := by decide +kernel
theorem qX1_readDescription_37 : decode (mB mX1_readDescription) 37 = .ok (.aload_n 0, 1) := by decide +kernel
theorem qX1_readDescription_38 : decode (mB mX1_readDescription) 38 = .ok (.aload_n 0, 1) := by decide +kernel
theorem qX1_readDescription_39 : decode (mB mX1_readDescription) 39 = .ok (.getfield 18, 3) := by decide +kernel
theorem qX1_readDescription_42 : decode (mB mX1_readDescription) 42 = .ok (.getfield 110, 3) := by decide +kernel
theorem qX1_readDescription_45 : decode (mB mX1_readDescription) 45 = .ok (.iconst 4, 1) := by decide +kernel
theorem qX1_readDescription_46 : decode (mB mX1_readDescription) 46 = .ok (.invokevirtual 101, 3) := by decide +kernel
theorem qX1_readDescription_49 : decode (mB mX1_readDescription) 49 = .ok (.aload_n 0, 1) := by decide +kernel
theorem qX1_readDescription_50 : decode (mB mX1_readDescription) 50 = .ok (.invokevirtual 113, 3) := by decide +kernel
theorem qX1_readDescription_53 : decode (mB mX1_readDescription) 53 = .ok (.goto 34, 3) := by decide +kernel
theorem qX1_readDescription_56 : decode (mB mX1_readDescription) 56 = .ok (.aload_n 0, 1) := by decide +kernel
theorem qX1_readDescription_57 : decode (mB mX1_readDescription) 57 = .ok (.ldc 116, 2) := by decide +kernel
theorem qX1_readDescription_59 : decode (mB mX1_readDescription) 59 = .ok (.invokevirtual 95, 3) := by decide +kernel
theorem qX1_readDescription_62 : decode (mB mX1_readDescription) 62 = .ok (.ifCond .eq 23, 3) := by decide +kernel
theorem qX1_readDescription_65 : decode (mB mX1_readDescription) 65 = .ok (.aload_n 0, 1) := by decide +kernel
theorem qX1_readDescription_66 : decode (mB mX1_readDescription) 66 = .ok (.aload_n 0, 1) := by decide +kernel
theorem qX1_readDescription_67 : decode (mB mX1_readDescription) 67 = .ok (.getfield 18, 3) := by decide +kernel
theorem qX1_readDescription_70 : decode (mB mX1_readDescription) 70 = .ok (.getfield 118, 3) := by decide +kernel
theorem qX1_readDescription_73 : decode (mB mX1_readDescription) 73 = .ok (.bipush 8, 2) := by decide +kernel
theorem qX1_readDescription_75 : decode (mB mX1_readDescription) 75 = .ok (.invokevirtual 101, 3) := by decide +kernel
theorem qX1_readDescription_78 : decode (mB mX1_readDescription) 78 = .ok (.aload_n 0, 1) := by decide +kernel
theorem qX1_readDescription_79 : decode (mB mX1_readDescription) 79 = .ok (.invokevirtual 121, 3) := by decide +kernel
theorem qX1_readDescription_82 : decode (mB mX1_readDescription) 82 = .ok (.goto 5, 3) := by decide +kernel
theorem qX1_readDescription_85 : decode (mB mX1_readDescription) 85 = .ok (.iconst 0, 1) := by decide +kernel
theorem qX1_readDescription_86 : decode (mB mX1_readDescription) 86 = .ok (.ireturn, 1) := by decide +kernel
theorem qX1_readDescription_87 : decode (mB mX1_readDescription) 87 = .ok (.iconst 1, 1) := by decide +kernel
theorem qX1_readDescription_88 : decode (mB mX1_readDescription) 88 = .ok (.ireturn, 1) := by decide +kernel
theorem qX1_readDip_0 : decode (mB mX1_readDip) 0 = .ok (.aload_n 0, 1) := by decide +kernel
theorem qX1_readDip_1 : decode (mB mX1_readDip) 1 = .ok (.invokevirtual 192, 3) := by decide +kernel
theorem qX1_readDip_4 : decode (mB mX1_readDip) 4 = .ok (.astore_n 1, 1) := by decide +kernel
theorem qX1_readDip_5 : decode (mB mX1_readDip) 5 = .ok (.aload_n 0, 1) := by decide +kernel
theorem qX1_readDip_6 : decode (mB mX1_readDip) 6 = .ok (.aload_n 0, 1) := by decide +kernel
theorem qX1_readDip_7 : decode (mB mX1_readDip) 7 = .ok (.getfield 18, 3) := by decide +kernel
theorem qX1_readDip_10 : decode (mB mX1_readDip) 10 = .ok (.getfield 202, 3) := by decide +kernel
theorem qX1_readDip_13 : decode (mB mX1_readDip) 13 = .ok (.aload_n 0, 1) := by decide +kernel
theorem qX1_readDip_14 : decode (mB mX1_readDip) 14 = .ok (.getfield 18, 3) := by decide +kernel
theorem qX1_readDip_17 : decode (mB mX1_readDip) 17 = .ok (.getfield 110, 3) := by decide +kernel
theorem qX1_readDip_20 : decode (mB mX1_readDip) 20 = .ok (.invokevirtual 184, 3) := by decide +kernel
theorem qX1_readDip_23 : decode (mB mX1_readDip) 23 = .ok (.istore_n 2, 1) := by decide +kernel
theorem qX1_readDip_24 : decode (mB mX1_readDip) 24 = .ok (.aload_n 1, 1) := by decide +kernel
theorem qX1_readDip_25 : decode (mB mX1_readDip) 25 = .ok (.ifnull 19, 3) := by decide +kernel
theorem qX1_readDip_28 : decode (mB mX1_readDip) 28 = .ok (.aload_n 0, 1) := by decide +kernel
theorem qX1_readDip_29 : decode (mB mX1_readDip) 29 = .ok (.getfield 18, 3) := by decide +kernel
theorem qX1_readDip_32 : decode (mB mX1_readDip) 32 = .ok (.aload_n 1, 1) := by decide +kernel
theorem qX1_readDip_33 : decode (mB mX1_readDip) 33 = .ok (.iload_n 2, 1) := by decide +kernel
theorem qX1_readDip_34 : decode (mB mX1_readDip) 34 = .ok (.invokevirtual 205, 3) := by decide +kernel
theorem qX1_readDip_37 : decode (mB mX1_readDip) 37 = .ok (.ifCond .eq 7, 3) := by decide +kernel
theorem qX1_readDip_40 : decode (mB mX1_readDip) 40 = .ok (.iconst 1, 1) := by decide +kernel
theorem qX1_readDip_41 : decode (mB mX1_readDip) 41 = .ok (.goto 4, 3) := by decide +kernel
theorem qX1_readDip_44 : decode (mB mX1_readDip) 44 = .ok (.iconst 0, 1) := by decide +kernel
theorem qX1_readDip_45 : decode (mB mX1_readDip) 45 = .ok (.istore_n 3, 1) := by decide +kernel
theorem qX1_readDip_46 : decode (mB mX1_readDip) 46 = .ok (.aload_n 0, 1) := by decide +kernel
theorem qX1_readDip_47 : decode (mB mX1_readDip) 47 = .ok (.iload_n 3, 1) := by decide +kernel
theorem qX1_readDip_48 : decode (mB mX1_readDip) 48 = .ok (.invokevirtual 83, 3) := by decide +kernel
theorem qX1_readDip_51 : decode (mB mX1_readDip) 51 = .ok (.ifCond .eq 12, 3) := by decide +kernel
theorem qX1_readDip_54 : decode (mB mX1_readDip) 54 = .ok (.aload_n 1, 1) := by decide +kernel
theorem qX1_readDip_55 : decode (mB mX1_readDip) 55 = .ok (.ifnull 8, 3) := by decide +kernel
theorem qX1_readDip_58 : decode (mB mX1_readDip) 58 = .ok (.aload_n 1, 1) := by decide +kernel
theorem qX1_readDip_59 : decode (mB mX1_readDip) 59 = .ok (.iload_n 2, 1) := by decide +kernel
theorem qX1_readDip_60 : decode (mB mX1_readDip) 60 = .ok (.putfield 209, 3) := by decide +kernel
theorem qX1_readDip_63 : decode (mB mX1_readDip) 63 = .ok (.return_, 1) := by decide +kernel
theorem qX1_readErase_0 : decode (mB mX1_readErase) 0 = .ok (.aload_n 0, 1) := by decide +kernel
theorem qX1_readErase_1 : decode (mB mX1_readErase) 1 = .ok (.invokevirtual 192, 3) := by decide +kernel
theorem qX1_readErase_4 : decode (mB mX1_readErase) 4 = .ok (.astore_n 1, 1) := by decide +kernel
theorem qX1_readErase_5 : decode (mB mX1_readErase) 5 = .ok (.aload_n 1, 1) := by decide +kernel
theorem qX1_readErase_6 : decode (mB mX1_readErase) 6 = .ok (.ifnonnull 7, 3) := by decide +kernel
theorem qX1_readErase_9 : decode (mB mX1_readErase) 9 = .ok (.iconst (-1), 1) := by decide +kernel
theorem qX1_readErase_10 : decode (mB mX1_readErase) 10 = .ok (.goto 14, 3) := by decide +kernel
theorem qX1_readErase_13 : decode (mB mX1_readErase) 13 = .ok (.aload_n 0, 1) := by decide +kernel
theorem qX1_readErase_14 : decode (mB mX1_readErase) 14 = .ok (.iconst 0, 1) := by decide +kernel
theorem qX1_readErase_15 : decode (mB mX1_readErase) 15 = .ok (.aload_n 1, 1) := by decide +kernel
theorem qX1_readErase_16 : decode (mB mX1_readErase) 16 = .ok (.getfield 232, 3) := by decide +kernel
theorem qX1_readErase_19 : decode (mB mX1_readErase) 19 = .ok (.iconst 1, 1) := by decide +kernel
theorem qX1_readErase_20 : decode (mB mX1_readErase) 20 = .ok (.isub, 1) := by decide +kernel
theorem qX1_readErase_21 : decode (mB mX1_readErase) 21 = .ok (.invokevirtual 79, 3) := by decide +kernel
theorem qX1_readErase_24 : decode (mB mX1_readErase) 24 = .ok (.istore_n 2, 1) := by decide +kernel
theorem qX1_readErase_25 : decode (mB mX1_readErase) 25 = .ok (.aload_n 0, 1) := by decide +kernel
theorem qX1_readErase_26 : decode (mB mX1_readErase) 26 = .ok (.iconst 0, 1) := by decide +kernel
theorem qX1_readErase_27 : decode (mB mX1_readErase) 27 = .ok (.invokevirtual 83, 3) := by decide +kernel
theorem qX1_readErase_30 : decode (mB mX1_readErase) 30 = .ok (.ifCond .eq 12, 3) := by decide +kernel
theorem qX1_readErase_33 : decode (mB mX1_readErase) 33 = .ok (.aload_n 1, 1) := by decide +kernel
theorem qX1_readErase_34 : decode (mB mX1_readErase) 34 = .ok (.ifnull 8, 3) := by decide +kernel
theorem qX1_readErase_37 : decode (mB mX1_readErase) 37 = .ok (.aload_n 1, 1) := by decide +kernel
theorem qX1_readErase_38 : decode (mB mX1_readErase) 38 = .ok (.iload_n 2, 1) := by decide +kernel
theorem qX1_readErase_39 : decode (mB mX1_readErase) 39 = .ok (.invokevirtual 235, 3) := by decide +kernel
theorem qX1_readErase_42 : decode (mB mX1_readErase) 42 = .ok (.return_, 1) := by decide +kernel
theorem qX1_readFill_0 : decode (mB mX1_readFill) 0 = .ok (.aload_n 0, 1) := by decide +kernel
theorem qX1_readFill_1 : decode (mB mX1_readFill) 1 = .ok (.invokevirtual 192, 3) := by decide +kernel
theorem qX1_readFill_4 : decode (mB mX1_readFill) 4 = .ok (.astore_n 1, 1) := by decide +kernel
theorem qX1_readFill_5 : decode (mB mX1_readFill) 5 = .ok (.aload_n 0, 1) := by decide +kernel
theorem qX1_readFill_6 : decode (mB mX1_readFill) 6 = .ok (.iconst 1, 1) := by decide +kernel
theorem qX1_readFill_7 : decode (mB mX1_readFill) 7 = .ok (.sipush 999, 3) := by decide +kernel
theorem qX1_readFill_10 : decode (mB mX1_readFill) 10 = .ok (.invokevirtual 79, 3) := by decide +kernel
theorem qX1_readFill_13 : decode (mB mX1_readFill) 13 = .ok (.istore_n 2, 1) := by decide +kernel
theorem qX1_readFill_14 : decode (mB mX1_readFill) 14 = .ok (.aload_n 1, 1) := by decide +kernel
theorem qX1_readFill_15 : decode (mB mX1_readFill) 15 = .ok (.ifnull 19, 3) := by decide +kernel
theorem qX1_readFill_18 : decode (mB mX1_readFill) 18 = .ok (.aload_n 1, 1) := by decide +kernel
theorem qX1_readFill_19 : decode (mB mX1_readFill) 19 = .ok (.getfield 228, 3) := by decide +kernel
theorem qX1_readFill_22 : decode (mB mX1_readFill) 22 = .ok (.iload_n 2, 1) := by decide +kernel
theorem qX1_readFill_23 : decode (mB mX1_readFill) 23 = .ok (.iadd, 1) := by decide +kernel
theorem qX1_readFill_24 : decode (mB mX1_readFill) 24 = .ok (.sipush 999, 3) := by decide +kernel
theorem qX1_readFill_27 : decode (mB mX1_readFill) 27 = .ok (.if_icmp .le 7, 3) := by decide +kernel
theorem qX1_readFill_30 : decode (mB mX1_readFill) 30 = .ok (.iconst 1, 1) := by decide +kernel
theorem qX1_readFill_31 : decode (mB mX1_readFill) 31 = .ok (.goto 4, 3) := by decide +kernel
theorem qX1_readFill_34 : decode (mB mX1_readFill) 34 = .ok (.iconst 0, 1) := by decide +kernel
theorem qX1_readFill_35 : decode (mB mX1_readFill) 35 = .ok (.istore_n 3, 1) := by decide +kernel
theorem qX1_readFill_36 : decode (mB mX1_readFill) 36 = .ok (.aload_n 0, 1) := by decide +kernel
theorem qX1_readFill_37 : decode (mB mX1_readFill) 37 = .ok (.iload_n 3, 1) := by decide +kernel
theorem qX1_readFill_38 : decode (mB mX1_readFill) 38 = .ok (.invokevirtual 83, 3) := by decide +kernel
theorem qX1_readFill_41 : decode (mB mX1_readFill) 41 = .ok (.ifCond .eq 12, 3) := by decide +kernel
theorem qX1_readFill_44 : decode (mB mX1_readFill) 44 = .ok (.aload_n 1, 1) := by decide +kernel
theorem qX1_readFill_45 : decode (mB mX1_readFill) 45 = .ok (.ifnull 8, 3) := by decide +kernel
theorem qX1_readFill_48 : decode (mB mX1_readFill) 48 = .ok (.aload_n 1, 1) := by decide +kernel
theorem qX1_readFill_49 : decode (mB mX1_readFill) 49 = .ok (.iload_n 2, 1) := by decide +kernel
theorem qX1_readFill_50 : decode (mB mX1_readFill) 50 = .ok (.invokevirtual 230, 3) := by decide +kernel
theorem qX1_readFill_53 : decode (mB mX1_readFill) 53 = .ok (.return_, 1) := by decide +kernel
theorem qX1_readGallery_0 : decode (mB mX1_readGallery) 0 = .ok (.aload_n 0, 1) := by decide +kernel
theorem qX1_readGallery_1 : decode (mB mX1_readGallery) 1 = .ok (.ldc 70, 2) := by decide +kernel
theorem qX1_readGallery_3 : decode (mB mX1_readGallery) 3 = .ok (.invokevirtual 72, 3) := by decide +kernel
theorem qX1_readGallery_6 : decode (mB mX1_readGallery) 6 = .ok (.ifCond .ne 8, 3) := by decide +kernel
theorem qX1_readGallery_9 : decode (mB mX1_readGallery) 9 = .ok (.aload_n 0, 1) := by decide +kernel
theorem qX1_readGallery_10 : decode (mB mX1_readGallery) 10 = .ok (.iconst 1, 1) := by decide +kernel
theorem qX1_readGallery_11 : decode (mB mX1_readGallery) 11 = .ok (.invokevirtual 67, 3) := by decide +kernel
theorem qX1_readGallery_14 : decode (mB mX1_readGallery) 14 = .ok (.aload_n 0, 1) := by decide +kernel
theorem qX1_readGallery_15 : decode (mB mX1_readGallery) 15 = .ok (.invokevirtual 76, 3) := by decide +kernel
theorem qX1_readGallery_18 : decode (mB mX1_readGallery) 18 = .ok (.istore_n 1, 1) := by decide +kernel
theorem qX1_readGallery_19 : decode (mB mX1_readGallery) 19 = .ok (.aload_n 0, 1) := by decide +kernel
theorem qX1_readGallery_20 : decode (mB mX1_readGallery) 20 = .ok (.iconst 1, 1) := by decide +kernel
theorem qX1_readGallery_21 : decode (mB mX1_readGallery) 21 = .ok (.bipush 20, 2) := by decide +kernel
theorem qX1_readGallery_23 : decode (mB mX1_readGallery) 23 = .ok (.invokevirtual 79, 3) := by decide +kernel
theorem qX1_readGallery_26 : decode (mB mX1_readGallery) 26 = .ok (.istore_n 2, 1) := by decide +kernel
theorem qX1_readGallery_27 : decode (mB mX1_readGallery) 27 = .ok (.aload_n 0, 1) := by decide +kernel
theorem qX1_readGallery_28 : decode (mB mX1_readGallery) 28 = .ok (.iconst 0, 1) := by decide +kernel
theorem qX1_readGallery_29 : decode (mB mX1_readGallery) 29 = .ok (.invokevirtual 83, 3) := by decide +kernel
theorem qX1_readGallery_32 : decode (mB mX1_readGallery) 32 = .ok (.ifCond .eq 19, 3) := by decide +kernel
theorem qX1_readGallery_35 : decode (mB mX1_readGallery) 35 = .ok (.aload_n 0, 1) := by decide +kernel
theorem qX1_readGallery_36 : decode (mB mX1_readGallery) 36 = .ok (.getfield 18, 3) := by decide +kernel
theorem qX1_readGallery_39 : decode (mB mX1_readGallery) 39 = .ok (.iload_n 1, 1) := by decide +kernel
theorem qX1_readGallery_40 : decode (mB mX1_readGallery) 40 = .ok (.putfield 87, 3) := by decide +kernel
theorem qX1_readGallery_43 : decode (mB mX1_readGallery) 43 = .ok (.aload_n 0, 1) := by decide +kernel
theorem qX1_readGallery_44 : decode (mB mX1_readGallery) 44 = .ok (.getfield 18, 3) := by decide +kernel
theorem qX1_readGallery_47 : decode (mB mX1_readGallery) 47 = .ok (.iload_n 2, 1) := by decide +kernel
theorem qX1_readGallery_48 : decode (mB mX1_readGallery) 48 = .ok (.putfield 90, 3) := by decide +kernel
theorem qX1_readGallery_51 : decode (mB mX1_readGallery) 51 = .ok (.return_, 1) := by decide +kernel
theorem qX1_readLeaky_0 : decode (mB mX1_readLeaky) 0 = .ok (.aload_n 0, 1) := by decide +kernel
theorem qX1_readLeaky_1 : decode (mB mX1_readLeaky) 1 = .ok (.invokevirtual 192, 3) := by decide +kernel
theorem qX1_readLeaky_4 : decode (mB mX1_readLeaky) 4 = .ok (.astore_n 2, 1) := by decide +kernel
theorem qX1_readLeaky_5 : decode (mB mX1_readLeaky) 5 = .ok (.aload_n 0, 1) := by decide +kernel
theorem qX1_readLeaky_6 : decode (mB mX1_readLeaky) 6 = .ok (.iconst 0, 1) := by decide +kernel
theorem qX1_readLeaky_7 : decode (mB mX1_readLeaky) 7 = .ok (.invokevirtual 83, 3) := by decide +kernel
theorem qX1_readLeaky_10 : decode (mB mX1_readLeaky) 10 = .ok (.ifCond .eq 12, 3) := by decide +kernel
theorem qX1_readLeaky_13 : decode (mB mX1_readLeaky) 13 = .ok (.aload_n 2, 1) := by decide +kernel
theorem qX1_readLeaky_14 : decode (mB mX1_readLeaky) 14 = .ok (.ifnull 8, 3) := by decide +kernel
theorem qX1_readLeaky_17 : decode (mB mX1_readLeaky) 17 = .ok (.aload_n 2, 1) := by decide +kernel
theorem qX1_readLeaky_18 : decode (mB mX1_readLeaky) 18 = .ok (.iload_n 1, 1) := by decide +kernel
theorem qX1_readLeaky_19 : decode (mB mX1_readLeaky) 19 = .ok (.putfield 196, 3) := by decide +kernel
theorem qX1_readLeaky_22 : decode (mB mX1_readLeaky) 22 = .ok (.return_, 1) := by decide +kernel
theorem qX1_readLift_0 : decode (mB mX1_readLift) 0 = .ok (.aload_n 0, 1) := by decide +kernel
theorem qX1_readLift_1 : decode (mB mX1_readLift) 1 = .ok (.invokevirtual 192, 3) := by decide +kernel
theorem qX1_readLift_4 : decode (mB mX1_readLift) 4 = .ok (.astore_n 1, 1) := by decide +kernel
theorem qX1_readLift_5 : decode (mB mX1_readLift) 5 = .ok (.aload_n 1, 1) := by decide +kernel
theorem qX1_readLift_6 : decode (mB mX1_readLift) 6 = .ok (.ifnull 15, 3) := by decide +kernel
theorem qX1_readLift_9 : decode (mB mX1_readLift) 9 = .ok (.aload_n 1, 1) := by decide +kernel
theorem qX1_readLift_10 : decode (mB mX1_readLift) 10 = .ok (.getfield 209, 3) := by decide +kernel
theorem qX1_readLift_13 : decode (mB mX1_readLift) 13 = .ok (.iconst (-1), 1) := by decide +kernel
theorem qX1_readLift_14 : decode (mB mX1_readLift) 14 = .ok (.if_icmp .ne 7, 3) := by decide +kernel
theorem qX1_readLift_17 : decode (mB mX1_readLift) 17 = .ok (.iconst 1, 1) := by decide +kernel
theorem qX1_readLift_18 : decode (mB mX1_readLift) 18 = .ok (.goto 4, 3) := by decide +kernel
theorem qX1_readLift_21 : decode (mB mX1_readLift) 21 = .ok (.iconst 0, 1) := by decide +kernel
theorem qX1_readLift_22 : decode (mB mX1_readLift) 22 = .ok (.istore_n 2, 1) := by decide +kernel
theorem qX1_readLift_23 : decode (mB mX1_readLift) 23 = .ok (.aload_n 0, 1) := by decide +kernel
theorem qX1_readLift_24 : decode (mB mX1_readLift) 24 = .ok (.iload_n 2, 1) := by decide +kernel
theorem qX1_readLift_25 : decode (mB mX1_readLift) 25 = .ok (.invokevirtual 83, 3) := by decide +kernel
theorem qX1_readLift_28 : decode (mB mX1_readLift) 28 = .ok (.ifCond .eq 12, 3) := by decide +kernel
theorem qX1_readLift_31 : decode (mB mX1_readLift) 31 = .ok (.aload_n 1, 1) := by decide +kernel
theorem qX1_readLift_32 : decode (mB mX1_readLift) 32 = .ok (.ifnull 8, 3) := by decide +kernel
theorem qX1_readLift_35 : decode (mB mX1_readLift) 35 = .ok (.aload_n 1, 1) := by decide +kernel
theorem qX1_readLift_36 : decode (mB mX1_readLift) 36 = .ok (.iconst (-1), 1) := by decide +kernel
theorem qX1_readLift_37 : decode (mB mX1_readLift) 37 = .ok (.putfield 209, 3) := by decide +kernel
theorem qX1_readLift_40 : decode (mB mX1_readLift) 40 = .ok (.return_, 1) := by decide +kernel
theorem qX1_readMark_0 : decode (mB mX1_readMark) 0 = .ok (.aload_n 0, 1) := by decide +kernel
theorem qX1_readMark_1 : decode (mB mX1_readMark) 1 = .ok (.invokevirtual 192, 3) := by decide +kernel
theorem qX1_readMark_4 : decode (mB mX1_readMark) 4 = .ok (.astore_n 1, 1) := by decide +kernel
theorem qX1_readMark_5 : decode (mB mX1_readMark) 5 = .ok (.aload_n 1, 1) := by decide +kernel
theorem qX1_readMark_6 : decode (mB mX1_readMark) 6 = .ok (.ifnull 18, 3) := by decide +kernel
theorem qX1_readMark_9 : decode (mB mX1_readMark) 9 = .ok (.aload_n 0, 1) := by decide +kernel
theorem qX1_readMark_10 : decode (mB mX1_readMark) 10 = .ok (.getfield 18, 3) := by decide +kernel
theorem qX1_readMark_13 : decode (mB mX1_readMark) 13 = .ok (.aload_n 1, 1) := by decide +kernel
theorem qX1_readMark_14 : decode (mB mX1_readMark) 14 = .ok (.invokevirtual 211, 3) := by decide +kernel
theorem qX1_readMark_17 : decode (mB mX1_readMark) 17 = .ok (.ifCond .eq 7, 3) := by decide +kernel
theorem qX1_readMark_20 : decode (mB mX1_readMark) 20 = .ok (.iconst 1, 1) := by decide +kernel
theorem qX1_readMark_21 : decode (mB mX1_readMark) 21 = .ok (.goto 4, 3) := by decide +kernel
theorem qX1_readMark_24 : decode (mB mX1_readMark) 24 = .ok (.iconst 0, 1) := by decide +kernel
theorem qX1_readMark_25 : decode (mB mX1_readMark) 25 = .ok (.istore_n 2, 1) := by decide +kernel
theorem qX1_readMark_26 : decode (mB mX1_readMark) 26 = .ok (.aload_n 0, 1) := by decide +kernel
theorem qX1_readMark_27 : decode (mB mX1_readMark) 27 = .ok (.iload_n 2, 1) := by decide +kernel
theorem qX1_readMark_28 : decode (mB mX1_readMark) 28 = .ok (.invokevirtual 83, 3) := by decide +kernel
theorem qX1_readMark_31 : decode (mB mX1_readMark) 31 = .ok (.ifCond .eq 15, 3) := by decide +kernel
theorem qX1_readMark_34 : decode (mB mX1_readMark) 34 = .ok (.aload_n 1, 1) := by decide +kernel
theorem qX1_readMark_35 : decode (mB mX1_readMark) 35 = .ok (.ifnull 11, 3) := by decide +kernel
theorem qX1_readMark_38 : decode (mB mX1_readMark) 38 = .ok (.aload_n 0, 1) := by decide +kernel
theorem qX1_readMark_39 : decode (mB mX1_readMark) 39 = .ok (.getfield 18, 3) := by decide +kernel
theorem qX1_readMark_42 : decode (mB mX1_readMark) 42 = .ok (.aload_n 1, 1) := by decide +kernel
theorem qX1_readMark_43 : decode (mB mX1_readMark) 43 = .ok (.invokevirtual 215, 3) := by decide +kernel
theorem qX1_readMark_46 : decode (mB mX1_readMark) 46 = .ok (.return_, 1) := by decide +kernel
theorem qX1_readPass_0 : decode (mB mX1_readPass) 0 = .ok (.aload_n 0, 1) := by decide +kernel
theorem qX1_readPass_1 : decode (mB mX1_readPass) 1 = .ok (.iconst 0, 1) := by decide +kernel
theorem qX1_readPass_2 : decode (mB mX1_readPass) 2 = .ok (.sipush 300, 3) := by decide +kernel
theorem qX1_readPass_5 : decode (mB mX1_readPass) 5 = .ok (.invokevirtual 79, 3) := by decide +kernel
theorem qX1_readPass_8 : decode (mB mX1_readPass) 8 = .ok (.istore_n 1, 1) := by decide +kernel
theorem qX1_readPass_9 : decode (mB mX1_readPass) 9 = .ok (.aload_n 0, 1) := by decide +kernel
theorem qX1_readPass_10 : decode (mB mX1_readPass) 10 = .ok (.iconst 0, 1) := by decide +kernel
theorem qX1_readPass_11 : decode (mB mX1_readPass) 11 = .ok (.invokevirtual 83, 3) := by decide +kernel
theorem qX1_readPass_14 : decode (mB mX1_readPass) 14 = .ok (.ifCond .eq 12, 3) := by decide +kernel
theorem qX1_readPass_17 : decode (mB mX1_readPass) 17 = .ok (.aload_n 0, 1) := by decide +kernel
theorem qX1_readPass_18 : decode (mB mX1_readPass) 18 = .ok (.getfield 18, 3) := by decide +kernel
theorem qX1_readPass_21 : decode (mB mX1_readPass) 21 = .ok (.iload_n 1, 1) := by decide +kernel
theorem qX1_readPass_22 : decode (mB mX1_readPass) 22 = .ok (.invokevirtual 238, 3) := by decide +kernel
theorem qX1_readPass_25 : decode (mB mX1_readPass) 25 = .ok (.pop, 1) := by decide +kernel
theorem qX1_readPass_26 : decode (mB mX1_readPass) 26 = .ok (.return_, 1) := by decide +kernel
theorem qX1_readRoom_0 : decode (mB mX1_readRoom) 0 = .ok (.aload_n 0, 1) := by decide +kernel
theorem qX1_readRoom_1 : decode (mB mX1_readRoom) 1 = .ok (.invokevirtual 76, 3) := by decide +kernel
theorem qX1_readRoom_4 : decode (mB mX1_readRoom) 4 = .ok (.istore_n 1, 1) := by decide +kernel
theorem qX1_readRoom_5 : decode (mB mX1_readRoom) 5 = .ok (.aload_n 0, 1) := by decide +kernel
theorem qX1_readRoom_6 : decode (mB mX1_readRoom) 6 = .ok (.iconst 0, 1) := by decide +kernel
theorem qX1_readRoom_7 : decode (mB mX1_readRoom) 7 = .ok (.invokevirtual 83, 3) := by decide +kernel
theorem qX1_readRoom_10 : decode (mB mX1_readRoom) 10 = .ok (.ifCond .eq 11, 3) := by decide +kernel
theorem qX1_readRoom_13 : decode (mB mX1_readRoom) 13 = .ok (.aload_n 0, 1) := by decide +kernel
theorem qX1_readRoom_14 : decode (mB mX1_readRoom) 14 = .ok (.getfield 18, 3) := by decide +kernel
theorem qX1_readRoom_17 : decode (mB mX1_readRoom) 17 = .ok (.iload_n 1, 1) := by decide +kernel
theorem qX1_readRoom_18 : decode (mB mX1_readRoom) 18 = .ok (.putfield 87, 3) := by decide +kernel
theorem qX1_readRoom_21 : decode (mB mX1_readRoom) 21 = .ok (.return_, 1) := by decide +kernel
theorem qX1_readSetup_0 : decode (mB mX1_readSetup) 0 = .ok (.aload_n 0, 1) := by decide +kernel
theorem qX1_readSetup_1 : decode (mB mX1_readSetup) 1 = .ok (.getfield 18, 3) := by decide +kernel
theorem qX1_readSetup_4 : decode (mB mX1_readSetup) 4 = .ok (.invokevirtual 42, 3) := by decide +kernel
theorem qX1_readSetup_7 : decode (mB mX1_readSetup) 7 = .ok (.aload_n 0, 1) := by decide +kernel
theorem qX1_readSetup_8 : decode (mB mX1_readSetup) 8 = .ok (.iconst 0, 1) := by decide +kernel
theorem qX1_readSetup_9 : decode (mB mX1_readSetup) 9 = .ok (.putfield 45, 3) := by decide +kernel
theorem qX1_readSetup_12 : decode (mB mX1_readSetup) 12 = .ok (.aload_n 0, 1) := by decide +kernel
theorem qX1_readSetup_13 : decode (mB mX1_readSetup) 13 = .ok (.iconst (-1), 1) := by decide +kernel
theorem qX1_readSetup_14 : decode (mB mX1_readSetup) 14 = .ok (.putfield 22, 3) := by decide +kernel
theorem qX1_readSetup_17 : decode (mB mX1_readSetup) 17 = .ok (.aload_n 0, 1) := by decide +kernel
theorem qX1_readSetup_18 : decode (mB mX1_readSetup) 18 = .ok (.iconst 0, 1) := by decide +kernel
theorem qX1_readSetup_19 : decode (mB mX1_readSetup) 19 = .ok (.putfield 48, 3) := by decide +kernel
theorem qX1_readSetup_22 : decode (mB mX1_readSetup) 22 = .ok (.aload_n 0, 1) := by decide +kernel
theorem qX1_readSetup_23 : decode (mB mX1_readSetup) 23 = .ok (.invokevirtual 51, 3) := by decide +kernel
theorem qX1_readSetup_26 : decode (mB mX1_readSetup) 26 = .ok (.aload_n 0, 1) := by decide +kernel
theorem qX1_readSetup_27 : decode (mB mX1_readSetup) 27 = .ok (.invokevirtual 54, 3) := by decide +kernel
theorem qX1_readSetup_30 : decode (mB mX1_readSetup) 30 = .ok (.iconst 0, 1) := by decide +kernel
theorem qX1_readSetup_31 : decode (mB mX1_readSetup) 31 = .ok (.istore_n 1, 1) := by decide +kernel
theorem qX1_readSetup_32 : decode (mB mX1_readSetup) 32 = .ok (.iload_n 1, 1) := by decide +kernel
theorem qX1_readSetup_33 : decode (mB mX1_readSetup) 33 = .ok (.sipush 600, 3) := by decide +kernel
theorem qX1_readSetup_36 : decode (mB mX1_readSetup) 36 = .ok (.if_icmp .ge 42, 3) := by decide +kernel
theorem qX1_readSetup_39 : decode (mB mX1_readSetup) 39 = .ok (.aload_n 0, 1) := by decide +kernel
theorem qX1_readSetup_40 : decode (mB mX1_readSetup) 40 = .ok (.getfield 45, 3) := by decide +kernel
theorem qX1_readSetup_43 : decode (mB mX1_readSetup) 43 = .ok (.ifCond .ne 35, 3) := by decide +kernel
theorem qX1_readSetup_46 : decode (mB mX1_readSetup) 46 = .ok (.aload_n 0, 1) := by decide +kernel
theorem qX1_readSetup_47 : decode (mB mX1_readSetup) 47 = .ok (.getfield 57, 3) := by decide +kernel
theorem qX1_readSetup_50 : decode (mB mX1_readSetup) 50 = .ok (.ifCond .eq 28, 3) := by decide +kernel
theorem qX1_readSetup_53 : decode (mB mX1_readSetup) 53 = .ok (.aload_n 0, 1) := by decide +kernel
theorem qX1_readSetup_54 : decode (mB mX1_readSetup) 54 = .ok (.invokevirtual 60, 3) := by decide +kernel
theorem qX1_readSetup_57 : decode (mB mX1_readSetup) 57 = .ok (.ifCond .ne 15, 3) := by decide +kernel
theorem qX1_readSetup_60 : decode (mB mX1_readSetup) 60 = .ok (.aload_n 0, 1) := by decide +kernel
theorem qX1_readSetup_61 : decode (mB mX1_readSetup) 61 = .ok (.invokevirtual 64, 3) := by decide +kernel
theorem qX1_readSetup_64 : decode (mB mX1_readSetup) 64 = .ok (.ifCond .ne 8, 3) := by decide +kernel
theorem qX1_readSetup_67 : decode (mB mX1_readSetup) 67 = .ok (.aload_n 0, 1) := by decide +kernel
theorem qX1_readSetup_68 : decode (mB mX1_readSetup) 68 = .ok (.iconst 1, 1) := by decide +kernel
theorem qX1_readSetup_69 : decode (mB mX1_readSetup) 69 = .ok (.invokevirtual 67, 3) := by decide +kernel
theorem qX1_readSetup_72 : decode (mB mX1_readSetup) 72 = .ok (.iinc 1 1, 3) := by decide +kernel
theorem qX1_readSetup_75 : decode (mB mX1_readSetup) 75 = .ok (.goto (-43), 3) := by decide +kernel
theorem qX1_readSetup_78 : decode (mB mX1_readSetup) 78 = .ok (.return_, 1) := by decide +kernel
theorem qX1_readSpirit_0 : decode (mB mX1_readSpirit) 0 = .ok (.aload_n 0, 1) := by decide +kernel
theorem qX1_readSpirit_1 : decode (mB mX1_readSpirit) 1 = .ok (.invokevirtual 171, 3) := by decide +kernel
theorem qX1_readSpirit_4 : decode (mB mX1_readSpirit) 4 = .ok (.istore_n 1, 1) := by decide +kernel
theorem qX1_readSpirit_5 : decode (mB mX1_readSpirit) 5 = .ok (.aload_n 0, 1) := by decide +kernel
theorem qX1_readSpirit_6 : decode (mB mX1_readSpirit) 6 = .ok (.iconst 1, 1) := by decide +kernel
theorem qX1_readSpirit_7 : decode (mB mX1_readSpirit) 7 = .ok (.bipush 40, 2) := by decide +kernel
theorem qX1_readSpirit_9 : decode (mB mX1_readSpirit) 9 = .ok (.invokevirtual 79, 3) := by decide +kernel
theorem qX1_readSpirit_12 : decode (mB mX1_readSpirit) 12 = .ok (.istore_n 2, 1) := by decide +kernel
theorem qX1_readSpirit_13 : decode (mB mX1_readSpirit) 13 = .ok (.aload_n 0, 1) := by decide +kernel
theorem qX1_readSpirit_14 : decode (mB mX1_readSpirit) 14 = .ok (.iconst 0, 1) := by decide +kernel
theorem qX1_readSpirit_15 : decode (mB mX1_readSpirit) 15 = .ok (.invokevirtual 83, 3) := by decide +kernel
theorem qX1_readSpirit_18 : decode (mB mX1_readSpirit) 18 = .ok (.ifCond .eq 12, 3) := by decide +kernel
theorem qX1_readSpirit_21 : decode (mB mX1_readSpirit) 21 = .ok (.aload_n 0, 1) := by decide +kernel
theorem qX1_readSpirit_22 : decode (mB mX1_readSpirit) 22 = .ok (.getfield 18, 3) := by decide +kernel
theorem qX1_readSpirit_25 : decode (mB mX1_readSpirit) 25 = .ok (.iload_n 1, 1) := by decide +kernel
theorem qX1_readSpirit_26 : decode (mB mX1_readSpirit) 26 = .ok (.iload_n 2, 1) := by decide +kernel
theorem qX1_readSpirit_27 : decode (mB mX1_readSpirit) 27 = .ok (.invokevirtual 174, 3) := by decide +kernel
theorem qX1_readSpirit_30 : decode (mB mX1_readSpirit) 30 = .ok (.return_, 1) := by decide +kernel
theorem qX1_readThumb_0 : decode (mB mX1_readThumb) 0 = .ok (.aload_n 0, 1) := by decide +kernel
theorem qX1_readThumb_1 : decode (mB mX1_readThumb) 1 = .ok (.invokevirtual 192, 3) := by decide +kernel
theorem qX1_readThumb_4 : decode (mB mX1_readThumb) 4 = .ok (.astore_n 1, 1) := by decide +kernel
theorem qX1_readThumb_5 : decode (mB mX1_readThumb) 5 = .ok (.aload_n 0, 1) := by decide +kernel
theorem qX1_readThumb_6 : decode (mB mX1_readThumb) 6 = .ok (.iconst 1, 1) := by decide +kernel
theorem qX1_readThumb_7 : decode (mB mX1_readThumb) 7 = .ok (.bipush 60, 2) := by decide +kernel
theorem qX1_readThumb_9 : decode (mB mX1_readThumb) 9 = .ok (.invokevirtual 79, 3) := by decide +kernel
theorem qX1_readThumb_12 : decode (mB mX1_readThumb) 12 = .ok (.istore_n 2, 1) := by decide +kernel
theorem qX1_readThumb_13 : decode (mB mX1_readThumb) 13 = .ok (.aload_n 0, 1) := by decide +kernel
theorem qX1_readThumb_14 : decode (mB mX1_readThumb) 14 = .ok (.iconst 0, 1) := by decide +kernel
theorem qX1_readThumb_15 : decode (mB mX1_readThumb) 15 = .ok (.invokevirtual 83, 3) := by decide +kernel
theorem qX1_readThumb_18 : decode (mB mX1_readThumb) 18 = .ok (.ifCond .eq 26, 3) := by decide +kernel
theorem qX1_readThumb_21 : decode (mB mX1_readThumb) 21 = .ok (.aload_n 1, 1) := by decide +kernel
theorem qX1_readThumb_22 : decode (mB mX1_readThumb) 22 = .ok (.ifnull 22, 3) := by decide +kernel
theorem qX1_readThumb_25 : decode (mB mX1_readThumb) 25 = .ok (.aload_n 0, 1) := by decide +kernel
theorem qX1_readThumb_26 : decode (mB mX1_readThumb) 26 = .ok (.getfield 18, 3) := by decide +kernel
theorem qX1_readThumb_29 : decode (mB mX1_readThumb) 29 = .ok (.aload_n 1, 1) := by decide +kernel
theorem qX1_readThumb_30 : decode (mB mX1_readThumb) 30 = .ok (.getfield 219, 3) := by decide +kernel
theorem qX1_readThumb_33 : decode (mB mX1_readThumb) 33 = .ok (.putfield 222, 3) := by decide +kernel
theorem qX1_readThumb_36 : decode (mB mX1_readThumb) 36 = .ok (.aload_n 0, 1) := by decide +kernel
theorem qX1_readThumb_37 : decode (mB mX1_readThumb) 37 = .ok (.getfield 18, 3) := by decide +kernel
theorem qX1_readThumb_40 : decode (mB mX1_readThumb) 40 = .ok (.iload_n 2, 1) := by decide +kernel
theorem qX1_readThumb_41 : decode (mB mX1_readThumb) 41 = .ok (.putfield 225, 3) := by decide +kernel
theorem qX1_readThumb_44 : decode (mB mX1_readThumb) 44 = .ok (.return_, 1) := by decide +kernel
theorem qX1_readTube_0 : decode (mB mX1_readTube) 0 = .ok (.aload_n 0, 1) := by decide +kernel
theorem qX1_readTube_1 : decode (mB mX1_readTube) 1 = .ok (.aload_n 0, 1) := by decide +kernel
theorem qX1_readTube_2 : decode (mB mX1_readTube) 2 = .ok (.getfield 18, 3) := by decide +kernel
theorem qX1_readTube_5 : decode (mB mX1_readTube) 5 = .ok (.getfield 180, 3) := by decide +kernel
theorem qX1_readTube_8 : decode (mB mX1_readTube) 8 = .ok (.aload_n 0, 1) := by decide +kernel
theorem qX1_readTube_9 : decode (mB mX1_readTube) 9 = .ok (.getfield 18, 3) := by decide +kernel
theorem qX1_readTube_12 : decode (mB mX1_readTube) 12 = .ok (.getfield 98, 3) := by decide +kernel
theorem qX1_readTube_15 : decode (mB mX1_readTube) 15 = .ok (.invokevirtual 184, 3) := by decide +kernel
theorem qX1_readTube_18 : decode (mB mX1_readTube) 18 = .ok (.istore_n 1, 1) := by decide +kernel
theorem qX1_readTube_19 : decode (mB mX1_readTube) 19 = .ok (.aload_n 0, 1) := by decide +kernel
theorem qX1_readTube_20 : decode (mB mX1_readTube) 20 = .ok (.iconst 1, 1) := by decide +kernel
theorem qX1_readTube_21 : decode (mB mX1_readTube) 21 = .ok (.bipush 50, 2) := by decide +kernel
theorem qX1_readTube_23 : decode (mB mX1_readTube) 23 = .ok (.invokevirtual 79, 3) := by decide +kernel
theorem qX1_readTube_26 : decode (mB mX1_readTube) 26 = .ok (.istore_n 2, 1) := by decide +kernel
theorem qX1_readTube_27 : decode (mB mX1_readTube) 27 = .ok (.aload_n 0, 1) := by decide +kernel
theorem qX1_readTube_28 : decode (mB mX1_readTube) 28 = .ok (.iconst 1, 1) := by decide +kernel
theorem qX1_readTube_29 : decode (mB mX1_readTube) 29 = .ok (.bipush 9, 2) := by decide +kernel
theorem qX1_readTube_31 : decode (mB mX1_readTube) 31 = .ok (.invokevirtual 79, 3) := by decide +kernel
theorem qX1_readTube_34 : decode (mB mX1_readTube) 34 = .ok (.istore_n 3, 1) := by decide +kernel
theorem qX1_readTube_35 : decode (mB mX1_readTube) 35 = .ok (.aload_n 0, 1) := by decide +kernel
theorem qX1_readTube_36 : decode (mB mX1_readTube) 36 = .ok (.bipush 10, 2) := by decide +kernel
theorem qX1_readTube_38 : decode (mB mX1_readTube) 38 = .ok (.sipush 999, 3) := by decide +kernel
theorem qX1_readTube_41 : decode (mB mX1_readTube) 41 = .ok (.invokevirtual 79, 3) := by decide +kernel
theorem qX1_readTube_44 : decode (mB mX1_readTube) 44 = .ok (.istore 4, 2) := by decide +kernel
theorem qX1_readTube_46 : decode (mB mX1_readTube) 46 = .ok (.aload_n 0, 1) := by decide +kernel
theorem qX1_readTube_47 : decode (mB mX1_readTube) 47 = .ok (.iconst 0, 1) := by decide +kernel
theorem qX1_readTube_48 : decode (mB mX1_readTube) 48 = .ok (.sipush 999, 3) := by decide +kernel
theorem qX1_readTube_51 : decode (mB mX1_readTube) 51 = .ok (.invokevirtual 79, 3) := by decide +kernel
theorem qX1_readTube_54 : decode (mB mX1_readTube) 54 = .ok (.istore 5, 2) := by decide +kernel
theorem qX1_readTube_56 : decode (mB mX1_readTube) 56 = .ok (.aload_n 0, 1) := by decide +kernel
theorem qX1_readTube_57 : decode (mB mX1_readTube) 57 = .ok (.iconst 0, 1) := by decide +kernel
theorem qX1_readTube_58 : decode (mB mX1_readTube) 58 = .ok (.invokevirtual 83, 3) := by decide +kernel
theorem qX1_readTube_61 : decode (mB mX1_readTube) 61 = .ok (.ifCond .eq 17, 3) := by decide +kernel
theorem qX1_readTube_64 : decode (mB mX1_readTube) 64 = .ok (.aload_n 0, 1) := by decide +kernel
theorem qX1_readTube_65 : decode (mB mX1_readTube) 65 = .ok (.getfield 18, 3) := by decide +kernel
theorem qX1_readTube_68 : decode (mB mX1_readTube) 68 = .ok (.iload_n 1, 1) := by decide +kernel
theorem qX1_readTube_69 : decode (mB mX1_readTube) 69 = .ok (.iload_n 2, 1) := by decide +kernel
theorem qX1_readTube_70 : decode (mB mX1_readTube) 70 = .ok (.iload_n 3, 1) := by decide +kernel
theorem qX1_readTube_71 : decode (mB mX1_readTube) 71 = .ok (.iload 4, 2) := by decide +kernel
theorem qX1_readTube_73 : decode (mB mX1_readTube) 73 = .ok (.iload 5, 2) := by decide +kernel
theorem qX1_readTube_75 : decode (mB mX1_readTube) 75 = .ok (.invokevirtual 188, 3) := by decide +kernel
theorem qX1_readTube_78 : decode (mB mX1_readTube) 78 = .ok (.return_, 1) := by decide +kernel
theorem qX1_takeDegrees_0 : decode (mB mX1_takeDegrees) 0 = .ok (.aload_n 0, 1) := by decide +kernel
theorem qX1_takeDegrees_1 : decode (mB mX1_takeDegrees) 1 = .ok (.getfield 57, 3) := by decide +kernel
theorem qX1_takeDegrees_4 : decode (mB mX1_takeDegrees) 4 = .ok (.iconst 3, 1) := by decide +kernel
theorem qX1_takeDegrees_5 : decode (mB mX1_takeDegrees) 5 = .ok (.if_icmp .ne 16, 3) := by decide +kernel
theorem qX1_takeDegrees_8 : decode (mB mX1_takeDegrees) 8 = .ok (.aload_n 0, 1) := by decide +kernel
theorem qX1_takeDegrees_9 : decode (mB mX1_takeDegrees) 9 = .ok (.invokevirtual 51, 3) := by decide +kernel
theorem qX1_takeDegrees_12 : decode (mB mX1_takeDegrees) 12 = .ok (.aload_n 0, 1) := by decide +kernel
theorem qX1_takeDegrees_13 : decode (mB mX1_takeDegrees) 13 = .ok (.iconst 0, 1) := by decide +kernel
theorem qX1_takeDegrees_14 : decode (mB mX1_takeDegrees) 14 = .ok (.bipush 20, 2) := by decide +kernel
theorem qX1_takeDegrees_16 : decode (mB mX1_takeDegrees) 16 = .ok (.invokevirtual 79, 3) := by decide +kernel
theorem qX1_takeDegrees_19 : decode (mB mX1_takeDegrees) 19 = .ok (.ineg, 1) := by decide +kernel
theorem qX1_takeDegrees_20 : decode (mB mX1_takeDegrees) 20 = .ok (.ireturn, 1) := by decide +kernel
theorem qX1_takeDegrees_21 : decode (mB mX1_takeDegrees) 21 = .ok (.aload_n 0, 1) := by decide +kernel
theorem qX1_takeDegrees_22 : decode (mB mX1_takeDegrees) 22 = .ok (.iconst 0, 1) := by decide +kernel
theorem qX1_takeDegrees_23 : decode (mB mX1_takeDegrees) 23 = .ok (.sipush 150, 3) := by decide +kernel
theorem qX1_takeDegrees_26 : decode (mB mX1_takeDegrees) 26 = .ok (.invokevirtual 79, 3) := by decide +kernel
theorem qX1_takeDegrees_29 : decode (mB mX1_takeDegrees) 29 = .ok (.ireturn, 1) := by decide +kernel
theorem qX1_takeKnownName_0 : decode (mB mX1_takeKnownName) 0 = .ok (.aload_n 1, 1) := by decide +kernel
theorem qX1_takeKnownName_1 : decode (mB mX1_takeKnownName) 1 = .ok (.iload_n 2, 1) := by decide +kernel
theorem qX1_takeKnownName_2 : decode (mB mX1_takeKnownName) 2 = .ok (.aload_n 0, 1) := by decide +kernel
theorem qX1_takeKnownName_3 : decode (mB mX1_takeKnownName) 3 = .ok (.invokevirtual 252, 3) := by decide +kernel
theorem qX1_takeKnownName_6 : decode (mB mX1_takeKnownName) 6 = .ok (.invokestatic 255, 3) := by decide +kernel
theorem qX1_takeKnownName_9 : decode (mB mX1_takeKnownName) 9 = .ok (.istore_n 3, 1) := by decide +kernel
theorem qX1_takeKnownName_10 : decode (mB mX1_takeKnownName) 10 = .ok (.aload_n 0, 1) := by decide +kernel
theorem qX1_takeKnownName_11 : decode (mB mX1_takeKnownName) 11 = .ok (.getfield 57, 3) := by decide +kernel
theorem qX1_takeKnownName_14 : decode (mB mX1_takeKnownName) 14 = .ok (.iconst 1, 1) := by decide +kernel
theorem qX1_takeKnownName_15 : decode (mB mX1_takeKnownName) 15 = .ok (.if_icmp .eq 11, 3) := by decide +kernel
theorem qX1_takeKnownName_18 : decode (mB mX1_takeKnownName) 18 = .ok (.aload_n 0, 1) := by decide +kernel
theorem qX1_takeKnownName_19 : decode (mB mX1_takeKnownName) 19 = .ok (.iconst 1, 1) := by decide +kernel
theorem qX1_takeKnownName_20 : decode (mB mX1_takeKnownName) 20 = .ok (.invokevirtual 67, 3) := by decide +kernel
theorem qX1_takeKnownName_23 : decode (mB mX1_takeKnownName) 23 = .ok (.goto 13, 3) := by decide +kernel
theorem qX1_takeKnownName_26 : decode (mB mX1_takeKnownName) 26 = .ok (.iload_n 3, 1) := by decide +kernel
theorem qX1_takeKnownName_27 : decode (mB mX1_takeKnownName) 27 = .ok (.iconst (-1), 1) := by decide +kernel
theorem qX1_takeKnownName_28 : decode (mB mX1_takeKnownName) 28 = .ok (.if_icmp .ne 8, 3) := by decide +kernel
theorem qX1_takeKnownName_31 : decode (mB mX1_takeKnownName) 31 = .ok (.aload_n 0, 1) := by decide +kernel
theorem qX1_takeKnownName_32 : decode (mB mX1_takeKnownName) 32 = .ok (.iconst 4, 1) := by decide +kernel
theorem qX1_takeKnownName_33 : decode (mB mX1_takeKnownName) 33 = .ok (.invokevirtual 67, 3) := by decide +kernel
theorem qX1_takeKnownName_36 : decode (mB mX1_takeKnownName) 36 = .ok (.aload_n 0, 1) := by decide +kernel
theorem qX1_takeKnownName_37 : decode (mB mX1_takeKnownName) 37 = .ok (.invokevirtual 51, 3) := by decide +kernel
theorem qX1_takeKnownName_40 : decode (mB mX1_takeKnownName) 40 = .ok (.iload_n 3, 1) := by decide +kernel
theorem qX1_takeKnownName_41 : decode (mB mX1_takeKnownName) 41 = .ok (.ireturn, 1) := by decide +kernel
theorem qX1_takeNewName_0 : decode (mB mX1_takeNewName) 0 = .ok (.aload_n 0, 1) := by decide +kernel
theorem qX1_takeNewName_1 : decode (mB mX1_takeNewName) 1 = .ok (.invokevirtual 252, 3) := by decide +kernel
theorem qX1_takeNewName_4 : decode (mB mX1_takeNewName) 4 = .ok (.istore_n 1, 1) := by decide +kernel
theorem qX1_takeNewName_5 : decode (mB mX1_takeNewName) 5 = .ok (.aload_n 0, 1) := by decide +kernel
theorem qX1_takeNewName_6 : decode (mB mX1_takeNewName) 6 = .ok (.getfield 57, 3) := by decide +kernel
theorem qX1_takeNewName_9 : decode (mB mX1_takeNewName) 9 = .ok (.iconst 1, 1) := by decide +kernel
theorem qX1_takeNewName_10 : decode (mB mX1_takeNewName) 10 = .ok (.if_icmp .eq 11, 3) := by decide +kernel
theorem qX1_takeNewName_13 : decode (mB mX1_takeNewName) 13 = .ok (.aload_n 0, 1) := by decide +kernel
theorem qX1_takeNewName_14 : decode (mB mX1_takeNewName) 14 = .ok (.iconst 1, 1) := by decide +kernel
theorem qX1_takeNewName_15 : decode (mB mX1_takeNewName) 15 = .ok (.invokevirtual 67, 3) := by decide +kernel
theorem qX1_takeNewName_18 : decode (mB mX1_takeNewName) 18 = .ok (.goto 64, 3) := by decide +kernel
theorem qX1_takeNewName_21 : decode (mB mX1_takeNewName) 21 = .ok (.iload_n 1, 1) := by decide +kernel
theorem qX1_takeNewName_22 : decode (mB mX1_takeNewName) 22 = .ok (.ifCond .ne 11, 3) := by decide +kernel
theorem qX1_takeNewName_25 : decode (mB mX1_takeNewName) 25 = .ok (.aload_n 0, 1) := by decide +kernel
theorem qX1_takeNewName_26 : decode (mB mX1_takeNewName) 26 = .ok (.iconst 2, 1) := by decide +kernel
theorem qX1_takeNewName_27 : decode (mB mX1_takeNewName) 27 = .ok (.invokevirtual 67, 3) := by decide +kernel
theorem qX1_takeNewName_30 : decode (mB mX1_takeNewName) 30 = .ok (.goto 52, 3) := by decide +kernel
theorem qX1_takeNewName_33 : decode (mB mX1_takeNewName) 33 = .ok (.aload_n 0, 1) := by decide +kernel
theorem qX1_takeNewName_34 : decode (mB mX1_takeNewName) 34 = .ok (.getfield 18, 3) := by decide +kernel
theorem qX1_takeNewName_37 : decode (mB mX1_takeNewName) 37 = .ok (.getfield 180, 3) := by decide +kernel
theorem qX1_takeNewName_40 : decode (mB mX1_takeNewName) 40 = .ok (.aload_n 0, 1) := by decide +kernel
theorem qX1_takeNewName_41 : decode (mB mX1_takeNewName) 41 = .ok (.getfield 18, 3) := by decide +kernel
theorem qX1_takeNewName_44 : decode (mB mX1_takeNewName) 44 = .ok (.getfield 98, 3) := by decide +kernel
theorem qX1_takeNewName_47 : decode (mB mX1_takeNewName) 47 = .ok (.iload_n 1, 1) := by decide +kernel
theorem qX1_takeNewName_48 : decode (mB mX1_takeNewName) 48 = .ok (.invokestatic 255, 3) := by decide +kernel
theorem qX1_takeNewName_51 : decode (mB mX1_takeNewName) 51 = .ok (.iconst (-1), 1) := by decide +kernel
theorem qX1_takeNewName_52 : decode (mB mX1_takeNewName) 52 = .ok (.if_icmp .ne 25, 3) := by decide +kernel
theorem qX1_takeNewName_55 : decode (mB mX1_takeNewName) 55 = .ok (.aload_n 0, 1) := by decide +kernel
theorem qX1_takeNewName_56 : decode (mB mX1_takeNewName) 56 = .ok (.getfield 18, 3) := by decide +kernel
theorem qX1_takeNewName_59 : decode (mB mX1_takeNewName) 59 = .ok (.getfield 202, 3) := by decide +kernel
theorem qX1_takeNewName_62 : decode (mB mX1_takeNewName) 62 = .ok (.aload_n 0, 1) := by decide +kernel
theorem qX1_takeNewName_63 : decode (mB mX1_takeNewName) 63 = .ok (.getfield 18, 3) := by decide +kernel
theorem qX1_takeNewName_66 : decode (mB mX1_takeNewName) 66 = .ok (.getfield 110, 3) := by decide +kernel
theorem qX1_takeNewName_69 : decode (mB mX1_takeNewName) 69 = .ok (.iload_n 1, 1) := by decide +kernel
theorem qX1_takeNewName_70 : decode (mB mX1_takeNewName) 70 = .ok (.invokestatic 255, 3) := by decide +kernel
theorem qX1_takeNewName_73 : decode (mB mX1_takeNewName) 73 = .ok (.iconst (-1), 1) := by decide +kernel
theorem qX1_takeNewName_74 : decode (mB mX1_takeNewName) 74 = .ok (.if_icmp .eq 8, 3) := by decide +kernel
theorem qX1_takeNewName_77 : decode (mB mX1_takeNewName) 77 = .ok (.aload_n 0, 1) := by decide +kernel
theorem qX1_takeNewName_78 : decode (mB mX1_takeNewName) 78 = .ok (.iconst 3, 1) := by decide +kernel
theorem qX1_takeNewName_79 : decode (mB mX1_takeNewName) 79 = .ok (.invokevirtual 67, 3) := by decide +kernel
theorem qX1_takeNewName_82 : decode (mB mX1_takeNewName) 82 = .ok (.aload_n 0, 1) := by decide +kernel
theorem qX1_takeNewName_83 : decode (mB mX1_takeNewName) 83 = .ok (.invokevirtual 51, 3) := by decide +kernel
theorem qX1_takeNewName_86 : decode (mB mX1_takeNewName) 86 = .ok (.iload_n 1, 1) := by decide +kernel
theorem qX1_takeNewName_87 : decode (mB mX1_takeNewName) 87 = .ok (.ireturn, 1) := by decide +kernel
theorem qX1_takeNumber_0 : decode (mB mX1_takeNumber) 0 = .ok (.aload_n 0, 1) := by decide +kernel
theorem qX1_takeNumber_1 : decode (mB mX1_takeNumber) 1 = .ok (.invokevirtual 245, 3) := by decide +kernel
theorem qX1_takeNumber_4 : decode (mB mX1_takeNumber) 4 = .ok (.istore_n 3, 1) := by decide +kernel
theorem qX1_takeNumber_5 : decode (mB mX1_takeNumber) 5 = .ok (.aload_n 0, 1) := by decide +kernel
theorem qX1_takeNumber_6 : decode (mB mX1_takeNumber) 6 = .ok (.getfield 57, 3) := by decide +kernel
theorem qX1_takeNumber_9 : decode (mB mX1_takeNumber) 9 = .ok (.iconst 2, 1) := by decide +kernel
theorem qX1_takeNumber_10 : decode (mB mX1_takeNumber) 10 = .ok (.if_icmp .eq 11, 3) := by decide +kernel
theorem qX1_takeNumber_13 : decode (mB mX1_takeNumber) 13 = .ok (.aload_n 0, 1) := by decide +kernel
theorem qX1_takeNumber_14 : decode (mB mX1_takeNumber) 14 = .ok (.iconst 1, 1) := by decide +kernel
theorem qX1_takeNumber_15 : decode (mB mX1_takeNumber) 15 = .ok (.invokevirtual 67, 3) := by decide +kernel
theorem qX1_takeNumber_18 : decode (mB mX1_takeNumber) 18 = .ok (.goto 18, 3) := by decide +kernel
theorem qX1_takeNumber_21 : decode (mB mX1_takeNumber) 21 = .ok (.iload_n 3, 1) := by decide +kernel
theorem qX1_takeNumber_22 : decode (mB mX1_takeNumber) 22 = .ok (.iload_n 1, 1) := by decide +kernel
theorem qX1_takeNumber_23 : decode (mB mX1_takeNumber) 23 = .ok (.if_icmp .lt 8, 3) := by decide +kernel
theorem qX1_takeNumber_26 : decode (mB mX1_takeNumber) 26 = .ok (.iload_n 3, 1) := by decide +kernel
theorem qX1_takeNumber_27 : decode (mB mX1_takeNumber) 27 = .ok (.iload_n 2, 1) := by decide +kernel
theorem qX1_takeNumber_28 : decode (mB mX1_takeNumber) 28 = .ok (.if_icmp .le 8, 3) := by decide +kernel
theorem qX1_takeNumber_31 : decode (mB mX1_takeNumber) 31 = .ok (.aload_n 0, 1) := by decide +kernel
theorem qX1_takeNumber_32 : decode (mB mX1_takeNumber) 32 = .ok (.iconst 2, 1) := by decide +kernel
theorem qX1_takeNumber_33 : decode (mB mX1_takeNumber) 33 = .ok (.invokevirtual 67, 3) := by decide +kernel
theorem qX1_takeNumber_36 : decode (mB mX1_takeNumber) 36 = .ok (.aload_n 0, 1) := by decide +kernel
theorem qX1_takeNumber_37 : decode (mB mX1_takeNumber) 37 = .ok (.invokevirtual 51, 3) := by decide +kernel
theorem qX1_takeNumber_40 : decode (mB mX1_takeNumber) 40 = .ok (.aload_n 0, 1) := by decide +kernel
theorem qX1_takeNumber_41 : decode (mB mX1_takeNumber) 41 = .ok (.getfield 45, 3) := by decide +kernel
theorem qX1_takeNumber_44 : decode (mB mX1_takeNumber) 44 = .ok (.ifCond .ne 7, 3) := by decide +kernel
theorem qX1_takeNumber_47 : decode (mB mX1_takeNumber) 47 = .ok (.iload_n 3, 1) := by decide +kernel
theorem qX1_takeNumber_48 : decode (mB mX1_takeNumber) 48 = .ok (.goto 4, 3) := by decide +kernel
theorem qX1_takeNumber_51 : decode (mB mX1_takeNumber) 51 = .ok (.iconst (-1), 1) := by decide +kernel
theorem qX1_takeNumber_52 : decode (mB mX1_takeNumber) 52 = .ok (.ireturn, 1) := by decide +kernel
theorem qX1_takeRow_0 : decode (mB mX1_takeRow) 0 = .ok (.iload_n 1, 1) := by decide +kernel
theorem qX1_takeRow_1 : decode (mB mX1_takeRow) 1 = .ok (.iload_n 2, 1) := by decide +kernel
theorem qX1_takeRow_2 : decode (mB mX1_takeRow) 2 = .ok (.if_icmp .lt 8, 3) := by decide +kernel
theorem qX1_takeRow_5 : decode (mB mX1_takeRow) 5 = .ok (.aload_n 0, 1) := by decide +kernel
theorem qX1_takeRow_6 : decode (mB mX1_takeRow) 6 = .ok (.iconst 5, 1) := by decide +kernel
theorem qX1_takeRow_7 : decode (mB mX1_takeRow) 7 = .ok (.invokevirtual 67, 3) := by decide +kernel
theorem qX1_takeRow_10 : decode (mB mX1_takeRow) 10 = .ok (.aload_n 0, 1) := by decide +kernel
theorem qX1_takeRow_11 : decode (mB mX1_takeRow) 11 = .ok (.invokevirtual 51, 3) := by decide +kernel
theorem qX1_takeRow_14 : decode (mB mX1_takeRow) 14 = .ok (.return_, 1) := by decide +kernel
theorem qX1_takeSemicolon_0 : decode (mB mX1_takeSemicolon) 0 = .ok (.aload_n 0, 1) := by decide +kernel
theorem qX1_takeSemicolon_1 : decode (mB mX1_takeSemicolon) 1 = .ok (.getfield 57, 3) := by decide +kernel
theorem qX1_takeSemicolon_4 : decode (mB mX1_takeSemicolon) 4 = .ok (.iconst 4, 1) := by decide +kernel
theorem qX1_takeSemicolon_5 : decode (mB mX1_takeSemicolon) 5 = .ok (.if_icmp .eq 11, 3) := by decide +kernel
theorem qX1_takeSemicolon_8 : decode (mB mX1_takeSemicolon) 8 = .ok (.aload_n 0, 1) := by decide +kernel
theorem qX1_takeSemicolon_9 : decode (mB mX1_takeSemicolon) 9 = .ok (.iconst 1, 1) := by decide +kernel
theorem qX1_takeSemicolon_10 : decode (mB mX1_takeSemicolon) 10 = .ok (.invokevirtual 67, 3) := by decide +kernel
theorem qX1_takeSemicolon_13 : decode (mB mX1_takeSemicolon) 13 = .ok (.goto 13, 3) := by decide +kernel
theorem qX1_takeSemicolon_16 : decode (mB mX1_takeSemicolon) 16 = .ok (.iload_n 1, 1) := by decide +kernel
theorem qX1_takeSemicolon_17 : decode (mB mX1_takeSemicolon) 17 = .ok (.ifCond .eq 9, 3) := by decide +kernel
theorem qX1_takeSemicolon_20 : decode (mB mX1_takeSemicolon) 20 = .ok (.aload_n 0, 1) := by decide +kernel
theorem qX1_takeSemicolon_21 : decode (mB mX1_takeSemicolon) 21 = .ok (.bipush 6, 2) := by decide +kernel
theorem qX1_takeSemicolon_23 : decode (mB mX1_takeSemicolon) 23 = .ok (.invokevirtual 67, 3) := by decide +kernel
theorem qX1_takeSemicolon_26 : decode (mB mX1_takeSemicolon) 26 = .ok (.aload_n 0, 1) := by decide +kernel
theorem qX1_takeSemicolon_27 : decode (mB mX1_takeSemicolon) 27 = .ok (.invokevirtual 51, 3) := by decide +kernel
theorem qX1_takeSemicolon_30 : decode (mB mX1_takeSemicolon) 30 = .ok (.aload_n 0, 1) := by decide +kernel
theorem qX1_takeSemicolon_31 : decode (mB mX1_takeSemicolon) 31 = .ok (.getfield 45, 3) := by decide +kernel
theorem qX1_takeSemicolon_34 : decode (mB mX1_takeSemicolon) 34 = .ok (.ifCond .ne 7, 3) := by decide +kernel
theorem qX1_takeSemicolon_37 : decode (mB mX1_takeSemicolon) 37 = .ok (.iconst 1, 1) := by decide +kernel
theorem qX1_takeSemicolon_38 : decode (mB mX1_takeSemicolon) 38 = .ok (.goto 4, 3) := by decide +kernel
theorem qX1_takeSemicolon_41 : decode (mB mX1_takeSemicolon) 41 = .ok (.iconst 0, 1) := by decide +kernel
theorem qX1_takeSemicolon_42 : decode (mB mX1_takeSemicolon) 42 = .ok (.ireturn, 1) := by decide +kernel
theorem qX1_takeTube_0 : decode (mB mX1_takeTube) 0 = .ok (.aload_n 0, 1) := by decide +kernel
theorem qX1_takeTube_1 : decode (mB mX1_takeTube) 1 = .ok (.iconst 0, 1) := by decide +kernel
theorem qX1_takeTube_2 : decode (mB mX1_takeTube) 2 = .ok (.aload_n 0, 1) := by decide +kernel
theorem qX1_takeTube_3 : decode (mB mX1_takeTube) 3 = .ok (.getfield 18, 3) := by decide +kernel
theorem qX1_takeTube_6 : decode (mB mX1_takeTube) 6 = .ok (.getfield 118, 3) := by decide +kernel
theorem qX1_takeTube_9 : decode (mB mX1_takeTube) 9 = .ok (.iconst 1, 1) := by decide +kernel
theorem qX1_takeTube_10 : decode (mB mX1_takeTube) 10 = .ok (.isub, 1) := by decide +kernel
theorem qX1_takeTube_11 : decode (mB mX1_takeTube) 11 = .ok (.invokevirtual 79, 3) := by decide +kernel
theorem qX1_takeTube_14 : decode (mB mX1_takeTube) 14 = .ok (.istore_n 1, 1) := by decide +kernel
theorem qX1_takeTube_15 : decode (mB mX1_takeTube) 15 = .ok (.iload_n 1, 1) := by decide +kernel
theorem qX1_takeTube_16 : decode (mB mX1_takeTube) 16 = .ok (.ifCond .lt 14, 3) := by decide +kernel
theorem qX1_takeTube_19 : decode (mB mX1_takeTube) 19 = .ok (.iload_n 1, 1) := by decide +kernel
theorem qX1_takeTube_20 : decode (mB mX1_takeTube) 20 = .ok (.aload_n 0, 1) := by decide +kernel
theorem qX1_takeTube_21 : decode (mB mX1_takeTube) 21 = .ok (.getfield 18, 3) := by decide +kernel
theorem qX1_takeTube_24 : decode (mB mX1_takeTube) 24 = .ok (.getfield 118, 3) := by decide +kernel
theorem qX1_takeTube_27 : decode (mB mX1_takeTube) 27 = .ok (.if_icmp .lt 5, 3) := by decide +kernel
theorem qX1_takeTube_30 : decode (mB mX1_takeTube) 30 = .ok (.aconst_null, 1) := by decide +kernel
theorem qX1_takeTube_31 : decode (mB mX1_takeTube) 31 = .ok (.areturn, 1) := by decide +kernel
theorem qX1_takeTube_32 : decode (mB mX1_takeTube) 32 = .ok (.aload_n 0, 1) := by decide +kernel
theorem qX1_takeTube_33 : decode (mB mX1_takeTube) 33 = .ok (.getfield 18, 3) := by decide +kernel
theorem qX1_takeTube_36 : decode (mB mX1_takeTube) 36 = .ok (.getfield 248, 3) := by decide +kernel
theorem qX1_takeTube_39 : decode (mB mX1_takeTube) 39 = .ok (.iload_n 1, 1) := by decide +kernel
theorem qX1_takeTube_40 : decode (mB mX1_takeTube) 40 = .ok (.aaload, 1) := by decide +kernel
theorem qX1_takeTube_41 : decode (mB mX1_takeTube) 41 = .ok (.areturn, 1) := by decide +kernel
theorem qX1_takeWord_0 : decode (mB mX1_takeWord) 0 = .ok (.aload_n 0, 1) := by decide +kernel
theorem qX1_takeWord_1 : decode (mB mX1_takeWord) 1 = .ok (.aload_n 1, 1) := by decide +kernel
theorem qX1_takeWord_2 : decode (mB mX1_takeWord) 2 = .ok (.invokevirtual 95, 3) := by decide +kernel
theorem qX1_takeWord_5 : decode (mB mX1_takeWord) 5 = .ok (.istore_n 2, 1) := by decide +kernel
theorem qX1_takeWord_6 : decode (mB mX1_takeWord) 6 = .ok (.iload_n 2, 1) := by decide +kernel
theorem qX1_takeWord_7 : decode (mB mX1_takeWord) 7 = .ok (.ifCond .eq 7, 3) := by decide +kernel
theorem qX1_takeWord_10 : decode (mB mX1_takeWord) 10 = .ok (.aload_n 0, 1) := by decide +kernel
theorem qX1_takeWord_11 : decode (mB mX1_takeWord) 11 = .ok (.invokevirtual 51, 3) := by decide +kernel
theorem qX1_takeWord_14 : decode (mB mX1_takeWord) 14 = .ok (.iload_n 2, 1) := by decide +kernel
theorem qX1_takeWord_15 : decode (mB mX1_takeWord) 15 = .ok (.ireturn, 1) := by decide +kernel
theorem qX1_tokenName_0 : decode (mB mX1_tokenName) 0 = .ok (.aload_n 0, 1) := by decide +kernel
theorem qX1_tokenName_1 : decode (mB mX1_tokenName) 1 = .ok (.getfield 57, 3) := by decide +kernel
theorem qX1_tokenName_4 : decode (mB mX1_tokenName) 4 = .ok (.iconst 1, 1) := by decide +kernel
theorem qX1_tokenName_5 : decode (mB mX1_tokenName) 5 = .ok (.if_icmp .ne 16, 3) := by decide +kernel
theorem qX1_tokenName_8 : decode (mB mX1_tokenName) 8 = .ok (.aload_n 0, 1) := by decide +kernel
theorem qX1_tokenName_9 : decode (mB mX1_tokenName) 9 = .ok (.getfield 48, 3) := by decide +kernel
theorem qX1_tokenName_12 : decode (mB mX1_tokenName) 12 = .ok (.aload_n 0, 1) := by decide +kernel
theorem qX1_tokenName_13 : decode (mB mX1_tokenName) 13 = .ok (.getfield 242, 3) := by decide +kernel
theorem qX1_tokenName_16 : decode (mB mX1_tokenName) 16 = .ok (.isub, 1) := by decide +kernel
theorem qX1_tokenName_17 : decode (mB mX1_tokenName) 17 = .ok (.iconst 4, 1) := by decide +kernel
theorem qX1_tokenName_18 : decode (mB mX1_tokenName) 18 = .ok (.if_icmp .le 5, 3) := by decide +kernel
theorem qX1_tokenName_21 : decode (mB mX1_tokenName) 21 = .ok (.iconst 0, 1) := by decide +kernel
theorem qX1_tokenName_22 : decode (mB mX1_tokenName) 22 = .ok (.ireturn, 1) := by decide +kernel
theorem qX1_tokenName_23 : decode (mB mX1_tokenName) 23 = .ok (.iconst 0, 1) := by decide +kernel
theorem qX1_tokenName_24 : decode (mB mX1_tokenName) 24 = .ok (.istore_n 1, 1) := by decide +kernel
theorem qX1_tokenName_25 : decode (mB mX1_tokenName) 25 = .ok (.aload_n 0, 1) := by decide +kernel
theorem qX1_tokenName_26 : decode (mB mX1_tokenName) 26 = .ok (.getfield 242, 3) := by decide +kernel
theorem qX1_tokenName_29 : decode (mB mX1_tokenName) 29 = .ok (.istore_n 2, 1) := by decide +kernel
theorem qX1_tokenName_30 : decode (mB mX1_tokenName) 30 = .ok (.iload_n 2, 1) := by decide +kernel
theorem qX1_tokenName_31 : decode (mB mX1_tokenName) 31 = .ok (.aload_n 0, 1) := by decide +kernel
theorem qX1_tokenName_32 : decode (mB mX1_tokenName) 32 = .ok (.getfield 48, 3) := by decide +kernel
theorem qX1_tokenName_35 : decode (mB mX1_tokenName) 35 = .ok (.if_icmp .ge 21, 3) := by decide +kernel
theorem qX1_tokenName_38 : decode (mB mX1_tokenName) 38 = .ok (.iload_n 1, 1) := by decide +kernel
theorem qX1_tokenName_39 : decode (mB mX1_tokenName) 39 = .ok (.bipush 8, 2) := by decide +kernel
theorem qX1_tokenName_41 : decode (mB mX1_tokenName) 41 = .ok (.ishl, 1) := by decide +kernel
theorem qX1_tokenName_42 : decode (mB mX1_tokenName) 42 = .ok (.aload_n 0, 1) := by decide +kernel
theorem qX1_tokenName_43 : decode (mB mX1_tokenName) 43 = .ok (.getfield 11, 3) := by decide +kernel
theorem qX1_tokenName_46 : decode (mB mX1_tokenName) 46 = .ok (.iload_n 2, 1) := by decide +kernel
theorem qX1_tokenName_47 : decode (mB mX1_tokenName) 47 = .ok (.baload, 1) := by decide +kernel
theorem qX1_tokenName_48 : decode (mB mX1_tokenName) 48 = .ok (.ior, 1) := by decide +kernel
theorem qX1_tokenName_49 : decode (mB mX1_tokenName) 49 = .ok (.istore_n 1, 1) := by decide +kernel
theorem qX1_tokenName_50 : decode (mB mX1_tokenName) 50 = .ok (.iinc 2 1, 3) := by decide +kernel
theorem qX1_tokenName_53 : decode (mB mX1_tokenName) 53 = .ok (.goto (-23), 3) := by decide +kernel
theorem qX1_tokenName_56 : decode (mB mX1_tokenName) 56 = .ok (.iload_n 1, 1) := by decide +kernel
theorem qX1_tokenName_57 : decode (mB mX1_tokenName) 57 = .ok (.ireturn, 1) := by decide +kernel
theorem qX1_tokenNumber_0 : decode (mB mX1_tokenNumber) 0 = .ok (.aload_n 0, 1) := by decide +kernel
theorem qX1_tokenNumber_1 : decode (mB mX1_tokenNumber) 1 = .ok (.getfield 57, 3) := by decide +kernel
theorem qX1_tokenNumber_4 : decode (mB mX1_tokenNumber) 4 = .ok (.iconst 2, 1) := by decide +kernel
theorem qX1_tokenNumber_5 : decode (mB mX1_tokenNumber) 5 = .ok (.if_icmp .eq 5, 3) := by decide +kernel
theorem qX1_tokenNumber_8 : decode (mB mX1_tokenNumber) 8 = .ok (.iconst (-1), 1) := by decide +kernel
theorem qX1_tokenNumber_9 : decode (mB mX1_tokenNumber) 9 = .ok (.ireturn, 1) := by decide +kernel
theorem qX1_tokenNumber_10 : decode (mB mX1_tokenNumber) 10 = .ok (.iconst 0, 1) := by decide +kernel
theorem qX1_tokenNumber_11 : decode (mB mX1_tokenNumber) 11 = .ok (.istore_n 1, 1) := by decide +kernel
theorem qX1_tokenNumber_12 : decode (mB mX1_tokenNumber) 12 = .ok (.aload_n 0, 1) := by decide +kernel
theorem qX1_tokenNumber_13 : decode (mB mX1_tokenNumber) 13 = .ok (.getfield 242, 3) := by decide +kernel
theorem qX1_tokenNumber_16 : decode (mB mX1_tokenNumber) 16 = .ok (.istore_n 2, 1) := by decide +kernel
theorem qX1_tokenNumber_17 : decode (mB mX1_tokenNumber) 17 = .ok (.iload_n 2, 1) := by decide +kernel
theorem qX1_tokenNumber_18 : decode (mB mX1_tokenNumber) 18 = .ok (.aload_n 0, 1) := by decide +kernel
theorem qX1_tokenNumber_19 : decode (mB mX1_tokenNumber) 19 = .ok (.getfield 48, 3) := by decide +kernel
theorem qX1_tokenNumber_22 : decode (mB mX1_tokenNumber) 22 = .ok (.if_icmp .ge 30, 3) := by decide +kernel
theorem qX1_tokenNumber_25 : decode (mB mX1_tokenNumber) 25 = .ok (.bipush 10, 2) := by decide +kernel
theorem qX1_tokenNumber_27 : decode (mB mX1_tokenNumber) 27 = .ok (.iload_n 1, 1) := by decide +kernel
theorem qX1_tokenNumber_28 : decode (mB mX1_tokenNumber) 28 = .ok (.imul, 1) := by decide +kernel
theorem qX1_tokenNumber_29 : decode (mB mX1_tokenNumber) 29 = .ok (.aload_n 0, 1) := by decide +kernel
theorem qX1_tokenNumber_30 : decode (mB mX1_tokenNumber) 30 = .ok (.getfield 11, 3) := by decide +kernel
theorem qX1_tokenNumber_33 : decode (mB mX1_tokenNumber) 33 = .ok (.iload_n 2, 1) := by decide +kernel
theorem qX1_tokenNumber_34 : decode (mB mX1_tokenNumber) 34 = .ok (.baload, 1) := by decide +kernel
theorem qX1_tokenNumber_35 : decode (mB mX1_tokenNumber) 35 = .ok (.iadd, 1) := by decide +kernel
theorem qX1_tokenNumber_36 : decode (mB mX1_tokenNumber) 36 = .ok (.bipush 48, 2) := by decide +kernel
theorem qX1_tokenNumber_38 : decode (mB mX1_tokenNumber) 38 = .ok (.isub, 1) := by decide +kernel
theorem qX1_tokenNumber_39 : decode (mB mX1_tokenNumber) 39 = .ok (.ldc_w 263, 3) := by decide +kernel
theorem qX1_tokenNumber_42 : decode (mB mX1_tokenNumber) 42 = .ok (.invokestatic 264, 3) := by decide +kernel
theorem qX1_tokenNumber_45 : decode (mB mX1_tokenNumber) 45 = .ok (.istore_n 1, 1) := by decide +kernel
theorem qX1_tokenNumber_46 : decode (mB mX1_tokenNumber) 46 = .ok (.iinc 2 1, 3) := by decide +kernel
theorem qX1_tokenNumber_49 : decode (mB mX1_tokenNumber) 49 = .ok (.goto (-32), 3) := by decide +kernel
theorem qX1_tokenNumber_52 : decode (mB mX1_tokenNumber) 52 = .ok (.iload_n 1, 1) := by decide +kernel
theorem qX1_tokenNumber_53 : decode (mB mX1_tokenNumber) 53 = .ok (.ireturn, 1) := by decide +kernel
theorem qX2_addPoint_0 : decode (mB mX2_addPoint) 0 = .ok (.aload_n 0, 1) := by decide +kernel
theorem qX2_addPoint_1 : decode (mB mX2_addPoint) 1 = .ok (.getfield 34, 3) := by decide +kernel
theorem qX2_addPoint_4 : decode (mB mX2_addPoint) 4 = .ok (.bipush 6, 2) := by decide +kernel
theorem qX2_addPoint_6 : decode (mB mX2_addPoint) 6 = .ok (.if_icmp .ge 33, 3) := by decide +kernel
theorem qX2_addPoint_9 : decode (mB mX2_addPoint) 9 = .ok (.aload_n 0, 1) := by decide +kernel
theorem qX2_addPoint_10 : decode (mB mX2_addPoint) 10 = .ok (.getfield 15, 3) := by decide +kernel
theorem qX2_addPoint_13 : decode (mB mX2_addPoint) 13 = .ok (.aload_n 0, 1) := by decide +kernel
theorem qX2_addPoint_14 : decode (mB mX2_addPoint) 14 = .ok (.getfield 34, 3) := by decide +kernel
theorem qX2_addPoint_17 : decode (mB mX2_addPoint) 17 = .ok (.iload_n 1, 1) := by decide +kernel
theorem qX2_addPoint_18 : decode (mB mX2_addPoint) 18 = .ok (.iastore, 1) := by decide +kernel
theorem qX2_addPoint_19 : decode (mB mX2_addPoint) 19 = .ok (.aload_n 0, 1) := by decide +kernel
theorem qX2_addPoint_20 : decode (mB mX2_addPoint) 20 = .ok (.getfield 19, 3) := by decide +kernel
theorem qX2_addPoint_23 : decode (mB mX2_addPoint) 23 = .ok (.aload_n 0, 1) := by decide +kernel
theorem qX2_addPoint_24 : decode (mB mX2_addPoint) 24 = .ok (.getfield 34, 3) := by decide +kernel
theorem qX2_addPoint_27 : decode (mB mX2_addPoint) 27 = .ok (.iload_n 2, 1) := by decide +kernel
theorem qX2_addPoint_28 : decode (mB mX2_addPoint) 28 = .ok (.iastore, 1) := by decide +kernel
theorem qX2_addPoint_29 : decode (mB mX2_addPoint) 29 = .ok (.aload_n 0, 1) := by decide +kernel
theorem qX2_addPoint_30 : decode (mB mX2_addPoint) 30 = .ok (.dup, 1) := by decide +kernel
theorem qX2_addPoint_31 : decode (mB mX2_addPoint) 31 = .ok (.getfield 34, 3) := by decide +kernel
theorem qX2_addPoint_34 : decode (mB mX2_addPoint) 34 = .ok (.iconst 1, 1) := by decide +kernel
theorem qX2_addPoint_35 : decode (mB mX2_addPoint) 35 = .ok (.iadd, 1) := by decide +kernel
theorem qX2_addPoint_36 : decode (mB mX2_addPoint) 36 = .ok (.putfield 34, 3) := by decide +kernel
theorem qX2_addPoint_39 : decode (mB mX2_addPoint) 39 = .ok (.return_, 1) := by decide +kernel
theorem qX2_addSpirit_0 : decode (mB mX2_addSpirit) 0 = .ok (.aload_n 0, 1) := by decide +kernel
theorem qX2_addSpirit_1 : decode (mB mX2_addSpirit) 1 = .ok (.dup, 1) := by decide +kernel
theorem qX2_addSpirit_2 : decode (mB mX2_addSpirit) 2 = .ok (.getfield 52, 3) := by decide +kernel
theorem qX2_addSpirit_5 : decode (mB mX2_addSpirit) 5 = .ok (.iload_n 1, 1) := by decide +kernel
theorem qX2_addSpirit_6 : decode (mB mX2_addSpirit) 6 = .ok (.iadd, 1) := by decide +kernel
theorem qX2_addSpirit_7 : decode (mB mX2_addSpirit) 7 = .ok (.putfield 52, 3) := by decide +kernel
theorem qX2_addSpirit_10 : decode (mB mX2_addSpirit) 10 = .ok (.aload_n 0, 1) := by decide +kernel
theorem qX2_addSpirit_11 : decode (mB mX2_addSpirit) 11 = .ok (.dup, 1) := by decide +kernel
theorem qX2_addSpirit_12 : decode (mB mX2_addSpirit) 12 = .ok (.getfield 62, 3) := by decide +kernel
theorem qX2_addSpirit_15 : decode (mB mX2_addSpirit) 15 = .ok (.iload_n 1, 1) := by decide +kernel
theorem qX2_addSpirit_16 : decode (mB mX2_addSpirit) 16 = .ok (.iadd, 1) := by decide +kernel
theorem qX2_addSpirit_17 : decode (mB mX2_addSpirit) 17 = .ok (.putfield 62, 3) := by decide +kernel
theorem qX2_addSpirit_20 : decode (mB mX2_addSpirit) 20 = .ok (.return_, 1) := by decide +kernel
theorem qX2_copyFrom_0 : decode (mB mX2_copyFrom) 0 = .ok (.aload_n 1, 1) := by decide +kernel
theorem qX2_copyFrom_1 : decode (mB mX2_copyFrom) 1 = .ok (.getfield 15, 3) := by decide +kernel
theorem qX2_copyFrom_4 : decode (mB mX2_copyFrom) 4 = .ok (.iconst 0, 1) := by decide +kernel
theorem qX2_copyFrom_5 : decode (mB mX2_copyFrom) 5 = .ok (.aload_n 0, 1) := by decide +kernel
theorem qX2_copyFrom_6 : decode (mB mX2_copyFrom) 6 = .ok (.getfield 15, 3) := by decide +kernel
theorem qX2_copyFrom_9 : decode (mB mX2_copyFrom) 9 = .ok (.iconst 0, 1) := by decide +kernel
theorem qX2_copyFrom_10 : decode (mB mX2_copyFrom) 10 = .ok (.bipush 6, 2) := by decide +kernel
theorem qX2_copyFrom_12 : decode (mB mX2_copyFrom) 12 = .ok (.invokestatic 28, 3) := by decide +kernel
theorem qX2_copyFrom_15 : decode (mB mX2_copyFrom) 15 = .ok (.aload_n 1, 1) := by decide +kernel
theorem qX2_copyFrom_16 : decode (mB mX2_copyFrom) 16 = .ok (.getfield 19, 3) := by decide +kernel
theorem qX2_copyFrom_19 : decode (mB mX2_copyFrom) 19 = .ok (.iconst 0, 1) := by decide +kernel
theorem qX2_copyFrom_20 : decode (mB mX2_copyFrom) 20 = .ok (.aload_n 0, 1) := by decide +kernel
theorem qX2_copyFrom_21 : decode (mB mX2_copyFrom) 21 = .ok (.getfield 19, 3) := by decide +kernel
theorem qX2_copyFrom_24 : decode (mB mX2_copyFrom) 24 = .ok (.iconst 0, 1) := by decide +kernel
theorem qX2_copyFrom_25 : decode (mB mX2_copyFrom) 25 = .ok (.bipush 6, 2) := by decide +kernel
theorem qX2_copyFrom_27 : decode (mB mX2_copyFrom) 27 = .ok (.invokestatic 28, 3) := by decide +kernel
theorem qX2_copyFrom_30 : decode (mB mX2_copyFrom) 30 = .ok (.aload_n 0, 1) := by decide +kernel
theorem qX2_copyFrom_31 : decode (mB mX2_copyFrom) 31 = .ok (.aload_n 1, 1) := by decide +kernel
theorem qX2_copyFrom_32 : decode (mB mX2_copyFrom) 32 = .ok (.getfield 34, 3) := by decide +kernel
theorem qX2_copyFrom_35 : decode (mB mX2_copyFrom) 35 = .ok (.putfield 34, 3) := by decide +kernel
theorem qX2_copyFrom_38 : decode (mB mX2_copyFrom) 38 = .ok (.aload_n 0, 1) := by decide +kernel
theorem qX2_copyFrom_39 : decode (mB mX2_copyFrom) 39 = .ok (.aload_n 1, 1) := by decide +kernel
theorem qX2_copyFrom_40 : decode (mB mX2_copyFrom) 40 = .ok (.getfield 37, 3) := by decide +kernel
theorem qX2_copyFrom_43 : decode (mB mX2_copyFrom) 43 = .ok (.putfield 37, 3) := by decide +kernel
theorem qX2_copyFrom_46 : decode (mB mX2_copyFrom) 46 = .ok (.aload_n 0, 1) := by decide +kernel
theorem qX2_copyFrom_47 : decode (mB mX2_copyFrom) 47 = .ok (.aload_n 1, 1) := by decide +kernel
theorem qX2_copyFrom_48 : decode (mB mX2_copyFrom) 48 = .ok (.getfield 40, 3) := by decide +kernel
theorem qX2_copyFrom_51 : decode (mB mX2_copyFrom) 51 = .ok (.putfield 40, 3) := by decide +kernel
theorem qX2_copyFrom_54 : decode (mB mX2_copyFrom) 54 = .ok (.aload_n 0, 1) := by decide +kernel
theorem qX2_copyFrom_55 : decode (mB mX2_copyFrom) 55 = .ok (.aload_n 1, 1) := by decide +kernel
theorem qX2_copyFrom_56 : decode (mB mX2_copyFrom) 56 = .ok (.getfield 43, 3) := by decide +kernel
theorem qX2_copyFrom_59 : decode (mB mX2_copyFrom) 59 = .ok (.putfield 43, 3) := by decide +kernel
theorem qX2_copyFrom_62 : decode (mB mX2_copyFrom) 62 = .ok (.aload_n 0, 1) := by decide +kernel
theorem qX2_copyFrom_63 : decode (mB mX2_copyFrom) 63 = .ok (.aload_n 1, 1) := by decide +kernel
theorem qX2_copyFrom_64 : decode (mB mX2_copyFrom) 64 = .ok (.getfield 46, 3) := by decide +kernel
theorem qX2_copyFrom_67 : decode (mB mX2_copyFrom) 67 = .ok (.putfield 46, 3) := by decide +kernel
theorem qX2_copyFrom_70 : decode (mB mX2_copyFrom) 70 = .ok (.aload_n 0, 1) := by decide +kernel
theorem qX2_copyFrom_71 : decode (mB mX2_copyFrom) 71 = .ok (.aload_n 1, 1) := by decide +kernel
theorem qX2_copyFrom_72 : decode (mB mX2_copyFrom) 72 = .ok (.getfield 22, 3) := by decide +kernel
theorem qX2_copyFrom_75 : decode (mB mX2_copyFrom) 75 = .ok (.putfield 22, 3) := by decide +kernel
theorem qX2_copyFrom_78 : decode (mB mX2_copyFrom) 78 = .ok (.aload_n 0, 1) := by decide +kernel
theorem qX2_copyFrom_79 : decode (mB mX2_copyFrom) 79 = .ok (.aload_n 1, 1) := by decide +kernel
theorem qX2_copyFrom_80 : decode (mB mX2_copyFrom) 80 = .ok (.getfield 49, 3) := by decide +kernel
theorem qX2_copyFrom_83 : decode (mB mX2_copyFrom) 83 = .ok (.putfield 49, 3) := by decide +kernel
theorem qX2_copyFrom_86 : decode (mB mX2_copyFrom) 86 = .ok (.aload_n 0, 1) := by decide +kernel
theorem qX2_copyFrom_87 : decode (mB mX2_copyFrom) 87 = .ok (.aload_n 1, 1) := by decide +kernel
theorem qX2_copyFrom_88 : decode (mB mX2_copyFrom) 88 = .ok (.getfield 52, 3) := by decide +kernel
theorem qX2_copyFrom_91 : decode (mB mX2_copyFrom) 91 = .ok (.putfield 52, 3) := by decide +kernel
theorem qX2_copyFrom_94 : decode (mB mX2_copyFrom) 94 = .ok (.aload_n 0, 1) := by decide +kernel
theorem qX2_copyFrom_95 : decode (mB mX2_copyFrom) 95 = .ok (.aload_n 1, 1) := by decide +kernel
theorem qX2_copyFrom_96 : decode (mB mX2_copyFrom) 96 = .ok (.getfield 55, 3) := by decide +kernel
theorem qX2_copyFrom_99 : decode (mB mX2_copyFrom) 99 = .ok (.putfield 55, 3) := by decide +kernel
theorem qX2_copyFrom_102 : decode (mB mX2_copyFrom) 102 = .ok (.aload_n 0, 1) := by decide +kernel
theorem qX2_copyFrom_103 : decode (mB mX2_copyFrom) 103 = .ok (.aload_n 1, 1) := by decide +kernel
theorem qX2_copyFrom_104 : decode (mB mX2_copyFrom) 104 = .ok (.getfield 25, 3) := by decide +kernel
theorem qX2_copyFrom_107 : decode (mB mX2_copyFrom) 107 = .ok (.putfield 25, 3) := by decide +kernel
theorem qX2_copyFrom_110 : decode (mB mX2_copyFrom) 110 = .ok (.aload_n 0, 1) := by decide +kernel
theorem qX2_copyFrom_111 : decode (mB mX2_copyFrom) 111 = .ok (.aload_n 1, 1) := by decide +kernel
theorem qX2_copyFrom_112 : decode (mB mX2_copyFrom) 112 = .ok (.getfield 58, 3) := by decide +kernel
theorem qX2_copyFrom_115 : decode (mB mX2_copyFrom) 115 = .ok (.putfield 58, 3) := by decide +kernel
theorem qX2_copyFrom_118 : decode (mB mX2_copyFrom) 118 = .ok (.aload_n 0, 1) := by decide +kernel
theorem qX2_copyFrom_119 : decode (mB mX2_copyFrom) 119 = .ok (.aload_n 1, 1) := by decide +kernel
theorem qX2_copyFrom_120 : decode (mB mX2_copyFrom) 120 = .ok (.getfield 62, 3) := by decide +kernel
theorem qX2_copyFrom_123 : decode (mB mX2_copyFrom) 123 = .ok (.putfield 62, 3) := by decide +kernel
theorem qX2_copyFrom_126 : decode (mB mX2_copyFrom) 126 = .ok (.aload_n 0, 1) := by decide +kernel
theorem qX2_copyFrom_127 : decode (mB mX2_copyFrom) 127 = .ok (.aload_n 1, 1) := by decide +kernel
theorem qX2_copyFrom_128 : decode (mB mX2_copyFrom) 128 = .ok (.getfield 65, 3) := by decide +kernel
theorem qX2_copyFrom_131 : decode (mB mX2_copyFrom) 131 = .ok (.putfield 65, 3) := by decide +kernel
theorem qX2_copyFrom_134 : decode (mB mX2_copyFrom) 134 = .ok (.aload_n 0, 1) := by decide +kernel
theorem qX2_copyFrom_135 : decode (mB mX2_copyFrom) 135 = .ok (.aload_n 1, 1) := by decide +kernel
theorem qX2_copyFrom_136 : decode (mB mX2_copyFrom) 136 = .ok (.getfield 68, 3) := by decide +kernel
theorem qX2_copyFrom_139 : decode (mB mX2_copyFrom) 139 = .ok (.putfield 68, 3) := by decide +kernel
theorem qX2_copyFrom_142 : decode (mB mX2_copyFrom) 142 = .ok (.return_, 1) := by decide +kernel
theorem qX2_describe_0 : decode (mB mX2_describe) 0 = .ok (.aload_n 0, 1) := by decide +kernel
theorem qX2_describe_1 : decode (mB mX2_describe) 1 = .ok (.iload_n 1, 1) := by decide +kernel
theorem qX2_describe_2 : decode (mB mX2_describe) 2 = .ok (.putfield 46, 3) := by decide +kernel
theorem qX2_describe_5 : decode (mB mX2_describe) 5 = .ok (.aload_n 0, 1) := by decide +kernel
theorem qX2_describe_6 : decode (mB mX2_describe) 6 = .ok (.iload_n 2, 1) := by decide +kernel
theorem qX2_describe_7 : decode (mB mX2_describe) 7 = .ok (.putfield 22, 3) := by decide +kernel
theorem qX2_describe_10 : decode (mB mX2_describe) 10 = .ok (.aload_n 0, 1) := by decide +kernel
theorem qX2_describe_11 : decode (mB mX2_describe) 11 = .ok (.iload_n 3, 1) := by decide +kernel
theorem qX2_describe_12 : decode (mB mX2_describe) 12 = .ok (.putfield 49, 3) := by decide +kernel
theorem qX2_describe_15 : decode (mB mX2_describe) 15 = .ok (.aload_n 0, 1) := by decide +kernel
theorem qX2_describe_16 : decode (mB mX2_describe) 16 = .ok (.iload 4, 2) := by decide +kernel
theorem qX2_describe_18 : decode (mB mX2_describe) 18 = .ok (.putfield 52, 3) := by decide +kernel
theorem qX2_describe_21 : decode (mB mX2_describe) 21 = .ok (.aload_n 0, 1) := by decide +kernel
theorem qX2_describe_22 : decode (mB mX2_describe) 22 = .ok (.iload 4, 2) := by decide +kernel
theorem qX2_describe_24 : decode (mB mX2_describe) 24 = .ok (.putfield 62, 3) := by decide +kernel
theorem qX2_describe_27 : decode (mB mX2_describe) 27 = .ok (.aload_n 0, 1) := by decide +kernel
theorem qX2_describe_28 : decode (mB mX2_describe) 28 = .ok (.iload 5, 2) := by decide +kernel
theorem qX2_describe_30 : decode (mB mX2_describe) 30 = .ok (.putfield 55, 3) := by decide +kernel
theorem qX2_describe_33 : decode (mB mX2_describe) 33 = .ok (.aload_n 0, 1) := by decide +kernel
theorem qX2_describe_34 : decode (mB mX2_describe) 34 = .ok (.iconst 0, 1) := by decide +kernel
theorem qX2_describe_35 : decode (mB mX2_describe) 35 = .ok (.putfield 34, 3) := by decide +kernel
theorem qX2_describe_38 : decode (mB mX2_describe) 38 = .ok (.aload_n 0, 1) := by decide +kernel
theorem qX2_describe_39 : decode (mB mX2_describe) 39 = .ok (.iconst (-1), 1) := by decide +kernel
theorem qX2_describe_40 : decode (mB mX2_describe) 40 = .ok (.putfield 25, 3) := by decide +kernel
theorem qX2_describe_43 : decode (mB mX2_describe) 43 = .ok (.aload_n 0, 1) := by decide +kernel
theorem qX2_describe_44 : decode (mB mX2_describe) 44 = .ok (.iconst 0, 1) := by decide +kernel
theorem qX2_describe_45 : decode (mB mX2_describe) 45 = .ok (.putfield 58, 3) := by decide +kernel
theorem qX2_describe_48 : decode (mB mX2_describe) 48 = .ok (.aload_n 0, 1) := by decide +kernel
theorem qX2_describe_49 : decode (mB mX2_describe) 49 = .ok (.iconst 0, 1) := by decide +kernel
theorem qX2_describe_50 : decode (mB mX2_describe) 50 = .ok (.putfield 65, 3) := by decide +kernel
theorem qX2_describe_53 : decode (mB mX2_describe) 53 = .ok (.aload_n 0, 1) := by decide +kernel
theorem qX2_describe_54 : decode (mB mX2_describe) 54 = .ok (.iconst 0, 1) := by decide +kernel
theorem qX2_describe_55 : decode (mB mX2_describe) 55 = .ok (.putfield 68, 3) := by decide +kernel
theorem qX2_describe_58 : decode (mB mX2_describe) 58 = .ok (.return_, 1) := by decide +kernel
theorem qX2_freeHeight_0 : decode (mB mX2_freeHeight) 0 = .ok (.aload_n 0, 1) := by decide +kernel
theorem qX2_freeHeight_1 : decode (mB mX2_freeHeight) 1 = .ok (.getfield 22, 3) := by decide +kernel
theorem qX2_freeHeight_4 : decode (mB mX2_freeHeight) 4 = .ok (.sipush 1000, 3) := by decide +kernel
theorem qX2_freeHeight_7 : decode (mB mX2_freeHeight) 7 = .ok (.imul, 1) := by decide +kernel
theorem qX2_freeHeight_8 : decode (mB mX2_freeHeight) 8 = .ok (.istore_n 2, 1) := by decide +kernel
theorem qX2_freeHeight_9 : decode (mB mX2_freeHeight) 9 = .ok (.iload_n 2, 1) := by decide +kernel
theorem qX2_freeHeight_10 : decode (mB mX2_freeHeight) 10 = .ok (.ifCond .gt 8, 3) := by decide +kernel
theorem qX2_freeHeight_13 : decode (mB mX2_freeHeight) 13 = .ok (.aload_n 0, 1) := by decide +kernel
theorem qX2_freeHeight_14 : decode (mB mX2_freeHeight) 14 = .ok (.getfield 52, 3) := by decide +kernel
theorem qX2_freeHeight_17 : decode (mB mX2_freeHeight) 17 = .ok (.ireturn, 1) := by decide +kernel
theorem qX2_freeHeight_18 : decode (mB mX2_freeHeight) 18 = .ok (.aload_n 0, 1) := by decide +kernel
theorem qX2_freeHeight_19 : decode (mB mX2_freeHeight) 19 = .ok (.getfield 52, 3) := by decide +kernel
theorem qX2_freeHeight_22 : decode (mB mX2_freeHeight) 22 = .ok (.aload_n 0, 1) := by decide +kernel
theorem qX2_freeHeight_23 : decode (mB mX2_freeHeight) 23 = .ok (.getfield 46, 3) := by decide +kernel
theorem qX2_freeHeight_26 : decode (mB mX2_freeHeight) 26 = .ok (.aload_n 0, 1) := by decide +kernel
theorem qX2_freeHeight_27 : decode (mB mX2_freeHeight) 27 = .ok (.getfield 43, 3) := by decide +kernel
theorem qX2_freeHeight_30 : decode (mB mX2_freeHeight) 30 = .ok (.imul, 1) := by decide +kernel
theorem qX2_freeHeight_31 : decode (mB mX2_freeHeight) 31 = .ok (.iload_n 1, 1) := by decide +kernel
theorem qX2_freeHeight_32 : decode (mB mX2_freeHeight) 32 = .ok (.sipush 300, 3) := by decide +kernel
theorem qX2_freeHeight_35 : decode (mB mX2_freeHeight) 35 = .ok (.iadd, 1) := by decide +kernel
theorem qX2_freeHeight_36 : decode (mB mX2_freeHeight) 36 = .ok (.imul, 1) := by decide +kernel
theorem qX2_freeHeight_37 : decode (mB mX2_freeHeight) 37 = .ok (.iload_n 2, 1) := by decide +kernel
theorem qX2_freeHeight_38 : decode (mB mX2_freeHeight) 38 = .ok (.idiv, 1) := by decide +kernel
theorem qX2_freeHeight_39 : decode (mB mX2_freeHeight) 39 = .ok (.iadd, 1) := by decide +kernel
theorem qX2_freeHeight_40 : decode (mB mX2_freeHeight) 40 = .ok (.ireturn, 1) := by decide +kernel
theorem qX2_greatestMisfit_0 : decode (mB mX2_greatestMisfit) 0 = .ok (.iconst 0, 1) := by decide +kernel
theorem qX2_greatestMisfit_1 : decode (mB mX2_greatestMisfit) 1 = .ok (.istore_n 1, 1) := by decide +kernel
theorem qX2_greatestMisfit_2 : decode (mB mX2_greatestMisfit) 2 = .ok (.iconst 0, 1) := by decide +kernel
theorem qX2_greatestMisfit_3 : decode (mB mX2_greatestMisfit) 3 = .ok (.istore_n 2, 1) := by decide +kernel
theorem qX2_greatestMisfit_4 : decode (mB mX2_greatestMisfit) 4 = .ok (.iload_n 2, 1) := by decide +kernel
theorem qX2_greatestMisfit_5 : decode (mB mX2_greatestMisfit) 5 = .ok (.aload_n 0, 1) := by decide +kernel
theorem qX2_greatestMisfit_6 : decode (mB mX2_greatestMisfit) 6 = .ok (.getfield 34, 3) := by decide +kernel
theorem qX2_greatestMisfit_9 : decode (mB mX2_greatestMisfit) 9 = .ok (.if_icmp .ge 19, 3) := by decide +kernel
theorem qX2_greatestMisfit_12 : decode (mB mX2_greatestMisfit) 12 = .ok (.iload_n 1, 1) := by decide +kernel
theorem qX2_greatestMisfit_13 : decode (mB mX2_greatestMisfit) 13 = .ok (.aload_n 0, 1) := by decide +kernel
theorem qX2_greatestMisfit_14 : decode (mB mX2_greatestMisfit) 14 = .ok (.iload_n 2, 1) := by decide +kernel
theorem qX2_greatestMisfit_15 : decode (mB mX2_greatestMisfit) 15 = .ok (.invokevirtual 97, 3) := by decide +kernel
theorem qX2_greatestMisfit_18 : decode (mB mX2_greatestMisfit) 18 = .ok (.invokestatic 100, 3) := by decide +kernel
theorem qX2_greatestMisfit_21 : decode (mB mX2_greatestMisfit) 21 = .ok (.istore_n 1, 1) := by decide +kernel
theorem qX2_greatestMisfit_22 : decode (mB mX2_greatestMisfit) 22 = .ok (.iinc 2 1, 3) := by decide +kernel
theorem qX2_greatestMisfit_25 : decode (mB mX2_greatestMisfit) 25 = .ok (.goto (-21), 3) := by decide +kernel
theorem qX2_greatestMisfit_28 : decode (mB mX2_greatestMisfit) 28 = .ok (.iload_n 1, 1) := by decide +kernel
theorem qX2_greatestMisfit_29 : decode (mB mX2_greatestMisfit) 29 = .ok (.ireturn, 1) := by decide +kernel
theorem qX2_hasPointOfDegrees_0 : decode (mB mX2_hasPointOfDegrees) 0 = .ok (.iconst 0, 1) := by decide +kernel
theorem qX2_hasPointOfDegrees_1 : decode (mB mX2_hasPointOfDegrees) 1 = .ok (.istore_n 2, 1) := by decide +kernel
theorem qX2_hasPointOfDegrees_2 : decode (mB mX2_hasPointOfDegrees) 2 = .ok (.iload_n 2, 1) := by decide +kernel
theorem qX2_hasPointOfDegrees_3 : decode (mB mX2_hasPointOfDegrees) 3 = .ok (.aload_n 0, 1) := by decide +kernel
theorem qX2_hasPointOfDegrees_4 : decode (mB mX2_hasPointOfDegrees) 4 = .ok (.getfield 34, 3) := by decide +kernel
theorem qX2_hasPointOfDegrees_7 : decode (mB mX2_hasPointOfDegrees) 7 = .ok (.if_icmp .ge 21, 3) := by decide +kernel
theorem qX2_hasPointOfDegrees_10 : decode (mB mX2_hasPointOfDegrees) 10 = .ok (.aload_n 0, 1) := by decide +kernel
theorem qX2_hasPointOfDegrees_11 : decode (mB mX2_hasPointOfDegrees) 11 = .ok (.getfield 15, 3) := by decide +kernel
theorem qX2_hasPointOfDegrees_14 : decode (mB mX2_hasPointOfDegrees) 14 = .ok (.iload_n 2, 1) := by decide +kernel
theorem qX2_hasPointOfDegrees_15 : decode (mB mX2_hasPointOfDegrees) 15 = .ok (.iaload, 1) := by decide +kernel
theorem qX2_hasPointOfDegrees_16 : decode (mB mX2_hasPointOfDegrees) 16 = .ok (.iload_n 1, 1) := by decide +kernel
theorem qX2_hasPointOfDegrees_17 : decode (mB mX2_hasPointOfDegrees) 17 = .ok (.if_icmp .ne 5, 3) := by decide +kernel
theorem qX2_hasPointOfDegrees_20 : decode (mB mX2_hasPointOfDegrees) 20 = .ok (.iconst 1, 1) := by decide +kernel
theorem qX2_hasPointOfDegrees_21 : decode (mB mX2_hasPointOfDegrees) 21 = .ok (.ireturn, 1) := by decide +kernel
theorem qX2_hasPointOfDegrees_22 : decode (mB mX2_hasPointOfDegrees) 22 = .ok (.iinc 2 1, 3) := by decide +kernel
theorem qX2_hasPointOfDegrees_25 : decode (mB mX2_hasPointOfDegrees) 25 = .ok (.goto (-23), 3) := by decide +kernel
theorem qX2_hasPointOfDegrees_28 : decode (mB mX2_hasPointOfDegrees) 28 = .ok (.iconst 0, 1) := by decide +kernel
theorem qX2_hasPointOfDegrees_29 : decode (mB mX2_hasPointOfDegrees) 29 = .ok (.ireturn, 1) := by decide +kernel
theorem qX2_hasPointOfHeight_0 : decode (mB mX2_hasPointOfHeight) 0 = .ok (.iconst 0, 1) := by decide +kernel
theorem qX2_hasPointOfHeight_1 : decode (mB mX2_hasPointOfHeight) 1 = .ok (.istore_n 2, 1) := by decide +kernel
theorem qX2_hasPointOfHeight_2 : decode (mB mX2_hasPointOfHeight) 2 = .ok (.iload_n 2, 1) := by decide +kernel
theorem qX2_hasPointOfHeight_3 : decode (mB mX2_hasPointOfHeight) 3 = .ok (.aload_n 0, 1) := by decide +kernel
theorem qX2_hasPointOfHeight_4 : decode (mB mX2_hasPointOfHeight) 4 = .ok (.getfield 34, 3) := by decide +kernel
theorem qX2_hasPointOfHeight_7 : decode (mB mX2_hasPointOfHeight) 7 = .ok (.if_icmp .ge 21, 3) := by decide +kernel
theorem qX2_hasPointOfHeight_10 : decode (mB mX2_hasPointOfHeight) 10 = .ok (.aload_n 0, 1) := by decide +kernel
theorem qX2_hasPointOfHeight_11 : decode (mB mX2_hasPointOfHeight) 11 = .ok (.getfield 19, 3) := by decide +kernel
theorem qX2_hasPointOfHeight_14 : decode (mB mX2_hasPointOfHeight) 14 = .ok (.iload_n 2, 1) := by decide +kernel
theorem qX2_hasPointOfHeight_15 : decode (mB mX2_hasPointOfHeight) 15 = .ok (.iaload, 1) := by decide +kernel
theorem qX2_hasPointOfHeight_16 : decode (mB mX2_hasPointOfHeight) 16 = .ok (.iload_n 1, 1) := by decide +kernel
theorem qX2_hasPointOfHeight_17 : decode (mB mX2_hasPointOfHeight) 17 = .ok (.if_icmp .ne 5, 3) := by decide +kernel
theorem qX2_hasPointOfHeight_20 : decode (mB mX2_hasPointOfHeight) 20 = .ok (.iconst 1, 1) := by decide +kernel
theorem qX2_hasPointOfHeight_21 : decode (mB mX2_hasPointOfHeight) 21 = .ok (.ireturn, 1) := by decide +kernel
theorem qX2_hasPointOfHeight_22 : decode (mB mX2_hasPointOfHeight) 22 = .ok (.iinc 2 1, 3) := by decide +kernel
theorem qX2_hasPointOfHeight_25 : decode (mB mX2_hasPointOfHeight) 25 = .ok (.goto (-23), 3) := by decide +kernel
theorem qX2_hasPointOfHeight_28 : decode (mB mX2_hasPointOfHeight) 28 = .ok (.iconst 0, 1) := by decide +kernel
theorem qX2_hasPointOfHeight_29 : decode (mB mX2_hasPointOfHeight) 29 = .ok (.ireturn, 1) := by decide +kernel
theorem qX2_holdSpirit_0 : decode (mB mX2_holdSpirit) 0 = .ok (.aload_n 0, 1) := by decide +kernel
theorem qX2_holdSpirit_1 : decode (mB mX2_holdSpirit) 1 = .ok (.iload_n 1, 1) := by decide +kernel
theorem qX2_holdSpirit_2 : decode (mB mX2_holdSpirit) 2 = .ok (.putfield 37, 3) := by decide +kernel
theorem qX2_holdSpirit_5 : decode (mB mX2_holdSpirit) 5 = .ok (.aload_n 0, 1) := by decide +kernel
theorem qX2_holdSpirit_6 : decode (mB mX2_holdSpirit) 6 = .ok (.iload_n 2, 1) := by decide +kernel
theorem qX2_holdSpirit_7 : decode (mB mX2_holdSpirit) 7 = .ok (.putfield 40, 3) := by decide +kernel
theorem qX2_holdSpirit_10 : decode (mB mX2_holdSpirit) 10 = .ok (.aload_n 0, 1) := by decide +kernel
theorem qX2_holdSpirit_11 : decode (mB mX2_holdSpirit) 11 = .ok (.iload_n 3, 1) := by decide +kernel
theorem qX2_holdSpirit_12 : decode (mB mX2_holdSpirit) 12 = .ok (.putfield 43, 3) := by decide +kernel
theorem qX2_holdSpirit_15 : decode (mB mX2_holdSpirit) 15 = .ok (.return_, 1) := by decide +kernel
theorem qX2_init_0 : decode (mB mX2_init) 0 = .ok (.aload_n 0, 1) := by decide +kernel
theorem qX2_init_1 : decode (mB mX2_init) 1 = .ok (.invokespecial 3, 3) := by decide +kernel
theorem qX2_init_4 : decode (mB mX2_init) 4 = .ok (.aload_n 0, 1) := by decide +kernel
theorem qX2_init_5 : decode (mB mX2_init) 5 = .ok (.iload_n 1, 1) := by decide +kernel
theorem qX2_init_6 : decode (mB mX2_init) 6 = .ok (.putfield 9, 3) := by decide +kernel
theorem qX2_init_9 : decode (mB mX2_init) 9 = .ok (.aload_n 0, 1) := by decide +kernel
theorem qX2_init_10 : decode (mB mX2_init) 10 = .ok (.bipush 6, 2) := by decide +kernel
theorem qX2_init_12 : decode (mB mX2_init) 12 = .ok (.newarray .int, 2) := by decide +kernel
theorem qX2_init_14 : decode (mB mX2_init) 14 = .ok (.putfield 15, 3) := by decide +kernel
theorem qX2_init_17 : decode (mB mX2_init) 17 = .ok (.aload_n 0, 1) := by decide +kernel
theorem qX2_init_18 : decode (mB mX2_init) 18 = .ok (.bipush 6, 2) := by decide +kernel
theorem qX2_init_20 : decode (mB mX2_init) 20 = .ok (.newarray .int, 2) := by decide +kernel
theorem qX2_init_22 : decode (mB mX2_init) 22 = .ok (.putfield 19, 3) := by decide +kernel
theorem qX2_init_25 : decode (mB mX2_init) 25 = .ok (.aload_n 0, 1) := by decide +kernel
theorem qX2_init_26 : decode (mB mX2_init) 26 = .ok (.iconst 1, 1) := by decide +kernel
theorem qX2_init_27 : decode (mB mX2_init) 27 = .ok (.putfield 22, 3) := by decide +kernel
theorem qX2_init_30 : decode (mB mX2_init) 30 = .ok (.aload_n 0, 1) := by decide +kernel
theorem qX2_init_31 : decode (mB mX2_init) 31 = .ok (.iconst (-1), 1) := by decide +kernel
theorem qX2_init_32 : decode (mB mX2_init) 32 = .ok (.putfield 25, 3) := by decide +kernel
theorem qX2_init_35 : decode (mB mX2_init) 35 = .ok (.return_, 1) := by decide +kernel
theorem qX2_level_0 : decode (mB mX2_level) 0 = .ok (.aload_n 0, 1) := by decide +kernel
theorem qX2_level_1 : decode (mB mX2_level) 1 = .ok (.aload_n 0, 1) := by decide +kernel
theorem qX2_level_2 : decode (mB mX2_level) 2 = .ok (.getfield 55, 3) := by decide +kernel
theorem qX2_level_5 : decode (mB mX2_level) 5 = .ok (.invokevirtual 71, 3) := by decide +kernel
theorem qX2_level_8 : decode (mB mX2_level) 8 = .ok (.aload_n 0, 1) := by decide +kernel
theorem qX2_level_9 : decode (mB mX2_level) 9 = .ok (.getfield 49, 3) := by decide +kernel
theorem qX2_level_12 : decode (mB mX2_level) 12 = .ok (.invokestatic 75, 3) := by decide +kernel
theorem qX2_level_15 : decode (mB mX2_level) 15 = .ok (.ireturn, 1) := by decide +kernel
theorem qX2_lowerPoint_0 : decode (mB mX2_lowerPoint) 0 = .ok (.iconst 0, 1) := by decide +kernel
theorem qX2_lowerPoint_1 : decode (mB mX2_lowerPoint) 1 = .ok (.istore_n 1, 1) := by decide +kernel
theorem qX2_lowerPoint_2 : decode (mB mX2_lowerPoint) 2 = .ok (.iconst 1, 1) := by decide +kernel
theorem qX2_lowerPoint_3 : decode (mB mX2_lowerPoint) 3 = .ok (.istore_n 2, 1) := by decide +kernel
theorem qX2_lowerPoint_4 : decode (mB mX2_lowerPoint) 4 = .ok (.iload_n 2, 1) := by decide +kernel
theorem qX2_lowerPoint_5 : decode (mB mX2_lowerPoint) 5 = .ok (.aload_n 0, 1) := by decide +kernel
theorem qX2_lowerPoint_6 : decode (mB mX2_lowerPoint) 6 = .ok (.getfield 34, 3) := by decide +kernel
theorem qX2_lowerPoint_9 : decode (mB mX2_lowerPoint) 9 = .ok (.if_icmp .ge 26, 3) := by decide +kernel
theorem qX2_lowerPoint_12 : decode (mB mX2_lowerPoint) 12 = .ok (.aload_n 0, 1) := by decide +kernel
theorem qX2_lowerPoint_13 : decode (mB mX2_lowerPoint) 13 = .ok (.getfield 15, 3) := by decide +kernel
theorem qX2_lowerPoint_16 : decode (mB mX2_lowerPoint) 16 = .ok (.iload_n 2, 1) := by decide +kernel
theorem qX2_lowerPoint_17 : decode (mB mX2_lowerPoint) 17 = .ok (.iaload, 1) := by decide +kernel
theorem qX2_lowerPoint_18 : decode (mB mX2_lowerPoint) 18 = .ok (.aload_n 0, 1) := by decide +kernel
theorem qX2_lowerPoint_19 : decode (mB mX2_lowerPoint) 19 = .ok (.getfield 15, 3) := by decide +kernel
theorem qX2_lowerPoint_22 : decode (mB mX2_lowerPoint) 22 = .ok (.iload_n 1, 1) := by decide +kernel
theorem qX2_lowerPoint_23 : decode (mB mX2_lowerPoint) 23 = .ok (.iaload, 1) := by decide +kernel
theorem qX2_lowerPoint_24 : decode (mB mX2_lowerPoint) 24 = .ok (.if_icmp .ge 5, 3) := by decide +kernel
theorem qX2_lowerPoint_27 : decode (mB mX2_lowerPoint) 27 = .ok (.iload_n 2, 1) := by decide +kernel
theorem qX2_lowerPoint_28 : decode (mB mX2_lowerPoint) 28 = .ok (.istore_n 1, 1) := by decide +kernel
theorem qX2_lowerPoint_29 : decode (mB mX2_lowerPoint) 29 = .ok (.iinc 2 1, 3) := by decide +kernel
theorem qX2_lowerPoint_32 : decode (mB mX2_lowerPoint) 32 = .ok (.goto (-28), 3) := by decide +kernel
theorem qX2_lowerPoint_35 : decode (mB mX2_lowerPoint) 35 = .ok (.iload_n 1, 1) := by decide +kernel
theorem qX2_lowerPoint_36 : decode (mB mX2_lowerPoint) 36 = .ok (.ireturn, 1) := by decide +kernel
theorem qX2_misfit_0 : decode (mB mX2_misfit) 0 = .ok (.bipush 10, 2) := by decide +kernel
theorem qX2_misfit_2 : decode (mB mX2_misfit) 2 = .ok (.aload_n 0, 1) := by decide +kernel
theorem qX2_misfit_3 : decode (mB mX2_misfit) 3 = .ok (.getfield 15, 3) := by decide +kernel
theorem qX2_misfit_6 : decode (mB mX2_misfit) 6 = .ok (.iload_n 1, 1) := by decide +kernel
theorem qX2_misfit_7 : decode (mB mX2_misfit) 7 = .ok (.iaload, 1) := by decide +kernel
theorem qX2_misfit_8 : decode (mB mX2_misfit) 8 = .ok (.imul, 1) := by decide +kernel
theorem qX2_misfit_9 : decode (mB mX2_misfit) 9 = .ok (.aload_n 0, 1) := by decide +kernel
theorem qX2_misfit_10 : decode (mB mX2_misfit) 10 = .ok (.aload_n 0, 1) := by decide +kernel
theorem qX2_misfit_11 : decode (mB mX2_misfit) 11 = .ok (.getfield 19, 3) := by decide +kernel
theorem qX2_misfit_14 : decode (mB mX2_misfit) 14 = .ok (.iload_n 1, 1) := by decide +kernel
theorem qX2_misfit_15 : decode (mB mX2_misfit) 15 = .ok (.iaload, 1) := by decide +kernel
theorem qX2_misfit_16 : decode (mB mX2_misfit) 16 = .ok (.invokevirtual 94, 3) := by decide +kernel
theorem qX2_misfit_19 : decode (mB mX2_misfit) 19 = .ok (.isub, 1) := by decide +kernel
theorem qX2_misfit_20 : decode (mB mX2_misfit) 20 = .ok (.invokestatic 81, 3) := by decide +kernel
theorem qX2_misfit_23 : decode (mB mX2_misfit) 23 = .ok (.ireturn, 1) := by decide +kernel
theorem qX2_misses_0 : decode (mB mX2_misses) 0 = .ok (.aload_n 0, 1) := by decide +kernel
theorem qX2_misses_1 : decode (mB mX2_misses) 1 = .ok (.iload_n 1, 1) := by decide +kernel
theorem qX2_misses_2 : decode (mB mX2_misses) 2 = .ok (.invokevirtual 97, 3) := by decide +kernel
theorem qX2_misses_5 : decode (mB mX2_misses) 5 = .ok (.ifCond .eq 7, 3) := by decide +kernel
theorem qX2_misses_8 : decode (mB mX2_misses) 8 = .ok (.iconst 1, 1) := by decide +kernel
theorem qX2_misses_9 : decode (mB mX2_misses) 9 = .ok (.goto 4, 3) := by decide +kernel
theorem qX2_misses_12 : decode (mB mX2_misses) 12 = .ok (.iconst 0, 1) := by decide +kernel
theorem qX2_misses_13 : decode (mB mX2_misses) 13 = .ok (.ireturn, 1) := by decide +kernel
theorem qX2_passMinute_0 : decode (mB mX2_passMinute) 0 = .ok (.iload_n 2, 1) := by decide +kernel
theorem qX2_passMinute_1 : decode (mB mX2_passMinute) 1 = .ok (.aload_n 0, 1) := by decide +kernel
theorem qX2_passMinute_2 : decode (mB mX2_passMinute) 2 = .ok (.getfield 55, 3) := by decide +kernel
theorem qX2_passMinute_5 : decode (mB mX2_passMinute) 5 = .ok (.isub, 1) := by decide +kernel
theorem qX2_passMinute_6 : decode (mB mX2_passMinute) 6 = .ok (.istore 4, 2) := by decide +kernel
theorem qX2_passMinute_8 : decode (mB mX2_passMinute) 8 = .ok (.iload_n 3, 1) := by decide +kernel
theorem qX2_passMinute_9 : decode (mB mX2_passMinute) 9 = .ok (.ifCond .le 12, 3) := by decide +kernel
theorem qX2_passMinute_12 : decode (mB mX2_passMinute) 12 = .ok (.iload 4, 2) := by decide +kernel
theorem qX2_passMinute_14 : decode (mB mX2_passMinute) 14 = .ok (.invokestatic 81, 3) := by decide +kernel
theorem qX2_passMinute_17 : decode (mB mX2_passMinute) 17 = .ok (.iload_n 3, 1) := by decide +kernel
theorem qX2_passMinute_18 : decode (mB mX2_passMinute) 18 = .ok (.if_icmp .ge 11, 3) := by decide +kernel
theorem qX2_passMinute_21 : decode (mB mX2_passMinute) 21 = .ok (.aload_n 0, 1) := by decide +kernel
theorem qX2_passMinute_22 : decode (mB mX2_passMinute) 22 = .ok (.iload_n 2, 1) := by decide +kernel
theorem qX2_passMinute_23 : decode (mB mX2_passMinute) 23 = .ok (.putfield 55, 3) := by decide +kernel
theorem qX2_passMinute_26 : decode (mB mX2_passMinute) 26 = .ok (.goto 16, 3) := by decide +kernel
theorem qX2_passMinute_29 : decode (mB mX2_passMinute) 29 = .ok (.aload_n 0, 1) := by decide +kernel
theorem qX2_passMinute_30 : decode (mB mX2_passMinute) 30 = .ok (.dup, 1) := by decide +kernel
theorem qX2_passMinute_31 : decode (mB mX2_passMinute) 31 = .ok (.getfield 55, 3) := by decide +kernel
theorem qX2_passMinute_34 : decode (mB mX2_passMinute) 34 = .ok (.iload 4, 2) := by decide +kernel
theorem qX2_passMinute_36 : decode (mB mX2_passMinute) 36 = .ok (.iload_n 3, 1) := by decide +kernel
theorem qX2_passMinute_37 : decode (mB mX2_passMinute) 37 = .ok (.idiv, 1) := by decide +kernel
theorem qX2_passMinute_38 : decode (mB mX2_passMinute) 38 = .ok (.iadd, 1) := by decide +kernel
theorem qX2_passMinute_39 : decode (mB mX2_passMinute) 39 = .ok (.putfield 55, 3) := by decide +kernel
theorem qX2_passMinute_42 : decode (mB mX2_passMinute) 42 = .ok (.aload_n 0, 1) := by decide +kernel
theorem qX2_passMinute_43 : decode (mB mX2_passMinute) 43 = .ok (.getfield 58, 3) := by decide +kernel
theorem qX2_passMinute_46 : decode (mB mX2_passMinute) 46 = .ok (.ifCond .eq 21, 3) := by decide +kernel
theorem qX2_passMinute_49 : decode (mB mX2_passMinute) 49 = .ok (.aload_n 0, 1) := by decide +kernel
theorem qX2_passMinute_50 : decode (mB mX2_passMinute) 50 = .ok (.getfield 52, 3) := by decide +kernel
theorem qX2_passMinute_53 : decode (mB mX2_passMinute) 53 = .ok (.ifCond .le 14, 3) := by decide +kernel
theorem qX2_passMinute_56 : decode (mB mX2_passMinute) 56 = .ok (.iload_n 1, 1) := by decide +kernel
theorem qX2_passMinute_57 : decode (mB mX2_passMinute) 57 = .ok (.bipush 10, 2) := by decide +kernel
theorem qX2_passMinute_59 : decode (mB mX2_passMinute) 59 = .ok (.irem, 1) := by decide +kernel
theorem qX2_passMinute_60 : decode (mB mX2_passMinute) 60 = .ok (.ifCond .ne 7, 3) := by decide +kernel
theorem qX2_passMinute_63 : decode (mB mX2_passMinute) 63 = .ok (.iconst 1, 1) := by decide +kernel
theorem qX2_passMinute_64 : decode (mB mX2_passMinute) 64 = .ok (.goto 4, 3) := by decide +kernel
theorem qX2_passMinute_67 : decode (mB mX2_passMinute) 67 = .ok (.iconst 0, 1) := by decide +kernel
theorem qX2_passMinute_68 : decode (mB mX2_passMinute) 68 = .ok (.istore 5, 2) := by decide +kernel
theorem qX2_passMinute_70 : decode (mB mX2_passMinute) 70 = .ok (.aload_n 0, 1) := by decide +kernel
theorem qX2_passMinute_71 : decode (mB mX2_passMinute) 71 = .ok (.dup, 1) := by decide +kernel
theorem qX2_passMinute_72 : decode (mB mX2_passMinute) 72 = .ok (.getfield 52, 3) := by decide +kernel
theorem qX2_passMinute_75 : decode (mB mX2_passMinute) 75 = .ok (.iload 5, 2) := by decide +kernel
theorem qX2_passMinute_77 : decode (mB mX2_passMinute) 77 = .ok (.isub, 1) := by decide +kernel
theorem qX2_passMinute_78 : decode (mB mX2_passMinute) 78 = .ok (.putfield 52, 3) := by decide +kernel
theorem qX2_passMinute_81 : decode (mB mX2_passMinute) 81 = .ok (.aload_n 0, 1) := by decide +kernel
theorem qX2_passMinute_82 : decode (mB mX2_passMinute) 82 = .ok (.aload_n 0, 1) := by decide +kernel
theorem qX2_passMinute_83 : decode (mB mX2_passMinute) 83 = .ok (.getfield 55, 3) := by decide +kernel
theorem qX2_passMinute_86 : decode (mB mX2_passMinute) 86 = .ok (.invokevirtual 71, 3) := by decide +kernel
theorem qX2_passMinute_89 : decode (mB mX2_passMinute) 89 = .ok (.aload_n 0, 1) := by decide +kernel
theorem qX2_passMinute_90 : decode (mB mX2_passMinute) 90 = .ok (.getfield 49, 3) := by decide +kernel
theorem qX2_passMinute_93 : decode (mB mX2_passMinute) 93 = .ok (.isub, 1) := by decide +kernel
theorem qX2_passMinute_94 : decode (mB mX2_passMinute) 94 = .ok (.istore 6, 2) := by decide +kernel
theorem qX2_passMinute_96 : decode (mB mX2_passMinute) 96 = .ok (.aload_n 0, 1) := by decide +kernel
theorem qX2_passMinute_97 : decode (mB mX2_passMinute) 97 = .ok (.iload 6, 2) := by decide +kernel
theorem qX2_passMinute_99 : decode (mB mX2_passMinute) 99 = .ok (.ifCond .le 15, 3) := by decide +kernel
theorem qX2_passMinute_102 : decode (mB mX2_passMinute) 102 = .ok (.iload 6, 2) := by decide +kernel
theorem qX2_passMinute_104 : decode (mB mX2_passMinute) 104 = .ok (.aload_n 0, 1) := by decide +kernel
theorem qX2_passMinute_105 : decode (mB mX2_passMinute) 105 = .ok (.getfield 52, 3) := by decide +kernel
theorem qX2_passMinute_108 : decode (mB mX2_passMinute) 108 = .ok (.invokestatic 75, 3) := by decide +kernel
theorem qX2_passMinute_111 : decode (mB mX2_passMinute) 111 = .ok (.goto 4, 3) := by decide +kernel
theorem qX2_passMinute_114 : decode (mB mX2_passMinute) 114 = .ok (.iconst 0, 1) := by decide +kernel
theorem qX2_passMinute_115 : decode (mB mX2_passMinute) 115 = .ok (.putfield 68, 3) := by decide +kernel
theorem qX2_passMinute_118 : decode (mB mX2_passMinute) 118 = .ok (.aload_n 0, 1) := by decide +kernel
theorem qX2_passMinute_119 : decode (mB mX2_passMinute) 119 = .ok (.dup, 1) := by decide +kernel
theorem qX2_passMinute_120 : decode (mB mX2_passMinute) 120 = .ok (.getfield 52, 3) := by decide +kernel
theorem qX2_passMinute_123 : decode (mB mX2_passMinute) 123 = .ok (.aload_n 0, 1) := by decide +kernel
theorem qX2_passMinute_124 : decode (mB mX2_passMinute) 124 = .ok (.getfield 68, 3) := by decide +kernel
theorem qX2_passMinute_127 : decode (mB mX2_passMinute) 127 = .ok (.isub, 1) := by decide +kernel
theorem qX2_passMinute_128 : decode (mB mX2_passMinute) 128 = .ok (.putfield 52, 3) := by decide +kernel
theorem qX2_passMinute_131 : decode (mB mX2_passMinute) 131 = .ok (.aload_n 0, 1) := by decide +kernel
theorem qX2_passMinute_132 : decode (mB mX2_passMinute) 132 = .ok (.dup, 1) := by decide +kernel
theorem qX2_passMinute_133 : decode (mB mX2_passMinute) 133 = .ok (.getfield 65, 3) := by decide +kernel
theorem qX2_passMinute_136 : decode (mB mX2_passMinute) 136 = .ok (.iload 5, 2) := by decide +kernel
theorem qX2_passMinute_138 : decode (mB mX2_passMinute) 138 = .ok (.aload_n 0, 1) := by decide +kernel
theorem qX2_passMinute_139 : decode (mB mX2_passMinute) 139 = .ok (.getfield 68, 3) := by decide +kernel
theorem qX2_passMinute_142 : decode (mB mX2_passMinute) 142 = .ok (.iadd, 1) := by decide +kernel
theorem qX2_passMinute_143 : decode (mB mX2_passMinute) 143 = .ok (.iadd, 1) := by decide +kernel
theorem qX2_passMinute_144 : decode (mB mX2_passMinute) 144 = .ok (.putfield 65, 3) := by decide +kernel
theorem qX2_passMinute_147 : decode (mB mX2_passMinute) 147 = .ok (.iload 5, 2) := by decide +kernel
theorem qX2_passMinute_149 : decode (mB mX2_passMinute) 149 = .ok (.aload_n 0, 1) := by decide +kernel
theorem qX2_passMinute_150 : decode (mB mX2_passMinute) 150 = .ok (.getfield 68, 3) := by decide +kernel
theorem qX2_passMinute_153 : decode (mB mX2_passMinute) 153 = .ok (.iadd, 1) := by decide +kernel
theorem qX2_passMinute_154 : decode (mB mX2_passMinute) 154 = .ok (.ireturn, 1) := by decide +kernel
theorem qX2_removePoint_0 : decode (mB mX2_removePoint) 0 = .ok (.iload_n 1, 1) := by decide +kernel
theorem qX2_removePoint_1 : decode (mB mX2_removePoint) 1 = .ok (.ifCond .lt 11, 3) := by decide +kernel
theorem qX2_removePoint_4 : decode (mB mX2_removePoint) 4 = .ok (.iload_n 1, 1) := by decide +kernel
theorem qX2_removePoint_5 : decode (mB mX2_removePoint) 5 = .ok (.aload_n 0, 1) := by decide +kernel
theorem qX2_removePoint_6 : decode (mB mX2_removePoint) 6 = .ok (.getfield 34, 3) := by decide +kernel
theorem qX2_removePoint_9 : decode (mB mX2_removePoint) 9 = .ok (.if_icmp .lt 4, 3) := by decide +kernel
theorem qX2_removePoint_12 : decode (mB mX2_removePoint) 12 = .ok (.return_, 1) := by decide +kernel
theorem qX2_removePoint_13 : decode (mB mX2_removePoint) 13 = .ok (.aload_n 0, 1) := by decide +kernel
theorem qX2_removePoint_14 : decode (mB mX2_removePoint) 14 = .ok (.dup, 1) := by decide +kernel
theorem qX2_removePoint_15 : decode (mB mX2_removePoint) 15 = .ok (.getfield 34, 3) := by decide +kernel
theorem qX2_removePoint_18 : decode (mB mX2_removePoint) 18 = .ok (.iconst 1, 1) := by decide +kernel
theorem qX2_removePoint_19 : decode (mB mX2_removePoint) 19 = .ok (.isub, 1) := by decide +kernel
theorem qX2_removePoint_20 : decode (mB mX2_removePoint) 20 = .ok (.putfield 34, 3) := by decide +kernel
theorem qX2_removePoint_23 : decode (mB mX2_removePoint) 23 = .ok (.iload_n 1, 1) := by decide +kernel
theorem qX2_removePoint_24 : decode (mB mX2_removePoint) 24 = .ok (.istore_n 2, 1) := by decide +kernel
theorem qX2_removePoint_25 : decode (mB mX2_removePoint) 25 = .ok (.iload_n 2, 1) := by decide +kernel
theorem qX2_removePoint_26 : decode (mB mX2_removePoint) 26 = .ok (.aload_n 0, 1) := by decide +kernel
theorem qX2_removePoint_27 : decode (mB mX2_removePoint) 27 = .ok (.getfield 34, 3) := by decide +kernel
theorem qX2_removePoint_30 : decode (mB mX2_removePoint) 30 = .ok (.if_icmp .ge 37, 3) := by decide +kernel
theorem qX2_removePoint_33 : decode (mB mX2_removePoint) 33 = .ok (.aload_n 0, 1) := by decide +kernel
theorem qX2_removePoint_34 : decode (mB mX2_removePoint) 34 = .ok (.getfield 15, 3) := by decide +kernel
theorem qX2_removePoint_37 : decode (mB mX2_removePoint) 37 = .ok (.iload_n 2, 1) := by decide +kernel
theorem qX2_removePoint_38 : decode (mB mX2_removePoint) 38 = .ok (.aload_n 0, 1) := by decide +kernel
theorem qX2_removePoint_39 : decode (mB mX2_removePoint) 39 = .ok (.getfield 15, 3) := by decide +kernel
theorem qX2_removePoint_42 : decode (mB mX2_removePoint) 42 = .ok (.iload_n 2, 1) := by decide +kernel
theorem qX2_removePoint_43 : decode (mB mX2_removePoint) 43 = .ok (.iconst 1, 1) := by decide +kernel
theorem qX2_removePoint_44 : decode (mB mX2_removePoint) 44 = .ok (.iadd, 1) := by decide +kernel
theorem qX2_removePoint_45 : decode (mB mX2_removePoint) 45 = .ok (.iaload, 1) := by decide +kernel
theorem qX2_removePoint_46 : decode (mB mX2_removePoint) 46 = .ok (.iastore, 1) := by decide +kernel
theorem qX2_removePoint_47 : decode (mB mX2_removePoint) 47 = .ok (.aload_n 0, 1) := by decide +kernel
theorem qX2_removePoint_48 : decode (mB mX2_removePoint) 48 = .ok (.getfield 19, 3) := by decide +kernel
theorem qX2_removePoint_51 : decode (mB mX2_removePoint) 51 = .ok (.iload_n 2, 1) := by decide +kernel
theorem qX2_removePoint_52 : decode (mB mX2_removePoint) 52 = .ok (.aload_n 0, 1) := by decide +kernel
theorem qX2_removePoint_53 : decode (mB mX2_removePoint) 53 = .ok (.getfield 19, 3) := by decide +kernel
theorem qX2_removePoint_56 : decode (mB mX2_removePoint) 56 = .ok (.iload_n 2, 1) := by decide +kernel
theorem qX2_removePoint_57 : decode (mB mX2_removePoint) 57 = .ok (.iconst 1, 1) := by decide +kernel
theorem qX2_removePoint_58 : decode (mB mX2_removePoint) 58 = .ok (.iadd, 1) := by decide +kernel
theorem qX2_removePoint_59 : decode (mB mX2_removePoint) 59 = .ok (.iaload, 1) := by decide +kernel
theorem qX2_removePoint_60 : decode (mB mX2_removePoint) 60 = .ok (.iastore, 1) := by decide +kernel
theorem qX2_removePoint_61 : decode (mB mX2_removePoint) 61 = .ok (.iinc 2 1, 3) := by decide +kernel
theorem qX2_removePoint_64 : decode (mB mX2_removePoint) 64 = .ok (.goto (-39), 3) := by decide +kernel
theorem qX2_removePoint_67 : decode (mB mX2_removePoint) 67 = .ok (.return_, 1) := by decide +kernel
theorem qX2_scaled_0 : decode (mB mX2_scaled) 0 = .ok (.aload_n 0, 1) := by decide +kernel
theorem qX2_scaled_1 : decode (mB mX2_scaled) 1 = .ok (.getfield 34, 3) := by decide +kernel
theorem qX2_scaled_4 : decode (mB mX2_scaled) 4 = .ok (.iconst 2, 1) := by decide +kernel
theorem qX2_scaled_5 : decode (mB mX2_scaled) 5 = .ok (.if_icmp .lt 7, 3) := by decide +kernel
theorem qX2_scaled_8 : decode (mB mX2_scaled) 8 = .ok (.iconst 1, 1) := by decide +kernel
theorem qX2_scaled_9 : decode (mB mX2_scaled) 9 = .ok (.goto 4, 3) := by decide +kernel
theorem qX2_scaled_12 : decode (mB mX2_scaled) 12 = .ok (.iconst 0, 1) := by decide +kernel
theorem qX2_scaled_13 : decode (mB mX2_scaled) 13 = .ok (.ireturn, 1) := by decide +kernel
theorem qX2_tenthsRead_0 : decode (mB mX2_tenthsRead) 0 = .ok (.aload_n 0, 1) := by decide +kernel
theorem qX2_tenthsRead_1 : decode (mB mX2_tenthsRead) 1 = .ok (.aload_n 0, 1) := by decide +kernel
theorem qX2_tenthsRead_2 : decode (mB mX2_tenthsRead) 2 = .ok (.invokevirtual 91, 3) := by decide +kernel
theorem qX2_tenthsRead_5 : decode (mB mX2_tenthsRead) 5 = .ok (.invokevirtual 94, 3) := by decide +kernel
theorem qX2_tenthsRead_8 : decode (mB mX2_tenthsRead) 8 = .ok (.ireturn, 1) := by decide +kernel
theorem qX2_tenthsToldFor_0 : decode (mB mX2_tenthsToldFor) 0 = .ok (.aload_n 0, 1) := by decide +kernel
theorem qX2_tenthsToldFor_1 : decode (mB mX2_tenthsToldFor) 1 = .ok (.invokevirtual 84, 3) := by decide +kernel
theorem qX2_tenthsToldFor_4 : decode (mB mX2_tenthsToldFor) 4 = .ok (.istore_n 2, 1) := by decide +kernel
theorem qX2_tenthsToldFor_5 : decode (mB mX2_tenthsToldFor) 5 = .ok (.aload_n 0, 1) := by decide +kernel
theorem qX2_tenthsToldFor_6 : decode (mB mX2_tenthsToldFor) 6 = .ok (.invokevirtual 88, 3) := by decide +kernel
theorem qX2_tenthsToldFor_9 : decode (mB mX2_tenthsToldFor) 9 = .ok (.istore_n 3, 1) := by decide +kernel
theorem qX2_tenthsToldFor_10 : decode (mB mX2_tenthsToldFor) 10 = .ok (.aload_n 0, 1) := by decide +kernel
theorem qX2_tenthsToldFor_11 : decode (mB mX2_tenthsToldFor) 11 = .ok (.getfield 15, 3) := by decide +kernel
theorem qX2_tenthsToldFor_14 : decode (mB mX2_tenthsToldFor) 14 = .ok (.iload_n 3, 1) := by decide +kernel
theorem qX2_tenthsToldFor_15 : decode (mB mX2_tenthsToldFor) 15 = .ok (.iaload, 1) := by decide +kernel
theorem qX2_tenthsToldFor_16 : decode (mB mX2_tenthsToldFor) 16 = .ok (.aload_n 0, 1) := by decide +kernel
theorem qX2_tenthsToldFor_17 : decode (mB mX2_tenthsToldFor) 17 = .ok (.getfield 15, 3) := by decide +kernel
theorem qX2_tenthsToldFor_20 : decode (mB mX2_tenthsToldFor) 20 = .ok (.iload_n 2, 1) := by decide +kernel
theorem qX2_tenthsToldFor_21 : decode (mB mX2_tenthsToldFor) 21 = .ok (.iaload, 1) := by decide +kernel
theorem qX2_tenthsToldFor_22 : decode (mB mX2_tenthsToldFor) 22 = .ok (.isub, 1) := by decide +kernel
theorem qX2_tenthsToldFor_23 : decode (mB mX2_tenthsToldFor) 23 = .ok (.istore 4, 2) := by decide +kernel
theorem qX2_tenthsToldFor_25 : decode (mB mX2_tenthsToldFor) 25 = .ok (.aload_n 0, 1) := by decide +kernel
theorem qX2_tenthsToldFor_26 : decode (mB mX2_tenthsToldFor) 26 = .ok (.getfield 19, 3) := by decide +kernel
theorem qX2_tenthsToldFor_29 : decode (mB mX2_tenthsToldFor) 29 = .ok (.iload_n 3, 1) := by decide +kernel
theorem qX2_tenthsToldFor_30 : decode (mB mX2_tenthsToldFor) 30 = .ok (.iaload, 1) := by decide +kernel
theorem qX2_tenthsToldFor_31 : decode (mB mX2_tenthsToldFor) 31 = .ok (.aload_n 0, 1) := by decide +kernel
theorem qX2_tenthsToldFor_32 : decode (mB mX2_tenthsToldFor) 32 = .ok (.getfield 19, 3) := by decide +kernel
theorem qX2_tenthsToldFor_35 : decode (mB mX2_tenthsToldFor) 35 = .ok (.iload_n 2, 1) := by decide +kernel
theorem qX2_tenthsToldFor_36 : decode (mB mX2_tenthsToldFor) 36 = .ok (.iaload, 1) := by decide +kernel
theorem qX2_tenthsToldFor_37 : decode (mB mX2_tenthsToldFor) 37 = .ok (.isub, 1) := by decide +kernel
theorem qX2_tenthsToldFor_38 : decode (mB mX2_tenthsToldFor) 38 = .ok (.istore 5, 2) := by decide +kernel
theorem qX2_tenthsToldFor_40 : decode (mB mX2_tenthsToldFor) 40 = .ok (.bipush 10, 2) := by decide +kernel
theorem qX2_tenthsToldFor_42 : decode (mB mX2_tenthsToldFor) 42 = .ok (.aload_n 0, 1) := by decide +kernel
theorem qX2_tenthsToldFor_43 : decode (mB mX2_tenthsToldFor) 43 = .ok (.getfield 15, 3) := by decide +kernel
theorem qX2_tenthsToldFor_46 : decode (mB mX2_tenthsToldFor) 46 = .ok (.iload_n 2, 1) := by decide +kernel
theorem qX2_tenthsToldFor_47 : decode (mB mX2_tenthsToldFor) 47 = .ok (.iaload, 1) := by decide +kernel
theorem qX2_tenthsToldFor_48 : decode (mB mX2_tenthsToldFor) 48 = .ok (.imul, 1) := by decide +kernel
theorem qX2_tenthsToldFor_49 : decode (mB mX2_tenthsToldFor) 49 = .ok (.istore 6, 2) := by decide +kernel
theorem qX2_tenthsToldFor_51 : decode (mB mX2_tenthsToldFor) 51 = .ok (.iload 5, 2) := by decide +kernel
theorem qX2_tenthsToldFor_53 : decode (mB mX2_tenthsToldFor) 53 = .ok (.ifCond .ne 6, 3) := by decide +kernel
theorem qX2_tenthsToldFor_56 : decode (mB mX2_tenthsToldFor) 56 = .ok (.iload 6, 2) := by decide +kernel
theorem qX2_tenthsToldFor_58 : decode (mB mX2_tenthsToldFor) 58 = .ok (.ireturn, 1) := by decide +kernel
theorem qX2_tenthsToldFor_59 : decode (mB mX2_tenthsToldFor) 59 = .ok (.iload 6, 2) := by decide +kernel
theorem qX2_tenthsToldFor_61 : decode (mB mX2_tenthsToldFor) 61 = .ok (.bipush 10, 2) := by decide +kernel
theorem qX2_tenthsToldFor_63 : decode (mB mX2_tenthsToldFor) 63 = .ok (.iload 4, 2) := by decide +kernel
theorem qX2_tenthsToldFor_65 : decode (mB mX2_tenthsToldFor) 65 = .ok (.imul, 1) := by decide +kernel
theorem qX2_tenthsToldFor_66 : decode (mB mX2_tenthsToldFor) 66 = .ok (.iload_n 1, 1) := by decide +kernel
theorem qX2_tenthsToldFor_67 : decode (mB mX2_tenthsToldFor) 67 = .ok (.aload_n 0, 1) := by decide +kernel
theorem qX2_tenthsToldFor_68 : decode (mB mX2_tenthsToldFor) 68 = .ok (.getfield 19, 3) := by decide +kernel
theorem qX2_tenthsToldFor_71 : decode (mB mX2_tenthsToldFor) 71 = .ok (.iload_n 2, 1) := by decide +kernel
theorem qX2_tenthsToldFor_72 : decode (mB mX2_tenthsToldFor) 72 = .ok (.iaload, 1) := by decide +kernel
theorem qX2_tenthsToldFor_73 : decode (mB mX2_tenthsToldFor) 73 = .ok (.isub, 1) := by decide +kernel
theorem qX2_tenthsToldFor_74 : decode (mB mX2_tenthsToldFor) 74 = .ok (.imul, 1) := by decide +kernel
theorem qX2_tenthsToldFor_75 : decode (mB mX2_tenthsToldFor) 75 = .ok (.iload 5, 2) := by decide +kernel
theorem qX2_tenthsToldFor_77 : decode (mB mX2_tenthsToldFor) 77 = .ok (.idiv, 1) := by decide +kernel
theorem qX2_tenthsToldFor_78 : decode (mB mX2_tenthsToldFor) 78 = .ok (.iadd, 1) := by decide +kernel
theorem qX2_tenthsToldFor_79 : decode (mB mX2_tenthsToldFor) 79 = .ok (.ireturn, 1) := by decide +kernel
theorem qX2_upperPoint_0 : decode (mB mX2_upperPoint) 0 = .ok (.iconst 0, 1) := by decide +kernel
theorem qX2_upperPoint_1 : decode (mB mX2_upperPoint) 1 = .ok (.istore_n 1, 1) := by decide +kernel
theorem qX2_upperPoint_2 : decode (mB mX2_upperPoint) 2 = .ok (.iconst 1, 1) := by decide +kernel
theorem qX2_upperPoint_3 : decode (mB mX2_upperPoint) 3 = .ok (.istore_n 2, 1) := by decide +kernel
theorem qX2_upperPoint_4 : decode (mB mX2_upperPoint) 4 = .ok (.iload_n 2, 1) := by decide +kernel
theorem qX2_upperPoint_5 : decode (mB mX2_upperPoint) 5 = .ok (.aload_n 0, 1) := by decide +kernel
theorem qX2_upperPoint_6 : decode (mB mX2_upperPoint) 6 = .ok (.getfield 34, 3) := by decide +kernel
theorem qX2_upperPoint_9 : decode (mB mX2_upperPoint) 9 = .ok (.if_icmp .ge 26, 3) := by decide +kernel
theorem qX2_upperPoint_12 : decode (mB mX2_upperPoint) 12 = .ok (.aload_n 0, 1) := by decide +kernel
theorem qX2_upperPoint_13 : decode (mB mX2_upperPoint) 13 = .ok (.getfield 15, 3) := by decide +kernel
theorem qX2_upperPoint_16 : decode (mB mX2_upperPoint) 16 = .ok (.iload_n 2, 1) := by decide +kernel
theorem qX2_upperPoint_17 : decode (mB mX2_upperPoint) 17 = .ok (.iaload, 1) := by decide +kernel
theorem qX2_upperPoint_18 : decode (mB mX2_upperPoint) 18 = .ok (.aload_n 0, 1) := by decide +kernel
theorem qX2_upperPoint_19 : decode (mB mX2_upperPoint) 19 = .ok (.getfield 15, 3) := by decide +kernel
theorem qX2_upperPoint_22 : decode (mB mX2_upperPoint) 22 = .ok (.iload_n 1, 1) := by decide +kernel
theorem qX2_upperPoint_23 : decode (mB mX2_upperPoint) 23 = .ok (.iaload, 1) := by decide +kernel
theorem qX2_upperPoint_24 : decode (mB mX2_upperPoint) 24 = .ok (.if_icmp .le 5, 3) := by decide +kernel
theorem qX2_upperPoint_27 : decode (mB mX2_upperPoint) 27 = .ok (.iload_n 2, 1) := by decide +kernel
theorem qX2_upperPoint_28 : decode (mB mX2_upperPoint) 28 = .ok (.istore_n 1, 1) := by decide +kernel
theorem qX2_upperPoint_29 : decode (mB mX2_upperPoint) 29 = .ok (.iinc 2 1, 3) := by decide +kernel
theorem qX2_upperPoint_32 : decode (mB mX2_upperPoint) 32 = .ok (.goto (-28), 3) := by decide +kernel
theorem qX2_upperPoint_35 : decode (mB mX2_upperPoint) 35 = .ok (.iload_n 1, 1) := by decide +kernel
theorem qX2_upperPoint_36 : decode (mB mX2_upperPoint) 36 = .ok (.ireturn, 1) := by decide +kernel
theorem qX3_append_0 : decode (mB mX3_append) 0 = .ok (.aload_n 0, 1) := by decide +kernel
theorem qX3_append_1 : decode (mB mX3_append) 1 = .ok (.getfield 36, 3) := by decide +kernel
theorem qX3_append_4 : decode (mB mX3_append) 4 = .ok (.getfield 32, 3) := by decide +kernel
theorem qX3_append_7 : decode (mB mX3_append) 7 = .ok (.bipush 20, 2) := by decide +kernel
theorem qX3_append_9 : decode (mB mX3_append) 9 = .ok (.iadd, 1) := by decide +kernel
theorem qX3_append_10 : decode (mB mX3_append) 10 = .ok (.sipush 600, 3) := by decide +kernel
theorem qX3_append_13 : decode (mB mX3_append) 13 = .ok (.if_icmp .le 13, 3) := by decide +kernel
theorem qX3_append_16 : decode (mB mX3_append) 16 = .ok (.new 80, 3) := by decide +kernel
theorem qX3_append_19 : decode (mB mX3_append) 19 = .ok (.dup, 1) := by decide +kernel
theorem qX3_append_20 : decode (mB mX3_append) 20 = .ok (.ldc 82, 2) := by decide +kernel
theorem qX3_append_22 : decode (mB mX3_append) 22 = .ok (.invokespecial 84, 3) := by decide +kernel
theorem qX3_append_25 : decode (mB mX3_append) 25 = .ok (.athrow, 1) := by decide +kernel
theorem qX3_append_26 : decode (mB mX3_append) 26 = .ok (.aload_n 0, 1) := by decide +kernel
theorem qX3_append_27 : decode (mB mX3_append) 27 = .ok (.getfield 36, 3) := by decide +kernel
theorem qX3_append_30 : decode (mB mX3_append) 30 = .ok (.iload_n 1, 1) := by decide +kernel
theorem qX3_append_31 : decode (mB mX3_append) 31 = .ok (.invokevirtual 86, 3) := by decide +kernel
theorem qX3_append_34 : decode (mB mX3_append) 34 = .ok (.aload_n 0, 1) := by decide +kernel
theorem qX3_append_35 : decode (mB mX3_append) 35 = .ok (.getfield 36, 3) := by decide +kernel
theorem qX3_append_38 : decode (mB mX3_append) 38 = .ok (.iload_n 2, 1) := by decide +kernel
theorem qX3_append_39 : decode (mB mX3_append) 39 = .ok (.invokevirtual 86, 3) := by decide +kernel
theorem qX3_append_42 : decode (mB mX3_append) 42 = .ok (.aload_n 0, 1) := by decide +kernel
theorem qX3_append_43 : decode (mB mX3_append) 43 = .ok (.getfield 36, 3) := by decide +kernel
theorem qX3_append_46 : decode (mB mX3_append) 46 = .ok (.iload_n 3, 1) := by decide +kernel
theorem qX3_append_47 : decode (mB mX3_append) 47 = .ok (.invokevirtual 86, 3) := by decide +kernel
theorem qX3_append_50 : decode (mB mX3_append) 50 = .ok (.aload_n 0, 1) := by decide +kernel
theorem qX3_append_51 : decode (mB mX3_append) 51 = .ok (.getfield 36, 3) := by decide +kernel
theorem qX3_append_54 : decode (mB mX3_append) 54 = .ok (.iload 4, 2) := by decide +kernel
theorem qX3_append_56 : decode (mB mX3_append) 56 = .ok (.invokevirtual 86, 3) := by decide +kernel
theorem qX3_append_59 : decode (mB mX3_append) 59 = .ok (.aload_n 0, 1) := by decide +kernel
theorem qX3_append_60 : decode (mB mX3_append) 60 = .ok (.getfield 36, 3) := by decide +kernel
theorem qX3_append_63 : decode (mB mX3_append) 63 = .ok (.iload 5, 2) := by decide +kernel
theorem qX3_append_65 : decode (mB mX3_append) 65 = .ok (.invokevirtual 86, 3) := by decide +kernel
theorem qX3_append_68 : decode (mB mX3_append) 68 = .ok (.aload_n 0, 1) := by decide +kernel
theorem qX3_append_69 : decode (mB mX3_append) 69 = .ok (.getfield 36, 3) := by decide +kernel
theorem qX3_append_72 : decode (mB mX3_append) 72 = .ok (.getfield 32, 3) := by decide +kernel
theorem qX3_append_75 : decode (mB mX3_append) 75 = .ok (.ireturn, 1) := by decide +kernel
theorem qX3_bathDegrees_0 : decode (mB mX3_bathDegrees) 0 = .ok (.aload_n 0, 1) := by decide +kernel
theorem qX3_bathDegrees_1 : decode (mB mX3_bathDegrees) 1 = .ok (.iload_n 1, 1) := by decide +kernel
theorem qX3_bathDegrees_2 : decode (mB mX3_bathDegrees) 2 = .ok (.invokevirtual 113, 3) := by decide +kernel
theorem qX3_bathDegrees_5 : decode (mB mX3_bathDegrees) 5 = .ok (.aload_n 0, 1) := by decide +kernel
theorem qX3_bathDegrees_6 : decode (mB mX3_bathDegrees) 6 = .ok (.getfield 40, 3) := by decide +kernel
theorem qX3_bathDegrees_9 : decode (mB mX3_bathDegrees) 9 = .ok (.getfield 116, 3) := by decide +kernel
theorem qX3_bathDegrees_12 : decode (mB mX3_bathDegrees) 12 = .ok (.iload_n 1, 1) := by decide +kernel
theorem qX3_bathDegrees_13 : decode (mB mX3_bathDegrees) 13 = .ok (.iaload, 1) := by decide +kernel
theorem qX3_bathDegrees_14 : decode (mB mX3_bathDegrees) 14 = .ok (.ireturn, 1) := by decide +kernel
theorem qX3_bathOf_0 : decode (mB mX3_bathOf) 0 = .ok (.aload_n 0, 1) := by decide +kernel
theorem qX3_bathOf_1 : decode (mB mX3_bathOf) 1 = .ok (.iload_n 1, 1) := by decide +kernel
theorem qX3_bathOf_2 : decode (mB mX3_bathOf) 2 = .ok (.invokevirtual 141, 3) := by decide +kernel
theorem qX3_bathOf_5 : decode (mB mX3_bathOf) 5 = .ok (.getfield 124, 3) := by decide +kernel
theorem qX3_bathOf_8 : decode (mB mX3_bathOf) 8 = .ok (.ireturn, 1) := by decide +kernel
theorem qX3_bathsToMark_0 : decode (mB mX3_bathsToMark) 0 = .ok (.aload_n 0, 1) := by decide +kernel
theorem qX3_bathsToMark_1 : decode (mB mX3_bathsToMark) 1 = .ok (.iload_n 1, 1) := by decide +kernel
theorem qX3_bathsToMark_2 : decode (mB mX3_bathsToMark) 2 = .ok (.invokevirtual 141, 3) := by decide +kernel
theorem qX3_bathsToMark_5 : decode (mB mX3_bathsToMark) 5 = .ok (.astore_n 2, 1) := by decide +kernel
theorem qX3_bathsToMark_6 : decode (mB mX3_bathsToMark) 6 = .ok (.iconst 0, 1) := by decide +kernel
theorem qX3_bathsToMark_7 : decode (mB mX3_bathsToMark) 7 = .ok (.istore_n 3, 1) := by decide +kernel
theorem qX3_bathsToMark_8 : decode (mB mX3_bathsToMark) 8 = .ok (.iconst 0, 1) := by decide +kernel
theorem qX3_bathsToMark_9 : decode (mB mX3_bathsToMark) 9 = .ok (.istore 4, 2) := by decide +kernel
theorem qX3_bathsToMark_11 : decode (mB mX3_bathsToMark) 11 = .ok (.iload 4, 2) := by decide +kernel
theorem qX3_bathsToMark_13 : decode (mB mX3_bathsToMark) 13 = .ok (.aload_n 0, 1) := by decide +kernel
theorem qX3_bathsToMark_14 : decode (mB mX3_bathsToMark) 14 = .ok (.getfield 40, 3) := by decide +kernel
theorem qX3_bathsToMark_17 : decode (mB mX3_bathsToMark) 17 = .ok (.getfield 228, 3) := by decide +kernel
theorem qX3_bathsToMark_20 : decode (mB mX3_bathsToMark) 20 = .ok (.if_icmp .ge 29, 3) := by decide +kernel
theorem qX3_bathsToMark_23 : decode (mB mX3_bathsToMark) 23 = .ok (.aload_n 2, 1) := by decide +kernel
theorem qX3_bathsToMark_24 : decode (mB mX3_bathsToMark) 24 = .ok (.aload_n 0, 1) := by decide +kernel
theorem qX3_bathsToMark_25 : decode (mB mX3_bathsToMark) 25 = .ok (.getfield 40, 3) := by decide +kernel
theorem qX3_bathsToMark_28 : decode (mB mX3_bathsToMark) 28 = .ok (.getfield 116, 3) := by decide +kernel
theorem qX3_bathsToMark_31 : decode (mB mX3_bathsToMark) 31 = .ok (.iload 4, 2) := by decide +kernel
theorem qX3_bathsToMark_33 : decode (mB mX3_bathsToMark) 33 = .ok (.iaload, 1) := by decide +kernel
theorem qX3_bathsToMark_34 : decode (mB mX3_bathsToMark) 34 = .ok (.invokevirtual 231, 3) := by decide +kernel
theorem qX3_bathsToMark_37 : decode (mB mX3_bathsToMark) 37 = .ok (.ifCond .ne 6, 3) := by decide +kernel
theorem qX3_bathsToMark_40 : decode (mB mX3_bathsToMark) 40 = .ok (.iinc 3 1, 3) := by decide +kernel
theorem qX3_bathsToMark_43 : decode (mB mX3_bathsToMark) 43 = .ok (.iinc 4 1, 3) := by decide +kernel
theorem qX3_bathsToMark_46 : decode (mB mX3_bathsToMark) 46 = .ok (.goto (-35), 3) := by decide +kernel
theorem qX3_bathsToMark_49 : decode (mB mX3_bathsToMark) 49 = .ok (.iload_n 3, 1) := by decide +kernel
theorem qX3_bathsToMark_50 : decode (mB mX3_bathsToMark) 50 = .ok (.ireturn, 1) := by decide +kernel
theorem qX3_bestTube_0 : decode (mB mX3_bestTube) 0 = .ok (.iconst (-1), 1) := by decide +kernel
theorem qX3_bestTube_1 : decode (mB mX3_bestTube) 1 = .ok (.istore_n 1, 1) := by decide +kernel
theorem qX3_bestTube_2 : decode (mB mX3_bestTube) 2 = .ok (.iconst 0, 1) := by decide +kernel
theorem qX3_bestTube_3 : decode (mB mX3_bestTube) 3 = .ok (.istore_n 2, 1) := by decide +kernel
theorem qX3_bestTube_4 : decode (mB mX3_bestTube) 4 = .ok (.iconst 0, 1) := by decide +kernel
theorem qX3_bestTube_5 : decode (mB mX3_bestTube) 5 = .ok (.istore_n 3, 1) := by decide +kernel
theorem qX3_bestTube_6 : decode (mB mX3_bestTube) 6 = .ok (.iload_n 3, 1) := by decide +kernel
theorem qX3_bestTube_7 : decode (mB mX3_bestTube) 7 = .ok (.aload_n 0, 1) := by decide +kernel
theorem qX3_bestTube_8 : decode (mB mX3_bestTube) 8 = .ok (.getfield 40, 3) := by decide +kernel
theorem qX3_bestTube_11 : decode (mB mX3_bestTube) 11 = .ok (.getfield 104, 3) := by decide +kernel
theorem qX3_bestTube_14 : decode (mB mX3_bestTube) 14 = .ok (.if_icmp .ge 60, 3) := by decide +kernel
theorem qX3_bestTube_17 : decode (mB mX3_bestTube) 17 = .ok (.aload_n 0, 1) := by decide +kernel
theorem qX3_bestTube_18 : decode (mB mX3_bestTube) 18 = .ok (.getfield 40, 3) := by decide +kernel
theorem qX3_bestTube_21 : decode (mB mX3_bestTube) 21 = .ok (.getfield 120, 3) := by decide +kernel
theorem qX3_bestTube_24 : decode (mB mX3_bestTube) 24 = .ok (.iload_n 3, 1) := by decide +kernel
theorem qX3_bestTube_25 : decode (mB mX3_bestTube) 25 = .ok (.aaload, 1) := by decide +kernel
theorem qX3_bestTube_26 : decode (mB mX3_bestTube) 26 = .ok (.astore 4, 2) := by decide +kernel
theorem qX3_bestTube_28 : decode (mB mX3_bestTube) 28 = .ok (.aload 4, 2) := by decide +kernel
theorem qX3_bestTube_30 : decode (mB mX3_bestTube) 30 = .ok (.invokevirtual 192, 3) := by decide +kernel
theorem qX3_bestTube_33 : decode (mB mX3_bestTube) 33 = .ok (.ifCond .eq 35, 3) := by decide +kernel
theorem qX3_bestTube_36 : decode (mB mX3_bestTube) 36 = .ok (.aload 4, 2) := by decide +kernel
theorem qX3_bestTube_38 : decode (mB mX3_bestTube) 38 = .ok (.invokevirtual 200, 3) := by decide +kernel
theorem qX3_bestTube_41 : decode (mB mX3_bestTube) 41 = .ok (.aload 4, 2) := by decide +kernel
theorem qX3_bestTube_43 : decode (mB mX3_bestTube) 43 = .ok (.getfield 145, 3) := by decide +kernel
theorem qX3_bestTube_46 : decode (mB mX3_bestTube) 46 = .ok (.isub, 1) := by decide +kernel
theorem qX3_bestTube_47 : decode (mB mX3_bestTube) 47 = .ok (.invokestatic 216, 3) := by decide +kernel
theorem qX3_bestTube_50 : decode (mB mX3_bestTube) 50 = .ok (.istore 5, 2) := by decide +kernel
theorem qX3_bestTube_52 : decode (mB mX3_bestTube) 52 = .ok (.iload_n 1, 1) := by decide +kernel
theorem qX3_bestTube_53 : decode (mB mX3_bestTube) 53 = .ok (.iconst (-1), 1) := by decide +kernel
theorem qX3_bestTube_54 : decode (mB mX3_bestTube) 54 = .ok (.if_icmp .eq 9, 3) := by decide +kernel
theorem qX3_bestTube_57 : decode (mB mX3_bestTube) 57 = .ok (.iload 5, 2) := by decide +kernel
theorem qX3_bestTube_59 : decode (mB mX3_bestTube) 59 = .ok (.iload_n 2, 1) := by decide +kernel
theorem qX3_bestTube_60 : decode (mB mX3_bestTube) 60 = .ok (.if_icmp .ge 8, 3) := by decide +kernel
theorem qX3_bestTube_63 : decode (mB mX3_bestTube) 63 = .ok (.iload_n 3, 1) := by decide +kernel
theorem qX3_bestTube_64 : decode (mB mX3_bestTube) 64 = .ok (.istore_n 1, 1) := by decide +kernel
theorem qX3_bestTube_65 : decode (mB mX3_bestTube) 65 = .ok (.iload 5, 2) := by decide +kernel
theorem qX3_bestTube_67 : decode (mB mX3_bestTube) 67 = .ok (.istore_n 2, 1) := by decide +kernel
theorem qX3_bestTube_68 : decode (mB mX3_bestTube) 68 = .ok (.iinc 3 1, 3) := by decide +kernel
theorem qX3_bestTube_71 : decode (mB mX3_bestTube) 71 = .ok (.goto (-65), 3) := by decide +kernel
theorem qX3_bestTube_74 : decode (mB mX3_bestTube) 74 = .ok (.iload_n 1, 1) := by decide +kernel
theorem qX3_bestTube_75 : decode (mB mX3_bestTube) 75 = .ok (.ireturn, 1) := by decide +kernel
theorem qX3_checkBath_0 : decode (mB mX3_checkBath) 0 = .ok (.iload_n 1, 1) := by decide +kernel
theorem qX3_checkBath_1 : decode (mB mX3_checkBath) 1 = .ok (.ifCond .lt 14, 3) := by decide +kernel
theorem qX3_checkBath_4 : decode (mB mX3_checkBath) 4 = .ok (.iload_n 1, 1) := by decide +kernel
theorem qX3_checkBath_5 : decode (mB mX3_checkBath) 5 = .ok (.aload_n 0, 1) := by decide +kernel
theorem qX3_checkBath_6 : decode (mB mX3_checkBath) 6 = .ok (.getfield 40, 3) := by decide +kernel
theorem qX3_checkBath_9 : decode (mB mX3_checkBath) 9 = .ok (.getfield 228, 3) := by decide +kernel
theorem qX3_checkBath_12 : decode (mB mX3_checkBath) 12 = .ok (.if_icmp .lt 14, 3) := by decide +kernel
theorem qX3_checkBath_15 : decode (mB mX3_checkBath) 15 = .ok (.new 304, 3) := by decide +kernel
theorem qX3_checkBath_18 : decode (mB mX3_checkBath) 18 = .ok (.dup, 1) := by decide +kernel
theorem qX3_checkBath_19 : decode (mB mX3_checkBath) 19 = .ok (.ldc_w 309, 3) := by decide +kernel
theorem qX3_checkBath_22 : decode (mB mX3_checkBath) 22 = .ok (.invokespecial 308, 3) := by decide +kernel
theorem qX3_checkBath_25 : decode (mB mX3_checkBath) 25 = .ok (.athrow, 1) := by decide +kernel
theorem qX3_checkBath_26 : decode (mB mX3_checkBath) 26 = .ok (.return_, 1) := by decide +kernel
theorem qX3_checkPoint_0 : decode (mB mX3_checkPoint) 0 = .ok (.iload_n 1, 1) := by decide +kernel
theorem qX3_checkPoint_1 : decode (mB mX3_checkPoint) 1 = .ok (.ifCond .lt 11, 3) := by decide +kernel
theorem qX3_checkPoint_4 : decode (mB mX3_checkPoint) 4 = .ok (.iload_n 1, 1) := by decide +kernel
theorem qX3_checkPoint_5 : decode (mB mX3_checkPoint) 5 = .ok (.aload_n 0, 1) := by decide +kernel
theorem qX3_checkPoint_6 : decode (mB mX3_checkPoint) 6 = .ok (.getfield 179, 3) := by decide +kernel
theorem qX3_checkPoint_9 : decode (mB mX3_checkPoint) 9 = .ok (.if_icmp .lt 14, 3) := by decide +kernel
theorem qX3_checkPoint_12 : decode (mB mX3_checkPoint) 12 = .ok (.new 295, 3) := by decide +kernel
theorem qX3_checkPoint_15 : decode (mB mX3_checkPoint) 15 = .ok (.dup, 1) := by decide +kernel
theorem qX3_checkPoint_16 : decode (mB mX3_checkPoint) 16 = .ok (.ldc_w 320, 3) := by decide +kernel
theorem qX3_checkPoint_19 : decode (mB mX3_checkPoint) 19 = .ok (.invokespecial 299, 3) := by decide +kernel
theorem qX3_checkPoint_22 : decode (mB mX3_checkPoint) 22 = .ok (.athrow, 1) := by decide +kernel
theorem qX3_checkPoint_23 : decode (mB mX3_checkPoint) 23 = .ok (.return_, 1) := by decide +kernel
theorem qX3_checkRange_0 : decode (mB mX3_checkRange) 0 = .ok (.iload_n 0, 1) := by decide +kernel
theorem qX3_checkRange_1 : decode (mB mX3_checkRange) 1 = .ok (.iload_n 1, 1) := by decide +kernel
theorem qX3_checkRange_2 : decode (mB mX3_checkRange) 2 = .ok (.if_icmp .lt 8, 3) := by decide +kernel
theorem qX3_checkRange_5 : decode (mB mX3_checkRange) 5 = .ok (.iload_n 0, 1) := by decide +kernel
theorem qX3_checkRange_6 : decode (mB mX3_checkRange) 6 = .ok (.iload_n 2, 1) := by decide +kernel
theorem qX3_checkRange_7 : decode (mB mX3_checkRange) 7 = .ok (.if_icmp .le 14, 3) := by decide +kernel
theorem qX3_checkRange_10 : decode (mB mX3_checkRange) 10 = .ok (.new 90, 3) := by decide +kernel
theorem qX3_checkRange_13 : decode (mB mX3_checkRange) 13 = .ok (.dup, 1) := by decide +kernel
theorem qX3_checkRange_14 : decode (mB mX3_checkRange) 14 = .ok (.ldc_w 318, 3) := by decide +kernel
theorem qX3_checkRange_17 : decode (mB mX3_checkRange) 17 = .ok (.invokespecial 94, 3) := by decide +kernel
theorem qX3_checkRange_20 : decode (mB mX3_checkRange) 20 = .ok (.athrow, 1) := by decide +kernel
theorem qX3_checkRange_21 : decode (mB mX3_checkRange) 21 = .ok (.return_, 1) := by decide +kernel
theorem qX3_checkScale_0 : decode (mB mX3_checkScale) 0 = .ok (.aload_n 0, 1) := by decide +kernel
theorem qX3_checkScale_1 : decode (mB mX3_checkScale) 1 = .ok (.invokevirtual 192, 3) := by decide +kernel
theorem qX3_checkScale_4 : decode (mB mX3_checkScale) 4 = .ok (.ifCond .ne 14, 3) := by decide +kernel
theorem qX3_checkScale_7 : decode (mB mX3_checkScale) 7 = .ok (.new 295, 3) := by decide +kernel
theorem qX3_checkScale_10 : decode (mB mX3_checkScale) 10 = .ok (.dup, 1) := by decide +kernel
theorem qX3_checkScale_11 : decode (mB mX3_checkScale) 11 = .ok (.ldc_w 322, 3) := by decide +kernel
theorem qX3_checkScale_14 : decode (mB mX3_checkScale) 14 = .ok (.invokespecial 299, 3) := by decide +kernel
theorem qX3_checkScale_17 : decode (mB mX3_checkScale) 17 = .ok (.athrow, 1) := by decide +kernel
theorem qX3_checkScale_18 : decode (mB mX3_checkScale) 18 = .ok (.return_, 1) := by decide +kernel
theorem qX3_checkSlot_0 : decode (mB mX3_checkSlot) 0 = .ok (.iload_n 0, 1) := by decide +kernel
theorem qX3_checkSlot_1 : decode (mB mX3_checkSlot) 1 = .ok (.ifCond .lt 8, 3) := by decide +kernel
theorem qX3_checkSlot_4 : decode (mB mX3_checkSlot) 4 = .ok (.iload_n 0, 1) := by decide +kernel
theorem qX3_checkSlot_5 : decode (mB mX3_checkSlot) 5 = .ok (.iconst 2, 1) := by decide +kernel
theorem qX3_checkSlot_6 : decode (mB mX3_checkSlot) 6 = .ok (.if_icmp .lt 14, 3) := by decide +kernel
theorem qX3_checkSlot_9 : decode (mB mX3_checkSlot) 9 = .ok (.new 304, 3) := by decide +kernel
theorem qX3_checkSlot_12 : decode (mB mX3_checkSlot) 12 = .ok (.dup, 1) := by decide +kernel
theorem qX3_checkSlot_13 : decode (mB mX3_checkSlot) 13 = .ok (.ldc_w 316, 3) := by decide +kernel
theorem qX3_checkSlot_16 : decode (mB mX3_checkSlot) 16 = .ok (.invokespecial 308, 3) := by decide +kernel
theorem qX3_checkSlot_19 : decode (mB mX3_checkSlot) 19 = .ok (.athrow, 1) := by decide +kernel
theorem qX3_checkSlot_20 : decode (mB mX3_checkSlot) 20 = .ok (.return_, 1) := by decide +kernel
theorem qX3_checkSpirit_0 : decode (mB mX3_checkSpirit) 0 = .ok (.iload_n 1, 1) := by decide +kernel
theorem qX3_checkSpirit_1 : decode (mB mX3_checkSpirit) 1 = .ok (.ifCond .lt 14, 3) := by decide +kernel
theorem qX3_checkSpirit_4 : decode (mB mX3_checkSpirit) 4 = .ok (.iload_n 1, 1) := by decide +kernel
theorem qX3_checkSpirit_5 : decode (mB mX3_checkSpirit) 5 = .ok (.aload_n 0, 1) := by decide +kernel
theorem qX3_checkSpirit_6 : decode (mB mX3_checkSpirit) 6 = .ok (.getfield 40, 3) := by decide +kernel
theorem qX3_checkSpirit_9 : decode (mB mX3_checkSpirit) 9 = .ok (.getfield 311, 3) := by decide +kernel
theorem qX3_checkSpirit_12 : decode (mB mX3_checkSpirit) 12 = .ok (.if_icmp .lt 14, 3) := by decide +kernel
theorem qX3_checkSpirit_15 : decode (mB mX3_checkSpirit) 15 = .ok (.new 304, 3) := by decide +kernel
theorem qX3_checkSpirit_18 : decode (mB mX3_checkSpirit) 18 = .ok (.dup, 1) := by decide +kernel
theorem qX3_checkSpirit_19 : decode (mB mX3_checkSpirit) 19 = .ok (.ldc_w 314, 3) := by decide +kernel
theorem qX3_checkSpirit_22 : decode (mB mX3_checkSpirit) 22 = .ok (.invokespecial 308, 3) := by decide +kernel
theorem qX3_checkSpirit_25 : decode (mB mX3_checkSpirit) 25 = .ok (.athrow, 1) := by decide +kernel
theorem qX3_checkSpirit_26 : decode (mB mX3_checkSpirit) 26 = .ok (.return_, 1) := by decide +kernel
theorem qX3_checkedTube_0 : decode (mB mX3_checkedTube) 0 = .ok (.iload_n 1, 1) := by decide +kernel
theorem qX3_checkedTube_1 : decode (mB mX3_checkedTube) 1 = .ok (.ifCond .lt 14, 3) := by decide +kernel
theorem qX3_checkedTube_4 : decode (mB mX3_checkedTube) 4 = .ok (.iload_n 1, 1) := by decide +kernel
theorem qX3_checkedTube_5 : decode (mB mX3_checkedTube) 5 = .ok (.aload_n 0, 1) := by decide +kernel
theorem qX3_checkedTube_6 : decode (mB mX3_checkedTube) 6 = .ok (.getfield 40, 3) := by decide +kernel
theorem qX3_checkedTube_9 : decode (mB mX3_checkedTube) 9 = .ok (.getfield 104, 3) := by decide +kernel
theorem qX3_checkedTube_12 : decode (mB mX3_checkedTube) 12 = .ok (.if_icmp .lt 14, 3) := by decide +kernel
theorem qX3_checkedTube_15 : decode (mB mX3_checkedTube) 15 = .ok (.new 304, 3) := by decide +kernel
theorem qX3_checkedTube_18 : decode (mB mX3_checkedTube) 18 = .ok (.dup, 1) := by decide +kernel
theorem qX3_checkedTube_19 : decode (mB mX3_checkedTube) 19 = .ok (.ldc_w 306, 3) := by decide +kernel
theorem qX3_checkedTube_22 : decode (mB mX3_checkedTube) 22 = .ok (.invokespecial 308, 3) := by decide +kernel
theorem qX3_checkedTube_25 : decode (mB mX3_checkedTube) 25 = .ok (.athrow, 1) := by decide +kernel
theorem qX3_checkedTube_26 : decode (mB mX3_checkedTube) 26 = .ok (.aload_n 0, 1) := by decide +kernel
theorem qX3_checkedTube_27 : decode (mB mX3_checkedTube) 27 = .ok (.getfield 40, 3) := by decide +kernel
theorem qX3_checkedTube_30 : decode (mB mX3_checkedTube) 30 = .ok (.getfield 120, 3) := by decide +kernel
theorem qX3_checkedTube_33 : decode (mB mX3_checkedTube) 33 = .ok (.iload_n 1, 1) := by decide +kernel
theorem qX3_checkedTube_34 : decode (mB mX3_checkedTube) 34 = .ok (.aaload, 1) := by decide +kernel
theorem qX3_checkedTube_35 : decode (mB mX3_checkedTube) 35 = .ok (.areturn, 1) := by decide +kernel
theorem qX3_dip_0 : decode (mB mX3_dip) 0 = .ok (.aload_n 0, 1) := by decide +kernel
theorem qX3_dip_1 : decode (mB mX3_dip) 1 = .ok (.iload_n 1, 1) := by decide +kernel
theorem qX3_dip_2 : decode (mB mX3_dip) 2 = .ok (.invokevirtual 141, 3) := by decide +kernel
theorem qX3_dip_5 : decode (mB mX3_dip) 5 = .ok (.astore_n 3, 1) := by decide +kernel
theorem qX3_dip_6 : decode (mB mX3_dip) 6 = .ok (.aload_n 0, 1) := by decide +kernel
theorem qX3_dip_7 : decode (mB mX3_dip) 7 = .ok (.iload_n 2, 1) := by decide +kernel
theorem qX3_dip_8 : decode (mB mX3_dip) 8 = .ok (.invokevirtual 113, 3) := by decide +kernel
theorem qX3_dip_11 : decode (mB mX3_dip) 11 = .ok (.aload_n 0, 1) := by decide +kernel
theorem qX3_dip_12 : decode (mB mX3_dip) 12 = .ok (.getfield 40, 3) := by decide +kernel
theorem qX3_dip_15 : decode (mB mX3_dip) 15 = .ok (.aload_n 3, 1) := by decide +kernel
theorem qX3_dip_16 : decode (mB mX3_dip) 16 = .ok (.iload_n 2, 1) := by decide +kernel
theorem qX3_dip_17 : decode (mB mX3_dip) 17 = .ok (.invokevirtual 209, 3) := by decide +kernel
theorem qX3_dip_20 : decode (mB mX3_dip) 20 = .ok (.ifCond .eq 13, 3) := by decide +kernel
theorem qX3_dip_23 : decode (mB mX3_dip) 23 = .ok (.new 80, 3) := by decide +kernel
theorem qX3_dip_26 : decode (mB mX3_dip) 26 = .ok (.dup, 1) := by decide +kernel
theorem qX3_dip_27 : decode (mB mX3_dip) 27 = .ok (.ldc 253, 2) := by decide +kernel
theorem qX3_dip_29 : decode (mB mX3_dip) 29 = .ok (.invokespecial 84, 3) := by decide +kernel
theorem qX3_dip_32 : decode (mB mX3_dip) 32 = .ok (.athrow, 1) := by decide +kernel
theorem qX3_dip_33 : decode (mB mX3_dip) 33 = .ok (.aload_n 0, 1) := by decide +kernel
theorem qX3_dip_34 : decode (mB mX3_dip) 34 = .ok (.invokevirtual 101, 3) := by decide +kernel
theorem qX3_dip_37 : decode (mB mX3_dip) 37 = .ok (.aload_n 3, 1) := by decide +kernel
theorem qX3_dip_38 : decode (mB mX3_dip) 38 = .ok (.iload_n 2, 1) := by decide +kernel
theorem qX3_dip_39 : decode (mB mX3_dip) 39 = .ok (.putfield 124, 3) := by decide +kernel
theorem qX3_dip_42 : decode (mB mX3_dip) 42 = .ok (.aload_n 0, 1) := by decide +kernel
theorem qX3_dip_43 : decode (mB mX3_dip) 43 = .ok (.getfield 40, 3) := by decide +kernel
theorem qX3_dip_46 : decode (mB mX3_dip) 46 = .ok (.aload_n 3, 1) := by decide +kernel
theorem qX3_dip_47 : decode (mB mX3_dip) 47 = .ok (.invokevirtual 148, 3) := by decide +kernel
theorem qX3_dip_50 : decode (mB mX3_dip) 50 = .ok (.ireturn, 1) := by decide +kernel
theorem qX3_dipRefusal_0 : decode (mB mX3_dipRefusal) 0 = .ok (.aload_n 0, 1) := by decide +kernel
theorem qX3_dipRefusal_1 : decode (mB mX3_dipRefusal) 1 = .ok (.iload_n 1, 1) := by decide +kernel
theorem qX3_dipRefusal_2 : decode (mB mX3_dipRefusal) 2 = .ok (.invokevirtual 141, 3) := by decide +kernel
theorem qX3_dipRefusal_5 : decode (mB mX3_dipRefusal) 5 = .ok (.astore_n 3, 1) := by decide +kernel
theorem qX3_dipRefusal_6 : decode (mB mX3_dipRefusal) 6 = .ok (.aload_n 0, 1) := by decide +kernel
theorem qX3_dipRefusal_7 : decode (mB mX3_dipRefusal) 7 = .ok (.iload_n 2, 1) := by decide +kernel
theorem qX3_dipRefusal_8 : decode (mB mX3_dipRefusal) 8 = .ok (.invokevirtual 113, 3) := by decide +kernel
theorem qX3_dipRefusal_11 : decode (mB mX3_dipRefusal) 11 = .ok (.aload_n 0, 1) := by decide +kernel
theorem qX3_dipRefusal_12 : decode (mB mX3_dipRefusal) 12 = .ok (.getfield 40, 3) := by decide +kernel
theorem qX3_dipRefusal_15 : decode (mB mX3_dipRefusal) 15 = .ok (.aload_n 3, 1) := by decide +kernel
theorem qX3_dipRefusal_16 : decode (mB mX3_dipRefusal) 16 = .ok (.iload_n 2, 1) := by decide +kernel
theorem qX3_dipRefusal_17 : decode (mB mX3_dipRefusal) 17 = .ok (.invokevirtual 209, 3) := by decide +kernel
theorem qX3_dipRefusal_20 : decode (mB mX3_dipRefusal) 20 = .ok (.ireturn, 1) := by decide +kernel
theorem qX3_disagreement_0 : decode (mB mX3_disagreement) 0 = .ok (.aload_n 0, 1) := by decide +kernel
theorem qX3_disagreement_1 : decode (mB mX3_disagreement) 1 = .ok (.iload_n 1, 1) := by decide +kernel
theorem qX3_disagreement_2 : decode (mB mX3_disagreement) 2 = .ok (.invokevirtual 141, 3) := by decide +kernel
theorem qX3_disagreement_5 : decode (mB mX3_disagreement) 5 = .ok (.astore_n 3, 1) := by decide +kernel
theorem qX3_disagreement_6 : decode (mB mX3_disagreement) 6 = .ok (.aload_n 0, 1) := by decide +kernel
theorem qX3_disagreement_7 : decode (mB mX3_disagreement) 7 = .ok (.iload_n 2, 1) := by decide +kernel
theorem qX3_disagreement_8 : decode (mB mX3_disagreement) 8 = .ok (.invokevirtual 141, 3) := by decide +kernel
theorem qX3_disagreement_11 : decode (mB mX3_disagreement) 11 = .ok (.astore 4, 2) := by decide +kernel
theorem qX3_disagreement_13 : decode (mB mX3_disagreement) 13 = .ok (.aload_n 3, 1) := by decide +kernel
theorem qX3_disagreement_14 : decode (mB mX3_disagreement) 14 = .ok (.invokestatic 196, 3) := by decide +kernel
theorem qX3_disagreement_17 : decode (mB mX3_disagreement) 17 = .ok (.aload 4, 2) := by decide +kernel
theorem qX3_disagreement_19 : decode (mB mX3_disagreement) 19 = .ok (.invokestatic 196, 3) := by decide +kernel
theorem qX3_disagreement_22 : decode (mB mX3_disagreement) 22 = .ok (.aload_n 3, 1) := by decide +kernel
theorem qX3_disagreement_23 : decode (mB mX3_disagreement) 23 = .ok (.invokevirtual 200, 3) := by decide +kernel
theorem qX3_disagreement_26 : decode (mB mX3_disagreement) 26 = .ok (.aload 4, 2) := by decide +kernel
theorem qX3_disagreement_28 : decode (mB mX3_disagreement) 28 = .ok (.invokevirtual 200, 3) := by decide +kernel
theorem qX3_disagreement_31 : decode (mB mX3_disagreement) 31 = .ok (.isub, 1) := by decide +kernel
theorem qX3_disagreement_32 : decode (mB mX3_disagreement) 32 = .ok (.invokestatic 216, 3) := by decide +kernel
theorem qX3_disagreement_35 : decode (mB mX3_disagreement) 35 = .ok (.ireturn, 1) := by decide +kernel
theorem qX3_emptyGalleries_0 : decode (mB mX3_emptyGalleries) 0 = .ok (.iload_n 0, 1) := by decide +kernel
theorem qX3_emptyGalleries_1 : decode (mB mX3_emptyGalleries) 1 = .ok (.anewarray 10, 3) := by decide +kernel
theorem qX3_emptyGalleries_4 : decode (mB mX3_emptyGalleries) 4 = .ok (.astore_n 1, 1) := by decide +kernel
theorem qX3_emptyGalleries_5 : decode (mB mX3_emptyGalleries) 5 = .ok (.iconst 0, 1) := by decide +kernel
theorem qX3_emptyGalleries_6 : decode (mB mX3_emptyGalleries) 6 = .ok (.istore_n 2, 1) := by decide +kernel
theorem qX3_emptyGalleries_7 : decode (mB mX3_emptyGalleries) 7 = .ok (.iload_n 2, 1) := by decide +kernel
theorem qX3_emptyGalleries_8 : decode (mB mX3_emptyGalleries) 8 = .ok (.iload_n 0, 1) := by decide +kernel
theorem qX3_emptyGalleries_9 : decode (mB mX3_emptyGalleries) 9 = .ok (.if_icmp .ge 19, 3) := by decide +kernel
theorem qX3_emptyGalleries_12 : decode (mB mX3_emptyGalleries) 12 = .ok (.aload_n 1, 1) := by decide +kernel
theorem qX3_emptyGalleries_13 : decode (mB mX3_emptyGalleries) 13 = .ok (.iload_n 2, 1) := by decide +kernel
theorem qX3_emptyGalleries_14 : decode (mB mX3_emptyGalleries) 14 = .ok (.new 10, 3) := by decide +kernel
theorem qX3_emptyGalleries_17 : decode (mB mX3_emptyGalleries) 17 = .ok (.dup, 1) := by decide +kernel
theorem qX3_emptyGalleries_18 : decode (mB mX3_emptyGalleries) 18 = .ok (.invokespecial 12, 3) := by decide +kernel
theorem qX3_emptyGalleries_21 : decode (mB mX3_emptyGalleries) 21 = .ok (.aastore, 1) := by decide +kernel
theorem qX3_emptyGalleries_22 : decode (mB mX3_emptyGalleries) 22 = .ok (.iinc 2 1, 3) := by decide +kernel
theorem qX3_emptyGalleries_25 : decode (mB mX3_emptyGalleries) 25 = .ok (.goto (-18), 3) := by decide +kernel
theorem qX3_emptyGalleries_28 : decode (mB mX3_emptyGalleries) 28 = .ok (.aload_n 1, 1) := by decide +kernel
theorem qX3_emptyGalleries_29 : decode (mB mX3_emptyGalleries) 29 = .ok (.areturn, 1) := by decide +kernel
theorem qX3_erasePoint_0 : decode (mB mX3_erasePoint) 0 = .ok (.aload_n 0, 1) := by decide +kernel
theorem qX3_erasePoint_1 : decode (mB mX3_erasePoint) 1 = .ok (.iload_n 1, 1) := by decide +kernel
theorem qX3_erasePoint_2 : decode (mB mX3_erasePoint) 2 = .ok (.invokevirtual 141, 3) := by decide +kernel
theorem qX3_erasePoint_5 : decode (mB mX3_erasePoint) 5 = .ok (.astore_n 3, 1) := by decide +kernel
theorem qX3_erasePoint_6 : decode (mB mX3_erasePoint) 6 = .ok (.aload_n 3, 1) := by decide +kernel
theorem qX3_erasePoint_7 : decode (mB mX3_erasePoint) 7 = .ok (.iload_n 2, 1) := by decide +kernel
theorem qX3_erasePoint_8 : decode (mB mX3_erasePoint) 8 = .ok (.invokestatic 182, 3) := by decide +kernel
theorem qX3_erasePoint_11 : decode (mB mX3_erasePoint) 11 = .ok (.aload_n 0, 1) := by decide +kernel
theorem qX3_erasePoint_12 : decode (mB mX3_erasePoint) 12 = .ok (.invokevirtual 101, 3) := by decide +kernel
theorem qX3_erasePoint_15 : decode (mB mX3_erasePoint) 15 = .ok (.aload_n 3, 1) := by decide +kernel
theorem qX3_erasePoint_16 : decode (mB mX3_erasePoint) 16 = .ok (.getfield 189, 3) := by decide +kernel
theorem qX3_erasePoint_19 : decode (mB mX3_erasePoint) 19 = .ok (.iload_n 2, 1) := by decide +kernel
theorem qX3_erasePoint_20 : decode (mB mX3_erasePoint) 20 = .ok (.iaload, 1) := by decide +kernel
theorem qX3_erasePoint_21 : decode (mB mX3_erasePoint) 21 = .ok (.istore 4, 2) := by decide +kernel
theorem qX3_erasePoint_23 : decode (mB mX3_erasePoint) 23 = .ok (.aload_n 3, 1) := by decide +kernel
theorem qX3_erasePoint_24 : decode (mB mX3_erasePoint) 24 = .ok (.iload_n 2, 1) := by decide +kernel
theorem qX3_erasePoint_25 : decode (mB mX3_erasePoint) 25 = .ok (.invokevirtual 262, 3) := by decide +kernel
theorem qX3_erasePoint_28 : decode (mB mX3_erasePoint) 28 = .ok (.iload 4, 2) := by decide +kernel
theorem qX3_erasePoint_30 : decode (mB mX3_erasePoint) 30 = .ok (.ireturn, 1) := by decide +kernel
theorem qX3_errorCode_0 : decode (mB mX3_errorCode) 0 = .ok (.aload_n 0, 1) := by decide +kernel
theorem qX3_errorCode_1 : decode (mB mX3_errorCode) 1 = .ok (.getfield 74, 3) := by decide +kernel
theorem qX3_errorCode_4 : decode (mB mX3_errorCode) 4 = .ok (.ireturn, 1) := by decide +kernel
theorem qX3_errorOffset_0 : decode (mB mX3_errorOffset) 0 = .ok (.aload_n 0, 1) := by decide +kernel
theorem qX3_errorOffset_1 : decode (mB mX3_errorOffset) 1 = .ok (.getfield 77, 3) := by decide +kernel
theorem qX3_errorOffset_4 : decode (mB mX3_errorOffset) 4 = .ok (.ireturn, 1) := by decide +kernel
theorem qX3_fillOf_0 : decode (mB mX3_fillOf) 0 = .ok (.aload_n 0, 1) := by decide +kernel
theorem qX3_fillOf_1 : decode (mB mX3_fillOf) 1 = .ok (.iload_n 1, 1) := by decide +kernel
theorem qX3_fillOf_2 : decode (mB mX3_fillOf) 2 = .ok (.invokevirtual 141, 3) := by decide +kernel
theorem qX3_fillOf_5 : decode (mB mX3_fillOf) 5 = .ok (.getfield 135, 3) := by decide +kernel
theorem qX3_fillOf_8 : decode (mB mX3_fillOf) 8 = .ok (.ireturn, 1) := by decide +kernel
theorem qX3_fitError_0 : decode (mB mX3_fitError) 0 = .ok (.aload_n 0, 1) := by decide +kernel
theorem qX3_fitError_1 : decode (mB mX3_fitError) 1 = .ok (.iload_n 1, 1) := by decide +kernel
theorem qX3_fitError_2 : decode (mB mX3_fitError) 2 = .ok (.invokevirtual 141, 3) := by decide +kernel
theorem qX3_fitError_5 : decode (mB mX3_fitError) 5 = .ok (.astore_n 2, 1) := by decide +kernel
theorem qX3_fitError_6 : decode (mB mX3_fitError) 6 = .ok (.aload_n 2, 1) := by decide +kernel
theorem qX3_fitError_7 : decode (mB mX3_fitError) 7 = .ok (.invokestatic 196, 3) := by decide +kernel
theorem qX3_fitError_10 : decode (mB mX3_fitError) 10 = .ok (.aload_n 2, 1) := by decide +kernel
theorem qX3_fitError_11 : decode (mB mX3_fitError) 11 = .ok (.invokevirtual 206, 3) := by decide +kernel
theorem qX3_fitError_14 : decode (mB mX3_fitError) 14 = .ok (.ireturn, 1) := by decide +kernel
theorem qX3_freeHeightAt_0 : decode (mB mX3_freeHeightAt) 0 = .ok (.aload_n 0, 1) := by decide +kernel
theorem qX3_freeHeightAt_1 : decode (mB mX3_freeHeightAt) 1 = .ok (.iload_n 1, 1) := by decide +kernel
theorem qX3_freeHeightAt_2 : decode (mB mX3_freeHeightAt) 2 = .ok (.invokevirtual 141, 3) := by decide +kernel
theorem qX3_freeHeightAt_5 : decode (mB mX3_freeHeightAt) 5 = .ok (.astore_n 3, 1) := by decide +kernel
theorem qX3_freeHeightAt_6 : decode (mB mX3_freeHeightAt) 6 = .ok (.iload_n 2, 1) := by decide +kernel
theorem qX3_freeHeightAt_7 : decode (mB mX3_freeHeightAt) 7 = .ok (.sipush (-200), 3) := by decide +kernel
theorem qX3_freeHeightAt_10 : decode (mB mX3_freeHeightAt) 10 = .ok (.sipush 1500, 3) := by decide +kernel
theorem qX3_freeHeightAt_13 : decode (mB mX3_freeHeightAt) 13 = .ok (.invokestatic 164, 3) := by decide +kernel
theorem qX3_freeHeightAt_16 : decode (mB mX3_freeHeightAt) 16 = .ok (.aload_n 3, 1) := by decide +kernel
theorem qX3_freeHeightAt_17 : decode (mB mX3_freeHeightAt) 17 = .ok (.iload_n 2, 1) := by decide +kernel
theorem qX3_freeHeightAt_18 : decode (mB mX3_freeHeightAt) 18 = .ok (.invokevirtual 168, 3) := by decide +kernel
theorem qX3_freeHeightAt_21 : decode (mB mX3_freeHeightAt) 21 = .ok (.ireturn, 1) := by decide +kernel
theorem qX3_greatestTemperature_0 : decode (mB mX3_greatestTemperature) 0 = .ok (.aload_n 0, 1) := by decide +kernel
theorem qX3_greatestTemperature_1 : decode (mB mX3_greatestTemperature) 1 = .ok (.iload_n 1, 1) := by decide +kernel
theorem qX3_greatestTemperature_2 : decode (mB mX3_greatestTemperature) 2 = .ok (.invokevirtual 141, 3) := by decide +kernel
theorem qX3_greatestTemperature_5 : decode (mB mX3_greatestTemperature) 5 = .ok (.astore_n 2, 1) := by decide +kernel
theorem qX3_greatestTemperature_6 : decode (mB mX3_greatestTemperature) 6 = .ok (.sipush 1500, 3) := by decide +kernel
theorem qX3_greatestTemperature_9 : decode (mB mX3_greatestTemperature) 9 = .ok (.istore_n 3, 1) := by decide +kernel
theorem qX3_greatestTemperature_10 : decode (mB mX3_greatestTemperature) 10 = .ok (.iload_n 3, 1) := by decide +kernel
theorem qX3_greatestTemperature_11 : decode (mB mX3_greatestTemperature) 11 = .ok (.sipush (-200), 3) := by decide +kernel
theorem qX3_greatestTemperature_14 : decode (mB mX3_greatestTemperature) 14 = .ok (.if_icmp .lt 23, 3) := by decide +kernel
theorem qX3_greatestTemperature_17 : decode (mB mX3_greatestTemperature) 17 = .ok (.aload_n 2, 1) := by decide +kernel
theorem qX3_greatestTemperature_18 : decode (mB mX3_greatestTemperature) 18 = .ok (.iload_n 3, 1) := by decide +kernel
theorem qX3_greatestTemperature_19 : decode (mB mX3_greatestTemperature) 19 = .ok (.invokevirtual 168, 3) := by decide +kernel
theorem qX3_greatestTemperature_22 : decode (mB mX3_greatestTemperature) 22 = .ok (.aload_n 2, 1) := by decide +kernel
theorem qX3_greatestTemperature_23 : decode (mB mX3_greatestTemperature) 23 = .ok (.getfield 172, 3) := by decide +kernel
theorem qX3_greatestTemperature_26 : decode (mB mX3_greatestTemperature) 26 = .ok (.if_icmp .gt 5, 3) := by decide +kernel
theorem qX3_greatestTemperature_29 : decode (mB mX3_greatestTemperature) 29 = .ok (.iload_n 3, 1) := by decide +kernel
theorem qX3_greatestTemperature_30 : decode (mB mX3_greatestTemperature) 30 = .ok (.ireturn, 1) := by decide +kernel
theorem qX3_greatestTemperature_31 : decode (mB mX3_greatestTemperature) 31 = .ok (.iinc 3 (-1), 3) := by decide +kernel
theorem qX3_greatestTemperature_34 : decode (mB mX3_greatestTemperature) 34 = .ok (.goto (-24), 3) := by decide +kernel
theorem qX3_greatestTemperature_37 : decode (mB mX3_greatestTemperature) 37 = .ok (.sipush (-1000), 3) := by decide +kernel
theorem qX3_greatestTemperature_40 : decode (mB mX3_greatestTemperature) 40 = .ok (.ireturn, 1) := by decide +kernel
theorem qX3_hasScale_0 : decode (mB mX3_hasScale) 0 = .ok (.aload_n 0, 1) := by decide +kernel
theorem qX3_hasScale_1 : decode (mB mX3_hasScale) 1 = .ok (.iload_n 1, 1) := by decide +kernel
theorem qX3_hasScale_2 : decode (mB mX3_hasScale) 2 = .ok (.invokevirtual 141, 3) := by decide +kernel
theorem qX3_hasScale_5 : decode (mB mX3_hasScale) 5 = .ok (.invokevirtual 192, 3) := by decide +kernel
theorem qX3_hasScale_8 : decode (mB mX3_hasScale) 8 = .ok (.ireturn, 1) := by decide +kernel
theorem qX3_height_0 : decode (mB mX3_height) 0 = .ok (.aload_n 0, 1) := by decide +kernel
theorem qX3_height_1 : decode (mB mX3_height) 1 = .ok (.iload_n 1, 1) := by decide +kernel
theorem qX3_height_2 : decode (mB mX3_height) 2 = .ok (.invokevirtual 141, 3) := by decide +kernel
theorem qX3_height_5 : decode (mB mX3_height) 5 = .ok (.invokevirtual 160, 3) := by decide +kernel
theorem qX3_height_8 : decode (mB mX3_height) 8 = .ok (.ireturn, 1) := by decide +kernel
theorem qX3_heightAfter_0 : decode (mB mX3_heightAfter) 0 = .ok (.aload_n 0, 1) := by decide +kernel
theorem qX3_heightAfter_1 : decode (mB mX3_heightAfter) 1 = .ok (.iload_n 1, 1) := by decide +kernel
theorem qX3_heightAfter_2 : decode (mB mX3_heightAfter) 2 = .ok (.invokevirtual 141, 3) := by decide +kernel
theorem qX3_heightAfter_5 : decode (mB mX3_heightAfter) 5 = .ok (.pop, 1) := by decide +kernel
theorem qX3_heightAfter_6 : decode (mB mX3_heightAfter) 6 = .ok (.iload_n 2, 1) := by decide +kernel
theorem qX3_heightAfter_7 : decode (mB mX3_heightAfter) 7 = .ok (.iconst 0, 1) := by decide +kernel
theorem qX3_heightAfter_8 : decode (mB mX3_heightAfter) 8 = .ok (.sipush 300, 3) := by decide +kernel
theorem qX3_heightAfter_11 : decode (mB mX3_heightAfter) 11 = .ok (.invokestatic 164, 3) := by decide +kernel
theorem qX3_heightAfter_14 : decode (mB mX3_heightAfter) 14 = .ok (.aload_n 0, 1) := by decide +kernel
theorem qX3_heightAfter_15 : decode (mB mX3_heightAfter) 15 = .ok (.getfield 43, 3) := by decide +kernel
theorem qX3_heightAfter_18 : decode (mB mX3_heightAfter) 18 = .ok (.aload_n 0, 1) := by decide +kernel
theorem qX3_heightAfter_19 : decode (mB mX3_heightAfter) 19 = .ok (.getfield 40, 3) := by decide +kernel
theorem qX3_heightAfter_22 : decode (mB mX3_heightAfter) 22 = .ok (.invokevirtual 28, 3) := by decide +kernel
theorem qX3_heightAfter_25 : decode (mB mX3_heightAfter) 25 = .ok (.aload_n 0, 1) := by decide +kernel
theorem qX3_heightAfter_26 : decode (mB mX3_heightAfter) 26 = .ok (.getfield 43, 3) := by decide +kernel
theorem qX3_heightAfter_29 : decode (mB mX3_heightAfter) 29 = .ok (.iload_n 2, 1) := by decide +kernel
theorem qX3_heightAfter_30 : decode (mB mX3_heightAfter) 30 = .ok (.invokevirtual 247, 3) := by decide +kernel
theorem qX3_heightAfter_33 : decode (mB mX3_heightAfter) 33 = .ok (.pop, 1) := by decide +kernel
theorem qX3_heightAfter_34 : decode (mB mX3_heightAfter) 34 = .ok (.aload_n 0, 1) := by decide +kernel
theorem qX3_heightAfter_35 : decode (mB mX3_heightAfter) 35 = .ok (.getfield 43, 3) := by decide +kernel
theorem qX3_heightAfter_38 : decode (mB mX3_heightAfter) 38 = .ok (.getfield 120, 3) := by decide +kernel
theorem qX3_heightAfter_41 : decode (mB mX3_heightAfter) 41 = .ok (.iload_n 1, 1) := by decide +kernel
theorem qX3_heightAfter_42 : decode (mB mX3_heightAfter) 42 = .ok (.aaload, 1) := by decide +kernel
theorem qX3_heightAfter_43 : decode (mB mX3_heightAfter) 43 = .ok (.invokevirtual 160, 3) := by decide +kernel
theorem qX3_heightAfter_46 : decode (mB mX3_heightAfter) 46 = .ok (.ireturn, 1) := by decide +kernel
theorem qX3_init_0 : decode (mB mX3_init) 0 = .ok (.aload_n 0, 1) := by decide +kernel
theorem qX3_init_1 : decode (mB mX3_init) 1 = .ok (.invokespecial 1, 3) := by decide +kernel
theorem qX3_init_4 : decode (mB mX3_init) 4 = .ok (.new 7, 3) := by decide +kernel
theorem qX3_init_7 : decode (mB mX3_init) 7 = .ok (.dup, 1) := by decide +kernel
theorem qX3_init_8 : decode (mB mX3_init) 8 = .ok (.invokespecial 9, 3) := by decide +kernel
theorem qX3_init_11 : decode (mB mX3_init) 11 = .ok (.astore_n 1, 1) := by decide +kernel
theorem qX3_init_12 : decode (mB mX3_init) 12 = .ok (.new 10, 3) := by decide +kernel
theorem qX3_init_15 : decode (mB mX3_init) 15 = .ok (.dup, 1) := by decide +kernel
theorem qX3_init_16 : decode (mB mX3_init) 16 = .ok (.invokespecial 12, 3) := by decide +kernel
theorem qX3_init_19 : decode (mB mX3_init) 19 = .ok (.astore_n 2, 1) := by decide +kernel
theorem qX3_init_20 : decode (mB mX3_init) 20 = .ok (.aload_n 1, 1) := by decide +kernel
theorem qX3_init_21 : decode (mB mX3_init) 21 = .ok (.ldc 15, 2) := by decide +kernel
theorem qX3_init_23 : decode (mB mX3_init) 23 = .ok (.invokevirtual 17, 3) := by decide +kernel
theorem qX3_init_26 : decode (mB mX3_init) 26 = .ok (.aload_n 1, 1) := by decide +kernel
theorem qX3_init_27 : decode (mB mX3_init) 27 = .ok (.invokevirtual 21, 3) := by decide +kernel
theorem qX3_init_30 : decode (mB mX3_init) 30 = .ok (.aload_n 2, 1) := by decide +kernel
theorem qX3_init_31 : decode (mB mX3_init) 31 = .ok (.aload_n 1, 1) := by decide +kernel
theorem qX3_init_32 : decode (mB mX3_init) 32 = .ok (.getfield 24, 3) := by decide +kernel
theorem qX3_init_35 : decode (mB mX3_init) 35 = .ok (.invokevirtual 28, 3) := by decide +kernel
theorem qX3_init_38 : decode (mB mX3_init) 38 = .ok (.aload_n 1, 1) := by decide +kernel
theorem qX3_init_39 : decode (mB mX3_init) 39 = .ok (.iconst 0, 1) := by decide +kernel
theorem qX3_init_40 : decode (mB mX3_init) 40 = .ok (.putfield 32, 3) := by decide +kernel
theorem qX3_init_43 : decode (mB mX3_init) 43 = .ok (.aload_n 0, 1) := by decide +kernel
theorem qX3_init_44 : decode (mB mX3_init) 44 = .ok (.aload_n 1, 1) := by decide +kernel
theorem qX3_init_45 : decode (mB mX3_init) 45 = .ok (.putfield 36, 3) := by decide +kernel
theorem qX3_init_48 : decode (mB mX3_init) 48 = .ok (.aload_n 0, 1) := by decide +kernel
theorem qX3_init_49 : decode (mB mX3_init) 49 = .ok (.aload_n 2, 1) := by decide +kernel
theorem qX3_init_50 : decode (mB mX3_init) 50 = .ok (.putfield 40, 3) := by decide +kernel
theorem qX3_init_53 : decode (mB mX3_init) 53 = .ok (.aload_n 0, 1) := by decide +kernel
theorem qX3_init_54 : decode (mB mX3_init) 54 = .ok (.new 10, 3) := by decide +kernel
theorem qX3_init_57 : decode (mB mX3_init) 57 = .ok (.dup, 1) := by decide +kernel
theorem qX3_init_58 : decode (mB mX3_init) 58 = .ok (.invokespecial 12, 3) := by decide +kernel
theorem qX3_init_61 : decode (mB mX3_init) 61 = .ok (.putfield 43, 3) := by decide +kernel
theorem qX3_init_64 : decode (mB mX3_init) 64 = .ok (.aload_n 0, 1) := by decide +kernel
theorem qX3_init_65 : decode (mB mX3_init) 65 = .ok (.bipush 6, 2) := by decide +kernel
theorem qX3_init_67 : decode (mB mX3_init) 67 = .ok (.invokestatic 46, 3) := by decide +kernel
theorem qX3_init_70 : decode (mB mX3_init) 70 = .ok (.putfield 50, 3) := by decide +kernel
theorem qX3_init_73 : decode (mB mX3_init) 73 = .ok (.aload_n 0, 1) := by decide +kernel
theorem qX3_init_74 : decode (mB mX3_init) 74 = .ok (.iconst 2, 1) := by decide +kernel
theorem qX3_init_75 : decode (mB mX3_init) 75 = .ok (.invokestatic 46, 3) := by decide +kernel
theorem qX3_init_78 : decode (mB mX3_init) 78 = .ok (.putfield 54, 3) := by decide +kernel
theorem qX3_init_81 : decode (mB mX3_init) 81 = .ok (.aload_n 0, 1) := by decide +kernel
theorem qX3_init_82 : decode (mB mX3_init) 82 = .ok (.iconst 2, 1) := by decide +kernel
theorem qX3_init_83 : decode (mB mX3_init) 83 = .ok (.newarray .boolean, 2) := by decide +kernel
theorem qX3_init_85 : decode (mB mX3_init) 85 = .ok (.putfield 57, 3) := by decide +kernel
theorem qX3_init_88 : decode (mB mX3_init) 88 = .ok (.aload_n 0, 1) := by decide +kernel
theorem qX3_init_89 : decode (mB mX3_init) 89 = .ok (.new 61, 3) := by decide +kernel
theorem qX3_init_92 : decode (mB mX3_init) 92 = .ok (.dup, 1) := by decide +kernel
theorem qX3_init_93 : decode (mB mX3_init) 93 = .ok (.invokespecial 63, 3) := by decide +kernel
theorem qX3_init_96 : decode (mB mX3_init) 96 = .ok (.putfield 64, 3) := by decide +kernel
theorem qX3_init_99 : decode (mB mX3_init) 99 = .ok (.aload_n 0, 1) := by decide +kernel
theorem qX3_init_100 : decode (mB mX3_init) 100 = .ok (.iconst 0, 1) := by decide +kernel
theorem qX3_init_101 : decode (mB mX3_init) 101 = .ok (.putfield 68, 3) := by decide +kernel
theorem qX3_init_104 : decode (mB mX3_init) 104 = .ok (.aload_n 0, 1) := by decide +kernel
theorem qX3_init_105 : decode (mB mX3_init) 105 = .ok (.iconst 0, 1) := by decide +kernel
theorem qX3_init_106 : decode (mB mX3_init) 106 = .ok (.putfield 71, 3) := by decide +kernel
theorem qX3_init_109 : decode (mB mX3_init) 109 = .ok (.aload_n 0, 1) := by decide +kernel
theorem qX3_init_110 : decode (mB mX3_init) 110 = .ok (.iconst 0, 1) := by decide +kernel
theorem qX3_init_111 : decode (mB mX3_init) 111 = .ok (.putfield 74, 3) := by decide +kernel
theorem qX3_init_114 : decode (mB mX3_init) 114 = .ok (.aload_n 0, 1) := by decide +kernel
theorem qX3_init_115 : decode (mB mX3_init) 115 = .ok (.iconst (-1), 1) := by decide +kernel
theorem qX3_init_116 : decode (mB mX3_init) 116 = .ok (.putfield 77, 3) := by decide +kernel
theorem qX3_init_119 : decode (mB mX3_init) 119 = .ok (.return_, 1) := by decide +kernel
theorem qX3_isLeaky_0 : decode (mB mX3_isLeaky) 0 = .ok (.aload_n 0, 1) := by decide +kernel
theorem qX3_isLeaky_1 : decode (mB mX3_isLeaky) 1 = .ok (.iload_n 1, 1) := by decide +kernel
theorem qX3_isLeaky_2 : decode (mB mX3_isLeaky) 2 = .ok (.invokevirtual 141, 3) := by decide +kernel
theorem qX3_isLeaky_5 : decode (mB mX3_isLeaky) 5 = .ok (.getfield 156, 3) := by decide +kernel
theorem qX3_isLeaky_8 : decode (mB mX3_isLeaky) 8 = .ok (.ireturn, 1) := by decide +kernel
theorem qX3_isSettled_0 : decode (mB mX3_isSettled) 0 = .ok (.aload_n 0, 1) := by decide +kernel
theorem qX3_isSettled_1 : decode (mB mX3_isSettled) 1 = .ok (.getfield 40, 3) := by decide +kernel
theorem qX3_isSettled_4 : decode (mB mX3_isSettled) 4 = .ok (.aload_n 0, 1) := by decide +kernel
theorem qX3_isSettled_5 : decode (mB mX3_isSettled) 5 = .ok (.iload_n 1, 1) := by decide +kernel
theorem qX3_isSettled_6 : decode (mB mX3_isSettled) 6 = .ok (.invokevirtual 141, 3) := by decide +kernel
theorem qX3_isSettled_9 : decode (mB mX3_isSettled) 9 = .ok (.invokevirtual 152, 3) := by decide +kernel
theorem qX3_isSettled_12 : decode (mB mX3_isSettled) 12 = .ok (.ireturn, 1) := by decide +kernel
theorem qX3_layThumb_0 : decode (mB mX3_layThumb) 0 = .ok (.aload_n 0, 1) := by decide +kernel
theorem qX3_layThumb_1 : decode (mB mX3_layThumb) 1 = .ok (.iload_n 1, 1) := by decide +kernel
theorem qX3_layThumb_2 : decode (mB mX3_layThumb) 2 = .ok (.invokevirtual 141, 3) := by decide +kernel
theorem qX3_layThumb_5 : decode (mB mX3_layThumb) 5 = .ok (.pop, 1) := by decide +kernel
theorem qX3_layThumb_6 : decode (mB mX3_layThumb) 6 = .ok (.iload_n 2, 1) := by decide +kernel
theorem qX3_layThumb_7 : decode (mB mX3_layThumb) 7 = .ok (.iconst 1, 1) := by decide +kernel
theorem qX3_layThumb_8 : decode (mB mX3_layThumb) 8 = .ok (.bipush 60, 2) := by decide +kernel
theorem qX3_layThumb_10 : decode (mB mX3_layThumb) 10 = .ok (.invokestatic 164, 3) := by decide +kernel
theorem qX3_layThumb_13 : decode (mB mX3_layThumb) 13 = .ok (.aload_n 0, 1) := by decide +kernel
theorem qX3_layThumb_14 : decode (mB mX3_layThumb) 14 = .ok (.invokevirtual 101, 3) := by decide +kernel
theorem qX3_layThumb_17 : decode (mB mX3_layThumb) 17 = .ok (.aload_n 0, 1) := by decide +kernel
theorem qX3_layThumb_18 : decode (mB mX3_layThumb) 18 = .ok (.getfield 40, 3) := by decide +kernel
theorem qX3_layThumb_21 : decode (mB mX3_layThumb) 21 = .ok (.getfield 173, 3) := by decide +kernel
theorem qX3_layThumb_24 : decode (mB mX3_layThumb) 24 = .ok (.istore_n 3, 1) := by decide +kernel
theorem qX3_layThumb_25 : decode (mB mX3_layThumb) 25 = .ok (.aload_n 0, 1) := by decide +kernel
theorem qX3_layThumb_26 : decode (mB mX3_layThumb) 26 = .ok (.getfield 40, 3) := by decide +kernel
theorem qX3_layThumb_29 : decode (mB mX3_layThumb) 29 = .ok (.iload_n 1, 1) := by decide +kernel
theorem qX3_layThumb_30 : decode (mB mX3_layThumb) 30 = .ok (.putfield 173, 3) := by decide +kernel
theorem qX3_layThumb_33 : decode (mB mX3_layThumb) 33 = .ok (.aload_n 0, 1) := by decide +kernel
theorem qX3_layThumb_34 : decode (mB mX3_layThumb) 34 = .ok (.getfield 40, 3) := by decide +kernel
theorem qX3_layThumb_37 : decode (mB mX3_layThumb) 37 = .ok (.iload_n 2, 1) := by decide +kernel
theorem qX3_layThumb_38 : decode (mB mX3_layThumb) 38 = .ok (.putfield 176, 3) := by decide +kernel
theorem qX3_layThumb_41 : decode (mB mX3_layThumb) 41 = .ok (.iload_n 3, 1) := by decide +kernel
theorem qX3_layThumb_42 : decode (mB mX3_layThumb) 42 = .ok (.ireturn, 1) := by decide +kernel
theorem qX3_lift_0 : decode (mB mX3_lift) 0 = .ok (.aload_n 0, 1) := by decide +kernel
theorem qX3_lift_1 : decode (mB mX3_lift) 1 = .ok (.iload_n 1, 1) := by decide +kernel
theorem qX3_lift_2 : decode (mB mX3_lift) 2 = .ok (.invokevirtual 141, 3) := by decide +kernel
theorem qX3_lift_5 : decode (mB mX3_lift) 5 = .ok (.astore_n 2, 1) := by decide +kernel
theorem qX3_lift_6 : decode (mB mX3_lift) 6 = .ok (.aload_n 2, 1) := by decide +kernel
theorem qX3_lift_7 : decode (mB mX3_lift) 7 = .ok (.getfield 124, 3) := by decide +kernel
theorem qX3_lift_10 : decode (mB mX3_lift) 10 = .ok (.istore_n 3, 1) := by decide +kernel
theorem qX3_lift_11 : decode (mB mX3_lift) 11 = .ok (.iload_n 3, 1) := by decide +kernel
theorem qX3_lift_12 : decode (mB mX3_lift) 12 = .ok (.iconst (-1), 1) := by decide +kernel
theorem qX3_lift_13 : decode (mB mX3_lift) 13 = .ok (.if_icmp .ne 13, 3) := by decide +kernel
theorem qX3_lift_16 : decode (mB mX3_lift) 16 = .ok (.new 80, 3) := by decide +kernel
theorem qX3_lift_19 : decode (mB mX3_lift) 19 = .ok (.dup, 1) := by decide +kernel
theorem qX3_lift_20 : decode (mB mX3_lift) 20 = .ok (.ldc 255, 2) := by decide +kernel
theorem qX3_lift_22 : decode (mB mX3_lift) 22 = .ok (.invokespecial 84, 3) := by decide +kernel
theorem qX3_lift_25 : decode (mB mX3_lift) 25 = .ok (.athrow, 1) := by decide +kernel
theorem qX3_lift_26 : decode (mB mX3_lift) 26 = .ok (.aload_n 0, 1) := by decide +kernel
theorem qX3_lift_27 : decode (mB mX3_lift) 27 = .ok (.invokevirtual 101, 3) := by decide +kernel
theorem qX3_lift_30 : decode (mB mX3_lift) 30 = .ok (.aload_n 2, 1) := by decide +kernel
theorem qX3_lift_31 : decode (mB mX3_lift) 31 = .ok (.iconst (-1), 1) := by decide +kernel
theorem qX3_lift_32 : decode (mB mX3_lift) 32 = .ok (.putfield 124, 3) := by decide +kernel
theorem qX3_lift_35 : decode (mB mX3_lift) 35 = .ok (.iload_n 3, 1) := by decide +kernel
theorem qX3_lift_36 : decode (mB mX3_lift) 36 = .ok (.ireturn, 1) := by decide +kernel
theorem qX3_load_0 : decode (mB mX3_load) 0 = .ok (.aload_n 0, 1) := by decide +kernel
theorem qX3_load_1 : decode (mB mX3_load) 1 = .ok (.getfield 36, 3) := by decide +kernel
theorem qX3_load_4 : decode (mB mX3_load) 4 = .ok (.invokevirtual 21, 3) := by decide +kernel
theorem qX3_load_7 : decode (mB mX3_load) 7 = .ok (.aload_n 0, 1) := by decide +kernel
theorem qX3_load_8 : decode (mB mX3_load) 8 = .ok (.getfield 36, 3) := by decide +kernel
theorem qX3_load_11 : decode (mB mX3_load) 11 = .ok (.iconst 0, 1) := by decide +kernel
theorem qX3_load_12 : decode (mB mX3_load) 12 = .ok (.putfield 32, 3) := by decide +kernel
theorem qX3_load_15 : decode (mB mX3_load) 15 = .ok (.aload_n 0, 1) := by decide +kernel
theorem qX3_load_16 : decode (mB mX3_load) 16 = .ok (.aload_n 0, 1) := by decide +kernel
theorem qX3_load_17 : decode (mB mX3_load) 17 = .ok (.getfield 36, 3) := by decide +kernel
theorem qX3_load_20 : decode (mB mX3_load) 20 = .ok (.getfield 95, 3) := by decide +kernel
theorem qX3_load_23 : decode (mB mX3_load) 23 = .ok (.putfield 74, 3) := by decide +kernel
theorem qX3_load_26 : decode (mB mX3_load) 26 = .ok (.aload_n 0, 1) := by decide +kernel
theorem qX3_load_27 : decode (mB mX3_load) 27 = .ok (.aload_n 0, 1) := by decide +kernel
theorem qX3_load_28 : decode (mB mX3_load) 28 = .ok (.getfield 36, 3) := by decide +kernel
theorem qX3_load_31 : decode (mB mX3_load) 31 = .ok (.getfield 98, 3) := by decide +kernel
theorem qX3_load_34 : decode (mB mX3_load) 34 = .ok (.putfield 77, 3) := by decide +kernel
theorem qX3_load_37 : decode (mB mX3_load) 37 = .ok (.aload_n 0, 1) := by decide +kernel
theorem qX3_load_38 : decode (mB mX3_load) 38 = .ok (.getfield 74, 3) := by decide +kernel
theorem qX3_load_41 : decode (mB mX3_load) 41 = .ok (.ifCond .eq 6, 3) := by decide +kernel
theorem qX3_load_44 : decode (mB mX3_load) 44 = .ok (.bipush (-7), 2) := by decide +kernel
theorem qX3_load_46 : decode (mB mX3_load) 46 = .ok (.ireturn, 1) := by decide +kernel
theorem qX3_load_47 : decode (mB mX3_load) 47 = .ok (.aload_n 0, 1) := by decide +kernel
theorem qX3_load_48 : decode (mB mX3_load) 48 = .ok (.invokevirtual 101, 3) := by decide +kernel
theorem qX3_load_51 : decode (mB mX3_load) 51 = .ok (.aload_n 0, 1) := by decide +kernel
theorem qX3_load_52 : decode (mB mX3_load) 52 = .ok (.getfield 40, 3) := by decide +kernel
theorem qX3_load_55 : decode (mB mX3_load) 55 = .ok (.aload_n 0, 1) := by decide +kernel
theorem qX3_load_56 : decode (mB mX3_load) 56 = .ok (.getfield 36, 3) := by decide +kernel
theorem qX3_load_59 : decode (mB mX3_load) 59 = .ok (.getfield 24, 3) := by decide +kernel
theorem qX3_load_62 : decode (mB mX3_load) 62 = .ok (.invokevirtual 28, 3) := by decide +kernel
theorem qX3_load_65 : decode (mB mX3_load) 65 = .ok (.aload_n 0, 1) := by decide +kernel
theorem qX3_load_66 : decode (mB mX3_load) 66 = .ok (.getfield 40, 3) := by decide +kernel
theorem qX3_load_69 : decode (mB mX3_load) 69 = .ok (.getfield 104, 3) := by decide +kernel
theorem qX3_load_72 : decode (mB mX3_load) 72 = .ok (.ireturn, 1) := by decide +kernel
theorem qX3_lossAfter_0 : decode (mB mX3_lossAfter) 0 = .ok (.iload_n 1, 1) := by decide +kernel
theorem qX3_lossAfter_1 : decode (mB mX3_lossAfter) 1 = .ok (.iconst 0, 1) := by decide +kernel
theorem qX3_lossAfter_2 : decode (mB mX3_lossAfter) 2 = .ok (.sipush 300, 3) := by decide +kernel
theorem qX3_lossAfter_5 : decode (mB mX3_lossAfter) 5 = .ok (.invokestatic 164, 3) := by decide +kernel
theorem qX3_lossAfter_8 : decode (mB mX3_lossAfter) 8 = .ok (.aload_n 0, 1) := by decide +kernel
theorem qX3_lossAfter_9 : decode (mB mX3_lossAfter) 9 = .ok (.getfield 43, 3) := by decide +kernel
theorem qX3_lossAfter_12 : decode (mB mX3_lossAfter) 12 = .ok (.aload_n 0, 1) := by decide +kernel
theorem qX3_lossAfter_13 : decode (mB mX3_lossAfter) 13 = .ok (.getfield 40, 3) := by decide +kernel
theorem qX3_lossAfter_16 : decode (mB mX3_lossAfter) 16 = .ok (.invokevirtual 28, 3) := by decide +kernel
theorem qX3_lossAfter_19 : decode (mB mX3_lossAfter) 19 = .ok (.aload_n 0, 1) := by decide +kernel
theorem qX3_lossAfter_20 : decode (mB mX3_lossAfter) 20 = .ok (.getfield 43, 3) := by decide +kernel
theorem qX3_lossAfter_23 : decode (mB mX3_lossAfter) 23 = .ok (.iload_n 1, 1) := by decide +kernel
theorem qX3_lossAfter_24 : decode (mB mX3_lossAfter) 24 = .ok (.invokevirtual 247, 3) := by decide +kernel
theorem qX3_lossAfter_27 : decode (mB mX3_lossAfter) 27 = .ok (.ireturn, 1) := by decide +kernel
theorem qX3_mark_0 : decode (mB mX3_mark) 0 = .ok (.aload_n 0, 1) := by decide +kernel
theorem qX3_mark_1 : decode (mB mX3_mark) 1 = .ok (.iload_n 1, 1) := by decide +kernel
theorem qX3_mark_2 : decode (mB mX3_mark) 2 = .ok (.invokevirtual 141, 3) := by decide +kernel
theorem qX3_mark_5 : decode (mB mX3_mark) 5 = .ok (.astore_n 2, 1) := by decide +kernel
theorem qX3_mark_6 : decode (mB mX3_mark) 6 = .ok (.aload_n 0, 1) := by decide +kernel
theorem qX3_mark_7 : decode (mB mX3_mark) 7 = .ok (.getfield 40, 3) := by decide +kernel
theorem qX3_mark_10 : decode (mB mX3_mark) 10 = .ok (.aload_n 2, 1) := by decide +kernel
theorem qX3_mark_11 : decode (mB mX3_mark) 11 = .ok (.invokevirtual 213, 3) := by decide +kernel
theorem qX3_mark_14 : decode (mB mX3_mark) 14 = .ok (.ifCond .eq 14, 3) := by decide +kernel
theorem qX3_mark_17 : decode (mB mX3_mark) 17 = .ok (.new 80, 3) := by decide +kernel
theorem qX3_mark_20 : decode (mB mX3_mark) 20 = .ok (.dup, 1) := by decide +kernel
theorem qX3_mark_21 : decode (mB mX3_mark) 21 = .ok (.ldc_w 257, 3) := by decide +kernel
theorem qX3_mark_24 : decode (mB mX3_mark) 24 = .ok (.invokespecial 84, 3) := by decide +kernel
theorem qX3_mark_27 : decode (mB mX3_mark) 27 = .ok (.athrow, 1) := by decide +kernel
theorem qX3_mark_28 : decode (mB mX3_mark) 28 = .ok (.aload_n 0, 1) := by decide +kernel
theorem qX3_mark_29 : decode (mB mX3_mark) 29 = .ok (.invokevirtual 101, 3) := by decide +kernel
theorem qX3_mark_32 : decode (mB mX3_mark) 32 = .ok (.aload_n 0, 1) := by decide +kernel
theorem qX3_mark_33 : decode (mB mX3_mark) 33 = .ok (.getfield 40, 3) := by decide +kernel
theorem qX3_mark_36 : decode (mB mX3_mark) 36 = .ok (.aload_n 2, 1) := by decide +kernel
theorem qX3_mark_37 : decode (mB mX3_mark) 37 = .ok (.invokevirtual 259, 3) := by decide +kernel
theorem qX3_mark_40 : decode (mB mX3_mark) 40 = .ok (.aload_n 2, 1) := by decide +kernel
theorem qX3_mark_41 : decode (mB mX3_mark) 41 = .ok (.getfield 179, 3) := by decide +kernel
theorem qX3_mark_44 : decode (mB mX3_mark) 44 = .ok (.ireturn, 1) := by decide +kernel
theorem qX3_markRefusal_0 : decode (mB mX3_markRefusal) 0 = .ok (.aload_n 0, 1) := by decide +kernel
theorem qX3_markRefusal_1 : decode (mB mX3_markRefusal) 1 = .ok (.getfield 40, 3) := by decide +kernel
theorem qX3_markRefusal_4 : decode (mB mX3_markRefusal) 4 = .ok (.aload_n 0, 1) := by decide +kernel
theorem qX3_markRefusal_5 : decode (mB mX3_markRefusal) 5 = .ok (.iload_n 1, 1) := by decide +kernel
theorem qX3_markRefusal_6 : decode (mB mX3_markRefusal) 6 = .ok (.invokevirtual 141, 3) := by decide +kernel
theorem qX3_markRefusal_9 : decode (mB mX3_markRefusal) 9 = .ok (.invokevirtual 213, 3) := by decide +kernel
theorem qX3_markRefusal_12 : decode (mB mX3_markRefusal) 12 = .ok (.ireturn, 1) := by decide +kernel
theorem qX3_meanHeight_0 : decode (mB mX3_meanHeight) 0 = .ok (.aload_n 0, 1) := by decide +kernel
theorem qX3_meanHeight_1 : decode (mB mX3_meanHeight) 1 = .ok (.getfield 40, 3) := by decide +kernel
theorem qX3_meanHeight_4 : decode (mB mX3_meanHeight) 4 = .ok (.getfield 104, 3) := by decide +kernel
theorem qX3_meanHeight_7 : decode (mB mX3_meanHeight) 7 = .ok (.ifCond .ne 5, 3) := by decide +kernel
theorem qX3_meanHeight_10 : decode (mB mX3_meanHeight) 10 = .ok (.dconst 0, 1) := by decide +kernel
theorem qX3_meanHeight_11 : decode (mB mX3_meanHeight) 11 = .ok (.dreturn, 1) := by decide +kernel
theorem qX3_meanHeight_12 : decode (mB mX3_meanHeight) 12 = .ok (.iconst 0, 1) := by decide +kernel
theorem qX3_meanHeight_13 : decode (mB mX3_meanHeight) 13 = .ok (.istore_n 1, 1) := by decide +kernel
theorem qX3_meanHeight_14 : decode (mB mX3_meanHeight) 14 = .ok (.iconst 0, 1) := by decide +kernel
theorem qX3_meanHeight_15 : decode (mB mX3_meanHeight) 15 = .ok (.istore_n 2, 1) := by decide +kernel
theorem qX3_meanHeight_16 : decode (mB mX3_meanHeight) 16 = .ok (.iload_n 2, 1) := by decide +kernel
theorem qX3_meanHeight_17 : decode (mB mX3_meanHeight) 17 = .ok (.aload_n 0, 1) := by decide +kernel
theorem qX3_meanHeight_18 : decode (mB mX3_meanHeight) 18 = .ok (.getfield 40, 3) := by decide +kernel
theorem qX3_meanHeight_21 : decode (mB mX3_meanHeight) 21 = .ok (.getfield 104, 3) := by decide +kernel
theorem qX3_meanHeight_24 : decode (mB mX3_meanHeight) 24 = .ok (.if_icmp .ge 24, 3) := by decide +kernel
theorem qX3_meanHeight_27 : decode (mB mX3_meanHeight) 27 = .ok (.iload_n 1, 1) := by decide +kernel
theorem qX3_meanHeight_28 : decode (mB mX3_meanHeight) 28 = .ok (.aload_n 0, 1) := by decide +kernel
theorem qX3_meanHeight_29 : decode (mB mX3_meanHeight) 29 = .ok (.getfield 40, 3) := by decide +kernel
theorem qX3_meanHeight_32 : decode (mB mX3_meanHeight) 32 = .ok (.getfield 120, 3) := by decide +kernel
theorem qX3_meanHeight_35 : decode (mB mX3_meanHeight) 35 = .ok (.iload_n 2, 1) := by decide +kernel
theorem qX3_meanHeight_36 : decode (mB mX3_meanHeight) 36 = .ok (.aaload, 1) := by decide +kernel
theorem qX3_meanHeight_37 : decode (mB mX3_meanHeight) 37 = .ok (.invokevirtual 160, 3) := by decide +kernel
theorem qX3_meanHeight_40 : decode (mB mX3_meanHeight) 40 = .ok (.iadd, 1) := by decide +kernel
theorem qX3_meanHeight_41 : decode (mB mX3_meanHeight) 41 = .ok (.istore_n 1, 1) := by decide +kernel
theorem qX3_meanHeight_42 : decode (mB mX3_meanHeight) 42 = .ok (.iinc 2 1, 3) := by decide +kernel
theorem qX3_meanHeight_45 : decode (mB mX3_meanHeight) 45 = .ok (.goto (-29), 3) := by decide +kernel
theorem qX3_meanHeight_48 : decode (mB mX3_meanHeight) 48 = .ok (.iload_n 1, 1) := by decide +kernel
theorem qX3_meanHeight_49 : decode (mB mX3_meanHeight) 49 = .ok (.i2d, 1) := by decide +kernel
theorem qX3_meanHeight_50 : decode (mB mX3_meanHeight) 50 = .ok (.aload_n 0, 1) := by decide +kernel
theorem qX3_meanHeight_51 : decode (mB mX3_meanHeight) 51 = .ok (.getfield 40, 3) := by decide +kernel
theorem qX3_meanHeight_54 : decode (mB mX3_meanHeight) 54 = .ok (.getfield 104, 3) := by decide +kernel
theorem qX3_meanHeight_57 : decode (mB mX3_meanHeight) 57 = .ok (.i2d, 1) := by decide +kernel
theorem qX3_meanHeight_58 : decode (mB mX3_meanHeight) 58 = .ok (.ddiv, 1) := by decide +kernel
theorem qX3_meanHeight_59 : decode (mB mX3_meanHeight) 59 = .ok (.dreturn, 1) := by decide +kernel
theorem qX3_minute_0 : decode (mB mX3_minute) 0 = .ok (.aload_n 0, 1) := by decide +kernel
theorem qX3_minute_1 : decode (mB mX3_minute) 1 = .ok (.getfield 40, 3) := by decide +kernel
theorem qX3_minute_4 : decode (mB mX3_minute) 4 = .ok (.getfield 107, 3) := by decide +kernel
theorem qX3_minute_7 : decode (mB mX3_minute) 7 = .ok (.ireturn, 1) := by decide +kernel
theorem qX3_minutesUntilHeight_0 : decode (mB mX3_minutesUntilHeight) 0 = .ok (.aload_n 0, 1) := by decide +kernel
theorem qX3_minutesUntilHeight_1 : decode (mB mX3_minutesUntilHeight) 1 = .ok (.iload_n 1, 1) := by decide +kernel
theorem qX3_minutesUntilHeight_2 : decode (mB mX3_minutesUntilHeight) 2 = .ok (.invokevirtual 141, 3) := by decide +kernel
theorem qX3_minutesUntilHeight_5 : decode (mB mX3_minutesUntilHeight) 5 = .ok (.pop, 1) := by decide +kernel
theorem qX3_minutesUntilHeight_6 : decode (mB mX3_minutesUntilHeight) 6 = .ok (.iload_n 2, 1) := by decide +kernel
theorem qX3_minutesUntilHeight_7 : decode (mB mX3_minutesUntilHeight) 7 = .ok (.iconst 0, 1) := by decide +kernel
theorem qX3_minutesUntilHeight_8 : decode (mB mX3_minutesUntilHeight) 8 = .ok (.sipush 999, 3) := by decide +kernel
theorem qX3_minutesUntilHeight_11 : decode (mB mX3_minutesUntilHeight) 11 = .ok (.invokestatic 164, 3) := by decide +kernel
theorem qX3_minutesUntilHeight_14 : decode (mB mX3_minutesUntilHeight) 14 = .ok (.aload_n 0, 1) := by decide +kernel
theorem qX3_minutesUntilHeight_15 : decode (mB mX3_minutesUntilHeight) 15 = .ok (.getfield 43, 3) := by decide +kernel
theorem qX3_minutesUntilHeight_18 : decode (mB mX3_minutesUntilHeight) 18 = .ok (.aload_n 0, 1) := by decide +kernel
theorem qX3_minutesUntilHeight_19 : decode (mB mX3_minutesUntilHeight) 19 = .ok (.getfield 40, 3) := by decide +kernel
theorem qX3_minutesUntilHeight_22 : decode (mB mX3_minutesUntilHeight) 22 = .ok (.invokevirtual 28, 3) := by decide +kernel
theorem qX3_minutesUntilHeight_25 : decode (mB mX3_minutesUntilHeight) 25 = .ok (.iconst 0, 1) := by decide +kernel
theorem qX3_minutesUntilHeight_26 : decode (mB mX3_minutesUntilHeight) 26 = .ok (.istore_n 3, 1) := by decide +kernel
theorem qX3_minutesUntilHeight_27 : decode (mB mX3_minutesUntilHeight) 27 = .ok (.iload_n 3, 1) := by decide +kernel
theorem qX3_minutesUntilHeight_28 : decode (mB mX3_minutesUntilHeight) 28 = .ok (.sipush 300, 3) := by decide +kernel
theorem qX3_minutesUntilHeight_31 : decode (mB mX3_minutesUntilHeight) 31 = .ok (.if_icmp .gt 36, 3) := by decide +kernel
theorem qX3_minutesUntilHeight_34 : decode (mB mX3_minutesUntilHeight) 34 = .ok (.aload_n 0, 1) := by decide +kernel
theorem qX3_minutesUntilHeight_35 : decode (mB mX3_minutesUntilHeight) 35 = .ok (.getfield 43, 3) := by decide +kernel
theorem qX3_minutesUntilHeight_38 : decode (mB mX3_minutesUntilHeight) 38 = .ok (.getfield 120, 3) := by decide +kernel
theorem qX3_minutesUntilHeight_41 : decode (mB mX3_minutesUntilHeight) 41 = .ok (.iload_n 1, 1) := by decide +kernel
theorem qX3_minutesUntilHeight_42 : decode (mB mX3_minutesUntilHeight) 42 = .ok (.aaload, 1) := by decide +kernel
theorem qX3_minutesUntilHeight_43 : decode (mB mX3_minutesUntilHeight) 43 = .ok (.invokevirtual 160, 3) := by decide +kernel
theorem qX3_minutesUntilHeight_46 : decode (mB mX3_minutesUntilHeight) 46 = .ok (.iload_n 2, 1) := by decide +kernel
theorem qX3_minutesUntilHeight_47 : decode (mB mX3_minutesUntilHeight) 47 = .ok (.if_icmp .lt 5, 3) := by decide +kernel
theorem qX3_minutesUntilHeight_50 : decode (mB mX3_minutesUntilHeight) 50 = .ok (.iload_n 3, 1) := by decide +kernel
theorem qX3_minutesUntilHeight_51 : decode (mB mX3_minutesUntilHeight) 51 = .ok (.ireturn, 1) := by decide +kernel
theorem qX3_minutesUntilHeight_52 : decode (mB mX3_minutesUntilHeight) 52 = .ok (.aload_n 0, 1) := by decide +kernel
theorem qX3_minutesUntilHeight_53 : decode (mB mX3_minutesUntilHeight) 53 = .ok (.getfield 43, 3) := by decide +kernel
theorem qX3_minutesUntilHeight_56 : decode (mB mX3_minutesUntilHeight) 56 = .ok (.iconst 1, 1) := by decide +kernel
theorem qX3_minutesUntilHeight_57 : decode (mB mX3_minutesUntilHeight) 57 = .ok (.invokevirtual 247, 3) := by decide +kernel
theorem qX3_minutesUntilHeight_60 : decode (mB mX3_minutesUntilHeight) 60 = .ok (.pop, 1) := by decide +kernel
theorem qX3_minutesUntilHeight_61 : decode (mB mX3_minutesUntilHeight) 61 = .ok (.iinc 3 1, 3) := by decide +kernel
theorem qX3_minutesUntilHeight_64 : decode (mB mX3_minutesUntilHeight) 64 = .ok (.goto (-37), 3) := by decide +kernel
theorem qX3_minutesUntilHeight_67 : decode (mB mX3_minutesUntilHeight) 67 = .ok (.iconst (-1), 1) := by decide +kernel
theorem qX3_minutesUntilHeight_68 : decode (mB mX3_minutesUntilHeight) 68 = .ok (.ireturn, 1) := by decide +kernel
theorem qX3_minutesUntilSettled_0 : decode (mB mX3_minutesUntilSettled) 0 = .ok (.aload_n 0, 1) := by decide +kernel
theorem qX3_minutesUntilSettled_1 : decode (mB mX3_minutesUntilSettled) 1 = .ok (.iload_n 1, 1) := by decide +kernel
theorem qX3_minutesUntilSettled_2 : decode (mB mX3_minutesUntilSettled) 2 = .ok (.invokevirtual 141, 3) := by decide +kernel
theorem qX3_minutesUntilSettled_5 : decode (mB mX3_minutesUntilSettled) 5 = .ok (.pop, 1) := by decide +kernel
theorem qX3_minutesUntilSettled_6 : decode (mB mX3_minutesUntilSettled) 6 = .ok (.aload_n 0, 1) := by decide +kernel
theorem qX3_minutesUntilSettled_7 : decode (mB mX3_minutesUntilSettled) 7 = .ok (.getfield 43, 3) := by decide +kernel
theorem qX3_minutesUntilSettled_10 : decode (mB mX3_minutesUntilSettled) 10 = .ok (.aload_n 0, 1) := by decide +kernel
theorem qX3_minutesUntilSettled_11 : decode (mB mX3_minutesUntilSettled) 11 = .ok (.getfield 40, 3) := by decide +kernel
theorem qX3_minutesUntilSettled_14 : decode (mB mX3_minutesUntilSettled) 14 = .ok (.invokevirtual 28, 3) := by decide +kernel
theorem qX3_minutesUntilSettled_17 : decode (mB mX3_minutesUntilSettled) 17 = .ok (.iconst 0, 1) := by decide +kernel
theorem qX3_minutesUntilSettled_18 : decode (mB mX3_minutesUntilSettled) 18 = .ok (.istore_n 2, 1) := by decide +kernel
theorem qX3_minutesUntilSettled_19 : decode (mB mX3_minutesUntilSettled) 19 = .ok (.iload_n 2, 1) := by decide +kernel
theorem qX3_minutesUntilSettled_20 : decode (mB mX3_minutesUntilSettled) 20 = .ok (.sipush 300, 3) := by decide +kernel
theorem qX3_minutesUntilSettled_23 : decode (mB mX3_minutesUntilSettled) 23 = .ok (.if_icmp .gt 39, 3) := by decide +kernel
theorem qX3_minutesUntilSettled_26 : decode (mB mX3_minutesUntilSettled) 26 = .ok (.aload_n 0, 1) := by decide +kernel
theorem qX3_minutesUntilSettled_27 : decode (mB mX3_minutesUntilSettled) 27 = .ok (.getfield 43, 3) := by decide +kernel
theorem qX3_minutesUntilSettled_30 : decode (mB mX3_minutesUntilSettled) 30 = .ok (.aload_n 0, 1) := by decide +kernel
theorem qX3_minutesUntilSettled_31 : decode (mB mX3_minutesUntilSettled) 31 = .ok (.getfield 43, 3) := by decide +kernel
theorem qX3_minutesUntilSettled_34 : decode (mB mX3_minutesUntilSettled) 34 = .ok (.getfield 120, 3) := by decide +kernel
theorem qX3_minutesUntilSettled_37 : decode (mB mX3_minutesUntilSettled) 37 = .ok (.iload_n 1, 1) := by decide +kernel
theorem qX3_minutesUntilSettled_38 : decode (mB mX3_minutesUntilSettled) 38 = .ok (.aaload, 1) := by decide +kernel
theorem qX3_minutesUntilSettled_39 : decode (mB mX3_minutesUntilSettled) 39 = .ok (.invokevirtual 152, 3) := by decide +kernel
theorem qX3_minutesUntilSettled_42 : decode (mB mX3_minutesUntilSettled) 42 = .ok (.ifCond .eq 5, 3) := by decide +kernel
theorem qX3_minutesUntilSettled_45 : decode (mB mX3_minutesUntilSettled) 45 = .ok (.iload_n 2, 1) := by decide +kernel
theorem qX3_minutesUntilSettled_46 : decode (mB mX3_minutesUntilSettled) 46 = .ok (.ireturn, 1) := by decide +kernel
theorem qX3_minutesUntilSettled_47 : decode (mB mX3_minutesUntilSettled) 47 = .ok (.aload_n 0, 1) := by decide +kernel
theorem qX3_minutesUntilSettled_48 : decode (mB mX3_minutesUntilSettled) 48 = .ok (.getfield 43, 3) := by decide +kernel
theorem qX3_minutesUntilSettled_51 : decode (mB mX3_minutesUntilSettled) 51 = .ok (.iconst 1, 1) := by decide +kernel
theorem qX3_minutesUntilSettled_52 : decode (mB mX3_minutesUntilSettled) 52 = .ok (.invokevirtual 247, 3) := by decide +kernel
theorem qX3_minutesUntilSettled_55 : decode (mB mX3_minutesUntilSettled) 55 = .ok (.pop, 1) := by decide +kernel
theorem qX3_minutesUntilSettled_56 : decode (mB mX3_minutesUntilSettled) 56 = .ok (.iinc 2 1, 3) := by decide +kernel
theorem qX3_minutesUntilSettled_59 : decode (mB mX3_minutesUntilSettled) 59 = .ok (.goto (-40), 3) := by decide +kernel
theorem qX3_minutesUntilSettled_62 : decode (mB mX3_minutesUntilSettled) 62 = .ok (.iconst (-1), 1) := by decide +kernel
theorem qX3_minutesUntilSettled_63 : decode (mB mX3_minutesUntilSettled) 63 = .ok (.ireturn, 1) := by decide +kernel
theorem qX3_minutesUntilSpill_0 : decode (mB mX3_minutesUntilSpill) 0 = .ok (.aload_n 0, 1) := by decide +kernel
theorem qX3_minutesUntilSpill_1 : decode (mB mX3_minutesUntilSpill) 1 = .ok (.iload_n 1, 1) := by decide +kernel
theorem qX3_minutesUntilSpill_2 : decode (mB mX3_minutesUntilSpill) 2 = .ok (.invokevirtual 141, 3) := by decide +kernel
theorem qX3_minutesUntilSpill_5 : decode (mB mX3_minutesUntilSpill) 5 = .ok (.pop, 1) := by decide +kernel
theorem qX3_minutesUntilSpill_6 : decode (mB mX3_minutesUntilSpill) 6 = .ok (.aload_n 0, 1) := by decide +kernel
theorem qX3_minutesUntilSpill_7 : decode (mB mX3_minutesUntilSpill) 7 = .ok (.getfield 43, 3) := by decide +kernel
theorem qX3_minutesUntilSpill_10 : decode (mB mX3_minutesUntilSpill) 10 = .ok (.aload_n 0, 1) := by decide +kernel
theorem qX3_minutesUntilSpill_11 : decode (mB mX3_minutesUntilSpill) 11 = .ok (.getfield 40, 3) := by decide +kernel
theorem qX3_minutesUntilSpill_14 : decode (mB mX3_minutesUntilSpill) 14 = .ok (.invokevirtual 28, 3) := by decide +kernel
theorem qX3_minutesUntilSpill_17 : decode (mB mX3_minutesUntilSpill) 17 = .ok (.iconst 1, 1) := by decide +kernel
theorem qX3_minutesUntilSpill_18 : decode (mB mX3_minutesUntilSpill) 18 = .ok (.istore_n 2, 1) := by decide +kernel
theorem qX3_minutesUntilSpill_19 : decode (mB mX3_minutesUntilSpill) 19 = .ok (.iload_n 2, 1) := by decide +kernel
theorem qX3_minutesUntilSpill_20 : decode (mB mX3_minutesUntilSpill) 20 = .ok (.sipush 300, 3) := by decide +kernel
theorem qX3_minutesUntilSpill_23 : decode (mB mX3_minutesUntilSpill) 23 = .ok (.if_icmp .gt 35, 3) := by decide +kernel
theorem qX3_minutesUntilSpill_26 : decode (mB mX3_minutesUntilSpill) 26 = .ok (.aload_n 0, 1) := by decide +kernel
theorem qX3_minutesUntilSpill_27 : decode (mB mX3_minutesUntilSpill) 27 = .ok (.getfield 43, 3) := by decide +kernel
theorem qX3_minutesUntilSpill_30 : decode (mB mX3_minutesUntilSpill) 30 = .ok (.iconst 1, 1) := by decide +kernel
theorem qX3_minutesUntilSpill_31 : decode (mB mX3_minutesUntilSpill) 31 = .ok (.invokevirtual 247, 3) := by decide +kernel
theorem qX3_minutesUntilSpill_34 : decode (mB mX3_minutesUntilSpill) 34 = .ok (.pop, 1) := by decide +kernel
theorem qX3_minutesUntilSpill_35 : decode (mB mX3_minutesUntilSpill) 35 = .ok (.aload_n 0, 1) := by decide +kernel
theorem qX3_minutesUntilSpill_36 : decode (mB mX3_minutesUntilSpill) 36 = .ok (.getfield 43, 3) := by decide +kernel
theorem qX3_minutesUntilSpill_39 : decode (mB mX3_minutesUntilSpill) 39 = .ok (.getfield 120, 3) := by decide +kernel
theorem qX3_minutesUntilSpill_42 : decode (mB mX3_minutesUntilSpill) 42 = .ok (.iload_n 1, 1) := by decide +kernel
theorem qX3_minutesUntilSpill_43 : decode (mB mX3_minutesUntilSpill) 43 = .ok (.aaload, 1) := by decide +kernel
theorem qX3_minutesUntilSpill_44 : decode (mB mX3_minutesUntilSpill) 44 = .ok (.getfield 250, 3) := by decide +kernel
theorem qX3_minutesUntilSpill_47 : decode (mB mX3_minutesUntilSpill) 47 = .ok (.ifCond .le 5, 3) := by decide +kernel
theorem qX3_minutesUntilSpill_50 : decode (mB mX3_minutesUntilSpill) 50 = .ok (.iload_n 2, 1) := by decide +kernel
theorem qX3_minutesUntilSpill_51 : decode (mB mX3_minutesUntilSpill) 51 = .ok (.ireturn, 1) := by decide +kernel
theorem qX3_minutesUntilSpill_52 : decode (mB mX3_minutesUntilSpill) 52 = .ok (.iinc 2 1, 3) := by decide +kernel
theorem qX3_minutesUntilSpill_55 : decode (mB mX3_minutesUntilSpill) 55 = .ok (.goto (-36), 3) := by decide +kernel
theorem qX3_minutesUntilSpill_58 : decode (mB mX3_minutesUntilSpill) 58 = .ok (.iconst (-1), 1) := by decide +kernel
theorem qX3_minutesUntilSpill_59 : decode (mB mX3_minutesUntilSpill) 59 = .ok (.ireturn, 1) := by decide +kernel
theorem qX3_missedPoints_0 : decode (mB mX3_missedPoints) 0 = .ok (.iconst 0, 1) := by decide +kernel
theorem qX3_missedPoints_1 : decode (mB mX3_missedPoints) 1 = .ok (.istore_n 1, 1) := by decide +kernel
theorem qX3_missedPoints_2 : decode (mB mX3_missedPoints) 2 = .ok (.iconst 0, 1) := by decide +kernel
theorem qX3_missedPoints_3 : decode (mB mX3_missedPoints) 3 = .ok (.istore_n 2, 1) := by decide +kernel
theorem qX3_missedPoints_4 : decode (mB mX3_missedPoints) 4 = .ok (.iload_n 2, 1) := by decide +kernel
theorem qX3_missedPoints_5 : decode (mB mX3_missedPoints) 5 = .ok (.aload_n 0, 1) := by decide +kernel
theorem qX3_missedPoints_6 : decode (mB mX3_missedPoints) 6 = .ok (.getfield 40, 3) := by decide +kernel
theorem qX3_missedPoints_9 : decode (mB mX3_missedPoints) 9 = .ok (.getfield 104, 3) := by decide +kernel
theorem qX3_missedPoints_12 : decode (mB mX3_missedPoints) 12 = .ok (.if_icmp .ge 64, 3) := by decide +kernel
theorem qX3_missedPoints_15 : decode (mB mX3_missedPoints) 15 = .ok (.aload_n 0, 1) := by decide +kernel
theorem qX3_missedPoints_16 : decode (mB mX3_missedPoints) 16 = .ok (.getfield 40, 3) := by decide +kernel
theorem qX3_missedPoints_19 : decode (mB mX3_missedPoints) 19 = .ok (.getfield 120, 3) := by decide +kernel
theorem qX3_missedPoints_22 : decode (mB mX3_missedPoints) 22 = .ok (.iload_n 2, 1) := by decide +kernel
theorem qX3_missedPoints_23 : decode (mB mX3_missedPoints) 23 = .ok (.aaload, 1) := by decide +kernel
theorem qX3_missedPoints_24 : decode (mB mX3_missedPoints) 24 = .ok (.astore_n 3, 1) := by decide +kernel
theorem qX3_missedPoints_25 : decode (mB mX3_missedPoints) 25 = .ok (.aload_n 3, 1) := by decide +kernel
theorem qX3_missedPoints_26 : decode (mB mX3_missedPoints) 26 = .ok (.invokevirtual 192, 3) := by decide +kernel
theorem qX3_missedPoints_29 : decode (mB mX3_missedPoints) 29 = .ok (.ifCond .eq 41, 3) := by decide +kernel
theorem qX3_missedPoints_32 : decode (mB mX3_missedPoints) 32 = .ok (.iload_n 1, 1) := by decide +kernel
theorem qX3_missedPoints_33 : decode (mB mX3_missedPoints) 33 = .ok (.aload_n 3, 1) := by decide +kernel
theorem qX3_missedPoints_34 : decode (mB mX3_missedPoints) 34 = .ok (.aload_n 3, 1) := by decide +kernel
theorem qX3_missedPoints_35 : decode (mB mX3_missedPoints) 35 = .ok (.invokevirtual 235, 3) := by decide +kernel
theorem qX3_missedPoints_38 : decode (mB mX3_missedPoints) 38 = .ok (.invokevirtual 238, 3) := by decide +kernel
theorem qX3_missedPoints_41 : decode (mB mX3_missedPoints) 41 = .ok (.ifCond .eq 7, 3) := by decide +kernel
theorem qX3_missedPoints_44 : decode (mB mX3_missedPoints) 44 = .ok (.iconst 1, 1) := by decide +kernel
theorem qX3_missedPoints_45 : decode (mB mX3_missedPoints) 45 = .ok (.goto 4, 3) := by decide +kernel
theorem qX3_missedPoints_48 : decode (mB mX3_missedPoints) 48 = .ok (.iconst 0, 1) := by decide +kernel
theorem qX3_missedPoints_49 : decode (mB mX3_missedPoints) 49 = .ok (.iadd, 1) := by decide +kernel
theorem qX3_missedPoints_50 : decode (mB mX3_missedPoints) 50 = .ok (.istore_n 1, 1) := by decide +kernel
theorem qX3_missedPoints_51 : decode (mB mX3_missedPoints) 51 = .ok (.iload_n 1, 1) := by decide +kernel
theorem qX3_missedPoints_52 : decode (mB mX3_missedPoints) 52 = .ok (.aload_n 3, 1) := by decide +kernel
theorem qX3_missedPoints_53 : decode (mB mX3_missedPoints) 53 = .ok (.aload_n 3, 1) := by decide +kernel
theorem qX3_missedPoints_54 : decode (mB mX3_missedPoints) 54 = .ok (.invokevirtual 241, 3) := by decide +kernel
theorem qX3_missedPoints_57 : decode (mB mX3_missedPoints) 57 = .ok (.invokevirtual 238, 3) := by decide +kernel
theorem qX3_missedPoints_60 : decode (mB mX3_missedPoints) 60 = .ok (.ifCond .eq 7, 3) := by decide +kernel
theorem qX3_missedPoints_63 : decode (mB mX3_missedPoints) 63 = .ok (.iconst 1, 1) := by decide +kernel
theorem qX3_missedPoints_64 : decode (mB mX3_missedPoints) 64 = .ok (.goto 4, 3) := by decide +kernel
theorem qX3_missedPoints_67 : decode (mB mX3_missedPoints) 67 = .ok (.iconst 0, 1) := by decide +kernel
theorem qX3_missedPoints_68 : decode (mB mX3_missedPoints) 68 = .ok (.iadd, 1) := by decide +kernel
theorem qX3_missedPoints_69 : decode (mB mX3_missedPoints) 69 = .ok (.istore_n 1, 1) := by decide +kernel
theorem qX3_missedPoints_70 : decode (mB mX3_missedPoints) 70 = .ok (.iinc 2 1, 3) := by decide +kernel
theorem qX3_missedPoints_73 : decode (mB mX3_missedPoints) 73 = .ok (.goto (-69), 3) := by decide +kernel
theorem qX3_missedPoints_76 : decode (mB mX3_missedPoints) 76 = .ok (.iload_n 1, 1) := by decide +kernel
theorem qX3_missedPoints_77 : decode (mB mX3_missedPoints) 77 = .ok (.ireturn, 1) := by decide +kernel
theorem qX3_outputByte_0 : decode (mB mX3_outputByte) 0 = .ok (.iload_n 1, 1) := by decide +kernel
theorem qX3_outputByte_1 : decode (mB mX3_outputByte) 1 = .ok (.ifCond .lt 14, 3) := by decide +kernel
theorem qX3_outputByte_4 : decode (mB mX3_outputByte) 4 = .ok (.iload_n 1, 1) := by decide +kernel
theorem qX3_outputByte_5 : decode (mB mX3_outputByte) 5 = .ok (.aload_n 0, 1) := by decide +kernel
theorem qX3_outputByte_6 : decode (mB mX3_outputByte) 6 = .ok (.getfield 64, 3) := by decide +kernel
theorem qX3_outputByte_9 : decode (mB mX3_outputByte) 9 = .ok (.invokevirtual 293, 3) := by decide +kernel
theorem qX3_outputByte_12 : decode (mB mX3_outputByte) 12 = .ok (.if_icmp .lt 14, 3) := by decide +kernel
theorem qX3_outputByte_15 : decode (mB mX3_outputByte) 15 = .ok (.new 295, 3) := by decide +kernel
theorem qX3_outputByte_18 : decode (mB mX3_outputByte) 18 = .ok (.dup, 1) := by decide +kernel
theorem qX3_outputByte_19 : decode (mB mX3_outputByte) 19 = .ok (.ldc_w 297, 3) := by decide +kernel
theorem qX3_outputByte_22 : decode (mB mX3_outputByte) 22 = .ok (.invokespecial 299, 3) := by decide +kernel
theorem qX3_outputByte_25 : decode (mB mX3_outputByte) 25 = .ok (.athrow, 1) := by decide +kernel
theorem qX3_outputByte_26 : decode (mB mX3_outputByte) 26 = .ok (.aload_n 0, 1) := by decide +kernel
theorem qX3_outputByte_27 : decode (mB mX3_outputByte) 27 = .ok (.getfield 64, 3) := by decide +kernel
theorem qX3_outputByte_30 : decode (mB mX3_outputByte) 30 = .ok (.iload_n 1, 1) := by decide +kernel
theorem qX3_outputByte_31 : decode (mB mX3_outputByte) 31 = .ok (.invokevirtual 300, 3) := by decide +kernel
theorem qX3_outputByte_34 : decode (mB mX3_outputByte) 34 = .ok (.ireturn, 1) := by decide +kernel
theorem qX3_pass_0 : decode (mB mX3_pass) 0 = .ok (.iload_n 1, 1) := by decide +kernel
theorem qX3_pass_1 : decode (mB mX3_pass) 1 = .ok (.iconst 1, 1) := by decide +kernel
theorem qX3_pass_2 : decode (mB mX3_pass) 2 = .ok (.sipush 300, 3) := by decide +kernel
theorem qX3_pass_5 : decode (mB mX3_pass) 5 = .ok (.invokestatic 164, 3) := by decide +kernel
theorem qX3_pass_8 : decode (mB mX3_pass) 8 = .ok (.aload_n 0, 1) := by decide +kernel
theorem qX3_pass_9 : decode (mB mX3_pass) 9 = .ok (.invokevirtual 101, 3) := by decide +kernel
theorem qX3_pass_12 : decode (mB mX3_pass) 12 = .ok (.aload_n 0, 1) := by decide +kernel
theorem qX3_pass_13 : decode (mB mX3_pass) 13 = .ok (.getfield 40, 3) := by decide +kernel
theorem qX3_pass_16 : decode (mB mX3_pass) 16 = .ok (.iload_n 1, 1) := by decide +kernel
theorem qX3_pass_17 : decode (mB mX3_pass) 17 = .ok (.invokevirtual 247, 3) := by decide +kernel
theorem qX3_pass_20 : decode (mB mX3_pass) 20 = .ok (.ireturn, 1) := by decide +kernel
theorem qX3_pointCount_0 : decode (mB mX3_pointCount) 0 = .ok (.aload_n 0, 1) := by decide +kernel
theorem qX3_pointCount_1 : decode (mB mX3_pointCount) 1 = .ok (.iload_n 1, 1) := by decide +kernel
theorem qX3_pointCount_2 : decode (mB mX3_pointCount) 2 = .ok (.invokevirtual 141, 3) := by decide +kernel
theorem qX3_pointCount_5 : decode (mB mX3_pointCount) 5 = .ok (.getfield 179, 3) := by decide +kernel
theorem qX3_pointCount_8 : decode (mB mX3_pointCount) 8 = .ok (.ireturn, 1) := by decide +kernel
theorem qX3_pointDegrees_0 : decode (mB mX3_pointDegrees) 0 = .ok (.aload_n 0, 1) := by decide +kernel
theorem qX3_pointDegrees_1 : decode (mB mX3_pointDegrees) 1 = .ok (.iload_n 1, 1) := by decide +kernel
theorem qX3_pointDegrees_2 : decode (mB mX3_pointDegrees) 2 = .ok (.invokevirtual 141, 3) := by decide +kernel
theorem qX3_pointDegrees_5 : decode (mB mX3_pointDegrees) 5 = .ok (.astore_n 3, 1) := by decide +kernel
theorem qX3_pointDegrees_6 : decode (mB mX3_pointDegrees) 6 = .ok (.aload_n 3, 1) := by decide +kernel
theorem qX3_pointDegrees_7 : decode (mB mX3_pointDegrees) 7 = .ok (.iload_n 2, 1) := by decide +kernel
theorem qX3_pointDegrees_8 : decode (mB mX3_pointDegrees) 8 = .ok (.invokestatic 182, 3) := by decide +kernel
theorem qX3_pointDegrees_11 : decode (mB mX3_pointDegrees) 11 = .ok (.aload_n 3, 1) := by decide +kernel
theorem qX3_pointDegrees_12 : decode (mB mX3_pointDegrees) 12 = .ok (.getfield 186, 3) := by decide +kernel
theorem qX3_pointDegrees_15 : decode (mB mX3_pointDegrees) 15 = .ok (.iload_n 2, 1) := by decide +kernel
theorem qX3_pointDegrees_16 : decode (mB mX3_pointDegrees) 16 = .ok (.iaload, 1) := by decide +kernel
theorem qX3_pointDegrees_17 : decode (mB mX3_pointDegrees) 17 = .ok (.ireturn, 1) := by decide +kernel
theorem qX3_pointHeight_0 : decode (mB mX3_pointHeight) 0 = .ok (.aload_n 0, 1) := by decide +kernel
theorem qX3_pointHeight_1 : decode (mB mX3_pointHeight) 1 = .ok (.iload_n 1, 1) := by decide +kernel
theorem qX3_pointHeight_2 : decode (mB mX3_pointHeight) 2 = .ok (.invokevirtual 141, 3) := by decide +kernel
theorem qX3_pointHeight_5 : decode (mB mX3_pointHeight) 5 = .ok (.astore_n 3, 1) := by decide +kernel
theorem qX3_pointHeight_6 : decode (mB mX3_pointHeight) 6 = .ok (.aload_n 3, 1) := by decide +kernel
theorem qX3_pointHeight_7 : decode (mB mX3_pointHeight) 7 = .ok (.iload_n 2, 1) := by decide +kernel
theorem qX3_pointHeight_8 : decode (mB mX3_pointHeight) 8 = .ok (.invokestatic 182, 3) := by decide +kernel
theorem qX3_pointHeight_11 : decode (mB mX3_pointHeight) 11 = .ok (.aload_n 3, 1) := by decide +kernel
theorem qX3_pointHeight_12 : decode (mB mX3_pointHeight) 12 = .ok (.getfield 189, 3) := by decide +kernel
theorem qX3_pointHeight_15 : decode (mB mX3_pointHeight) 15 = .ok (.iload_n 2, 1) := by decide +kernel
theorem qX3_pointHeight_16 : decode (mB mX3_pointHeight) 16 = .ok (.iaload, 1) := by decide +kernel
theorem qX3_pointHeight_17 : decode (mB mX3_pointHeight) 17 = .ok (.ireturn, 1) := by decide +kernel
theorem qX3_printName_0 : decode (mB mX3_printName) 0 = .ok (.bipush 24, 2) := by decide +kernel
theorem qX3_printName_2 : decode (mB mX3_printName) 2 = .ok (.istore_n 2, 1) := by decide +kernel
theorem qX3_printName_3 : decode (mB mX3_printName) 3 = .ok (.iload_n 2, 1) := by decide +kernel
theorem qX3_printName_4 : decode (mB mX3_printName) 4 = .ok (.ifCond .lt 31, 3) := by decide +kernel
theorem qX3_printName_7 : decode (mB mX3_printName) 7 = .ok (.iload_n 1, 1) := by decide +kernel
theorem qX3_printName_8 : decode (mB mX3_printName) 8 = .ok (.iload_n 2, 1) := by decide +kernel
theorem qX3_printName_9 : decode (mB mX3_printName) 9 = .ok (.ishr, 1) := by decide +kernel
theorem qX3_printName_10 : decode (mB mX3_printName) 10 = .ok (.sipush 255, 3) := by decide +kernel
theorem qX3_printName_13 : decode (mB mX3_printName) 13 = .ok (.iand, 1) := by decide +kernel
theorem qX3_printName_14 : decode (mB mX3_printName) 14 = .ok (.istore_n 3, 1) := by decide +kernel
theorem qX3_printName_15 : decode (mB mX3_printName) 15 = .ok (.iload_n 3, 1) := by decide +kernel
theorem qX3_printName_16 : decode (mB mX3_printName) 16 = .ok (.ifCond .eq 13, 3) := by decide +kernel
theorem qX3_printName_19 : decode (mB mX3_printName) 19 = .ok (.aload_n 0, 1) := by decide +kernel
theorem qX3_printName_20 : decode (mB mX3_printName) 20 = .ok (.getfield 64, 3) := by decide +kernel
theorem qX3_printName_23 : decode (mB mX3_printName) 23 = .ok (.iload_n 3, 1) := by decide +kernel
theorem qX3_printName_24 : decode (mB mX3_printName) 24 = .ok (.i2c, 1) := by decide +kernel
theorem qX3_printName_25 : decode (mB mX3_printName) 25 = .ok (.invokevirtual 286, 3) := by decide +kernel
theorem qX3_printName_28 : decode (mB mX3_printName) 28 = .ok (.pop, 1) := by decide +kernel
theorem qX3_printName_29 : decode (mB mX3_printName) 29 = .ok (.iinc 2 (-8), 3) := by decide +kernel
theorem qX3_printName_32 : decode (mB mX3_printName) 32 = .ok (.goto (-29), 3) := by decide +kernel
theorem qX3_printName_35 : decode (mB mX3_printName) 35 = .ok (.return_, 1) := by decide +kernel
theorem qX3_printTube_0 : decode (mB mX3_printTube) 0 = .ok (.aload_n 0, 1) := by decide +kernel
theorem qX3_printTube_1 : decode (mB mX3_printTube) 1 = .ok (.iload_n 1, 1) := by decide +kernel
theorem qX3_printTube_2 : decode (mB mX3_printTube) 2 = .ok (.invokevirtual 141, 3) := by decide +kernel
theorem qX3_printTube_5 : decode (mB mX3_printTube) 5 = .ok (.astore_n 2, 1) := by decide +kernel
theorem qX3_printTube_6 : decode (mB mX3_printTube) 6 = .ok (.aload_n 0, 1) := by decide +kernel
theorem qX3_printTube_7 : decode (mB mX3_printTube) 7 = .ok (.getfield 64, 3) := by decide +kernel
theorem qX3_printTube_10 : decode (mB mX3_printTube) 10 = .ok (.iconst 0, 1) := by decide +kernel
theorem qX3_printTube_11 : decode (mB mX3_printTube) 11 = .ok (.invokevirtual 277, 3) := by decide +kernel
theorem qX3_printTube_14 : decode (mB mX3_printTube) 14 = .ok (.aload_n 0, 1) := by decide +kernel
theorem qX3_printTube_15 : decode (mB mX3_printTube) 15 = .ok (.aload_n 2, 1) := by decide +kernel
theorem qX3_printTube_16 : decode (mB mX3_printTube) 16 = .ok (.getfield 280, 3) := by decide +kernel
theorem qX3_printTube_19 : decode (mB mX3_printTube) 19 = .ok (.invokevirtual 283, 3) := by decide +kernel
theorem qX3_printTube_22 : decode (mB mX3_printTube) 22 = .ok (.aload_n 0, 1) := by decide +kernel
theorem qX3_printTube_23 : decode (mB mX3_printTube) 23 = .ok (.getfield 64, 3) := by decide +kernel
theorem qX3_printTube_26 : decode (mB mX3_printTube) 26 = .ok (.bipush 32, 2) := by decide +kernel
theorem qX3_printTube_28 : decode (mB mX3_printTube) 28 = .ok (.invokevirtual 286, 3) := by decide +kernel
theorem qX3_printTube_31 : decode (mB mX3_printTube) 31 = .ok (.pop, 1) := by decide +kernel
theorem qX3_printTube_32 : decode (mB mX3_printTube) 32 = .ok (.aload_n 0, 1) := by decide +kernel
theorem qX3_printTube_33 : decode (mB mX3_printTube) 33 = .ok (.getfield 64, 3) := by decide +kernel
theorem qX3_printTube_36 : decode (mB mX3_printTube) 36 = .ok (.aload_n 2, 1) := by decide +kernel
theorem qX3_printTube_37 : decode (mB mX3_printTube) 37 = .ok (.invokevirtual 160, 3) := by decide +kernel
theorem qX3_printTube_40 : decode (mB mX3_printTube) 40 = .ok (.invokevirtual 290, 3) := by decide +kernel
theorem qX3_printTube_43 : decode (mB mX3_printTube) 43 = .ok (.pop, 1) := by decide +kernel
theorem qX3_printTube_44 : decode (mB mX3_printTube) 44 = .ok (.aload_n 0, 1) := by decide +kernel
theorem qX3_printTube_45 : decode (mB mX3_printTube) 45 = .ok (.getfield 64, 3) := by decide +kernel
theorem qX3_printTube_48 : decode (mB mX3_printTube) 48 = .ok (.bipush 47, 2) := by decide +kernel
theorem qX3_printTube_50 : decode (mB mX3_printTube) 50 = .ok (.invokevirtual 286, 3) := by decide +kernel
theorem qX3_printTube_53 : decode (mB mX3_printTube) 53 = .ok (.pop, 1) := by decide +kernel
theorem qX3_printTube_54 : decode (mB mX3_printTube) 54 = .ok (.aload_n 0, 1) := by decide +kernel
theorem qX3_printTube_55 : decode (mB mX3_printTube) 55 = .ok (.getfield 64, 3) := by decide +kernel
theorem qX3_printTube_58 : decode (mB mX3_printTube) 58 = .ok (.aload_n 2, 1) := by decide +kernel
theorem qX3_printTube_59 : decode (mB mX3_printTube) 59 = .ok (.getfield 172, 3) := by decide +kernel
theorem qX3_printTube_62 : decode (mB mX3_printTube) 62 = .ok (.invokevirtual 290, 3) := by decide +kernel
theorem qX3_printTube_65 : decode (mB mX3_printTube) 65 = .ok (.pop, 1) := by decide +kernel
theorem qX3_printTube_66 : decode (mB mX3_printTube) 66 = .ok (.aload_n 2, 1) := by decide +kernel
theorem qX3_printTube_67 : decode (mB mX3_printTube) 67 = .ok (.invokevirtual 192, 3) := by decide +kernel
theorem qX3_printTube_70 : decode (mB mX3_printTube) 70 = .ok (.ifCond .eq 35, 3) := by decide +kernel
theorem qX3_printTube_73 : decode (mB mX3_printTube) 73 = .ok (.aload_n 0, 1) := by decide +kernel
theorem qX3_printTube_74 : decode (mB mX3_printTube) 74 = .ok (.getfield 64, 3) := by decide +kernel
theorem qX3_printTube_77 : decode (mB mX3_printTube) 77 = .ok (.bipush 32, 2) := by decide +kernel
theorem qX3_printTube_79 : decode (mB mX3_printTube) 79 = .ok (.invokevirtual 286, 3) := by decide +kernel
theorem qX3_printTube_82 : decode (mB mX3_printTube) 82 = .ok (.pop, 1) := by decide +kernel
theorem qX3_printTube_83 : decode (mB mX3_printTube) 83 = .ok (.aload_n 0, 1) := by decide +kernel
theorem qX3_printTube_84 : decode (mB mX3_printTube) 84 = .ok (.getfield 64, 3) := by decide +kernel
theorem qX3_printTube_87 : decode (mB mX3_printTube) 87 = .ok (.bipush 64, 2) := by decide +kernel
theorem qX3_printTube_89 : decode (mB mX3_printTube) 89 = .ok (.invokevirtual 286, 3) := by decide +kernel
theorem qX3_printTube_92 : decode (mB mX3_printTube) 92 = .ok (.pop, 1) := by decide +kernel
theorem qX3_printTube_93 : decode (mB mX3_printTube) 93 = .ok (.aload_n 0, 1) := by decide +kernel
theorem qX3_printTube_94 : decode (mB mX3_printTube) 94 = .ok (.getfield 64, 3) := by decide +kernel
theorem qX3_printTube_97 : decode (mB mX3_printTube) 97 = .ok (.aload_n 2, 1) := by decide +kernel
theorem qX3_printTube_98 : decode (mB mX3_printTube) 98 = .ok (.invokevirtual 200, 3) := by decide +kernel
theorem qX3_printTube_101 : decode (mB mX3_printTube) 101 = .ok (.invokevirtual 290, 3) := by decide +kernel
theorem qX3_printTube_104 : decode (mB mX3_printTube) 104 = .ok (.pop, 1) := by decide +kernel
theorem qX3_printTube_105 : decode (mB mX3_printTube) 105 = .ok (.aload_n 0, 1) := by decide +kernel
theorem qX3_printTube_106 : decode (mB mX3_printTube) 106 = .ok (.getfield 40, 3) := by decide +kernel
theorem qX3_printTube_109 : decode (mB mX3_printTube) 109 = .ok (.getfield 173, 3) := by decide +kernel
theorem qX3_printTube_112 : decode (mB mX3_printTube) 112 = .ok (.iload_n 1, 1) := by decide +kernel
theorem qX3_printTube_113 : decode (mB mX3_printTube) 113 = .ok (.if_icmp .ne 13, 3) := by decide +kernel
theorem qX3_printTube_116 : decode (mB mX3_printTube) 116 = .ok (.aload_n 0, 1) := by decide +kernel
theorem qX3_printTube_117 : decode (mB mX3_printTube) 117 = .ok (.getfield 64, 3) := by decide +kernel
theorem qX3_printTube_120 : decode (mB mX3_printTube) 120 = .ok (.bipush 42, 2) := by decide +kernel
theorem qX3_printTube_122 : decode (mB mX3_printTube) 122 = .ok (.invokevirtual 286, 3) := by decide +kernel
theorem qX3_printTube_125 : decode (mB mX3_printTube) 125 = .ok (.pop, 1) := by decide +kernel
theorem qX3_printTube_126 : decode (mB mX3_printTube) 126 = .ok (.aload_n 0, 1) := by decide +kernel
theorem qX3_printTube_127 : decode (mB mX3_printTube) 127 = .ok (.getfield 64, 3) := by decide +kernel
theorem qX3_printTube_130 : decode (mB mX3_printTube) 130 = .ok (.invokevirtual 293, 3) := by decide +kernel
theorem qX3_printTube_133 : decode (mB mX3_printTube) 133 = .ok (.ireturn, 1) := by decide +kernel
theorem qX3_reading_0 : decode (mB mX3_reading) 0 = .ok (.aload_n 0, 1) := by decide +kernel
theorem qX3_reading_1 : decode (mB mX3_reading) 1 = .ok (.iload_n 1, 1) := by decide +kernel
theorem qX3_reading_2 : decode (mB mX3_reading) 2 = .ok (.invokevirtual 141, 3) := by decide +kernel
theorem qX3_reading_5 : decode (mB mX3_reading) 5 = .ok (.astore_n 2, 1) := by decide +kernel
theorem qX3_reading_6 : decode (mB mX3_reading) 6 = .ok (.aload_n 2, 1) := by decide +kernel
theorem qX3_reading_7 : decode (mB mX3_reading) 7 = .ok (.invokestatic 196, 3) := by decide +kernel
theorem qX3_reading_10 : decode (mB mX3_reading) 10 = .ok (.aload_n 2, 1) := by decide +kernel
theorem qX3_reading_11 : decode (mB mX3_reading) 11 = .ok (.invokevirtual 200, 3) := by decide +kernel
theorem qX3_reading_14 : decode (mB mX3_reading) 14 = .ok (.ireturn, 1) := by decide +kernel
theorem qX3_readingError_0 : decode (mB mX3_readingError) 0 = .ok (.aload_n 0, 1) := by decide +kernel
theorem qX3_readingError_1 : decode (mB mX3_readingError) 1 = .ok (.iload_n 1, 1) := by decide +kernel
theorem qX3_readingError_2 : decode (mB mX3_readingError) 2 = .ok (.invokevirtual 141, 3) := by decide +kernel
theorem qX3_readingError_5 : decode (mB mX3_readingError) 5 = .ok (.astore_n 2, 1) := by decide +kernel
theorem qX3_readingError_6 : decode (mB mX3_readingError) 6 = .ok (.aload_n 2, 1) := by decide +kernel
theorem qX3_readingError_7 : decode (mB mX3_readingError) 7 = .ok (.invokestatic 196, 3) := by decide +kernel
theorem qX3_readingError_10 : decode (mB mX3_readingError) 10 = .ok (.aload_n 2, 1) := by decide +kernel
theorem qX3_readingError_11 : decode (mB mX3_readingError) 11 = .ok (.invokevirtual 200, 3) := by decide +kernel
theorem qX3_readingError_14 : decode (mB mX3_readingError) 14 = .ok (.aload_n 2, 1) := by decide +kernel
theorem qX3_readingError_15 : decode (mB mX3_readingError) 15 = .ok (.getfield 145, 3) := by decide +kernel
theorem qX3_readingError_18 : decode (mB mX3_readingError) 18 = .ok (.isub, 1) := by decide +kernel
theorem qX3_readingError_19 : decode (mB mX3_readingError) 19 = .ok (.ireturn, 1) := by decide +kernel
theorem qX3_rememberCurrent_0 : decode (mB mX3_rememberCurrent) 0 = .ok (.aload_n 0, 1) := by decide +kernel
theorem qX3_rememberCurrent_1 : decode (mB mX3_rememberCurrent) 1 = .ok (.getfield 50, 3) := by decide +kernel
theorem qX3_rememberCurrent_4 : decode (mB mX3_rememberCurrent) 4 = .ok (.aload_n 0, 1) := by decide +kernel
theorem qX3_rememberCurrent_5 : decode (mB mX3_rememberCurrent) 5 = .ok (.getfield 68, 3) := by decide +kernel
theorem qX3_rememberCurrent_8 : decode (mB mX3_rememberCurrent) 8 = .ok (.aaload, 1) := by decide +kernel
theorem qX3_rememberCurrent_9 : decode (mB mX3_rememberCurrent) 9 = .ok (.aload_n 0, 1) := by decide +kernel
theorem qX3_rememberCurrent_10 : decode (mB mX3_rememberCurrent) 10 = .ok (.getfield 40, 3) := by decide +kernel
theorem qX3_rememberCurrent_13 : decode (mB mX3_rememberCurrent) 13 = .ok (.invokevirtual 28, 3) := by decide +kernel
theorem qX3_rememberCurrent_16 : decode (mB mX3_rememberCurrent) 16 = .ok (.aload_n 0, 1) := by decide +kernel
theorem qX3_rememberCurrent_17 : decode (mB mX3_rememberCurrent) 17 = .ok (.aload_n 0, 1) := by decide +kernel
theorem qX3_rememberCurrent_18 : decode (mB mX3_rememberCurrent) 18 = .ok (.getfield 68, 3) := by decide +kernel
theorem qX3_rememberCurrent_21 : decode (mB mX3_rememberCurrent) 21 = .ok (.iconst 5, 1) := by decide +kernel
theorem qX3_rememberCurrent_22 : decode (mB mX3_rememberCurrent) 22 = .ok (.if_icmp .ne 7, 3) := by decide +kernel
theorem qX3_rememberCurrent_25 : decode (mB mX3_rememberCurrent) 25 = .ok (.iconst 0, 1) := by decide +kernel
theorem qX3_rememberCurrent_26 : decode (mB mX3_rememberCurrent) 26 = .ok (.goto 9, 3) := by decide +kernel
theorem qX3_rememberCurrent_29 : decode (mB mX3_rememberCurrent) 29 = .ok (.aload_n 0, 1) := by decide +kernel
theorem qX3_rememberCurrent_30 : decode (mB mX3_rememberCurrent) 30 = .ok (.getfield 68, 3) := by decide +kernel
theorem qX3_rememberCurrent_33 : decode (mB mX3_rememberCurrent) 33 = .ok (.iconst 1, 1) := by decide +kernel
theorem qX3_rememberCurrent_34 : decode (mB mX3_rememberCurrent) 34 = .ok (.iadd, 1) := by decide +kernel
theorem qX3_rememberCurrent_35 : decode (mB mX3_rememberCurrent) 35 = .ok (.putfield 68, 3) := by decide +kernel
theorem qX3_rememberCurrent_38 : decode (mB mX3_rememberCurrent) 38 = .ok (.aload_n 0, 1) := by decide +kernel
theorem qX3_rememberCurrent_39 : decode (mB mX3_rememberCurrent) 39 = .ok (.getfield 71, 3) := by decide +kernel
theorem qX3_rememberCurrent_42 : decode (mB mX3_rememberCurrent) 42 = .ok (.bipush 6, 2) := by decide +kernel
theorem qX3_rememberCurrent_44 : decode (mB mX3_rememberCurrent) 44 = .ok (.if_icmp .ge 13, 3) := by decide +kernel
theorem qX3_rememberCurrent_47 : decode (mB mX3_rememberCurrent) 47 = .ok (.aload_n 0, 1) := by decide +kernel
theorem qX3_rememberCurrent_48 : decode (mB mX3_rememberCurrent) 48 = .ok (.dup, 1) := by decide +kernel
theorem qX3_rememberCurrent_49 : decode (mB mX3_rememberCurrent) 49 = .ok (.getfield 71, 3) := by decide +kernel
theorem qX3_rememberCurrent_52 : decode (mB mX3_rememberCurrent) 52 = .ok (.iconst 1, 1) := by decide +kernel
theorem qX3_rememberCurrent_53 : decode (mB mX3_rememberCurrent) 53 = .ok (.iadd, 1) := by decide +kernel
theorem qX3_rememberCurrent_54 : decode (mB mX3_rememberCurrent) 54 = .ok (.putfield 71, 3) := by decide +kernel
theorem qX3_rememberCurrent_57 : decode (mB mX3_rememberCurrent) 57 = .ok (.return_, 1) := by decide +kernel
theorem qX3_restore_0 : decode (mB mX3_restore) 0 = .ok (.iload_n 1, 1) := by decide +kernel
theorem qX3_restore_1 : decode (mB mX3_restore) 1 = .ok (.invokestatic 270, 3) := by decide +kernel
theorem qX3_restore_4 : decode (mB mX3_restore) 4 = .ok (.aload_n 0, 1) := by decide +kernel
theorem qX3_restore_5 : decode (mB mX3_restore) 5 = .ok (.getfield 57, 3) := by decide +kernel
theorem qX3_restore_8 : decode (mB mX3_restore) 8 = .ok (.iload_n 1, 1) := by decide +kernel
theorem qX3_restore_9 : decode (mB mX3_restore) 9 = .ok (.baload, 1) := by decide +kernel
theorem qX3_restore_10 : decode (mB mX3_restore) 10 = .ok (.ifCond .ne 14, 3) := by decide +kernel
theorem qX3_restore_13 : decode (mB mX3_restore) 13 = .ok (.new 80, 3) := by decide +kernel
theorem qX3_restore_16 : decode (mB mX3_restore) 16 = .ok (.dup, 1) := by decide +kernel
theorem qX3_restore_17 : decode (mB mX3_restore) 17 = .ok (.ldc_w 273, 3) := by decide +kernel
theorem qX3_restore_20 : decode (mB mX3_restore) 20 = .ok (.invokespecial 84, 3) := by decide +kernel
theorem qX3_restore_23 : decode (mB mX3_restore) 23 = .ok (.athrow, 1) := by decide +kernel
theorem qX3_restore_24 : decode (mB mX3_restore) 24 = .ok (.aload_n 0, 1) := by decide +kernel
theorem qX3_restore_25 : decode (mB mX3_restore) 25 = .ok (.invokevirtual 101, 3) := by decide +kernel
theorem qX3_restore_28 : decode (mB mX3_restore) 28 = .ok (.aload_n 0, 1) := by decide +kernel
theorem qX3_restore_29 : decode (mB mX3_restore) 29 = .ok (.getfield 40, 3) := by decide +kernel
theorem qX3_restore_32 : decode (mB mX3_restore) 32 = .ok (.aload_n 0, 1) := by decide +kernel
theorem qX3_restore_33 : decode (mB mX3_restore) 33 = .ok (.getfield 54, 3) := by decide +kernel
theorem qX3_restore_36 : decode (mB mX3_restore) 36 = .ok (.iload_n 1, 1) := by decide +kernel
theorem qX3_restore_37 : decode (mB mX3_restore) 37 = .ok (.aaload, 1) := by decide +kernel
theorem qX3_restore_38 : decode (mB mX3_restore) 38 = .ok (.invokevirtual 28, 3) := by decide +kernel
theorem qX3_restore_41 : decode (mB mX3_restore) 41 = .ok (.aload_n 0, 1) := by decide +kernel
theorem qX3_restore_42 : decode (mB mX3_restore) 42 = .ok (.getfield 40, 3) := by decide +kernel
theorem qX3_restore_45 : decode (mB mX3_restore) 45 = .ok (.getfield 107, 3) := by decide +kernel
theorem qX3_restore_48 : decode (mB mX3_restore) 48 = .ok (.ireturn, 1) := by decide +kernel
theorem qX3_roomDegrees_0 : decode (mB mX3_roomDegrees) 0 = .ok (.aload_n 0, 1) := by decide +kernel
theorem qX3_roomDegrees_1 : decode (mB mX3_roomDegrees) 1 = .ok (.getfield 40, 3) := by decide +kernel
theorem qX3_roomDegrees_4 : decode (mB mX3_roomDegrees) 4 = .ok (.getfield 110, 3) := by decide +kernel
theorem qX3_roomDegrees_7 : decode (mB mX3_roomDegrees) 7 = .ok (.ireturn, 1) := by decide +kernel
theorem qX3_save_0 : decode (mB mX3_save) 0 = .ok (.iload_n 1, 1) := by decide +kernel
theorem qX3_save_1 : decode (mB mX3_save) 1 = .ok (.invokestatic 270, 3) := by decide +kernel
theorem qX3_save_4 : decode (mB mX3_save) 4 = .ok (.aload_n 0, 1) := by decide +kernel
theorem qX3_save_5 : decode (mB mX3_save) 5 = .ok (.getfield 54, 3) := by decide +kernel
theorem qX3_save_8 : decode (mB mX3_save) 8 = .ok (.iload_n 1, 1) := by decide +kernel
theorem qX3_save_9 : decode (mB mX3_save) 9 = .ok (.aaload, 1) := by decide +kernel
theorem qX3_save_10 : decode (mB mX3_save) 10 = .ok (.aload_n 0, 1) := by decide +kernel
theorem qX3_save_11 : decode (mB mX3_save) 11 = .ok (.getfield 40, 3) := by decide +kernel
theorem qX3_save_14 : decode (mB mX3_save) 14 = .ok (.invokevirtual 28, 3) := by decide +kernel
theorem qX3_save_17 : decode (mB mX3_save) 17 = .ok (.aload_n 0, 1) := by decide +kernel
theorem qX3_save_18 : decode (mB mX3_save) 18 = .ok (.getfield 57, 3) := by decide +kernel
theorem qX3_save_21 : decode (mB mX3_save) 21 = .ok (.iload_n 1, 1) := by decide +kernel
theorem qX3_save_22 : decode (mB mX3_save) 22 = .ok (.iconst 1, 1) := by decide +kernel
theorem qX3_save_23 : decode (mB mX3_save) 23 = .ok (.bastore, 1) := by decide +kernel
theorem qX3_save_24 : decode (mB mX3_save) 24 = .ok (.aload_n 0, 1) := by decide +kernel
theorem qX3_save_25 : decode (mB mX3_save) 25 = .ok (.getfield 40, 3) := by decide +kernel
theorem qX3_save_28 : decode (mB mX3_save) 28 = .ok (.getfield 107, 3) := by decide +kernel
theorem qX3_save_31 : decode (mB mX3_save) 31 = .ok (.ireturn, 1) := by decide +kernel
theorem qX3_scaleAt_0 : decode (mB mX3_scaleAt) 0 = .ok (.aload_n 0, 1) := by decide +kernel
theorem qX3_scaleAt_1 : decode (mB mX3_scaleAt) 1 = .ok (.iload_n 1, 1) := by decide +kernel
theorem qX3_scaleAt_2 : decode (mB mX3_scaleAt) 2 = .ok (.invokevirtual 141, 3) := by decide +kernel
theorem qX3_scaleAt_5 : decode (mB mX3_scaleAt) 5 = .ok (.astore_n 3, 1) := by decide +kernel
theorem qX3_scaleAt_6 : decode (mB mX3_scaleAt) 6 = .ok (.iload_n 2, 1) := by decide +kernel
theorem qX3_scaleAt_7 : decode (mB mX3_scaleAt) 7 = .ok (.iconst 0, 1) := by decide +kernel
theorem qX3_scaleAt_8 : decode (mB mX3_scaleAt) 8 = .ok (.sipush 999, 3) := by decide +kernel
theorem qX3_scaleAt_11 : decode (mB mX3_scaleAt) 11 = .ok (.invokestatic 164, 3) := by decide +kernel
theorem qX3_scaleAt_14 : decode (mB mX3_scaleAt) 14 = .ok (.aload_n 3, 1) := by decide +kernel
theorem qX3_scaleAt_15 : decode (mB mX3_scaleAt) 15 = .ok (.invokestatic 196, 3) := by decide +kernel
theorem qX3_scaleAt_18 : decode (mB mX3_scaleAt) 18 = .ok (.aload_n 3, 1) := by decide +kernel
theorem qX3_scaleAt_19 : decode (mB mX3_scaleAt) 19 = .ok (.iload_n 2, 1) := by decide +kernel
theorem qX3_scaleAt_20 : decode (mB mX3_scaleAt) 20 = .ok (.invokevirtual 203, 3) := by decide +kernel
theorem qX3_scaleAt_23 : decode (mB mX3_scaleAt) 23 = .ok (.ireturn, 1) := by decide +kernel
theorem qX3_sensitivity_0 : decode (mB mX3_sensitivity) 0 = .ok (.aload_n 0, 1) := by decide +kernel
theorem qX3_sensitivity_1 : decode (mB mX3_sensitivity) 1 = .ok (.iload_n 1, 1) := by decide +kernel
theorem qX3_sensitivity_2 : decode (mB mX3_sensitivity) 2 = .ok (.invokevirtual 141, 3) := by decide +kernel
theorem qX3_sensitivity_5 : decode (mB mX3_sensitivity) 5 = .ok (.astore_n 2, 1) := by decide +kernel
theorem qX3_sensitivity_6 : decode (mB mX3_sensitivity) 6 = .ok (.aload_n 2, 1) := by decide +kernel
theorem qX3_sensitivity_7 : decode (mB mX3_sensitivity) 7 = .ok (.aload_n 2, 1) := by decide +kernel
theorem qX3_sensitivity_8 : decode (mB mX3_sensitivity) 8 = .ok (.getfield 145, 3) := by decide +kernel
theorem qX3_sensitivity_11 : decode (mB mX3_sensitivity) 11 = .ok (.bipush 10, 2) := by decide +kernel
theorem qX3_sensitivity_13 : decode (mB mX3_sensitivity) 13 = .ok (.iadd, 1) := by decide +kernel
theorem qX3_sensitivity_14 : decode (mB mX3_sensitivity) 14 = .ok (.invokevirtual 168, 3) := by decide +kernel
theorem qX3_sensitivity_17 : decode (mB mX3_sensitivity) 17 = .ok (.aload_n 2, 1) := by decide +kernel
theorem qX3_sensitivity_18 : decode (mB mX3_sensitivity) 18 = .ok (.aload_n 2, 1) := by decide +kernel
theorem qX3_sensitivity_19 : decode (mB mX3_sensitivity) 19 = .ok (.getfield 145, 3) := by decide +kernel
theorem qX3_sensitivity_22 : decode (mB mX3_sensitivity) 22 = .ok (.invokevirtual 168, 3) := by decide +kernel
theorem qX3_sensitivity_25 : decode (mB mX3_sensitivity) 25 = .ok (.isub, 1) := by decide +kernel
theorem qX3_sensitivity_26 : decode (mB mX3_sensitivity) 26 = .ok (.ireturn, 1) := by decide +kernel
theorem qX3_setLeaky_0 : decode (mB mX3_setLeaky) 0 = .ok (.aload_n 0, 1) := by decide +kernel
theorem qX3_setLeaky_1 : decode (mB mX3_setLeaky) 1 = .ok (.iload_n 1, 1) := by decide +kernel
theorem qX3_setLeaky_2 : decode (mB mX3_setLeaky) 2 = .ok (.invokevirtual 141, 3) := by decide +kernel
theorem qX3_setLeaky_5 : decode (mB mX3_setLeaky) 5 = .ok (.astore_n 3, 1) := by decide +kernel
theorem qX3_setLeaky_6 : decode (mB mX3_setLeaky) 6 = .ok (.aload_n 0, 1) := by decide +kernel
theorem qX3_setLeaky_7 : decode (mB mX3_setLeaky) 7 = .ok (.invokevirtual 101, 3) := by decide +kernel
theorem qX3_setLeaky_10 : decode (mB mX3_setLeaky) 10 = .ok (.aload_n 3, 1) := by decide +kernel
theorem qX3_setLeaky_11 : decode (mB mX3_setLeaky) 11 = .ok (.getfield 156, 3) := by decide +kernel
theorem qX3_setLeaky_14 : decode (mB mX3_setLeaky) 14 = .ok (.istore 4, 2) := by decide +kernel
theorem qX3_setLeaky_16 : decode (mB mX3_setLeaky) 16 = .ok (.aload_n 3, 1) := by decide +kernel
theorem qX3_setLeaky_17 : decode (mB mX3_setLeaky) 17 = .ok (.iload_n 2, 1) := by decide +kernel
theorem qX3_setLeaky_18 : decode (mB mX3_setLeaky) 18 = .ok (.putfield 156, 3) := by decide +kernel
theorem qX3_setLeaky_21 : decode (mB mX3_setLeaky) 21 = .ok (.iload 4, 2) := by decide +kernel
theorem qX3_setLeaky_23 : decode (mB mX3_setLeaky) 23 = .ok (.ireturn, 1) := by decide +kernel
theorem qX3_setRoom_0 : decode (mB mX3_setRoom) 0 = .ok (.iload_n 1, 1) := by decide +kernel
theorem qX3_setRoom_1 : decode (mB mX3_setRoom) 1 = .ok (.bipush (-20), 2) := by decide +kernel
theorem qX3_setRoom_3 : decode (mB mX3_setRoom) 3 = .ok (.sipush 150, 3) := by decide +kernel
theorem qX3_setRoom_6 : decode (mB mX3_setRoom) 6 = .ok (.invokestatic 164, 3) := by decide +kernel
theorem qX3_setRoom_9 : decode (mB mX3_setRoom) 9 = .ok (.aload_n 0, 1) := by decide +kernel
theorem qX3_setRoom_10 : decode (mB mX3_setRoom) 10 = .ok (.invokevirtual 101, 3) := by decide +kernel
theorem qX3_setRoom_13 : decode (mB mX3_setRoom) 13 = .ok (.aload_n 0, 1) := by decide +kernel
theorem qX3_setRoom_14 : decode (mB mX3_setRoom) 14 = .ok (.getfield 40, 3) := by decide +kernel
theorem qX3_setRoom_17 : decode (mB mX3_setRoom) 17 = .ok (.getfield 110, 3) := by decide +kernel
theorem qX3_setRoom_20 : decode (mB mX3_setRoom) 20 = .ok (.istore_n 2, 1) := by decide +kernel
theorem qX3_setRoom_21 : decode (mB mX3_setRoom) 21 = .ok (.aload_n 0, 1) := by decide +kernel
theorem qX3_setRoom_22 : decode (mB mX3_setRoom) 22 = .ok (.getfield 40, 3) := by decide +kernel
theorem qX3_setRoom_25 : decode (mB mX3_setRoom) 25 = .ok (.iload_n 1, 1) := by decide +kernel
theorem qX3_setRoom_26 : decode (mB mX3_setRoom) 26 = .ok (.putfield 110, 3) := by decide +kernel
theorem qX3_setRoom_29 : decode (mB mX3_setRoom) 29 = .ok (.iload_n 2, 1) := by decide +kernel
theorem qX3_setRoom_30 : decode (mB mX3_setRoom) 30 = .ok (.ireturn, 1) := by decide +kernel
theorem qX3_settledShare_0 : decode (mB mX3_settledShare) 0 = .ok (.aload_n 0, 1) := by decide +kernel
theorem qX3_settledShare_1 : decode (mB mX3_settledShare) 1 = .ok (.getfield 40, 3) := by decide +kernel
theorem qX3_settledShare_4 : decode (mB mX3_settledShare) 4 = .ok (.getfield 104, 3) := by decide +kernel
theorem qX3_settledShare_7 : decode (mB mX3_settledShare) 7 = .ok (.ifCond .ne 5, 3) := by decide +kernel
theorem qX3_settledShare_10 : decode (mB mX3_settledShare) 10 = .ok (.fconst 0, 1) := by decide +kernel
theorem qX3_settledShare_11 : decode (mB mX3_settledShare) 11 = .ok (.freturn, 1) := by decide +kernel
theorem qX3_settledShare_12 : decode (mB mX3_settledShare) 12 = .ok (.iconst 0, 1) := by decide +kernel
theorem qX3_settledShare_13 : decode (mB mX3_settledShare) 13 = .ok (.istore_n 1, 1) := by decide +kernel
theorem qX3_settledShare_14 : decode (mB mX3_settledShare) 14 = .ok (.iconst 0, 1) := by decide +kernel
theorem qX3_settledShare_15 : decode (mB mX3_settledShare) 15 = .ok (.istore_n 2, 1) := by decide +kernel
theorem qX3_settledShare_16 : decode (mB mX3_settledShare) 16 = .ok (.iload_n 2, 1) := by decide +kernel
theorem qX3_settledShare_17 : decode (mB mX3_settledShare) 17 = .ok (.aload_n 0, 1) := by decide +kernel
theorem qX3_settledShare_18 : decode (mB mX3_settledShare) 18 = .ok (.getfield 40, 3) := by decide +kernel
theorem qX3_settledShare_21 : decode (mB mX3_settledShare) 21 = .ok (.getfield 104, 3) := by decide +kernel
theorem qX3_settledShare_24 : decode (mB mX3_settledShare) 24 = .ok (.if_icmp .ge 31, 3) := by decide +kernel
theorem qX3_settledShare_27 : decode (mB mX3_settledShare) 27 = .ok (.aload_n 0, 1) := by decide +kernel
theorem qX3_settledShare_28 : decode (mB mX3_settledShare) 28 = .ok (.getfield 40, 3) := by decide +kernel
theorem qX3_settledShare_31 : decode (mB mX3_settledShare) 31 = .ok (.aload_n 0, 1) := by decide +kernel
theorem qX3_settledShare_32 : decode (mB mX3_settledShare) 32 = .ok (.getfield 40, 3) := by decide +kernel
theorem qX3_settledShare_35 : decode (mB mX3_settledShare) 35 = .ok (.getfield 120, 3) := by decide +kernel
theorem qX3_settledShare_38 : decode (mB mX3_settledShare) 38 = .ok (.iload_n 2, 1) := by decide +kernel
theorem qX3_settledShare_39 : decode (mB mX3_settledShare) 39 = .ok (.aaload, 1) := by decide +kernel
theorem qX3_settledShare_40 : decode (mB mX3_settledShare) 40 = .ok (.invokevirtual 152, 3) := by decide +kernel
theorem qX3_settledShare_43 : decode (mB mX3_settledShare) 43 = .ok (.ifCond .eq 6, 3) := by decide +kernel
theorem qX3_settledShare_46 : decode (mB mX3_settledShare) 46 = .ok (.iinc 1 1, 3) := by decide +kernel
theorem qX3_settledShare_49 : decode (mB mX3_settledShare) 49 = .ok (.iinc 2 1, 3) := by decide +kernel
theorem qX3_settledShare_52 : decode (mB mX3_settledShare) 52 = .ok (.goto (-36), 3) := by decide +kernel
theorem qX3_settledShare_55 : decode (mB mX3_settledShare) 55 = .ok (.iload_n 1, 1) := by decide +kernel
theorem qX3_settledShare_56 : decode (mB mX3_settledShare) 56 = .ok (.i2f, 1) := by decide +kernel
theorem qX3_settledShare_57 : decode (mB mX3_settledShare) 57 = .ok (.aload_n 0, 1) := by decide +kernel
theorem qX3_settledShare_58 : decode (mB mX3_settledShare) 58 = .ok (.getfield 40, 3) := by decide +kernel
theorem qX3_settledShare_61 : decode (mB mX3_settledShare) 61 = .ok (.getfield 104, 3) := by decide +kernel
theorem qX3_settledShare_64 : decode (mB mX3_settledShare) 64 = .ok (.i2f, 1) := by decide +kernel
theorem qX3_settledShare_65 : decode (mB mX3_settledShare) 65 = .ok (.fdiv, 1) := by decide +kernel
theorem qX3_settledShare_66 : decode (mB mX3_settledShare) 66 = .ok (.freturn, 1) := by decide +kernel
theorem qX3_spiritDifference_0 : decode (mB mX3_spiritDifference) 0 = .ok (.iconst 0, 1) := by decide +kernel
theorem qX3_spiritDifference_1 : decode (mB mX3_spiritDifference) 1 = .ok (.istore_n 1, 1) := by decide +kernel
theorem qX3_spiritDifference_2 : decode (mB mX3_spiritDifference) 2 = .ok (.iconst 0, 1) := by decide +kernel
theorem qX3_spiritDifference_3 : decode (mB mX3_spiritDifference) 3 = .ok (.istore_n 2, 1) := by decide +kernel
theorem qX3_spiritDifference_4 : decode (mB mX3_spiritDifference) 4 = .ok (.iload_n 2, 1) := by decide +kernel
theorem qX3_spiritDifference_5 : decode (mB mX3_spiritDifference) 5 = .ok (.aload_n 0, 1) := by decide +kernel
theorem qX3_spiritDifference_6 : decode (mB mX3_spiritDifference) 6 = .ok (.getfield 40, 3) := by decide +kernel
theorem qX3_spiritDifference_9 : decode (mB mX3_spiritDifference) 9 = .ok (.getfield 104, 3) := by decide +kernel
theorem qX3_spiritDifference_12 : decode (mB mX3_spiritDifference) 12 = .ok (.if_icmp .ge 36, 3) := by decide +kernel
theorem qX3_spiritDifference_15 : decode (mB mX3_spiritDifference) 15 = .ok (.aload_n 0, 1) := by decide +kernel
theorem qX3_spiritDifference_16 : decode (mB mX3_spiritDifference) 16 = .ok (.getfield 40, 3) := by decide +kernel
theorem qX3_spiritDifference_19 : decode (mB mX3_spiritDifference) 19 = .ok (.getfield 120, 3) := by decide +kernel
theorem qX3_spiritDifference_22 : decode (mB mX3_spiritDifference) 22 = .ok (.iload_n 2, 1) := by decide +kernel
theorem qX3_spiritDifference_23 : decode (mB mX3_spiritDifference) 23 = .ok (.aaload, 1) := by decide +kernel
theorem qX3_spiritDifference_24 : decode (mB mX3_spiritDifference) 24 = .ok (.astore_n 3, 1) := by decide +kernel
theorem qX3_spiritDifference_25 : decode (mB mX3_spiritDifference) 25 = .ok (.iload_n 1, 1) := by decide +kernel
theorem qX3_spiritDifference_26 : decode (mB mX3_spiritDifference) 26 = .ok (.aload_n 3, 1) := by decide +kernel
theorem qX3_spiritDifference_27 : decode (mB mX3_spiritDifference) 27 = .ok (.getfield 244, 3) := by decide +kernel
theorem qX3_spiritDifference_30 : decode (mB mX3_spiritDifference) 30 = .ok (.aload_n 3, 1) := by decide +kernel
theorem qX3_spiritDifference_31 : decode (mB mX3_spiritDifference) 31 = .ok (.getfield 135, 3) := by decide +kernel
theorem qX3_spiritDifference_34 : decode (mB mX3_spiritDifference) 34 = .ok (.isub, 1) := by decide +kernel
theorem qX3_spiritDifference_35 : decode (mB mX3_spiritDifference) 35 = .ok (.aload_n 3, 1) := by decide +kernel
theorem qX3_spiritDifference_36 : decode (mB mX3_spiritDifference) 36 = .ok (.getfield 138, 3) := by decide +kernel
theorem qX3_spiritDifference_39 : decode (mB mX3_spiritDifference) 39 = .ok (.isub, 1) := by decide +kernel
theorem qX3_spiritDifference_40 : decode (mB mX3_spiritDifference) 40 = .ok (.iadd, 1) := by decide +kernel
theorem qX3_spiritDifference_41 : decode (mB mX3_spiritDifference) 41 = .ok (.istore_n 1, 1) := by decide +kernel
theorem qX3_spiritDifference_42 : decode (mB mX3_spiritDifference) 42 = .ok (.iinc 2 1, 3) := by decide +kernel
theorem qX3_spiritDifference_45 : decode (mB mX3_spiritDifference) 45 = .ok (.goto (-41), 3) := by decide +kernel
theorem qX3_spiritDifference_48 : decode (mB mX3_spiritDifference) 48 = .ok (.iload_n 1, 1) := by decide +kernel
theorem qX3_spiritDifference_49 : decode (mB mX3_spiritDifference) 49 = .ok (.ireturn, 1) := by decide +kernel
theorem qX3_spiritInTubes_0 : decode (mB mX3_spiritInTubes) 0 = .ok (.aload_n 0, 1) := by decide +kernel
theorem qX3_spiritInTubes_1 : decode (mB mX3_spiritInTubes) 1 = .ok (.iload_n 1, 1) := by decide +kernel
theorem qX3_spiritInTubes_2 : decode (mB mX3_spiritInTubes) 2 = .ok (.invokevirtual 129, 3) := by decide +kernel
theorem qX3_spiritInTubes_5 : decode (mB mX3_spiritInTubes) 5 = .ok (.iconst 0, 1) := by decide +kernel
theorem qX3_spiritInTubes_6 : decode (mB mX3_spiritInTubes) 6 = .ok (.istore_n 2, 1) := by decide +kernel
theorem qX3_spiritInTubes_7 : decode (mB mX3_spiritInTubes) 7 = .ok (.iconst 0, 1) := by decide +kernel
theorem qX3_spiritInTubes_8 : decode (mB mX3_spiritInTubes) 8 = .ok (.istore_n 3, 1) := by decide +kernel
theorem qX3_spiritInTubes_9 : decode (mB mX3_spiritInTubes) 9 = .ok (.iload_n 3, 1) := by decide +kernel
theorem qX3_spiritInTubes_10 : decode (mB mX3_spiritInTubes) 10 = .ok (.aload_n 0, 1) := by decide +kernel
theorem qX3_spiritInTubes_11 : decode (mB mX3_spiritInTubes) 11 = .ok (.getfield 40, 3) := by decide +kernel
theorem qX3_spiritInTubes_14 : decode (mB mX3_spiritInTubes) 14 = .ok (.getfield 104, 3) := by decide +kernel
theorem qX3_spiritInTubes_17 : decode (mB mX3_spiritInTubes) 17 = .ok (.if_icmp .ge 40, 3) := by decide +kernel
theorem qX3_spiritInTubes_20 : decode (mB mX3_spiritInTubes) 20 = .ok (.aload_n 0, 1) := by decide +kernel
theorem qX3_spiritInTubes_21 : decode (mB mX3_spiritInTubes) 21 = .ok (.getfield 40, 3) := by decide +kernel
theorem qX3_spiritInTubes_24 : decode (mB mX3_spiritInTubes) 24 = .ok (.getfield 120, 3) := by decide +kernel
theorem qX3_spiritInTubes_27 : decode (mB mX3_spiritInTubes) 27 = .ok (.iload_n 3, 1) := by decide +kernel
theorem qX3_spiritInTubes_28 : decode (mB mX3_spiritInTubes) 28 = .ok (.aaload, 1) := by decide +kernel
theorem qX3_spiritInTubes_29 : decode (mB mX3_spiritInTubes) 29 = .ok (.getfield 132, 3) := by decide +kernel
theorem qX3_spiritInTubes_32 : decode (mB mX3_spiritInTubes) 32 = .ok (.iload_n 1, 1) := by decide +kernel
theorem qX3_spiritInTubes_33 : decode (mB mX3_spiritInTubes) 33 = .ok (.if_icmp .ne 18, 3) := by decide +kernel
theorem qX3_spiritInTubes_36 : decode (mB mX3_spiritInTubes) 36 = .ok (.iload_n 2, 1) := by decide +kernel
theorem qX3_spiritInTubes_37 : decode (mB mX3_spiritInTubes) 37 = .ok (.aload_n 0, 1) := by decide +kernel
theorem qX3_spiritInTubes_38 : decode (mB mX3_spiritInTubes) 38 = .ok (.getfield 40, 3) := by decide +kernel
theorem qX3_spiritInTubes_41 : decode (mB mX3_spiritInTubes) 41 = .ok (.getfield 120, 3) := by decide +kernel
theorem qX3_spiritInTubes_44 : decode (mB mX3_spiritInTubes) 44 = .ok (.iload_n 3, 1) := by decide +kernel
theorem qX3_spiritInTubes_45 : decode (mB mX3_spiritInTubes) 45 = .ok (.aaload, 1) := by decide +kernel
theorem qX3_spiritInTubes_46 : decode (mB mX3_spiritInTubes) 46 = .ok (.getfield 135, 3) := by decide +kernel
theorem qX3_spiritInTubes_49 : decode (mB mX3_spiritInTubes) 49 = .ok (.iadd, 1) := by decide +kernel
theorem qX3_spiritInTubes_50 : decode (mB mX3_spiritInTubes) 50 = .ok (.istore_n 2, 1) := by decide +kernel
theorem qX3_spiritInTubes_51 : decode (mB mX3_spiritInTubes) 51 = .ok (.iinc 3 1, 3) := by decide +kernel
theorem qX3_spiritInTubes_54 : decode (mB mX3_spiritInTubes) 54 = .ok (.goto (-45), 3) := by decide +kernel
theorem qX3_spiritInTubes_57 : decode (mB mX3_spiritInTubes) 57 = .ok (.iload_n 2, 1) := by decide +kernel
theorem qX3_spiritInTubes_58 : decode (mB mX3_spiritInTubes) 58 = .ok (.ireturn, 1) := by decide +kernel
theorem qX3_spiritLost_0 : decode (mB mX3_spiritLost) 0 = .ok (.aload_n 0, 1) := by decide +kernel
theorem qX3_spiritLost_1 : decode (mB mX3_spiritLost) 1 = .ok (.iload_n 1, 1) := by decide +kernel
theorem qX3_spiritLost_2 : decode (mB mX3_spiritLost) 2 = .ok (.invokevirtual 129, 3) := by decide +kernel
theorem qX3_spiritLost_5 : decode (mB mX3_spiritLost) 5 = .ok (.iconst 0, 1) := by decide +kernel
theorem qX3_spiritLost_6 : decode (mB mX3_spiritLost) 6 = .ok (.istore_n 2, 1) := by decide +kernel
theorem qX3_spiritLost_7 : decode (mB mX3_spiritLost) 7 = .ok (.iconst 0, 1) := by decide +kernel
theorem qX3_spiritLost_8 : decode (mB mX3_spiritLost) 8 = .ok (.istore_n 3, 1) := by decide +kernel
theorem qX3_spiritLost_9 : decode (mB mX3_spiritLost) 9 = .ok (.iload_n 3, 1) := by decide +kernel
theorem qX3_spiritLost_10 : decode (mB mX3_spiritLost) 10 = .ok (.aload_n 0, 1) := by decide +kernel
theorem qX3_spiritLost_11 : decode (mB mX3_spiritLost) 11 = .ok (.getfield 40, 3) := by decide +kernel
theorem qX3_spiritLost_14 : decode (mB mX3_spiritLost) 14 = .ok (.getfield 104, 3) := by decide +kernel
theorem qX3_spiritLost_17 : decode (mB mX3_spiritLost) 17 = .ok (.if_icmp .ge 40, 3) := by decide +kernel
theorem qX3_spiritLost_20 : decode (mB mX3_spiritLost) 20 = .ok (.aload_n 0, 1) := by decide +kernel
theorem qX3_spiritLost_21 : decode (mB mX3_spiritLost) 21 = .ok (.getfield 40, 3) := by decide +kernel
theorem qX3_spiritLost_24 : decode (mB mX3_spiritLost) 24 = .ok (.getfield 120, 3) := by decide +kernel
theorem qX3_spiritLost_27 : decode (mB mX3_spiritLost) 27 = .ok (.iload_n 3, 1) := by decide +kernel
theorem qX3_spiritLost_28 : decode (mB mX3_spiritLost) 28 = .ok (.aaload, 1) := by decide +kernel
theorem qX3_spiritLost_29 : decode (mB mX3_spiritLost) 29 = .ok (.getfield 132, 3) := by decide +kernel
theorem qX3_spiritLost_32 : decode (mB mX3_spiritLost) 32 = .ok (.iload_n 1, 1) := by decide +kernel
theorem qX3_spiritLost_33 : decode (mB mX3_spiritLost) 33 = .ok (.if_icmp .ne 18, 3) := by decide +kernel
theorem qX3_spiritLost_36 : decode (mB mX3_spiritLost) 36 = .ok (.iload_n 2, 1) := by decide +kernel
theorem qX3_spiritLost_37 : decode (mB mX3_spiritLost) 37 = .ok (.aload_n 0, 1) := by decide +kernel
theorem qX3_spiritLost_38 : decode (mB mX3_spiritLost) 38 = .ok (.getfield 40, 3) := by decide +kernel
theorem qX3_spiritLost_41 : decode (mB mX3_spiritLost) 41 = .ok (.getfield 120, 3) := by decide +kernel
theorem qX3_spiritLost_44 : decode (mB mX3_spiritLost) 44 = .ok (.iload_n 3, 1) := by decide +kernel
theorem qX3_spiritLost_45 : decode (mB mX3_spiritLost) 45 = .ok (.aaload, 1) := by decide +kernel
theorem qX3_spiritLost_46 : decode (mB mX3_spiritLost) 46 = .ok (.getfield 138, 3) := by decide +kernel
theorem qX3_spiritLost_49 : decode (mB mX3_spiritLost) 49 = .ok (.iadd, 1) := by decide +kernel
theorem qX3_spiritLost_50 : decode (mB mX3_spiritLost) 50 = .ok (.istore_n 2, 1) := by decide +kernel
theorem qX3_spiritLost_51 : decode (mB mX3_spiritLost) 51 = .ok (.iinc 3 1, 3) := by decide +kernel
theorem qX3_spiritLost_54 : decode (mB mX3_spiritLost) 54 = .ok (.goto (-45), 3) := by decide +kernel
theorem qX3_spiritLost_57 : decode (mB mX3_spiritLost) 57 = .ok (.iload_n 2, 1) := by decide +kernel
theorem qX3_spiritLost_58 : decode (mB mX3_spiritLost) 58 = .ok (.ireturn, 1) := by decide +kernel
theorem qX3_spiritOf_0 : decode (mB mX3_spiritOf) 0 = .ok (.aload_n 0, 1) := by decide +kernel
theorem qX3_spiritOf_1 : decode (mB mX3_spiritOf) 1 = .ok (.iload_n 1, 1) := by decide +kernel
theorem qX3_spiritOf_2 : decode (mB mX3_spiritOf) 2 = .ok (.invokevirtual 141, 3) := by decide +kernel
theorem qX3_spiritOf_5 : decode (mB mX3_spiritOf) 5 = .ok (.getfield 132, 3) := by decide +kernel
theorem qX3_spiritOf_8 : decode (mB mX3_spiritOf) 8 = .ok (.ireturn, 1) := by decide +kernel
theorem qX3_spread_0 : decode (mB mX3_spread) 0 = .ok (.iconst 0, 1) := by decide +kernel
theorem qX3_spread_1 : decode (mB mX3_spread) 1 = .ok (.istore_n 1, 1) := by decide +kernel
theorem qX3_spread_2 : decode (mB mX3_spread) 2 = .ok (.iconst 0, 1) := by decide +kernel
theorem qX3_spread_3 : decode (mB mX3_spread) 3 = .ok (.istore_n 2, 1) := by decide +kernel
theorem qX3_spread_4 : decode (mB mX3_spread) 4 = .ok (.iconst 0, 1) := by decide +kernel
theorem qX3_spread_5 : decode (mB mX3_spread) 5 = .ok (.istore_n 3, 1) := by decide +kernel
theorem qX3_spread_6 : decode (mB mX3_spread) 6 = .ok (.iconst 0, 1) := by decide +kernel
theorem qX3_spread_7 : decode (mB mX3_spread) 7 = .ok (.istore 4, 2) := by decide +kernel
theorem qX3_spread_9 : decode (mB mX3_spread) 9 = .ok (.iload 4, 2) := by decide +kernel
theorem qX3_spread_11 : decode (mB mX3_spread) 11 = .ok (.aload_n 0, 1) := by decide +kernel
theorem qX3_spread_12 : decode (mB mX3_spread) 12 = .ok (.getfield 40, 3) := by decide +kernel
theorem qX3_spread_15 : decode (mB mX3_spread) 15 = .ok (.getfield 104, 3) := by decide +kernel
theorem qX3_spread_18 : decode (mB mX3_spread) 18 = .ok (.if_icmp .ge 70, 3) := by decide +kernel
theorem qX3_spread_21 : decode (mB mX3_spread) 21 = .ok (.aload_n 0, 1) := by decide +kernel
theorem qX3_spread_22 : decode (mB mX3_spread) 22 = .ok (.getfield 40, 3) := by decide +kernel
theorem qX3_spread_25 : decode (mB mX3_spread) 25 = .ok (.getfield 120, 3) := by decide +kernel
theorem qX3_spread_28 : decode (mB mX3_spread) 28 = .ok (.iload 4, 2) := by decide +kernel
theorem qX3_spread_30 : decode (mB mX3_spread) 30 = .ok (.aaload, 1) := by decide +kernel
theorem qX3_spread_31 : decode (mB mX3_spread) 31 = .ok (.astore 5, 2) := by decide +kernel
theorem qX3_spread_33 : decode (mB mX3_spread) 33 = .ok (.aload 5, 2) := by decide +kernel
theorem qX3_spread_35 : decode (mB mX3_spread) 35 = .ok (.invokevirtual 192, 3) := by decide +kernel
theorem qX3_spread_38 : decode (mB mX3_spread) 38 = .ok (.ifCond .eq 44, 3) := by decide +kernel
theorem qX3_spread_41 : decode (mB mX3_spread) 41 = .ok (.aload 5, 2) := by decide +kernel
theorem qX3_spread_43 : decode (mB mX3_spread) 43 = .ok (.invokevirtual 200, 3) := by decide +kernel
theorem qX3_spread_46 : decode (mB mX3_spread) 46 = .ok (.istore 6, 2) := by decide +kernel
theorem qX3_spread_48 : decode (mB mX3_spread) 48 = .ok (.iload_n 1, 1) := by decide +kernel
theorem qX3_spread_49 : decode (mB mX3_spread) 49 = .ok (.ifCond .eq 12, 3) := by decide +kernel
theorem qX3_spread_52 : decode (mB mX3_spread) 52 = .ok (.iload_n 2, 1) := by decide +kernel
theorem qX3_spread_53 : decode (mB mX3_spread) 53 = .ok (.iload 6, 2) := by decide +kernel
theorem qX3_spread_55 : decode (mB mX3_spread) 55 = .ok (.invokestatic 221, 3) := by decide +kernel
theorem qX3_spread_58 : decode (mB mX3_spread) 58 = .ok (.goto 5, 3) := by decide +kernel
theorem qX3_spread_61 : decode (mB mX3_spread) 61 = .ok (.iload 6, 2) := by decide +kernel
theorem qX3_spread_63 : decode (mB mX3_spread) 63 = .ok (.istore_n 2, 1) := by decide +kernel
theorem qX3_spread_64 : decode (mB mX3_spread) 64 = .ok (.iload_n 1, 1) := by decide +kernel
theorem qX3_spread_65 : decode (mB mX3_spread) 65 = .ok (.ifCond .eq 12, 3) := by decide +kernel
theorem qX3_spread_68 : decode (mB mX3_spread) 68 = .ok (.iload_n 3, 1) := by decide +kernel
theorem qX3_spread_69 : decode (mB mX3_spread) 69 = .ok (.iload 6, 2) := by decide +kernel
theorem qX3_spread_71 : decode (mB mX3_spread) 71 = .ok (.invokestatic 225, 3) := by decide +kernel
theorem qX3_spread_74 : decode (mB mX3_spread) 74 = .ok (.goto 5, 3) := by decide +kernel
theorem qX3_spread_77 : decode (mB mX3_spread) 77 = .ok (.iload 6, 2) := by decide +kernel
theorem qX3_spread_79 : decode (mB mX3_spread) 79 = .ok (.istore_n 3, 1) := by decide +kernel
theorem qX3_spread_80 : decode (mB mX3_spread) 80 = .ok (.iconst 1, 1) := by decide +kernel
theorem qX3_spread_81 : decode (mB mX3_spread) 81 = .ok (.istore_n 1, 1) := by decide +kernel
theorem qX3_spread_82 : decode (mB mX3_spread) 82 = .ok (.iinc 4 1, 3) := by decide +kernel
theorem qX3_spread_85 : decode (mB mX3_spread) 85 = .ok (.goto (-76), 3) := by decide +kernel
theorem qX3_spread_88 : decode (mB mX3_spread) 88 = .ok (.iload_n 3, 1) := by decide +kernel
theorem qX3_spread_89 : decode (mB mX3_spread) 89 = .ok (.iload_n 2, 1) := by decide +kernel
theorem qX3_spread_90 : decode (mB mX3_spread) 90 = .ok (.isub, 1) := by decide +kernel
theorem qX3_spread_91 : decode (mB mX3_spread) 91 = .ok (.ireturn, 1) := by decide +kernel
theorem qX3_surroundingsOf_0 : decode (mB mX3_surroundingsOf) 0 = .ok (.aload_n 0, 1) := by decide +kernel
theorem qX3_surroundingsOf_1 : decode (mB mX3_surroundingsOf) 1 = .ok (.getfield 40, 3) := by decide +kernel
theorem qX3_surroundingsOf_4 : decode (mB mX3_surroundingsOf) 4 = .ok (.aload_n 0, 1) := by decide +kernel
theorem qX3_surroundingsOf_5 : decode (mB mX3_surroundingsOf) 5 = .ok (.iload_n 1, 1) := by decide +kernel
theorem qX3_surroundingsOf_6 : decode (mB mX3_surroundingsOf) 6 = .ok (.invokevirtual 141, 3) := by decide +kernel
theorem qX3_surroundingsOf_9 : decode (mB mX3_surroundingsOf) 9 = .ok (.invokevirtual 148, 3) := by decide +kernel
theorem qX3_surroundingsOf_12 : decode (mB mX3_surroundingsOf) 12 = .ok (.ireturn, 1) := by decide +kernel
theorem qX3_tallestTube_0 : decode (mB mX3_tallestTube) 0 = .ok (.iconst (-1), 1) := by decide +kernel
theorem qX3_tallestTube_1 : decode (mB mX3_tallestTube) 1 = .ok (.istore_n 1, 1) := by decide +kernel
theorem qX3_tallestTube_2 : decode (mB mX3_tallestTube) 2 = .ok (.iconst 0, 1) := by decide +kernel
theorem qX3_tallestTube_3 : decode (mB mX3_tallestTube) 3 = .ok (.istore_n 2, 1) := by decide +kernel
theorem qX3_tallestTube_4 : decode (mB mX3_tallestTube) 4 = .ok (.iconst 0, 1) := by decide +kernel
theorem qX3_tallestTube_5 : decode (mB mX3_tallestTube) 5 = .ok (.istore_n 3, 1) := by decide +kernel
theorem qX3_tallestTube_6 : decode (mB mX3_tallestTube) 6 = .ok (.iload_n 3, 1) := by decide +kernel
theorem qX3_tallestTube_7 : decode (mB mX3_tallestTube) 7 = .ok (.aload_n 0, 1) := by decide +kernel
theorem qX3_tallestTube_8 : decode (mB mX3_tallestTube) 8 = .ok (.getfield 40, 3) := by decide +kernel
theorem qX3_tallestTube_11 : decode (mB mX3_tallestTube) 11 = .ok (.getfield 104, 3) := by decide +kernel
theorem qX3_tallestTube_14 : decode (mB mX3_tallestTube) 14 = .ok (.if_icmp .ge 39, 3) := by decide +kernel
theorem qX3_tallestTube_17 : decode (mB mX3_tallestTube) 17 = .ok (.aload_n 0, 1) := by decide +kernel
theorem qX3_tallestTube_18 : decode (mB mX3_tallestTube) 18 = .ok (.getfield 40, 3) := by decide +kernel
theorem qX3_tallestTube_21 : decode (mB mX3_tallestTube) 21 = .ok (.getfield 120, 3) := by decide +kernel
theorem qX3_tallestTube_24 : decode (mB mX3_tallestTube) 24 = .ok (.iload_n 3, 1) := by decide +kernel
theorem qX3_tallestTube_25 : decode (mB mX3_tallestTube) 25 = .ok (.aaload, 1) := by decide +kernel
theorem qX3_tallestTube_26 : decode (mB mX3_tallestTube) 26 = .ok (.invokevirtual 160, 3) := by decide +kernel
theorem qX3_tallestTube_29 : decode (mB mX3_tallestTube) 29 = .ok (.istore 4, 2) := by decide +kernel
theorem qX3_tallestTube_31 : decode (mB mX3_tallestTube) 31 = .ok (.iload_n 1, 1) := by decide +kernel
theorem qX3_tallestTube_32 : decode (mB mX3_tallestTube) 32 = .ok (.iconst (-1), 1) := by decide +kernel
theorem qX3_tallestTube_33 : decode (mB mX3_tallestTube) 33 = .ok (.if_icmp .eq 9, 3) := by decide +kernel
theorem qX3_tallestTube_36 : decode (mB mX3_tallestTube) 36 = .ok (.iload 4, 2) := by decide +kernel
theorem qX3_tallestTube_38 : decode (mB mX3_tallestTube) 38 = .ok (.iload_n 2, 1) := by decide +kernel
theorem qX3_tallestTube_39 : decode (mB mX3_tallestTube) 39 = .ok (.if_icmp .le 8, 3) := by decide +kernel
theorem qX3_tallestTube_42 : decode (mB mX3_tallestTube) 42 = .ok (.iload_n 3, 1) := by decide +kernel
theorem qX3_tallestTube_43 : decode (mB mX3_tallestTube) 43 = .ok (.istore_n 1, 1) := by decide +kernel
theorem qX3_tallestTube_44 : decode (mB mX3_tallestTube) 44 = .ok (.iload 4, 2) := by decide +kernel
theorem qX3_tallestTube_46 : decode (mB mX3_tallestTube) 46 = .ok (.istore_n 2, 1) := by decide +kernel
theorem qX3_tallestTube_47 : decode (mB mX3_tallestTube) 47 = .ok (.iinc 3 1, 3) := by decide +kernel
theorem qX3_tallestTube_50 : decode (mB mX3_tallestTube) 50 = .ok (.goto (-44), 3) := by decide +kernel
theorem qX3_tallestTube_53 : decode (mB mX3_tallestTube) 53 = .ok (.iload_n 1, 1) := by decide +kernel
theorem qX3_tallestTube_54 : decode (mB mX3_tallestTube) 54 = .ok (.ireturn, 1) := by decide +kernel
theorem qX3_temperatureAfter_0 : decode (mB mX3_temperatureAfter) 0 = .ok (.aload_n 0, 1) := by decide +kernel
theorem qX3_temperatureAfter_1 : decode (mB mX3_temperatureAfter) 1 = .ok (.iload_n 1, 1) := by decide +kernel
theorem qX3_temperatureAfter_2 : decode (mB mX3_temperatureAfter) 2 = .ok (.invokevirtual 141, 3) := by decide +kernel
theorem qX3_temperatureAfter_5 : decode (mB mX3_temperatureAfter) 5 = .ok (.pop, 1) := by decide +kernel
theorem qX3_temperatureAfter_6 : decode (mB mX3_temperatureAfter) 6 = .ok (.iload_n 2, 1) := by decide +kernel
theorem qX3_temperatureAfter_7 : decode (mB mX3_temperatureAfter) 7 = .ok (.iconst 0, 1) := by decide +kernel
theorem qX3_temperatureAfter_8 : decode (mB mX3_temperatureAfter) 8 = .ok (.sipush 300, 3) := by decide +kernel
theorem qX3_temperatureAfter_11 : decode (mB mX3_temperatureAfter) 11 = .ok (.invokestatic 164, 3) := by decide +kernel
theorem qX3_temperatureAfter_14 : decode (mB mX3_temperatureAfter) 14 = .ok (.aload_n 0, 1) := by decide +kernel
theorem qX3_temperatureAfter_15 : decode (mB mX3_temperatureAfter) 15 = .ok (.getfield 43, 3) := by decide +kernel
theorem qX3_temperatureAfter_18 : decode (mB mX3_temperatureAfter) 18 = .ok (.aload_n 0, 1) := by decide +kernel
theorem qX3_temperatureAfter_19 : decode (mB mX3_temperatureAfter) 19 = .ok (.getfield 40, 3) := by decide +kernel
theorem qX3_temperatureAfter_22 : decode (mB mX3_temperatureAfter) 22 = .ok (.invokevirtual 28, 3) := by decide +kernel
theorem qX3_temperatureAfter_25 : decode (mB mX3_temperatureAfter) 25 = .ok (.aload_n 0, 1) := by decide +kernel
theorem qX3_temperatureAfter_26 : decode (mB mX3_temperatureAfter) 26 = .ok (.getfield 43, 3) := by decide +kernel
theorem qX3_temperatureAfter_29 : decode (mB mX3_temperatureAfter) 29 = .ok (.iload_n 2, 1) := by decide +kernel
theorem qX3_temperatureAfter_30 : decode (mB mX3_temperatureAfter) 30 = .ok (.invokevirtual 247, 3) := by decide +kernel
theorem qX3_temperatureAfter_33 : decode (mB mX3_temperatureAfter) 33 = .ok (.pop, 1) := by decide +kernel
theorem qX3_temperatureAfter_34 : decode (mB mX3_temperatureAfter) 34 = .ok (.aload_n 0, 1) := by decide +kernel
theorem qX3_temperatureAfter_35 : decode (mB mX3_temperatureAfter) 35 = .ok (.getfield 43, 3) := by decide +kernel
theorem qX3_temperatureAfter_38 : decode (mB mX3_temperatureAfter) 38 = .ok (.getfield 120, 3) := by decide +kernel
theorem qX3_temperatureAfter_41 : decode (mB mX3_temperatureAfter) 41 = .ok (.iload_n 1, 1) := by decide +kernel
theorem qX3_temperatureAfter_42 : decode (mB mX3_temperatureAfter) 42 = .ok (.aaload, 1) := by decide +kernel
theorem qX3_temperatureAfter_43 : decode (mB mX3_temperatureAfter) 43 = .ok (.getfield 145, 3) := by decide +kernel
theorem qX3_temperatureAfter_46 : decode (mB mX3_temperatureAfter) 46 = .ok (.ireturn, 1) := by decide +kernel
theorem qX3_temperatureOf_0 : decode (mB mX3_temperatureOf) 0 = .ok (.aload_n 0, 1) := by decide +kernel
theorem qX3_temperatureOf_1 : decode (mB mX3_temperatureOf) 1 = .ok (.iload_n 1, 1) := by decide +kernel
theorem qX3_temperatureOf_2 : decode (mB mX3_temperatureOf) 2 = .ok (.invokevirtual 141, 3) := by decide +kernel
theorem qX3_temperatureOf_5 : decode (mB mX3_temperatureOf) 5 = .ok (.getfield 145, 3) := by decide +kernel
theorem qX3_temperatureOf_8 : decode (mB mX3_temperatureOf) 8 = .ok (.ireturn, 1) := by decide +kernel
theorem qX3_thumbLeft_0 : decode (mB mX3_thumbLeft) 0 = .ok (.aload_n 0, 1) := by decide +kernel
theorem qX3_thumbLeft_1 : decode (mB mX3_thumbLeft) 1 = .ok (.getfield 40, 3) := by decide +kernel
theorem qX3_thumbLeft_4 : decode (mB mX3_thumbLeft) 4 = .ok (.getfield 176, 3) := by decide +kernel
theorem qX3_thumbLeft_7 : decode (mB mX3_thumbLeft) 7 = .ok (.ireturn, 1) := by decide +kernel
theorem qX3_thumbedTube_0 : decode (mB mX3_thumbedTube) 0 = .ok (.aload_n 0, 1) := by decide +kernel
theorem qX3_thumbedTube_1 : decode (mB mX3_thumbedTube) 1 = .ok (.getfield 40, 3) := by decide +kernel
theorem qX3_thumbedTube_4 : decode (mB mX3_thumbedTube) 4 = .ok (.getfield 173, 3) := by decide +kernel
theorem qX3_thumbedTube_7 : decode (mB mX3_thumbedTube) 7 = .ok (.ireturn, 1) := by decide +kernel
theorem qX3_topUp_0 : decode (mB mX3_topUp) 0 = .ok (.aload_n 0, 1) := by decide +kernel
theorem qX3_topUp_1 : decode (mB mX3_topUp) 1 = .ok (.iload_n 1, 1) := by decide +kernel
theorem qX3_topUp_2 : decode (mB mX3_topUp) 2 = .ok (.invokevirtual 141, 3) := by decide +kernel
theorem qX3_topUp_5 : decode (mB mX3_topUp) 5 = .ok (.astore_n 3, 1) := by decide +kernel
theorem qX3_topUp_6 : decode (mB mX3_topUp) 6 = .ok (.iload_n 2, 1) := by decide +kernel
theorem qX3_topUp_7 : decode (mB mX3_topUp) 7 = .ok (.iconst 1, 1) := by decide +kernel
theorem qX3_topUp_8 : decode (mB mX3_topUp) 8 = .ok (.sipush 999, 3) := by decide +kernel
theorem qX3_topUp_11 : decode (mB mX3_topUp) 11 = .ok (.invokestatic 164, 3) := by decide +kernel
theorem qX3_topUp_14 : decode (mB mX3_topUp) 14 = .ok (.aload_n 3, 1) := by decide +kernel
theorem qX3_topUp_15 : decode (mB mX3_topUp) 15 = .ok (.getfield 135, 3) := by decide +kernel
theorem qX3_topUp_18 : decode (mB mX3_topUp) 18 = .ok (.iload_n 2, 1) := by decide +kernel
theorem qX3_topUp_19 : decode (mB mX3_topUp) 19 = .ok (.iadd, 1) := by decide +kernel
theorem qX3_topUp_20 : decode (mB mX3_topUp) 20 = .ok (.sipush 999, 3) := by decide +kernel
theorem qX3_topUp_23 : decode (mB mX3_topUp) 23 = .ok (.if_icmp .le 14, 3) := by decide +kernel
theorem qX3_topUp_26 : decode (mB mX3_topUp) 26 = .ok (.new 80, 3) := by decide +kernel
theorem qX3_topUp_29 : decode (mB mX3_topUp) 29 = .ok (.dup, 1) := by decide +kernel
theorem qX3_topUp_30 : decode (mB mX3_topUp) 30 = .ok (.ldc_w 265, 3) := by decide +kernel
theorem qX3_topUp_33 : decode (mB mX3_topUp) 33 = .ok (.invokespecial 84, 3) := by decide +kernel
theorem qX3_topUp_36 : decode (mB mX3_topUp) 36 = .ok (.athrow, 1) := by decide +kernel
theorem qX3_topUp_37 : decode (mB mX3_topUp) 37 = .ok (.aload_n 0, 1) := by decide +kernel
theorem qX3_topUp_38 : decode (mB mX3_topUp) 38 = .ok (.invokevirtual 101, 3) := by decide +kernel
theorem qX3_topUp_41 : decode (mB mX3_topUp) 41 = .ok (.aload_n 3, 1) := by decide +kernel
theorem qX3_topUp_42 : decode (mB mX3_topUp) 42 = .ok (.iload_n 2, 1) := by decide +kernel
theorem qX3_topUp_43 : decode (mB mX3_topUp) 43 = .ok (.invokevirtual 267, 3) := by decide +kernel
theorem qX3_topUp_46 : decode (mB mX3_topUp) 46 = .ok (.aload_n 3, 1) := by decide +kernel
theorem qX3_topUp_47 : decode (mB mX3_topUp) 47 = .ok (.getfield 135, 3) := by decide +kernel
theorem qX3_topUp_50 : decode (mB mX3_topUp) 50 = .ok (.ireturn, 1) := by decide +kernel
theorem qX3_truncate_0 : decode (mB mX3_truncate) 0 = .ok (.iload_n 1, 1) := by decide +kernel
theorem qX3_truncate_1 : decode (mB mX3_truncate) 1 = .ok (.ifCond .lt 14, 3) := by decide +kernel
theorem qX3_truncate_4 : decode (mB mX3_truncate) 4 = .ok (.iload_n 1, 1) := by decide +kernel
theorem qX3_truncate_5 : decode (mB mX3_truncate) 5 = .ok (.aload_n 0, 1) := by decide +kernel
theorem qX3_truncate_6 : decode (mB mX3_truncate) 6 = .ok (.getfield 36, 3) := by decide +kernel
theorem qX3_truncate_9 : decode (mB mX3_truncate) 9 = .ok (.getfield 32, 3) := by decide +kernel
theorem qX3_truncate_12 : decode (mB mX3_truncate) 12 = .ok (.if_icmp .le 13, 3) := by decide +kernel
theorem qX3_truncate_15 : decode (mB mX3_truncate) 15 = .ok (.new 90, 3) := by decide +kernel
theorem qX3_truncate_18 : decode (mB mX3_truncate) 18 = .ok (.dup, 1) := by decide +kernel
theorem qX3_truncate_19 : decode (mB mX3_truncate) 19 = .ok (.ldc 92, 2) := by decide +kernel
theorem qX3_truncate_21 : decode (mB mX3_truncate) 21 = .ok (.invokespecial 94, 3) := by decide +kernel
theorem qX3_truncate_24 : decode (mB mX3_truncate) 24 = .ok (.athrow, 1) := by decide +kernel
theorem qX3_truncate_25 : decode (mB mX3_truncate) 25 = .ok (.aload_n 0, 1) := by decide +kernel
theorem qX3_truncate_26 : decode (mB mX3_truncate) 26 = .ok (.getfield 36, 3) := by decide +kernel
theorem qX3_truncate_29 : decode (mB mX3_truncate) 29 = .ok (.iload_n 1, 1) := by decide +kernel
theorem qX3_truncate_30 : decode (mB mX3_truncate) 30 = .ok (.putfield 32, 3) := by decide +kernel
theorem qX3_truncate_33 : decode (mB mX3_truncate) 33 = .ok (.iload_n 1, 1) := by decide +kernel
theorem qX3_truncate_34 : decode (mB mX3_truncate) 34 = .ok (.ireturn, 1) := by decide +kernel
theorem qX3_tubesIn_0 : decode (mB mX3_tubesIn) 0 = .ok (.aload_n 0, 1) := by decide +kernel
theorem qX3_tubesIn_1 : decode (mB mX3_tubesIn) 1 = .ok (.iload_n 1, 1) := by decide +kernel
theorem qX3_tubesIn_2 : decode (mB mX3_tubesIn) 2 = .ok (.invokevirtual 113, 3) := by decide +kernel
theorem qX3_tubesIn_5 : decode (mB mX3_tubesIn) 5 = .ok (.iconst 0, 1) := by decide +kernel
theorem qX3_tubesIn_6 : decode (mB mX3_tubesIn) 6 = .ok (.istore_n 2, 1) := by decide +kernel
theorem qX3_tubesIn_7 : decode (mB mX3_tubesIn) 7 = .ok (.iconst 0, 1) := by decide +kernel
theorem qX3_tubesIn_8 : decode (mB mX3_tubesIn) 8 = .ok (.istore_n 3, 1) := by decide +kernel
theorem qX3_tubesIn_9 : decode (mB mX3_tubesIn) 9 = .ok (.iload_n 3, 1) := by decide +kernel
theorem qX3_tubesIn_10 : decode (mB mX3_tubesIn) 10 = .ok (.aload_n 0, 1) := by decide +kernel
theorem qX3_tubesIn_11 : decode (mB mX3_tubesIn) 11 = .ok (.getfield 40, 3) := by decide +kernel
theorem qX3_tubesIn_14 : decode (mB mX3_tubesIn) 14 = .ok (.getfield 104, 3) := by decide +kernel
theorem qX3_tubesIn_17 : decode (mB mX3_tubesIn) 17 = .ok (.if_icmp .ge 28, 3) := by decide +kernel
theorem qX3_tubesIn_20 : decode (mB mX3_tubesIn) 20 = .ok (.aload_n 0, 1) := by decide +kernel
theorem qX3_tubesIn_21 : decode (mB mX3_tubesIn) 21 = .ok (.getfield 40, 3) := by decide +kernel
theorem qX3_tubesIn_24 : decode (mB mX3_tubesIn) 24 = .ok (.getfield 120, 3) := by decide +kernel
theorem qX3_tubesIn_27 : decode (mB mX3_tubesIn) 27 = .ok (.iload_n 3, 1) := by decide +kernel
theorem qX3_tubesIn_28 : decode (mB mX3_tubesIn) 28 = .ok (.aaload, 1) := by decide +kernel
theorem qX3_tubesIn_29 : decode (mB mX3_tubesIn) 29 = .ok (.getfield 124, 3) := by decide +kernel
theorem qX3_tubesIn_32 : decode (mB mX3_tubesIn) 32 = .ok (.iload_n 1, 1) := by decide +kernel
theorem qX3_tubesIn_33 : decode (mB mX3_tubesIn) 33 = .ok (.if_icmp .ne 6, 3) := by decide +kernel
theorem qX3_tubesIn_36 : decode (mB mX3_tubesIn) 36 = .ok (.iinc 2 1, 3) := by decide +kernel
theorem qX3_tubesIn_39 : decode (mB mX3_tubesIn) 39 = .ok (.iinc 3 1, 3) := by decide +kernel
theorem qX3_tubesIn_42 : decode (mB mX3_tubesIn) 42 = .ok (.goto (-33), 3) := by decide +kernel
theorem qX3_tubesIn_45 : decode (mB mX3_tubesIn) 45 = .ok (.iload_n 2, 1) := by decide +kernel
theorem qX3_tubesIn_46 : decode (mB mX3_tubesIn) 46 = .ok (.ireturn, 1) := by decide +kernel
theorem qX3_undo_0 : decode (mB mX3_undo) 0 = .ok (.aload_n 0, 1) := by decide +kernel
theorem qX3_undo_1 : decode (mB mX3_undo) 1 = .ok (.getfield 71, 3) := by decide +kernel
theorem qX3_undo_4 : decode (mB mX3_undo) 4 = .ok (.ifCond .ne 14, 3) := by decide +kernel
theorem qX3_undo_7 : decode (mB mX3_undo) 7 = .ok (.new 80, 3) := by decide +kernel
theorem qX3_undo_10 : decode (mB mX3_undo) 10 = .ok (.dup, 1) := by decide +kernel
theorem qX3_undo_11 : decode (mB mX3_undo) 11 = .ok (.ldc_w 275, 3) := by decide +kernel
theorem qX3_undo_14 : decode (mB mX3_undo) 14 = .ok (.invokespecial 84, 3) := by decide +kernel
theorem qX3_undo_17 : decode (mB mX3_undo) 17 = .ok (.athrow, 1) := by decide +kernel
theorem qX3_undo_18 : decode (mB mX3_undo) 18 = .ok (.aload_n 0, 1) := by decide +kernel
theorem qX3_undo_19 : decode (mB mX3_undo) 19 = .ok (.dup, 1) := by decide +kernel
theorem qX3_undo_20 : decode (mB mX3_undo) 20 = .ok (.getfield 71, 3) := by decide +kernel
theorem qX3_undo_23 : decode (mB mX3_undo) 23 = .ok (.iconst 1, 1) := by decide +kernel
theorem qX3_undo_24 : decode (mB mX3_undo) 24 = .ok (.isub, 1) := by decide +kernel
theorem qX3_undo_25 : decode (mB mX3_undo) 25 = .ok (.putfield 71, 3) := by decide +kernel
theorem qX3_undo_28 : decode (mB mX3_undo) 28 = .ok (.aload_n 0, 1) := by decide +kernel
theorem qX3_undo_29 : decode (mB mX3_undo) 29 = .ok (.aload_n 0, 1) := by decide +kernel
theorem qX3_undo_30 : decode (mB mX3_undo) 30 = .ok (.getfield 68, 3) := by decide +kernel
theorem qX3_undo_33 : decode (mB mX3_undo) 33 = .ok (.ifCond .ne 7, 3) := by decide +kernel
theorem qX3_undo_36 : decode (mB mX3_undo) 36 = .ok (.iconst 5, 1) := by decide +kernel
theorem qX3_undo_37 : decode (mB mX3_undo) 37 = .ok (.goto 9, 3) := by decide +kernel
theorem qX3_undo_40 : decode (mB mX3_undo) 40 = .ok (.aload_n 0, 1) := by decide +kernel
theorem qX3_undo_41 : decode (mB mX3_undo) 41 = .ok (.getfield 68, 3) := by decide +kernel
theorem qX3_undo_44 : decode (mB mX3_undo) 44 = .ok (.iconst 1, 1) := by decide +kernel
theorem qX3_undo_45 : decode (mB mX3_undo) 45 = .ok (.isub, 1) := by decide +kernel
theorem qX3_undo_46 : decode (mB mX3_undo) 46 = .ok (.putfield 68, 3) := by decide +kernel
theorem qX3_undo_49 : decode (mB mX3_undo) 49 = .ok (.aload_n 0, 1) := by decide +kernel
theorem qX3_undo_50 : decode (mB mX3_undo) 50 = .ok (.getfield 40, 3) := by decide +kernel
theorem qX3_undo_53 : decode (mB mX3_undo) 53 = .ok (.aload_n 0, 1) := by decide +kernel
theorem qX3_undo_54 : decode (mB mX3_undo) 54 = .ok (.getfield 50, 3) := by decide +kernel
theorem qX3_undo_57 : decode (mB mX3_undo) 57 = .ok (.aload_n 0, 1) := by decide +kernel
theorem qX3_undo_58 : decode (mB mX3_undo) 58 = .ok (.getfield 68, 3) := by decide +kernel
theorem qX3_undo_61 : decode (mB mX3_undo) 61 = .ok (.aaload, 1) := by decide +kernel
theorem qX3_undo_62 : decode (mB mX3_undo) 62 = .ok (.invokevirtual 28, 3) := by decide +kernel
theorem qX3_undo_65 : decode (mB mX3_undo) 65 = .ok (.aload_n 0, 1) := by decide +kernel
theorem qX3_undo_66 : decode (mB mX3_undo) 66 = .ok (.getfield 71, 3) := by decide +kernel
theorem qX3_undo_69 : decode (mB mX3_undo) 69 = .ok (.ireturn, 1) := by decide +kernel
theorem qX3_worstFit_0 : decode (mB mX3_worstFit) 0 = .ok (.iconst (-1), 1) := by decide +kernel
theorem qX3_worstFit_1 : decode (mB mX3_worstFit) 1 = .ok (.istore_n 1, 1) := by decide +kernel
theorem qX3_worstFit_2 : decode (mB mX3_worstFit) 2 = .ok (.iconst 0, 1) := by decide +kernel
theorem qX3_worstFit_3 : decode (mB mX3_worstFit) 3 = .ok (.istore_n 2, 1) := by decide +kernel
theorem qX3_worstFit_4 : decode (mB mX3_worstFit) 4 = .ok (.iconst 0, 1) := by decide +kernel
theorem qX3_worstFit_5 : decode (mB mX3_worstFit) 5 = .ok (.istore_n 3, 1) := by decide +kernel
theorem qX3_worstFit_6 : decode (mB mX3_worstFit) 6 = .ok (.iload_n 3, 1) := by decide +kernel
theorem qX3_worstFit_7 : decode (mB mX3_worstFit) 7 = .ok (.aload_n 0, 1) := by decide +kernel
theorem qX3_worstFit_8 : decode (mB mX3_worstFit) 8 = .ok (.getfield 40, 3) := by decide +kernel
theorem qX3_worstFit_11 : decode (mB mX3_worstFit) 11 = .ok (.getfield 104, 3) := by decide +kernel
theorem qX3_worstFit_14 : decode (mB mX3_worstFit) 14 = .ok (.if_icmp .ge 51, 3) := by decide +kernel
theorem qX3_worstFit_17 : decode (mB mX3_worstFit) 17 = .ok (.aload_n 0, 1) := by decide +kernel
theorem qX3_worstFit_18 : decode (mB mX3_worstFit) 18 = .ok (.getfield 40, 3) := by decide +kernel
theorem qX3_worstFit_21 : decode (mB mX3_worstFit) 21 = .ok (.getfield 120, 3) := by decide +kernel
theorem qX3_worstFit_24 : decode (mB mX3_worstFit) 24 = .ok (.iload_n 3, 1) := by decide +kernel
theorem qX3_worstFit_25 : decode (mB mX3_worstFit) 25 = .ok (.aaload, 1) := by decide +kernel
theorem qX3_worstFit_26 : decode (mB mX3_worstFit) 26 = .ok (.astore 4, 2) := by decide +kernel
theorem qX3_worstFit_28 : decode (mB mX3_worstFit) 28 = .ok (.aload 4, 2) := by decide +kernel
theorem qX3_worstFit_30 : decode (mB mX3_worstFit) 30 = .ok (.invokevirtual 192, 3) := by decide +kernel
theorem qX3_worstFit_33 : decode (mB mX3_worstFit) 33 = .ok (.ifCond .eq 26, 3) := by decide +kernel
theorem qX3_worstFit_36 : decode (mB mX3_worstFit) 36 = .ok (.aload 4, 2) := by decide +kernel
theorem qX3_worstFit_38 : decode (mB mX3_worstFit) 38 = .ok (.invokevirtual 206, 3) := by decide +kernel
theorem qX3_worstFit_41 : decode (mB mX3_worstFit) 41 = .ok (.istore 5, 2) := by decide +kernel
theorem qX3_worstFit_43 : decode (mB mX3_worstFit) 43 = .ok (.iload_n 1, 1) := by decide +kernel
theorem qX3_worstFit_44 : decode (mB mX3_worstFit) 44 = .ok (.iconst (-1), 1) := by decide +kernel
theorem qX3_worstFit_45 : decode (mB mX3_worstFit) 45 = .ok (.if_icmp .eq 9, 3) := by decide +kernel
theorem qX3_worstFit_48 : decode (mB mX3_worstFit) 48 = .ok (.iload 5, 2) := by decide +kernel
theorem qX3_worstFit_50 : decode (mB mX3_worstFit) 50 = .ok (.iload_n 2, 1) := by decide +kernel
theorem qX3_worstFit_51 : decode (mB mX3_worstFit) 51 = .ok (.if_icmp .le 8, 3) := by decide +kernel
theorem qX3_worstFit_54 : decode (mB mX3_worstFit) 54 = .ok (.iload_n 3, 1) := by decide +kernel
theorem qX3_worstFit_55 : decode (mB mX3_worstFit) 55 = .ok (.istore_n 1, 1) := by decide +kernel
theorem qX3_worstFit_56 : decode (mB mX3_worstFit) 56 = .ok (.iload 5, 2) := by decide +kernel
theorem qX3_worstFit_58 : decode (mB mX3_worstFit) 58 = .ok (.istore_n 2, 1) := by decide +kernel
theorem qX3_worstFit_59 : decode (mB mX3_worstFit) 59 = .ok (.iinc 3 1, 3) := by decide +kernel
theorem qX3_worstFit_62 : decode (mB mX3_worstFit) 62 = .ok (.goto (-56), 3) := by decide +kernel
theorem qX3_worstFit_65 : decode (mB mX3_worstFit) 65 = .ok (.iload_n 1, 1) := by decide +kernel
theorem qX3_worstFit_66 : decode (mB mX3_worstFit) 66 = .ok (.ireturn, 1) := by decide +kernel
theorem qX4_append_0 : decode (mB mX4_append) 0 = .ok (.aload_n 0, 1) := by decide +kernel
theorem qX4_append_1 : decode (mB mX4_append) 1 = .ok (.aload_n 0, 1) := by decide +kernel
theorem qX4_append_2 : decode (mB mX4_append) 2 = .ok (.getfield 214, 3) := by decide +kernel
theorem qX4_append_5 : decode (mB mX4_append) 5 = .ok (.bipush 20, 2) := by decide +kernel
theorem qX4_append_7 : decode (mB mX4_append) 7 = .ok (.iadd, 1) := by decide +kernel
theorem qX4_append_8 : decode (mB mX4_append) 8 = .ok (.sipush 600, 3) := by decide +kernel
theorem qX4_append_11 : decode (mB mX4_append) 11 = .ok (.if_icmp .gt 7, 3) := by decide +kernel
theorem qX4_append_14 : decode (mB mX4_append) 14 = .ok (.iconst 1, 1) := by decide +kernel
theorem qX4_append_15 : decode (mB mX4_append) 15 = .ok (.goto 4, 3) := by decide +kernel
theorem qX4_append_18 : decode (mB mX4_append) 18 = .ok (.iconst 0, 1) := by decide +kernel
theorem qX4_append_19 : decode (mB mX4_append) 19 = .ok (.invokevirtual 371, 3) := by decide +kernel
theorem qX4_append_22 : decode (mB mX4_append) 22 = .ok (.ifCond .ne 5, 3) := by decide +kernel
theorem qX4_append_25 : decode (mB mX4_append) 25 = .ok (.iconst 0, 1) := by decide +kernel
theorem qX4_append_26 : decode (mB mX4_append) 26 = .ok (.ireturn, 1) := by decide +kernel
theorem qX4_append_27 : decode (mB mX4_append) 27 = .ok (.aload_n 0, 1) := by decide +kernel
theorem qX4_append_28 : decode (mB mX4_append) 28 = .ok (.iload_n 1, 1) := by decide +kernel
theorem qX4_append_29 : decode (mB mX4_append) 29 = .ok (.invokevirtual 375, 3) := by decide +kernel
theorem qX4_append_32 : decode (mB mX4_append) 32 = .ok (.aload_n 0, 1) := by decide +kernel
theorem qX4_append_33 : decode (mB mX4_append) 33 = .ok (.iload_n 2, 1) := by decide +kernel
theorem qX4_append_34 : decode (mB mX4_append) 34 = .ok (.invokevirtual 375, 3) := by decide +kernel
theorem qX4_append_37 : decode (mB mX4_append) 37 = .ok (.aload_n 0, 1) := by decide +kernel
theorem qX4_append_38 : decode (mB mX4_append) 38 = .ok (.iload_n 3, 1) := by decide +kernel
theorem qX4_append_39 : decode (mB mX4_append) 39 = .ok (.invokevirtual 375, 3) := by decide +kernel
theorem qX4_append_42 : decode (mB mX4_append) 42 = .ok (.aload_n 0, 1) := by decide +kernel
theorem qX4_append_43 : decode (mB mX4_append) 43 = .ok (.iload 4, 2) := by decide +kernel
theorem qX4_append_45 : decode (mB mX4_append) 45 = .ok (.invokevirtual 375, 3) := by decide +kernel
theorem qX4_append_48 : decode (mB mX4_append) 48 = .ok (.aload_n 0, 1) := by decide +kernel
theorem qX4_append_49 : decode (mB mX4_append) 49 = .ok (.iload 5, 2) := by decide +kernel
theorem qX4_append_51 : decode (mB mX4_append) 51 = .ok (.invokevirtual 375, 3) := by decide +kernel
theorem qX4_append_54 : decode (mB mX4_append) 54 = .ok (.aload_n 0, 1) := by decide +kernel
theorem qX4_append_55 : decode (mB mX4_append) 55 = .ok (.getfield 214, 3) := by decide +kernel
theorem qX4_append_58 : decode (mB mX4_append) 58 = .ok (.ireturn, 1) := by decide +kernel
theorem qX4_areTenths_0 : decode (mB mX4_areTenths) 0 = .ok (.iload_n 0, 1) := by decide +kernel
theorem qX4_areTenths_1 : decode (mB mX4_areTenths) 1 = .ok (.i2l, 1) := by decide +kernel
theorem qX4_areTenths_2 : decode (mB mX4_areTenths) 2 = .ok (.ldc2_w 402, 3) := by decide +kernel
theorem qX4_areTenths_5 : decode (mB mX4_areTenths) 5 = .ok (.ldc2_w 404, 3) := by decide +kernel
theorem qX4_areTenths_8 : decode (mB mX4_areTenths) 8 = .ok (.invokestatic 276, 3) := by decide +kernel
theorem qX4_areTenths_11 : decode (mB mX4_areTenths) 11 = .ok (.ireturn, 1) := by decide +kernel
theorem qX4_around_0 : decode (mB mX4_around) 0 = .ok (.aload_n 0, 1) := by decide +kernel
theorem qX4_around_1 : decode (mB mX4_around) 1 = .ok (.getfield 24, 3) := by decide +kernel
theorem qX4_around_4 : decode (mB mX4_around) 4 = .ok (.bipush 6, 2) := by decide +kernel
theorem qX4_around_6 : decode (mB mX4_around) 6 = .ok (.iaload, 1) := by decide +kernel
theorem qX4_around_7 : decode (mB mX4_around) 7 = .ok (.iload_n 1, 1) := by decide +kernel
theorem qX4_around_8 : decode (mB mX4_around) 8 = .ok (.if_icmp .ne 7, 3) := by decide +kernel
theorem qX4_around_11 : decode (mB mX4_around) 11 = .ok (.sipush 370, 3) := by decide +kernel
theorem qX4_around_14 : decode (mB mX4_around) 14 = .ok (.ireturn, 1) := by decide +kernel
theorem qX4_around_15 : decode (mB mX4_around) 15 = .ok (.aload_n 0, 1) := by decide +kernel
theorem qX4_around_16 : decode (mB mX4_around) 16 = .ok (.iload_n 1, 1) := by decide +kernel
theorem qX4_around_17 : decode (mB mX4_around) 17 = .ok (.bipush 7, 2) := by decide +kernel
theorem qX4_around_19 : decode (mB mX4_around) 19 = .ok (.invokevirtual 148, 3) := by decide +kernel
theorem qX4_around_22 : decode (mB mX4_around) 22 = .ok (.istore_n 2, 1) := by decide +kernel
theorem qX4_around_23 : decode (mB mX4_around) 23 = .ok (.bipush 10, 2) := by decide +kernel
theorem qX4_around_25 : decode (mB mX4_around) 25 = .ok (.iload_n 2, 1) := by decide +kernel
theorem qX4_around_26 : decode (mB mX4_around) 26 = .ok (.iconst (-1), 1) := by decide +kernel
theorem qX4_around_27 : decode (mB mX4_around) 27 = .ok (.if_icmp .ne 12, 3) := by decide +kernel
theorem qX4_around_30 : decode (mB mX4_around) 30 = .ok (.aload_n 0, 1) := by decide +kernel
theorem qX4_around_31 : decode (mB mX4_around) 31 = .ok (.getfield 24, 3) := by decide +kernel
theorem qX4_around_34 : decode (mB mX4_around) 34 = .ok (.iconst 0, 1) := by decide +kernel
theorem qX4_around_35 : decode (mB mX4_around) 35 = .ok (.iaload, 1) := by decide +kernel
theorem qX4_around_36 : decode (mB mX4_around) 36 = .ok (.goto 9, 3) := by decide +kernel
theorem qX4_around_39 : decode (mB mX4_around) 39 = .ok (.aload_n 0, 1) := by decide +kernel
theorem qX4_around_40 : decode (mB mX4_around) 40 = .ok (.iload_n 2, 1) := by decide +kernel
theorem qX4_around_41 : decode (mB mX4_around) 41 = .ok (.iconst 2, 1) := by decide +kernel
theorem qX4_around_42 : decode (mB mX4_around) 42 = .ok (.invokevirtual 166, 3) := by decide +kernel
theorem qX4_around_45 : decode (mB mX4_around) 45 = .ok (.imul, 1) := by decide +kernel
theorem qX4_around_46 : decode (mB mX4_around) 46 = .ok (.ireturn, 1) := by decide +kernel
theorem qX4_bathDegrees_0 : decode (mB mX4_bathDegrees) 0 = .ok (.aload_n 0, 1) := by decide +kernel
theorem qX4_bathDegrees_1 : decode (mB mX4_bathDegrees) 1 = .ok (.aload_n 0, 1) := by decide +kernel
theorem qX4_bathDegrees_2 : decode (mB mX4_bathDegrees) 2 = .ok (.iload_n 1, 1) := by decide +kernel
theorem qX4_bathDegrees_3 : decode (mB mX4_bathDegrees) 3 = .ok (.invokevirtual 390, 3) := by decide +kernel
theorem qX4_bathDegrees_6 : decode (mB mX4_bathDegrees) 6 = .ok (.invokevirtual 371, 3) := by decide +kernel
theorem qX4_bathDegrees_9 : decode (mB mX4_bathDegrees) 9 = .ok (.ifCond .eq 12, 3) := by decide +kernel
theorem qX4_bathDegrees_12 : decode (mB mX4_bathDegrees) 12 = .ok (.aload_n 0, 1) := by decide +kernel
theorem qX4_bathDegrees_13 : decode (mB mX4_bathDegrees) 13 = .ok (.iload_n 1, 1) := by decide +kernel
theorem qX4_bathDegrees_14 : decode (mB mX4_bathDegrees) 14 = .ok (.iconst 2, 1) := by decide +kernel
theorem qX4_bathDegrees_15 : decode (mB mX4_bathDegrees) 15 = .ok (.invokevirtual 166, 3) := by decide +kernel
theorem qX4_bathDegrees_18 : decode (mB mX4_bathDegrees) 18 = .ok (.goto 4, 3) := by decide +kernel
theorem qX4_bathDegrees_21 : decode (mB mX4_bathDegrees) 21 = .ok (.iconst 0, 1) := by decide +kernel
theorem qX4_bathDegrees_22 : decode (mB mX4_bathDegrees) 22 = .ok (.ireturn, 1) := by decide +kernel
theorem qX4_bathHere_0 : decode (mB mX4_bathHere) 0 = .ok (.iconst 0, 1) := by decide +kernel
theorem qX4_bathHere_1 : decode (mB mX4_bathHere) 1 = .ok (.istore_n 1, 1) := by decide +kernel
theorem qX4_bathHere_2 : decode (mB mX4_bathHere) 2 = .ok (.iload_n 1, 1) := by decide +kernel
theorem qX4_bathHere_3 : decode (mB mX4_bathHere) 3 = .ok (.aload_n 0, 1) := by decide +kernel
theorem qX4_bathHere_4 : decode (mB mX4_bathHere) 4 = .ok (.getfield 24, 3) := by decide +kernel
theorem qX4_bathHere_7 : decode (mB mX4_bathHere) 7 = .ok (.iconst 4, 1) := by decide +kernel
theorem qX4_bathHere_8 : decode (mB mX4_bathHere) 8 = .ok (.iaload, 1) := by decide +kernel
theorem qX4_bathHere_9 : decode (mB mX4_bathHere) 9 = .ok (.if_icmp .ge 47, 3) := by decide +kernel
theorem qX4_bathHere_12 : decode (mB mX4_bathHere) 12 = .ok (.aload_n 0, 1) := by decide +kernel
theorem qX4_bathHere_13 : decode (mB mX4_bathHere) 13 = .ok (.getfield 235, 3) := by decide +kernel
theorem qX4_bathHere_16 : decode (mB mX4_bathHere) 16 = .ok (.iconst 1, 1) := by decide +kernel
theorem qX4_bathHere_17 : decode (mB mX4_bathHere) 17 = .ok (.if_icmp .ne 33, 3) := by decide +kernel
theorem qX4_bathHere_20 : decode (mB mX4_bathHere) 20 = .ok (.aload_n 0, 1) := by decide +kernel
theorem qX4_bathHere_21 : decode (mB mX4_bathHere) 21 = .ok (.iload_n 1, 1) := by decide +kernel
theorem qX4_bathHere_22 : decode (mB mX4_bathHere) 22 = .ok (.iconst 1, 1) := by decide +kernel
theorem qX4_bathHere_23 : decode (mB mX4_bathHere) 23 = .ok (.invokevirtual 166, 3) := by decide +kernel
theorem qX4_bathHere_26 : decode (mB mX4_bathHere) 26 = .ok (.aload_n 0, 1) := by decide +kernel
theorem qX4_bathHere_27 : decode (mB mX4_bathHere) 27 = .ok (.getfield 226, 3) := by decide +kernel
theorem qX4_bathHere_30 : decode (mB mX4_bathHere) 30 = .ok (.if_icmp .ne 20, 3) := by decide +kernel
theorem qX4_bathHere_33 : decode (mB mX4_bathHere) 33 = .ok (.aload_n 0, 1) := by decide +kernel
theorem qX4_bathHere_34 : decode (mB mX4_bathHere) 34 = .ok (.iload_n 1, 1) := by decide +kernel
theorem qX4_bathHere_35 : decode (mB mX4_bathHere) 35 = .ok (.iconst 0, 1) := by decide +kernel
theorem qX4_bathHere_36 : decode (mB mX4_bathHere) 36 = .ok (.invokevirtual 166, 3) := by decide +kernel
theorem qX4_bathHere_39 : decode (mB mX4_bathHere) 39 = .ok (.i2l, 1) := by decide +kernel
theorem qX4_bathHere_40 : decode (mB mX4_bathHere) 40 = .ok (.aload_n 0, 1) := by decide +kernel
theorem qX4_bathHere_41 : decode (mB mX4_bathHere) 41 = .ok (.getfield 229, 3) := by decide +kernel
theorem qX4_bathHere_44 : decode (mB mX4_bathHere) 44 = .ok (.lcmp, 1) := by decide +kernel
theorem qX4_bathHere_45 : decode (mB mX4_bathHere) 45 = .ok (.ifCond .ne 5, 3) := by decide +kernel
theorem qX4_bathHere_48 : decode (mB mX4_bathHere) 48 = .ok (.iload_n 1, 1) := by decide +kernel
theorem qX4_bathHere_49 : decode (mB mX4_bathHere) 49 = .ok (.ireturn, 1) := by decide +kernel
theorem qX4_bathHere_50 : decode (mB mX4_bathHere) 50 = .ok (.iinc 1 1, 3) := by decide +kernel
theorem qX4_bathHere_53 : decode (mB mX4_bathHere) 53 = .ok (.goto (-51), 3) := by decide +kernel
theorem qX4_bathHere_56 : decode (mB mX4_bathHere) 56 = .ok (.iconst (-1), 1) := by decide +kernel
theorem qX4_bathHere_57 : decode (mB mX4_bathHere) 57 = .ok (.ireturn, 1) := by decide +kernel
theorem qX4_bathOf_0 : decode (mB mX4_bathOf) 0 = .ok (.aload_n 0, 1) := by decide +kernel
theorem qX4_bathOf_1 : decode (mB mX4_bathOf) 1 = .ok (.iload_n 1, 1) := by decide +kernel
theorem qX4_bathOf_2 : decode (mB mX4_bathOf) 2 = .ok (.bipush 7, 2) := by decide +kernel
theorem qX4_bathOf_4 : decode (mB mX4_bathOf) 4 = .ok (.invokevirtual 399, 3) := by decide +kernel
theorem qX4_bathOf_7 : decode (mB mX4_bathOf) 7 = .ok (.ireturn, 1) := by decide +kernel
theorem qX4_bathsToMark_0 : decode (mB mX4_bathsToMark) 0 = .ok (.aload_n 0, 1) := by decide +kernel
theorem qX4_bathsToMark_1 : decode (mB mX4_bathsToMark) 1 = .ok (.aload_n 0, 1) := by decide +kernel
theorem qX4_bathsToMark_2 : decode (mB mX4_bathsToMark) 2 = .ok (.iload_n 1, 1) := by decide +kernel
theorem qX4_bathsToMark_3 : decode (mB mX4_bathsToMark) 3 = .ok (.invokevirtual 396, 3) := by decide +kernel
theorem qX4_bathsToMark_6 : decode (mB mX4_bathsToMark) 6 = .ok (.invokevirtual 371, 3) := by decide +kernel
theorem qX4_bathsToMark_9 : decode (mB mX4_bathsToMark) 9 = .ok (.ifCond .ne 5, 3) := by decide +kernel
theorem qX4_bathsToMark_12 : decode (mB mX4_bathsToMark) 12 = .ok (.iconst 0, 1) := by decide +kernel
theorem qX4_bathsToMark_13 : decode (mB mX4_bathsToMark) 13 = .ok (.ireturn, 1) := by decide +kernel
theorem qX4_bathsToMark_14 : decode (mB mX4_bathsToMark) 14 = .ok (.iconst 0, 1) := by decide +kernel
theorem qX4_bathsToMark_15 : decode (mB mX4_bathsToMark) 15 = .ok (.istore_n 2, 1) := by decide +kernel
theorem qX4_bathsToMark_16 : decode (mB mX4_bathsToMark) 16 = .ok (.iconst 0, 1) := by decide +kernel
theorem qX4_bathsToMark_17 : decode (mB mX4_bathsToMark) 17 = .ok (.istore_n 3, 1) := by decide +kernel
theorem qX4_bathsToMark_18 : decode (mB mX4_bathsToMark) 18 = .ok (.iload_n 3, 1) := by decide +kernel
theorem qX4_bathsToMark_19 : decode (mB mX4_bathsToMark) 19 = .ok (.aload_n 0, 1) := by decide +kernel
theorem qX4_bathsToMark_20 : decode (mB mX4_bathsToMark) 20 = .ok (.getfield 17, 3) := by decide +kernel
theorem qX4_bathsToMark_23 : decode (mB mX4_bathsToMark) 23 = .ok (.iconst 4, 1) := by decide +kernel
theorem qX4_bathsToMark_24 : decode (mB mX4_bathsToMark) 24 = .ok (.iaload, 1) := by decide +kernel
theorem qX4_bathsToMark_25 : decode (mB mX4_bathsToMark) 25 = .ok (.if_icmp .ge 31, 3) := by decide +kernel
theorem qX4_bathsToMark_28 : decode (mB mX4_bathsToMark) 28 = .ok (.iload_n 2, 1) := by decide +kernel
theorem qX4_bathsToMark_29 : decode (mB mX4_bathsToMark) 29 = .ok (.aload_n 0, 1) := by decide +kernel
theorem qX4_bathsToMark_30 : decode (mB mX4_bathsToMark) 30 = .ok (.iload_n 1, 1) := by decide +kernel
theorem qX4_bathsToMark_31 : decode (mB mX4_bathsToMark) 31 = .ok (.aload_n 0, 1) := by decide +kernel
theorem qX4_bathsToMark_32 : decode (mB mX4_bathsToMark) 32 = .ok (.iload_n 3, 1) := by decide +kernel
theorem qX4_bathsToMark_33 : decode (mB mX4_bathsToMark) 33 = .ok (.iconst 2, 1) := by decide +kernel
theorem qX4_bathsToMark_34 : decode (mB mX4_bathsToMark) 34 = .ok (.invokevirtual 166, 3) := by decide +kernel
theorem qX4_bathsToMark_37 : decode (mB mX4_bathsToMark) 37 = .ok (.invokevirtual 182, 3) := by decide +kernel
theorem qX4_bathsToMark_40 : decode (mB mX4_bathsToMark) 40 = .ok (.ifCond .eq 7, 3) := by decide +kernel
theorem qX4_bathsToMark_43 : decode (mB mX4_bathsToMark) 43 = .ok (.iconst 0, 1) := by decide +kernel
theorem qX4_bathsToMark_44 : decode (mB mX4_bathsToMark) 44 = .ok (.goto 4, 3) := by decide +kernel
theorem qX4_bathsToMark_47 : decode (mB mX4_bathsToMark) 47 = .ok (.iconst 1, 1) := by decide +kernel
theorem qX4_bathsToMark_48 : decode (mB mX4_bathsToMark) 48 = .ok (.iadd, 1) := by decide +kernel
theorem qX4_bathsToMark_49 : decode (mB mX4_bathsToMark) 49 = .ok (.istore_n 2, 1) := by decide +kernel
theorem qX4_bathsToMark_50 : decode (mB mX4_bathsToMark) 50 = .ok (.iinc 3 1, 3) := by decide +kernel
theorem qX4_bathsToMark_53 : decode (mB mX4_bathsToMark) 53 = .ok (.goto (-35), 3) := by decide +kernel
theorem qX4_bathsToMark_56 : decode (mB mX4_bathsToMark) 56 = .ok (.iload_n 2, 1) := by decide +kernel
theorem qX4_bathsToMark_57 : decode (mB mX4_bathsToMark) 57 = .ok (.ireturn, 1) := by decide +kernel
theorem qX4_bestTube_0 : decode (mB mX4_bestTube) 0 = .ok (.aload_n 0, 1) := by decide +kernel
theorem qX4_bestTube_1 : decode (mB mX4_bestTube) 1 = .ok (.iconst 0, 1) := by decide +kernel
theorem qX4_bestTube_2 : decode (mB mX4_bestTube) 2 = .ok (.putfield 3, 3) := by decide +kernel
theorem qX4_bestTube_5 : decode (mB mX4_bestTube) 5 = .ok (.iconst (-1), 1) := by decide +kernel
theorem qX4_bestTube_6 : decode (mB mX4_bestTube) 6 = .ok (.istore_n 1, 1) := by decide +kernel
theorem qX4_bestTube_7 : decode (mB mX4_bestTube) 7 = .ok (.iconst 0, 1) := by decide +kernel
theorem qX4_bestTube_8 : decode (mB mX4_bestTube) 8 = .ok (.istore_n 2, 1) := by decide +kernel
theorem qX4_bestTube_9 : decode (mB mX4_bestTube) 9 = .ok (.iload_n 2, 1) := by decide +kernel
theorem qX4_bestTube_10 : decode (mB mX4_bestTube) 10 = .ok (.aload_n 0, 1) := by decide +kernel
theorem qX4_bestTube_11 : decode (mB mX4_bestTube) 11 = .ok (.getfield 17, 3) := by decide +kernel
theorem qX4_bestTube_14 : decode (mB mX4_bestTube) 14 = .ok (.iconst 5, 1) := by decide +kernel
theorem qX4_bestTube_15 : decode (mB mX4_bestTube) 15 = .ok (.iaload, 1) := by decide +kernel
theorem qX4_bestTube_16 : decode (mB mX4_bestTube) 16 = .ok (.if_icmp .ge 41, 3) := by decide +kernel
theorem qX4_bestTube_19 : decode (mB mX4_bestTube) 19 = .ok (.aload_n 0, 1) := by decide +kernel
theorem qX4_bestTube_20 : decode (mB mX4_bestTube) 20 = .ok (.iload_n 2, 1) := by decide +kernel
theorem qX4_bestTube_21 : decode (mB mX4_bestTube) 21 = .ok (.invokevirtual 416, 3) := by decide +kernel
theorem qX4_bestTube_24 : decode (mB mX4_bestTube) 24 = .ok (.ifCond .eq 25, 3) := by decide +kernel
theorem qX4_bestTube_27 : decode (mB mX4_bestTube) 27 = .ok (.iload_n 1, 1) := by decide +kernel
theorem qX4_bestTube_28 : decode (mB mX4_bestTube) 28 = .ok (.iconst (-1), 1) := by decide +kernel
theorem qX4_bestTube_29 : decode (mB mX4_bestTube) 29 = .ok (.if_icmp .eq 16, 3) := by decide +kernel
theorem qX4_bestTube_32 : decode (mB mX4_bestTube) 32 = .ok (.aload_n 0, 1) := by decide +kernel
theorem qX4_bestTube_33 : decode (mB mX4_bestTube) 33 = .ok (.iload_n 2, 1) := by decide +kernel
theorem qX4_bestTube_34 : decode (mB mX4_bestTube) 34 = .ok (.invokevirtual 433, 3) := by decide +kernel
theorem qX4_bestTube_37 : decode (mB mX4_bestTube) 37 = .ok (.aload_n 0, 1) := by decide +kernel
theorem qX4_bestTube_38 : decode (mB mX4_bestTube) 38 = .ok (.iload_n 1, 1) := by decide +kernel
theorem qX4_bestTube_39 : decode (mB mX4_bestTube) 39 = .ok (.invokevirtual 433, 3) := by decide +kernel
theorem qX4_bestTube_42 : decode (mB mX4_bestTube) 42 = .ok (.if_icmp .ge 7, 3) := by decide +kernel
theorem qX4_bestTube_45 : decode (mB mX4_bestTube) 45 = .ok (.iload_n 2, 1) := by decide +kernel
theorem qX4_bestTube_46 : decode (mB mX4_bestTube) 46 = .ok (.goto 4, 3) := by decide +kernel
theorem qX4_bestTube_49 : decode (mB mX4_bestTube) 49 = .ok (.iload_n 1, 1) := by decide +kernel
theorem qX4_bestTube_50 : decode (mB mX4_bestTube) 50 = .ok (.istore_n 1, 1) := by decide +kernel
theorem qX4_bestTube_51 : decode (mB mX4_bestTube) 51 = .ok (.iinc 2 1, 3) := by decide +kernel
theorem qX4_bestTube_54 : decode (mB mX4_bestTube) 54 = .ok (.goto (-45), 3) := by decide +kernel
theorem qX4_bestTube_57 : decode (mB mX4_bestTube) 57 = .ok (.iload_n 1, 1) := by decide +kernel
theorem qX4_bestTube_58 : decode (mB mX4_bestTube) 58 = .ok (.ireturn, 1) := by decide +kernel
theorem qX4_byteAt_0 : decode (mB mX4_byteAt) 0 = .ok (.iload_n 1, 1) := by decide +kernel
theorem qX4_byteAt_1 : decode (mB mX4_byteAt) 1 = .ok (.aload_n 0, 1) := by decide +kernel
theorem qX4_byteAt_2 : decode (mB mX4_byteAt) 2 = .ok (.getfield 214, 3) := by decide +kernel
theorem qX4_byteAt_5 : decode (mB mX4_byteAt) 5 = .ok (.if_icmp .ge 16, 3) := by decide +kernel
theorem qX4_byteAt_8 : decode (mB mX4_byteAt) 8 = .ok (.aload_n 0, 1) := by decide +kernel
theorem qX4_byteAt_9 : decode (mB mX4_byteAt) 9 = .ok (.getfield 27, 3) := by decide +kernel
theorem qX4_byteAt_12 : decode (mB mX4_byteAt) 12 = .ok (.iload_n 1, 1) := by decide +kernel
theorem qX4_byteAt_13 : decode (mB mX4_byteAt) 13 = .ok (.baload, 1) := by decide +kernel
theorem qX4_byteAt_14 : decode (mB mX4_byteAt) 14 = .ok (.sipush 255, 3) := by decide +kernel
theorem qX4_byteAt_17 : decode (mB mX4_byteAt) 17 = .ok (.iand, 1) := by decide +kernel
theorem qX4_byteAt_18 : decode (mB mX4_byteAt) 18 = .ok (.goto 4, 3) := by decide +kernel
theorem qX4_byteAt_21 : decode (mB mX4_byteAt) 21 = .ok (.iconst (-1), 1) := by decide +kernel
theorem qX4_byteAt_22 : decode (mB mX4_byteAt) 22 = .ok (.ireturn, 1) := by decide +kernel
theorem qX4_degreesOf_0 : decode (mB mX4_degreesOf) 0 = .ok (.aload_n 0, 1) := by decide +kernel
theorem qX4_degreesOf_1 : decode (mB mX4_degreesOf) 1 = .ok (.iload_n 1, 1) := by decide +kernel
theorem qX4_degreesOf_2 : decode (mB mX4_degreesOf) 2 = .ok (.bipush 9, 2) := by decide +kernel
theorem qX4_degreesOf_4 : decode (mB mX4_degreesOf) 4 = .ok (.iconst 2, 1) := by decide +kernel
theorem qX4_degreesOf_5 : decode (mB mX4_degreesOf) 5 = .ok (.iload_n 2, 1) := by decide +kernel
theorem qX4_degreesOf_6 : decode (mB mX4_degreesOf) 6 = .ok (.imul, 1) := by decide +kernel
theorem qX4_degreesOf_7 : decode (mB mX4_degreesOf) 7 = .ok (.iadd, 1) := by decide +kernel
theorem qX4_degreesOf_8 : decode (mB mX4_degreesOf) 8 = .ok (.invokevirtual 148, 3) := by decide +kernel
theorem qX4_degreesOf_11 : decode (mB mX4_degreesOf) 11 = .ok (.ireturn, 1) := by decide +kernel
theorem qX4_dip_0 : decode (mB mX4_dip) 0 = .ok (.aload_n 0, 1) := by decide +kernel
theorem qX4_dip_1 : decode (mB mX4_dip) 1 = .ok (.iload_n 1, 1) := by decide +kernel
theorem qX4_dip_2 : decode (mB mX4_dip) 2 = .ok (.invokevirtual 396, 3) := by decide +kernel
theorem qX4_dip_5 : decode (mB mX4_dip) 5 = .ok (.ifCond .eq 15, 3) := by decide +kernel
theorem qX4_dip_8 : decode (mB mX4_dip) 8 = .ok (.aload_n 0, 1) := by decide +kernel
theorem qX4_dip_9 : decode (mB mX4_dip) 9 = .ok (.iload_n 2, 1) := by decide +kernel
theorem qX4_dip_10 : decode (mB mX4_dip) 10 = .ok (.invokevirtual 390, 3) := by decide +kernel
theorem qX4_dip_13 : decode (mB mX4_dip) 13 = .ok (.ifCond .eq 7, 3) := by decide +kernel
theorem qX4_dip_16 : decode (mB mX4_dip) 16 = .ok (.iconst 1, 1) := by decide +kernel
theorem qX4_dip_17 : decode (mB mX4_dip) 17 = .ok (.goto 4, 3) := by decide +kernel
theorem qX4_dip_20 : decode (mB mX4_dip) 20 = .ok (.iconst 0, 1) := by decide +kernel
theorem qX4_dip_21 : decode (mB mX4_dip) 21 = .ok (.istore_n 3, 1) := by decide +kernel
theorem qX4_dip_22 : decode (mB mX4_dip) 22 = .ok (.aload_n 0, 1) := by decide +kernel
theorem qX4_dip_23 : decode (mB mX4_dip) 23 = .ok (.iload_n 3, 1) := by decide +kernel
theorem qX4_dip_24 : decode (mB mX4_dip) 24 = .ok (.iload_n 3, 1) := by decide +kernel
theorem qX4_dip_25 : decode (mB mX4_dip) 25 = .ok (.ifCond .eq 16, 3) := by decide +kernel
theorem qX4_dip_28 : decode (mB mX4_dip) 28 = .ok (.aload_n 0, 1) := by decide +kernel
theorem qX4_dip_29 : decode (mB mX4_dip) 29 = .ok (.iload_n 1, 1) := by decide +kernel
theorem qX4_dip_30 : decode (mB mX4_dip) 30 = .ok (.iload_n 2, 1) := by decide +kernel
theorem qX4_dip_31 : decode (mB mX4_dip) 31 = .ok (.invokevirtual 314, 3) := by decide +kernel
theorem qX4_dip_34 : decode (mB mX4_dip) 34 = .ok (.ifCond .ne 7, 3) := by decide +kernel
theorem qX4_dip_37 : decode (mB mX4_dip) 37 = .ok (.iconst 1, 1) := by decide +kernel
theorem qX4_dip_38 : decode (mB mX4_dip) 38 = .ok (.goto 4, 3) := by decide +kernel
theorem qX4_dip_41 : decode (mB mX4_dip) 41 = .ok (.iconst 0, 1) := by decide +kernel
theorem qX4_dip_42 : decode (mB mX4_dip) 42 = .ok (.invokevirtual 409, 3) := by decide +kernel
theorem qX4_dip_45 : decode (mB mX4_dip) 45 = .ok (.ifCond .ne 5, 3) := by decide +kernel
theorem qX4_dip_48 : decode (mB mX4_dip) 48 = .ok (.iconst 0, 1) := by decide +kernel
theorem qX4_dip_49 : decode (mB mX4_dip) 49 = .ok (.ireturn, 1) := by decide +kernel
theorem qX4_dip_50 : decode (mB mX4_dip) 50 = .ok (.aload_n 0, 1) := by decide +kernel
theorem qX4_dip_51 : decode (mB mX4_dip) 51 = .ok (.invokevirtual 384, 3) := by decide +kernel
theorem qX4_dip_54 : decode (mB mX4_dip) 54 = .ok (.aload_n 0, 1) := by decide +kernel
theorem qX4_dip_55 : decode (mB mX4_dip) 55 = .ok (.iload_n 1, 1) := by decide +kernel
theorem qX4_dip_56 : decode (mB mX4_dip) 56 = .ok (.bipush 7, 2) := by decide +kernel
theorem qX4_dip_58 : decode (mB mX4_dip) 58 = .ok (.iload_n 2, 1) := by decide +kernel
theorem qX4_dip_59 : decode (mB mX4_dip) 59 = .ok (.invokevirtual 137, 3) := by decide +kernel
theorem qX4_dip_62 : decode (mB mX4_dip) 62 = .ok (.aload_n 0, 1) := by decide +kernel
theorem qX4_dip_63 : decode (mB mX4_dip) 63 = .ok (.iload_n 1, 1) := by decide +kernel
theorem qX4_dip_64 : decode (mB mX4_dip) 64 = .ok (.invokevirtual 169, 3) := by decide +kernel
theorem qX4_dip_67 : decode (mB mX4_dip) 67 = .ok (.ireturn, 1) := by decide +kernel
theorem qX4_dipRefusal_0 : decode (mB mX4_dipRefusal) 0 = .ok (.aload_n 0, 1) := by decide +kernel
theorem qX4_dipRefusal_1 : decode (mB mX4_dipRefusal) 1 = .ok (.aload_n 0, 1) := by decide +kernel
theorem qX4_dipRefusal_2 : decode (mB mX4_dipRefusal) 2 = .ok (.iload_n 1, 1) := by decide +kernel
theorem qX4_dipRefusal_3 : decode (mB mX4_dipRefusal) 3 = .ok (.invokevirtual 396, 3) := by decide +kernel
theorem qX4_dipRefusal_6 : decode (mB mX4_dipRefusal) 6 = .ok (.ifCond .eq 15, 3) := by decide +kernel
theorem qX4_dipRefusal_9 : decode (mB mX4_dipRefusal) 9 = .ok (.aload_n 0, 1) := by decide +kernel
theorem qX4_dipRefusal_10 : decode (mB mX4_dipRefusal) 10 = .ok (.iload_n 2, 1) := by decide +kernel
theorem qX4_dipRefusal_11 : decode (mB mX4_dipRefusal) 11 = .ok (.invokevirtual 390, 3) := by decide +kernel
theorem qX4_dipRefusal_14 : decode (mB mX4_dipRefusal) 14 = .ok (.ifCond .eq 7, 3) := by decide +kernel
theorem qX4_dipRefusal_17 : decode (mB mX4_dipRefusal) 17 = .ok (.iconst 1, 1) := by decide +kernel
theorem qX4_dipRefusal_18 : decode (mB mX4_dipRefusal) 18 = .ok (.goto 4, 3) := by decide +kernel
theorem qX4_dipRefusal_21 : decode (mB mX4_dipRefusal) 21 = .ok (.iconst 0, 1) := by decide +kernel
theorem qX4_dipRefusal_22 : decode (mB mX4_dipRefusal) 22 = .ok (.invokevirtual 371, 3) := by decide +kernel
theorem qX4_dipRefusal_25 : decode (mB mX4_dipRefusal) 25 = .ok (.ifCond .eq 12, 3) := by decide +kernel
theorem qX4_dipRefusal_28 : decode (mB mX4_dipRefusal) 28 = .ok (.aload_n 0, 1) := by decide +kernel
theorem qX4_dipRefusal_29 : decode (mB mX4_dipRefusal) 29 = .ok (.iload_n 1, 1) := by decide +kernel
theorem qX4_dipRefusal_30 : decode (mB mX4_dipRefusal) 30 = .ok (.iload_n 2, 1) := by decide +kernel
theorem qX4_dipRefusal_31 : decode (mB mX4_dipRefusal) 31 = .ok (.invokevirtual 314, 3) := by decide +kernel
theorem qX4_dipRefusal_34 : decode (mB mX4_dipRefusal) 34 = .ok (.goto 4, 3) := by decide +kernel
theorem qX4_dipRefusal_37 : decode (mB mX4_dipRefusal) 37 = .ok (.iconst 0, 1) := by decide +kernel
theorem qX4_dipRefusal_38 : decode (mB mX4_dipRefusal) 38 = .ok (.ireturn, 1) := by decide +kernel
theorem qX4_disagreement_0 : decode (mB mX4_disagreement) 0 = .ok (.aload_n 0, 1) := by decide +kernel
theorem qX4_disagreement_1 : decode (mB mX4_disagreement) 1 = .ok (.iload_n 1, 1) := by decide +kernel
theorem qX4_disagreement_2 : decode (mB mX4_disagreement) 2 = .ok (.invokevirtual 396, 3) := by decide +kernel
theorem qX4_disagreement_5 : decode (mB mX4_disagreement) 5 = .ok (.ifCond .eq 15, 3) := by decide +kernel
theorem qX4_disagreement_8 : decode (mB mX4_disagreement) 8 = .ok (.aload_n 0, 1) := by decide +kernel
theorem qX4_disagreement_9 : decode (mB mX4_disagreement) 9 = .ok (.iload_n 2, 1) := by decide +kernel
theorem qX4_disagreement_10 : decode (mB mX4_disagreement) 10 = .ok (.invokevirtual 396, 3) := by decide +kernel
theorem qX4_disagreement_13 : decode (mB mX4_disagreement) 13 = .ok (.ifCond .eq 7, 3) := by decide +kernel
theorem qX4_disagreement_16 : decode (mB mX4_disagreement) 16 = .ok (.iconst 1, 1) := by decide +kernel
theorem qX4_disagreement_17 : decode (mB mX4_disagreement) 17 = .ok (.goto 4, 3) := by decide +kernel
theorem qX4_disagreement_20 : decode (mB mX4_disagreement) 20 = .ok (.iconst 0, 1) := by decide +kernel
theorem qX4_disagreement_21 : decode (mB mX4_disagreement) 21 = .ok (.istore_n 3, 1) := by decide +kernel
theorem qX4_disagreement_22 : decode (mB mX4_disagreement) 22 = .ok (.aload_n 0, 1) := by decide +kernel
theorem qX4_disagreement_23 : decode (mB mX4_disagreement) 23 = .ok (.iload_n 3, 1) := by decide +kernel
theorem qX4_disagreement_24 : decode (mB mX4_disagreement) 24 = .ok (.aload_n 0, 1) := by decide +kernel
theorem qX4_disagreement_25 : decode (mB mX4_disagreement) 25 = .ok (.iload_n 1, 1) := by decide +kernel
theorem qX4_disagreement_26 : decode (mB mX4_disagreement) 26 = .ok (.invokevirtual 419, 3) := by decide +kernel
theorem qX4_disagreement_29 : decode (mB mX4_disagreement) 29 = .ok (.ifCond .eq 15, 3) := by decide +kernel
theorem qX4_disagreement_32 : decode (mB mX4_disagreement) 32 = .ok (.aload_n 0, 1) := by decide +kernel
theorem qX4_disagreement_33 : decode (mB mX4_disagreement) 33 = .ok (.iload_n 2, 1) := by decide +kernel
theorem qX4_disagreement_34 : decode (mB mX4_disagreement) 34 = .ok (.invokevirtual 419, 3) := by decide +kernel
theorem qX4_disagreement_37 : decode (mB mX4_disagreement) 37 = .ok (.ifCond .eq 7, 3) := by decide +kernel
theorem qX4_disagreement_40 : decode (mB mX4_disagreement) 40 = .ok (.iconst 1, 1) := by decide +kernel
theorem qX4_disagreement_41 : decode (mB mX4_disagreement) 41 = .ok (.goto 4, 3) := by decide +kernel
theorem qX4_disagreement_44 : decode (mB mX4_disagreement) 44 = .ok (.iconst 0, 1) := by decide +kernel
theorem qX4_disagreement_45 : decode (mB mX4_disagreement) 45 = .ok (.invokevirtual 409, 3) := by decide +kernel
theorem qX4_disagreement_48 : decode (mB mX4_disagreement) 48 = .ok (.ifCond .eq 20, 3) := by decide +kernel
theorem qX4_disagreement_51 : decode (mB mX4_disagreement) 51 = .ok (.aload_n 0, 1) := by decide +kernel
theorem qX4_disagreement_52 : decode (mB mX4_disagreement) 52 = .ok (.iload_n 1, 1) := by decide +kernel
theorem qX4_disagreement_53 : decode (mB mX4_disagreement) 53 = .ok (.invokevirtual 422, 3) := by decide +kernel
theorem qX4_disagreement_56 : decode (mB mX4_disagreement) 56 = .ok (.aload_n 0, 1) := by decide +kernel
theorem qX4_disagreement_57 : decode (mB mX4_disagreement) 57 = .ok (.iload_n 2, 1) := by decide +kernel
theorem qX4_disagreement_58 : decode (mB mX4_disagreement) 58 = .ok (.invokevirtual 422, 3) := by decide +kernel
theorem qX4_disagreement_61 : decode (mB mX4_disagreement) 61 = .ok (.isub, 1) := by decide +kernel
theorem qX4_disagreement_62 : decode (mB mX4_disagreement) 62 = .ok (.invokestatic 198, 3) := by decide +kernel
theorem qX4_disagreement_65 : decode (mB mX4_disagreement) 65 = .ok (.goto 4, 3) := by decide +kernel
theorem qX4_disagreement_68 : decode (mB mX4_disagreement) 68 = .ok (.iconst 0, 1) := by decide +kernel
theorem qX4_disagreement_69 : decode (mB mX4_disagreement) 69 = .ok (.ireturn, 1) := by decide +kernel
theorem qX4_endDraft_0 : decode (mB mX4_endDraft) 0 = .ok (.aload_n 0, 1) := by decide +kernel
theorem qX4_endDraft_1 : decode (mB mX4_endDraft) 1 = .ok (.aload_n 0, 1) := by decide +kernel
theorem qX4_endDraft_2 : decode (mB mX4_endDraft) 2 = .ok (.getfield 17, 3) := by decide +kernel
theorem qX4_endDraft_5 : decode (mB mX4_endDraft) 5 = .ok (.putfield 24, 3) := by decide +kernel
theorem qX4_endDraft_8 : decode (mB mX4_endDraft) 8 = .ok (.iload_n 1, 1) := by decide +kernel
theorem qX4_endDraft_9 : decode (mB mX4_endDraft) 9 = .ok (.ireturn, 1) := by decide +kernel
theorem qX4_eraseNow_0 : decode (mB mX4_eraseNow) 0 = .ok (.aload_n 0, 1) := by decide +kernel
theorem qX4_eraseNow_1 : decode (mB mX4_eraseNow) 1 = .ok (.iload_n 1, 1) := by decide +kernel
theorem qX4_eraseNow_2 : decode (mB mX4_eraseNow) 2 = .ok (.iload_n 2, 1) := by decide +kernel
theorem qX4_eraseNow_3 : decode (mB mX4_eraseNow) 3 = .ok (.invokevirtual 175, 3) := by decide +kernel
theorem qX4_eraseNow_6 : decode (mB mX4_eraseNow) 6 = .ok (.istore_n 3, 1) := by decide +kernel
theorem qX4_eraseNow_7 : decode (mB mX4_eraseNow) 7 = .ok (.iload_n 2, 1) := by decide +kernel
theorem qX4_eraseNow_8 : decode (mB mX4_eraseNow) 8 = .ok (.iconst 1, 1) := by decide +kernel
theorem qX4_eraseNow_9 : decode (mB mX4_eraseNow) 9 = .ok (.iadd, 1) := by decide +kernel
theorem qX4_eraseNow_10 : decode (mB mX4_eraseNow) 10 = .ok (.istore 4, 2) := by decide +kernel
theorem qX4_eraseNow_12 : decode (mB mX4_eraseNow) 12 = .ok (.iload 4, 2) := by decide +kernel
theorem qX4_eraseNow_14 : decode (mB mX4_eraseNow) 14 = .ok (.aload_n 0, 1) := by decide +kernel
theorem qX4_eraseNow_15 : decode (mB mX4_eraseNow) 15 = .ok (.iload_n 1, 1) := by decide +kernel
theorem qX4_eraseNow_16 : decode (mB mX4_eraseNow) 16 = .ok (.bipush 8, 2) := by decide +kernel
theorem qX4_eraseNow_18 : decode (mB mX4_eraseNow) 18 = .ok (.invokevirtual 148, 3) := by decide +kernel
theorem qX4_eraseNow_21 : decode (mB mX4_eraseNow) 21 = .ok (.if_icmp .ge 51, 3) := by decide +kernel
theorem qX4_eraseNow_24 : decode (mB mX4_eraseNow) 24 = .ok (.aload_n 0, 1) := by decide +kernel
theorem qX4_eraseNow_25 : decode (mB mX4_eraseNow) 25 = .ok (.iload_n 1, 1) := by decide +kernel
theorem qX4_eraseNow_26 : decode (mB mX4_eraseNow) 26 = .ok (.bipush 9, 2) := by decide +kernel
theorem qX4_eraseNow_28 : decode (mB mX4_eraseNow) 28 = .ok (.iconst 2, 1) := by decide +kernel
theorem qX4_eraseNow_29 : decode (mB mX4_eraseNow) 29 = .ok (.iload 4, 2) := by decide +kernel
theorem qX4_eraseNow_31 : decode (mB mX4_eraseNow) 31 = .ok (.imul, 1) := by decide +kernel
theorem qX4_eraseNow_32 : decode (mB mX4_eraseNow) 32 = .ok (.iadd, 1) := by decide +kernel
theorem qX4_eraseNow_33 : decode (mB mX4_eraseNow) 33 = .ok (.iconst 2, 1) := by decide +kernel
theorem qX4_eraseNow_34 : decode (mB mX4_eraseNow) 34 = .ok (.isub, 1) := by decide +kernel
theorem qX4_eraseNow_35 : decode (mB mX4_eraseNow) 35 = .ok (.aload_n 0, 1) := by decide +kernel
theorem qX4_eraseNow_36 : decode (mB mX4_eraseNow) 36 = .ok (.iload_n 1, 1) := by decide +kernel
theorem qX4_eraseNow_37 : decode (mB mX4_eraseNow) 37 = .ok (.iload 4, 2) := by decide +kernel
theorem qX4_eraseNow_39 : decode (mB mX4_eraseNow) 39 = .ok (.invokevirtual 172, 3) := by decide +kernel
theorem qX4_eraseNow_42 : decode (mB mX4_eraseNow) 42 = .ok (.invokevirtual 137, 3) := by decide +kernel
theorem qX4_eraseNow_45 : decode (mB mX4_eraseNow) 45 = .ok (.aload_n 0, 1) := by decide +kernel
theorem qX4_eraseNow_46 : decode (mB mX4_eraseNow) 46 = .ok (.iload_n 1, 1) := by decide +kernel
theorem qX4_eraseNow_47 : decode (mB mX4_eraseNow) 47 = .ok (.bipush 9, 2) := by decide +kernel
theorem qX4_eraseNow_49 : decode (mB mX4_eraseNow) 49 = .ok (.iconst 2, 1) := by decide +kernel
theorem qX4_eraseNow_50 : decode (mB mX4_eraseNow) 50 = .ok (.iload 4, 2) := by decide +kernel
theorem qX4_eraseNow_52 : decode (mB mX4_eraseNow) 52 = .ok (.imul, 1) := by decide +kernel
theorem qX4_eraseNow_53 : decode (mB mX4_eraseNow) 53 = .ok (.iadd, 1) := by decide +kernel
theorem qX4_eraseNow_54 : decode (mB mX4_eraseNow) 54 = .ok (.iconst 1, 1) := by decide +kernel
theorem qX4_eraseNow_55 : decode (mB mX4_eraseNow) 55 = .ok (.isub, 1) := by decide +kernel
theorem qX4_eraseNow_56 : decode (mB mX4_eraseNow) 56 = .ok (.aload_n 0, 1) := by decide +kernel
theorem qX4_eraseNow_57 : decode (mB mX4_eraseNow) 57 = .ok (.iload_n 1, 1) := by decide +kernel
theorem qX4_eraseNow_58 : decode (mB mX4_eraseNow) 58 = .ok (.iload 4, 2) := by decide +kernel
theorem qX4_eraseNow_60 : decode (mB mX4_eraseNow) 60 = .ok (.invokevirtual 175, 3) := by decide +kernel
theorem qX4_eraseNow_63 : decode (mB mX4_eraseNow) 63 = .ok (.invokevirtual 137, 3) := by decide +kernel
theorem qX4_eraseNow_66 : decode (mB mX4_eraseNow) 66 = .ok (.iinc 4 1, 3) := by decide +kernel
theorem qX4_eraseNow_69 : decode (mB mX4_eraseNow) 69 = .ok (.goto (-57), 3) := by decide +kernel
theorem qX4_eraseNow_72 : decode (mB mX4_eraseNow) 72 = .ok (.aload_n 0, 1) := by decide +kernel
theorem qX4_eraseNow_73 : decode (mB mX4_eraseNow) 73 = .ok (.iload_n 1, 1) := by decide +kernel
theorem qX4_eraseNow_74 : decode (mB mX4_eraseNow) 74 = .ok (.bipush 8, 2) := by decide +kernel
theorem qX4_eraseNow_76 : decode (mB mX4_eraseNow) 76 = .ok (.aload_n 0, 1) := by decide +kernel
theorem qX4_eraseNow_77 : decode (mB mX4_eraseNow) 77 = .ok (.iload_n 1, 1) := by decide +kernel
theorem qX4_eraseNow_78 : decode (mB mX4_eraseNow) 78 = .ok (.bipush 8, 2) := by decide +kernel
theorem qX4_eraseNow_80 : decode (mB mX4_eraseNow) 80 = .ok (.invokevirtual 148, 3) := by decide +kernel
theorem qX4_eraseNow_83 : decode (mB mX4_eraseNow) 83 = .ok (.iconst 1, 1) := by decide +kernel
theorem qX4_eraseNow_84 : decode (mB mX4_eraseNow) 84 = .ok (.isub, 1) := by decide +kernel
theorem qX4_eraseNow_85 : decode (mB mX4_eraseNow) 85 = .ok (.invokevirtual 137, 3) := by decide +kernel
theorem qX4_eraseNow_88 : decode (mB mX4_eraseNow) 88 = .ok (.iload_n 3, 1) := by decide +kernel
theorem qX4_eraseNow_89 : decode (mB mX4_eraseNow) 89 = .ok (.ireturn, 1) := by decide +kernel
theorem qX4_erasePoint_0 : decode (mB mX4_erasePoint) 0 = .ok (.aload_n 0, 1) := by decide +kernel
theorem qX4_erasePoint_1 : decode (mB mX4_erasePoint) 1 = .ok (.aload_n 0, 1) := by decide +kernel
theorem qX4_erasePoint_2 : decode (mB mX4_erasePoint) 2 = .ok (.iload_n 1, 1) := by decide +kernel
theorem qX4_erasePoint_3 : decode (mB mX4_erasePoint) 3 = .ok (.invokevirtual 396, 3) := by decide +kernel
theorem qX4_erasePoint_6 : decode (mB mX4_erasePoint) 6 = .ok (.aload_n 0, 1) := by decide +kernel
theorem qX4_erasePoint_7 : decode (mB mX4_erasePoint) 7 = .ok (.iload_n 1, 1) := by decide +kernel
theorem qX4_erasePoint_8 : decode (mB mX4_erasePoint) 8 = .ok (.iload_n 2, 1) := by decide +kernel
theorem qX4_erasePoint_9 : decode (mB mX4_erasePoint) 9 = .ok (.invokevirtual 413, 3) := by decide +kernel
theorem qX4_erasePoint_12 : decode (mB mX4_erasePoint) 12 = .ok (.invokevirtual 409, 3) := by decide +kernel
theorem qX4_erasePoint_15 : decode (mB mX4_erasePoint) 15 = .ok (.ifCond .ne 5, 3) := by decide +kernel
theorem qX4_erasePoint_18 : decode (mB mX4_erasePoint) 18 = .ok (.iconst 0, 1) := by decide +kernel
theorem qX4_erasePoint_19 : decode (mB mX4_erasePoint) 19 = .ok (.ireturn, 1) := by decide +kernel
theorem qX4_erasePoint_20 : decode (mB mX4_erasePoint) 20 = .ok (.aload_n 0, 1) := by decide +kernel
theorem qX4_erasePoint_21 : decode (mB mX4_erasePoint) 21 = .ok (.invokevirtual 384, 3) := by decide +kernel
theorem qX4_erasePoint_24 : decode (mB mX4_erasePoint) 24 = .ok (.aload_n 0, 1) := by decide +kernel
theorem qX4_erasePoint_25 : decode (mB mX4_erasePoint) 25 = .ok (.iload_n 1, 1) := by decide +kernel
theorem qX4_erasePoint_26 : decode (mB mX4_erasePoint) 26 = .ok (.iload_n 2, 1) := by decide +kernel
theorem qX4_erasePoint_27 : decode (mB mX4_erasePoint) 27 = .ok (.invokevirtual 323, 3) := by decide +kernel
theorem qX4_erasePoint_30 : decode (mB mX4_erasePoint) 30 = .ok (.ireturn, 1) := by decide +kernel
theorem qX4_errorCode_0 : decode (mB mX4_errorCode) 0 = .ok (.aload_n 0, 1) := by decide +kernel
theorem qX4_errorCode_1 : decode (mB mX4_errorCode) 1 = .ok (.iconst 0, 1) := by decide +kernel
theorem qX4_errorCode_2 : decode (mB mX4_errorCode) 2 = .ok (.putfield 3, 3) := by decide +kernel
theorem qX4_errorCode_5 : decode (mB mX4_errorCode) 5 = .ok (.aload_n 0, 1) := by decide +kernel
theorem qX4_errorCode_6 : decode (mB mX4_errorCode) 6 = .ok (.getfield 381, 3) := by decide +kernel
theorem qX4_errorCode_9 : decode (mB mX4_errorCode) 9 = .ok (.ireturn, 1) := by decide +kernel
theorem qX4_errorOffset_0 : decode (mB mX4_errorOffset) 0 = .ok (.aload_n 0, 1) := by decide +kernel
theorem qX4_errorOffset_1 : decode (mB mX4_errorOffset) 1 = .ok (.iconst 0, 1) := by decide +kernel
theorem qX4_errorOffset_2 : decode (mB mX4_errorOffset) 2 = .ok (.putfield 3, 3) := by decide +kernel
theorem qX4_errorOffset_5 : decode (mB mX4_errorOffset) 5 = .ok (.aload_n 0, 1) := by decide +kernel
theorem qX4_errorOffset_6 : decode (mB mX4_errorOffset) 6 = .ok (.getfield 112, 3) := by decide +kernel
theorem qX4_errorOffset_9 : decode (mB mX4_errorOffset) 9 = .ok (.ireturn, 1) := by decide +kernel
theorem qX4_fault_0 : decode (mB mX4_fault) 0 = .ok (.aload_n 0, 1) := by decide +kernel
theorem qX4_fault_1 : decode (mB mX4_fault) 1 = .ok (.getfield 250, 3) := by decide +kernel
theorem qX4_fault_4 : decode (mB mX4_fault) 4 = .ok (.ifCond .ne 16, 3) := by decide +kernel
theorem qX4_fault_7 : decode (mB mX4_fault) 7 = .ok (.aload_n 0, 1) := by decide +kernel
theorem qX4_fault_8 : decode (mB mX4_fault) 8 = .ok (.iload_n 1, 1) := by decide +kernel
theorem qX4_fault_9 : decode (mB mX4_fault) 9 = .ok (.putfield 250, 3) := by decide +kernel
theorem qX4_fault_12 : decode (mB mX4_fault) 12 = .ok (.aload_n 0, 1) := by decide +kernel
theorem qX4_fault_13 : decode (mB mX4_fault) 13 = .ok (.aload_n 0, 1) := by decide +kernel
theorem qX4_fault_14 : decode (mB mX4_fault) 14 = .ok (.getfield 223, 3) := by decide +kernel
theorem qX4_fault_17 : decode (mB mX4_fault) 17 = .ok (.putfield 256, 3) := by decide +kernel
theorem qX4_fault_20 : decode (mB mX4_fault) 20 = .ok (.return_, 1) := by decide +kernel
theorem qX4_fillOf_0 : decode (mB mX4_fillOf) 0 = .ok (.aload_n 0, 1) := by decide +kernel
theorem qX4_fillOf_1 : decode (mB mX4_fillOf) 1 = .ok (.iload_n 1, 1) := by decide +kernel
theorem qX4_fillOf_2 : decode (mB mX4_fillOf) 2 = .ok (.iconst 4, 1) := by decide +kernel
theorem qX4_fillOf_3 : decode (mB mX4_fillOf) 3 = .ok (.invokevirtual 399, 3) := by decide +kernel
theorem qX4_fillOf_6 : decode (mB mX4_fillOf) 6 = .ok (.ireturn, 1) := by decide +kernel
theorem qX4_fitError_0 : decode (mB mX4_fitError) 0 = .ok (.aload_n 0, 1) := by decide +kernel
theorem qX4_fitError_1 : decode (mB mX4_fitError) 1 = .ok (.aload_n 0, 1) := by decide +kernel
theorem qX4_fitError_2 : decode (mB mX4_fitError) 2 = .ok (.iload_n 1, 1) := by decide +kernel
theorem qX4_fitError_3 : decode (mB mX4_fitError) 3 = .ok (.invokevirtual 396, 3) := by decide +kernel
theorem qX4_fitError_6 : decode (mB mX4_fitError) 6 = .ok (.aload_n 0, 1) := by decide +kernel
theorem qX4_fitError_7 : decode (mB mX4_fitError) 7 = .ok (.iload_n 1, 1) := by decide +kernel
theorem qX4_fitError_8 : decode (mB mX4_fitError) 8 = .ok (.invokevirtual 419, 3) := by decide +kernel
theorem qX4_fitError_11 : decode (mB mX4_fitError) 11 = .ok (.invokevirtual 409, 3) := by decide +kernel
theorem qX4_fitError_14 : decode (mB mX4_fitError) 14 = .ok (.ifCond .eq 11, 3) := by decide +kernel
theorem qX4_fitError_17 : decode (mB mX4_fitError) 17 = .ok (.aload_n 0, 1) := by decide +kernel
theorem qX4_fitError_18 : decode (mB mX4_fitError) 18 = .ok (.iload_n 1, 1) := by decide +kernel
theorem qX4_fitError_19 : decode (mB mX4_fitError) 19 = .ok (.invokevirtual 430, 3) := by decide +kernel
theorem qX4_fitError_22 : decode (mB mX4_fitError) 22 = .ok (.goto 4, 3) := by decide +kernel
theorem qX4_fitError_25 : decode (mB mX4_fitError) 25 = .ok (.iconst 0, 1) := by decide +kernel
theorem qX4_fitError_26 : decode (mB mX4_fitError) 26 = .ok (.ireturn, 1) := by decide +kernel
theorem qX4_fitOf_0 : decode (mB mX4_fitOf) 0 = .ok (.iconst 0, 1) := by decide +kernel
theorem qX4_fitOf_1 : decode (mB mX4_fitOf) 1 = .ok (.istore_n 2, 1) := by decide +kernel
theorem qX4_fitOf_2 : decode (mB mX4_fitOf) 2 = .ok (.iconst 0, 1) := by decide +kernel
theorem qX4_fitOf_3 : decode (mB mX4_fitOf) 3 = .ok (.istore_n 3, 1) := by decide +kernel
theorem qX4_fitOf_4 : decode (mB mX4_fitOf) 4 = .ok (.iload_n 3, 1) := by decide +kernel
theorem qX4_fitOf_5 : decode (mB mX4_fitOf) 5 = .ok (.aload_n 0, 1) := by decide +kernel
theorem qX4_fitOf_6 : decode (mB mX4_fitOf) 6 = .ok (.iload_n 1, 1) := by decide +kernel
theorem qX4_fitOf_7 : decode (mB mX4_fitOf) 7 = .ok (.bipush 8, 2) := by decide +kernel
theorem qX4_fitOf_9 : decode (mB mX4_fitOf) 9 = .ok (.invokevirtual 148, 3) := by decide +kernel
theorem qX4_fitOf_12 : decode (mB mX4_fitOf) 12 = .ok (.if_icmp .ge 38, 3) := by decide +kernel
theorem qX4_fitOf_15 : decode (mB mX4_fitOf) 15 = .ok (.iload_n 2, 1) := by decide +kernel
theorem qX4_fitOf_16 : decode (mB mX4_fitOf) 16 = .ok (.bipush 10, 2) := by decide +kernel
theorem qX4_fitOf_18 : decode (mB mX4_fitOf) 18 = .ok (.aload_n 0, 1) := by decide +kernel
theorem qX4_fitOf_19 : decode (mB mX4_fitOf) 19 = .ok (.iload_n 1, 1) := by decide +kernel
theorem qX4_fitOf_20 : decode (mB mX4_fitOf) 20 = .ok (.iload_n 3, 1) := by decide +kernel
theorem qX4_fitOf_21 : decode (mB mX4_fitOf) 21 = .ok (.invokevirtual 172, 3) := by decide +kernel
theorem qX4_fitOf_24 : decode (mB mX4_fitOf) 24 = .ok (.imul, 1) := by decide +kernel
theorem qX4_fitOf_25 : decode (mB mX4_fitOf) 25 = .ok (.aload_n 0, 1) := by decide +kernel
theorem qX4_fitOf_26 : decode (mB mX4_fitOf) 26 = .ok (.iload_n 1, 1) := by decide +kernel
theorem qX4_fitOf_27 : decode (mB mX4_fitOf) 27 = .ok (.aload_n 0, 1) := by decide +kernel
theorem qX4_fitOf_28 : decode (mB mX4_fitOf) 28 = .ok (.iload_n 1, 1) := by decide +kernel
theorem qX4_fitOf_29 : decode (mB mX4_fitOf) 29 = .ok (.iload_n 3, 1) := by decide +kernel
theorem qX4_fitOf_30 : decode (mB mX4_fitOf) 30 = .ok (.invokevirtual 175, 3) := by decide +kernel
theorem qX4_fitOf_33 : decode (mB mX4_fitOf) 33 = .ok (.invokevirtual 195, 3) := by decide +kernel
theorem qX4_fitOf_36 : decode (mB mX4_fitOf) 36 = .ok (.isub, 1) := by decide +kernel
theorem qX4_fitOf_37 : decode (mB mX4_fitOf) 37 = .ok (.invokestatic 198, 3) := by decide +kernel
theorem qX4_fitOf_40 : decode (mB mX4_fitOf) 40 = .ok (.invokestatic 201, 3) := by decide +kernel
theorem qX4_fitOf_43 : decode (mB mX4_fitOf) 43 = .ok (.istore_n 2, 1) := by decide +kernel
theorem qX4_fitOf_44 : decode (mB mX4_fitOf) 44 = .ok (.iinc 3 1, 3) := by decide +kernel
theorem qX4_fitOf_47 : decode (mB mX4_fitOf) 47 = .ok (.goto (-43), 3) := by decide +kernel
theorem qX4_fitOf_50 : decode (mB mX4_fitOf) 50 = .ok (.iload_n 2, 1) := by decide +kernel
theorem qX4_fitOf_51 : decode (mB mX4_fitOf) 51 = .ok (.ireturn, 1) := by decide +kernel
theorem qX4_freeAt_0 : decode (mB mX4_freeAt) 0 = .ok (.aload_n 0, 1) := by decide +kernel
theorem qX4_freeAt_1 : decode (mB mX4_freeAt) 1 = .ok (.iload_n 1, 1) := by decide +kernel
theorem qX4_freeAt_2 : decode (mB mX4_freeAt) 2 = .ok (.iconst 1, 1) := by decide +kernel
theorem qX4_freeAt_3 : decode (mB mX4_freeAt) 3 = .ok (.invokevirtual 148, 3) := by decide +kernel
theorem qX4_freeAt_6 : decode (mB mX4_freeAt) 6 = .ok (.aload_n 0, 1) := by decide +kernel
theorem qX4_freeAt_7 : decode (mB mX4_freeAt) 7 = .ok (.aload_n 0, 1) := by decide +kernel
theorem qX4_freeAt_8 : decode (mB mX4_freeAt) 8 = .ok (.iload_n 1, 1) := by decide +kernel
theorem qX4_freeAt_9 : decode (mB mX4_freeAt) 9 = .ok (.iconst 0, 1) := by decide +kernel
theorem qX4_freeAt_10 : decode (mB mX4_freeAt) 10 = .ok (.invokevirtual 148, 3) := by decide +kernel
theorem qX4_freeAt_13 : decode (mB mX4_freeAt) 13 = .ok (.iconst 2, 1) := by decide +kernel
theorem qX4_freeAt_14 : decode (mB mX4_freeAt) 14 = .ok (.invokevirtual 152, 3) := by decide +kernel
theorem qX4_freeAt_17 : decode (mB mX4_freeAt) 17 = .ok (.imul, 1) := by decide +kernel
theorem qX4_freeAt_18 : decode (mB mX4_freeAt) 18 = .ok (.iload_n 2, 1) := by decide +kernel
theorem qX4_freeAt_19 : decode (mB mX4_freeAt) 19 = .ok (.sipush 300, 3) := by decide +kernel
theorem qX4_freeAt_22 : decode (mB mX4_freeAt) 22 = .ok (.iadd, 1) := by decide +kernel
theorem qX4_freeAt_23 : decode (mB mX4_freeAt) 23 = .ok (.imul, 1) := by decide +kernel
theorem qX4_freeAt_24 : decode (mB mX4_freeAt) 24 = .ok (.istore_n 3, 1) := by decide +kernel
theorem qX4_freeAt_25 : decode (mB mX4_freeAt) 25 = .ok (.aload_n 0, 1) := by decide +kernel
theorem qX4_freeAt_26 : decode (mB mX4_freeAt) 26 = .ok (.iload_n 1, 1) := by decide +kernel
theorem qX4_freeAt_27 : decode (mB mX4_freeAt) 27 = .ok (.iconst 4, 1) := by decide +kernel
theorem qX4_freeAt_28 : decode (mB mX4_freeAt) 28 = .ok (.invokevirtual 148, 3) := by decide +kernel
theorem qX4_freeAt_31 : decode (mB mX4_freeAt) 31 = .ok (.iload_n 3, 1) := by decide +kernel
theorem qX4_freeAt_32 : decode (mB mX4_freeAt) 32 = .ok (.sipush 1000, 3) := by decide +kernel
theorem qX4_freeAt_35 : decode (mB mX4_freeAt) 35 = .ok (.aload_n 0, 1) := by decide +kernel
theorem qX4_freeAt_36 : decode (mB mX4_freeAt) 36 = .ok (.iload_n 1, 1) := by decide +kernel
theorem qX4_freeAt_37 : decode (mB mX4_freeAt) 37 = .ok (.iconst 2, 1) := by decide +kernel
theorem qX4_freeAt_38 : decode (mB mX4_freeAt) 38 = .ok (.invokevirtual 148, 3) := by decide +kernel
theorem qX4_freeAt_41 : decode (mB mX4_freeAt) 41 = .ok (.imul, 1) := by decide +kernel
theorem qX4_freeAt_42 : decode (mB mX4_freeAt) 42 = .ok (.idiv, 1) := by decide +kernel
theorem qX4_freeAt_43 : decode (mB mX4_freeAt) 43 = .ok (.iadd, 1) := by decide +kernel
theorem qX4_freeAt_44 : decode (mB mX4_freeAt) 44 = .ok (.ireturn, 1) := by decide +kernel
theorem qX4_freeHeightAt_0 : decode (mB mX4_freeHeightAt) 0 = .ok (.aload_n 0, 1) := by decide +kernel
theorem qX4_freeHeightAt_1 : decode (mB mX4_freeHeightAt) 1 = .ok (.aload_n 0, 1) := by decide +kernel
theorem qX4_freeHeightAt_2 : decode (mB mX4_freeHeightAt) 2 = .ok (.iload_n 1, 1) := by decide +kernel
theorem qX4_freeHeightAt_3 : decode (mB mX4_freeHeightAt) 3 = .ok (.invokevirtual 396, 3) := by decide +kernel
theorem qX4_freeHeightAt_6 : decode (mB mX4_freeHeightAt) 6 = .ok (.iload_n 2, 1) := by decide +kernel
theorem qX4_freeHeightAt_7 : decode (mB mX4_freeHeightAt) 7 = .ok (.invokestatic 406, 3) := by decide +kernel
theorem qX4_freeHeightAt_10 : decode (mB mX4_freeHeightAt) 10 = .ok (.invokevirtual 409, 3) := by decide +kernel
theorem qX4_freeHeightAt_13 : decode (mB mX4_freeHeightAt) 13 = .ok (.ifCond .eq 12, 3) := by decide +kernel
theorem qX4_freeHeightAt_16 : decode (mB mX4_freeHeightAt) 16 = .ok (.aload_n 0, 1) := by decide +kernel
theorem qX4_freeHeightAt_17 : decode (mB mX4_freeHeightAt) 17 = .ok (.iload_n 1, 1) := by decide +kernel
theorem qX4_freeHeightAt_18 : decode (mB mX4_freeHeightAt) 18 = .ok (.iload_n 2, 1) := by decide +kernel
theorem qX4_freeHeightAt_19 : decode (mB mX4_freeHeightAt) 19 = .ok (.invokevirtual 155, 3) := by decide +kernel
theorem qX4_freeHeightAt_22 : decode (mB mX4_freeHeightAt) 22 = .ok (.goto 4, 3) := by decide +kernel
theorem qX4_freeHeightAt_25 : decode (mB mX4_freeHeightAt) 25 = .ok (.iconst 0, 1) := by decide +kernel
theorem qX4_freeHeightAt_26 : decode (mB mX4_freeHeightAt) 26 = .ok (.ireturn, 1) := by decide +kernel
theorem qX4_freeNow_0 : decode (mB mX4_freeNow) 0 = .ok (.aload_n 0, 1) := by decide +kernel
theorem qX4_freeNow_1 : decode (mB mX4_freeNow) 1 = .ok (.iload_n 1, 1) := by decide +kernel
theorem qX4_freeNow_2 : decode (mB mX4_freeNow) 2 = .ok (.aload_n 0, 1) := by decide +kernel
theorem qX4_freeNow_3 : decode (mB mX4_freeNow) 3 = .ok (.iload_n 1, 1) := by decide +kernel
theorem qX4_freeNow_4 : decode (mB mX4_freeNow) 4 = .ok (.iconst 5, 1) := by decide +kernel
theorem qX4_freeNow_5 : decode (mB mX4_freeNow) 5 = .ok (.invokevirtual 148, 3) := by decide +kernel
theorem qX4_freeNow_8 : decode (mB mX4_freeNow) 8 = .ok (.invokevirtual 155, 3) := by decide +kernel
theorem qX4_freeNow_11 : decode (mB mX4_freeNow) 11 = .ok (.ireturn, 1) := by decide +kernel
theorem qX4_goOn_0 : decode (mB mX4_goOn) 0 = .ok (.aload_n 0, 1) := by decide +kernel
theorem qX4_goOn_1 : decode (mB mX4_goOn) 1 = .ok (.aload_n 0, 1) := by decide +kernel
theorem qX4_goOn_2 : decode (mB mX4_goOn) 2 = .ok (.getfield 217, 3) := by decide +kernel
theorem qX4_goOn_5 : decode (mB mX4_goOn) 5 = .ok (.invokevirtual 220, 3) := by decide +kernel
theorem qX4_goOn_8 : decode (mB mX4_goOn) 8 = .ok (.bipush 32, 2) := by decide +kernel
theorem qX4_goOn_10 : decode (mB mX4_goOn) 10 = .ok (.if_icmp .eq 16, 3) := by decide +kernel
theorem qX4_goOn_13 : decode (mB mX4_goOn) 13 = .ok (.aload_n 0, 1) := by decide +kernel
theorem qX4_goOn_14 : decode (mB mX4_goOn) 14 = .ok (.aload_n 0, 1) := by decide +kernel
theorem qX4_goOn_15 : decode (mB mX4_goOn) 15 = .ok (.getfield 217, 3) := by decide +kernel
theorem qX4_goOn_18 : decode (mB mX4_goOn) 18 = .ok (.invokevirtual 220, 3) := by decide +kernel
theorem qX4_goOn_21 : decode (mB mX4_goOn) 21 = .ok (.bipush 10, 2) := by decide +kernel
theorem qX4_goOn_23 : decode (mB mX4_goOn) 23 = .ok (.if_icmp .ne 16, 3) := by decide +kernel
theorem qX4_goOn_26 : decode (mB mX4_goOn) 26 = .ok (.aload_n 0, 1) := by decide +kernel
theorem qX4_goOn_27 : decode (mB mX4_goOn) 27 = .ok (.dup, 1) := by decide +kernel
theorem qX4_goOn_28 : decode (mB mX4_goOn) 28 = .ok (.getfield 217, 3) := by decide +kernel
theorem qX4_goOn_31 : decode (mB mX4_goOn) 31 = .ok (.iconst 1, 1) := by decide +kernel
theorem qX4_goOn_32 : decode (mB mX4_goOn) 32 = .ok (.iadd, 1) := by decide +kernel
theorem qX4_goOn_33 : decode (mB mX4_goOn) 33 = .ok (.putfield 217, 3) := by decide +kernel
theorem qX4_goOn_36 : decode (mB mX4_goOn) 36 = .ok (.goto (-36), 3) := by decide +kernel
theorem qX4_goOn_39 : decode (mB mX4_goOn) 39 = .ok (.aload_n 0, 1) := by decide +kernel
theorem qX4_goOn_40 : decode (mB mX4_goOn) 40 = .ok (.aload_n 0, 1) := by decide +kernel
theorem qX4_goOn_41 : decode (mB mX4_goOn) 41 = .ok (.getfield 217, 3) := by decide +kernel
theorem qX4_goOn_44 : decode (mB mX4_goOn) 44 = .ok (.putfield 223, 3) := by decide +kernel
theorem qX4_goOn_47 : decode (mB mX4_goOn) 47 = .ok (.aload_n 0, 1) := by decide +kernel
theorem qX4_goOn_48 : decode (mB mX4_goOn) 48 = .ok (.iconst 0, 1) := by decide +kernel
theorem qX4_goOn_49 : decode (mB mX4_goOn) 49 = .ok (.putfield 226, 3) := by decide +kernel
theorem qX4_goOn_52 : decode (mB mX4_goOn) 52 = .ok (.aload_n 0, 1) := by decide +kernel
theorem qX4_goOn_53 : decode (mB mX4_goOn) 53 = .ok (.lconst 0, 1) := by decide +kernel
theorem qX4_goOn_54 : decode (mB mX4_goOn) 54 = .ok (.putfield 229, 3) := by decide +kernel
theorem qX4_goOn_57 : decode (mB mX4_goOn) 57 = .ok (.aload_n 0, 1) := by decide +kernel
theorem qX4_goOn_58 : decode (mB mX4_goOn) 58 = .ok (.iconst 0, 1) := by decide +kernel
theorem qX4_goOn_59 : decode (mB mX4_goOn) 59 = .ok (.putfield 232, 3) := by decide +kernel
theorem qX4_goOn_62 : decode (mB mX4_goOn) 62 = .ok (.aload_n 0, 1) := by decide +kernel
theorem qX4_goOn_63 : decode (mB mX4_goOn) 63 = .ok (.aload_n 0, 1) := by decide +kernel
theorem qX4_goOn_64 : decode (mB mX4_goOn) 64 = .ok (.getfield 217, 3) := by decide +kernel
theorem qX4_goOn_67 : decode (mB mX4_goOn) 67 = .ok (.invokevirtual 220, 3) := by decide +kernel
theorem qX4_goOn_70 : decode (mB mX4_goOn) 70 = .ok (.istore_n 1, 1) := by decide +kernel
theorem qX4_goOn_71 : decode (mB mX4_goOn) 71 = .ok (.iload_n 1, 1) := by decide +kernel
theorem qX4_goOn_72 : decode (mB mX4_goOn) 72 = .ok (.iconst (-1), 1) := by decide +kernel
theorem qX4_goOn_73 : decode (mB mX4_goOn) 73 = .ok (.if_icmp .ne 11, 3) := by decide +kernel
theorem qX4_goOn_76 : decode (mB mX4_goOn) 76 = .ok (.aload_n 0, 1) := by decide +kernel
theorem qX4_goOn_77 : decode (mB mX4_goOn) 77 = .ok (.iconst 0, 1) := by decide +kernel
theorem qX4_goOn_78 : decode (mB mX4_goOn) 78 = .ok (.putfield 235, 3) := by decide +kernel
theorem qX4_goOn_81 : decode (mB mX4_goOn) 81 = .ok (.goto 193, 3) := by decide +kernel
theorem qX4_goOn_84 : decode (mB mX4_goOn) 84 = .ok (.iload_n 1, 1) := by decide +kernel
theorem qX4_goOn_85 : decode (mB mX4_goOn) 85 = .ok (.invokestatic 238, 3) := by decide +kernel
theorem qX4_goOn_88 : decode (mB mX4_goOn) 88 = .ok (.ifCond .eq 88, 3) := by decide +kernel
theorem qX4_goOn_91 : decode (mB mX4_goOn) 91 = .ok (.aload_n 0, 1) := by decide +kernel
theorem qX4_goOn_92 : decode (mB mX4_goOn) 92 = .ok (.iconst 1, 1) := by decide +kernel
theorem qX4_goOn_93 : decode (mB mX4_goOn) 93 = .ok (.putfield 235, 3) := by decide +kernel
theorem qX4_goOn_96 : decode (mB mX4_goOn) 96 = .ok (.aload_n 0, 1) := by decide +kernel
theorem qX4_goOn_97 : decode (mB mX4_goOn) 97 = .ok (.aload_n 0, 1) := by decide +kernel
theorem qX4_goOn_98 : decode (mB mX4_goOn) 98 = .ok (.getfield 217, 3) := by decide +kernel
theorem qX4_goOn_101 : decode (mB mX4_goOn) 101 = .ok (.invokevirtual 220, 3) := by decide +kernel
theorem qX4_goOn_104 : decode (mB mX4_goOn) 104 = .ok (.invokestatic 238, 3) := by decide +kernel
theorem qX4_goOn_107 : decode (mB mX4_goOn) 107 = .ok (.ifCond .eq 167, 3) := by decide +kernel
theorem qX4_goOn_110 : decode (mB mX4_goOn) 110 = .ok (.aload_n 0, 1) := by decide +kernel
theorem qX4_goOn_111 : decode (mB mX4_goOn) 111 = .ok (.aload_n 0, 1) := by decide +kernel
theorem qX4_goOn_112 : decode (mB mX4_goOn) 112 = .ok (.getfield 226, 3) := by decide +kernel
theorem qX4_goOn_115 : decode (mB mX4_goOn) 115 = .ok (.bipush 8, 2) := by decide +kernel
theorem qX4_goOn_117 : decode (mB mX4_goOn) 117 = .ok (.if_icmp .ge 30, 3) := by decide +kernel
theorem qX4_goOn_120 : decode (mB mX4_goOn) 120 = .ok (.ldc2_w 241, 3) := by decide +kernel
theorem qX4_goOn_123 : decode (mB mX4_goOn) 123 = .ok (.aload_n 0, 1) := by decide +kernel
theorem qX4_goOn_124 : decode (mB mX4_goOn) 124 = .ok (.getfield 229, 3) := by decide +kernel
theorem qX4_goOn_127 : decode (mB mX4_goOn) 127 = .ok (.lmul, 1) := by decide +kernel
theorem qX4_goOn_128 : decode (mB mX4_goOn) 128 = .ok (.aload_n 0, 1) := by decide +kernel
theorem qX4_goOn_129 : decode (mB mX4_goOn) 129 = .ok (.aload_n 0, 1) := by decide +kernel
theorem qX4_goOn_130 : decode (mB mX4_goOn) 130 = .ok (.getfield 217, 3) := by decide +kernel
theorem qX4_goOn_133 : decode (mB mX4_goOn) 133 = .ok (.invokevirtual 220, 3) := by decide +kernel
theorem qX4_goOn_136 : decode (mB mX4_goOn) 136 = .ok (.i2l, 1) := by decide +kernel
theorem qX4_goOn_137 : decode (mB mX4_goOn) 137 = .ok (.ladd, 1) := by decide +kernel
theorem qX4_goOn_138 : decode (mB mX4_goOn) 138 = .ok (.ldc2_w 243, 3) := by decide +kernel
theorem qX4_goOn_141 : decode (mB mX4_goOn) 141 = .ok (.lsub, 1) := by decide +kernel
theorem qX4_goOn_142 : decode (mB mX4_goOn) 142 = .ok (.lconst 1, 1) := by decide +kernel
theorem qX4_goOn_143 : decode (mB mX4_goOn) 143 = .ok (.ladd, 1) := by decide +kernel
theorem qX4_goOn_144 : decode (mB mX4_goOn) 144 = .ok (.goto 6, 3) := by decide +kernel
theorem qX4_goOn_147 : decode (mB mX4_goOn) 147 = .ok (.ldc2_w 245, 3) := by decide +kernel
theorem qX4_goOn_150 : decode (mB mX4_goOn) 150 = .ok (.putfield 229, 3) := by decide +kernel
theorem qX4_goOn_153 : decode (mB mX4_goOn) 153 = .ok (.aload_n 0, 1) := by decide +kernel
theorem qX4_goOn_154 : decode (mB mX4_goOn) 154 = .ok (.dup, 1) := by decide +kernel
theorem qX4_goOn_155 : decode (mB mX4_goOn) 155 = .ok (.getfield 226, 3) := by decide +kernel
theorem qX4_goOn_158 : decode (mB mX4_goOn) 158 = .ok (.iconst 1, 1) := by decide +kernel
theorem qX4_goOn_159 : decode (mB mX4_goOn) 159 = .ok (.iadd, 1) := by decide +kernel
theorem qX4_goOn_160 : decode (mB mX4_goOn) 160 = .ok (.putfield 226, 3) := by decide +kernel
theorem qX4_goOn_163 : decode (mB mX4_goOn) 163 = .ok (.aload_n 0, 1) := by decide +kernel
theorem qX4_goOn_164 : decode (mB mX4_goOn) 164 = .ok (.dup, 1) := by decide +kernel
theorem qX4_goOn_165 : decode (mB mX4_goOn) 165 = .ok (.getfield 217, 3) := by decide +kernel
theorem qX4_goOn_168 : decode (mB mX4_goOn) 168 = .ok (.iconst 1, 1) := by decide +kernel
theorem qX4_goOn_169 : decode (mB mX4_goOn) 169 = .ok (.iadd, 1) := by decide +kernel
theorem qX4_goOn_170 : decode (mB mX4_goOn) 170 = .ok (.putfield 217, 3) := by decide +kernel
theorem qX4_goOn_173 : decode (mB mX4_goOn) 173 = .ok (.goto (-77), 3) := by decide +kernel
theorem qX4_goOn_176 : decode (mB mX4_goOn) 176 = .ok (.iload_n 1, 1) := by decide +kernel
theorem qX4_goOn_177 : decode (mB mX4_goOn) 177 = .ok (.invokestatic 247, 3) := by decide +kernel
theorem qX4_goOn_180 : decode (mB mX4_goOn) 180 = .ok (.ifCond .eq 74, 3) := by decide +kernel
theorem qX4_goOn_183 : decode (mB mX4_goOn) 183 = .ok (.aload_n 0, 1) := by decide +kernel
theorem qX4_goOn_184 : decode (mB mX4_goOn) 184 = .ok (.iconst 2, 1) := by decide +kernel
theorem qX4_goOn_185 : decode (mB mX4_goOn) 185 = .ok (.putfield 235, 3) := by decide +kernel
theorem qX4_goOn_188 : decode (mB mX4_goOn) 188 = .ok (.aload_n 0, 1) := by decide +kernel
theorem qX4_goOn_189 : decode (mB mX4_goOn) 189 = .ok (.aload_n 0, 1) := by decide +kernel
theorem qX4_goOn_190 : decode (mB mX4_goOn) 190 = .ok (.getfield 217, 3) := by decide +kernel
theorem qX4_goOn_193 : decode (mB mX4_goOn) 193 = .ok (.invokevirtual 220, 3) := by decide +kernel
theorem qX4_goOn_196 : decode (mB mX4_goOn) 196 = .ok (.invokestatic 247, 3) := by decide +kernel
theorem qX4_goOn_199 : decode (mB mX4_goOn) 199 = .ok (.ifCond .eq 75, 3) := by decide +kernel
theorem qX4_goOn_202 : decode (mB mX4_goOn) 202 = .ok (.aload_n 0, 1) := by decide +kernel
theorem qX4_goOn_203 : decode (mB mX4_goOn) 203 = .ok (.aload_n 0, 1) := by decide +kernel
theorem qX4_goOn_204 : decode (mB mX4_goOn) 204 = .ok (.getfield 232, 3) := by decide +kernel
theorem qX4_goOn_207 : decode (mB mX4_goOn) 207 = .ok (.sipush 999, 3) := by decide +kernel
theorem qX4_goOn_210 : decode (mB mX4_goOn) 210 = .ok (.if_icmp .le 9, 3) := by decide +kernel
theorem qX4_goOn_213 : decode (mB mX4_goOn) 213 = .ok (.sipush 9999, 3) := by decide +kernel
theorem qX4_goOn_216 : decode (mB mX4_goOn) 216 = .ok (.goto 22, 3) := by decide +kernel
theorem qX4_goOn_219 : decode (mB mX4_goOn) 219 = .ok (.bipush 10, 2) := by decide +kernel
theorem qX4_goOn_221 : decode (mB mX4_goOn) 221 = .ok (.aload_n 0, 1) := by decide +kernel
theorem qX4_goOn_222 : decode (mB mX4_goOn) 222 = .ok (.getfield 232, 3) := by decide +kernel
theorem qX4_goOn_225 : decode (mB mX4_goOn) 225 = .ok (.imul, 1) := by decide +kernel
theorem qX4_goOn_226 : decode (mB mX4_goOn) 226 = .ok (.aload_n 0, 1) := by decide +kernel
theorem qX4_goOn_227 : decode (mB mX4_goOn) 227 = .ok (.aload_n 0, 1) := by decide +kernel
theorem qX4_goOn_228 : decode (mB mX4_goOn) 228 = .ok (.getfield 217, 3) := by decide +kernel
theorem qX4_goOn_231 : decode (mB mX4_goOn) 231 = .ok (.invokevirtual 220, 3) := by decide +kernel
theorem qX4_goOn_234 : decode (mB mX4_goOn) 234 = .ok (.iadd, 1) := by decide +kernel
theorem qX4_goOn_235 : decode (mB mX4_goOn) 235 = .ok (.bipush 48, 2) := by decide +kernel
theorem qX4_goOn_237 : decode (mB mX4_goOn) 237 = .ok (.isub, 1) := by decide +kernel
theorem qX4_goOn_238 : decode (mB mX4_goOn) 238 = .ok (.putfield 232, 3) := by decide +kernel
theorem qX4_goOn_241 : decode (mB mX4_goOn) 241 = .ok (.aload_n 0, 1) := by decide +kernel
theorem qX4_goOn_242 : decode (mB mX4_goOn) 242 = .ok (.dup, 1) := by decide +kernel
theorem qX4_goOn_243 : decode (mB mX4_goOn) 243 = .ok (.getfield 217, 3) := by decide +kernel
theorem qX4_goOn_246 : decode (mB mX4_goOn) 246 = .ok (.iconst 1, 1) := by decide +kernel
theorem qX4_goOn_247 : decode (mB mX4_goOn) 247 = .ok (.iadd, 1) := by decide +kernel
theorem qX4_goOn_248 : decode (mB mX4_goOn) 248 = .ok (.putfield 217, 3) := by decide +kernel
theorem qX4_goOn_251 : decode (mB mX4_goOn) 251 = .ok (.goto (-63), 3) := by decide +kernel
theorem qX4_goOn_254 : decode (mB mX4_goOn) 254 = .ok (.aload_n 0, 1) := by decide +kernel
theorem qX4_goOn_255 : decode (mB mX4_goOn) 255 = .ok (.iconst 3, 1) := by decide +kernel
theorem qX4_goOn_256 : decode (mB mX4_goOn) 256 = .ok (.putfield 235, 3) := by decide +kernel
theorem qX4_goOn_259 : decode (mB mX4_goOn) 259 = .ok (.aload_n 0, 1) := by decide +kernel
theorem qX4_goOn_260 : decode (mB mX4_goOn) 260 = .ok (.iload_n 1, 1) := by decide +kernel
theorem qX4_goOn_261 : decode (mB mX4_goOn) 261 = .ok (.putfield 232, 3) := by decide +kernel
theorem qX4_goOn_264 : decode (mB mX4_goOn) 264 = .ok (.aload_n 0, 1) := by decide +kernel
theorem qX4_goOn_265 : decode (mB mX4_goOn) 265 = .ok (.dup, 1) := by decide +kernel
theorem qX4_goOn_266 : decode (mB mX4_goOn) 266 = .ok (.getfield 217, 3) := by decide +kernel
theorem qX4_goOn_269 : decode (mB mX4_goOn) 269 = .ok (.iconst 1, 1) := by decide +kernel
theorem qX4_goOn_270 : decode (mB mX4_goOn) 270 = .ok (.iadd, 1) := by decide +kernel
theorem qX4_goOn_271 : decode (mB mX4_goOn) 271 = .ok (.putfield 217, 3) := by decide +kernel
theorem qX4_goOn_274 : decode (mB mX4_goOn) 274 = .ok (.return_, 1) := by decide +kernel
theorem qX4_greatestTemperature_0 : decode (mB mX4_greatestTemperature) 0 = .ok (.aload_n 0, 1) := by decide +kernel
theorem qX4_greatestTemperature_1 : decode (mB mX4_greatestTemperature) 1 = .ok (.aload_n 0, 1) := by decide +kernel
theorem qX4_greatestTemperature_2 : decode (mB mX4_greatestTemperature) 2 = .ok (.iload_n 1, 1) := by decide +kernel
theorem qX4_greatestTemperature_3 : decode (mB mX4_greatestTemperature) 3 = .ok (.invokevirtual 396, 3) := by decide +kernel
theorem qX4_greatestTemperature_6 : decode (mB mX4_greatestTemperature) 6 = .ok (.invokevirtual 371, 3) := by decide +kernel
theorem qX4_greatestTemperature_9 : decode (mB mX4_greatestTemperature) 9 = .ok (.ifCond .ne 5, 3) := by decide +kernel
theorem qX4_greatestTemperature_12 : decode (mB mX4_greatestTemperature) 12 = .ok (.iconst 0, 1) := by decide +kernel
theorem qX4_greatestTemperature_13 : decode (mB mX4_greatestTemperature) 13 = .ok (.ireturn, 1) := by decide +kernel
theorem qX4_greatestTemperature_14 : decode (mB mX4_greatestTemperature) 14 = .ok (.sipush 1500, 3) := by decide +kernel
theorem qX4_greatestTemperature_17 : decode (mB mX4_greatestTemperature) 17 = .ok (.istore_n 2, 1) := by decide +kernel
theorem qX4_greatestTemperature_18 : decode (mB mX4_greatestTemperature) 18 = .ok (.iload_n 2, 1) := by decide +kernel
theorem qX4_greatestTemperature_19 : decode (mB mX4_greatestTemperature) 19 = .ok (.invokestatic 406, 3) := by decide +kernel
theorem qX4_greatestTemperature_22 : decode (mB mX4_greatestTemperature) 22 = .ok (.ifCond .eq 24, 3) := by decide +kernel
theorem qX4_greatestTemperature_25 : decode (mB mX4_greatestTemperature) 25 = .ok (.aload_n 0, 1) := by decide +kernel
theorem qX4_greatestTemperature_26 : decode (mB mX4_greatestTemperature) 26 = .ok (.iload_n 1, 1) := by decide +kernel
theorem qX4_greatestTemperature_27 : decode (mB mX4_greatestTemperature) 27 = .ok (.iload_n 2, 1) := by decide +kernel
theorem qX4_greatestTemperature_28 : decode (mB mX4_greatestTemperature) 28 = .ok (.invokevirtual 155, 3) := by decide +kernel
theorem qX4_greatestTemperature_31 : decode (mB mX4_greatestTemperature) 31 = .ok (.aload_n 0, 1) := by decide +kernel
theorem qX4_greatestTemperature_32 : decode (mB mX4_greatestTemperature) 32 = .ok (.iload_n 1, 1) := by decide +kernel
theorem qX4_greatestTemperature_33 : decode (mB mX4_greatestTemperature) 33 = .ok (.iconst 3, 1) := by decide +kernel
theorem qX4_greatestTemperature_34 : decode (mB mX4_greatestTemperature) 34 = .ok (.invokevirtual 148, 3) := by decide +kernel
theorem qX4_greatestTemperature_37 : decode (mB mX4_greatestTemperature) 37 = .ok (.if_icmp .le 9, 3) := by decide +kernel
theorem qX4_greatestTemperature_40 : decode (mB mX4_greatestTemperature) 40 = .ok (.iinc 2 (-1), 3) := by decide +kernel
theorem qX4_greatestTemperature_43 : decode (mB mX4_greatestTemperature) 43 = .ok (.goto (-25), 3) := by decide +kernel
theorem qX4_greatestTemperature_46 : decode (mB mX4_greatestTemperature) 46 = .ok (.iload_n 2, 1) := by decide +kernel
theorem qX4_greatestTemperature_47 : decode (mB mX4_greatestTemperature) 47 = .ok (.invokestatic 406, 3) := by decide +kernel
theorem qX4_greatestTemperature_50 : decode (mB mX4_greatestTemperature) 50 = .ok (.ifCond .eq 7, 3) := by decide +kernel
theorem qX4_greatestTemperature_53 : decode (mB mX4_greatestTemperature) 53 = .ok (.iload_n 2, 1) := by decide +kernel
theorem qX4_greatestTemperature_54 : decode (mB mX4_greatestTemperature) 54 = .ok (.goto 6, 3) := by decide +kernel
theorem qX4_greatestTemperature_57 : decode (mB mX4_greatestTemperature) 57 = .ok (.sipush (-1000), 3) := by decide +kernel
theorem qX4_greatestTemperature_60 : decode (mB mX4_greatestTemperature) 60 = .ok (.ireturn, 1) := by decide +kernel
theorem qX4_hasBath_0 : decode (mB mX4_hasBath) 0 = .ok (.iload_n 1, 1) := by decide +kernel
theorem qX4_hasBath_1 : decode (mB mX4_hasBath) 1 = .ok (.i2l, 1) := by decide +kernel
theorem qX4_hasBath_2 : decode (mB mX4_hasBath) 2 = .ok (.lconst 0, 1) := by decide +kernel
theorem qX4_hasBath_3 : decode (mB mX4_hasBath) 3 = .ok (.aload_n 0, 1) := by decide +kernel
theorem qX4_hasBath_4 : decode (mB mX4_hasBath) 4 = .ok (.getfield 17, 3) := by decide +kernel
theorem qX4_hasBath_7 : decode (mB mX4_hasBath) 7 = .ok (.iconst 4, 1) := by decide +kernel
theorem qX4_hasBath_8 : decode (mB mX4_hasBath) 8 = .ok (.iaload, 1) := by decide +kernel
theorem qX4_hasBath_9 : decode (mB mX4_hasBath) 9 = .ok (.iconst 1, 1) := by decide +kernel
theorem qX4_hasBath_10 : decode (mB mX4_hasBath) 10 = .ok (.isub, 1) := by decide +kernel
theorem qX4_hasBath_11 : decode (mB mX4_hasBath) 11 = .ok (.i2l, 1) := by decide +kernel
theorem qX4_hasBath_12 : decode (mB mX4_hasBath) 12 = .ok (.invokestatic 276, 3) := by decide +kernel
theorem qX4_hasBath_15 : decode (mB mX4_hasBath) 15 = .ok (.ireturn, 1) := by decide +kernel
theorem qX4_hasDegrees_0 : decode (mB mX4_hasDegrees) 0 = .ok (.iconst 0, 1) := by decide +kernel
theorem qX4_hasDegrees_1 : decode (mB mX4_hasDegrees) 1 = .ok (.istore_n 3, 1) := by decide +kernel
theorem qX4_hasDegrees_2 : decode (mB mX4_hasDegrees) 2 = .ok (.iconst 0, 1) := by decide +kernel
theorem qX4_hasDegrees_3 : decode (mB mX4_hasDegrees) 3 = .ok (.istore 4, 2) := by decide +kernel
theorem qX4_hasDegrees_5 : decode (mB mX4_hasDegrees) 5 = .ok (.iload 4, 2) := by decide +kernel
theorem qX4_hasDegrees_7 : decode (mB mX4_hasDegrees) 7 = .ok (.aload_n 0, 1) := by decide +kernel
theorem qX4_hasDegrees_8 : decode (mB mX4_hasDegrees) 8 = .ok (.iload_n 1, 1) := by decide +kernel
theorem qX4_hasDegrees_9 : decode (mB mX4_hasDegrees) 9 = .ok (.bipush 8, 2) := by decide +kernel
theorem qX4_hasDegrees_11 : decode (mB mX4_hasDegrees) 11 = .ok (.invokevirtual 148, 3) := by decide +kernel
theorem qX4_hasDegrees_14 : decode (mB mX4_hasDegrees) 14 = .ok (.if_icmp .ge 30, 3) := by decide +kernel
theorem qX4_hasDegrees_17 : decode (mB mX4_hasDegrees) 17 = .ok (.iload_n 3, 1) := by decide +kernel
theorem qX4_hasDegrees_18 : decode (mB mX4_hasDegrees) 18 = .ok (.ifCond .ne 14, 3) := by decide +kernel
theorem qX4_hasDegrees_21 : decode (mB mX4_hasDegrees) 21 = .ok (.aload_n 0, 1) := by decide +kernel
theorem qX4_hasDegrees_22 : decode (mB mX4_hasDegrees) 22 = .ok (.iload_n 1, 1) := by decide +kernel
theorem qX4_hasDegrees_23 : decode (mB mX4_hasDegrees) 23 = .ok (.iload 4, 2) := by decide +kernel
theorem qX4_hasDegrees_25 : decode (mB mX4_hasDegrees) 25 = .ok (.invokevirtual 172, 3) := by decide +kernel
theorem qX4_hasDegrees_28 : decode (mB mX4_hasDegrees) 28 = .ok (.iload_n 2, 1) := by decide +kernel
theorem qX4_hasDegrees_29 : decode (mB mX4_hasDegrees) 29 = .ok (.if_icmp .ne 7, 3) := by decide +kernel
theorem qX4_hasDegrees_32 : decode (mB mX4_hasDegrees) 32 = .ok (.iconst 1, 1) := by decide +kernel
theorem qX4_hasDegrees_33 : decode (mB mX4_hasDegrees) 33 = .ok (.goto 4, 3) := by decide +kernel
theorem qX4_hasDegrees_36 : decode (mB mX4_hasDegrees) 36 = .ok (.iconst 0, 1) := by decide +kernel
theorem qX4_hasDegrees_37 : decode (mB mX4_hasDegrees) 37 = .ok (.istore_n 3, 1) := by decide +kernel
theorem qX4_hasDegrees_38 : decode (mB mX4_hasDegrees) 38 = .ok (.iinc 4 1, 3) := by decide +kernel
theorem qX4_hasDegrees_41 : decode (mB mX4_hasDegrees) 41 = .ok (.goto (-36), 3) := by decide +kernel
theorem qX4_hasDegrees_44 : decode (mB mX4_hasDegrees) 44 = .ok (.iload_n 3, 1) := by decide +kernel
theorem qX4_hasDegrees_45 : decode (mB mX4_hasDegrees) 45 = .ok (.ireturn, 1) := by decide +kernel
theorem qX4_hasHeight_0 : decode (mB mX4_hasHeight) 0 = .ok (.iconst 0, 1) := by decide +kernel
theorem qX4_hasHeight_1 : decode (mB mX4_hasHeight) 1 = .ok (.istore_n 3, 1) := by decide +kernel
theorem qX4_hasHeight_2 : decode (mB mX4_hasHeight) 2 = .ok (.iconst 0, 1) := by decide +kernel
theorem qX4_hasHeight_3 : decode (mB mX4_hasHeight) 3 = .ok (.istore 4, 2) := by decide +kernel
theorem qX4_hasHeight_5 : decode (mB mX4_hasHeight) 5 = .ok (.iload 4, 2) := by decide +kernel
theorem qX4_hasHeight_7 : decode (mB mX4_hasHeight) 7 = .ok (.aload_n 0, 1) := by decide +kernel
theorem qX4_hasHeight_8 : decode (mB mX4_hasHeight) 8 = .ok (.iload_n 1, 1) := by decide +kernel
theorem qX4_hasHeight_9 : decode (mB mX4_hasHeight) 9 = .ok (.bipush 8, 2) := by decide +kernel
theorem qX4_hasHeight_11 : decode (mB mX4_hasHeight) 11 = .ok (.invokevirtual 148, 3) := by decide +kernel
theorem qX4_hasHeight_14 : decode (mB mX4_hasHeight) 14 = .ok (.if_icmp .ge 30, 3) := by decide +kernel
theorem qX4_hasHeight_17 : decode (mB mX4_hasHeight) 17 = .ok (.iload_n 3, 1) := by decide +kernel
theorem qX4_hasHeight_18 : decode (mB mX4_hasHeight) 18 = .ok (.ifCond .ne 14, 3) := by decide +kernel
theorem qX4_hasHeight_21 : decode (mB mX4_hasHeight) 21 = .ok (.aload_n 0, 1) := by decide +kernel
theorem qX4_hasHeight_22 : decode (mB mX4_hasHeight) 22 = .ok (.iload_n 1, 1) := by decide +kernel
theorem qX4_hasHeight_23 : decode (mB mX4_hasHeight) 23 = .ok (.iload 4, 2) := by decide +kernel
theorem qX4_hasHeight_25 : decode (mB mX4_hasHeight) 25 = .ok (.invokevirtual 175, 3) := by decide +kernel
theorem qX4_hasHeight_28 : decode (mB mX4_hasHeight) 28 = .ok (.iload_n 2, 1) := by decide +kernel
theorem qX4_hasHeight_29 : decode (mB mX4_hasHeight) 29 = .ok (.if_icmp .ne 7, 3) := by decide +kernel
theorem qX4_hasHeight_32 : decode (mB mX4_hasHeight) 32 = .ok (.iconst 1, 1) := by decide +kernel
theorem qX4_hasHeight_33 : decode (mB mX4_hasHeight) 33 = .ok (.goto 4, 3) := by decide +kernel
theorem qX4_hasHeight_36 : decode (mB mX4_hasHeight) 36 = .ok (.iconst 0, 1) := by decide +kernel
theorem qX4_hasHeight_37 : decode (mB mX4_hasHeight) 37 = .ok (.istore_n 3, 1) := by decide +kernel
theorem qX4_hasHeight_38 : decode (mB mX4_hasHeight) 38 = .ok (.iinc 4 1, 3) := by decide +kernel
theorem qX4_hasHeight_41 : decode (mB mX4_hasHeight) 41 = .ok (.goto (-36), 3) := by decide +kernel
theorem qX4_hasHeight_44 : decode (mB mX4_hasHeight) 44 = .ok (.iload_n 3, 1) := by decide +kernel
theorem qX4_hasHeight_45 : decode (mB mX4_hasHeight) 45 = .ok (.ireturn, 1) := by decide +kernel
theorem qX4_hasPoint_0 : decode (mB mX4_hasPoint) 0 = .ok (.aload_n 0, 1) := by decide +kernel
theorem qX4_hasPoint_1 : decode (mB mX4_hasPoint) 1 = .ok (.iload_n 1, 1) := by decide +kernel
theorem qX4_hasPoint_2 : decode (mB mX4_hasPoint) 2 = .ok (.invokevirtual 396, 3) := by decide +kernel
theorem qX4_hasPoint_5 : decode (mB mX4_hasPoint) 5 = .ok (.ifCond .eq 26, 3) := by decide +kernel
theorem qX4_hasPoint_8 : decode (mB mX4_hasPoint) 8 = .ok (.iload_n 2, 1) := by decide +kernel
theorem qX4_hasPoint_9 : decode (mB mX4_hasPoint) 9 = .ok (.i2l, 1) := by decide +kernel
theorem qX4_hasPoint_10 : decode (mB mX4_hasPoint) 10 = .ok (.lconst 0, 1) := by decide +kernel
theorem qX4_hasPoint_11 : decode (mB mX4_hasPoint) 11 = .ok (.aload_n 0, 1) := by decide +kernel
theorem qX4_hasPoint_12 : decode (mB mX4_hasPoint) 12 = .ok (.iload_n 1, 1) := by decide +kernel
theorem qX4_hasPoint_13 : decode (mB mX4_hasPoint) 13 = .ok (.bipush 8, 2) := by decide +kernel
theorem qX4_hasPoint_15 : decode (mB mX4_hasPoint) 15 = .ok (.invokevirtual 148, 3) := by decide +kernel
theorem qX4_hasPoint_18 : decode (mB mX4_hasPoint) 18 = .ok (.iconst 1, 1) := by decide +kernel
theorem qX4_hasPoint_19 : decode (mB mX4_hasPoint) 19 = .ok (.isub, 1) := by decide +kernel
theorem qX4_hasPoint_20 : decode (mB mX4_hasPoint) 20 = .ok (.i2l, 1) := by decide +kernel
theorem qX4_hasPoint_21 : decode (mB mX4_hasPoint) 21 = .ok (.invokestatic 276, 3) := by decide +kernel
theorem qX4_hasPoint_24 : decode (mB mX4_hasPoint) 24 = .ok (.ifCond .eq 7, 3) := by decide +kernel
theorem qX4_hasPoint_27 : decode (mB mX4_hasPoint) 27 = .ok (.iconst 1, 1) := by decide +kernel
theorem qX4_hasPoint_28 : decode (mB mX4_hasPoint) 28 = .ok (.goto 4, 3) := by decide +kernel
theorem qX4_hasPoint_31 : decode (mB mX4_hasPoint) 31 = .ok (.iconst 0, 1) := by decide +kernel
theorem qX4_hasPoint_32 : decode (mB mX4_hasPoint) 32 = .ok (.ireturn, 1) := by decide +kernel
theorem qX4_hasScale_0 : decode (mB mX4_hasScale) 0 = .ok (.aload_n 0, 1) := by decide +kernel
theorem qX4_hasScale_1 : decode (mB mX4_hasScale) 1 = .ok (.aload_n 0, 1) := by decide +kernel
theorem qX4_hasScale_2 : decode (mB mX4_hasScale) 2 = .ok (.iload_n 1, 1) := by decide +kernel
theorem qX4_hasScale_3 : decode (mB mX4_hasScale) 3 = .ok (.invokevirtual 396, 3) := by decide +kernel
theorem qX4_hasScale_6 : decode (mB mX4_hasScale) 6 = .ok (.invokevirtual 371, 3) := by decide +kernel
theorem qX4_hasScale_9 : decode (mB mX4_hasScale) 9 = .ok (.ifCond .eq 15, 3) := by decide +kernel
theorem qX4_hasScale_12 : decode (mB mX4_hasScale) 12 = .ok (.aload_n 0, 1) := by decide +kernel
theorem qX4_hasScale_13 : decode (mB mX4_hasScale) 13 = .ok (.iload_n 1, 1) := by decide +kernel
theorem qX4_hasScale_14 : decode (mB mX4_hasScale) 14 = .ok (.invokevirtual 416, 3) := by decide +kernel
theorem qX4_hasScale_17 : decode (mB mX4_hasScale) 17 = .ok (.ifCond .eq 7, 3) := by decide +kernel
theorem qX4_hasScale_20 : decode (mB mX4_hasScale) 20 = .ok (.iconst 1, 1) := by decide +kernel
theorem qX4_hasScale_21 : decode (mB mX4_hasScale) 21 = .ok (.goto 4, 3) := by decide +kernel
theorem qX4_hasScale_24 : decode (mB mX4_hasScale) 24 = .ok (.iconst 0, 1) := by decide +kernel
theorem qX4_hasScale_25 : decode (mB mX4_hasScale) 25 = .ok (.ireturn, 1) := by decide +kernel
theorem qX4_hasSpirit_0 : decode (mB mX4_hasSpirit) 0 = .ok (.iload_n 1, 1) := by decide +kernel
theorem qX4_hasSpirit_1 : decode (mB mX4_hasSpirit) 1 = .ok (.i2l, 1) := by decide +kernel
theorem qX4_hasSpirit_2 : decode (mB mX4_hasSpirit) 2 = .ok (.lconst 0, 1) := by decide +kernel
theorem qX4_hasSpirit_3 : decode (mB mX4_hasSpirit) 3 = .ok (.aload_n 0, 1) := by decide +kernel
theorem qX4_hasSpirit_4 : decode (mB mX4_hasSpirit) 4 = .ok (.getfield 17, 3) := by decide +kernel
theorem qX4_hasSpirit_7 : decode (mB mX4_hasSpirit) 7 = .ok (.iconst 3, 1) := by decide +kernel
theorem qX4_hasSpirit_8 : decode (mB mX4_hasSpirit) 8 = .ok (.iaload, 1) := by decide +kernel
theorem qX4_hasSpirit_9 : decode (mB mX4_hasSpirit) 9 = .ok (.iconst 1, 1) := by decide +kernel
theorem qX4_hasSpirit_10 : decode (mB mX4_hasSpirit) 10 = .ok (.isub, 1) := by decide +kernel
theorem qX4_hasSpirit_11 : decode (mB mX4_hasSpirit) 11 = .ok (.i2l, 1) := by decide +kernel
theorem qX4_hasSpirit_12 : decode (mB mX4_hasSpirit) 12 = .ok (.invokestatic 276, 3) := by decide +kernel
theorem qX4_hasSpirit_15 : decode (mB mX4_hasSpirit) 15 = .ok (.ireturn, 1) := by decide +kernel
theorem qX4_hasTube_0 : decode (mB mX4_hasTube) 0 = .ok (.iload_n 1, 1) := by decide +kernel
theorem qX4_hasTube_1 : decode (mB mX4_hasTube) 1 = .ok (.i2l, 1) := by decide +kernel
theorem qX4_hasTube_2 : decode (mB mX4_hasTube) 2 = .ok (.lconst 0, 1) := by decide +kernel
theorem qX4_hasTube_3 : decode (mB mX4_hasTube) 3 = .ok (.aload_n 0, 1) := by decide +kernel
theorem qX4_hasTube_4 : decode (mB mX4_hasTube) 4 = .ok (.getfield 17, 3) := by decide +kernel
theorem qX4_hasTube_7 : decode (mB mX4_hasTube) 7 = .ok (.iconst 5, 1) := by decide +kernel
theorem qX4_hasTube_8 : decode (mB mX4_hasTube) 8 = .ok (.iaload, 1) := by decide +kernel
theorem qX4_hasTube_9 : decode (mB mX4_hasTube) 9 = .ok (.iconst 1, 1) := by decide +kernel
theorem qX4_hasTube_10 : decode (mB mX4_hasTube) 10 = .ok (.isub, 1) := by decide +kernel
theorem qX4_hasTube_11 : decode (mB mX4_hasTube) 11 = .ok (.i2l, 1) := by decide +kernel
theorem qX4_hasTube_12 : decode (mB mX4_hasTube) 12 = .ok (.invokestatic 276, 3) := by decide +kernel
theorem qX4_hasTube_15 : decode (mB mX4_hasTube) 15 = .ok (.ireturn, 1) := by decide +kernel
theorem qX4_height_0 : decode (mB mX4_height) 0 = .ok (.aload_n 0, 1) := by decide +kernel
theorem qX4_height_1 : decode (mB mX4_height) 1 = .ok (.aload_n 0, 1) := by decide +kernel
theorem qX4_height_2 : decode (mB mX4_height) 2 = .ok (.iload_n 1, 1) := by decide +kernel
theorem qX4_height_3 : decode (mB mX4_height) 3 = .ok (.invokevirtual 396, 3) := by decide +kernel
theorem qX4_height_6 : decode (mB mX4_height) 6 = .ok (.invokevirtual 371, 3) := by decide +kernel
theorem qX4_height_9 : decode (mB mX4_height) 9 = .ok (.ifCond .eq 11, 3) := by decide +kernel
theorem qX4_height_12 : decode (mB mX4_height) 12 = .ok (.aload_n 0, 1) := by decide +kernel
theorem qX4_height_13 : decode (mB mX4_height) 13 = .ok (.iload_n 1, 1) := by decide +kernel
theorem qX4_height_14 : decode (mB mX4_height) 14 = .ok (.invokevirtual 186, 3) := by decide +kernel
theorem qX4_height_17 : decode (mB mX4_height) 17 = .ok (.goto 4, 3) := by decide +kernel
theorem qX4_height_20 : decode (mB mX4_height) 20 = .ok (.iconst 0, 1) := by decide +kernel
theorem qX4_height_21 : decode (mB mX4_height) 21 = .ok (.ireturn, 1) := by decide +kernel
theorem qX4_heightAfter_0 : decode (mB mX4_heightAfter) 0 = .ok (.aload_n 0, 1) := by decide +kernel
theorem qX4_heightAfter_1 : decode (mB mX4_heightAfter) 1 = .ok (.aload_n 0, 1) := by decide +kernel
theorem qX4_heightAfter_2 : decode (mB mX4_heightAfter) 2 = .ok (.iload_n 1, 1) := by decide +kernel
theorem qX4_heightAfter_3 : decode (mB mX4_heightAfter) 3 = .ok (.invokevirtual 396, 3) := by decide +kernel
theorem qX4_heightAfter_6 : decode (mB mX4_heightAfter) 6 = .ok (.iload_n 2, 1) := by decide +kernel
theorem qX4_heightAfter_7 : decode (mB mX4_heightAfter) 7 = .ok (.invokestatic 442, 3) := by decide +kernel
theorem qX4_heightAfter_10 : decode (mB mX4_heightAfter) 10 = .ok (.invokevirtual 409, 3) := by decide +kernel
theorem qX4_heightAfter_13 : decode (mB mX4_heightAfter) 13 = .ok (.ifCond .ne 5, 3) := by decide +kernel
theorem qX4_heightAfter_16 : decode (mB mX4_heightAfter) 16 = .ok (.iconst 0, 1) := by decide +kernel
theorem qX4_heightAfter_17 : decode (mB mX4_heightAfter) 17 = .ok (.ireturn, 1) := by decide +kernel
theorem qX4_heightAfter_18 : decode (mB mX4_heightAfter) 18 = .ok (.aload_n 0, 1) := by decide +kernel
theorem qX4_heightAfter_19 : decode (mB mX4_heightAfter) 19 = .ok (.invokevirtual 445, 3) := by decide +kernel
theorem qX4_heightAfter_22 : decode (mB mX4_heightAfter) 22 = .ok (.aload_n 0, 1) := by decide +kernel
theorem qX4_heightAfter_23 : decode (mB mX4_heightAfter) 23 = .ok (.iload_n 2, 1) := by decide +kernel
theorem qX4_heightAfter_24 : decode (mB mX4_heightAfter) 24 = .ok (.invokevirtual 140, 3) := by decide +kernel
theorem qX4_heightAfter_27 : decode (mB mX4_heightAfter) 27 = .ok (.aload_n 0, 1) := by decide +kernel
theorem qX4_heightAfter_28 : decode (mB mX4_heightAfter) 28 = .ok (.aload_n 0, 1) := by decide +kernel
theorem qX4_heightAfter_29 : decode (mB mX4_heightAfter) 29 = .ok (.iload_n 1, 1) := by decide +kernel
theorem qX4_heightAfter_30 : decode (mB mX4_heightAfter) 30 = .ok (.invokevirtual 186, 3) := by decide +kernel
theorem qX4_heightAfter_33 : decode (mB mX4_heightAfter) 33 = .ok (.invokevirtual 448, 3) := by decide +kernel
theorem qX4_heightAfter_36 : decode (mB mX4_heightAfter) 36 = .ok (.ireturn, 1) := by decide +kernel
theorem qX4_heightNow_0 : decode (mB mX4_heightNow) 0 = .ok (.aload_n 0, 1) := by decide +kernel
theorem qX4_heightNow_1 : decode (mB mX4_heightNow) 1 = .ok (.iload_n 1, 1) := by decide +kernel
theorem qX4_heightNow_2 : decode (mB mX4_heightNow) 2 = .ok (.iconst 3, 1) := by decide +kernel
theorem qX4_heightNow_3 : decode (mB mX4_heightNow) 3 = .ok (.invokevirtual 148, 3) := by decide +kernel
theorem qX4_heightNow_6 : decode (mB mX4_heightNow) 6 = .ok (.aload_n 0, 1) := by decide +kernel
theorem qX4_heightNow_7 : decode (mB mX4_heightNow) 7 = .ok (.iload_n 1, 1) := by decide +kernel
theorem qX4_heightNow_8 : decode (mB mX4_heightNow) 8 = .ok (.invokevirtual 158, 3) := by decide +kernel
theorem qX4_heightNow_11 : decode (mB mX4_heightNow) 11 = .ok (.invokestatic 161, 3) := by decide +kernel
theorem qX4_heightNow_14 : decode (mB mX4_heightNow) 14 = .ok (.ireturn, 1) := by decide +kernel
theorem qX4_heightOf_0 : decode (mB mX4_heightOf) 0 = .ok (.aload_n 0, 1) := by decide +kernel
theorem qX4_heightOf_1 : decode (mB mX4_heightOf) 1 = .ok (.iload_n 1, 1) := by decide +kernel
theorem qX4_heightOf_2 : decode (mB mX4_heightOf) 2 = .ok (.bipush 9, 2) := by decide +kernel
theorem qX4_heightOf_4 : decode (mB mX4_heightOf) 4 = .ok (.iconst 2, 1) := by decide +kernel
theorem qX4_heightOf_5 : decode (mB mX4_heightOf) 5 = .ok (.iload_n 2, 1) := by decide +kernel
theorem qX4_heightOf_6 : decode (mB mX4_heightOf) 6 = .ok (.imul, 1) := by decide +kernel
theorem qX4_heightOf_7 : decode (mB mX4_heightOf) 7 = .ok (.iadd, 1) := by decide +kernel
theorem qX4_heightOf_8 : decode (mB mX4_heightOf) 8 = .ok (.iconst 1, 1) := by decide +kernel
theorem qX4_heightOf_9 : decode (mB mX4_heightOf) 9 = .ok (.iadd, 1) := by decide +kernel
theorem qX4_heightOf_10 : decode (mB mX4_heightOf) 10 = .ok (.invokevirtual 148, 3) := by decide +kernel
theorem qX4_heightOf_13 : decode (mB mX4_heightOf) 13 = .ok (.ireturn, 1) := by decide +kernel
theorem qX4_in_0 : decode (mB mX4_in) 0 = .ok (.lload_n 0, 1) := by decide +kernel
theorem qX4_in_1 : decode (mB mX4_in) 1 = .ok (.lload_n 2, 1) := by decide +kernel
theorem qX4_in_2 : decode (mB mX4_in) 2 = .ok (.lcmp, 1) := by decide +kernel
theorem qX4_in_3 : decode (mB mX4_in) 3 = .ok (.ifCond .lt 14, 3) := by decide +kernel
theorem qX4_in_6 : decode (mB mX4_in) 6 = .ok (.lload_n 0, 1) := by decide +kernel
theorem qX4_in_7 : decode (mB mX4_in) 7 = .ok (.lload 4, 2) := by decide +kernel
theorem qX4_in_9 : decode (mB mX4_in) 9 = .ok (.lcmp, 1) := by decide +kernel
theorem qX4_in_10 : decode (mB mX4_in) 10 = .ok (.ifCond .gt 7, 3) := by decide +kernel
theorem qX4_in_13 : decode (mB mX4_in) 13 = .ok (.iconst 1, 1) := by decide +kernel
theorem qX4_in_14 : decode (mB mX4_in) 14 = .ok (.goto 4, 3) := by decide +kernel
theorem qX4_in_17 : decode (mB mX4_in) 17 = .ok (.iconst 0, 1) := by decide +kernel
theorem qX4_in_18 : decode (mB mX4_in) 18 = .ok (.ireturn, 1) := by decide +kernel
theorem qX4_init_0 : decode (mB mX4_init) 0 = .ok (.aload_n 0, 1) := by decide +kernel
theorem qX4_init_1 : decode (mB mX4_init) 1 = .ok (.invokespecial 11, 3) := by decide +kernel
theorem qX4_init_4 : decode (mB mX4_init) 4 = .ok (.aload_n 0, 1) := by decide +kernel
theorem qX4_init_5 : decode (mB mX4_init) 5 = .ok (.sipush 210, 3) := by decide +kernel
theorem qX4_init_8 : decode (mB mX4_init) 8 = .ok (.newarray .int, 2) := by decide +kernel
theorem qX4_init_10 : decode (mB mX4_init) 10 = .ok (.putfield 17, 3) := by decide +kernel
theorem qX4_init_13 : decode (mB mX4_init) 13 = .ok (.aload_n 0, 1) := by decide +kernel
theorem qX4_init_14 : decode (mB mX4_init) 14 = .ok (.sipush 210, 3) := by decide +kernel
theorem qX4_init_17 : decode (mB mX4_init) 17 = .ok (.newarray .int, 2) := by decide +kernel
theorem qX4_init_19 : decode (mB mX4_init) 19 = .ok (.putfield 21, 3) := by decide +kernel
theorem qX4_init_22 : decode (mB mX4_init) 22 = .ok (.aload_n 0, 1) := by decide +kernel
theorem qX4_init_23 : decode (mB mX4_init) 23 = .ok (.aload_n 0, 1) := by decide +kernel
theorem qX4_init_24 : decode (mB mX4_init) 24 = .ok (.getfield 17, 3) := by decide +kernel
theorem qX4_init_27 : decode (mB mX4_init) 27 = .ok (.putfield 24, 3) := by decide +kernel
theorem qX4_init_30 : decode (mB mX4_init) 30 = .ok (.aload_n 0, 1) := by decide +kernel
theorem qX4_init_31 : decode (mB mX4_init) 31 = .ok (.sipush 600, 3) := by decide +kernel
theorem qX4_init_34 : decode (mB mX4_init) 34 = .ok (.newarray .byte, 2) := by decide +kernel
theorem qX4_init_36 : decode (mB mX4_init) 36 = .ok (.putfield 27, 3) := by decide +kernel
theorem qX4_init_39 : decode (mB mX4_init) 39 = .ok (.aload_n 0, 1) := by decide +kernel
theorem qX4_init_40 : decode (mB mX4_init) 40 = .ok (.ldc 31, 2) := by decide +kernel
theorem qX4_init_42 : decode (mB mX4_init) 42 = .ok (.invokestatic 33, 3) := by decide +kernel
theorem qX4_init_45 : decode (mB mX4_init) 45 = .ok (.putfield 37, 3) := by decide +kernel
theorem qX4_init_48 : decode (mB mX4_init) 48 = .ok (.aload_n 0, 1) := by decide +kernel
theorem qX4_init_49 : decode (mB mX4_init) 49 = .ok (.ldc 41, 2) := by decide +kernel
theorem qX4_init_51 : decode (mB mX4_init) 51 = .ok (.invokestatic 33, 3) := by decide +kernel
theorem qX4_init_54 : decode (mB mX4_init) 54 = .ok (.putfield 43, 3) := by decide +kernel
theorem qX4_init_57 : decode (mB mX4_init) 57 = .ok (.aload_n 0, 1) := by decide +kernel
theorem qX4_init_58 : decode (mB mX4_init) 58 = .ok (.ldc 46, 2) := by decide +kernel
theorem qX4_init_60 : decode (mB mX4_init) 60 = .ok (.invokestatic 33, 3) := by decide +kernel
theorem qX4_init_63 : decode (mB mX4_init) 63 = .ok (.putfield 48, 3) := by decide +kernel
theorem qX4_init_66 : decode (mB mX4_init) 66 = .ok (.aload_n 0, 1) := by decide +kernel
theorem qX4_init_67 : decode (mB mX4_init) 67 = .ok (.ldc 51, 2) := by decide +kernel
theorem qX4_init_69 : decode (mB mX4_init) 69 = .ok (.invokestatic 33, 3) := by decide +kernel
theorem qX4_init_72 : decode (mB mX4_init) 72 = .ok (.putfield 53, 3) := by decide +kernel
theorem qX4_init_75 : decode (mB mX4_init) 75 = .ok (.aload_n 0, 1) := by decide +kernel
theorem qX4_init_76 : decode (mB mX4_init) 76 = .ok (.ldc 56, 2) := by decide +kernel
theorem qX4_init_78 : decode (mB mX4_init) 78 = .ok (.invokestatic 33, 3) := by decide +kernel
theorem qX4_init_81 : decode (mB mX4_init) 81 = .ok (.putfield 58, 3) := by decide +kernel
theorem qX4_init_84 : decode (mB mX4_init) 84 = .ok (.aload_n 0, 1) := by decide +kernel
theorem qX4_init_85 : decode (mB mX4_init) 85 = .ok (.ldc 61, 2) := by decide +kernel
theorem qX4_init_87 : decode (mB mX4_init) 87 = .ok (.invokestatic 33, 3) := by decide +kernel
theorem qX4_init_90 : decode (mB mX4_init) 90 = .ok (.putfield 63, 3) := by decide +kernel
theorem qX4_init_93 : decode (mB mX4_init) 93 = .ok (.aload_n 0, 1) := by decide +kernel
theorem qX4_init_94 : decode (mB mX4_init) 94 = .ok (.ldc 66, 2) := by decide +kernel
theorem qX4_init_96 : decode (mB mX4_init) 96 = .ok (.invokestatic 33, 3) := by decide +kernel
theorem qX4_init_99 : decode (mB mX4_init) 99 = .ok (.putfield 68, 3) := by decide +kernel
theorem qX4_init_102 : decode (mB mX4_init) 102 = .ok (.aload_n 0, 1) := by decide +kernel
theorem qX4_init_103 : decode (mB mX4_init) 103 = .ok (.ldc 71, 2) := by decide +kernel
theorem qX4_init_105 : decode (mB mX4_init) 105 = .ok (.invokestatic 33, 3) := by decide +kernel
theorem qX4_init_108 : decode (mB mX4_init) 108 = .ok (.putfield 73, 3) := by decide +kernel
theorem qX4_init_111 : decode (mB mX4_init) 111 = .ok (.aload_n 0, 1) := by decide +kernel
theorem qX4_init_112 : decode (mB mX4_init) 112 = .ok (.ldc 76, 2) := by decide +kernel
theorem qX4_init_114 : decode (mB mX4_init) 114 = .ok (.invokestatic 33, 3) := by decide +kernel
theorem qX4_init_117 : decode (mB mX4_init) 117 = .ok (.putfield 78, 3) := by decide +kernel
theorem qX4_init_120 : decode (mB mX4_init) 120 = .ok (.aload_n 0, 1) := by decide +kernel
theorem qX4_init_121 : decode (mB mX4_init) 121 = .ok (.ldc 81, 2) := by decide +kernel
theorem qX4_init_123 : decode (mB mX4_init) 123 = .ok (.invokestatic 33, 3) := by decide +kernel
theorem qX4_init_126 : decode (mB mX4_init) 126 = .ok (.putfield 83, 3) := by decide +kernel
theorem qX4_init_129 : decode (mB mX4_init) 129 = .ok (.aload_n 0, 1) := by decide +kernel
theorem qX4_init_130 : decode (mB mX4_init) 130 = .ok (.ldc 86, 2) := by decide +kernel
theorem qX4_init_132 : decode (mB mX4_init) 132 = .ok (.invokestatic 33, 3) := by decide +kernel
theorem qX4_init_135 : decode (mB mX4_init) 135 = .ok (.putfield 88, 3) := by decide +kernel
theorem qX4_init_138 : decode (mB mX4_init) 138 = .ok (.aload_n 0, 1) := by decide +kernel
theorem qX4_init_139 : decode (mB mX4_init) 139 = .ok (.ldc 91, 2) := by decide +kernel
theorem qX4_init_141 : decode (mB mX4_init) 141 = .ok (.invokestatic 33, 3) := by decide +kernel
theorem qX4_init_144 : decode (mB mX4_init) 144 = .ok (.putfield 93, 3) := by decide +kernel
theorem qX4_init_147 : decode (mB mX4_init) 147 = .ok (.aload_n 0, 1) := by decide +kernel
theorem qX4_init_148 : decode (mB mX4_init) 148 = .ok (.ldc 96, 2) := by decide +kernel
theorem qX4_init_150 : decode (mB mX4_init) 150 = .ok (.invokestatic 33, 3) := by decide +kernel
theorem qX4_init_153 : decode (mB mX4_init) 153 = .ok (.putfield 98, 3) := by decide +kernel
theorem qX4_init_156 : decode (mB mX4_init) 156 = .ok (.aload_n 0, 1) := by decide +kernel
theorem qX4_init_157 : decode (mB mX4_init) 157 = .ok (.ldc 101, 2) := by decide +kernel
theorem qX4_init_159 : decode (mB mX4_init) 159 = .ok (.invokestatic 33, 3) := by decide +kernel
theorem qX4_init_162 : decode (mB mX4_init) 162 = .ok (.putfield 103, 3) := by decide +kernel
theorem qX4_init_165 : decode (mB mX4_init) 165 = .ok (.aload_n 0, 1) := by decide +kernel
theorem qX4_init_166 : decode (mB mX4_init) 166 = .ok (.sipush 1260, 3) := by decide +kernel
theorem qX4_init_169 : decode (mB mX4_init) 169 = .ok (.newarray .int, 2) := by decide +kernel
theorem qX4_init_171 : decode (mB mX4_init) 171 = .ok (.putfield 106, 3) := by decide +kernel
theorem qX4_init_174 : decode (mB mX4_init) 174 = .ok (.aload_n 0, 1) := by decide +kernel
theorem qX4_init_175 : decode (mB mX4_init) 175 = .ok (.sipush 420, 3) := by decide +kernel
theorem qX4_init_178 : decode (mB mX4_init) 178 = .ok (.newarray .int, 2) := by decide +kernel
theorem qX4_init_180 : decode (mB mX4_init) 180 = .ok (.putfield 109, 3) := by decide +kernel
theorem qX4_init_183 : decode (mB mX4_init) 183 = .ok (.aload_n 0, 1) := by decide +kernel
theorem qX4_init_184 : decode (mB mX4_init) 184 = .ok (.iconst (-1), 1) := by decide +kernel
theorem qX4_init_185 : decode (mB mX4_init) 185 = .ok (.putfield 112, 3) := by decide +kernel
theorem qX4_init_188 : decode (mB mX4_init) 188 = .ok (.aload_n 0, 1) := by decide +kernel
theorem qX4_init_189 : decode (mB mX4_init) 189 = .ok (.bipush 100, 2) := by decide +kernel
theorem qX4_init_191 : decode (mB mX4_init) 191 = .ok (.newarray .int, 2) := by decide +kernel
theorem qX4_init_193 : decode (mB mX4_init) 193 = .ok (.putfield 115, 3) := by decide +kernel
theorem qX4_init_196 : decode (mB mX4_init) 196 = .ok (.aload_n 0, 1) := by decide +kernel
theorem qX4_init_197 : decode (mB mX4_init) 197 = .ok (.getfield 24, 3) := by decide +kernel
theorem qX4_init_200 : decode (mB mX4_init) 200 = .ok (.bipush 6, 2) := by decide +kernel
theorem qX4_init_202 : decode (mB mX4_init) 202 = .ok (.iconst (-1), 1) := by decide +kernel
theorem qX4_init_203 : decode (mB mX4_init) 203 = .ok (.iastore, 1) := by decide +kernel
theorem qX4_init_204 : decode (mB mX4_init) 204 = .ok (.aload_n 0, 1) := by decide +kernel
theorem qX4_init_205 : decode (mB mX4_init) 205 = .ok (.getfield 24, 3) := by decide +kernel
theorem qX4_init_208 : decode (mB mX4_init) 208 = .ok (.iconst 0, 1) := by decide +kernel
theorem qX4_init_209 : decode (mB mX4_init) 209 = .ok (.bipush 20, 2) := by decide +kernel
theorem qX4_init_211 : decode (mB mX4_init) 211 = .ok (.iastore, 1) := by decide +kernel
theorem qX4_init_212 : decode (mB mX4_init) 212 = .ok (.aload_n 0, 1) := by decide +kernel
theorem qX4_init_213 : decode (mB mX4_init) 213 = .ok (.getfield 24, 3) := by decide +kernel
theorem qX4_init_216 : decode (mB mX4_init) 216 = .ok (.iconst 1, 1) := by decide +kernel
theorem qX4_init_217 : decode (mB mX4_init) 217 = .ok (.iconst 4, 1) := by decide +kernel
theorem qX4_init_218 : decode (mB mX4_init) 218 = .ok (.iastore, 1) := by decide +kernel
theorem qX4_init_219 : decode (mB mX4_init) 219 = .ok (.aload_n 0, 1) := by decide +kernel
theorem qX4_init_220 : decode (mB mX4_init) 220 = .ok (.ldc 118, 2) := by decide +kernel
theorem qX4_init_222 : decode (mB mX4_init) 222 = .ok (.invokestatic 33, 3) := by decide +kernel
theorem qX4_init_225 : decode (mB mX4_init) 225 = .ok (.l2i, 1) := by decide +kernel
theorem qX4_init_226 : decode (mB mX4_init) 226 = .ok (.iconst 4, 1) := by decide +kernel
theorem qX4_init_227 : decode (mB mX4_init) 227 = .ok (.bipush 10, 2) := by decide +kernel
theorem qX4_init_229 : decode (mB mX4_init) 229 = .ok (.invokevirtual 120, 3) := by decide +kernel
theorem qX4_init_232 : decode (mB mX4_init) 232 = .ok (.aload_n 0, 1) := by decide +kernel
theorem qX4_init_233 : decode (mB mX4_init) 233 = .ok (.ldc 124, 2) := by decide +kernel
theorem qX4_init_235 : decode (mB mX4_init) 235 = .ok (.invokestatic 33, 3) := by decide +kernel
theorem qX4_init_238 : decode (mB mX4_init) 238 = .ok (.l2i, 1) := by decide +kernel
theorem qX4_init_239 : decode (mB mX4_init) 239 = .ok (.iconst 3, 1) := by decide +kernel
theorem qX4_init_240 : decode (mB mX4_init) 240 = .ok (.bipush 6, 2) := by decide +kernel
theorem qX4_init_242 : decode (mB mX4_init) 242 = .ok (.invokevirtual 120, 3) := by decide +kernel
theorem qX4_init_245 : decode (mB mX4_init) 245 = .ok (.aload_n 0, 1) := by decide +kernel
theorem qX4_init_246 : decode (mB mX4_init) 246 = .ok (.ldc 126, 2) := by decide +kernel
theorem qX4_init_248 : decode (mB mX4_init) 248 = .ok (.invokestatic 33, 3) := by decide +kernel
theorem qX4_init_251 : decode (mB mX4_init) 251 = .ok (.l2i, 1) := by decide +kernel
theorem qX4_init_252 : decode (mB mX4_init) 252 = .ok (.iconst 3, 1) := by decide +kernel
theorem qX4_init_253 : decode (mB mX4_init) 253 = .ok (.iconst 0, 1) := by decide +kernel
theorem qX4_init_254 : decode (mB mX4_init) 254 = .ok (.invokevirtual 128, 3) := by decide +kernel
theorem qX4_init_257 : decode (mB mX4_init) 257 = .ok (.aload_n 0, 1) := by decide +kernel
theorem qX4_init_258 : decode (mB mX4_init) 258 = .ok (.ldc 131, 2) := by decide +kernel
theorem qX4_init_260 : decode (mB mX4_init) 260 = .ok (.invokestatic 33, 3) := by decide +kernel
theorem qX4_init_263 : decode (mB mX4_init) 263 = .ok (.l2i, 1) := by decide +kernel
theorem qX4_init_264 : decode (mB mX4_init) 264 = .ok (.iconst 4, 1) := by decide +kernel
theorem qX4_init_265 : decode (mB mX4_init) 265 = .ok (.bipush 100, 2) := by decide +kernel
theorem qX4_init_267 : decode (mB mX4_init) 267 = .ok (.invokevirtual 128, 3) := by decide +kernel
theorem qX4_init_270 : decode (mB mX4_init) 270 = .ok (.aload_n 0, 1) := by decide +kernel
theorem qX4_init_271 : decode (mB mX4_init) 271 = .ok (.iconst 0, 1) := by decide +kernel
theorem qX4_init_272 : decode (mB mX4_init) 272 = .ok (.bipush 20, 2) := by decide +kernel
theorem qX4_init_274 : decode (mB mX4_init) 274 = .ok (.iconst 2, 1) := by decide +kernel
theorem qX4_init_275 : decode (mB mX4_init) 275 = .ok (.sipush 300, 3) := by decide +kernel
theorem qX4_init_278 : decode (mB mX4_init) 278 = .ok (.iconst 5, 1) := by decide +kernel
theorem qX4_init_279 : decode (mB mX4_init) 279 = .ok (.invokevirtual 133, 3) := by decide +kernel
theorem qX4_init_282 : decode (mB mX4_init) 282 = .ok (.aload_n 0, 1) := by decide +kernel
theorem qX4_init_283 : decode (mB mX4_init) 283 = .ok (.iconst 1, 1) := by decide +kernel
theorem qX4_init_284 : decode (mB mX4_init) 284 = .ok (.bipush 30, 2) := by decide +kernel
theorem qX4_init_286 : decode (mB mX4_init) 286 = .ok (.iconst 3, 1) := by decide +kernel
theorem qX4_init_287 : decode (mB mX4_init) 287 = .ok (.bipush 90, 2) := by decide +kernel
theorem qX4_init_289 : decode (mB mX4_init) 289 = .ok (.bipush 8, 2) := by decide +kernel
theorem qX4_init_291 : decode (mB mX4_init) 291 = .ok (.invokevirtual 133, 3) := by decide +kernel
theorem qX4_init_294 : decode (mB mX4_init) 294 = .ok (.aload_n 0, 1) := by decide +kernel
theorem qX4_init_295 : decode (mB mX4_init) 295 = .ok (.iconst 0, 1) := by decide +kernel
theorem qX4_init_296 : decode (mB mX4_init) 296 = .ok (.bipush 7, 2) := by decide +kernel
theorem qX4_init_298 : decode (mB mX4_init) 298 = .ok (.iconst 0, 1) := by decide +kernel
theorem qX4_init_299 : decode (mB mX4_init) 299 = .ok (.invokevirtual 137, 3) := by decide +kernel
theorem qX4_init_302 : decode (mB mX4_init) 302 = .ok (.aload_n 0, 1) := by decide +kernel
theorem qX4_init_303 : decode (mB mX4_init) 303 = .ok (.iconst 1, 1) := by decide +kernel
theorem qX4_init_304 : decode (mB mX4_init) 304 = .ok (.bipush 7, 2) := by decide +kernel
theorem qX4_init_306 : decode (mB mX4_init) 306 = .ok (.iconst 1, 1) := by decide +kernel
theorem qX4_init_307 : decode (mB mX4_init) 307 = .ok (.invokevirtual 137, 3) := by decide +kernel
theorem qX4_init_310 : decode (mB mX4_init) 310 = .ok (.aload_n 0, 1) := by decide +kernel
theorem qX4_init_311 : decode (mB mX4_init) 311 = .ok (.bipush 40, 2) := by decide +kernel
theorem qX4_init_313 : decode (mB mX4_init) 313 = .ok (.invokevirtual 140, 3) := by decide +kernel
theorem qX4_init_316 : decode (mB mX4_init) 316 = .ok (.aload_n 0, 1) := by decide +kernel
theorem qX4_init_317 : decode (mB mX4_init) 317 = .ok (.iconst 0, 1) := by decide +kernel
theorem qX4_init_318 : decode (mB mX4_init) 318 = .ok (.invokevirtual 144, 3) := by decide +kernel
theorem qX4_init_321 : decode (mB mX4_init) 321 = .ok (.istore_n 1, 1) := by decide +kernel
theorem qX4_init_322 : decode (mB mX4_init) 322 = .ok (.aload_n 0, 1) := by decide +kernel
theorem qX4_init_323 : decode (mB mX4_init) 323 = .ok (.iconst 1, 1) := by decide +kernel
theorem qX4_init_324 : decode (mB mX4_init) 324 = .ok (.invokevirtual 144, 3) := by decide +kernel
theorem qX4_init_327 : decode (mB mX4_init) 327 = .ok (.istore_n 1, 1) := by decide +kernel
theorem qX4_init_328 : decode (mB mX4_init) 328 = .ok (.aload_n 0, 1) := by decide +kernel
theorem qX4_init_329 : decode (mB mX4_init) 329 = .ok (.iconst 0, 1) := by decide +kernel
theorem qX4_init_330 : decode (mB mX4_init) 330 = .ok (.bipush 7, 2) := by decide +kernel
theorem qX4_init_332 : decode (mB mX4_init) 332 = .ok (.iconst 1, 1) := by decide +kernel
theorem qX4_init_333 : decode (mB mX4_init) 333 = .ok (.invokevirtual 137, 3) := by decide +kernel
theorem qX4_init_336 : decode (mB mX4_init) 336 = .ok (.aload_n 0, 1) := by decide +kernel
theorem qX4_init_337 : decode (mB mX4_init) 337 = .ok (.bipush 40, 2) := by decide +kernel
theorem qX4_init_339 : decode (mB mX4_init) 339 = .ok (.invokevirtual 140, 3) := by decide +kernel
theorem qX4_init_342 : decode (mB mX4_init) 342 = .ok (.aload_n 0, 1) := by decide +kernel
theorem qX4_init_343 : decode (mB mX4_init) 343 = .ok (.iconst 0, 1) := by decide +kernel
theorem qX4_init_344 : decode (mB mX4_init) 344 = .ok (.invokevirtual 144, 3) := by decide +kernel
theorem qX4_init_347 : decode (mB mX4_init) 347 = .ok (.istore_n 1, 1) := by decide +kernel
theorem qX4_init_348 : decode (mB mX4_init) 348 = .ok (.aload_n 0, 1) := by decide +kernel
theorem qX4_init_349 : decode (mB mX4_init) 349 = .ok (.iconst 0, 1) := by decide +kernel
theorem qX4_init_350 : decode (mB mX4_init) 350 = .ok (.bipush 7, 2) := by decide +kernel
theorem qX4_init_352 : decode (mB mX4_init) 352 = .ok (.iconst (-1), 1) := by decide +kernel
theorem qX4_init_353 : decode (mB mX4_init) 353 = .ok (.invokevirtual 137, 3) := by decide +kernel
theorem qX4_init_356 : decode (mB mX4_init) 356 = .ok (.aload_n 0, 1) := by decide +kernel
theorem qX4_init_357 : decode (mB mX4_init) 357 = .ok (.iconst 1, 1) := by decide +kernel
theorem qX4_init_358 : decode (mB mX4_init) 358 = .ok (.bipush 6, 2) := by decide +kernel
theorem qX4_init_360 : decode (mB mX4_init) 360 = .ok (.iconst 1, 1) := by decide +kernel
theorem qX4_init_361 : decode (mB mX4_init) 361 = .ok (.invokevirtual 137, 3) := by decide +kernel
theorem qX4_init_364 : decode (mB mX4_init) 364 = .ok (.aload_n 0, 1) := by decide +kernel
theorem qX4_init_365 : decode (mB mX4_init) 365 = .ok (.getfield 24, 3) := by decide +kernel
theorem qX4_init_368 : decode (mB mX4_init) 368 = .ok (.bipush 6, 2) := by decide +kernel
theorem qX4_init_370 : decode (mB mX4_init) 370 = .ok (.iconst 1, 1) := by decide +kernel
theorem qX4_init_371 : decode (mB mX4_init) 371 = .ok (.iastore, 1) := by decide +kernel
theorem qX4_init_372 : decode (mB mX4_init) 372 = .ok (.aload_n 0, 1) := by decide +kernel
theorem qX4_init_373 : decode (mB mX4_init) 373 = .ok (.getfield 24, 3) := by decide +kernel
theorem qX4_init_376 : decode (mB mX4_init) 376 = .ok (.bipush 7, 2) := by decide +kernel
theorem qX4_init_378 : decode (mB mX4_init) 378 = .ok (.iconst 3, 1) := by decide +kernel
theorem qX4_init_379 : decode (mB mX4_init) 379 = .ok (.iastore, 1) := by decide +kernel
theorem qX4_init_380 : decode (mB mX4_init) 380 = .ok (.aload_n 0, 1) := by decide +kernel
theorem qX4_init_381 : decode (mB mX4_init) 381 = .ok (.iconst 2, 1) := by decide +kernel
theorem qX4_init_382 : decode (mB mX4_init) 382 = .ok (.invokevirtual 140, 3) := by decide +kernel
theorem qX4_init_385 : decode (mB mX4_init) 385 = .ok (.return_, 1) := by decide +kernel
theorem qX4_isAhead_0 : decode (mB mX4_isAhead) 0 = .ok (.iload_n 0, 1) := by decide +kernel
theorem qX4_isAhead_1 : decode (mB mX4_isAhead) 1 = .ok (.i2l, 1) := by decide +kernel
theorem qX4_isAhead_2 : decode (mB mX4_isAhead) 2 = .ok (.lconst 0, 1) := by decide +kernel
theorem qX4_isAhead_3 : decode (mB mX4_isAhead) 3 = .ok (.ldc2_w 440, 3) := by decide +kernel
theorem qX4_isAhead_6 : decode (mB mX4_isAhead) 6 = .ok (.invokestatic 276, 3) := by decide +kernel
theorem qX4_isAhead_9 : decode (mB mX4_isAhead) 9 = .ok (.ireturn, 1) := by decide +kernel
theorem qX4_isDigit_0 : decode (mB mX4_isDigit) 0 = .ok (.iload_n 0, 1) := by decide +kernel
theorem qX4_isDigit_1 : decode (mB mX4_isDigit) 1 = .ok (.bipush 48, 2) := by decide +kernel
theorem qX4_isDigit_3 : decode (mB mX4_isDigit) 3 = .ok (.if_icmp .lt 13, 3) := by decide +kernel
theorem qX4_isDigit_6 : decode (mB mX4_isDigit) 6 = .ok (.iload_n 0, 1) := by decide +kernel
theorem qX4_isDigit_7 : decode (mB mX4_isDigit) 7 = .ok (.bipush 57, 2) := by decide +kernel
theorem qX4_isDigit_9 : decode (mB mX4_isDigit) 9 = .ok (.if_icmp .gt 7, 3) := by decide +kernel
theorem qX4_isDigit_12 : decode (mB mX4_isDigit) 12 = .ok (.iconst 1, 1) := by decide +kernel
theorem qX4_isDigit_13 : decode (mB mX4_isDigit) 13 = .ok (.goto 4, 3) := by decide +kernel
theorem qX4_isDigit_16 : decode (mB mX4_isDigit) 16 = .ok (.iconst 0, 1) := by decide +kernel
theorem qX4_isDigit_17 : decode (mB mX4_isDigit) 17 = .ok (.ireturn, 1) := by decide +kernel
theorem qX4_isGood_0 : decode (mB mX4_isGood) 0 = .ok (.aload_n 0, 1) := by decide +kernel
theorem qX4_isGood_1 : decode (mB mX4_isGood) 1 = .ok (.getfield 250, 3) := by decide +kernel
theorem qX4_isGood_4 : decode (mB mX4_isGood) 4 = .ok (.ifCond .ne 7, 3) := by decide +kernel
theorem qX4_isGood_7 : decode (mB mX4_isGood) 7 = .ok (.iconst 1, 1) := by decide +kernel
theorem qX4_isGood_8 : decode (mB mX4_isGood) 8 = .ok (.goto 4, 3) := by decide +kernel
theorem qX4_isGood_11 : decode (mB mX4_isGood) 11 = .ok (.iconst 0, 1) := by decide +kernel
theorem qX4_isGood_12 : decode (mB mX4_isGood) 12 = .ok (.ireturn, 1) := by decide +kernel
theorem qX4_isHeight_0 : decode (mB mX4_isHeight) 0 = .ok (.iload_n 0, 1) := by decide +kernel
theorem qX4_isHeight_1 : decode (mB mX4_isHeight) 1 = .ok (.i2l, 1) := by decide +kernel
theorem qX4_isHeight_2 : decode (mB mX4_isHeight) 2 = .ok (.lconst 0, 1) := by decide +kernel
theorem qX4_isHeight_3 : decode (mB mX4_isHeight) 3 = .ok (.ldc2_w 425, 3) := by decide +kernel
theorem qX4_isHeight_6 : decode (mB mX4_isHeight) 6 = .ok (.invokestatic 276, 3) := by decide +kernel
theorem qX4_isHeight_9 : decode (mB mX4_isHeight) 9 = .ok (.ireturn, 1) := by decide +kernel
theorem qX4_isLeaky_0 : decode (mB mX4_isLeaky) 0 = .ok (.aload_n 0, 1) := by decide +kernel
theorem qX4_isLeaky_1 : decode (mB mX4_isLeaky) 1 = .ok (.iload_n 1, 1) := by decide +kernel
theorem qX4_isLeaky_2 : decode (mB mX4_isLeaky) 2 = .ok (.bipush 6, 2) := by decide +kernel
theorem qX4_isLeaky_4 : decode (mB mX4_isLeaky) 4 = .ok (.invokevirtual 399, 3) := by decide +kernel
theorem qX4_isLeaky_7 : decode (mB mX4_isLeaky) 7 = .ok (.iconst 1, 1) := by decide +kernel
theorem qX4_isLeaky_8 : decode (mB mX4_isLeaky) 8 = .ok (.if_icmp .ne 7, 3) := by decide +kernel
theorem qX4_isLeaky_11 : decode (mB mX4_isLeaky) 11 = .ok (.iconst 1, 1) := by decide +kernel
theorem qX4_isLeaky_12 : decode (mB mX4_isLeaky) 12 = .ok (.goto 4, 3) := by decide +kernel
theorem qX4_isLeaky_15 : decode (mB mX4_isLeaky) 15 = .ok (.iconst 0, 1) := by decide +kernel
theorem qX4_isLeaky_16 : decode (mB mX4_isLeaky) 16 = .ok (.ireturn, 1) := by decide +kernel
theorem qX4_isLetter_0 : decode (mB mX4_isLetter) 0 = .ok (.iload_n 0, 1) := by decide +kernel
theorem qX4_isLetter_1 : decode (mB mX4_isLetter) 1 = .ok (.bipush 97, 2) := by decide +kernel
theorem qX4_isLetter_3 : decode (mB mX4_isLetter) 3 = .ok (.if_icmp .lt 13, 3) := by decide +kernel
theorem qX4_isLetter_6 : decode (mB mX4_isLetter) 6 = .ok (.iload_n 0, 1) := by decide +kernel
theorem qX4_isLetter_7 : decode (mB mX4_isLetter) 7 = .ok (.bipush 122, 2) := by decide +kernel
theorem qX4_isLetter_9 : decode (mB mX4_isLetter) 9 = .ok (.if_icmp .gt 7, 3) := by decide +kernel
theorem qX4_isLetter_12 : decode (mB mX4_isLetter) 12 = .ok (.iconst 1, 1) := by decide +kernel
theorem qX4_isLetter_13 : decode (mB mX4_isLetter) 13 = .ok (.goto 4, 3) := by decide +kernel
theorem qX4_isLetter_16 : decode (mB mX4_isLetter) 16 = .ok (.iconst 0, 1) := by decide +kernel
theorem qX4_isLetter_17 : decode (mB mX4_isLetter) 17 = .ok (.ireturn, 1) := by decide +kernel
theorem qX4_isRead_0 : decode (mB mX4_isRead) 0 = .ok (.aload_n 0, 1) := by decide +kernel
theorem qX4_isRead_1 : decode (mB mX4_isRead) 1 = .ok (.iload_n 1, 1) := by decide +kernel
theorem qX4_isRead_2 : decode (mB mX4_isRead) 2 = .ok (.invokevirtual 396, 3) := by decide +kernel
theorem qX4_isRead_5 : decode (mB mX4_isRead) 5 = .ok (.ifCond .eq 15, 3) := by decide +kernel
theorem qX4_isRead_8 : decode (mB mX4_isRead) 8 = .ok (.aload_n 0, 1) := by decide +kernel
theorem qX4_isRead_9 : decode (mB mX4_isRead) 9 = .ok (.iload_n 1, 1) := by decide +kernel
theorem qX4_isRead_10 : decode (mB mX4_isRead) 10 = .ok (.invokevirtual 416, 3) := by decide +kernel
theorem qX4_isRead_13 : decode (mB mX4_isRead) 13 = .ok (.ifCond .eq 7, 3) := by decide +kernel
theorem qX4_isRead_16 : decode (mB mX4_isRead) 16 = .ok (.iconst 1, 1) := by decide +kernel
theorem qX4_isRead_17 : decode (mB mX4_isRead) 17 = .ok (.goto 4, 3) := by decide +kernel
theorem qX4_isRead_20 : decode (mB mX4_isRead) 20 = .ok (.iconst 0, 1) := by decide +kernel
theorem qX4_isRead_21 : decode (mB mX4_isRead) 21 = .ok (.ireturn, 1) := by decide +kernel
theorem qX4_isScaled_0 : decode (mB mX4_isScaled) 0 = .ok (.aload_n 0, 1) := by decide +kernel
theorem qX4_isScaled_1 : decode (mB mX4_isScaled) 1 = .ok (.iload_n 1, 1) := by decide +kernel
theorem qX4_isScaled_2 : decode (mB mX4_isScaled) 2 = .ok (.bipush 8, 2) := by decide +kernel
theorem qX4_isScaled_4 : decode (mB mX4_isScaled) 4 = .ok (.invokevirtual 148, 3) := by decide +kernel
theorem qX4_isScaled_7 : decode (mB mX4_isScaled) 7 = .ok (.iconst 1, 1) := by decide +kernel
theorem qX4_isScaled_8 : decode (mB mX4_isScaled) 8 = .ok (.if_icmp .le 7, 3) := by decide +kernel
theorem qX4_isScaled_11 : decode (mB mX4_isScaled) 11 = .ok (.iconst 1, 1) := by decide +kernel
theorem qX4_isScaled_12 : decode (mB mX4_isScaled) 12 = .ok (.goto 4, 3) := by decide +kernel
theorem qX4_isScaled_15 : decode (mB mX4_isScaled) 15 = .ok (.iconst 0, 1) := by decide +kernel
theorem qX4_isScaled_16 : decode (mB mX4_isScaled) 16 = .ok (.ireturn, 1) := by decide +kernel
theorem qX4_isSettled_0 : decode (mB mX4_isSettled) 0 = .ok (.aload_n 0, 1) := by decide +kernel
theorem qX4_isSettled_1 : decode (mB mX4_isSettled) 1 = .ok (.aload_n 0, 1) := by decide +kernel
theorem qX4_isSettled_2 : decode (mB mX4_isSettled) 2 = .ok (.iload_n 1, 1) := by decide +kernel
theorem qX4_isSettled_3 : decode (mB mX4_isSettled) 3 = .ok (.invokevirtual 396, 3) := by decide +kernel
theorem qX4_isSettled_6 : decode (mB mX4_isSettled) 6 = .ok (.invokevirtual 371, 3) := by decide +kernel
theorem qX4_isSettled_9 : decode (mB mX4_isSettled) 9 = .ok (.ifCond .eq 15, 3) := by decide +kernel
theorem qX4_isSettled_12 : decode (mB mX4_isSettled) 12 = .ok (.aload_n 0, 1) := by decide +kernel
theorem qX4_isSettled_13 : decode (mB mX4_isSettled) 13 = .ok (.iload_n 1, 1) := by decide +kernel
theorem qX4_isSettled_14 : decode (mB mX4_isSettled) 14 = .ok (.invokevirtual 178, 3) := by decide +kernel
theorem qX4_isSettled_17 : decode (mB mX4_isSettled) 17 = .ok (.ifCond .eq 7, 3) := by decide +kernel
theorem qX4_isSettled_20 : decode (mB mX4_isSettled) 20 = .ok (.iconst 1, 1) := by decide +kernel
theorem qX4_isSettled_21 : decode (mB mX4_isSettled) 21 = .ok (.goto 4, 3) := by decide +kernel
theorem qX4_isSettled_24 : decode (mB mX4_isSettled) 24 = .ok (.iconst 0, 1) := by decide +kernel
theorem qX4_isSettled_25 : decode (mB mX4_isSettled) 25 = .ok (.ireturn, 1) := by decide +kernel
theorem qX4_isStill_0 : decode (mB mX4_isStill) 0 = .ok (.aload_n 0, 1) := by decide +kernel
theorem qX4_isStill_1 : decode (mB mX4_isStill) 1 = .ok (.iload_n 1, 1) := by decide +kernel
theorem qX4_isStill_2 : decode (mB mX4_isStill) 2 = .ok (.iconst 5, 1) := by decide +kernel
theorem qX4_isStill_3 : decode (mB mX4_isStill) 3 = .ok (.invokevirtual 148, 3) := by decide +kernel
theorem qX4_isStill_6 : decode (mB mX4_isStill) 6 = .ok (.aload_n 0, 1) := by decide +kernel
theorem qX4_isStill_7 : decode (mB mX4_isStill) 7 = .ok (.iload_n 1, 1) := by decide +kernel
theorem qX4_isStill_8 : decode (mB mX4_isStill) 8 = .ok (.invokevirtual 169, 3) := by decide +kernel
theorem qX4_isStill_11 : decode (mB mX4_isStill) 11 = .ok (.if_icmp .ne 7, 3) := by decide +kernel
theorem qX4_isStill_14 : decode (mB mX4_isStill) 14 = .ok (.iconst 1, 1) := by decide +kernel
theorem qX4_isStill_15 : decode (mB mX4_isStill) 15 = .ok (.goto 4, 3) := by decide +kernel
theorem qX4_isStill_18 : decode (mB mX4_isStill) 18 = .ok (.iconst 0, 1) := by decide +kernel
theorem qX4_isStill_19 : decode (mB mX4_isStill) 19 = .ok (.ireturn, 1) := by decide +kernel
theorem qX4_isWord_0 : decode (mB mX4_isWord) 0 = .ok (.aload_n 0, 1) := by decide +kernel
theorem qX4_isWord_1 : decode (mB mX4_isWord) 1 = .ok (.getfield 235, 3) := by decide +kernel
theorem qX4_isWord_4 : decode (mB mX4_isWord) 4 = .ok (.iconst 1, 1) := by decide +kernel
theorem qX4_isWord_5 : decode (mB mX4_isWord) 5 = .ok (.if_icmp .ne 25, 3) := by decide +kernel
theorem qX4_isWord_8 : decode (mB mX4_isWord) 8 = .ok (.aload_n 0, 1) := by decide +kernel
theorem qX4_isWord_9 : decode (mB mX4_isWord) 9 = .ok (.getfield 226, 3) := by decide +kernel
theorem qX4_isWord_12 : decode (mB mX4_isWord) 12 = .ok (.bipush 8, 2) := by decide +kernel
theorem qX4_isWord_14 : decode (mB mX4_isWord) 14 = .ok (.if_icmp .gt 16, 3) := by decide +kernel
theorem qX4_isWord_17 : decode (mB mX4_isWord) 17 = .ok (.aload_n 0, 1) := by decide +kernel
theorem qX4_isWord_18 : decode (mB mX4_isWord) 18 = .ok (.getfield 229, 3) := by decide +kernel
theorem qX4_isWord_21 : decode (mB mX4_isWord) 21 = .ok (.lload_n 1, 1) := by decide +kernel
theorem qX4_isWord_22 : decode (mB mX4_isWord) 22 = .ok (.lcmp, 1) := by decide +kernel
theorem qX4_isWord_23 : decode (mB mX4_isWord) 23 = .ok (.ifCond .ne 7, 3) := by decide +kernel
theorem qX4_isWord_26 : decode (mB mX4_isWord) 26 = .ok (.iconst 1, 1) := by decide +kernel
theorem qX4_isWord_27 : decode (mB mX4_isWord) 27 = .ok (.goto 4, 3) := by decide +kernel
theorem qX4_isWord_30 : decode (mB mX4_isWord) 30 = .ok (.iconst 0, 1) := by decide +kernel
theorem qX4_isWord_31 : decode (mB mX4_isWord) 31 = .ok (.ireturn, 1) := by decide +kernel
theorem qX4_layBath_0 : decode (mB mX4_layBath) 0 = .ok (.bipush 30, 2) := by decide +kernel
theorem qX4_layBath_2 : decode (mB mX4_layBath) 2 = .ok (.iconst 3, 1) := by decide +kernel
theorem qX4_layBath_3 : decode (mB mX4_layBath) 3 = .ok (.aload_n 0, 1) := by decide +kernel
theorem qX4_layBath_4 : decode (mB mX4_layBath) 4 = .ok (.getfield 24, 3) := by decide +kernel
theorem qX4_layBath_7 : decode (mB mX4_layBath) 7 = .ok (.iconst 4, 1) := by decide +kernel
theorem qX4_layBath_8 : decode (mB mX4_layBath) 8 = .ok (.iaload, 1) := by decide +kernel
theorem qX4_layBath_9 : decode (mB mX4_layBath) 9 = .ok (.imul, 1) := by decide +kernel
theorem qX4_layBath_10 : decode (mB mX4_layBath) 10 = .ok (.iadd, 1) := by decide +kernel
theorem qX4_layBath_11 : decode (mB mX4_layBath) 11 = .ok (.istore 4, 2) := by decide +kernel
theorem qX4_layBath_13 : decode (mB mX4_layBath) 13 = .ok (.aload_n 0, 1) := by decide +kernel
theorem qX4_layBath_14 : decode (mB mX4_layBath) 14 = .ok (.getfield 24, 3) := by decide +kernel
theorem qX4_layBath_17 : decode (mB mX4_layBath) 17 = .ok (.iconst 4, 1) := by decide +kernel
theorem qX4_layBath_18 : decode (mB mX4_layBath) 18 = .ok (.dup2, 1) := by decide +kernel
theorem qX4_layBath_19 : decode (mB mX4_layBath) 19 = .ok (.iaload, 1) := by decide +kernel
theorem qX4_layBath_20 : decode (mB mX4_layBath) 20 = .ok (.iconst 1, 1) := by decide +kernel
theorem qX4_layBath_21 : decode (mB mX4_layBath) 21 = .ok (.iadd, 1) := by decide +kernel
theorem qX4_layBath_22 : decode (mB mX4_layBath) 22 = .ok (.iastore, 1) := by decide +kernel
theorem qX4_layBath_23 : decode (mB mX4_layBath) 23 = .ok (.aload_n 0, 1) := by decide +kernel
theorem qX4_layBath_24 : decode (mB mX4_layBath) 24 = .ok (.getfield 24, 3) := by decide +kernel
theorem qX4_layBath_27 : decode (mB mX4_layBath) 27 = .ok (.iload 4, 2) := by decide +kernel
theorem qX4_layBath_29 : decode (mB mX4_layBath) 29 = .ok (.iconst 0, 1) := by decide +kernel
theorem qX4_layBath_30 : decode (mB mX4_layBath) 30 = .ok (.iadd, 1) := by decide +kernel
theorem qX4_layBath_31 : decode (mB mX4_layBath) 31 = .ok (.iload_n 1, 1) := by decide +kernel
theorem qX4_layBath_32 : decode (mB mX4_layBath) 32 = .ok (.iastore, 1) := by decide +kernel
theorem qX4_layBath_33 : decode (mB mX4_layBath) 33 = .ok (.aload_n 0, 1) := by decide +kernel
theorem qX4_layBath_34 : decode (mB mX4_layBath) 34 = .ok (.getfield 24, 3) := by decide +kernel
theorem qX4_layBath_37 : decode (mB mX4_layBath) 37 = .ok (.iload 4, 2) := by decide +kernel
theorem qX4_layBath_39 : decode (mB mX4_layBath) 39 = .ok (.iconst 1, 1) := by decide +kernel
theorem qX4_layBath_40 : decode (mB mX4_layBath) 40 = .ok (.iadd, 1) := by decide +kernel
theorem qX4_layBath_41 : decode (mB mX4_layBath) 41 = .ok (.iload_n 2, 1) := by decide +kernel
theorem qX4_layBath_42 : decode (mB mX4_layBath) 42 = .ok (.iastore, 1) := by decide +kernel
theorem qX4_layBath_43 : decode (mB mX4_layBath) 43 = .ok (.aload_n 0, 1) := by decide +kernel
theorem qX4_layBath_44 : decode (mB mX4_layBath) 44 = .ok (.getfield 24, 3) := by decide +kernel
theorem qX4_layBath_47 : decode (mB mX4_layBath) 47 = .ok (.iload 4, 2) := by decide +kernel
theorem qX4_layBath_49 : decode (mB mX4_layBath) 49 = .ok (.iconst 2, 1) := by decide +kernel
theorem qX4_layBath_50 : decode (mB mX4_layBath) 50 = .ok (.iadd, 1) := by decide +kernel
theorem qX4_layBath_51 : decode (mB mX4_layBath) 51 = .ok (.iload_n 3, 1) := by decide +kernel
theorem qX4_layBath_52 : decode (mB mX4_layBath) 52 = .ok (.iastore, 1) := by decide +kernel
theorem qX4_layBath_53 : decode (mB mX4_layBath) 53 = .ok (.return_, 1) := by decide +kernel
theorem qX4_laySpirit_0 : decode (mB mX4_laySpirit) 0 = .ok (.bipush 10, 2) := by decide +kernel
theorem qX4_laySpirit_2 : decode (mB mX4_laySpirit) 2 = .ok (.iconst 4, 1) := by decide +kernel
theorem qX4_laySpirit_3 : decode (mB mX4_laySpirit) 3 = .ok (.aload_n 0, 1) := by decide +kernel
theorem qX4_laySpirit_4 : decode (mB mX4_laySpirit) 4 = .ok (.getfield 24, 3) := by decide +kernel
theorem qX4_laySpirit_7 : decode (mB mX4_laySpirit) 7 = .ok (.iconst 3, 1) := by decide +kernel
theorem qX4_laySpirit_8 : decode (mB mX4_laySpirit) 8 = .ok (.iaload, 1) := by decide +kernel
theorem qX4_laySpirit_9 : decode (mB mX4_laySpirit) 9 = .ok (.imul, 1) := by decide +kernel
theorem qX4_laySpirit_10 : decode (mB mX4_laySpirit) 10 = .ok (.iadd, 1) := by decide +kernel
theorem qX4_laySpirit_11 : decode (mB mX4_laySpirit) 11 = .ok (.istore 4, 2) := by decide +kernel
theorem qX4_laySpirit_13 : decode (mB mX4_laySpirit) 13 = .ok (.aload_n 0, 1) := by decide +kernel
theorem qX4_laySpirit_14 : decode (mB mX4_laySpirit) 14 = .ok (.getfield 24, 3) := by decide +kernel
theorem qX4_laySpirit_17 : decode (mB mX4_laySpirit) 17 = .ok (.iconst 3, 1) := by decide +kernel
theorem qX4_laySpirit_18 : decode (mB mX4_laySpirit) 18 = .ok (.dup2, 1) := by decide +kernel
theorem qX4_laySpirit_19 : decode (mB mX4_laySpirit) 19 = .ok (.iaload, 1) := by decide +kernel
theorem qX4_laySpirit_20 : decode (mB mX4_laySpirit) 20 = .ok (.iconst 1, 1) := by decide +kernel
theorem qX4_laySpirit_21 : decode (mB mX4_laySpirit) 21 = .ok (.iadd, 1) := by decide +kernel
theorem qX4_laySpirit_22 : decode (mB mX4_laySpirit) 22 = .ok (.iastore, 1) := by decide +kernel
theorem qX4_laySpirit_23 : decode (mB mX4_laySpirit) 23 = .ok (.aload_n 0, 1) := by decide +kernel
theorem qX4_laySpirit_24 : decode (mB mX4_laySpirit) 24 = .ok (.getfield 24, 3) := by decide +kernel
theorem qX4_laySpirit_27 : decode (mB mX4_laySpirit) 27 = .ok (.iload 4, 2) := by decide +kernel
theorem qX4_laySpirit_29 : decode (mB mX4_laySpirit) 29 = .ok (.iconst 0, 1) := by decide +kernel
theorem qX4_laySpirit_30 : decode (mB mX4_laySpirit) 30 = .ok (.iadd, 1) := by decide +kernel
theorem qX4_laySpirit_31 : decode (mB mX4_laySpirit) 31 = .ok (.iload_n 1, 1) := by decide +kernel
theorem qX4_laySpirit_32 : decode (mB mX4_laySpirit) 32 = .ok (.iastore, 1) := by decide +kernel
theorem qX4_laySpirit_33 : decode (mB mX4_laySpirit) 33 = .ok (.aload_n 0, 1) := by decide +kernel
theorem qX4_laySpirit_34 : decode (mB mX4_laySpirit) 34 = .ok (.getfield 24, 3) := by decide +kernel
theorem qX4_laySpirit_37 : decode (mB mX4_laySpirit) 37 = .ok (.iload 4, 2) := by decide +kernel
theorem qX4_laySpirit_39 : decode (mB mX4_laySpirit) 39 = .ok (.iconst 1, 1) := by decide +kernel
theorem qX4_laySpirit_40 : decode (mB mX4_laySpirit) 40 = .ok (.iadd, 1) := by decide +kernel
theorem qX4_laySpirit_41 : decode (mB mX4_laySpirit) 41 = .ok (.iload_n 2, 1) := by decide +kernel
theorem qX4_laySpirit_42 : decode (mB mX4_laySpirit) 42 = .ok (.iastore, 1) := by decide +kernel
theorem qX4_laySpirit_43 : decode (mB mX4_laySpirit) 43 = .ok (.aload_n 0, 1) := by decide +kernel
theorem qX4_laySpirit_44 : decode (mB mX4_laySpirit) 44 = .ok (.getfield 24, 3) := by decide +kernel
theorem qX4_laySpirit_47 : decode (mB mX4_laySpirit) 47 = .ok (.iload 4, 2) := by decide +kernel
theorem qX4_laySpirit_49 : decode (mB mX4_laySpirit) 49 = .ok (.iconst 2, 1) := by decide +kernel
theorem qX4_laySpirit_50 : decode (mB mX4_laySpirit) 50 = .ok (.iadd, 1) := by decide +kernel
theorem qX4_laySpirit_51 : decode (mB mX4_laySpirit) 51 = .ok (.iload_n 3, 1) := by decide +kernel
theorem qX4_laySpirit_52 : decode (mB mX4_laySpirit) 52 = .ok (.iastore, 1) := by decide +kernel
theorem qX4_laySpirit_53 : decode (mB mX4_laySpirit) 53 = .ok (.return_, 1) := by decide +kernel
theorem qX4_layThumb_0 : decode (mB mX4_layThumb) 0 = .ok (.aload_n 0, 1) := by decide +kernel
theorem qX4_layThumb_1 : decode (mB mX4_layThumb) 1 = .ok (.aload_n 0, 1) := by decide +kernel
theorem qX4_layThumb_2 : decode (mB mX4_layThumb) 2 = .ok (.iload_n 1, 1) := by decide +kernel
theorem qX4_layThumb_3 : decode (mB mX4_layThumb) 3 = .ok (.invokevirtual 396, 3) := by decide +kernel
theorem qX4_layThumb_6 : decode (mB mX4_layThumb) 6 = .ok (.iload_n 2, 1) := by decide +kernel
theorem qX4_layThumb_7 : decode (mB mX4_layThumb) 7 = .ok (.i2l, 1) := by decide +kernel
theorem qX4_layThumb_8 : decode (mB mX4_layThumb) 8 = .ok (.lconst 1, 1) := by decide +kernel
theorem qX4_layThumb_9 : decode (mB mX4_layThumb) 9 = .ok (.ldc2_w 454, 3) := by decide +kernel
theorem qX4_layThumb_12 : decode (mB mX4_layThumb) 12 = .ok (.invokestatic 276, 3) := by decide +kernel
theorem qX4_layThumb_15 : decode (mB mX4_layThumb) 15 = .ok (.invokevirtual 409, 3) := by decide +kernel
theorem qX4_layThumb_18 : decode (mB mX4_layThumb) 18 = .ok (.ifCond .ne 5, 3) := by decide +kernel
theorem qX4_layThumb_21 : decode (mB mX4_layThumb) 21 = .ok (.iconst 0, 1) := by decide +kernel
theorem qX4_layThumb_22 : decode (mB mX4_layThumb) 22 = .ok (.ireturn, 1) := by decide +kernel
theorem qX4_layThumb_23 : decode (mB mX4_layThumb) 23 = .ok (.aload_n 0, 1) := by decide +kernel
theorem qX4_layThumb_24 : decode (mB mX4_layThumb) 24 = .ok (.invokevirtual 384, 3) := by decide +kernel
theorem qX4_layThumb_27 : decode (mB mX4_layThumb) 27 = .ok (.aload_n 0, 1) := by decide +kernel
theorem qX4_layThumb_28 : decode (mB mX4_layThumb) 28 = .ok (.getfield 17, 3) := by decide +kernel
theorem qX4_layThumb_31 : decode (mB mX4_layThumb) 31 = .ok (.bipush 6, 2) := by decide +kernel
theorem qX4_layThumb_33 : decode (mB mX4_layThumb) 33 = .ok (.iaload, 1) := by decide +kernel
theorem qX4_layThumb_34 : decode (mB mX4_layThumb) 34 = .ok (.istore_n 3, 1) := by decide +kernel
theorem qX4_layThumb_35 : decode (mB mX4_layThumb) 35 = .ok (.aload_n 0, 1) := by decide +kernel
theorem qX4_layThumb_36 : decode (mB mX4_layThumb) 36 = .ok (.getfield 17, 3) := by decide +kernel
theorem qX4_layThumb_39 : decode (mB mX4_layThumb) 39 = .ok (.bipush 6, 2) := by decide +kernel
theorem qX4_layThumb_41 : decode (mB mX4_layThumb) 41 = .ok (.iload_n 1, 1) := by decide +kernel
theorem qX4_layThumb_42 : decode (mB mX4_layThumb) 42 = .ok (.iastore, 1) := by decide +kernel
theorem qX4_layThumb_43 : decode (mB mX4_layThumb) 43 = .ok (.aload_n 0, 1) := by decide +kernel
theorem qX4_layThumb_44 : decode (mB mX4_layThumb) 44 = .ok (.getfield 17, 3) := by decide +kernel
theorem qX4_layThumb_47 : decode (mB mX4_layThumb) 47 = .ok (.bipush 7, 2) := by decide +kernel
theorem qX4_layThumb_49 : decode (mB mX4_layThumb) 49 = .ok (.iload_n 2, 1) := by decide +kernel
theorem qX4_layThumb_50 : decode (mB mX4_layThumb) 50 = .ok (.iastore, 1) := by decide +kernel
theorem qX4_layThumb_51 : decode (mB mX4_layThumb) 51 = .ok (.iload_n 3, 1) := by decide +kernel
theorem qX4_layThumb_52 : decode (mB mX4_layThumb) 52 = .ok (.ireturn, 1) := by decide +kernel
theorem qX4_layTube_0 : decode (mB mX4_layTube) 0 = .ok (.aload_n 0, 1) := by decide +kernel
theorem qX4_layTube_1 : decode (mB mX4_layTube) 1 = .ok (.getfield 24, 3) := by decide +kernel
theorem qX4_layTube_4 : decode (mB mX4_layTube) 4 = .ok (.iconst 5, 1) := by decide +kernel
theorem qX4_layTube_5 : decode (mB mX4_layTube) 5 = .ok (.iaload, 1) := by decide +kernel
theorem qX4_layTube_6 : decode (mB mX4_layTube) 6 = .ok (.istore 6, 2) := by decide +kernel
theorem qX4_layTube_8 : decode (mB mX4_layTube) 8 = .ok (.aload_n 0, 1) := by decide +kernel
theorem qX4_layTube_9 : decode (mB mX4_layTube) 9 = .ok (.getfield 24, 3) := by decide +kernel
theorem qX4_layTube_12 : decode (mB mX4_layTube) 12 = .ok (.iconst 5, 1) := by decide +kernel
theorem qX4_layTube_13 : decode (mB mX4_layTube) 13 = .ok (.dup2, 1) := by decide +kernel
theorem qX4_layTube_14 : decode (mB mX4_layTube) 14 = .ok (.iaload, 1) := by decide +kernel
theorem qX4_layTube_15 : decode (mB mX4_layTube) 15 = .ok (.iconst 1, 1) := by decide +kernel
theorem qX4_layTube_16 : decode (mB mX4_layTube) 16 = .ok (.iadd, 1) := by decide +kernel
theorem qX4_layTube_17 : decode (mB mX4_layTube) 17 = .ok (.iastore, 1) := by decide +kernel
theorem qX4_layTube_18 : decode (mB mX4_layTube) 18 = .ok (.aload_n 0, 1) := by decide +kernel
theorem qX4_layTube_19 : decode (mB mX4_layTube) 19 = .ok (.iload 6, 2) := by decide +kernel
theorem qX4_layTube_21 : decode (mB mX4_layTube) 21 = .ok (.iconst 0, 1) := by decide +kernel
theorem qX4_layTube_22 : decode (mB mX4_layTube) 22 = .ok (.iload_n 1, 1) := by decide +kernel
theorem qX4_layTube_23 : decode (mB mX4_layTube) 23 = .ok (.invokevirtual 137, 3) := by decide +kernel
theorem qX4_layTube_26 : decode (mB mX4_layTube) 26 = .ok (.aload_n 0, 1) := by decide +kernel
theorem qX4_layTube_27 : decode (mB mX4_layTube) 27 = .ok (.iload 6, 2) := by decide +kernel
theorem qX4_layTube_29 : decode (mB mX4_layTube) 29 = .ok (.iconst 1, 1) := by decide +kernel
theorem qX4_layTube_30 : decode (mB mX4_layTube) 30 = .ok (.iload_n 2, 1) := by decide +kernel
theorem qX4_layTube_31 : decode (mB mX4_layTube) 31 = .ok (.invokevirtual 137, 3) := by decide +kernel
theorem qX4_layTube_34 : decode (mB mX4_layTube) 34 = .ok (.aload_n 0, 1) := by decide +kernel
theorem qX4_layTube_35 : decode (mB mX4_layTube) 35 = .ok (.iload 6, 2) := by decide +kernel
theorem qX4_layTube_37 : decode (mB mX4_layTube) 37 = .ok (.iconst 2, 1) := by decide +kernel
theorem qX4_layTube_38 : decode (mB mX4_layTube) 38 = .ok (.iload_n 3, 1) := by decide +kernel
theorem qX4_layTube_39 : decode (mB mX4_layTube) 39 = .ok (.invokevirtual 137, 3) := by decide +kernel
theorem qX4_layTube_42 : decode (mB mX4_layTube) 42 = .ok (.aload_n 0, 1) := by decide +kernel
theorem qX4_layTube_43 : decode (mB mX4_layTube) 43 = .ok (.iload 6, 2) := by decide +kernel
theorem qX4_layTube_45 : decode (mB mX4_layTube) 45 = .ok (.iconst 3, 1) := by decide +kernel
theorem qX4_layTube_46 : decode (mB mX4_layTube) 46 = .ok (.iload 4, 2) := by decide +kernel
theorem qX4_layTube_48 : decode (mB mX4_layTube) 48 = .ok (.invokevirtual 137, 3) := by decide +kernel
theorem qX4_layTube_51 : decode (mB mX4_layTube) 51 = .ok (.aload_n 0, 1) := by decide +kernel
theorem qX4_layTube_52 : decode (mB mX4_layTube) 52 = .ok (.iload 6, 2) := by decide +kernel
theorem qX4_layTube_54 : decode (mB mX4_layTube) 54 = .ok (.iconst 4, 1) := by decide +kernel
theorem qX4_layTube_55 : decode (mB mX4_layTube) 55 = .ok (.iload 5, 2) := by decide +kernel
theorem qX4_layTube_57 : decode (mB mX4_layTube) 57 = .ok (.invokevirtual 137, 3) := by decide +kernel
theorem qX4_layTube_60 : decode (mB mX4_layTube) 60 = .ok (.aload_n 0, 1) := by decide +kernel
theorem qX4_layTube_61 : decode (mB mX4_layTube) 61 = .ok (.iload 6, 2) := by decide +kernel
theorem qX4_layTube_63 : decode (mB mX4_layTube) 63 = .ok (.iconst 5, 1) := by decide +kernel
theorem qX4_layTube_64 : decode (mB mX4_layTube) 64 = .ok (.bipush 10, 2) := by decide +kernel
theorem qX4_layTube_66 : decode (mB mX4_layTube) 66 = .ok (.aload_n 0, 1) := by decide +kernel
theorem qX4_layTube_67 : decode (mB mX4_layTube) 67 = .ok (.getfield 24, 3) := by decide +kernel
theorem qX4_layTube_70 : decode (mB mX4_layTube) 70 = .ok (.iconst 0, 1) := by decide +kernel
theorem qX4_layTube_71 : decode (mB mX4_layTube) 71 = .ok (.iaload, 1) := by decide +kernel
theorem qX4_layTube_72 : decode (mB mX4_layTube) 72 = .ok (.imul, 1) := by decide +kernel
theorem qX4_layTube_73 : decode (mB mX4_layTube) 73 = .ok (.invokevirtual 137, 3) := by decide +kernel
theorem qX4_layTube_76 : decode (mB mX4_layTube) 76 = .ok (.aload_n 0, 1) := by decide +kernel
theorem qX4_layTube_77 : decode (mB mX4_layTube) 77 = .ok (.iload 6, 2) := by decide +kernel
theorem qX4_layTube_79 : decode (mB mX4_layTube) 79 = .ok (.bipush 7, 2) := by decide +kernel
theorem qX4_layTube_81 : decode (mB mX4_layTube) 81 = .ok (.iconst (-1), 1) := by decide +kernel
theorem qX4_layTube_82 : decode (mB mX4_layTube) 82 = .ok (.invokevirtual 137, 3) := by decide +kernel
theorem qX4_layTube_85 : decode (mB mX4_layTube) 85 = .ok (.aload_n 0, 1) := by decide +kernel
theorem qX4_layTube_86 : decode (mB mX4_layTube) 86 = .ok (.getfield 24, 3) := by decide +kernel
theorem qX4_layTube_89 : decode (mB mX4_layTube) 89 = .ok (.bipush 8, 2) := by decide +kernel
theorem qX4_layTube_91 : decode (mB mX4_layTube) 91 = .ok (.dup2, 1) := by decide +kernel
theorem qX4_layTube_92 : decode (mB mX4_layTube) 92 = .ok (.iaload, 1) := by decide +kernel
theorem qX4_layTube_93 : decode (mB mX4_layTube) 93 = .ok (.iload 5, 2) := by decide +kernel
theorem qX4_layTube_95 : decode (mB mX4_layTube) 95 = .ok (.iadd, 1) := by decide +kernel
theorem qX4_layTube_96 : decode (mB mX4_layTube) 96 = .ok (.iastore, 1) := by decide +kernel
theorem qX4_layTube_97 : decode (mB mX4_layTube) 97 = .ok (.return_, 1) := by decide +kernel
theorem qX4_letterOf_0 : decode (mB mX4_letterOf) 0 = .ok (.iload_n 0, 1) := by decide +kernel
theorem qX4_letterOf_1 : decode (mB mX4_letterOf) 1 = .ok (.istore_n 3, 1) := by decide +kernel
theorem qX4_letterOf_2 : decode (mB mX4_letterOf) 2 = .ok (.iload_n 1, 1) := by decide +kernel
theorem qX4_letterOf_3 : decode (mB mX4_letterOf) 3 = .ok (.iconst 1, 1) := by decide +kernel
theorem qX4_letterOf_4 : decode (mB mX4_letterOf) 4 = .ok (.isub, 1) := by decide +kernel
theorem qX4_letterOf_5 : decode (mB mX4_letterOf) 5 = .ok (.istore 4, 2) := by decide +kernel
theorem qX4_letterOf_7 : decode (mB mX4_letterOf) 7 = .ok (.iload 4, 2) := by decide +kernel
theorem qX4_letterOf_9 : decode (mB mX4_letterOf) 9 = .ok (.iload_n 2, 1) := by decide +kernel
theorem qX4_letterOf_10 : decode (mB mX4_letterOf) 10 = .ok (.if_icmp .le 14, 3) := by decide +kernel
theorem qX4_letterOf_13 : decode (mB mX4_letterOf) 13 = .ok (.iload_n 3, 1) := by decide +kernel
theorem qX4_letterOf_14 : decode (mB mX4_letterOf) 14 = .ok (.bipush 27, 2) := by decide +kernel
theorem qX4_letterOf_16 : decode (mB mX4_letterOf) 16 = .ok (.idiv, 1) := by decide +kernel
theorem qX4_letterOf_17 : decode (mB mX4_letterOf) 17 = .ok (.istore_n 3, 1) := by decide +kernel
theorem qX4_letterOf_18 : decode (mB mX4_letterOf) 18 = .ok (.iinc 4 (-1), 3) := by decide +kernel
theorem qX4_letterOf_21 : decode (mB mX4_letterOf) 21 = .ok (.goto (-14), 3) := by decide +kernel
theorem qX4_letterOf_24 : decode (mB mX4_letterOf) 24 = .ok (.bipush 97, 2) := by decide +kernel
theorem qX4_letterOf_26 : decode (mB mX4_letterOf) 26 = .ok (.iload_n 3, 1) := by decide +kernel
theorem qX4_letterOf_27 : decode (mB mX4_letterOf) 27 = .ok (.bipush 27, 2) := by decide +kernel
theorem qX4_letterOf_29 : decode (mB mX4_letterOf) 29 = .ok (.irem, 1) := by decide +kernel
theorem qX4_letterOf_30 : decode (mB mX4_letterOf) 30 = .ok (.iadd, 1) := by decide +kernel
theorem qX4_letterOf_31 : decode (mB mX4_letterOf) 31 = .ok (.iconst 1, 1) := by decide +kernel
theorem qX4_letterOf_32 : decode (mB mX4_letterOf) 32 = .ok (.isub, 1) := by decide +kernel
theorem qX4_letterOf_33 : decode (mB mX4_letterOf) 33 = .ok (.ireturn, 1) := by decide +kernel
theorem qX4_lift_0 : decode (mB mX4_lift) 0 = .ok (.aload_n 0, 1) := by decide +kernel
theorem qX4_lift_1 : decode (mB mX4_lift) 1 = .ok (.iload_n 1, 1) := by decide +kernel
theorem qX4_lift_2 : decode (mB mX4_lift) 2 = .ok (.invokevirtual 396, 3) := by decide +kernel
theorem qX4_lift_5 : decode (mB mX4_lift) 5 = .ok (.istore_n 2, 1) := by decide +kernel
theorem qX4_lift_6 : decode (mB mX4_lift) 6 = .ok (.aload_n 0, 1) := by decide +kernel
theorem qX4_lift_7 : decode (mB mX4_lift) 7 = .ok (.iload_n 2, 1) := by decide +kernel
theorem qX4_lift_8 : decode (mB mX4_lift) 8 = .ok (.iload_n 2, 1) := by decide +kernel
theorem qX4_lift_9 : decode (mB mX4_lift) 9 = .ok (.ifCond .eq 18, 3) := by decide +kernel
theorem qX4_lift_12 : decode (mB mX4_lift) 12 = .ok (.aload_n 0, 1) := by decide +kernel
theorem qX4_lift_13 : decode (mB mX4_lift) 13 = .ok (.iload_n 1, 1) := by decide +kernel
theorem qX4_lift_14 : decode (mB mX4_lift) 14 = .ok (.bipush 7, 2) := by decide +kernel
theorem qX4_lift_16 : decode (mB mX4_lift) 16 = .ok (.invokevirtual 148, 3) := by decide +kernel
theorem qX4_lift_19 : decode (mB mX4_lift) 19 = .ok (.iconst (-1), 1) := by decide +kernel
theorem qX4_lift_20 : decode (mB mX4_lift) 20 = .ok (.if_icmp .eq 7, 3) := by decide +kernel
theorem qX4_lift_23 : decode (mB mX4_lift) 23 = .ok (.iconst 1, 1) := by decide +kernel
theorem qX4_lift_24 : decode (mB mX4_lift) 24 = .ok (.goto 4, 3) := by decide +kernel
theorem qX4_lift_27 : decode (mB mX4_lift) 27 = .ok (.iconst 0, 1) := by decide +kernel
theorem qX4_lift_28 : decode (mB mX4_lift) 28 = .ok (.invokevirtual 409, 3) := by decide +kernel
theorem qX4_lift_31 : decode (mB mX4_lift) 31 = .ok (.ifCond .ne 5, 3) := by decide +kernel
theorem qX4_lift_34 : decode (mB mX4_lift) 34 = .ok (.iconst 0, 1) := by decide +kernel
theorem qX4_lift_35 : decode (mB mX4_lift) 35 = .ok (.ireturn, 1) := by decide +kernel
theorem qX4_lift_36 : decode (mB mX4_lift) 36 = .ok (.aload_n 0, 1) := by decide +kernel
theorem qX4_lift_37 : decode (mB mX4_lift) 37 = .ok (.invokevirtual 384, 3) := by decide +kernel
theorem qX4_lift_40 : decode (mB mX4_lift) 40 = .ok (.aload_n 0, 1) := by decide +kernel
theorem qX4_lift_41 : decode (mB mX4_lift) 41 = .ok (.iload_n 1, 1) := by decide +kernel
theorem qX4_lift_42 : decode (mB mX4_lift) 42 = .ok (.bipush 7, 2) := by decide +kernel
theorem qX4_lift_44 : decode (mB mX4_lift) 44 = .ok (.invokevirtual 148, 3) := by decide +kernel
theorem qX4_lift_47 : decode (mB mX4_lift) 47 = .ok (.istore_n 3, 1) := by decide +kernel
theorem qX4_lift_48 : decode (mB mX4_lift) 48 = .ok (.aload_n 0, 1) := by decide +kernel
theorem qX4_lift_49 : decode (mB mX4_lift) 49 = .ok (.iload_n 1, 1) := by decide +kernel
theorem qX4_lift_50 : decode (mB mX4_lift) 50 = .ok (.bipush 7, 2) := by decide +kernel
theorem qX4_lift_52 : decode (mB mX4_lift) 52 = .ok (.iconst (-1), 1) := by decide +kernel
theorem qX4_lift_53 : decode (mB mX4_lift) 53 = .ok (.invokevirtual 137, 3) := by decide +kernel
theorem qX4_lift_56 : decode (mB mX4_lift) 56 = .ok (.iload_n 3, 1) := by decide +kernel
theorem qX4_lift_57 : decode (mB mX4_lift) 57 = .ok (.ireturn, 1) := by decide +kernel
theorem qX4_load_0 : decode (mB mX4_load) 0 = .ok (.aload_n 0, 1) := by decide +kernel
theorem qX4_load_1 : decode (mB mX4_load) 1 = .ok (.iconst 0, 1) := by decide +kernel
theorem qX4_load_2 : decode (mB mX4_load) 2 = .ok (.putfield 3, 3) := by decide +kernel
theorem qX4_load_5 : decode (mB mX4_load) 5 = .ok (.aload_n 0, 1) := by decide +kernel
theorem qX4_load_6 : decode (mB mX4_load) 6 = .ok (.aload_n 0, 1) := by decide +kernel
theorem qX4_load_7 : decode (mB mX4_load) 7 = .ok (.getfield 21, 3) := by decide +kernel
theorem qX4_load_10 : decode (mB mX4_load) 10 = .ok (.putfield 24, 3) := by decide +kernel
theorem qX4_load_13 : decode (mB mX4_load) 13 = .ok (.aload_n 0, 1) := by decide +kernel
theorem qX4_load_14 : decode (mB mX4_load) 14 = .ok (.invokevirtual 378, 3) := by decide +kernel
theorem qX4_load_17 : decode (mB mX4_load) 17 = .ok (.aload_n 0, 1) := by decide +kernel
theorem qX4_load_18 : decode (mB mX4_load) 18 = .ok (.aload_n 0, 1) := by decide +kernel
theorem qX4_load_19 : decode (mB mX4_load) 19 = .ok (.getfield 17, 3) := by decide +kernel
theorem qX4_load_22 : decode (mB mX4_load) 22 = .ok (.putfield 24, 3) := by decide +kernel
theorem qX4_load_25 : decode (mB mX4_load) 25 = .ok (.aload_n 0, 1) := by decide +kernel
theorem qX4_load_26 : decode (mB mX4_load) 26 = .ok (.iconst 0, 1) := by decide +kernel
theorem qX4_load_27 : decode (mB mX4_load) 27 = .ok (.putfield 214, 3) := by decide +kernel
theorem qX4_load_30 : decode (mB mX4_load) 30 = .ok (.aload_n 0, 1) := by decide +kernel
theorem qX4_load_31 : decode (mB mX4_load) 31 = .ok (.aload_n 0, 1) := by decide +kernel
theorem qX4_load_32 : decode (mB mX4_load) 32 = .ok (.getfield 250, 3) := by decide +kernel
theorem qX4_load_35 : decode (mB mX4_load) 35 = .ok (.putfield 381, 3) := by decide +kernel
theorem qX4_load_38 : decode (mB mX4_load) 38 = .ok (.aload_n 0, 1) := by decide +kernel
theorem qX4_load_39 : decode (mB mX4_load) 39 = .ok (.aload_n 0, 1) := by decide +kernel
theorem qX4_load_40 : decode (mB mX4_load) 40 = .ok (.invokevirtual 269, 3) := by decide +kernel
theorem qX4_load_43 : decode (mB mX4_load) 43 = .ok (.ifCond .eq 7, 3) := by decide +kernel
theorem qX4_load_46 : decode (mB mX4_load) 46 = .ok (.iconst (-1), 1) := by decide +kernel
theorem qX4_load_47 : decode (mB mX4_load) 47 = .ok (.goto 7, 3) := by decide +kernel
theorem qX4_load_50 : decode (mB mX4_load) 50 = .ok (.aload_n 0, 1) := by decide +kernel
theorem qX4_load_51 : decode (mB mX4_load) 51 = .ok (.getfield 256, 3) := by decide +kernel
theorem qX4_load_54 : decode (mB mX4_load) 54 = .ok (.putfield 112, 3) := by decide +kernel
theorem qX4_load_57 : decode (mB mX4_load) 57 = .ok (.aload_n 0, 1) := by decide +kernel
theorem qX4_load_58 : decode (mB mX4_load) 58 = .ok (.invokevirtual 269, 3) := by decide +kernel
theorem qX4_load_61 : decode (mB mX4_load) 61 = .ok (.ifCond .ne 6, 3) := by decide +kernel
theorem qX4_load_64 : decode (mB mX4_load) 64 = .ok (.bipush (-7), 2) := by decide +kernel
theorem qX4_load_66 : decode (mB mX4_load) 66 = .ok (.ireturn, 1) := by decide +kernel
theorem qX4_load_67 : decode (mB mX4_load) 67 = .ok (.aload_n 0, 1) := by decide +kernel
theorem qX4_load_68 : decode (mB mX4_load) 68 = .ok (.invokevirtual 384, 3) := by decide +kernel
theorem qX4_load_71 : decode (mB mX4_load) 71 = .ok (.iconst 0, 1) := by decide +kernel
theorem qX4_load_72 : decode (mB mX4_load) 72 = .ok (.istore_n 1, 1) := by decide +kernel
theorem qX4_load_73 : decode (mB mX4_load) 73 = .ok (.iload_n 1, 1) := by decide +kernel
theorem qX4_load_74 : decode (mB mX4_load) 74 = .ok (.sipush 210, 3) := by decide +kernel
theorem qX4_load_77 : decode (mB mX4_load) 77 = .ok (.if_icmp .ge 21, 3) := by decide +kernel
theorem qX4_load_80 : decode (mB mX4_load) 80 = .ok (.aload_n 0, 1) := by decide +kernel
theorem qX4_load_81 : decode (mB mX4_load) 81 = .ok (.getfield 17, 3) := by decide +kernel
theorem qX4_load_84 : decode (mB mX4_load) 84 = .ok (.iload_n 1, 1) := by decide +kernel
theorem qX4_load_85 : decode (mB mX4_load) 85 = .ok (.aload_n 0, 1) := by decide +kernel
theorem qX4_load_86 : decode (mB mX4_load) 86 = .ok (.getfield 21, 3) := by decide +kernel
theorem qX4_load_89 : decode (mB mX4_load) 89 = .ok (.iload_n 1, 1) := by decide +kernel
theorem qX4_load_90 : decode (mB mX4_load) 90 = .ok (.iaload, 1) := by decide +kernel
theorem qX4_load_91 : decode (mB mX4_load) 91 = .ok (.iastore, 1) := by decide +kernel
theorem qX4_load_92 : decode (mB mX4_load) 92 = .ok (.iinc 1 1, 3) := by decide +kernel
theorem qX4_load_95 : decode (mB mX4_load) 95 = .ok (.goto (-22), 3) := by decide +kernel
theorem qX4_load_98 : decode (mB mX4_load) 98 = .ok (.aload_n 0, 1) := by decide +kernel
theorem qX4_load_99 : decode (mB mX4_load) 99 = .ok (.getfield 17, 3) := by decide +kernel
theorem qX4_load_102 : decode (mB mX4_load) 102 = .ok (.iconst 5, 1) := by decide +kernel
theorem qX4_load_103 : decode (mB mX4_load) 103 = .ok (.iaload, 1) := by decide +kernel
theorem qX4_load_104 : decode (mB mX4_load) 104 = .ok (.ireturn, 1) := by decide +kernel
theorem qX4_lose_0 : decode (mB mX4_lose) 0 = .ok (.aload_n 0, 1) := by decide +kernel
theorem qX4_lose_1 : decode (mB mX4_lose) 1 = .ok (.iload_n 1, 1) := by decide +kernel
theorem qX4_lose_2 : decode (mB mX4_lose) 2 = .ok (.iconst 0, 1) := by decide +kernel
theorem qX4_lose_3 : decode (mB mX4_lose) 3 = .ok (.invokevirtual 148, 3) := by decide +kernel
theorem qX4_lose_6 : decode (mB mX4_lose) 6 = .ok (.istore_n 3, 1) := by decide +kernel
theorem qX4_lose_7 : decode (mB mX4_lose) 7 = .ok (.aload_n 0, 1) := by decide +kernel
theorem qX4_lose_8 : decode (mB mX4_lose) 8 = .ok (.iload_n 1, 1) := by decide +kernel
theorem qX4_lose_9 : decode (mB mX4_lose) 9 = .ok (.iconst 4, 1) := by decide +kernel
theorem qX4_lose_10 : decode (mB mX4_lose) 10 = .ok (.aload_n 0, 1) := by decide +kernel
theorem qX4_lose_11 : decode (mB mX4_lose) 11 = .ok (.iload_n 1, 1) := by decide +kernel
theorem qX4_lose_12 : decode (mB mX4_lose) 12 = .ok (.iconst 4, 1) := by decide +kernel
theorem qX4_lose_13 : decode (mB mX4_lose) 13 = .ok (.invokevirtual 148, 3) := by decide +kernel
theorem qX4_lose_16 : decode (mB mX4_lose) 16 = .ok (.iload_n 2, 1) := by decide +kernel
theorem qX4_lose_17 : decode (mB mX4_lose) 17 = .ok (.isub, 1) := by decide +kernel
theorem qX4_lose_18 : decode (mB mX4_lose) 18 = .ok (.invokevirtual 137, 3) := by decide +kernel
theorem qX4_lose_21 : decode (mB mX4_lose) 21 = .ok (.aload_n 0, 1) := by decide +kernel
theorem qX4_lose_22 : decode (mB mX4_lose) 22 = .ok (.getfield 24, 3) := by decide +kernel
theorem qX4_lose_25 : decode (mB mX4_lose) 25 = .ok (.bipush 10, 2) := by decide +kernel
theorem qX4_lose_27 : decode (mB mX4_lose) 27 = .ok (.iconst 4, 1) := by decide +kernel
theorem qX4_lose_28 : decode (mB mX4_lose) 28 = .ok (.iload_n 3, 1) := by decide +kernel
theorem qX4_lose_29 : decode (mB mX4_lose) 29 = .ok (.imul, 1) := by decide +kernel
theorem qX4_lose_30 : decode (mB mX4_lose) 30 = .ok (.iadd, 1) := by decide +kernel
theorem qX4_lose_31 : decode (mB mX4_lose) 31 = .ok (.iconst 3, 1) := by decide +kernel
theorem qX4_lose_32 : decode (mB mX4_lose) 32 = .ok (.iadd, 1) := by decide +kernel
theorem qX4_lose_33 : decode (mB mX4_lose) 33 = .ok (.dup2, 1) := by decide +kernel
theorem qX4_lose_34 : decode (mB mX4_lose) 34 = .ok (.iaload, 1) := by decide +kernel
theorem qX4_lose_35 : decode (mB mX4_lose) 35 = .ok (.iload_n 2, 1) := by decide +kernel
theorem qX4_lose_36 : decode (mB mX4_lose) 36 = .ok (.iadd, 1) := by decide +kernel
theorem qX4_lose_37 : decode (mB mX4_lose) 37 = .ok (.iastore, 1) := by decide +kernel
theorem qX4_lose_38 : decode (mB mX4_lose) 38 = .ok (.return_, 1) := by decide +kernel
theorem qX4_lossAfter_0 : decode (mB mX4_lossAfter) 0 = .ok (.aload_n 0, 1) := by decide +kernel
theorem qX4_lossAfter_1 : decode (mB mX4_lossAfter) 1 = .ok (.iload_n 1, 1) := by decide +kernel
theorem qX4_lossAfter_2 : decode (mB mX4_lossAfter) 2 = .ok (.invokestatic 442, 3) := by decide +kernel
theorem qX4_lossAfter_5 : decode (mB mX4_lossAfter) 5 = .ok (.invokevirtual 371, 3) := by decide +kernel
theorem qX4_lossAfter_8 : decode (mB mX4_lossAfter) 8 = .ok (.ifCond .ne 5, 3) := by decide +kernel
theorem qX4_lossAfter_11 : decode (mB mX4_lossAfter) 11 = .ok (.iconst 0, 1) := by decide +kernel
theorem qX4_lossAfter_12 : decode (mB mX4_lossAfter) 12 = .ok (.ireturn, 1) := by decide +kernel
theorem qX4_lossAfter_13 : decode (mB mX4_lossAfter) 13 = .ok (.aload_n 0, 1) := by decide +kernel
theorem qX4_lossAfter_14 : decode (mB mX4_lossAfter) 14 = .ok (.invokevirtual 451, 3) := by decide +kernel
theorem qX4_lossAfter_17 : decode (mB mX4_lossAfter) 17 = .ok (.istore_n 2, 1) := by decide +kernel
theorem qX4_lossAfter_18 : decode (mB mX4_lossAfter) 18 = .ok (.aload_n 0, 1) := by decide +kernel
theorem qX4_lossAfter_19 : decode (mB mX4_lossAfter) 19 = .ok (.invokevirtual 445, 3) := by decide +kernel
theorem qX4_lossAfter_22 : decode (mB mX4_lossAfter) 22 = .ok (.aload_n 0, 1) := by decide +kernel
theorem qX4_lossAfter_23 : decode (mB mX4_lossAfter) 23 = .ok (.iload_n 1, 1) := by decide +kernel
theorem qX4_lossAfter_24 : decode (mB mX4_lossAfter) 24 = .ok (.invokevirtual 140, 3) := by decide +kernel
theorem qX4_lossAfter_27 : decode (mB mX4_lossAfter) 27 = .ok (.aload_n 0, 1) := by decide +kernel
theorem qX4_lossAfter_28 : decode (mB mX4_lossAfter) 28 = .ok (.aload_n 0, 1) := by decide +kernel
theorem qX4_lossAfter_29 : decode (mB mX4_lossAfter) 29 = .ok (.invokevirtual 451, 3) := by decide +kernel
theorem qX4_lossAfter_32 : decode (mB mX4_lossAfter) 32 = .ok (.iload_n 2, 1) := by decide +kernel
theorem qX4_lossAfter_33 : decode (mB mX4_lossAfter) 33 = .ok (.isub, 1) := by decide +kernel
theorem qX4_lossAfter_34 : decode (mB mX4_lossAfter) 34 = .ok (.invokevirtual 448, 3) := by decide +kernel
theorem qX4_lossAfter_37 : decode (mB mX4_lossAfter) 37 = .ok (.ireturn, 1) := by decide +kernel
theorem qX4_lostAll_0 : decode (mB mX4_lostAll) 0 = .ok (.iconst 0, 1) := by decide +kernel
theorem qX4_lostAll_1 : decode (mB mX4_lostAll) 1 = .ok (.istore_n 1, 1) := by decide +kernel
theorem qX4_lostAll_2 : decode (mB mX4_lostAll) 2 = .ok (.iconst 0, 1) := by decide +kernel
theorem qX4_lostAll_3 : decode (mB mX4_lostAll) 3 = .ok (.istore_n 2, 1) := by decide +kernel
theorem qX4_lostAll_4 : decode (mB mX4_lostAll) 4 = .ok (.iload_n 2, 1) := by decide +kernel
theorem qX4_lostAll_5 : decode (mB mX4_lostAll) 5 = .ok (.aload_n 0, 1) := by decide +kernel
theorem qX4_lostAll_6 : decode (mB mX4_lostAll) 6 = .ok (.getfield 24, 3) := by decide +kernel
theorem qX4_lostAll_9 : decode (mB mX4_lostAll) 9 = .ok (.iconst 3, 1) := by decide +kernel
theorem qX4_lostAll_10 : decode (mB mX4_lostAll) 10 = .ok (.iaload, 1) := by decide +kernel
theorem qX4_lostAll_11 : decode (mB mX4_lostAll) 11 = .ok (.if_icmp .ge 18, 3) := by decide +kernel
theorem qX4_lostAll_14 : decode (mB mX4_lostAll) 14 = .ok (.iload_n 1, 1) := by decide +kernel
theorem qX4_lostAll_15 : decode (mB mX4_lostAll) 15 = .ok (.aload_n 0, 1) := by decide +kernel
theorem qX4_lostAll_16 : decode (mB mX4_lostAll) 16 = .ok (.iload_n 2, 1) := by decide +kernel
theorem qX4_lostAll_17 : decode (mB mX4_lostAll) 17 = .ok (.iconst 3, 1) := by decide +kernel
theorem qX4_lostAll_18 : decode (mB mX4_lostAll) 18 = .ok (.invokevirtual 152, 3) := by decide +kernel
theorem qX4_lostAll_21 : decode (mB mX4_lostAll) 21 = .ok (.iadd, 1) := by decide +kernel
theorem qX4_lostAll_22 : decode (mB mX4_lostAll) 22 = .ok (.istore_n 1, 1) := by decide +kernel
theorem qX4_lostAll_23 : decode (mB mX4_lostAll) 23 = .ok (.iinc 2 1, 3) := by decide +kernel
theorem qX4_lostAll_26 : decode (mB mX4_lostAll) 26 = .ok (.goto (-22), 3) := by decide +kernel
theorem qX4_lostAll_29 : decode (mB mX4_lostAll) 29 = .ok (.iload_n 1, 1) := by decide +kernel
theorem qX4_lostAll_30 : decode (mB mX4_lostAll) 30 = .ok (.ireturn, 1) := by decide +kernel
theorem qX4_mark_0 : decode (mB mX4_mark) 0 = .ok (.aload_n 0, 1) := by decide +kernel
theorem qX4_mark_1 : decode (mB mX4_mark) 1 = .ok (.iload_n 1, 1) := by decide +kernel
theorem qX4_mark_2 : decode (mB mX4_mark) 2 = .ok (.invokevirtual 396, 3) := by decide +kernel
theorem qX4_mark_5 : decode (mB mX4_mark) 5 = .ok (.istore_n 2, 1) := by decide +kernel
theorem qX4_mark_6 : decode (mB mX4_mark) 6 = .ok (.aload_n 0, 1) := by decide +kernel
theorem qX4_mark_7 : decode (mB mX4_mark) 7 = .ok (.iload_n 2, 1) := by decide +kernel
theorem qX4_mark_8 : decode (mB mX4_mark) 8 = .ok (.iload_n 2, 1) := by decide +kernel
theorem qX4_mark_9 : decode (mB mX4_mark) 9 = .ok (.ifCond .eq 15, 3) := by decide +kernel
theorem qX4_mark_12 : decode (mB mX4_mark) 12 = .ok (.aload_n 0, 1) := by decide +kernel
theorem qX4_mark_13 : decode (mB mX4_mark) 13 = .ok (.iload_n 1, 1) := by decide +kernel
theorem qX4_mark_14 : decode (mB mX4_mark) 14 = .ok (.invokevirtual 317, 3) := by decide +kernel
theorem qX4_mark_17 : decode (mB mX4_mark) 17 = .ok (.ifCond .ne 7, 3) := by decide +kernel
theorem qX4_mark_20 : decode (mB mX4_mark) 20 = .ok (.iconst 1, 1) := by decide +kernel
theorem qX4_mark_21 : decode (mB mX4_mark) 21 = .ok (.goto 4, 3) := by decide +kernel
theorem qX4_mark_24 : decode (mB mX4_mark) 24 = .ok (.iconst 0, 1) := by decide +kernel
theorem qX4_mark_25 : decode (mB mX4_mark) 25 = .ok (.invokevirtual 409, 3) := by decide +kernel
theorem qX4_mark_28 : decode (mB mX4_mark) 28 = .ok (.ifCond .ne 5, 3) := by decide +kernel
theorem qX4_mark_31 : decode (mB mX4_mark) 31 = .ok (.iconst 0, 1) := by decide +kernel
theorem qX4_mark_32 : decode (mB mX4_mark) 32 = .ok (.ireturn, 1) := by decide +kernel
theorem qX4_mark_33 : decode (mB mX4_mark) 33 = .ok (.aload_n 0, 1) := by decide +kernel
theorem qX4_mark_34 : decode (mB mX4_mark) 34 = .ok (.invokevirtual 384, 3) := by decide +kernel
theorem qX4_mark_37 : decode (mB mX4_mark) 37 = .ok (.aload_n 0, 1) := by decide +kernel
theorem qX4_mark_38 : decode (mB mX4_mark) 38 = .ok (.iload_n 1, 1) := by decide +kernel
theorem qX4_mark_39 : decode (mB mX4_mark) 39 = .ok (.invokevirtual 144, 3) := by decide +kernel
theorem qX4_mark_42 : decode (mB mX4_mark) 42 = .ok (.ireturn, 1) := by decide +kernel
theorem qX4_markNow_0 : decode (mB mX4_markNow) 0 = .ok (.aload_n 0, 1) := by decide +kernel
theorem qX4_markNow_1 : decode (mB mX4_markNow) 1 = .ok (.iload_n 1, 1) := by decide +kernel
theorem qX4_markNow_2 : decode (mB mX4_markNow) 2 = .ok (.bipush 8, 2) := by decide +kernel
theorem qX4_markNow_4 : decode (mB mX4_markNow) 4 = .ok (.invokevirtual 148, 3) := by decide +kernel
theorem qX4_markNow_7 : decode (mB mX4_markNow) 7 = .ok (.istore_n 2, 1) := by decide +kernel
theorem qX4_markNow_8 : decode (mB mX4_markNow) 8 = .ok (.aload_n 0, 1) := by decide +kernel
theorem qX4_markNow_9 : decode (mB mX4_markNow) 9 = .ok (.iload_n 1, 1) := by decide +kernel
theorem qX4_markNow_10 : decode (mB mX4_markNow) 10 = .ok (.bipush 9, 2) := by decide +kernel
theorem qX4_markNow_12 : decode (mB mX4_markNow) 12 = .ok (.iconst 2, 1) := by decide +kernel
theorem qX4_markNow_13 : decode (mB mX4_markNow) 13 = .ok (.iload_n 2, 1) := by decide +kernel
theorem qX4_markNow_14 : decode (mB mX4_markNow) 14 = .ok (.imul, 1) := by decide +kernel
theorem qX4_markNow_15 : decode (mB mX4_markNow) 15 = .ok (.iadd, 1) := by decide +kernel
theorem qX4_markNow_16 : decode (mB mX4_markNow) 16 = .ok (.aload_n 0, 1) := by decide +kernel
theorem qX4_markNow_17 : decode (mB mX4_markNow) 17 = .ok (.aload_n 0, 1) := by decide +kernel
theorem qX4_markNow_18 : decode (mB mX4_markNow) 18 = .ok (.iload_n 1, 1) := by decide +kernel
theorem qX4_markNow_19 : decode (mB mX4_markNow) 19 = .ok (.bipush 7, 2) := by decide +kernel
theorem qX4_markNow_21 : decode (mB mX4_markNow) 21 = .ok (.invokevirtual 148, 3) := by decide +kernel
theorem qX4_markNow_24 : decode (mB mX4_markNow) 24 = .ok (.iconst 2, 1) := by decide +kernel
theorem qX4_markNow_25 : decode (mB mX4_markNow) 25 = .ok (.invokevirtual 166, 3) := by decide +kernel
theorem qX4_markNow_28 : decode (mB mX4_markNow) 28 = .ok (.invokevirtual 137, 3) := by decide +kernel
theorem qX4_markNow_31 : decode (mB mX4_markNow) 31 = .ok (.aload_n 0, 1) := by decide +kernel
theorem qX4_markNow_32 : decode (mB mX4_markNow) 32 = .ok (.iload_n 1, 1) := by decide +kernel
theorem qX4_markNow_33 : decode (mB mX4_markNow) 33 = .ok (.bipush 9, 2) := by decide +kernel
theorem qX4_markNow_35 : decode (mB mX4_markNow) 35 = .ok (.iconst 2, 1) := by decide +kernel
theorem qX4_markNow_36 : decode (mB mX4_markNow) 36 = .ok (.iload_n 2, 1) := by decide +kernel
theorem qX4_markNow_37 : decode (mB mX4_markNow) 37 = .ok (.imul, 1) := by decide +kernel
theorem qX4_markNow_38 : decode (mB mX4_markNow) 38 = .ok (.iadd, 1) := by decide +kernel
theorem qX4_markNow_39 : decode (mB mX4_markNow) 39 = .ok (.iconst 1, 1) := by decide +kernel
theorem qX4_markNow_40 : decode (mB mX4_markNow) 40 = .ok (.iadd, 1) := by decide +kernel
theorem qX4_markNow_41 : decode (mB mX4_markNow) 41 = .ok (.aload_n 0, 1) := by decide +kernel
theorem qX4_markNow_42 : decode (mB mX4_markNow) 42 = .ok (.iload_n 1, 1) := by decide +kernel
theorem qX4_markNow_43 : decode (mB mX4_markNow) 43 = .ok (.invokevirtual 186, 3) := by decide +kernel
theorem qX4_markNow_46 : decode (mB mX4_markNow) 46 = .ok (.invokevirtual 137, 3) := by decide +kernel
theorem qX4_markNow_49 : decode (mB mX4_markNow) 49 = .ok (.aload_n 0, 1) := by decide +kernel
theorem qX4_markNow_50 : decode (mB mX4_markNow) 50 = .ok (.iload_n 1, 1) := by decide +kernel
theorem qX4_markNow_51 : decode (mB mX4_markNow) 51 = .ok (.bipush 8, 2) := by decide +kernel
theorem qX4_markNow_53 : decode (mB mX4_markNow) 53 = .ok (.iload_n 2, 1) := by decide +kernel
theorem qX4_markNow_54 : decode (mB mX4_markNow) 54 = .ok (.iconst 1, 1) := by decide +kernel
theorem qX4_markNow_55 : decode (mB mX4_markNow) 55 = .ok (.iadd, 1) := by decide +kernel
theorem qX4_markNow_56 : decode (mB mX4_markNow) 56 = .ok (.invokevirtual 137, 3) := by decide +kernel
theorem qX4_markNow_59 : decode (mB mX4_markNow) 59 = .ok (.iload_n 2, 1) := by decide +kernel
theorem qX4_markNow_60 : decode (mB mX4_markNow) 60 = .ok (.iconst 1, 1) := by decide +kernel
theorem qX4_markNow_61 : decode (mB mX4_markNow) 61 = .ok (.iadd, 1) := by decide +kernel
theorem qX4_markNow_62 : decode (mB mX4_markNow) 62 = .ok (.ireturn, 1) := by decide +kernel
theorem qX4_markRefusal_0 : decode (mB mX4_markRefusal) 0 = .ok (.aload_n 0, 1) := by decide +kernel
theorem qX4_markRefusal_1 : decode (mB mX4_markRefusal) 1 = .ok (.aload_n 0, 1) := by decide +kernel
theorem qX4_markRefusal_2 : decode (mB mX4_markRefusal) 2 = .ok (.iload_n 1, 1) := by decide +kernel
theorem qX4_markRefusal_3 : decode (mB mX4_markRefusal) 3 = .ok (.invokevirtual 396, 3) := by decide +kernel
theorem qX4_markRefusal_6 : decode (mB mX4_markRefusal) 6 = .ok (.invokevirtual 371, 3) := by decide +kernel
theorem qX4_markRefusal_9 : decode (mB mX4_markRefusal) 9 = .ok (.ifCond .eq 11, 3) := by decide +kernel
theorem qX4_markRefusal_12 : decode (mB mX4_markRefusal) 12 = .ok (.aload_n 0, 1) := by decide +kernel
theorem qX4_markRefusal_13 : decode (mB mX4_markRefusal) 13 = .ok (.iload_n 1, 1) := by decide +kernel
theorem qX4_markRefusal_14 : decode (mB mX4_markRefusal) 14 = .ok (.invokevirtual 317, 3) := by decide +kernel
theorem qX4_markRefusal_17 : decode (mB mX4_markRefusal) 17 = .ok (.goto 4, 3) := by decide +kernel
theorem qX4_markRefusal_20 : decode (mB mX4_markRefusal) 20 = .ok (.iconst 0, 1) := by decide +kernel
theorem qX4_markRefusal_21 : decode (mB mX4_markRefusal) 21 = .ok (.ireturn, 1) := by decide +kernel
theorem qX4_meanHeight_0 : decode (mB mX4_meanHeight) 0 = .ok (.aload_n 0, 1) := by decide +kernel
theorem qX4_meanHeight_1 : decode (mB mX4_meanHeight) 1 = .ok (.iconst 0, 1) := by decide +kernel
theorem qX4_meanHeight_2 : decode (mB mX4_meanHeight) 2 = .ok (.putfield 3, 3) := by decide +kernel
theorem qX4_meanHeight_5 : decode (mB mX4_meanHeight) 5 = .ok (.iconst 0, 1) := by decide +kernel
theorem qX4_meanHeight_6 : decode (mB mX4_meanHeight) 6 = .ok (.istore_n 1, 1) := by decide +kernel
theorem qX4_meanHeight_7 : decode (mB mX4_meanHeight) 7 = .ok (.iconst 0, 1) := by decide +kernel
theorem qX4_meanHeight_8 : decode (mB mX4_meanHeight) 8 = .ok (.istore_n 2, 1) := by decide +kernel
theorem qX4_meanHeight_9 : decode (mB mX4_meanHeight) 9 = .ok (.iload_n 2, 1) := by decide +kernel
theorem qX4_meanHeight_10 : decode (mB mX4_meanHeight) 10 = .ok (.aload_n 0, 1) := by decide +kernel
theorem qX4_meanHeight_11 : decode (mB mX4_meanHeight) 11 = .ok (.getfield 17, 3) := by decide +kernel
theorem qX4_meanHeight_14 : decode (mB mX4_meanHeight) 14 = .ok (.iconst 5, 1) := by decide +kernel
theorem qX4_meanHeight_15 : decode (mB mX4_meanHeight) 15 = .ok (.iaload, 1) := by decide +kernel
theorem qX4_meanHeight_16 : decode (mB mX4_meanHeight) 16 = .ok (.if_icmp .ge 17, 3) := by decide +kernel
theorem qX4_meanHeight_19 : decode (mB mX4_meanHeight) 19 = .ok (.iload_n 1, 1) := by decide +kernel
theorem qX4_meanHeight_20 : decode (mB mX4_meanHeight) 20 = .ok (.aload_n 0, 1) := by decide +kernel
theorem qX4_meanHeight_21 : decode (mB mX4_meanHeight) 21 = .ok (.iload_n 2, 1) := by decide +kernel
theorem qX4_meanHeight_22 : decode (mB mX4_meanHeight) 22 = .ok (.invokevirtual 186, 3) := by decide +kernel
theorem qX4_meanHeight_25 : decode (mB mX4_meanHeight) 25 = .ok (.iadd, 1) := by decide +kernel
theorem qX4_meanHeight_26 : decode (mB mX4_meanHeight) 26 = .ok (.istore_n 1, 1) := by decide +kernel
theorem qX4_meanHeight_27 : decode (mB mX4_meanHeight) 27 = .ok (.iinc 2 1, 3) := by decide +kernel
theorem qX4_meanHeight_30 : decode (mB mX4_meanHeight) 30 = .ok (.goto (-21), 3) := by decide +kernel
theorem qX4_meanHeight_33 : decode (mB mX4_meanHeight) 33 = .ok (.aload_n 0, 1) := by decide +kernel
theorem qX4_meanHeight_34 : decode (mB mX4_meanHeight) 34 = .ok (.getfield 17, 3) := by decide +kernel
theorem qX4_meanHeight_37 : decode (mB mX4_meanHeight) 37 = .ok (.iconst 5, 1) := by decide +kernel
theorem qX4_meanHeight_38 : decode (mB mX4_meanHeight) 38 = .ok (.iaload, 1) := by decide +kernel
theorem qX4_meanHeight_39 : decode (mB mX4_meanHeight) 39 = .ok (.ifCond .ne 7, 3) := by decide +kernel
theorem qX4_meanHeight_42 : decode (mB mX4_meanHeight) 42 = .ok (.dconst 0, 1) := by decide +kernel
theorem qX4_meanHeight_43 : decode (mB mX4_meanHeight) 43 = .ok (.goto 13, 3) := by decide +kernel
theorem qX4_meanHeight_46 : decode (mB mX4_meanHeight) 46 = .ok (.iload_n 1, 1) := by decide +kernel
theorem qX4_meanHeight_47 : decode (mB mX4_meanHeight) 47 = .ok (.i2d, 1) := by decide +kernel
theorem qX4_meanHeight_48 : decode (mB mX4_meanHeight) 48 = .ok (.aload_n 0, 1) := by decide +kernel
theorem qX4_meanHeight_49 : decode (mB mX4_meanHeight) 49 = .ok (.getfield 17, 3) := by decide +kernel
theorem qX4_meanHeight_52 : decode (mB mX4_meanHeight) 52 = .ok (.iconst 5, 1) := by decide +kernel
theorem qX4_meanHeight_53 : decode (mB mX4_meanHeight) 53 = .ok (.iaload, 1) := by decide +kernel
theorem qX4_meanHeight_54 : decode (mB mX4_meanHeight) 54 = .ok (.i2d, 1) := by decide +kernel
theorem qX4_meanHeight_55 : decode (mB mX4_meanHeight) 55 = .ok (.ddiv, 1) := by decide +kernel
theorem qX4_meanHeight_56 : decode (mB mX4_meanHeight) 56 = .ok (.dreturn, 1) := by decide +kernel
theorem qX4_minute_0 : decode (mB mX4_minute) 0 = .ok (.aload_n 0, 1) := by decide +kernel
theorem qX4_minute_1 : decode (mB mX4_minute) 1 = .ok (.iconst 2, 1) := by decide +kernel
theorem qX4_minute_2 : decode (mB mX4_minute) 2 = .ok (.invokevirtual 387, 3) := by decide +kernel
theorem qX4_minute_5 : decode (mB mX4_minute) 5 = .ok (.ireturn, 1) := by decide +kernel
theorem qX4_minutesUntilHeight_0 : decode (mB mX4_minutesUntilHeight) 0 = .ok (.aload_n 0, 1) := by decide +kernel
theorem qX4_minutesUntilHeight_1 : decode (mB mX4_minutesUntilHeight) 1 = .ok (.aload_n 0, 1) := by decide +kernel
theorem qX4_minutesUntilHeight_2 : decode (mB mX4_minutesUntilHeight) 2 = .ok (.iload_n 1, 1) := by decide +kernel
theorem qX4_minutesUntilHeight_3 : decode (mB mX4_minutesUntilHeight) 3 = .ok (.invokevirtual 396, 3) := by decide +kernel
theorem qX4_minutesUntilHeight_6 : decode (mB mX4_minutesUntilHeight) 6 = .ok (.iload_n 2, 1) := by decide +kernel
theorem qX4_minutesUntilHeight_7 : decode (mB mX4_minutesUntilHeight) 7 = .ok (.invokestatic 427, 3) := by decide +kernel
theorem qX4_minutesUntilHeight_10 : decode (mB mX4_minutesUntilHeight) 10 = .ok (.invokevirtual 409, 3) := by decide +kernel
theorem qX4_minutesUntilHeight_13 : decode (mB mX4_minutesUntilHeight) 13 = .ok (.ifCond .ne 5, 3) := by decide +kernel
theorem qX4_minutesUntilHeight_16 : decode (mB mX4_minutesUntilHeight) 16 = .ok (.iconst 0, 1) := by decide +kernel
theorem qX4_minutesUntilHeight_17 : decode (mB mX4_minutesUntilHeight) 17 = .ok (.ireturn, 1) := by decide +kernel
theorem qX4_minutesUntilHeight_18 : decode (mB mX4_minutesUntilHeight) 18 = .ok (.aload_n 0, 1) := by decide +kernel
theorem qX4_minutesUntilHeight_19 : decode (mB mX4_minutesUntilHeight) 19 = .ok (.invokevirtual 445, 3) := by decide +kernel
theorem qX4_minutesUntilHeight_22 : decode (mB mX4_minutesUntilHeight) 22 = .ok (.iconst 0, 1) := by decide +kernel
theorem qX4_minutesUntilHeight_23 : decode (mB mX4_minutesUntilHeight) 23 = .ok (.istore_n 3, 1) := by decide +kernel
theorem qX4_minutesUntilHeight_24 : decode (mB mX4_minutesUntilHeight) 24 = .ok (.iload_n 3, 1) := by decide +kernel
theorem qX4_minutesUntilHeight_25 : decode (mB mX4_minutesUntilHeight) 25 = .ok (.sipush 300, 3) := by decide +kernel
theorem qX4_minutesUntilHeight_28 : decode (mB mX4_minutesUntilHeight) 28 = .ok (.if_icmp .gt 29, 3) := by decide +kernel
theorem qX4_minutesUntilHeight_31 : decode (mB mX4_minutesUntilHeight) 31 = .ok (.aload_n 0, 1) := by decide +kernel
theorem qX4_minutesUntilHeight_32 : decode (mB mX4_minutesUntilHeight) 32 = .ok (.iload_n 1, 1) := by decide +kernel
theorem qX4_minutesUntilHeight_33 : decode (mB mX4_minutesUntilHeight) 33 = .ok (.invokevirtual 186, 3) := by decide +kernel
theorem qX4_minutesUntilHeight_36 : decode (mB mX4_minutesUntilHeight) 36 = .ok (.iload_n 2, 1) := by decide +kernel
theorem qX4_minutesUntilHeight_37 : decode (mB mX4_minutesUntilHeight) 37 = .ok (.if_icmp .lt 9, 3) := by decide +kernel
theorem qX4_minutesUntilHeight_40 : decode (mB mX4_minutesUntilHeight) 40 = .ok (.aload_n 0, 1) := by decide +kernel
theorem qX4_minutesUntilHeight_41 : decode (mB mX4_minutesUntilHeight) 41 = .ok (.iload_n 3, 1) := by decide +kernel
theorem qX4_minutesUntilHeight_42 : decode (mB mX4_minutesUntilHeight) 42 = .ok (.invokevirtual 448, 3) := by decide +kernel
theorem qX4_minutesUntilHeight_45 : decode (mB mX4_minutesUntilHeight) 45 = .ok (.ireturn, 1) := by decide +kernel
theorem qX4_minutesUntilHeight_46 : decode (mB mX4_minutesUntilHeight) 46 = .ok (.aload_n 0, 1) := by decide +kernel
theorem qX4_minutesUntilHeight_47 : decode (mB mX4_minutesUntilHeight) 47 = .ok (.iconst 1, 1) := by decide +kernel
theorem qX4_minutesUntilHeight_48 : decode (mB mX4_minutesUntilHeight) 48 = .ok (.invokevirtual 140, 3) := by decide +kernel
theorem qX4_minutesUntilHeight_51 : decode (mB mX4_minutesUntilHeight) 51 = .ok (.iinc 3 1, 3) := by decide +kernel
theorem qX4_minutesUntilHeight_54 : decode (mB mX4_minutesUntilHeight) 54 = .ok (.goto (-30), 3) := by decide +kernel
theorem qX4_minutesUntilHeight_57 : decode (mB mX4_minutesUntilHeight) 57 = .ok (.aload_n 0, 1) := by decide +kernel
theorem qX4_minutesUntilHeight_58 : decode (mB mX4_minutesUntilHeight) 58 = .ok (.iconst (-1), 1) := by decide +kernel
theorem qX4_minutesUntilHeight_59 : decode (mB mX4_minutesUntilHeight) 59 = .ok (.invokevirtual 448, 3) := by decide +kernel
theorem qX4_minutesUntilHeight_62 : decode (mB mX4_minutesUntilHeight) 62 = .ok (.ireturn, 1) := by decide +kernel
theorem qX4_minutesUntilSettled_0 : decode (mB mX4_minutesUntilSettled) 0 = .ok (.aload_n 0, 1) := by decide +kernel
theorem qX4_minutesUntilSettled_1 : decode (mB mX4_minutesUntilSettled) 1 = .ok (.aload_n 0, 1) := by decide +kernel
theorem qX4_minutesUntilSettled_2 : decode (mB mX4_minutesUntilSettled) 2 = .ok (.iload_n 1, 1) := by decide +kernel
theorem qX4_minutesUntilSettled_3 : decode (mB mX4_minutesUntilSettled) 3 = .ok (.invokevirtual 396, 3) := by decide +kernel
theorem qX4_minutesUntilSettled_6 : decode (mB mX4_minutesUntilSettled) 6 = .ok (.invokevirtual 371, 3) := by decide +kernel
theorem qX4_minutesUntilSettled_9 : decode (mB mX4_minutesUntilSettled) 9 = .ok (.ifCond .ne 5, 3) := by decide +kernel
theorem qX4_minutesUntilSettled_12 : decode (mB mX4_minutesUntilSettled) 12 = .ok (.iconst 0, 1) := by decide +kernel
theorem qX4_minutesUntilSettled_13 : decode (mB mX4_minutesUntilSettled) 13 = .ok (.ireturn, 1) := by decide +kernel
theorem qX4_minutesUntilSettled_14 : decode (mB mX4_minutesUntilSettled) 14 = .ok (.aload_n 0, 1) := by decide +kernel
theorem qX4_minutesUntilSettled_15 : decode (mB mX4_minutesUntilSettled) 15 = .ok (.invokevirtual 445, 3) := by decide +kernel
theorem qX4_minutesUntilSettled_18 : decode (mB mX4_minutesUntilSettled) 18 = .ok (.iconst 0, 1) := by decide +kernel
theorem qX4_minutesUntilSettled_19 : decode (mB mX4_minutesUntilSettled) 19 = .ok (.istore_n 2, 1) := by decide +kernel
theorem qX4_minutesUntilSettled_20 : decode (mB mX4_minutesUntilSettled) 20 = .ok (.iload_n 2, 1) := by decide +kernel
theorem qX4_minutesUntilSettled_21 : decode (mB mX4_minutesUntilSettled) 21 = .ok (.sipush 300, 3) := by decide +kernel
theorem qX4_minutesUntilSettled_24 : decode (mB mX4_minutesUntilSettled) 24 = .ok (.if_icmp .gt 28, 3) := by decide +kernel
theorem qX4_minutesUntilSettled_27 : decode (mB mX4_minutesUntilSettled) 27 = .ok (.aload_n 0, 1) := by decide +kernel
theorem qX4_minutesUntilSettled_28 : decode (mB mX4_minutesUntilSettled) 28 = .ok (.iload_n 1, 1) := by decide +kernel
theorem qX4_minutesUntilSettled_29 : decode (mB mX4_minutesUntilSettled) 29 = .ok (.invokevirtual 178, 3) := by decide +kernel
theorem qX4_minutesUntilSettled_32 : decode (mB mX4_minutesUntilSettled) 32 = .ok (.ifCond .eq 9, 3) := by decide +kernel
theorem qX4_minutesUntilSettled_35 : decode (mB mX4_minutesUntilSettled) 35 = .ok (.aload_n 0, 1) := by decide +kernel
theorem qX4_minutesUntilSettled_36 : decode (mB mX4_minutesUntilSettled) 36 = .ok (.iload_n 2, 1) := by decide +kernel
theorem qX4_minutesUntilSettled_37 : decode (mB mX4_minutesUntilSettled) 37 = .ok (.invokevirtual 448, 3) := by decide +kernel
theorem qX4_minutesUntilSettled_40 : decode (mB mX4_minutesUntilSettled) 40 = .ok (.ireturn, 1) := by decide +kernel
theorem qX4_minutesUntilSettled_41 : decode (mB mX4_minutesUntilSettled) 41 = .ok (.aload_n 0, 1) := by decide +kernel
theorem qX4_minutesUntilSettled_42 : decode (mB mX4_minutesUntilSettled) 42 = .ok (.iconst 1, 1) := by decide +kernel
theorem qX4_minutesUntilSettled_43 : decode (mB mX4_minutesUntilSettled) 43 = .ok (.invokevirtual 140, 3) := by decide +kernel
theorem qX4_minutesUntilSettled_46 : decode (mB mX4_minutesUntilSettled) 46 = .ok (.iinc 2 1, 3) := by decide +kernel
theorem qX4_minutesUntilSettled_49 : decode (mB mX4_minutesUntilSettled) 49 = .ok (.goto (-29), 3) := by decide +kernel
theorem qX4_minutesUntilSettled_52 : decode (mB mX4_minutesUntilSettled) 52 = .ok (.aload_n 0, 1) := by decide +kernel
theorem qX4_minutesUntilSettled_53 : decode (mB mX4_minutesUntilSettled) 53 = .ok (.iconst (-1), 1) := by decide +kernel
theorem qX4_minutesUntilSettled_54 : decode (mB mX4_minutesUntilSettled) 54 = .ok (.invokevirtual 448, 3) := by decide +kernel
theorem qX4_minutesUntilSettled_57 : decode (mB mX4_minutesUntilSettled) 57 = .ok (.ireturn, 1) := by decide +kernel
theorem qX4_minutesUntilSpill_0 : decode (mB mX4_minutesUntilSpill) 0 = .ok (.aload_n 0, 1) := by decide +kernel
theorem qX4_minutesUntilSpill_1 : decode (mB mX4_minutesUntilSpill) 1 = .ok (.aload_n 0, 1) := by decide +kernel
theorem qX4_minutesUntilSpill_2 : decode (mB mX4_minutesUntilSpill) 2 = .ok (.iload_n 1, 1) := by decide +kernel
theorem qX4_minutesUntilSpill_3 : decode (mB mX4_minutesUntilSpill) 3 = .ok (.invokevirtual 396, 3) := by decide +kernel
theorem qX4_minutesUntilSpill_6 : decode (mB mX4_minutesUntilSpill) 6 = .ok (.invokevirtual 371, 3) := by decide +kernel
theorem qX4_minutesUntilSpill_9 : decode (mB mX4_minutesUntilSpill) 9 = .ok (.ifCond .ne 5, 3) := by decide +kernel
theorem qX4_minutesUntilSpill_12 : decode (mB mX4_minutesUntilSpill) 12 = .ok (.iconst 0, 1) := by decide +kernel
theorem qX4_minutesUntilSpill_13 : decode (mB mX4_minutesUntilSpill) 13 = .ok (.ireturn, 1) := by decide +kernel
theorem qX4_minutesUntilSpill_14 : decode (mB mX4_minutesUntilSpill) 14 = .ok (.aload_n 0, 1) := by decide +kernel
theorem qX4_minutesUntilSpill_15 : decode (mB mX4_minutesUntilSpill) 15 = .ok (.invokevirtual 445, 3) := by decide +kernel
theorem qX4_minutesUntilSpill_18 : decode (mB mX4_minutesUntilSpill) 18 = .ok (.iconst 1, 1) := by decide +kernel
theorem qX4_minutesUntilSpill_19 : decode (mB mX4_minutesUntilSpill) 19 = .ok (.istore_n 2, 1) := by decide +kernel
theorem qX4_minutesUntilSpill_20 : decode (mB mX4_minutesUntilSpill) 20 = .ok (.iload_n 2, 1) := by decide +kernel
theorem qX4_minutesUntilSpill_21 : decode (mB mX4_minutesUntilSpill) 21 = .ok (.sipush 300, 3) := by decide +kernel
theorem qX4_minutesUntilSpill_24 : decode (mB mX4_minutesUntilSpill) 24 = .ok (.if_icmp .gt 35, 3) := by decide +kernel
theorem qX4_minutesUntilSpill_27 : decode (mB mX4_minutesUntilSpill) 27 = .ok (.aload_n 0, 1) := by decide +kernel
theorem qX4_minutesUntilSpill_28 : decode (mB mX4_minutesUntilSpill) 28 = .ok (.iconst 1, 1) := by decide +kernel
theorem qX4_minutesUntilSpill_29 : decode (mB mX4_minutesUntilSpill) 29 = .ok (.invokevirtual 140, 3) := by decide +kernel
theorem qX4_minutesUntilSpill_32 : decode (mB mX4_minutesUntilSpill) 32 = .ok (.aload_n 0, 1) := by decide +kernel
theorem qX4_minutesUntilSpill_33 : decode (mB mX4_minutesUntilSpill) 33 = .ok (.getfield 24, 3) := by decide +kernel
theorem qX4_minutesUntilSpill_36 : decode (mB mX4_minutesUntilSpill) 36 = .ok (.bipush 9, 2) := by decide +kernel
theorem qX4_minutesUntilSpill_38 : decode (mB mX4_minutesUntilSpill) 38 = .ok (.iaload, 1) := by decide +kernel
theorem qX4_minutesUntilSpill_39 : decode (mB mX4_minutesUntilSpill) 39 = .ok (.iload_n 1, 1) := by decide +kernel
theorem qX4_minutesUntilSpill_40 : decode (mB mX4_minutesUntilSpill) 40 = .ok (.ishr, 1) := by decide +kernel
theorem qX4_minutesUntilSpill_41 : decode (mB mX4_minutesUntilSpill) 41 = .ok (.iconst 1, 1) := by decide +kernel
theorem qX4_minutesUntilSpill_42 : decode (mB mX4_minutesUntilSpill) 42 = .ok (.iand, 1) := by decide +kernel
theorem qX4_minutesUntilSpill_43 : decode (mB mX4_minutesUntilSpill) 43 = .ok (.iconst 1, 1) := by decide +kernel
theorem qX4_minutesUntilSpill_44 : decode (mB mX4_minutesUntilSpill) 44 = .ok (.if_icmp .ne 9, 3) := by decide +kernel
theorem qX4_minutesUntilSpill_47 : decode (mB mX4_minutesUntilSpill) 47 = .ok (.aload_n 0, 1) := by decide +kernel
theorem qX4_minutesUntilSpill_48 : decode (mB mX4_minutesUntilSpill) 48 = .ok (.iload_n 2, 1) := by decide +kernel
theorem qX4_minutesUntilSpill_49 : decode (mB mX4_minutesUntilSpill) 49 = .ok (.invokevirtual 448, 3) := by decide +kernel
theorem qX4_minutesUntilSpill_52 : decode (mB mX4_minutesUntilSpill) 52 = .ok (.ireturn, 1) := by decide +kernel
theorem qX4_minutesUntilSpill_53 : decode (mB mX4_minutesUntilSpill) 53 = .ok (.iinc 2 1, 3) := by decide +kernel
theorem qX4_minutesUntilSpill_56 : decode (mB mX4_minutesUntilSpill) 56 = .ok (.goto (-36), 3) := by decide +kernel
theorem qX4_minutesUntilSpill_59 : decode (mB mX4_minutesUntilSpill) 59 = .ok (.aload_n 0, 1) := by decide +kernel
theorem qX4_minutesUntilSpill_60 : decode (mB mX4_minutesUntilSpill) 60 = .ok (.iconst (-1), 1) := by decide +kernel
theorem qX4_minutesUntilSpill_61 : decode (mB mX4_minutesUntilSpill) 61 = .ok (.invokevirtual 448, 3) := by decide +kernel
theorem qX4_minutesUntilSpill_64 : decode (mB mX4_minutesUntilSpill) 64 = .ok (.ireturn, 1) := by decide +kernel
theorem qX4_missedPoints_0 : decode (mB mX4_missedPoints) 0 = .ok (.aload_n 0, 1) := by decide +kernel
theorem qX4_missedPoints_1 : decode (mB mX4_missedPoints) 1 = .ok (.iconst 0, 1) := by decide +kernel
theorem qX4_missedPoints_2 : decode (mB mX4_missedPoints) 2 = .ok (.putfield 3, 3) := by decide +kernel
theorem qX4_missedPoints_5 : decode (mB mX4_missedPoints) 5 = .ok (.iconst 0, 1) := by decide +kernel
theorem qX4_missedPoints_6 : decode (mB mX4_missedPoints) 6 = .ok (.istore_n 1, 1) := by decide +kernel
theorem qX4_missedPoints_7 : decode (mB mX4_missedPoints) 7 = .ok (.iconst 0, 1) := by decide +kernel
theorem qX4_missedPoints_8 : decode (mB mX4_missedPoints) 8 = .ok (.istore_n 2, 1) := by decide +kernel
theorem qX4_missedPoints_9 : decode (mB mX4_missedPoints) 9 = .ok (.iload_n 2, 1) := by decide +kernel
theorem qX4_missedPoints_10 : decode (mB mX4_missedPoints) 10 = .ok (.aload_n 0, 1) := by decide +kernel
theorem qX4_missedPoints_11 : decode (mB mX4_missedPoints) 11 = .ok (.getfield 17, 3) := by decide +kernel
theorem qX4_missedPoints_14 : decode (mB mX4_missedPoints) 14 = .ok (.iconst 5, 1) := by decide +kernel
theorem qX4_missedPoints_15 : decode (mB mX4_missedPoints) 15 = .ok (.iaload, 1) := by decide +kernel
theorem qX4_missedPoints_16 : decode (mB mX4_missedPoints) 16 = .ok (.if_icmp .ge 71, 3) := by decide +kernel
theorem qX4_missedPoints_19 : decode (mB mX4_missedPoints) 19 = .ok (.iconst (-1), 1) := by decide +kernel
theorem qX4_missedPoints_20 : decode (mB mX4_missedPoints) 20 = .ok (.istore_n 3, 1) := by decide +kernel
theorem qX4_missedPoints_21 : decode (mB mX4_missedPoints) 21 = .ok (.iload_n 3, 1) := by decide +kernel
theorem qX4_missedPoints_22 : decode (mB mX4_missedPoints) 22 = .ok (.iconst 2, 1) := by decide +kernel
theorem qX4_missedPoints_23 : decode (mB mX4_missedPoints) 23 = .ok (.if_icmp .ge 58, 3) := by decide +kernel
theorem qX4_missedPoints_26 : decode (mB mX4_missedPoints) 26 = .ok (.aload_n 0, 1) := by decide +kernel
theorem qX4_missedPoints_27 : decode (mB mX4_missedPoints) 27 = .ok (.iload_n 2, 1) := by decide +kernel
theorem qX4_missedPoints_28 : decode (mB mX4_missedPoints) 28 = .ok (.invokevirtual 416, 3) := by decide +kernel
theorem qX4_missedPoints_31 : decode (mB mX4_missedPoints) 31 = .ok (.ifCond .eq 50, 3) := by decide +kernel
theorem qX4_missedPoints_34 : decode (mB mX4_missedPoints) 34 = .ok (.aload_n 0, 1) := by decide +kernel
theorem qX4_missedPoints_35 : decode (mB mX4_missedPoints) 35 = .ok (.iload_n 2, 1) := by decide +kernel
theorem qX4_missedPoints_36 : decode (mB mX4_missedPoints) 36 = .ok (.iload_n 3, 1) := by decide +kernel
theorem qX4_missedPoints_37 : decode (mB mX4_missedPoints) 37 = .ok (.invokevirtual 192, 3) := by decide +kernel
theorem qX4_missedPoints_40 : decode (mB mX4_missedPoints) 40 = .ok (.istore 4, 2) := by decide +kernel
theorem qX4_missedPoints_42 : decode (mB mX4_missedPoints) 42 = .ok (.iload_n 1, 1) := by decide +kernel
theorem qX4_missedPoints_43 : decode (mB mX4_missedPoints) 43 = .ok (.aload_n 0, 1) := by decide +kernel
theorem qX4_missedPoints_44 : decode (mB mX4_missedPoints) 44 = .ok (.iload_n 2, 1) := by decide +kernel
theorem qX4_missedPoints_45 : decode (mB mX4_missedPoints) 45 = .ok (.aload_n 0, 1) := by decide +kernel
theorem qX4_missedPoints_46 : decode (mB mX4_missedPoints) 46 = .ok (.iload_n 2, 1) := by decide +kernel
theorem qX4_missedPoints_47 : decode (mB mX4_missedPoints) 47 = .ok (.iload 4, 2) := by decide +kernel
theorem qX4_missedPoints_49 : decode (mB mX4_missedPoints) 49 = .ok (.invokevirtual 175, 3) := by decide +kernel
theorem qX4_missedPoints_52 : decode (mB mX4_missedPoints) 52 = .ok (.invokevirtual 195, 3) := by decide +kernel
theorem qX4_missedPoints_55 : decode (mB mX4_missedPoints) 55 = .ok (.bipush 10, 2) := by decide +kernel
theorem qX4_missedPoints_57 : decode (mB mX4_missedPoints) 57 = .ok (.aload_n 0, 1) := by decide +kernel
theorem qX4_missedPoints_58 : decode (mB mX4_missedPoints) 58 = .ok (.iload_n 2, 1) := by decide +kernel
theorem qX4_missedPoints_59 : decode (mB mX4_missedPoints) 59 = .ok (.iload 4, 2) := by decide +kernel
theorem qX4_missedPoints_61 : decode (mB mX4_missedPoints) 61 = .ok (.invokevirtual 172, 3) := by decide +kernel
theorem qX4_missedPoints_64 : decode (mB mX4_missedPoints) 64 = .ok (.imul, 1) := by decide +kernel
theorem qX4_missedPoints_65 : decode (mB mX4_missedPoints) 65 = .ok (.if_icmp .eq 7, 3) := by decide +kernel
theorem qX4_missedPoints_68 : decode (mB mX4_missedPoints) 68 = .ok (.iconst 1, 1) := by decide +kernel
theorem qX4_missedPoints_69 : decode (mB mX4_missedPoints) 69 = .ok (.goto 4, 3) := by decide +kernel
theorem qX4_missedPoints_72 : decode (mB mX4_missedPoints) 72 = .ok (.iconst 0, 1) := by decide +kernel
theorem qX4_missedPoints_73 : decode (mB mX4_missedPoints) 73 = .ok (.iadd, 1) := by decide +kernel
theorem qX4_missedPoints_74 : decode (mB mX4_missedPoints) 74 = .ok (.istore_n 1, 1) := by decide +kernel
theorem qX4_missedPoints_75 : decode (mB mX4_missedPoints) 75 = .ok (.iinc 3 2, 3) := by decide +kernel
theorem qX4_missedPoints_78 : decode (mB mX4_missedPoints) 78 = .ok (.goto (-57), 3) := by decide +kernel
theorem qX4_missedPoints_81 : decode (mB mX4_missedPoints) 81 = .ok (.iinc 2 1, 3) := by decide +kernel
theorem qX4_missedPoints_84 : decode (mB mX4_missedPoints) 84 = .ok (.goto (-75), 3) := by decide +kernel
theorem qX4_missedPoints_87 : decode (mB mX4_missedPoints) 87 = .ok (.iload_n 1, 1) := by decide +kernel
theorem qX4_missedPoints_88 : decode (mB mX4_missedPoints) 88 = .ok (.ireturn, 1) := by decide +kernel
theorem qX4_of_0 : decode (mB mX4_of) 0 = .ok (.aload_n 0, 1) := by decide +kernel
theorem qX4_of_1 : decode (mB mX4_of) 1 = .ok (.getfield 24, 3) := by decide +kernel
theorem qX4_of_4 : decode (mB mX4_of) 4 = .ok (.bipush 42, 2) := by decide +kernel
theorem qX4_of_6 : decode (mB mX4_of) 6 = .ok (.bipush 21, 2) := by decide +kernel
theorem qX4_of_8 : decode (mB mX4_of) 8 = .ok (.iload_n 1, 1) := by decide +kernel
theorem qX4_of_9 : decode (mB mX4_of) 9 = .ok (.imul, 1) := by decide +kernel
theorem qX4_of_10 : decode (mB mX4_of) 10 = .ok (.iadd, 1) := by decide +kernel
theorem qX4_of_11 : decode (mB mX4_of) 11 = .ok (.iload_n 2, 1) := by decide +kernel
theorem qX4_of_12 : decode (mB mX4_of) 12 = .ok (.iadd, 1) := by decide +kernel
theorem qX4_of_13 : decode (mB mX4_of) 13 = .ok (.iaload, 1) := by decide +kernel
theorem qX4_of_14 : decode (mB mX4_of) 14 = .ok (.ireturn, 1) := by decide +kernel
theorem qX4_ofBath_0 : decode (mB mX4_ofBath) 0 = .ok (.aload_n 0, 1) := by decide +kernel
theorem qX4_ofBath_1 : decode (mB mX4_ofBath) 1 = .ok (.getfield 24, 3) := by decide +kernel
theorem qX4_ofBath_4 : decode (mB mX4_ofBath) 4 = .ok (.bipush 30, 2) := by decide +kernel
theorem qX4_ofBath_6 : decode (mB mX4_ofBath) 6 = .ok (.iconst 3, 1) := by decide +kernel
theorem qX4_ofBath_7 : decode (mB mX4_ofBath) 7 = .ok (.iload_n 1, 1) := by decide +kernel
theorem qX4_ofBath_8 : decode (mB mX4_ofBath) 8 = .ok (.imul, 1) := by decide +kernel
theorem qX4_ofBath_9 : decode (mB mX4_ofBath) 9 = .ok (.iadd, 1) := by decide +kernel
theorem qX4_ofBath_10 : decode (mB mX4_ofBath) 10 = .ok (.iload_n 2, 1) := by decide +kernel
theorem qX4_ofBath_11 : decode (mB mX4_ofBath) 11 = .ok (.iadd, 1) := by decide +kernel
theorem qX4_ofBath_12 : decode (mB mX4_ofBath) 12 = .ok (.iaload, 1) := by decide +kernel
theorem qX4_ofBath_13 : decode (mB mX4_ofBath) 13 = .ok (.ireturn, 1) := by decide +kernel
theorem qX4_ofSpirit_0 : decode (mB mX4_ofSpirit) 0 = .ok (.aload_n 0, 1) := by decide +kernel
theorem qX4_ofSpirit_1 : decode (mB mX4_ofSpirit) 1 = .ok (.getfield 24, 3) := by decide +kernel
theorem qX4_ofSpirit_4 : decode (mB mX4_ofSpirit) 4 = .ok (.bipush 10, 2) := by decide +kernel
theorem qX4_ofSpirit_6 : decode (mB mX4_ofSpirit) 6 = .ok (.iconst 4, 1) := by decide +kernel
theorem qX4_ofSpirit_7 : decode (mB mX4_ofSpirit) 7 = .ok (.iload_n 1, 1) := by decide +kernel
theorem qX4_ofSpirit_8 : decode (mB mX4_ofSpirit) 8 = .ok (.imul, 1) := by decide +kernel
theorem qX4_ofSpirit_9 : decode (mB mX4_ofSpirit) 9 = .ok (.iadd, 1) := by decide +kernel
theorem qX4_ofSpirit_10 : decode (mB mX4_ofSpirit) 10 = .ok (.iload_n 2, 1) := by decide +kernel
theorem qX4_ofSpirit_11 : decode (mB mX4_ofSpirit) 11 = .ok (.iadd, 1) := by decide +kernel
theorem qX4_ofSpirit_12 : decode (mB mX4_ofSpirit) 12 = .ok (.iaload, 1) := by decide +kernel
theorem qX4_ofSpirit_13 : decode (mB mX4_ofSpirit) 13 = .ok (.ireturn, 1) := by decide +kernel
theorem qX4_offOf_0 : decode (mB mX4_offOf) 0 = .ok (.aload_n 0, 1) := by decide +kernel
theorem qX4_offOf_1 : decode (mB mX4_offOf) 1 = .ok (.iload_n 1, 1) := by decide +kernel
theorem qX4_offOf_2 : decode (mB mX4_offOf) 2 = .ok (.invokevirtual 422, 3) := by decide +kernel
theorem qX4_offOf_5 : decode (mB mX4_offOf) 5 = .ok (.aload_n 0, 1) := by decide +kernel
theorem qX4_offOf_6 : decode (mB mX4_offOf) 6 = .ok (.iload_n 1, 1) := by decide +kernel
theorem qX4_offOf_7 : decode (mB mX4_offOf) 7 = .ok (.iconst 5, 1) := by decide +kernel
theorem qX4_offOf_8 : decode (mB mX4_offOf) 8 = .ok (.invokevirtual 148, 3) := by decide +kernel
theorem qX4_offOf_11 : decode (mB mX4_offOf) 11 = .ok (.isub, 1) := by decide +kernel
theorem qX4_offOf_12 : decode (mB mX4_offOf) 12 = .ok (.invokestatic 198, 3) := by decide +kernel
theorem qX4_offOf_15 : decode (mB mX4_offOf) 15 = .ok (.ireturn, 1) := by decide +kernel
theorem qX4_outputByte_0 : decode (mB mX4_outputByte) 0 = .ok (.aload_n 0, 1) := by decide +kernel
theorem qX4_outputByte_1 : decode (mB mX4_outputByte) 1 = .ok (.iload_n 1, 1) := by decide +kernel
theorem qX4_outputByte_2 : decode (mB mX4_outputByte) 2 = .ok (.i2l, 1) := by decide +kernel
theorem qX4_outputByte_3 : decode (mB mX4_outputByte) 3 = .ok (.lconst 0, 1) := by decide +kernel
theorem qX4_outputByte_4 : decode (mB mX4_outputByte) 4 = .ok (.aload_n 0, 1) := by decide +kernel
theorem qX4_outputByte_5 : decode (mB mX4_outputByte) 5 = .ok (.getfield 463, 3) := by decide +kernel
theorem qX4_outputByte_8 : decode (mB mX4_outputByte) 8 = .ok (.iconst 1, 1) := by decide +kernel
theorem qX4_outputByte_9 : decode (mB mX4_outputByte) 9 = .ok (.isub, 1) := by decide +kernel
theorem qX4_outputByte_10 : decode (mB mX4_outputByte) 10 = .ok (.i2l, 1) := by decide +kernel
theorem qX4_outputByte_11 : decode (mB mX4_outputByte) 11 = .ok (.invokestatic 276, 3) := by decide +kernel
theorem qX4_outputByte_14 : decode (mB mX4_outputByte) 14 = .ok (.invokevirtual 371, 3) := by decide +kernel
theorem qX4_outputByte_17 : decode (mB mX4_outputByte) 17 = .ok (.ifCond .eq 12, 3) := by decide +kernel
theorem qX4_outputByte_20 : decode (mB mX4_outputByte) 20 = .ok (.aload_n 0, 1) := by decide +kernel
theorem qX4_outputByte_21 : decode (mB mX4_outputByte) 21 = .ok (.getfield 115, 3) := by decide +kernel
theorem qX4_outputByte_24 : decode (mB mX4_outputByte) 24 = .ok (.iload_n 1, 1) := by decide +kernel
theorem qX4_outputByte_25 : decode (mB mX4_outputByte) 25 = .ok (.iaload, 1) := by decide +kernel
theorem qX4_outputByte_26 : decode (mB mX4_outputByte) 26 = .ok (.goto 4, 3) := by decide +kernel
theorem qX4_outputByte_29 : decode (mB mX4_outputByte) 29 = .ok (.iconst 0, 1) := by decide +kernel
theorem qX4_outputByte_30 : decode (mB mX4_outputByte) 30 = .ok (.ireturn, 1) := by decide +kernel
theorem qX4_pass_0 : decode (mB mX4_pass) 0 = .ok (.aload_n 0, 1) := by decide +kernel
theorem qX4_pass_1 : decode (mB mX4_pass) 1 = .ok (.iload_n 1, 1) := by decide +kernel
theorem qX4_pass_2 : decode (mB mX4_pass) 2 = .ok (.i2l, 1) := by decide +kernel
theorem qX4_pass_3 : decode (mB mX4_pass) 3 = .ok (.lconst 1, 1) := by decide +kernel
theorem qX4_pass_4 : decode (mB mX4_pass) 4 = .ok (.ldc2_w 440, 3) := by decide +kernel
theorem qX4_pass_7 : decode (mB mX4_pass) 7 = .ok (.invokestatic 276, 3) := by decide +kernel
theorem qX4_pass_10 : decode (mB mX4_pass) 10 = .ok (.invokevirtual 371, 3) := by decide +kernel
theorem qX4_pass_13 : decode (mB mX4_pass) 13 = .ok (.ifCond .ne 5, 3) := by decide +kernel
theorem qX4_pass_16 : decode (mB mX4_pass) 16 = .ok (.iconst 0, 1) := by decide +kernel
theorem qX4_pass_17 : decode (mB mX4_pass) 17 = .ok (.ireturn, 1) := by decide +kernel
theorem qX4_pass_18 : decode (mB mX4_pass) 18 = .ok (.aload_n 0, 1) := by decide +kernel
theorem qX4_pass_19 : decode (mB mX4_pass) 19 = .ok (.invokevirtual 384, 3) := by decide +kernel
theorem qX4_pass_22 : decode (mB mX4_pass) 22 = .ok (.aload_n 0, 1) := by decide +kernel
theorem qX4_pass_23 : decode (mB mX4_pass) 23 = .ok (.invokevirtual 451, 3) := by decide +kernel
theorem qX4_pass_26 : decode (mB mX4_pass) 26 = .ok (.istore_n 2, 1) := by decide +kernel
theorem qX4_pass_27 : decode (mB mX4_pass) 27 = .ok (.aload_n 0, 1) := by decide +kernel
theorem qX4_pass_28 : decode (mB mX4_pass) 28 = .ok (.iload_n 1, 1) := by decide +kernel
theorem qX4_pass_29 : decode (mB mX4_pass) 29 = .ok (.invokevirtual 140, 3) := by decide +kernel
theorem qX4_pass_32 : decode (mB mX4_pass) 32 = .ok (.aload_n 0, 1) := by decide +kernel
theorem qX4_pass_33 : decode (mB mX4_pass) 33 = .ok (.invokevirtual 451, 3) := by decide +kernel
theorem qX4_pass_36 : decode (mB mX4_pass) 36 = .ok (.iload_n 2, 1) := by decide +kernel
theorem qX4_pass_37 : decode (mB mX4_pass) 37 = .ok (.isub, 1) := by decide +kernel
theorem qX4_pass_38 : decode (mB mX4_pass) 38 = .ok (.ireturn, 1) := by decide +kernel
theorem qX4_passFor_0 : decode (mB mX4_passFor) 0 = .ok (.aload_n 0, 1) := by decide +kernel
theorem qX4_passFor_1 : decode (mB mX4_passFor) 1 = .ok (.iload_n 1, 1) := by decide +kernel
theorem qX4_passFor_2 : decode (mB mX4_passFor) 2 = .ok (.invokevirtual 169, 3) := by decide +kernel
theorem qX4_passFor_5 : decode (mB mX4_passFor) 5 = .ok (.aload_n 0, 1) := by decide +kernel
theorem qX4_passFor_6 : decode (mB mX4_passFor) 6 = .ok (.iload_n 1, 1) := by decide +kernel
theorem qX4_passFor_7 : decode (mB mX4_passFor) 7 = .ok (.iconst 5, 1) := by decide +kernel
theorem qX4_passFor_8 : decode (mB mX4_passFor) 8 = .ok (.invokevirtual 148, 3) := by decide +kernel
theorem qX4_passFor_11 : decode (mB mX4_passFor) 11 = .ok (.isub, 1) := by decide +kernel
theorem qX4_passFor_12 : decode (mB mX4_passFor) 12 = .ok (.istore_n 2, 1) := by decide +kernel
theorem qX4_passFor_13 : decode (mB mX4_passFor) 13 = .ok (.iload_n 2, 1) := by decide +kernel
theorem qX4_passFor_14 : decode (mB mX4_passFor) 14 = .ok (.invokestatic 198, 3) := by decide +kernel
theorem qX4_passFor_17 : decode (mB mX4_passFor) 17 = .ok (.aload_n 0, 1) := by decide +kernel
theorem qX4_passFor_18 : decode (mB mX4_passFor) 18 = .ok (.getfield 24, 3) := by decide +kernel
theorem qX4_passFor_21 : decode (mB mX4_passFor) 21 = .ok (.iconst 1, 1) := by decide +kernel
theorem qX4_passFor_22 : decode (mB mX4_passFor) 22 = .ok (.iaload, 1) := by decide +kernel
theorem qX4_passFor_23 : decode (mB mX4_passFor) 23 = .ok (.if_icmp .ge 7, 3) := by decide +kernel
theorem qX4_passFor_26 : decode (mB mX4_passFor) 26 = .ok (.iconst 1, 1) := by decide +kernel
theorem qX4_passFor_27 : decode (mB mX4_passFor) 27 = .ok (.goto 4, 3) := by decide +kernel
theorem qX4_passFor_30 : decode (mB mX4_passFor) 30 = .ok (.iconst 0, 1) := by decide +kernel
theorem qX4_passFor_31 : decode (mB mX4_passFor) 31 = .ok (.istore_n 3, 1) := by decide +kernel
theorem qX4_passFor_32 : decode (mB mX4_passFor) 32 = .ok (.aload_n 0, 1) := by decide +kernel
theorem qX4_passFor_33 : decode (mB mX4_passFor) 33 = .ok (.iload_n 1, 1) := by decide +kernel
theorem qX4_passFor_34 : decode (mB mX4_passFor) 34 = .ok (.iconst 5, 1) := by decide +kernel
theorem qX4_passFor_35 : decode (mB mX4_passFor) 35 = .ok (.aload_n 0, 1) := by decide +kernel
theorem qX4_passFor_36 : decode (mB mX4_passFor) 36 = .ok (.iload_n 1, 1) := by decide +kernel
theorem qX4_passFor_37 : decode (mB mX4_passFor) 37 = .ok (.iconst 5, 1) := by decide +kernel
theorem qX4_passFor_38 : decode (mB mX4_passFor) 38 = .ok (.invokevirtual 148, 3) := by decide +kernel
theorem qX4_passFor_41 : decode (mB mX4_passFor) 41 = .ok (.iload_n 3, 1) := by decide +kernel
theorem qX4_passFor_42 : decode (mB mX4_passFor) 42 = .ok (.ifCond .eq 7, 3) := by decide +kernel
theorem qX4_passFor_45 : decode (mB mX4_passFor) 45 = .ok (.iload_n 2, 1) := by decide +kernel
theorem qX4_passFor_46 : decode (mB mX4_passFor) 46 = .ok (.goto 11, 3) := by decide +kernel
theorem qX4_passFor_49 : decode (mB mX4_passFor) 49 = .ok (.iload_n 2, 1) := by decide +kernel
theorem qX4_passFor_50 : decode (mB mX4_passFor) 50 = .ok (.aload_n 0, 1) := by decide +kernel
theorem qX4_passFor_51 : decode (mB mX4_passFor) 51 = .ok (.getfield 24, 3) := by decide +kernel
theorem qX4_passFor_54 : decode (mB mX4_passFor) 54 = .ok (.iconst 1, 1) := by decide +kernel
theorem qX4_passFor_55 : decode (mB mX4_passFor) 55 = .ok (.iaload, 1) := by decide +kernel
theorem qX4_passFor_56 : decode (mB mX4_passFor) 56 = .ok (.idiv, 1) := by decide +kernel
theorem qX4_passFor_57 : decode (mB mX4_passFor) 57 = .ok (.iadd, 1) := by decide +kernel
theorem qX4_passFor_58 : decode (mB mX4_passFor) 58 = .ok (.invokevirtual 137, 3) := by decide +kernel
theorem qX4_passFor_61 : decode (mB mX4_passFor) 61 = .ok (.aload_n 0, 1) := by decide +kernel
theorem qX4_passFor_62 : decode (mB mX4_passFor) 62 = .ok (.iload_n 1, 1) := by decide +kernel
theorem qX4_passFor_63 : decode (mB mX4_passFor) 63 = .ok (.bipush 6, 2) := by decide +kernel
theorem qX4_passFor_65 : decode (mB mX4_passFor) 65 = .ok (.invokevirtual 148, 3) := by decide +kernel
theorem qX4_passFor_68 : decode (mB mX4_passFor) 68 = .ok (.iconst 1, 1) := by decide +kernel
theorem qX4_passFor_69 : decode (mB mX4_passFor) 69 = .ok (.if_icmp .ne 30, 3) := by decide +kernel
theorem qX4_passFor_72 : decode (mB mX4_passFor) 72 = .ok (.aload_n 0, 1) := by decide +kernel
theorem qX4_passFor_73 : decode (mB mX4_passFor) 73 = .ok (.iload_n 1, 1) := by decide +kernel
theorem qX4_passFor_74 : decode (mB mX4_passFor) 74 = .ok (.iconst 4, 1) := by decide +kernel
theorem qX4_passFor_75 : decode (mB mX4_passFor) 75 = .ok (.invokevirtual 148, 3) := by decide +kernel
theorem qX4_passFor_78 : decode (mB mX4_passFor) 78 = .ok (.ifCond .le 21, 3) := by decide +kernel
theorem qX4_passFor_81 : decode (mB mX4_passFor) 81 = .ok (.aload_n 0, 1) := by decide +kernel
theorem qX4_passFor_82 : decode (mB mX4_passFor) 82 = .ok (.getfield 24, 3) := by decide +kernel
theorem qX4_passFor_85 : decode (mB mX4_passFor) 85 = .ok (.iconst 2, 1) := by decide +kernel
theorem qX4_passFor_86 : decode (mB mX4_passFor) 86 = .ok (.iaload, 1) := by decide +kernel
theorem qX4_passFor_87 : decode (mB mX4_passFor) 87 = .ok (.bipush 10, 2) := by decide +kernel
theorem qX4_passFor_89 : decode (mB mX4_passFor) 89 = .ok (.irem, 1) := by decide +kernel
theorem qX4_passFor_90 : decode (mB mX4_passFor) 90 = .ok (.ifCond .ne 9, 3) := by decide +kernel
theorem qX4_passFor_93 : decode (mB mX4_passFor) 93 = .ok (.aload_n 0, 1) := by decide +kernel
theorem qX4_passFor_94 : decode (mB mX4_passFor) 94 = .ok (.iload_n 1, 1) := by decide +kernel
theorem qX4_passFor_95 : decode (mB mX4_passFor) 95 = .ok (.iconst 1, 1) := by decide +kernel
theorem qX4_passFor_96 : decode (mB mX4_passFor) 96 = .ok (.invokevirtual 204, 3) := by decide +kernel
theorem qX4_passFor_99 : decode (mB mX4_passFor) 99 = .ok (.aload_n 0, 1) := by decide +kernel
theorem qX4_passFor_100 : decode (mB mX4_passFor) 100 = .ok (.iload_n 1, 1) := by decide +kernel
theorem qX4_passFor_101 : decode (mB mX4_passFor) 101 = .ok (.iconst 4, 1) := by decide +kernel
theorem qX4_passFor_102 : decode (mB mX4_passFor) 102 = .ok (.invokevirtual 148, 3) := by decide +kernel
theorem qX4_passFor_105 : decode (mB mX4_passFor) 105 = .ok (.iconst 0, 1) := by decide +kernel
theorem qX4_passFor_106 : decode (mB mX4_passFor) 106 = .ok (.aload_n 0, 1) := by decide +kernel
theorem qX4_passFor_107 : decode (mB mX4_passFor) 107 = .ok (.iload_n 1, 1) := by decide +kernel
theorem qX4_passFor_108 : decode (mB mX4_passFor) 108 = .ok (.invokevirtual 158, 3) := by decide +kernel
theorem qX4_passFor_111 : decode (mB mX4_passFor) 111 = .ok (.aload_n 0, 1) := by decide +kernel
theorem qX4_passFor_112 : decode (mB mX4_passFor) 112 = .ok (.iload_n 1, 1) := by decide +kernel
theorem qX4_passFor_113 : decode (mB mX4_passFor) 113 = .ok (.iconst 3, 1) := by decide +kernel
theorem qX4_passFor_114 : decode (mB mX4_passFor) 114 = .ok (.invokevirtual 148, 3) := by decide +kernel
theorem qX4_passFor_117 : decode (mB mX4_passFor) 117 = .ok (.isub, 1) := by decide +kernel
theorem qX4_passFor_118 : decode (mB mX4_passFor) 118 = .ok (.invokestatic 201, 3) := by decide +kernel
theorem qX4_passFor_121 : decode (mB mX4_passFor) 121 = .ok (.invokestatic 161, 3) := by decide +kernel
theorem qX4_passFor_124 : decode (mB mX4_passFor) 124 = .ok (.istore 4, 2) := by decide +kernel
theorem qX4_passFor_126 : decode (mB mX4_passFor) 126 = .ok (.aload_n 0, 1) := by decide +kernel
theorem qX4_passFor_127 : decode (mB mX4_passFor) 127 = .ok (.iload_n 1, 1) := by decide +kernel
theorem qX4_passFor_128 : decode (mB mX4_passFor) 128 = .ok (.iload 4, 2) := by decide +kernel
theorem qX4_passFor_130 : decode (mB mX4_passFor) 130 = .ok (.invokevirtual 204, 3) := by decide +kernel
theorem qX4_passFor_133 : decode (mB mX4_passFor) 133 = .ok (.aload_n 0, 1) := by decide +kernel
theorem qX4_passFor_134 : decode (mB mX4_passFor) 134 = .ok (.getfield 24, 3) := by decide +kernel
theorem qX4_passFor_137 : decode (mB mX4_passFor) 137 = .ok (.bipush 6, 2) := by decide +kernel
theorem qX4_passFor_139 : decode (mB mX4_passFor) 139 = .ok (.iaload, 1) := by decide +kernel
theorem qX4_passFor_140 : decode (mB mX4_passFor) 140 = .ok (.iload_n 1, 1) := by decide +kernel
theorem qX4_passFor_141 : decode (mB mX4_passFor) 141 = .ok (.if_icmp .ne 36, 3) := by decide +kernel
theorem qX4_passFor_144 : decode (mB mX4_passFor) 144 = .ok (.aload_n 0, 1) := by decide +kernel
theorem qX4_passFor_145 : decode (mB mX4_passFor) 145 = .ok (.getfield 24, 3) := by decide +kernel
theorem qX4_passFor_148 : decode (mB mX4_passFor) 148 = .ok (.bipush 7, 2) := by decide +kernel
theorem qX4_passFor_150 : decode (mB mX4_passFor) 150 = .ok (.dup2, 1) := by decide +kernel
theorem qX4_passFor_151 : decode (mB mX4_passFor) 151 = .ok (.iaload, 1) := by decide +kernel
theorem qX4_passFor_152 : decode (mB mX4_passFor) 152 = .ok (.iconst 1, 1) := by decide +kernel
theorem qX4_passFor_153 : decode (mB mX4_passFor) 153 = .ok (.isub, 1) := by decide +kernel
theorem qX4_passFor_154 : decode (mB mX4_passFor) 154 = .ok (.iastore, 1) := by decide +kernel
theorem qX4_passFor_155 : decode (mB mX4_passFor) 155 = .ok (.aload_n 0, 1) := by decide +kernel
theorem qX4_passFor_156 : decode (mB mX4_passFor) 156 = .ok (.getfield 24, 3) := by decide +kernel
theorem qX4_passFor_159 : decode (mB mX4_passFor) 159 = .ok (.bipush 6, 2) := by decide +kernel
theorem qX4_passFor_161 : decode (mB mX4_passFor) 161 = .ok (.aload_n 0, 1) := by decide +kernel
theorem qX4_passFor_162 : decode (mB mX4_passFor) 162 = .ok (.getfield 24, 3) := by decide +kernel
theorem qX4_passFor_165 : decode (mB mX4_passFor) 165 = .ok (.bipush 7, 2) := by decide +kernel
theorem qX4_passFor_167 : decode (mB mX4_passFor) 167 = .ok (.iaload, 1) := by decide +kernel
theorem qX4_passFor_168 : decode (mB mX4_passFor) 168 = .ok (.ifCond .ne 7, 3) := by decide +kernel
theorem qX4_passFor_171 : decode (mB mX4_passFor) 171 = .ok (.iconst (-1), 1) := by decide +kernel
theorem qX4_passFor_172 : decode (mB mX4_passFor) 172 = .ok (.goto 4, 3) := by decide +kernel
theorem qX4_passFor_175 : decode (mB mX4_passFor) 175 = .ok (.iload_n 1, 1) := by decide +kernel
theorem qX4_passFor_176 : decode (mB mX4_passFor) 176 = .ok (.iastore, 1) := by decide +kernel
theorem qX4_passFor_177 : decode (mB mX4_passFor) 177 = .ok (.iload 4, 2) := by decide +kernel
theorem qX4_passFor_179 : decode (mB mX4_passFor) 179 = .ok (.ireturn, 1) := by decide +kernel
theorem qX4_passOne_0 : decode (mB mX4_passOne) 0 = .ok (.aload_n 0, 1) := by decide +kernel
theorem qX4_passOne_1 : decode (mB mX4_passOne) 1 = .ok (.getfield 24, 3) := by decide +kernel
theorem qX4_passOne_4 : decode (mB mX4_passOne) 4 = .ok (.iconst 2, 1) := by decide +kernel
theorem qX4_passOne_5 : decode (mB mX4_passOne) 5 = .ok (.dup2, 1) := by decide +kernel
theorem qX4_passOne_6 : decode (mB mX4_passOne) 6 = .ok (.iaload, 1) := by decide +kernel
theorem qX4_passOne_7 : decode (mB mX4_passOne) 7 = .ok (.iconst 1, 1) := by decide +kernel
theorem qX4_passOne_8 : decode (mB mX4_passOne) 8 = .ok (.iadd, 1) := by decide +kernel
theorem qX4_passOne_9 : decode (mB mX4_passOne) 9 = .ok (.iastore, 1) := by decide +kernel
theorem qX4_passOne_10 : decode (mB mX4_passOne) 10 = .ok (.iconst 0, 1) := by decide +kernel
theorem qX4_passOne_11 : decode (mB mX4_passOne) 11 = .ok (.istore_n 1, 1) := by decide +kernel
theorem qX4_passOne_12 : decode (mB mX4_passOne) 12 = .ok (.iload_n 1, 1) := by decide +kernel
theorem qX4_passOne_13 : decode (mB mX4_passOne) 13 = .ok (.aload_n 0, 1) := by decide +kernel
theorem qX4_passOne_14 : decode (mB mX4_passOne) 14 = .ok (.getfield 24, 3) := by decide +kernel
theorem qX4_passOne_17 : decode (mB mX4_passOne) 17 = .ok (.iconst 5, 1) := by decide +kernel
theorem qX4_passOne_18 : decode (mB mX4_passOne) 18 = .ok (.iaload, 1) := by decide +kernel
theorem qX4_passOne_19 : decode (mB mX4_passOne) 19 = .ok (.if_icmp .ge 53, 3) := by decide +kernel
theorem qX4_passOne_22 : decode (mB mX4_passOne) 22 = .ok (.aload_n 0, 1) := by decide +kernel
theorem qX4_passOne_23 : decode (mB mX4_passOne) 23 = .ok (.iload_n 1, 1) := by decide +kernel
theorem qX4_passOne_24 : decode (mB mX4_passOne) 24 = .ok (.invokevirtual 208, 3) := by decide +kernel
theorem qX4_passOne_27 : decode (mB mX4_passOne) 27 = .ok (.istore_n 2, 1) := by decide +kernel
theorem qX4_passOne_28 : decode (mB mX4_passOne) 28 = .ok (.aload_n 0, 1) := by decide +kernel
theorem qX4_passOne_29 : decode (mB mX4_passOne) 29 = .ok (.getfield 24, 3) := by decide +kernel
theorem qX4_passOne_32 : decode (mB mX4_passOne) 32 = .ok (.bipush 9, 2) := by decide +kernel
theorem qX4_passOne_34 : decode (mB mX4_passOne) 34 = .ok (.iload_n 2, 1) := by decide +kernel
theorem qX4_passOne_35 : decode (mB mX4_passOne) 35 = .ok (.ifCond .le 17, 3) := by decide +kernel
theorem qX4_passOne_38 : decode (mB mX4_passOne) 38 = .ok (.aload_n 0, 1) := by decide +kernel
theorem qX4_passOne_39 : decode (mB mX4_passOne) 39 = .ok (.getfield 24, 3) := by decide +kernel
theorem qX4_passOne_42 : decode (mB mX4_passOne) 42 = .ok (.bipush 9, 2) := by decide +kernel
theorem qX4_passOne_44 : decode (mB mX4_passOne) 44 = .ok (.iaload, 1) := by decide +kernel
theorem qX4_passOne_45 : decode (mB mX4_passOne) 45 = .ok (.iconst 1, 1) := by decide +kernel
theorem qX4_passOne_46 : decode (mB mX4_passOne) 46 = .ok (.iload_n 1, 1) := by decide +kernel
theorem qX4_passOne_47 : decode (mB mX4_passOne) 47 = .ok (.ishl, 1) := by decide +kernel
theorem qX4_passOne_48 : decode (mB mX4_passOne) 48 = .ok (.ior, 1) := by decide +kernel
theorem qX4_passOne_49 : decode (mB mX4_passOne) 49 = .ok (.goto 16, 3) := by decide +kernel
theorem qX4_passOne_52 : decode (mB mX4_passOne) 52 = .ok (.aload_n 0, 1) := by decide +kernel
theorem qX4_passOne_53 : decode (mB mX4_passOne) 53 = .ok (.getfield 24, 3) := by decide +kernel
theorem qX4_passOne_56 : decode (mB mX4_passOne) 56 = .ok (.bipush 9, 2) := by decide +kernel
theorem qX4_passOne_58 : decode (mB mX4_passOne) 58 = .ok (.iaload, 1) := by decide +kernel
theorem qX4_passOne_59 : decode (mB mX4_passOne) 59 = .ok (.iconst 1, 1) := by decide +kernel
theorem qX4_passOne_60 : decode (mB mX4_passOne) 60 = .ok (.iload_n 1, 1) := by decide +kernel
theorem qX4_passOne_61 : decode (mB mX4_passOne) 61 = .ok (.ishl, 1) := by decide +kernel
theorem qX4_passOne_62 : decode (mB mX4_passOne) 62 = .ok (.iconst (-1), 1) := by decide +kernel
theorem qX4_passOne_63 : decode (mB mX4_passOne) 63 = .ok (.ixor, 1) := by decide +kernel
theorem qX4_passOne_64 : decode (mB mX4_passOne) 64 = .ok (.iand, 1) := by decide +kernel
theorem qX4_passOne_65 : decode (mB mX4_passOne) 65 = .ok (.iastore, 1) := by decide +kernel
theorem qX4_passOne_66 : decode (mB mX4_passOne) 66 = .ok (.iinc 1 1, 3) := by decide +kernel
theorem qX4_passOne_69 : decode (mB mX4_passOne) 69 = .ok (.goto (-57), 3) := by decide +kernel
theorem qX4_passOne_72 : decode (mB mX4_passOne) 72 = .ok (.return_, 1) := by decide +kernel
theorem qX4_passes1_0 : decode (mB mX4_passes1) 0 = .ok (.aload_n 0, 1) := by decide +kernel
theorem qX4_passes1_1 : decode (mB mX4_passes1) 1 = .ok (.iload_n 1, 1) := by decide +kernel
theorem qX4_passes1_2 : decode (mB mX4_passes1) 2 = .ok (.iconst 1, 1) := by decide +kernel
theorem qX4_passes1_3 : decode (mB mX4_passes1) 3 = .ok (.iconst 1, 1) := by decide +kernel
theorem qX4_passes1_4 : decode (mB mX4_passes1) 4 = .ok (.invokevirtual 7, 3) := by decide +kernel
theorem qX4_passes1_7 : decode (mB mX4_passes1) 7 = .ok (.ireturn, 1) := by decide +kernel
theorem qX4_passes2_0 : decode (mB mX4_passes2) 0 = .ok (.aload_n 0, 1) := by decide +kernel
theorem qX4_passes2_1 : decode (mB mX4_passes2) 1 = .ok (.iload_n 1, 1) := by decide +kernel
theorem qX4_passes2_2 : decode (mB mX4_passes2) 2 = .ok (.iload_n 2, 1) := by decide +kernel
theorem qX4_passes2_3 : decode (mB mX4_passes2) 3 = .ok (.iconst 1, 1) := by decide +kernel
theorem qX4_passes2_4 : decode (mB mX4_passes2) 4 = .ok (.invokevirtual 7, 3) := by decide +kernel
theorem qX4_passes2_7 : decode (mB mX4_passes2) 7 = .ok (.ireturn, 1) := by decide +kernel
theorem qX4_passes3_0 : decode (mB mX4_passes3) 0 = .ok (.aload_n 0, 1) := by decide +kernel
theorem qX4_passes3_1 : decode (mB mX4_passes3) 1 = .ok (.iload_n 1, 1) := by decide +kernel
theorem qX4_passes3_2 : decode (mB mX4_passes3) 2 = .ok (.ifCond .ne 7, 3) := by decide +kernel
theorem qX4_passes3_5 : decode (mB mX4_passes3) 5 = .ok (.iconst 1, 1) := by decide +kernel
theorem qX4_passes3_6 : decode (mB mX4_passes3) 6 = .ok (.goto 20, 3) := by decide +kernel
theorem qX4_passes3_9 : decode (mB mX4_passes3) 9 = .ok (.iload_n 2, 1) := by decide +kernel
theorem qX4_passes3_10 : decode (mB mX4_passes3) 10 = .ok (.ifCond .ne 7, 3) := by decide +kernel
theorem qX4_passes3_13 : decode (mB mX4_passes3) 13 = .ok (.iconst 2, 1) := by decide +kernel
theorem qX4_passes3_14 : decode (mB mX4_passes3) 14 = .ok (.goto 12, 3) := by decide +kernel
theorem qX4_passes3_17 : decode (mB mX4_passes3) 17 = .ok (.iload_n 3, 1) := by decide +kernel
theorem qX4_passes3_18 : decode (mB mX4_passes3) 18 = .ok (.ifCond .ne 7, 3) := by decide +kernel
theorem qX4_passes3_21 : decode (mB mX4_passes3) 21 = .ok (.iconst 3, 1) := by decide +kernel
theorem qX4_passes3_22 : decode (mB mX4_passes3) 22 = .ok (.goto 4, 3) := by decide +kernel
theorem qX4_passes3_25 : decode (mB mX4_passes3) 25 = .ok (.iconst 0, 1) := by decide +kernel
theorem qX4_passes3_26 : decode (mB mX4_passes3) 26 = .ok (.putfield 3, 3) := by decide +kernel
theorem qX4_passes3_29 : decode (mB mX4_passes3) 29 = .ok (.aload_n 0, 1) := by decide +kernel
theorem qX4_passes3_30 : decode (mB mX4_passes3) 30 = .ok (.getfield 3, 3) := by decide +kernel
theorem qX4_passes3_33 : decode (mB mX4_passes3) 33 = .ok (.ifCond .ne 7, 3) := by decide +kernel
theorem qX4_passes3_36 : decode (mB mX4_passes3) 36 = .ok (.iconst 1, 1) := by decide +kernel
theorem qX4_passes3_37 : decode (mB mX4_passes3) 37 = .ok (.goto 4, 3) := by decide +kernel
theorem qX4_passes3_40 : decode (mB mX4_passes3) 40 = .ok (.iconst 0, 1) := by decide +kernel
theorem qX4_passes3_41 : decode (mB mX4_passes3) 41 = .ok (.ireturn, 1) := by decide +kernel
theorem qX4_pointBy_0 : decode (mB mX4_pointBy) 0 = .ok (.iconst 0, 1) := by decide +kernel
theorem qX4_pointBy_1 : decode (mB mX4_pointBy) 1 = .ok (.istore_n 3, 1) := by decide +kernel
theorem qX4_pointBy_2 : decode (mB mX4_pointBy) 2 = .ok (.iconst 1, 1) := by decide +kernel
theorem qX4_pointBy_3 : decode (mB mX4_pointBy) 3 = .ok (.istore 4, 2) := by decide +kernel
theorem qX4_pointBy_5 : decode (mB mX4_pointBy) 5 = .ok (.iload 4, 2) := by decide +kernel
theorem qX4_pointBy_7 : decode (mB mX4_pointBy) 7 = .ok (.aload_n 0, 1) := by decide +kernel
theorem qX4_pointBy_8 : decode (mB mX4_pointBy) 8 = .ok (.iload_n 1, 1) := by decide +kernel
theorem qX4_pointBy_9 : decode (mB mX4_pointBy) 9 = .ok (.bipush 8, 2) := by decide +kernel
theorem qX4_pointBy_11 : decode (mB mX4_pointBy) 11 = .ok (.invokevirtual 148, 3) := by decide +kernel
theorem qX4_pointBy_14 : decode (mB mX4_pointBy) 14 = .ok (.if_icmp .ge 36, 3) := by decide +kernel
theorem qX4_pointBy_17 : decode (mB mX4_pointBy) 17 = .ok (.iload_n 2, 1) := by decide +kernel
theorem qX4_pointBy_18 : decode (mB mX4_pointBy) 18 = .ok (.aload_n 0, 1) := by decide +kernel
theorem qX4_pointBy_19 : decode (mB mX4_pointBy) 19 = .ok (.iload_n 1, 1) := by decide +kernel
theorem qX4_pointBy_20 : decode (mB mX4_pointBy) 20 = .ok (.iload 4, 2) := by decide +kernel
theorem qX4_pointBy_22 : decode (mB mX4_pointBy) 22 = .ok (.invokevirtual 172, 3) := by decide +kernel
theorem qX4_pointBy_25 : decode (mB mX4_pointBy) 25 = .ok (.imul, 1) := by decide +kernel
theorem qX4_pointBy_26 : decode (mB mX4_pointBy) 26 = .ok (.iload_n 2, 1) := by decide +kernel
theorem qX4_pointBy_27 : decode (mB mX4_pointBy) 27 = .ok (.aload_n 0, 1) := by decide +kernel
theorem qX4_pointBy_28 : decode (mB mX4_pointBy) 28 = .ok (.iload_n 1, 1) := by decide +kernel
theorem qX4_pointBy_29 : decode (mB mX4_pointBy) 29 = .ok (.iload_n 3, 1) := by decide +kernel
theorem qX4_pointBy_30 : decode (mB mX4_pointBy) 30 = .ok (.invokevirtual 172, 3) := by decide +kernel
theorem qX4_pointBy_33 : decode (mB mX4_pointBy) 33 = .ok (.imul, 1) := by decide +kernel
theorem qX4_pointBy_34 : decode (mB mX4_pointBy) 34 = .ok (.if_icmp .ge 8, 3) := by decide +kernel
theorem qX4_pointBy_37 : decode (mB mX4_pointBy) 37 = .ok (.iload 4, 2) := by decide +kernel
theorem qX4_pointBy_39 : decode (mB mX4_pointBy) 39 = .ok (.goto 4, 3) := by decide +kernel
theorem qX4_pointBy_42 : decode (mB mX4_pointBy) 42 = .ok (.iload_n 3, 1) := by decide +kernel
theorem qX4_pointBy_43 : decode (mB mX4_pointBy) 43 = .ok (.istore_n 3, 1) := by decide +kernel
theorem qX4_pointBy_44 : decode (mB mX4_pointBy) 44 = .ok (.iinc 4 1, 3) := by decide +kernel
theorem qX4_pointBy_47 : decode (mB mX4_pointBy) 47 = .ok (.goto (-42), 3) := by decide +kernel
theorem qX4_pointBy_50 : decode (mB mX4_pointBy) 50 = .ok (.iload_n 3, 1) := by decide +kernel
theorem qX4_pointBy_51 : decode (mB mX4_pointBy) 51 = .ok (.ireturn, 1) := by decide +kernel
theorem qX4_pointCount_0 : decode (mB mX4_pointCount) 0 = .ok (.aload_n 0, 1) := by decide +kernel
theorem qX4_pointCount_1 : decode (mB mX4_pointCount) 1 = .ok (.iload_n 1, 1) := by decide +kernel
theorem qX4_pointCount_2 : decode (mB mX4_pointCount) 2 = .ok (.bipush 8, 2) := by decide +kernel
theorem qX4_pointCount_4 : decode (mB mX4_pointCount) 4 = .ok (.invokevirtual 399, 3) := by decide +kernel
theorem qX4_pointCount_7 : decode (mB mX4_pointCount) 7 = .ok (.ireturn, 1) := by decide +kernel
theorem qX4_pointDegrees_0 : decode (mB mX4_pointDegrees) 0 = .ok (.aload_n 0, 1) := by decide +kernel
theorem qX4_pointDegrees_1 : decode (mB mX4_pointDegrees) 1 = .ok (.aload_n 0, 1) := by decide +kernel
theorem qX4_pointDegrees_2 : decode (mB mX4_pointDegrees) 2 = .ok (.iload_n 1, 1) := by decide +kernel
theorem qX4_pointDegrees_3 : decode (mB mX4_pointDegrees) 3 = .ok (.invokevirtual 396, 3) := by decide +kernel
theorem qX4_pointDegrees_6 : decode (mB mX4_pointDegrees) 6 = .ok (.aload_n 0, 1) := by decide +kernel
theorem qX4_pointDegrees_7 : decode (mB mX4_pointDegrees) 7 = .ok (.iload_n 1, 1) := by decide +kernel
theorem qX4_pointDegrees_8 : decode (mB mX4_pointDegrees) 8 = .ok (.iload_n 2, 1) := by decide +kernel
theorem qX4_pointDegrees_9 : decode (mB mX4_pointDegrees) 9 = .ok (.invokevirtual 413, 3) := by decide +kernel
theorem qX4_pointDegrees_12 : decode (mB mX4_pointDegrees) 12 = .ok (.invokevirtual 409, 3) := by decide +kernel
theorem qX4_pointDegrees_15 : decode (mB mX4_pointDegrees) 15 = .ok (.ifCond .eq 12, 3) := by decide +kernel
theorem qX4_pointDegrees_18 : decode (mB mX4_pointDegrees) 18 = .ok (.aload_n 0, 1) := by decide +kernel
theorem qX4_pointDegrees_19 : decode (mB mX4_pointDegrees) 19 = .ok (.iload_n 1, 1) := by decide +kernel
theorem qX4_pointDegrees_20 : decode (mB mX4_pointDegrees) 20 = .ok (.iload_n 2, 1) := by decide +kernel
theorem qX4_pointDegrees_21 : decode (mB mX4_pointDegrees) 21 = .ok (.invokevirtual 172, 3) := by decide +kernel
theorem qX4_pointDegrees_24 : decode (mB mX4_pointDegrees) 24 = .ok (.goto 4, 3) := by decide +kernel
theorem qX4_pointDegrees_27 : decode (mB mX4_pointDegrees) 27 = .ok (.iconst 0, 1) := by decide +kernel
theorem qX4_pointDegrees_28 : decode (mB mX4_pointDegrees) 28 = .ok (.ireturn, 1) := by decide +kernel
theorem qX4_pointHeight_0 : decode (mB mX4_pointHeight) 0 = .ok (.aload_n 0, 1) := by decide +kernel
theorem qX4_pointHeight_1 : decode (mB mX4_pointHeight) 1 = .ok (.aload_n 0, 1) := by decide +kernel
theorem qX4_pointHeight_2 : decode (mB mX4_pointHeight) 2 = .ok (.iload_n 1, 1) := by decide +kernel
theorem qX4_pointHeight_3 : decode (mB mX4_pointHeight) 3 = .ok (.invokevirtual 396, 3) := by decide +kernel
theorem qX4_pointHeight_6 : decode (mB mX4_pointHeight) 6 = .ok (.aload_n 0, 1) := by decide +kernel
theorem qX4_pointHeight_7 : decode (mB mX4_pointHeight) 7 = .ok (.iload_n 1, 1) := by decide +kernel
theorem qX4_pointHeight_8 : decode (mB mX4_pointHeight) 8 = .ok (.iload_n 2, 1) := by decide +kernel
theorem qX4_pointHeight_9 : decode (mB mX4_pointHeight) 9 = .ok (.invokevirtual 413, 3) := by decide +kernel
theorem qX4_pointHeight_12 : decode (mB mX4_pointHeight) 12 = .ok (.invokevirtual 409, 3) := by decide +kernel
theorem qX4_pointHeight_15 : decode (mB mX4_pointHeight) 15 = .ok (.ifCond .eq 12, 3) := by decide +kernel
theorem qX4_pointHeight_18 : decode (mB mX4_pointHeight) 18 = .ok (.aload_n 0, 1) := by decide +kernel
theorem qX4_pointHeight_19 : decode (mB mX4_pointHeight) 19 = .ok (.iload_n 1, 1) := by decide +kernel
theorem qX4_pointHeight_20 : decode (mB mX4_pointHeight) 20 = .ok (.iload_n 2, 1) := by decide +kernel
theorem qX4_pointHeight_21 : decode (mB mX4_pointHeight) 21 = .ok (.invokevirtual 175, 3) := by decide +kernel
theorem qX4_pointHeight_24 : decode (mB mX4_pointHeight) 24 = .ok (.goto 4, 3) := by decide +kernel
theorem qX4_pointHeight_27 : decode (mB mX4_pointHeight) 27 = .ok (.iconst 0, 1) := by decide +kernel
theorem qX4_pointHeight_28 : decode (mB mX4_pointHeight) 28 = .ok (.ireturn, 1) := by decide +kernel
theorem qX4_pour_0 : decode (mB mX4_pour) 0 = .ok (.aload_n 0, 1) := by decide +kernel
theorem qX4_pour_1 : decode (mB mX4_pour) 1 = .ok (.iload_n 1, 1) := by decide +kernel
theorem qX4_pour_2 : decode (mB mX4_pour) 2 = .ok (.iconst 4, 1) := by decide +kernel
theorem qX4_pour_3 : decode (mB mX4_pour) 3 = .ok (.aload_n 0, 1) := by decide +kernel
theorem qX4_pour_4 : decode (mB mX4_pour) 4 = .ok (.iload_n 1, 1) := by decide +kernel
theorem qX4_pour_5 : decode (mB mX4_pour) 5 = .ok (.iconst 4, 1) := by decide +kernel
theorem qX4_pour_6 : decode (mB mX4_pour) 6 = .ok (.invokevirtual 148, 3) := by decide +kernel
theorem qX4_pour_9 : decode (mB mX4_pour) 9 = .ok (.iload_n 2, 1) := by decide +kernel
theorem qX4_pour_10 : decode (mB mX4_pour) 10 = .ok (.iadd, 1) := by decide +kernel
theorem qX4_pour_11 : decode (mB mX4_pour) 11 = .ok (.invokevirtual 137, 3) := by decide +kernel
theorem qX4_pour_14 : decode (mB mX4_pour) 14 = .ok (.aload_n 0, 1) := by decide +kernel
theorem qX4_pour_15 : decode (mB mX4_pour) 15 = .ok (.getfield 24, 3) := by decide +kernel
theorem qX4_pour_18 : decode (mB mX4_pour) 18 = .ok (.bipush 8, 2) := by decide +kernel
theorem qX4_pour_20 : decode (mB mX4_pour) 20 = .ok (.dup2, 1) := by decide +kernel
theorem qX4_pour_21 : decode (mB mX4_pour) 21 = .ok (.iaload, 1) := by decide +kernel
theorem qX4_pour_22 : decode (mB mX4_pour) 22 = .ok (.iload_n 2, 1) := by decide +kernel
theorem qX4_pour_23 : decode (mB mX4_pour) 23 = .ok (.iadd, 1) := by decide +kernel
theorem qX4_pour_24 : decode (mB mX4_pour) 24 = .ok (.iastore, 1) := by decide +kernel
theorem qX4_pour_25 : decode (mB mX4_pour) 25 = .ok (.return_, 1) := by decide +kernel
theorem qX4_printTube_0 : decode (mB mX4_printTube) 0 = .ok (.aload_n 0, 1) := by decide +kernel
theorem qX4_printTube_1 : decode (mB mX4_printTube) 1 = .ok (.aload_n 0, 1) := by decide +kernel
theorem qX4_printTube_2 : decode (mB mX4_printTube) 2 = .ok (.iload_n 1, 1) := by decide +kernel
theorem qX4_printTube_3 : decode (mB mX4_printTube) 3 = .ok (.invokevirtual 396, 3) := by decide +kernel
theorem qX4_printTube_6 : decode (mB mX4_printTube) 6 = .ok (.invokevirtual 371, 3) := by decide +kernel
theorem qX4_printTube_9 : decode (mB mX4_printTube) 9 = .ok (.ifCond .ne 5, 3) := by decide +kernel
theorem qX4_printTube_12 : decode (mB mX4_printTube) 12 = .ok (.iconst 0, 1) := by decide +kernel
theorem qX4_printTube_13 : decode (mB mX4_printTube) 13 = .ok (.ireturn, 1) := by decide +kernel
theorem qX4_printTube_14 : decode (mB mX4_printTube) 14 = .ok (.aload_n 0, 1) := by decide +kernel
theorem qX4_printTube_15 : decode (mB mX4_printTube) 15 = .ok (.iconst 0, 1) := by decide +kernel
theorem qX4_printTube_16 : decode (mB mX4_printTube) 16 = .ok (.putfield 463, 3) := by decide +kernel
theorem qX4_printTube_19 : decode (mB mX4_printTube) 19 = .ok (.aload_n 0, 1) := by decide +kernel
theorem qX4_printTube_20 : decode (mB mX4_printTube) 20 = .ok (.iload_n 1, 1) := by decide +kernel
theorem qX4_printTube_21 : decode (mB mX4_printTube) 21 = .ok (.iconst 0, 1) := by decide +kernel
theorem qX4_printTube_22 : decode (mB mX4_printTube) 22 = .ok (.invokevirtual 148, 3) := by decide +kernel
theorem qX4_printTube_25 : decode (mB mX4_printTube) 25 = .ok (.istore_n 2, 1) := by decide +kernel
theorem qX4_printTube_26 : decode (mB mX4_printTube) 26 = .ok (.iconst 0, 1) := by decide +kernel
theorem qX4_printTube_27 : decode (mB mX4_printTube) 27 = .ok (.istore_n 3, 1) := by decide +kernel
theorem qX4_printTube_28 : decode (mB mX4_printTube) 28 = .ok (.iload_n 3, 1) := by decide +kernel
theorem qX4_printTube_29 : decode (mB mX4_printTube) 29 = .ok (.aload_n 0, 1) := by decide +kernel
theorem qX4_printTube_30 : decode (mB mX4_printTube) 30 = .ok (.iload_n 2, 1) := by decide +kernel
theorem qX4_printTube_31 : decode (mB mX4_printTube) 31 = .ok (.iconst 1, 1) := by decide +kernel
theorem qX4_printTube_32 : decode (mB mX4_printTube) 32 = .ok (.invokevirtual 152, 3) := by decide +kernel
theorem qX4_printTube_35 : decode (mB mX4_printTube) 35 = .ok (.if_icmp .ge 29, 3) := by decide +kernel
theorem qX4_printTube_38 : decode (mB mX4_printTube) 38 = .ok (.aload_n 0, 1) := by decide +kernel
theorem qX4_printTube_39 : decode (mB mX4_printTube) 39 = .ok (.aload_n 0, 1) := by decide +kernel
theorem qX4_printTube_40 : decode (mB mX4_printTube) 40 = .ok (.iload_n 2, 1) := by decide +kernel
theorem qX4_printTube_41 : decode (mB mX4_printTube) 41 = .ok (.iconst 0, 1) := by decide +kernel
theorem qX4_printTube_42 : decode (mB mX4_printTube) 42 = .ok (.invokevirtual 152, 3) := by decide +kernel
theorem qX4_printTube_45 : decode (mB mX4_printTube) 45 = .ok (.aload_n 0, 1) := by decide +kernel
theorem qX4_printTube_46 : decode (mB mX4_printTube) 46 = .ok (.iload_n 2, 1) := by decide +kernel
theorem qX4_printTube_47 : decode (mB mX4_printTube) 47 = .ok (.iconst 1, 1) := by decide +kernel
theorem qX4_printTube_48 : decode (mB mX4_printTube) 48 = .ok (.invokevirtual 152, 3) := by decide +kernel
theorem qX4_printTube_51 : decode (mB mX4_printTube) 51 = .ok (.iload_n 3, 1) := by decide +kernel
theorem qX4_printTube_52 : decode (mB mX4_printTube) 52 = .ok (.invokestatic 469, 3) := by decide +kernel
theorem qX4_printTube_55 : decode (mB mX4_printTube) 55 = .ok (.invokevirtual 466, 3) := by decide +kernel
theorem qX4_printTube_58 : decode (mB mX4_printTube) 58 = .ok (.iinc 3 1, 3) := by decide +kernel
theorem qX4_printTube_61 : decode (mB mX4_printTube) 61 = .ok (.goto (-33), 3) := by decide +kernel
theorem qX4_printTube_64 : decode (mB mX4_printTube) 64 = .ok (.aload_n 0, 1) := by decide +kernel
theorem qX4_printTube_65 : decode (mB mX4_printTube) 65 = .ok (.bipush 32, 2) := by decide +kernel
theorem qX4_printTube_67 : decode (mB mX4_printTube) 67 = .ok (.invokevirtual 466, 3) := by decide +kernel
theorem qX4_printTube_70 : decode (mB mX4_printTube) 70 = .ok (.aload_n 0, 1) := by decide +kernel
theorem qX4_printTube_71 : decode (mB mX4_printTube) 71 = .ok (.aload_n 0, 1) := by decide +kernel
theorem qX4_printTube_72 : decode (mB mX4_printTube) 72 = .ok (.iload_n 1, 1) := by decide +kernel
theorem qX4_printTube_73 : decode (mB mX4_printTube) 73 = .ok (.invokevirtual 186, 3) := by decide +kernel
theorem qX4_printTube_76 : decode (mB mX4_printTube) 76 = .ok (.invokevirtual 473, 3) := by decide +kernel
theorem qX4_printTube_79 : decode (mB mX4_printTube) 79 = .ok (.aload_n 0, 1) := by decide +kernel
theorem qX4_printTube_80 : decode (mB mX4_printTube) 80 = .ok (.bipush 47, 2) := by decide +kernel
theorem qX4_printTube_82 : decode (mB mX4_printTube) 82 = .ok (.invokevirtual 466, 3) := by decide +kernel
theorem qX4_printTube_85 : decode (mB mX4_printTube) 85 = .ok (.aload_n 0, 1) := by decide +kernel
theorem qX4_printTube_86 : decode (mB mX4_printTube) 86 = .ok (.aload_n 0, 1) := by decide +kernel
theorem qX4_printTube_87 : decode (mB mX4_printTube) 87 = .ok (.iload_n 1, 1) := by decide +kernel
theorem qX4_printTube_88 : decode (mB mX4_printTube) 88 = .ok (.iconst 3, 1) := by decide +kernel
theorem qX4_printTube_89 : decode (mB mX4_printTube) 89 = .ok (.invokevirtual 148, 3) := by decide +kernel
theorem qX4_printTube_92 : decode (mB mX4_printTube) 92 = .ok (.invokevirtual 473, 3) := by decide +kernel
theorem qX4_printTube_95 : decode (mB mX4_printTube) 95 = .ok (.aload_n 0, 1) := by decide +kernel
theorem qX4_printTube_96 : decode (mB mX4_printTube) 96 = .ok (.iload_n 1, 1) := by decide +kernel
theorem qX4_printTube_97 : decode (mB mX4_printTube) 97 = .ok (.invokevirtual 416, 3) := by decide +kernel
theorem qX4_printTube_100 : decode (mB mX4_printTube) 100 = .ok (.ifCond .eq 41, 3) := by decide +kernel
theorem qX4_printTube_103 : decode (mB mX4_printTube) 103 = .ok (.aload_n 0, 1) := by decide +kernel
theorem qX4_printTube_104 : decode (mB mX4_printTube) 104 = .ok (.bipush 32, 2) := by decide +kernel
theorem qX4_printTube_106 : decode (mB mX4_printTube) 106 = .ok (.invokevirtual 466, 3) := by decide +kernel
theorem qX4_printTube_109 : decode (mB mX4_printTube) 109 = .ok (.aload_n 0, 1) := by decide +kernel
theorem qX4_printTube_110 : decode (mB mX4_printTube) 110 = .ok (.bipush 64, 2) := by decide +kernel
theorem qX4_printTube_112 : decode (mB mX4_printTube) 112 = .ok (.invokevirtual 466, 3) := by decide +kernel
theorem qX4_printTube_115 : decode (mB mX4_printTube) 115 = .ok (.aload_n 0, 1) := by decide +kernel
theorem qX4_printTube_116 : decode (mB mX4_printTube) 116 = .ok (.iload_n 1, 1) := by decide +kernel
theorem qX4_printTube_117 : decode (mB mX4_printTube) 117 = .ok (.invokevirtual 422, 3) := by decide +kernel
theorem qX4_printTube_120 : decode (mB mX4_printTube) 120 = .ok (.ifCond .ge 9, 3) := by decide +kernel
theorem qX4_printTube_123 : decode (mB mX4_printTube) 123 = .ok (.aload_n 0, 1) := by decide +kernel
theorem qX4_printTube_124 : decode (mB mX4_printTube) 124 = .ok (.bipush 45, 2) := by decide +kernel
theorem qX4_printTube_126 : decode (mB mX4_printTube) 126 = .ok (.invokevirtual 466, 3) := by decide +kernel
theorem qX4_printTube_129 : decode (mB mX4_printTube) 129 = .ok (.aload_n 0, 1) := by decide +kernel
theorem qX4_printTube_130 : decode (mB mX4_printTube) 130 = .ok (.aload_n 0, 1) := by decide +kernel
theorem qX4_printTube_131 : decode (mB mX4_printTube) 131 = .ok (.iload_n 1, 1) := by decide +kernel
theorem qX4_printTube_132 : decode (mB mX4_printTube) 132 = .ok (.invokevirtual 422, 3) := by decide +kernel
theorem qX4_printTube_135 : decode (mB mX4_printTube) 135 = .ok (.invokestatic 198, 3) := by decide +kernel
theorem qX4_printTube_138 : decode (mB mX4_printTube) 138 = .ok (.invokevirtual 473, 3) := by decide +kernel
theorem qX4_printTube_141 : decode (mB mX4_printTube) 141 = .ok (.aload_n 0, 1) := by decide +kernel
theorem qX4_printTube_142 : decode (mB mX4_printTube) 142 = .ok (.getfield 17, 3) := by decide +kernel
theorem qX4_printTube_145 : decode (mB mX4_printTube) 145 = .ok (.bipush 6, 2) := by decide +kernel
theorem qX4_printTube_147 : decode (mB mX4_printTube) 147 = .ok (.iaload, 1) := by decide +kernel
theorem qX4_printTube_148 : decode (mB mX4_printTube) 148 = .ok (.iload_n 1, 1) := by decide +kernel
theorem qX4_printTube_149 : decode (mB mX4_printTube) 149 = .ok (.if_icmp .ne 9, 3) := by decide +kernel
theorem qX4_printTube_152 : decode (mB mX4_printTube) 152 = .ok (.aload_n 0, 1) := by decide +kernel
theorem qX4_printTube_153 : decode (mB mX4_printTube) 153 = .ok (.bipush 42, 2) := by decide +kernel
theorem qX4_printTube_155 : decode (mB mX4_printTube) 155 = .ok (.invokevirtual 466, 3) := by decide +kernel
theorem qX4_printTube_158 : decode (mB mX4_printTube) 158 = .ok (.aload_n 0, 1) := by decide +kernel
theorem qX4_printTube_159 : decode (mB mX4_printTube) 159 = .ok (.getfield 463, 3) := by decide +kernel
theorem qX4_printTube_162 : decode (mB mX4_printTube) 162 = .ok (.ireturn, 1) := by decide +kernel
theorem qX4_put_0 : decode (mB mX4_put) 0 = .ok (.aload_n 0, 1) := by decide +kernel
theorem qX4_put_1 : decode (mB mX4_put) 1 = .ok (.getfield 115, 3) := by decide +kernel
theorem qX4_put_4 : decode (mB mX4_put) 4 = .ok (.aload_n 0, 1) := by decide +kernel
theorem qX4_put_5 : decode (mB mX4_put) 5 = .ok (.getfield 463, 3) := by decide +kernel
theorem qX4_put_8 : decode (mB mX4_put) 8 = .ok (.iload_n 1, 1) := by decide +kernel
theorem qX4_put_9 : decode (mB mX4_put) 9 = .ok (.iastore, 1) := by decide +kernel
theorem qX4_put_10 : decode (mB mX4_put) 10 = .ok (.aload_n 0, 1) := by decide +kernel
theorem qX4_put_11 : decode (mB mX4_put) 11 = .ok (.dup, 1) := by decide +kernel
theorem qX4_put_12 : decode (mB mX4_put) 12 = .ok (.getfield 463, 3) := by decide +kernel
theorem qX4_put_15 : decode (mB mX4_put) 15 = .ok (.iconst 1, 1) := by decide +kernel
theorem qX4_put_16 : decode (mB mX4_put) 16 = .ok (.iadd, 1) := by decide +kernel
theorem qX4_put_17 : decode (mB mX4_put) 17 = .ok (.putfield 463, 3) := by decide +kernel
theorem qX4_put_20 : decode (mB mX4_put) 20 = .ok (.return_, 1) := by decide +kernel
theorem qX4_putNumber_0 : decode (mB mX4_putNumber) 0 = .ok (.iconst 1, 1) := by decide +kernel
theorem qX4_putNumber_1 : decode (mB mX4_putNumber) 1 = .ok (.istore_n 2, 1) := by decide +kernel
theorem qX4_putNumber_2 : decode (mB mX4_putNumber) 2 = .ok (.iload_n 2, 1) := by decide +kernel
theorem qX4_putNumber_3 : decode (mB mX4_putNumber) 3 = .ok (.iload_n 1, 1) := by decide +kernel
theorem qX4_putNumber_4 : decode (mB mX4_putNumber) 4 = .ok (.bipush 10, 2) := by decide +kernel
theorem qX4_putNumber_6 : decode (mB mX4_putNumber) 6 = .ok (.idiv, 1) := by decide +kernel
theorem qX4_putNumber_7 : decode (mB mX4_putNumber) 7 = .ok (.if_icmp .gt 11, 3) := by decide +kernel
theorem qX4_putNumber_10 : decode (mB mX4_putNumber) 10 = .ok (.iload_n 2, 1) := by decide +kernel
theorem qX4_putNumber_11 : decode (mB mX4_putNumber) 11 = .ok (.bipush 10, 2) := by decide +kernel
theorem qX4_putNumber_13 : decode (mB mX4_putNumber) 13 = .ok (.imul, 1) := by decide +kernel
theorem qX4_putNumber_14 : decode (mB mX4_putNumber) 14 = .ok (.istore_n 2, 1) := by decide +kernel
theorem qX4_putNumber_15 : decode (mB mX4_putNumber) 15 = .ok (.goto (-13), 3) := by decide +kernel
theorem qX4_putNumber_18 : decode (mB mX4_putNumber) 18 = .ok (.iload_n 2, 1) := by decide +kernel
theorem qX4_putNumber_19 : decode (mB mX4_putNumber) 19 = .ok (.ifCond .le 24, 3) := by decide +kernel
theorem qX4_putNumber_22 : decode (mB mX4_putNumber) 22 = .ok (.aload_n 0, 1) := by decide +kernel
theorem qX4_putNumber_23 : decode (mB mX4_putNumber) 23 = .ok (.bipush 48, 2) := by decide +kernel
theorem qX4_putNumber_25 : decode (mB mX4_putNumber) 25 = .ok (.iload_n 1, 1) := by decide +kernel
theorem qX4_putNumber_26 : decode (mB mX4_putNumber) 26 = .ok (.iload_n 2, 1) := by decide +kernel
theorem qX4_putNumber_27 : decode (mB mX4_putNumber) 27 = .ok (.idiv, 1) := by decide +kernel
theorem qX4_putNumber_28 : decode (mB mX4_putNumber) 28 = .ok (.bipush 10, 2) := by decide +kernel
theorem qX4_putNumber_30 : decode (mB mX4_putNumber) 30 = .ok (.irem, 1) := by decide +kernel
theorem qX4_putNumber_31 : decode (mB mX4_putNumber) 31 = .ok (.iadd, 1) := by decide +kernel
theorem qX4_putNumber_32 : decode (mB mX4_putNumber) 32 = .ok (.invokevirtual 466, 3) := by decide +kernel
theorem qX4_putNumber_35 : decode (mB mX4_putNumber) 35 = .ok (.iload_n 2, 1) := by decide +kernel
theorem qX4_putNumber_36 : decode (mB mX4_putNumber) 36 = .ok (.bipush 10, 2) := by decide +kernel
theorem qX4_putNumber_38 : decode (mB mX4_putNumber) 38 = .ok (.idiv, 1) := by decide +kernel
theorem qX4_putNumber_39 : decode (mB mX4_putNumber) 39 = .ok (.istore_n 2, 1) := by decide +kernel
theorem qX4_putNumber_40 : decode (mB mX4_putNumber) 40 = .ok (.goto (-22), 3) := by decide +kernel
theorem qX4_putNumber_43 : decode (mB mX4_putNumber) 43 = .ok (.return_, 1) := by decide +kernel
theorem qX4_readDip_0 : decode (mB mX4_readDip) 0 = .ok (.aload_n 0, 1) := by decide +kernel
theorem qX4_readDip_1 : decode (mB mX4_readDip) 1 = .ok (.invokevirtual 253, 3) := by decide +kernel
theorem qX4_readDip_4 : decode (mB mX4_readDip) 4 = .ok (.aload_n 0, 1) := by decide +kernel
theorem qX4_readDip_5 : decode (mB mX4_readDip) 5 = .ok (.invokevirtual 311, 3) := by decide +kernel
theorem qX4_readDip_8 : decode (mB mX4_readDip) 8 = .ok (.istore_n 1, 1) := by decide +kernel
theorem qX4_readDip_9 : decode (mB mX4_readDip) 9 = .ok (.aload_n 0, 1) := by decide +kernel
theorem qX4_readDip_10 : decode (mB mX4_readDip) 10 = .ok (.iconst 0, 1) := by decide +kernel
theorem qX4_readDip_11 : decode (mB mX4_readDip) 11 = .ok (.invokevirtual 307, 3) := by decide +kernel
theorem qX4_readDip_14 : decode (mB mX4_readDip) 14 = .ok (.istore_n 2, 1) := by decide +kernel
theorem qX4_readDip_15 : decode (mB mX4_readDip) 15 = .ok (.aload_n 0, 1) := by decide +kernel
theorem qX4_readDip_16 : decode (mB mX4_readDip) 16 = .ok (.aload_n 0, 1) := by decide +kernel
theorem qX4_readDip_17 : decode (mB mX4_readDip) 17 = .ok (.invokevirtual 269, 3) := by decide +kernel
theorem qX4_readDip_20 : decode (mB mX4_readDip) 20 = .ok (.ifCond .eq 16, 3) := by decide +kernel
theorem qX4_readDip_23 : decode (mB mX4_readDip) 23 = .ok (.aload_n 0, 1) := by decide +kernel
theorem qX4_readDip_24 : decode (mB mX4_readDip) 24 = .ok (.iload_n 1, 1) := by decide +kernel
theorem qX4_readDip_25 : decode (mB mX4_readDip) 25 = .ok (.iload_n 2, 1) := by decide +kernel
theorem qX4_readDip_26 : decode (mB mX4_readDip) 26 = .ok (.invokevirtual 314, 3) := by decide +kernel
theorem qX4_readDip_29 : decode (mB mX4_readDip) 29 = .ok (.ifCond .eq 7, 3) := by decide +kernel
theorem qX4_readDip_32 : decode (mB mX4_readDip) 32 = .ok (.iconst 1, 1) := by decide +kernel
theorem qX4_readDip_33 : decode (mB mX4_readDip) 33 = .ok (.goto 4, 3) := by decide +kernel
theorem qX4_readDip_36 : decode (mB mX4_readDip) 36 = .ok (.iconst 0, 1) := by decide +kernel
theorem qX4_readDip_37 : decode (mB mX4_readDip) 37 = .ok (.invokevirtual 300, 3) := by decide +kernel
theorem qX4_readDip_40 : decode (mB mX4_readDip) 40 = .ok (.aload_n 0, 1) := by decide +kernel
theorem qX4_readDip_41 : decode (mB mX4_readDip) 41 = .ok (.invokevirtual 269, 3) := by decide +kernel
theorem qX4_readDip_44 : decode (mB mX4_readDip) 44 = .ok (.ifCond .eq 11, 3) := by decide +kernel
theorem qX4_readDip_47 : decode (mB mX4_readDip) 47 = .ok (.aload_n 0, 1) := by decide +kernel
theorem qX4_readDip_48 : decode (mB mX4_readDip) 48 = .ok (.iload_n 1, 1) := by decide +kernel
theorem qX4_readDip_49 : decode (mB mX4_readDip) 49 = .ok (.bipush 7, 2) := by decide +kernel
theorem qX4_readDip_51 : decode (mB mX4_readDip) 51 = .ok (.iload_n 2, 1) := by decide +kernel
theorem qX4_readDip_52 : decode (mB mX4_readDip) 52 = .ok (.invokevirtual 137, 3) := by decide +kernel
theorem qX4_readDip_55 : decode (mB mX4_readDip) 55 = .ok (.return_, 1) := by decide +kernel
theorem qX4_readErase_0 : decode (mB mX4_readErase) 0 = .ok (.aload_n 0, 1) := by decide +kernel
theorem qX4_readErase_1 : decode (mB mX4_readErase) 1 = .ok (.invokevirtual 253, 3) := by decide +kernel
theorem qX4_readErase_4 : decode (mB mX4_readErase) 4 = .ok (.aload_n 0, 1) := by decide +kernel
theorem qX4_readErase_5 : decode (mB mX4_readErase) 5 = .ok (.invokevirtual 311, 3) := by decide +kernel
theorem qX4_readErase_8 : decode (mB mX4_readErase) 8 = .ok (.istore_n 1, 1) := by decide +kernel
theorem qX4_readErase_9 : decode (mB mX4_readErase) 9 = .ok (.aload_n 0, 1) := by decide +kernel
theorem qX4_readErase_10 : decode (mB mX4_readErase) 10 = .ok (.iconst 0, 1) := by decide +kernel
theorem qX4_readErase_11 : decode (mB mX4_readErase) 11 = .ok (.aload_n 0, 1) := by decide +kernel
theorem qX4_readErase_12 : decode (mB mX4_readErase) 12 = .ok (.invokevirtual 269, 3) := by decide +kernel
theorem qX4_readErase_15 : decode (mB mX4_readErase) 15 = .ok (.ifCond .eq 15, 3) := by decide +kernel
theorem qX4_readErase_18 : decode (mB mX4_readErase) 18 = .ok (.aload_n 0, 1) := by decide +kernel
theorem qX4_readErase_19 : decode (mB mX4_readErase) 19 = .ok (.iload_n 1, 1) := by decide +kernel
theorem qX4_readErase_20 : decode (mB mX4_readErase) 20 = .ok (.bipush 8, 2) := by decide +kernel
theorem qX4_readErase_22 : decode (mB mX4_readErase) 22 = .ok (.invokevirtual 148, 3) := by decide +kernel
theorem qX4_readErase_25 : decode (mB mX4_readErase) 25 = .ok (.iconst 1, 1) := by decide +kernel
theorem qX4_readErase_26 : decode (mB mX4_readErase) 26 = .ok (.isub, 1) := by decide +kernel
theorem qX4_readErase_27 : decode (mB mX4_readErase) 27 = .ok (.goto 4, 3) := by decide +kernel
theorem qX4_readErase_30 : decode (mB mX4_readErase) 30 = .ok (.iconst 0, 1) := by decide +kernel
theorem qX4_readErase_31 : decode (mB mX4_readErase) 31 = .ok (.invokevirtual 280, 3) := by decide +kernel
theorem qX4_readErase_34 : decode (mB mX4_readErase) 34 = .ok (.istore_n 2, 1) := by decide +kernel
theorem qX4_readErase_35 : decode (mB mX4_readErase) 35 = .ok (.aload_n 0, 1) := by decide +kernel
theorem qX4_readErase_36 : decode (mB mX4_readErase) 36 = .ok (.iconst 0, 1) := by decide +kernel
theorem qX4_readErase_37 : decode (mB mX4_readErase) 37 = .ok (.invokevirtual 300, 3) := by decide +kernel
theorem qX4_readErase_40 : decode (mB mX4_readErase) 40 = .ok (.aload_n 0, 1) := by decide +kernel
theorem qX4_readErase_41 : decode (mB mX4_readErase) 41 = .ok (.invokevirtual 269, 3) := by decide +kernel
theorem qX4_readErase_44 : decode (mB mX4_readErase) 44 = .ok (.ifCond .eq 10, 3) := by decide +kernel
theorem qX4_readErase_47 : decode (mB mX4_readErase) 47 = .ok (.aload_n 0, 1) := by decide +kernel
theorem qX4_readErase_48 : decode (mB mX4_readErase) 48 = .ok (.iload_n 1, 1) := by decide +kernel
theorem qX4_readErase_49 : decode (mB mX4_readErase) 49 = .ok (.iload_n 2, 1) := by decide +kernel
theorem qX4_readErase_50 : decode (mB mX4_readErase) 50 = .ok (.invokevirtual 323, 3) := by decide +kernel
theorem qX4_readErase_53 : decode (mB mX4_readErase) 53 = .ok (.istore_n 3, 1) := by decide +kernel
theorem qX4_readErase_54 : decode (mB mX4_readErase) 54 = .ok (.return_, 1) := by decide +kernel
theorem qX4_readFill_0 : decode (mB mX4_readFill) 0 = .ok (.aload_n 0, 1) := by decide +kernel
theorem qX4_readFill_1 : decode (mB mX4_readFill) 1 = .ok (.invokevirtual 253, 3) := by decide +kernel
theorem qX4_readFill_4 : decode (mB mX4_readFill) 4 = .ok (.aload_n 0, 1) := by decide +kernel
theorem qX4_readFill_5 : decode (mB mX4_readFill) 5 = .ok (.invokevirtual 311, 3) := by decide +kernel
theorem qX4_readFill_8 : decode (mB mX4_readFill) 8 = .ok (.istore_n 1, 1) := by decide +kernel
theorem qX4_readFill_9 : decode (mB mX4_readFill) 9 = .ok (.aload_n 0, 1) := by decide +kernel
theorem qX4_readFill_10 : decode (mB mX4_readFill) 10 = .ok (.iconst 1, 1) := by decide +kernel
theorem qX4_readFill_11 : decode (mB mX4_readFill) 11 = .ok (.sipush 999, 3) := by decide +kernel
theorem qX4_readFill_14 : decode (mB mX4_readFill) 14 = .ok (.invokevirtual 280, 3) := by decide +kernel
theorem qX4_readFill_17 : decode (mB mX4_readFill) 17 = .ok (.istore_n 2, 1) := by decide +kernel
theorem qX4_readFill_18 : decode (mB mX4_readFill) 18 = .ok (.aload_n 0, 1) := by decide +kernel
theorem qX4_readFill_19 : decode (mB mX4_readFill) 19 = .ok (.aload_n 0, 1) := by decide +kernel
theorem qX4_readFill_20 : decode (mB mX4_readFill) 20 = .ok (.invokevirtual 269, 3) := by decide +kernel
theorem qX4_readFill_23 : decode (mB mX4_readFill) 23 = .ok (.ifCond .eq 21, 3) := by decide +kernel
theorem qX4_readFill_26 : decode (mB mX4_readFill) 26 = .ok (.aload_n 0, 1) := by decide +kernel
theorem qX4_readFill_27 : decode (mB mX4_readFill) 27 = .ok (.iload_n 1, 1) := by decide +kernel
theorem qX4_readFill_28 : decode (mB mX4_readFill) 28 = .ok (.iconst 4, 1) := by decide +kernel
theorem qX4_readFill_29 : decode (mB mX4_readFill) 29 = .ok (.invokevirtual 148, 3) := by decide +kernel
theorem qX4_readFill_32 : decode (mB mX4_readFill) 32 = .ok (.iload_n 2, 1) := by decide +kernel
theorem qX4_readFill_33 : decode (mB mX4_readFill) 33 = .ok (.iadd, 1) := by decide +kernel
theorem qX4_readFill_34 : decode (mB mX4_readFill) 34 = .ok (.sipush 999, 3) := by decide +kernel
theorem qX4_readFill_37 : decode (mB mX4_readFill) 37 = .ok (.if_icmp .le 7, 3) := by decide +kernel
theorem qX4_readFill_40 : decode (mB mX4_readFill) 40 = .ok (.iconst 1, 1) := by decide +kernel
theorem qX4_readFill_41 : decode (mB mX4_readFill) 41 = .ok (.goto 4, 3) := by decide +kernel
theorem qX4_readFill_44 : decode (mB mX4_readFill) 44 = .ok (.iconst 0, 1) := by decide +kernel
theorem qX4_readFill_45 : decode (mB mX4_readFill) 45 = .ok (.invokevirtual 300, 3) := by decide +kernel
theorem qX4_readFill_48 : decode (mB mX4_readFill) 48 = .ok (.aload_n 0, 1) := by decide +kernel
theorem qX4_readFill_49 : decode (mB mX4_readFill) 49 = .ok (.invokevirtual 269, 3) := by decide +kernel
theorem qX4_readFill_52 : decode (mB mX4_readFill) 52 = .ok (.ifCond .eq 9, 3) := by decide +kernel
theorem qX4_readFill_55 : decode (mB mX4_readFill) 55 = .ok (.aload_n 0, 1) := by decide +kernel
theorem qX4_readFill_56 : decode (mB mX4_readFill) 56 = .ok (.iload_n 1, 1) := by decide +kernel
theorem qX4_readFill_57 : decode (mB mX4_readFill) 57 = .ok (.iload_n 2, 1) := by decide +kernel
theorem qX4_readFill_58 : decode (mB mX4_readFill) 58 = .ok (.invokevirtual 320, 3) := by decide +kernel
theorem qX4_readFill_61 : decode (mB mX4_readFill) 61 = .ok (.return_, 1) := by decide +kernel
theorem qX4_readGallery_0 : decode (mB mX4_readGallery) 0 = .ok (.aload_n 0, 1) := by decide +kernel
theorem qX4_readGallery_1 : decode (mB mX4_readGallery) 1 = .ok (.aload_n 0, 1) := by decide +kernel
theorem qX4_readGallery_2 : decode (mB mX4_readGallery) 2 = .ok (.getfield 37, 3) := by decide +kernel
theorem qX4_readGallery_5 : decode (mB mX4_readGallery) 5 = .ok (.invokevirtual 293, 3) := by decide +kernel
theorem qX4_readGallery_8 : decode (mB mX4_readGallery) 8 = .ok (.ifCond .ne 9, 3) := by decide +kernel
theorem qX4_readGallery_11 : decode (mB mX4_readGallery) 11 = .ok (.aload_n 0, 1) := by decide +kernel
theorem qX4_readGallery_12 : decode (mB mX4_readGallery) 12 = .ok (.iconst 1, 1) := by decide +kernel
theorem qX4_readGallery_13 : decode (mB mX4_readGallery) 13 = .ok (.invokevirtual 273, 3) := by decide +kernel
theorem qX4_readGallery_16 : decode (mB mX4_readGallery) 16 = .ok (.return_, 1) := by decide +kernel
theorem qX4_readGallery_17 : decode (mB mX4_readGallery) 17 = .ok (.aload_n 0, 1) := by decide +kernel
theorem qX4_readGallery_18 : decode (mB mX4_readGallery) 18 = .ok (.invokevirtual 253, 3) := by decide +kernel
theorem qX4_readGallery_21 : decode (mB mX4_readGallery) 21 = .ok (.iconst 0, 1) := by decide +kernel
theorem qX4_readGallery_22 : decode (mB mX4_readGallery) 22 = .ok (.istore_n 1, 1) := by decide +kernel
theorem qX4_readGallery_23 : decode (mB mX4_readGallery) 23 = .ok (.iload_n 1, 1) := by decide +kernel
theorem qX4_readGallery_24 : decode (mB mX4_readGallery) 24 = .ok (.sipush 210, 3) := by decide +kernel
theorem qX4_readGallery_27 : decode (mB mX4_readGallery) 27 = .ok (.if_icmp .ge 16, 3) := by decide +kernel
theorem qX4_readGallery_30 : decode (mB mX4_readGallery) 30 = .ok (.aload_n 0, 1) := by decide +kernel
theorem qX4_readGallery_31 : decode (mB mX4_readGallery) 31 = .ok (.getfield 24, 3) := by decide +kernel
theorem qX4_readGallery_34 : decode (mB mX4_readGallery) 34 = .ok (.iload_n 1, 1) := by decide +kernel
theorem qX4_readGallery_35 : decode (mB mX4_readGallery) 35 = .ok (.iconst 0, 1) := by decide +kernel
theorem qX4_readGallery_36 : decode (mB mX4_readGallery) 36 = .ok (.iastore, 1) := by decide +kernel
theorem qX4_readGallery_37 : decode (mB mX4_readGallery) 37 = .ok (.iinc 1 1, 3) := by decide +kernel
theorem qX4_readGallery_40 : decode (mB mX4_readGallery) 40 = .ok (.goto (-17), 3) := by decide +kernel
theorem qX4_readGallery_43 : decode (mB mX4_readGallery) 43 = .ok (.aload_n 0, 1) := by decide +kernel
theorem qX4_readGallery_44 : decode (mB mX4_readGallery) 44 = .ok (.getfield 24, 3) := by decide +kernel
theorem qX4_readGallery_47 : decode (mB mX4_readGallery) 47 = .ok (.bipush 6, 2) := by decide +kernel
theorem qX4_readGallery_49 : decode (mB mX4_readGallery) 49 = .ok (.iconst (-1), 1) := by decide +kernel
theorem qX4_readGallery_50 : decode (mB mX4_readGallery) 50 = .ok (.iastore, 1) := by decide +kernel
theorem qX4_readGallery_51 : decode (mB mX4_readGallery) 51 = .ok (.aload_n 0, 1) := by decide +kernel
theorem qX4_readGallery_52 : decode (mB mX4_readGallery) 52 = .ok (.getfield 24, 3) := by decide +kernel
theorem qX4_readGallery_55 : decode (mB mX4_readGallery) 55 = .ok (.iconst 0, 1) := by decide +kernel
theorem qX4_readGallery_56 : decode (mB mX4_readGallery) 56 = .ok (.aload_n 0, 1) := by decide +kernel
theorem qX4_readGallery_57 : decode (mB mX4_readGallery) 57 = .ok (.invokevirtual 297, 3) := by decide +kernel
theorem qX4_readGallery_60 : decode (mB mX4_readGallery) 60 = .ok (.iastore, 1) := by decide +kernel
theorem qX4_readGallery_61 : decode (mB mX4_readGallery) 61 = .ok (.aload_n 0, 1) := by decide +kernel
theorem qX4_readGallery_62 : decode (mB mX4_readGallery) 62 = .ok (.getfield 24, 3) := by decide +kernel
theorem qX4_readGallery_65 : decode (mB mX4_readGallery) 65 = .ok (.iconst 1, 1) := by decide +kernel
theorem qX4_readGallery_66 : decode (mB mX4_readGallery) 66 = .ok (.aload_n 0, 1) := by decide +kernel
theorem qX4_readGallery_67 : decode (mB mX4_readGallery) 67 = .ok (.iconst 1, 1) := by decide +kernel
theorem qX4_readGallery_68 : decode (mB mX4_readGallery) 68 = .ok (.bipush 20, 2) := by decide +kernel
theorem qX4_readGallery_70 : decode (mB mX4_readGallery) 70 = .ok (.invokevirtual 280, 3) := by decide +kernel
theorem qX4_readGallery_73 : decode (mB mX4_readGallery) 73 = .ok (.iastore, 1) := by decide +kernel
theorem qX4_readGallery_74 : decode (mB mX4_readGallery) 74 = .ok (.aload_n 0, 1) := by decide +kernel
theorem qX4_readGallery_75 : decode (mB mX4_readGallery) 75 = .ok (.iconst 0, 1) := by decide +kernel
theorem qX4_readGallery_76 : decode (mB mX4_readGallery) 76 = .ok (.invokevirtual 300, 3) := by decide +kernel
theorem qX4_readGallery_79 : decode (mB mX4_readGallery) 79 = .ok (.return_, 1) := by decide +kernel
theorem qX4_readLeaky_0 : decode (mB mX4_readLeaky) 0 = .ok (.aload_n 0, 1) := by decide +kernel
theorem qX4_readLeaky_1 : decode (mB mX4_readLeaky) 1 = .ok (.invokevirtual 253, 3) := by decide +kernel
theorem qX4_readLeaky_4 : decode (mB mX4_readLeaky) 4 = .ok (.aload_n 0, 1) := by decide +kernel
theorem qX4_readLeaky_5 : decode (mB mX4_readLeaky) 5 = .ok (.invokevirtual 311, 3) := by decide +kernel
theorem qX4_readLeaky_8 : decode (mB mX4_readLeaky) 8 = .ok (.istore_n 2, 1) := by decide +kernel
theorem qX4_readLeaky_9 : decode (mB mX4_readLeaky) 9 = .ok (.aload_n 0, 1) := by decide +kernel
theorem qX4_readLeaky_10 : decode (mB mX4_readLeaky) 10 = .ok (.iconst 0, 1) := by decide +kernel
theorem qX4_readLeaky_11 : decode (mB mX4_readLeaky) 11 = .ok (.invokevirtual 300, 3) := by decide +kernel
theorem qX4_readLeaky_14 : decode (mB mX4_readLeaky) 14 = .ok (.aload_n 0, 1) := by decide +kernel
theorem qX4_readLeaky_15 : decode (mB mX4_readLeaky) 15 = .ok (.invokevirtual 269, 3) := by decide +kernel
theorem qX4_readLeaky_18 : decode (mB mX4_readLeaky) 18 = .ok (.ifCond .eq 11, 3) := by decide +kernel
theorem qX4_readLeaky_21 : decode (mB mX4_readLeaky) 21 = .ok (.aload_n 0, 1) := by decide +kernel
theorem qX4_readLeaky_22 : decode (mB mX4_readLeaky) 22 = .ok (.iload_n 2, 1) := by decide +kernel
theorem qX4_readLeaky_23 : decode (mB mX4_readLeaky) 23 = .ok (.bipush 6, 2) := by decide +kernel
theorem qX4_readLeaky_25 : decode (mB mX4_readLeaky) 25 = .ok (.iload_n 1, 1) := by decide +kernel
theorem qX4_readLeaky_26 : decode (mB mX4_readLeaky) 26 = .ok (.invokevirtual 137, 3) := by decide +kernel
theorem qX4_readLeaky_29 : decode (mB mX4_readLeaky) 29 = .ok (.return_, 1) := by decide +kernel
theorem qX4_readLift_0 : decode (mB mX4_readLift) 0 = .ok (.aload_n 0, 1) := by decide +kernel
theorem qX4_readLift_1 : decode (mB mX4_readLift) 1 = .ok (.invokevirtual 253, 3) := by decide +kernel
theorem qX4_readLift_4 : decode (mB mX4_readLift) 4 = .ok (.aload_n 0, 1) := by decide +kernel
theorem qX4_readLift_5 : decode (mB mX4_readLift) 5 = .ok (.invokevirtual 311, 3) := by decide +kernel
theorem qX4_readLift_8 : decode (mB mX4_readLift) 8 = .ok (.istore_n 1, 1) := by decide +kernel
theorem qX4_readLift_9 : decode (mB mX4_readLift) 9 = .ok (.aload_n 0, 1) := by decide +kernel
theorem qX4_readLift_10 : decode (mB mX4_readLift) 10 = .ok (.aload_n 0, 1) := by decide +kernel
theorem qX4_readLift_11 : decode (mB mX4_readLift) 11 = .ok (.invokevirtual 269, 3) := by decide +kernel
theorem qX4_readLift_14 : decode (mB mX4_readLift) 14 = .ok (.ifCond .eq 18, 3) := by decide +kernel
theorem qX4_readLift_17 : decode (mB mX4_readLift) 17 = .ok (.aload_n 0, 1) := by decide +kernel
theorem qX4_readLift_18 : decode (mB mX4_readLift) 18 = .ok (.iload_n 1, 1) := by decide +kernel
theorem qX4_readLift_19 : decode (mB mX4_readLift) 19 = .ok (.bipush 7, 2) := by decide +kernel
theorem qX4_readLift_21 : decode (mB mX4_readLift) 21 = .ok (.invokevirtual 148, 3) := by decide +kernel
theorem qX4_readLift_24 : decode (mB mX4_readLift) 24 = .ok (.iconst (-1), 1) := by decide +kernel
theorem qX4_readLift_25 : decode (mB mX4_readLift) 25 = .ok (.if_icmp .ne 7, 3) := by decide +kernel
theorem qX4_readLift_28 : decode (mB mX4_readLift) 28 = .ok (.iconst 1, 1) := by decide +kernel
theorem qX4_readLift_29 : decode (mB mX4_readLift) 29 = .ok (.goto 4, 3) := by decide +kernel
theorem qX4_readLift_32 : decode (mB mX4_readLift) 32 = .ok (.iconst 0, 1) := by decide +kernel
theorem qX4_readLift_33 : decode (mB mX4_readLift) 33 = .ok (.invokevirtual 300, 3) := by decide +kernel
theorem qX4_readLift_36 : decode (mB mX4_readLift) 36 = .ok (.aload_n 0, 1) := by decide +kernel
theorem qX4_readLift_37 : decode (mB mX4_readLift) 37 = .ok (.invokevirtual 269, 3) := by decide +kernel
theorem qX4_readLift_40 : decode (mB mX4_readLift) 40 = .ok (.ifCond .eq 11, 3) := by decide +kernel
theorem qX4_readLift_43 : decode (mB mX4_readLift) 43 = .ok (.aload_n 0, 1) := by decide +kernel
theorem qX4_readLift_44 : decode (mB mX4_readLift) 44 = .ok (.iload_n 1, 1) := by decide +kernel
theorem qX4_readLift_45 : decode (mB mX4_readLift) 45 = .ok (.bipush 7, 2) := by decide +kernel
theorem qX4_readLift_47 : decode (mB mX4_readLift) 47 = .ok (.iconst (-1), 1) := by decide +kernel
theorem qX4_readLift_48 : decode (mB mX4_readLift) 48 = .ok (.invokevirtual 137, 3) := by decide +kernel
theorem qX4_readLift_51 : decode (mB mX4_readLift) 51 = .ok (.return_, 1) := by decide +kernel
theorem qX4_readMark_0 : decode (mB mX4_readMark) 0 = .ok (.aload_n 0, 1) := by decide +kernel
theorem qX4_readMark_1 : decode (mB mX4_readMark) 1 = .ok (.invokevirtual 253, 3) := by decide +kernel
theorem qX4_readMark_4 : decode (mB mX4_readMark) 4 = .ok (.aload_n 0, 1) := by decide +kernel
theorem qX4_readMark_5 : decode (mB mX4_readMark) 5 = .ok (.invokevirtual 311, 3) := by decide +kernel
theorem qX4_readMark_8 : decode (mB mX4_readMark) 8 = .ok (.istore_n 1, 1) := by decide +kernel
theorem qX4_readMark_9 : decode (mB mX4_readMark) 9 = .ok (.aload_n 0, 1) := by decide +kernel
theorem qX4_readMark_10 : decode (mB mX4_readMark) 10 = .ok (.aload_n 0, 1) := by decide +kernel
theorem qX4_readMark_11 : decode (mB mX4_readMark) 11 = .ok (.invokevirtual 269, 3) := by decide +kernel
theorem qX4_readMark_14 : decode (mB mX4_readMark) 14 = .ok (.ifCond .eq 15, 3) := by decide +kernel
theorem qX4_readMark_17 : decode (mB mX4_readMark) 17 = .ok (.aload_n 0, 1) := by decide +kernel
theorem qX4_readMark_18 : decode (mB mX4_readMark) 18 = .ok (.iload_n 1, 1) := by decide +kernel
theorem qX4_readMark_19 : decode (mB mX4_readMark) 19 = .ok (.invokevirtual 317, 3) := by decide +kernel
theorem qX4_readMark_22 : decode (mB mX4_readMark) 22 = .ok (.ifCond .eq 7, 3) := by decide +kernel
theorem qX4_readMark_25 : decode (mB mX4_readMark) 25 = .ok (.iconst 1, 1) := by decide +kernel
theorem qX4_readMark_26 : decode (mB mX4_readMark) 26 = .ok (.goto 4, 3) := by decide +kernel
theorem qX4_readMark_29 : decode (mB mX4_readMark) 29 = .ok (.iconst 0, 1) := by decide +kernel
theorem qX4_readMark_30 : decode (mB mX4_readMark) 30 = .ok (.invokevirtual 300, 3) := by decide +kernel
theorem qX4_readMark_33 : decode (mB mX4_readMark) 33 = .ok (.aload_n 0, 1) := by decide +kernel
theorem qX4_readMark_34 : decode (mB mX4_readMark) 34 = .ok (.invokevirtual 269, 3) := by decide +kernel
theorem qX4_readMark_37 : decode (mB mX4_readMark) 37 = .ok (.ifCond .eq 9, 3) := by decide +kernel
theorem qX4_readMark_40 : decode (mB mX4_readMark) 40 = .ok (.aload_n 0, 1) := by decide +kernel
theorem qX4_readMark_41 : decode (mB mX4_readMark) 41 = .ok (.iload_n 1, 1) := by decide +kernel
theorem qX4_readMark_42 : decode (mB mX4_readMark) 42 = .ok (.invokevirtual 144, 3) := by decide +kernel
theorem qX4_readMark_45 : decode (mB mX4_readMark) 45 = .ok (.istore_n 2, 1) := by decide +kernel
theorem qX4_readMark_46 : decode (mB mX4_readMark) 46 = .ok (.return_, 1) := by decide +kernel
theorem qX4_readNew_0 : decode (mB mX4_readNew) 0 = .ok (.aload_n 0, 1) := by decide +kernel
theorem qX4_readNew_1 : decode (mB mX4_readNew) 1 = .ok (.iload_n 1, 1) := by decide +kernel
theorem qX4_readNew_2 : decode (mB mX4_readNew) 2 = .ok (.ifCond .eq 7, 3) := by decide +kernel
theorem qX4_readNew_5 : decode (mB mX4_readNew) 5 = .ok (.iconst 3, 1) := by decide +kernel
theorem qX4_readNew_6 : decode (mB mX4_readNew) 6 = .ok (.goto 4, 3) := by decide +kernel
theorem qX4_readNew_9 : decode (mB mX4_readNew) 9 = .ok (.iconst 4, 1) := by decide +kernel
theorem qX4_readNew_10 : decode (mB mX4_readNew) 10 = .ok (.iload_n 1, 1) := by decide +kernel
theorem qX4_readNew_11 : decode (mB mX4_readNew) 11 = .ok (.ifCond .eq 7, 3) := by decide +kernel
theorem qX4_readNew_14 : decode (mB mX4_readNew) 14 = .ok (.iconst 5, 1) := by decide +kernel
theorem qX4_readNew_15 : decode (mB mX4_readNew) 15 = .ok (.goto 4, 3) := by decide +kernel
theorem qX4_readNew_18 : decode (mB mX4_readNew) 18 = .ok (.iconst 4, 1) := by decide +kernel
theorem qX4_readNew_19 : decode (mB mX4_readNew) 19 = .ok (.invokevirtual 304, 3) := by decide +kernel
theorem qX4_readNew_22 : decode (mB mX4_readNew) 22 = .ok (.ifCond .ne 4, 3) := by decide +kernel
theorem qX4_readNew_25 : decode (mB mX4_readNew) 25 = .ok (.return_, 1) := by decide +kernel
theorem qX4_readNew_26 : decode (mB mX4_readNew) 26 = .ok (.aload_n 0, 1) := by decide +kernel
theorem qX4_readNew_27 : decode (mB mX4_readNew) 27 = .ok (.aload_n 0, 1) := by decide +kernel
theorem qX4_readNew_28 : decode (mB mX4_readNew) 28 = .ok (.getfield 235, 3) := by decide +kernel
theorem qX4_readNew_31 : decode (mB mX4_readNew) 31 = .ok (.iconst 1, 1) := by decide +kernel
theorem qX4_readNew_32 : decode (mB mX4_readNew) 32 = .ok (.if_icmp .eq 7, 3) := by decide +kernel
theorem qX4_readNew_35 : decode (mB mX4_readNew) 35 = .ok (.iconst 1, 1) := by decide +kernel
theorem qX4_readNew_36 : decode (mB mX4_readNew) 36 = .ok (.goto 4, 3) := by decide +kernel
theorem qX4_readNew_39 : decode (mB mX4_readNew) 39 = .ok (.iconst 0, 1) := by decide +kernel
theorem qX4_readNew_40 : decode (mB mX4_readNew) 40 = .ok (.iconst 1, 1) := by decide +kernel
theorem qX4_readNew_41 : decode (mB mX4_readNew) 41 = .ok (.invokevirtual 283, 3) := by decide +kernel
theorem qX4_readNew_44 : decode (mB mX4_readNew) 44 = .ok (.aload_n 0, 1) := by decide +kernel
theorem qX4_readNew_45 : decode (mB mX4_readNew) 45 = .ok (.aload_n 0, 1) := by decide +kernel
theorem qX4_readNew_46 : decode (mB mX4_readNew) 46 = .ok (.getfield 226, 3) := by decide +kernel
theorem qX4_readNew_49 : decode (mB mX4_readNew) 49 = .ok (.iconst 4, 1) := by decide +kernel
theorem qX4_readNew_50 : decode (mB mX4_readNew) 50 = .ok (.if_icmp .le 7, 3) := by decide +kernel
theorem qX4_readNew_53 : decode (mB mX4_readNew) 53 = .ok (.iconst 1, 1) := by decide +kernel
theorem qX4_readNew_54 : decode (mB mX4_readNew) 54 = .ok (.goto 4, 3) := by decide +kernel
theorem qX4_readNew_57 : decode (mB mX4_readNew) 57 = .ok (.iconst 0, 1) := by decide +kernel
theorem qX4_readNew_58 : decode (mB mX4_readNew) 58 = .ok (.iconst 2, 1) := by decide +kernel
theorem qX4_readNew_59 : decode (mB mX4_readNew) 59 = .ok (.invokevirtual 283, 3) := by decide +kernel
theorem qX4_readNew_62 : decode (mB mX4_readNew) 62 = .ok (.aload_n 0, 1) := by decide +kernel
theorem qX4_readNew_63 : decode (mB mX4_readNew) 63 = .ok (.aload_n 0, 1) := by decide +kernel
theorem qX4_readNew_64 : decode (mB mX4_readNew) 64 = .ok (.invokevirtual 269, 3) := by decide +kernel
theorem qX4_readNew_67 : decode (mB mX4_readNew) 67 = .ok (.ifCond .eq 23, 3) := by decide +kernel
theorem qX4_readNew_70 : decode (mB mX4_readNew) 70 = .ok (.aload_n 0, 1) := by decide +kernel
theorem qX4_readNew_71 : decode (mB mX4_readNew) 71 = .ok (.invokevirtual 287, 3) := by decide +kernel
theorem qX4_readNew_74 : decode (mB mX4_readNew) 74 = .ok (.iconst (-1), 1) := by decide +kernel
theorem qX4_readNew_75 : decode (mB mX4_readNew) 75 = .ok (.if_icmp .ne 11, 3) := by decide +kernel
theorem qX4_readNew_78 : decode (mB mX4_readNew) 78 = .ok (.aload_n 0, 1) := by decide +kernel
theorem qX4_readNew_79 : decode (mB mX4_readNew) 79 = .ok (.invokevirtual 290, 3) := by decide +kernel
theorem qX4_readNew_82 : decode (mB mX4_readNew) 82 = .ok (.iconst (-1), 1) := by decide +kernel
theorem qX4_readNew_83 : decode (mB mX4_readNew) 83 = .ok (.if_icmp .eq 7, 3) := by decide +kernel
theorem qX4_readNew_86 : decode (mB mX4_readNew) 86 = .ok (.iconst 1, 1) := by decide +kernel
theorem qX4_readNew_87 : decode (mB mX4_readNew) 87 = .ok (.goto 4, 3) := by decide +kernel
theorem qX4_readNew_90 : decode (mB mX4_readNew) 90 = .ok (.iconst 0, 1) := by decide +kernel
theorem qX4_readNew_91 : decode (mB mX4_readNew) 91 = .ok (.iconst 3, 1) := by decide +kernel
theorem qX4_readNew_92 : decode (mB mX4_readNew) 92 = .ok (.invokevirtual 283, 3) := by decide +kernel
theorem qX4_readNew_95 : decode (mB mX4_readNew) 95 = .ok (.aload_n 0, 1) := by decide +kernel
theorem qX4_readNew_96 : decode (mB mX4_readNew) 96 = .ok (.invokevirtual 269, 3) := by decide +kernel
theorem qX4_readNew_99 : decode (mB mX4_readNew) 99 = .ok (.ifCond .ne 4, 3) := by decide +kernel
theorem qX4_readNew_102 : decode (mB mX4_readNew) 102 = .ok (.return_, 1) := by decide +kernel
theorem qX4_readNew_103 : decode (mB mX4_readNew) 103 = .ok (.aload_n 0, 1) := by decide +kernel
theorem qX4_readNew_104 : decode (mB mX4_readNew) 104 = .ok (.getfield 229, 3) := by decide +kernel
theorem qX4_readNew_107 : decode (mB mX4_readNew) 107 = .ok (.l2i, 1) := by decide +kernel
theorem qX4_readNew_108 : decode (mB mX4_readNew) 108 = .ok (.istore_n 2, 1) := by decide +kernel
theorem qX4_readNew_109 : decode (mB mX4_readNew) 109 = .ok (.aload_n 0, 1) := by decide +kernel
theorem qX4_readNew_110 : decode (mB mX4_readNew) 110 = .ok (.getfield 226, 3) := by decide +kernel
theorem qX4_readNew_113 : decode (mB mX4_readNew) 113 = .ok (.istore_n 3, 1) := by decide +kernel
theorem qX4_readNew_114 : decode (mB mX4_readNew) 114 = .ok (.aload_n 0, 1) := by decide +kernel
theorem qX4_readNew_115 : decode (mB mX4_readNew) 115 = .ok (.invokevirtual 253, 3) := by decide +kernel
theorem qX4_readNew_118 : decode (mB mX4_readNew) 118 = .ok (.iload_n 1, 1) := by decide +kernel
theorem qX4_readNew_119 : decode (mB mX4_readNew) 119 = .ok (.ifCond .eq 13, 3) := by decide +kernel
theorem qX4_readNew_122 : decode (mB mX4_readNew) 122 = .ok (.aload_n 0, 1) := by decide +kernel
theorem qX4_readNew_123 : decode (mB mX4_readNew) 123 = .ok (.iconst 1, 1) := by decide +kernel
theorem qX4_readNew_124 : decode (mB mX4_readNew) 124 = .ok (.bipush 40, 2) := by decide +kernel
theorem qX4_readNew_126 : decode (mB mX4_readNew) 126 = .ok (.invokevirtual 280, 3) := by decide +kernel
theorem qX4_readNew_129 : decode (mB mX4_readNew) 129 = .ok (.goto 7, 3) := by decide +kernel
theorem qX4_readNew_132 : decode (mB mX4_readNew) 132 = .ok (.aload_n 0, 1) := by decide +kernel
theorem qX4_readNew_133 : decode (mB mX4_readNew) 133 = .ok (.invokevirtual 297, 3) := by decide +kernel
theorem qX4_readNew_136 : decode (mB mX4_readNew) 136 = .ok (.istore 4, 2) := by decide +kernel
theorem qX4_readNew_138 : decode (mB mX4_readNew) 138 = .ok (.aload_n 0, 1) := by decide +kernel
theorem qX4_readNew_139 : decode (mB mX4_readNew) 139 = .ok (.iconst 0, 1) := by decide +kernel
theorem qX4_readNew_140 : decode (mB mX4_readNew) 140 = .ok (.invokevirtual 300, 3) := by decide +kernel
theorem qX4_readNew_143 : decode (mB mX4_readNew) 143 = .ok (.aload_n 0, 1) := by decide +kernel
theorem qX4_readNew_144 : decode (mB mX4_readNew) 144 = .ok (.invokevirtual 269, 3) := by decide +kernel
theorem qX4_readNew_147 : decode (mB mX4_readNew) 147 = .ok (.ifCond .eq 18, 3) := by decide +kernel
theorem qX4_readNew_150 : decode (mB mX4_readNew) 150 = .ok (.iload_n 1, 1) := by decide +kernel
theorem qX4_readNew_151 : decode (mB mX4_readNew) 151 = .ok (.ifCond .eq 14, 3) := by decide +kernel
theorem qX4_readNew_154 : decode (mB mX4_readNew) 154 = .ok (.aload_n 0, 1) := by decide +kernel
theorem qX4_readNew_155 : decode (mB mX4_readNew) 155 = .ok (.iload_n 2, 1) := by decide +kernel
theorem qX4_readNew_156 : decode (mB mX4_readNew) 156 = .ok (.iload_n 3, 1) := by decide +kernel
theorem qX4_readNew_157 : decode (mB mX4_readNew) 157 = .ok (.iload 4, 2) := by decide +kernel
theorem qX4_readNew_159 : decode (mB mX4_readNew) 159 = .ok (.invokevirtual 120, 3) := by decide +kernel
theorem qX4_readNew_162 : decode (mB mX4_readNew) 162 = .ok (.goto 18, 3) := by decide +kernel
theorem qX4_readNew_165 : decode (mB mX4_readNew) 165 = .ok (.aload_n 0, 1) := by decide +kernel
theorem qX4_readNew_166 : decode (mB mX4_readNew) 166 = .ok (.invokevirtual 269, 3) := by decide +kernel
theorem qX4_readNew_169 : decode (mB mX4_readNew) 169 = .ok (.ifCond .eq 11, 3) := by decide +kernel
theorem qX4_readNew_172 : decode (mB mX4_readNew) 172 = .ok (.aload_n 0, 1) := by decide +kernel
theorem qX4_readNew_173 : decode (mB mX4_readNew) 173 = .ok (.iload_n 2, 1) := by decide +kernel
theorem qX4_readNew_174 : decode (mB mX4_readNew) 174 = .ok (.iload_n 3, 1) := by decide +kernel
theorem qX4_readNew_175 : decode (mB mX4_readNew) 175 = .ok (.iload 4, 2) := by decide +kernel
theorem qX4_readNew_177 : decode (mB mX4_readNew) 177 = .ok (.invokevirtual 128, 3) := by decide +kernel
theorem qX4_readNew_180 : decode (mB mX4_readNew) 180 = .ok (.return_, 1) := by decide +kernel
theorem qX4_readNow_0 : decode (mB mX4_readNow) 0 = .ok (.aload_n 0, 1) := by decide +kernel
theorem qX4_readNow_1 : decode (mB mX4_readNow) 1 = .ok (.iload_n 1, 1) := by decide +kernel
theorem qX4_readNow_2 : decode (mB mX4_readNow) 2 = .ok (.aload_n 0, 1) := by decide +kernel
theorem qX4_readNow_3 : decode (mB mX4_readNow) 3 = .ok (.iload_n 1, 1) := by decide +kernel
theorem qX4_readNow_4 : decode (mB mX4_readNow) 4 = .ok (.invokevirtual 186, 3) := by decide +kernel
theorem qX4_readNow_7 : decode (mB mX4_readNow) 7 = .ok (.invokevirtual 195, 3) := by decide +kernel
theorem qX4_readNow_10 : decode (mB mX4_readNow) 10 = .ok (.ireturn, 1) := by decide +kernel
theorem qX4_readPass_0 : decode (mB mX4_readPass) 0 = .ok (.aload_n 0, 1) := by decide +kernel
theorem qX4_readPass_1 : decode (mB mX4_readPass) 1 = .ok (.invokevirtual 253, 3) := by decide +kernel
theorem qX4_readPass_4 : decode (mB mX4_readPass) 4 = .ok (.aload_n 0, 1) := by decide +kernel
theorem qX4_readPass_5 : decode (mB mX4_readPass) 5 = .ok (.iconst 0, 1) := by decide +kernel
theorem qX4_readPass_6 : decode (mB mX4_readPass) 6 = .ok (.sipush 300, 3) := by decide +kernel
theorem qX4_readPass_9 : decode (mB mX4_readPass) 9 = .ok (.invokevirtual 280, 3) := by decide +kernel
theorem qX4_readPass_12 : decode (mB mX4_readPass) 12 = .ok (.istore_n 1, 1) := by decide +kernel
theorem qX4_readPass_13 : decode (mB mX4_readPass) 13 = .ok (.aload_n 0, 1) := by decide +kernel
theorem qX4_readPass_14 : decode (mB mX4_readPass) 14 = .ok (.iconst 0, 1) := by decide +kernel
theorem qX4_readPass_15 : decode (mB mX4_readPass) 15 = .ok (.invokevirtual 300, 3) := by decide +kernel
theorem qX4_readPass_18 : decode (mB mX4_readPass) 18 = .ok (.aload_n 0, 1) := by decide +kernel
theorem qX4_readPass_19 : decode (mB mX4_readPass) 19 = .ok (.invokevirtual 269, 3) := by decide +kernel
theorem qX4_readPass_22 : decode (mB mX4_readPass) 22 = .ok (.ifCond .eq 8, 3) := by decide +kernel
theorem qX4_readPass_25 : decode (mB mX4_readPass) 25 = .ok (.aload_n 0, 1) := by decide +kernel
theorem qX4_readPass_26 : decode (mB mX4_readPass) 26 = .ok (.iload_n 1, 1) := by decide +kernel
theorem qX4_readPass_27 : decode (mB mX4_readPass) 27 = .ok (.invokevirtual 140, 3) := by decide +kernel
theorem qX4_readPass_30 : decode (mB mX4_readPass) 30 = .ok (.return_, 1) := by decide +kernel
theorem qX4_readRoom_0 : decode (mB mX4_readRoom) 0 = .ok (.aload_n 0, 1) := by decide +kernel
theorem qX4_readRoom_1 : decode (mB mX4_readRoom) 1 = .ok (.invokevirtual 253, 3) := by decide +kernel
theorem qX4_readRoom_4 : decode (mB mX4_readRoom) 4 = .ok (.aload_n 0, 1) := by decide +kernel
theorem qX4_readRoom_5 : decode (mB mX4_readRoom) 5 = .ok (.invokevirtual 297, 3) := by decide +kernel
theorem qX4_readRoom_8 : decode (mB mX4_readRoom) 8 = .ok (.istore_n 1, 1) := by decide +kernel
theorem qX4_readRoom_9 : decode (mB mX4_readRoom) 9 = .ok (.aload_n 0, 1) := by decide +kernel
theorem qX4_readRoom_10 : decode (mB mX4_readRoom) 10 = .ok (.iconst 0, 1) := by decide +kernel
theorem qX4_readRoom_11 : decode (mB mX4_readRoom) 11 = .ok (.invokevirtual 300, 3) := by decide +kernel
theorem qX4_readRoom_14 : decode (mB mX4_readRoom) 14 = .ok (.aload_n 0, 1) := by decide +kernel
theorem qX4_readRoom_15 : decode (mB mX4_readRoom) 15 = .ok (.invokevirtual 269, 3) := by decide +kernel
theorem qX4_readRoom_18 : decode (mB mX4_readRoom) 18 = .ok (.ifCond .eq 10, 3) := by decide +kernel
theorem qX4_readRoom_21 : decode (mB mX4_readRoom) 21 = .ok (.aload_n 0, 1) := by decide +kernel
theorem qX4_readRoom_22 : decode (mB mX4_readRoom) 22 = .ok (.getfield 24, 3) := by decide +kernel
theorem qX4_readRoom_25 : decode (mB mX4_readRoom) 25 = .ok (.iconst 0, 1) := by decide +kernel
theorem qX4_readRoom_26 : decode (mB mX4_readRoom) 26 = .ok (.iload_n 1, 1) := by decide +kernel
theorem qX4_readRoom_27 : decode (mB mX4_readRoom) 27 = .ok (.iastore, 1) := by decide +kernel
theorem qX4_readRoom_28 : decode (mB mX4_readRoom) 28 = .ok (.return_, 1) := by decide +kernel
theorem qX4_readStatement_0 : decode (mB mX4_readStatement) 0 = .ok (.aload_n 0, 1) := by decide +kernel
theorem qX4_readStatement_1 : decode (mB mX4_readStatement) 1 = .ok (.aload_n 0, 1) := by decide +kernel
theorem qX4_readStatement_2 : decode (mB mX4_readStatement) 2 = .ok (.getfield 43, 3) := by decide +kernel
theorem qX4_readStatement_5 : decode (mB mX4_readStatement) 5 = .ok (.invokevirtual 293, 3) := by decide +kernel
theorem qX4_readStatement_8 : decode (mB mX4_readStatement) 8 = .ok (.ifCond .eq 11, 3) := by decide +kernel
theorem qX4_readStatement_11 : decode (mB mX4_readStatement) 11 = .ok (.aload_n 0, 1) := by decide +kernel
theorem qX4_readStatement_12 : decode (mB mX4_readStatement) 12 = .ok (.iconst 1, 1) := by decide +kernel
theorem qX4_readStatement_13 : decode (mB mX4_readStatement) 13 = .ok (.invokevirtual 326, 3) := by decide +kernel
theorem qX4_readStatement_16 : decode (mB mX4_readStatement) 16 = .ok (.goto 227, 3) := by decide +kernel
theorem qX4_readStatement_19 : decode (mB mX4_readStatement) 19 = .ok (.aload_n 0, 1) := by decide +kernel
theorem qX4_readStatement_20 : decode (mB mX4_readStatement) 20 = .ok (.aload_n 0, 1) := by decide +kernel
theorem qX4_readStatement_21 : decode (mB mX4_readStatement) 21 = .ok (.getfield 48, 3) := by decide +kernel
theorem qX4_readStatement_24 : decode (mB mX4_readStatement) 24 = .ok (.invokevirtual 293, 3) := by decide +kernel
theorem qX4_readStatement_27 : decode (mB mX4_readStatement) 27 = .ok (.ifCond .eq 11, 3) := by decide +kernel
theorem qX4_readStatement_30 : decode (mB mX4_readStatement) 30 = .ok (.aload_n 0, 1) := by decide +kernel
theorem qX4_readStatement_31 : decode (mB mX4_readStatement) 31 = .ok (.iconst 0, 1) := by decide +kernel
theorem qX4_readStatement_32 : decode (mB mX4_readStatement) 32 = .ok (.invokevirtual 326, 3) := by decide +kernel
theorem qX4_readStatement_35 : decode (mB mX4_readStatement) 35 = .ok (.goto 208, 3) := by decide +kernel
theorem qX4_readStatement_38 : decode (mB mX4_readStatement) 38 = .ok (.aload_n 0, 1) := by decide +kernel
theorem qX4_readStatement_39 : decode (mB mX4_readStatement) 39 = .ok (.aload_n 0, 1) := by decide +kernel
theorem qX4_readStatement_40 : decode (mB mX4_readStatement) 40 = .ok (.getfield 53, 3) := by decide +kernel
theorem qX4_readStatement_43 : decode (mB mX4_readStatement) 43 = .ok (.invokevirtual 293, 3) := by decide +kernel
theorem qX4_readStatement_46 : decode (mB mX4_readStatement) 46 = .ok (.ifCond .eq 10, 3) := by decide +kernel
theorem qX4_readStatement_49 : decode (mB mX4_readStatement) 49 = .ok (.aload_n 0, 1) := by decide +kernel
theorem qX4_readStatement_50 : decode (mB mX4_readStatement) 50 = .ok (.invokevirtual 329, 3) := by decide +kernel
theorem qX4_readStatement_53 : decode (mB mX4_readStatement) 53 = .ok (.goto 190, 3) := by decide +kernel
theorem qX4_readStatement_56 : decode (mB mX4_readStatement) 56 = .ok (.aload_n 0, 1) := by decide +kernel
theorem qX4_readStatement_57 : decode (mB mX4_readStatement) 57 = .ok (.aload_n 0, 1) := by decide +kernel
theorem qX4_readStatement_58 : decode (mB mX4_readStatement) 58 = .ok (.getfield 58, 3) := by decide +kernel
theorem qX4_readStatement_61 : decode (mB mX4_readStatement) 61 = .ok (.invokevirtual 293, 3) := by decide +kernel
theorem qX4_readStatement_64 : decode (mB mX4_readStatement) 64 = .ok (.ifCond .eq 11, 3) := by decide +kernel
theorem qX4_readStatement_67 : decode (mB mX4_readStatement) 67 = .ok (.aload_n 0, 1) := by decide +kernel
theorem qX4_readStatement_68 : decode (mB mX4_readStatement) 68 = .ok (.iconst 1, 1) := by decide +kernel
theorem qX4_readStatement_69 : decode (mB mX4_readStatement) 69 = .ok (.invokevirtual 332, 3) := by decide +kernel
theorem qX4_readStatement_72 : decode (mB mX4_readStatement) 72 = .ok (.goto 171, 3) := by decide +kernel
theorem qX4_readStatement_75 : decode (mB mX4_readStatement) 75 = .ok (.aload_n 0, 1) := by decide +kernel
theorem qX4_readStatement_76 : decode (mB mX4_readStatement) 76 = .ok (.aload_n 0, 1) := by decide +kernel
theorem qX4_readStatement_77 : decode (mB mX4_readStatement) 77 = .ok (.getfield 83, 3) := by decide +kernel
theorem qX4_readStatement_80 : decode (mB mX4_readStatement) 80 = .ok (.invokevirtual 293, 3) := by decide +kernel
theorem qX4_readStatement_83 : decode (mB mX4_readStatement) 83 = .ok (.ifCond .eq 11, 3) := by decide +kernel
theorem qX4_readStatement_86 : decode (mB mX4_readStatement) 86 = .ok (.aload_n 0, 1) := by decide +kernel
theorem qX4_readStatement_87 : decode (mB mX4_readStatement) 87 = .ok (.iconst 0, 1) := by decide +kernel
theorem qX4_readStatement_88 : decode (mB mX4_readStatement) 88 = .ok (.invokevirtual 332, 3) := by decide +kernel
theorem qX4_readStatement_91 : decode (mB mX4_readStatement) 91 = .ok (.goto 152, 3) := by decide +kernel
theorem qX4_readStatement_94 : decode (mB mX4_readStatement) 94 = .ok (.aload_n 0, 1) := by decide +kernel
theorem qX4_readStatement_95 : decode (mB mX4_readStatement) 95 = .ok (.aload_n 0, 1) := by decide +kernel
theorem qX4_readStatement_96 : decode (mB mX4_readStatement) 96 = .ok (.getfield 63, 3) := by decide +kernel
theorem qX4_readStatement_99 : decode (mB mX4_readStatement) 99 = .ok (.invokevirtual 293, 3) := by decide +kernel
theorem qX4_readStatement_102 : decode (mB mX4_readStatement) 102 = .ok (.ifCond .eq 10, 3) := by decide +kernel
theorem qX4_readStatement_105 : decode (mB mX4_readStatement) 105 = .ok (.aload_n 0, 1) := by decide +kernel
theorem qX4_readStatement_106 : decode (mB mX4_readStatement) 106 = .ok (.invokevirtual 335, 3) := by decide +kernel
theorem qX4_readStatement_109 : decode (mB mX4_readStatement) 109 = .ok (.goto 134, 3) := by decide +kernel
theorem qX4_readStatement_112 : decode (mB mX4_readStatement) 112 = .ok (.aload_n 0, 1) := by decide +kernel
theorem qX4_readStatement_113 : decode (mB mX4_readStatement) 113 = .ok (.aload_n 0, 1) := by decide +kernel
theorem qX4_readStatement_114 : decode (mB mX4_readStatement) 114 = .ok (.getfield 68, 3) := by decide +kernel
theorem qX4_readStatement_117 : decode (mB mX4_readStatement) 117 = .ok (.invokevirtual 293, 3) := by decide +kernel
theorem qX4_readStatement_120 : decode (mB mX4_readStatement) 120 = .ok (.ifCond .eq 10, 3) := by decide +kernel
theorem qX4_readStatement_123 : decode (mB mX4_readStatement) 123 = .ok (.aload_n 0, 1) := by decide +kernel
theorem qX4_readStatement_124 : decode (mB mX4_readStatement) 124 = .ok (.invokevirtual 338, 3) := by decide +kernel
theorem qX4_readStatement_127 : decode (mB mX4_readStatement) 127 = .ok (.goto 116, 3) := by decide +kernel
theorem qX4_readStatement_130 : decode (mB mX4_readStatement) 130 = .ok (.aload_n 0, 1) := by decide +kernel
theorem qX4_readStatement_131 : decode (mB mX4_readStatement) 131 = .ok (.aload_n 0, 1) := by decide +kernel
theorem qX4_readStatement_132 : decode (mB mX4_readStatement) 132 = .ok (.getfield 73, 3) := by decide +kernel
theorem qX4_readStatement_135 : decode (mB mX4_readStatement) 135 = .ok (.invokevirtual 293, 3) := by decide +kernel
theorem qX4_readStatement_138 : decode (mB mX4_readStatement) 138 = .ok (.ifCond .eq 10, 3) := by decide +kernel
theorem qX4_readStatement_141 : decode (mB mX4_readStatement) 141 = .ok (.aload_n 0, 1) := by decide +kernel
theorem qX4_readStatement_142 : decode (mB mX4_readStatement) 142 = .ok (.invokevirtual 341, 3) := by decide +kernel
theorem qX4_readStatement_145 : decode (mB mX4_readStatement) 145 = .ok (.goto 98, 3) := by decide +kernel
theorem qX4_readStatement_148 : decode (mB mX4_readStatement) 148 = .ok (.aload_n 0, 1) := by decide +kernel
theorem qX4_readStatement_149 : decode (mB mX4_readStatement) 149 = .ok (.aload_n 0, 1) := by decide +kernel
theorem qX4_readStatement_150 : decode (mB mX4_readStatement) 150 = .ok (.getfield 78, 3) := by decide +kernel
theorem qX4_readStatement_153 : decode (mB mX4_readStatement) 153 = .ok (.invokevirtual 293, 3) := by decide +kernel
theorem qX4_readStatement_156 : decode (mB mX4_readStatement) 156 = .ok (.ifCond .eq 10, 3) := by decide +kernel
theorem qX4_readStatement_159 : decode (mB mX4_readStatement) 159 = .ok (.aload_n 0, 1) := by decide +kernel
theorem qX4_readStatement_160 : decode (mB mX4_readStatement) 160 = .ok (.invokevirtual 344, 3) := by decide +kernel
theorem qX4_readStatement_163 : decode (mB mX4_readStatement) 163 = .ok (.goto 80, 3) := by decide +kernel
theorem qX4_readStatement_166 : decode (mB mX4_readStatement) 166 = .ok (.aload_n 0, 1) := by decide +kernel
theorem qX4_readStatement_167 : decode (mB mX4_readStatement) 167 = .ok (.aload_n 0, 1) := by decide +kernel
theorem qX4_readStatement_168 : decode (mB mX4_readStatement) 168 = .ok (.getfield 88, 3) := by decide +kernel
theorem qX4_readStatement_171 : decode (mB mX4_readStatement) 171 = .ok (.invokevirtual 293, 3) := by decide +kernel
theorem qX4_readStatement_174 : decode (mB mX4_readStatement) 174 = .ok (.ifCond .eq 10, 3) := by decide +kernel
theorem qX4_readStatement_177 : decode (mB mX4_readStatement) 177 = .ok (.aload_n 0, 1) := by decide +kernel
theorem qX4_readStatement_178 : decode (mB mX4_readStatement) 178 = .ok (.invokevirtual 347, 3) := by decide +kernel
theorem qX4_readStatement_181 : decode (mB mX4_readStatement) 181 = .ok (.goto 62, 3) := by decide +kernel
theorem qX4_readStatement_184 : decode (mB mX4_readStatement) 184 = .ok (.aload_n 0, 1) := by decide +kernel
theorem qX4_readStatement_185 : decode (mB mX4_readStatement) 185 = .ok (.aload_n 0, 1) := by decide +kernel
theorem qX4_readStatement_186 : decode (mB mX4_readStatement) 186 = .ok (.getfield 93, 3) := by decide +kernel
theorem qX4_readStatement_189 : decode (mB mX4_readStatement) 189 = .ok (.invokevirtual 293, 3) := by decide +kernel
theorem qX4_readStatement_192 : decode (mB mX4_readStatement) 192 = .ok (.ifCond .eq 10, 3) := by decide +kernel
theorem qX4_readStatement_195 : decode (mB mX4_readStatement) 195 = .ok (.aload_n 0, 1) := by decide +kernel
theorem qX4_readStatement_196 : decode (mB mX4_readStatement) 196 = .ok (.invokevirtual 350, 3) := by decide +kernel
theorem qX4_readStatement_199 : decode (mB mX4_readStatement) 199 = .ok (.goto 44, 3) := by decide +kernel
theorem qX4_readStatement_202 : decode (mB mX4_readStatement) 202 = .ok (.aload_n 0, 1) := by decide +kernel
theorem qX4_readStatement_203 : decode (mB mX4_readStatement) 203 = .ok (.aload_n 0, 1) := by decide +kernel
theorem qX4_readStatement_204 : decode (mB mX4_readStatement) 204 = .ok (.getfield 98, 3) := by decide +kernel
theorem qX4_readStatement_207 : decode (mB mX4_readStatement) 207 = .ok (.invokevirtual 293, 3) := by decide +kernel
theorem qX4_readStatement_210 : decode (mB mX4_readStatement) 210 = .ok (.ifCond .eq 10, 3) := by decide +kernel
theorem qX4_readStatement_213 : decode (mB mX4_readStatement) 213 = .ok (.aload_n 0, 1) := by decide +kernel
theorem qX4_readStatement_214 : decode (mB mX4_readStatement) 214 = .ok (.invokevirtual 353, 3) := by decide +kernel
theorem qX4_readStatement_217 : decode (mB mX4_readStatement) 217 = .ok (.goto 26, 3) := by decide +kernel
theorem qX4_readStatement_220 : decode (mB mX4_readStatement) 220 = .ok (.aload_n 0, 1) := by decide +kernel
theorem qX4_readStatement_221 : decode (mB mX4_readStatement) 221 = .ok (.aload_n 0, 1) := by decide +kernel
theorem qX4_readStatement_222 : decode (mB mX4_readStatement) 222 = .ok (.getfield 103, 3) := by decide +kernel
theorem qX4_readStatement_225 : decode (mB mX4_readStatement) 225 = .ok (.invokevirtual 293, 3) := by decide +kernel
theorem qX4_readStatement_228 : decode (mB mX4_readStatement) 228 = .ok (.ifCond .eq 10, 3) := by decide +kernel
theorem qX4_readStatement_231 : decode (mB mX4_readStatement) 231 = .ok (.aload_n 0, 1) := by decide +kernel
theorem qX4_readStatement_232 : decode (mB mX4_readStatement) 232 = .ok (.invokevirtual 356, 3) := by decide +kernel
theorem qX4_readStatement_235 : decode (mB mX4_readStatement) 235 = .ok (.goto 8, 3) := by decide +kernel
theorem qX4_readStatement_238 : decode (mB mX4_readStatement) 238 = .ok (.aload_n 0, 1) := by decide +kernel
theorem qX4_readStatement_239 : decode (mB mX4_readStatement) 239 = .ok (.iconst 1, 1) := by decide +kernel
theorem qX4_readStatement_240 : decode (mB mX4_readStatement) 240 = .ok (.invokevirtual 273, 3) := by decide +kernel
theorem qX4_readStatement_243 : decode (mB mX4_readStatement) 243 = .ok (.return_, 1) := by decide +kernel
theorem qX4_readText_0 : decode (mB mX4_readText) 0 = .ok (.aload_n 0, 1) := by decide +kernel
theorem qX4_readText_1 : decode (mB mX4_readText) 1 = .ok (.invokevirtual 359, 3) := by decide +kernel
theorem qX4_readText_4 : decode (mB mX4_readText) 4 = .ok (.aload_n 0, 1) := by decide +kernel
theorem qX4_readText_5 : decode (mB mX4_readText) 5 = .ok (.invokevirtual 362, 3) := by decide +kernel
theorem qX4_readText_8 : decode (mB mX4_readText) 8 = .ok (.aload_n 0, 1) := by decide +kernel
theorem qX4_readText_9 : decode (mB mX4_readText) 9 = .ok (.invokevirtual 269, 3) := by decide +kernel
theorem qX4_readText_12 : decode (mB mX4_readText) 12 = .ok (.ifCond .eq 17, 3) := by decide +kernel
theorem qX4_readText_15 : decode (mB mX4_readText) 15 = .ok (.aload_n 0, 1) := by decide +kernel
theorem qX4_readText_16 : decode (mB mX4_readText) 16 = .ok (.getfield 235, 3) := by decide +kernel
theorem qX4_readText_19 : decode (mB mX4_readText) 19 = .ok (.ifCond .eq 10, 3) := by decide +kernel
theorem qX4_readText_22 : decode (mB mX4_readText) 22 = .ok (.aload_n 0, 1) := by decide +kernel
theorem qX4_readText_23 : decode (mB mX4_readText) 23 = .ok (.invokevirtual 365, 3) := by decide +kernel
theorem qX4_readText_26 : decode (mB mX4_readText) 26 = .ok (.goto (-18), 3) := by decide +kernel
theorem qX4_readText_29 : decode (mB mX4_readText) 29 = .ok (.return_, 1) := by decide +kernel
theorem qX4_readThumb_0 : decode (mB mX4_readThumb) 0 = .ok (.aload_n 0, 1) := by decide +kernel
theorem qX4_readThumb_1 : decode (mB mX4_readThumb) 1 = .ok (.invokevirtual 253, 3) := by decide +kernel
theorem qX4_readThumb_4 : decode (mB mX4_readThumb) 4 = .ok (.aload_n 0, 1) := by decide +kernel
theorem qX4_readThumb_5 : decode (mB mX4_readThumb) 5 = .ok (.invokevirtual 311, 3) := by decide +kernel
theorem qX4_readThumb_8 : decode (mB mX4_readThumb) 8 = .ok (.istore_n 1, 1) := by decide +kernel
theorem qX4_readThumb_9 : decode (mB mX4_readThumb) 9 = .ok (.aload_n 0, 1) := by decide +kernel
theorem qX4_readThumb_10 : decode (mB mX4_readThumb) 10 = .ok (.iconst 1, 1) := by decide +kernel
theorem qX4_readThumb_11 : decode (mB mX4_readThumb) 11 = .ok (.bipush 60, 2) := by decide +kernel
theorem qX4_readThumb_13 : decode (mB mX4_readThumb) 13 = .ok (.invokevirtual 280, 3) := by decide +kernel
theorem qX4_readThumb_16 : decode (mB mX4_readThumb) 16 = .ok (.istore_n 2, 1) := by decide +kernel
theorem qX4_readThumb_17 : decode (mB mX4_readThumb) 17 = .ok (.aload_n 0, 1) := by decide +kernel
theorem qX4_readThumb_18 : decode (mB mX4_readThumb) 18 = .ok (.iconst 0, 1) := by decide +kernel
theorem qX4_readThumb_19 : decode (mB mX4_readThumb) 19 = .ok (.invokevirtual 300, 3) := by decide +kernel
theorem qX4_readThumb_22 : decode (mB mX4_readThumb) 22 = .ok (.aload_n 0, 1) := by decide +kernel
theorem qX4_readThumb_23 : decode (mB mX4_readThumb) 23 = .ok (.invokevirtual 269, 3) := by decide +kernel
theorem qX4_readThumb_26 : decode (mB mX4_readThumb) 26 = .ok (.ifCond .eq 19, 3) := by decide +kernel
theorem qX4_readThumb_29 : decode (mB mX4_readThumb) 29 = .ok (.aload_n 0, 1) := by decide +kernel
theorem qX4_readThumb_30 : decode (mB mX4_readThumb) 30 = .ok (.getfield 24, 3) := by decide +kernel
theorem qX4_readThumb_33 : decode (mB mX4_readThumb) 33 = .ok (.bipush 6, 2) := by decide +kernel
theorem qX4_readThumb_35 : decode (mB mX4_readThumb) 35 = .ok (.iload_n 1, 1) := by decide +kernel
theorem qX4_readThumb_36 : decode (mB mX4_readThumb) 36 = .ok (.iastore, 1) := by decide +kernel
theorem qX4_readThumb_37 : decode (mB mX4_readThumb) 37 = .ok (.aload_n 0, 1) := by decide +kernel
theorem qX4_readThumb_38 : decode (mB mX4_readThumb) 38 = .ok (.getfield 24, 3) := by decide +kernel
theorem qX4_readThumb_41 : decode (mB mX4_readThumb) 41 = .ok (.bipush 7, 2) := by decide +kernel
theorem qX4_readThumb_43 : decode (mB mX4_readThumb) 43 = .ok (.iload_n 2, 1) := by decide +kernel
theorem qX4_readThumb_44 : decode (mB mX4_readThumb) 44 = .ok (.iastore, 1) := by decide +kernel
theorem qX4_readThumb_45 : decode (mB mX4_readThumb) 45 = .ok (.return_, 1) := by decide +kernel
theorem qX4_readTube_0 : decode (mB mX4_readTube) 0 = .ok (.aload_n 0, 1) := by decide +kernel
theorem qX4_readTube_1 : decode (mB mX4_readTube) 1 = .ok (.iconst 5, 1) := by decide +kernel
theorem qX4_readTube_2 : decode (mB mX4_readTube) 2 = .ok (.bipush 8, 2) := by decide +kernel
theorem qX4_readTube_4 : decode (mB mX4_readTube) 4 = .ok (.invokevirtual 304, 3) := by decide +kernel
theorem qX4_readTube_7 : decode (mB mX4_readTube) 7 = .ok (.ifCond .ne 4, 3) := by decide +kernel
theorem qX4_readTube_10 : decode (mB mX4_readTube) 10 = .ok (.return_, 1) := by decide +kernel
theorem qX4_readTube_11 : decode (mB mX4_readTube) 11 = .ok (.aload_n 0, 1) := by decide +kernel
theorem qX4_readTube_12 : decode (mB mX4_readTube) 12 = .ok (.iconst 1, 1) := by decide +kernel
theorem qX4_readTube_13 : decode (mB mX4_readTube) 13 = .ok (.invokevirtual 307, 3) := by decide +kernel
theorem qX4_readTube_16 : decode (mB mX4_readTube) 16 = .ok (.istore_n 1, 1) := by decide +kernel
theorem qX4_readTube_17 : decode (mB mX4_readTube) 17 = .ok (.aload_n 0, 1) := by decide +kernel
theorem qX4_readTube_18 : decode (mB mX4_readTube) 18 = .ok (.iconst 1, 1) := by decide +kernel
theorem qX4_readTube_19 : decode (mB mX4_readTube) 19 = .ok (.bipush 50, 2) := by decide +kernel
theorem qX4_readTube_21 : decode (mB mX4_readTube) 21 = .ok (.invokevirtual 280, 3) := by decide +kernel
theorem qX4_readTube_24 : decode (mB mX4_readTube) 24 = .ok (.istore_n 2, 1) := by decide +kernel
theorem qX4_readTube_25 : decode (mB mX4_readTube) 25 = .ok (.aload_n 0, 1) := by decide +kernel
theorem qX4_readTube_26 : decode (mB mX4_readTube) 26 = .ok (.iconst 1, 1) := by decide +kernel
theorem qX4_readTube_27 : decode (mB mX4_readTube) 27 = .ok (.bipush 9, 2) := by decide +kernel
theorem qX4_readTube_29 : decode (mB mX4_readTube) 29 = .ok (.invokevirtual 280, 3) := by decide +kernel
theorem qX4_readTube_32 : decode (mB mX4_readTube) 32 = .ok (.istore_n 3, 1) := by decide +kernel
theorem qX4_readTube_33 : decode (mB mX4_readTube) 33 = .ok (.aload_n 0, 1) := by decide +kernel
theorem qX4_readTube_34 : decode (mB mX4_readTube) 34 = .ok (.bipush 10, 2) := by decide +kernel
theorem qX4_readTube_36 : decode (mB mX4_readTube) 36 = .ok (.sipush 999, 3) := by decide +kernel
theorem qX4_readTube_39 : decode (mB mX4_readTube) 39 = .ok (.invokevirtual 280, 3) := by decide +kernel
theorem qX4_readTube_42 : decode (mB mX4_readTube) 42 = .ok (.istore 4, 2) := by decide +kernel
theorem qX4_readTube_44 : decode (mB mX4_readTube) 44 = .ok (.aload_n 0, 1) := by decide +kernel
theorem qX4_readTube_45 : decode (mB mX4_readTube) 45 = .ok (.iconst 0, 1) := by decide +kernel
theorem qX4_readTube_46 : decode (mB mX4_readTube) 46 = .ok (.sipush 999, 3) := by decide +kernel
theorem qX4_readTube_49 : decode (mB mX4_readTube) 49 = .ok (.invokevirtual 280, 3) := by decide +kernel
theorem qX4_readTube_52 : decode (mB mX4_readTube) 52 = .ok (.istore 5, 2) := by decide +kernel
theorem qX4_readTube_54 : decode (mB mX4_readTube) 54 = .ok (.aload_n 0, 1) := by decide +kernel
theorem qX4_readTube_55 : decode (mB mX4_readTube) 55 = .ok (.iconst 0, 1) := by decide +kernel
theorem qX4_readTube_56 : decode (mB mX4_readTube) 56 = .ok (.invokevirtual 300, 3) := by decide +kernel
theorem qX4_readTube_59 : decode (mB mX4_readTube) 59 = .ok (.aload_n 0, 1) := by decide +kernel
theorem qX4_readTube_60 : decode (mB mX4_readTube) 60 = .ok (.invokevirtual 269, 3) := by decide +kernel
theorem qX4_readTube_63 : decode (mB mX4_readTube) 63 = .ok (.ifCond .eq 14, 3) := by decide +kernel
theorem qX4_readTube_66 : decode (mB mX4_readTube) 66 = .ok (.aload_n 0, 1) := by decide +kernel
theorem qX4_readTube_67 : decode (mB mX4_readTube) 67 = .ok (.iload_n 1, 1) := by decide +kernel
theorem qX4_readTube_68 : decode (mB mX4_readTube) 68 = .ok (.iload_n 2, 1) := by decide +kernel
theorem qX4_readTube_69 : decode (mB mX4_readTube) 69 = .ok (.iload_n 3, 1) := by decide +kernel
theorem qX4_readTube_70 : decode (mB mX4_readTube) 70 = .ok (.iload 4, 2) := by decide +kernel
theorem qX4_readTube_72 : decode (mB mX4_readTube) 72 = .ok (.iload 5, 2) := by decide +kernel
theorem qX4_readTube_74 : decode (mB mX4_readTube) 74 = .ok (.invokevirtual 133, 3) := by decide +kernel
theorem qX4_readTube_77 : decode (mB mX4_readTube) 77 = .ok (.return_, 1) := by decide +kernel
theorem qX4_reading_0 : decode (mB mX4_reading) 0 = .ok (.aload_n 0, 1) := by decide +kernel
theorem qX4_reading_1 : decode (mB mX4_reading) 1 = .ok (.aload_n 0, 1) := by decide +kernel
theorem qX4_reading_2 : decode (mB mX4_reading) 2 = .ok (.iload_n 1, 1) := by decide +kernel
theorem qX4_reading_3 : decode (mB mX4_reading) 3 = .ok (.invokevirtual 396, 3) := by decide +kernel
theorem qX4_reading_6 : decode (mB mX4_reading) 6 = .ok (.aload_n 0, 1) := by decide +kernel
theorem qX4_reading_7 : decode (mB mX4_reading) 7 = .ok (.iload_n 1, 1) := by decide +kernel
theorem qX4_reading_8 : decode (mB mX4_reading) 8 = .ok (.invokevirtual 419, 3) := by decide +kernel
theorem qX4_reading_11 : decode (mB mX4_reading) 11 = .ok (.invokevirtual 409, 3) := by decide +kernel
theorem qX4_reading_14 : decode (mB mX4_reading) 14 = .ok (.ifCond .eq 11, 3) := by decide +kernel
theorem qX4_reading_17 : decode (mB mX4_reading) 17 = .ok (.aload_n 0, 1) := by decide +kernel
theorem qX4_reading_18 : decode (mB mX4_reading) 18 = .ok (.iload_n 1, 1) := by decide +kernel
theorem qX4_reading_19 : decode (mB mX4_reading) 19 = .ok (.invokevirtual 422, 3) := by decide +kernel
theorem qX4_reading_22 : decode (mB mX4_reading) 22 = .ok (.goto 4, 3) := by decide +kernel
theorem qX4_reading_25 : decode (mB mX4_reading) 25 = .ok (.iconst 0, 1) := by decide +kernel
theorem qX4_reading_26 : decode (mB mX4_reading) 26 = .ok (.ireturn, 1) := by decide +kernel
theorem qX4_readingError_0 : decode (mB mX4_readingError) 0 = .ok (.aload_n 0, 1) := by decide +kernel
theorem qX4_readingError_1 : decode (mB mX4_readingError) 1 = .ok (.aload_n 0, 1) := by decide +kernel
theorem qX4_readingError_2 : decode (mB mX4_readingError) 2 = .ok (.iload_n 1, 1) := by decide +kernel
theorem qX4_readingError_3 : decode (mB mX4_readingError) 3 = .ok (.invokevirtual 396, 3) := by decide +kernel
theorem qX4_readingError_6 : decode (mB mX4_readingError) 6 = .ok (.aload_n 0, 1) := by decide +kernel
theorem qX4_readingError_7 : decode (mB mX4_readingError) 7 = .ok (.iload_n 1, 1) := by decide +kernel
theorem qX4_readingError_8 : decode (mB mX4_readingError) 8 = .ok (.invokevirtual 419, 3) := by decide +kernel
theorem qX4_readingError_11 : decode (mB mX4_readingError) 11 = .ok (.invokevirtual 409, 3) := by decide +kernel
theorem qX4_readingError_14 : decode (mB mX4_readingError) 14 = .ok (.ifCond .eq 18, 3) := by decide +kernel
theorem qX4_readingError_17 : decode (mB mX4_readingError) 17 = .ok (.aload_n 0, 1) := by decide +kernel
theorem qX4_readingError_18 : decode (mB mX4_readingError) 18 = .ok (.iload_n 1, 1) := by decide +kernel
theorem qX4_readingError_19 : decode (mB mX4_readingError) 19 = .ok (.invokevirtual 422, 3) := by decide +kernel
theorem qX4_readingError_22 : decode (mB mX4_readingError) 22 = .ok (.aload_n 0, 1) := by decide +kernel
theorem qX4_readingError_23 : decode (mB mX4_readingError) 23 = .ok (.iload_n 1, 1) := by decide +kernel
theorem qX4_readingError_24 : decode (mB mX4_readingError) 24 = .ok (.iconst 5, 1) := by decide +kernel
theorem qX4_readingError_25 : decode (mB mX4_readingError) 25 = .ok (.invokevirtual 148, 3) := by decide +kernel
theorem qX4_readingError_28 : decode (mB mX4_readingError) 28 = .ok (.isub, 1) := by decide +kernel
theorem qX4_readingError_29 : decode (mB mX4_readingError) 29 = .ok (.goto 4, 3) := by decide +kernel
theorem qX4_readingError_32 : decode (mB mX4_readingError) 32 = .ok (.iconst 0, 1) := by decide +kernel
theorem qX4_readingError_33 : decode (mB mX4_readingError) 33 = .ok (.ireturn, 1) := by decide +kernel
theorem qX4_reasonToDip_0 : decode (mB mX4_reasonToDip) 0 = .ok (.aload_n 0, 1) := by decide +kernel
theorem qX4_reasonToDip_1 : decode (mB mX4_reasonToDip) 1 = .ok (.iload_n 1, 1) := by decide +kernel
theorem qX4_reasonToDip_2 : decode (mB mX4_reasonToDip) 2 = .ok (.bipush 7, 2) := by decide +kernel
theorem qX4_reasonToDip_4 : decode (mB mX4_reasonToDip) 4 = .ok (.invokevirtual 148, 3) := by decide +kernel
theorem qX4_reasonToDip_7 : decode (mB mX4_reasonToDip) 7 = .ok (.iload_n 2, 1) := by decide +kernel
theorem qX4_reasonToDip_8 : decode (mB mX4_reasonToDip) 8 = .ok (.if_icmp .ne 5, 3) := by decide +kernel
theorem qX4_reasonToDip_11 : decode (mB mX4_reasonToDip) 11 = .ok (.iconst 1, 1) := by decide +kernel
theorem qX4_reasonToDip_12 : decode (mB mX4_reasonToDip) 12 = .ok (.ireturn, 1) := by decide +kernel
theorem qX4_reasonToDip_13 : decode (mB mX4_reasonToDip) 13 = .ok (.aload_n 0, 1) := by decide +kernel
theorem qX4_reasonToDip_14 : decode (mB mX4_reasonToDip) 14 = .ok (.getfield 24, 3) := by decide +kernel
theorem qX4_reasonToDip_17 : decode (mB mX4_reasonToDip) 17 = .ok (.bipush 6, 2) := by decide +kernel
theorem qX4_reasonToDip_19 : decode (mB mX4_reasonToDip) 19 = .ok (.iaload, 1) := by decide +kernel
theorem qX4_reasonToDip_20 : decode (mB mX4_reasonToDip) 20 = .ok (.iload_n 1, 1) := by decide +kernel
theorem qX4_reasonToDip_21 : decode (mB mX4_reasonToDip) 21 = .ok (.if_icmp .ne 7, 3) := by decide +kernel
theorem qX4_reasonToDip_24 : decode (mB mX4_reasonToDip) 24 = .ok (.iconst 2, 1) := by decide +kernel
theorem qX4_reasonToDip_25 : decode (mB mX4_reasonToDip) 25 = .ok (.goto 4, 3) := by decide +kernel
theorem qX4_reasonToDip_28 : decode (mB mX4_reasonToDip) 28 = .ok (.iconst 0, 1) := by decide +kernel
theorem qX4_reasonToDip_29 : decode (mB mX4_reasonToDip) 29 = .ok (.ireturn, 1) := by decide +kernel
theorem qX4_reasonToMark_0 : decode (mB mX4_reasonToMark) 0 = .ok (.aload_n 0, 1) := by decide +kernel
theorem qX4_reasonToMark_1 : decode (mB mX4_reasonToMark) 1 = .ok (.iload_n 1, 1) := by decide +kernel
theorem qX4_reasonToMark_2 : decode (mB mX4_reasonToMark) 2 = .ok (.bipush 7, 2) := by decide +kernel
theorem qX4_reasonToMark_4 : decode (mB mX4_reasonToMark) 4 = .ok (.invokevirtual 148, 3) := by decide +kernel
theorem qX4_reasonToMark_7 : decode (mB mX4_reasonToMark) 7 = .ok (.istore_n 2, 1) := by decide +kernel
theorem qX4_reasonToMark_8 : decode (mB mX4_reasonToMark) 8 = .ok (.iload_n 2, 1) := by decide +kernel
theorem qX4_reasonToMark_9 : decode (mB mX4_reasonToMark) 9 = .ok (.iconst (-1), 1) := by decide +kernel
theorem qX4_reasonToMark_10 : decode (mB mX4_reasonToMark) 10 = .ok (.if_icmp .ne 5, 3) := by decide +kernel
theorem qX4_reasonToMark_13 : decode (mB mX4_reasonToMark) 13 = .ok (.iconst 1, 1) := by decide +kernel
theorem qX4_reasonToMark_14 : decode (mB mX4_reasonToMark) 14 = .ok (.ireturn, 1) := by decide +kernel
theorem qX4_reasonToMark_15 : decode (mB mX4_reasonToMark) 15 = .ok (.aload_n 0, 1) := by decide +kernel
theorem qX4_reasonToMark_16 : decode (mB mX4_reasonToMark) 16 = .ok (.iload_n 1, 1) := by decide +kernel
theorem qX4_reasonToMark_17 : decode (mB mX4_reasonToMark) 17 = .ok (.invokevirtual 178, 3) := by decide +kernel
theorem qX4_reasonToMark_20 : decode (mB mX4_reasonToMark) 20 = .ok (.ifCond .eq 14, 3) := by decide +kernel
theorem qX4_reasonToMark_23 : decode (mB mX4_reasonToMark) 23 = .ok (.aload_n 0, 1) := by decide +kernel
theorem qX4_reasonToMark_24 : decode (mB mX4_reasonToMark) 24 = .ok (.getfield 24, 3) := by decide +kernel
theorem qX4_reasonToMark_27 : decode (mB mX4_reasonToMark) 27 = .ok (.bipush 6, 2) := by decide +kernel
theorem qX4_reasonToMark_29 : decode (mB mX4_reasonToMark) 29 = .ok (.iaload, 1) := by decide +kernel
theorem qX4_reasonToMark_30 : decode (mB mX4_reasonToMark) 30 = .ok (.iload_n 1, 1) := by decide +kernel
theorem qX4_reasonToMark_31 : decode (mB mX4_reasonToMark) 31 = .ok (.if_icmp .ne 5, 3) := by decide +kernel
theorem qX4_reasonToMark_34 : decode (mB mX4_reasonToMark) 34 = .ok (.iconst 2, 1) := by decide +kernel
theorem qX4_reasonToMark_35 : decode (mB mX4_reasonToMark) 35 = .ok (.ireturn, 1) := by decide +kernel
theorem qX4_reasonToMark_36 : decode (mB mX4_reasonToMark) 36 = .ok (.aload_n 0, 1) := by decide +kernel
theorem qX4_reasonToMark_37 : decode (mB mX4_reasonToMark) 37 = .ok (.iload_n 1, 1) := by decide +kernel
theorem qX4_reasonToMark_38 : decode (mB mX4_reasonToMark) 38 = .ok (.aload_n 0, 1) := by decide +kernel
theorem qX4_reasonToMark_39 : decode (mB mX4_reasonToMark) 39 = .ok (.iload_n 2, 1) := by decide +kernel
theorem qX4_reasonToMark_40 : decode (mB mX4_reasonToMark) 40 = .ok (.iconst 2, 1) := by decide +kernel
theorem qX4_reasonToMark_41 : decode (mB mX4_reasonToMark) 41 = .ok (.invokevirtual 166, 3) := by decide +kernel
theorem qX4_reasonToMark_44 : decode (mB mX4_reasonToMark) 44 = .ok (.invokevirtual 182, 3) := by decide +kernel
theorem qX4_reasonToMark_47 : decode (mB mX4_reasonToMark) 47 = .ok (.ifCond .eq 5, 3) := by decide +kernel
theorem qX4_reasonToMark_50 : decode (mB mX4_reasonToMark) 50 = .ok (.iconst 3, 1) := by decide +kernel
theorem qX4_reasonToMark_51 : decode (mB mX4_reasonToMark) 51 = .ok (.ireturn, 1) := by decide +kernel
theorem qX4_reasonToMark_52 : decode (mB mX4_reasonToMark) 52 = .ok (.aload_n 0, 1) := by decide +kernel
theorem qX4_reasonToMark_53 : decode (mB mX4_reasonToMark) 53 = .ok (.iload_n 1, 1) := by decide +kernel
theorem qX4_reasonToMark_54 : decode (mB mX4_reasonToMark) 54 = .ok (.aload_n 0, 1) := by decide +kernel
theorem qX4_reasonToMark_55 : decode (mB mX4_reasonToMark) 55 = .ok (.iload_n 1, 1) := by decide +kernel
theorem qX4_reasonToMark_56 : decode (mB mX4_reasonToMark) 56 = .ok (.invokevirtual 186, 3) := by decide +kernel
theorem qX4_reasonToMark_59 : decode (mB mX4_reasonToMark) 59 = .ok (.invokevirtual 189, 3) := by decide +kernel
theorem qX4_reasonToMark_62 : decode (mB mX4_reasonToMark) 62 = .ok (.ifCond .eq 5, 3) := by decide +kernel
theorem qX4_reasonToMark_65 : decode (mB mX4_reasonToMark) 65 = .ok (.iconst 4, 1) := by decide +kernel
theorem qX4_reasonToMark_66 : decode (mB mX4_reasonToMark) 66 = .ok (.ireturn, 1) := by decide +kernel
theorem qX4_reasonToMark_67 : decode (mB mX4_reasonToMark) 67 = .ok (.aload_n 0, 1) := by decide +kernel
theorem qX4_reasonToMark_68 : decode (mB mX4_reasonToMark) 68 = .ok (.iload_n 1, 1) := by decide +kernel
theorem qX4_reasonToMark_69 : decode (mB mX4_reasonToMark) 69 = .ok (.bipush 8, 2) := by decide +kernel
theorem qX4_reasonToMark_71 : decode (mB mX4_reasonToMark) 71 = .ok (.invokevirtual 148, 3) := by decide +kernel
theorem qX4_reasonToMark_74 : decode (mB mX4_reasonToMark) 74 = .ok (.bipush 6, 2) := by decide +kernel
theorem qX4_reasonToMark_76 : decode (mB mX4_reasonToMark) 76 = .ok (.if_icmp .ne 7, 3) := by decide +kernel
theorem qX4_reasonToMark_79 : decode (mB mX4_reasonToMark) 79 = .ok (.iconst 5, 1) := by decide +kernel
theorem qX4_reasonToMark_80 : decode (mB mX4_reasonToMark) 80 = .ok (.goto 4, 3) := by decide +kernel
theorem qX4_reasonToMark_83 : decode (mB mX4_reasonToMark) 83 = .ok (.iconst 0, 1) := by decide +kernel
theorem qX4_reasonToMark_84 : decode (mB mX4_reasonToMark) 84 = .ok (.ireturn, 1) := by decide +kernel
theorem qX4_remember_0 : decode (mB mX4_remember) 0 = .ok (.aload_n 0, 1) := by decide +kernel
theorem qX4_remember_1 : decode (mB mX4_remember) 1 = .ok (.getfield 368, 3) := by decide +kernel
theorem qX4_remember_4 : decode (mB mX4_remember) 4 = .ok (.bipush 6, 2) := by decide +kernel
theorem qX4_remember_6 : decode (mB mX4_remember) 6 = .ok (.if_icmp .ne 44, 3) := by decide +kernel
theorem qX4_remember_9 : decode (mB mX4_remember) 9 = .ok (.iconst 0, 1) := by decide +kernel
theorem qX4_remember_10 : decode (mB mX4_remember) 10 = .ok (.istore_n 1, 1) := by decide +kernel
theorem qX4_remember_11 : decode (mB mX4_remember) 11 = .ok (.iload_n 1, 1) := by decide +kernel
theorem qX4_remember_12 : decode (mB mX4_remember) 12 = .ok (.sipush 1050, 3) := by decide +kernel
theorem qX4_remember_15 : decode (mB mX4_remember) 15 = .ok (.if_icmp .ge 25, 3) := by decide +kernel
theorem qX4_remember_18 : decode (mB mX4_remember) 18 = .ok (.aload_n 0, 1) := by decide +kernel
theorem qX4_remember_19 : decode (mB mX4_remember) 19 = .ok (.getfield 106, 3) := by decide +kernel
theorem qX4_remember_22 : decode (mB mX4_remember) 22 = .ok (.iload_n 1, 1) := by decide +kernel
theorem qX4_remember_23 : decode (mB mX4_remember) 23 = .ok (.aload_n 0, 1) := by decide +kernel
theorem qX4_remember_24 : decode (mB mX4_remember) 24 = .ok (.getfield 106, 3) := by decide +kernel
theorem qX4_remember_27 : decode (mB mX4_remember) 27 = .ok (.iload_n 1, 1) := by decide +kernel
theorem qX4_remember_28 : decode (mB mX4_remember) 28 = .ok (.sipush 210, 3) := by decide +kernel
theorem qX4_remember_31 : decode (mB mX4_remember) 31 = .ok (.iadd, 1) := by decide +kernel
theorem qX4_remember_32 : decode (mB mX4_remember) 32 = .ok (.iaload, 1) := by decide +kernel
theorem qX4_remember_33 : decode (mB mX4_remember) 33 = .ok (.iastore, 1) := by decide +kernel
theorem qX4_remember_34 : decode (mB mX4_remember) 34 = .ok (.iinc 1 1, 3) := by decide +kernel
theorem qX4_remember_37 : decode (mB mX4_remember) 37 = .ok (.goto (-26), 3) := by decide +kernel
theorem qX4_remember_40 : decode (mB mX4_remember) 40 = .ok (.aload_n 0, 1) := by decide +kernel
theorem qX4_remember_41 : decode (mB mX4_remember) 41 = .ok (.dup, 1) := by decide +kernel
theorem qX4_remember_42 : decode (mB mX4_remember) 42 = .ok (.getfield 368, 3) := by decide +kernel
theorem qX4_remember_45 : decode (mB mX4_remember) 45 = .ok (.iconst 1, 1) := by decide +kernel
theorem qX4_remember_46 : decode (mB mX4_remember) 46 = .ok (.isub, 1) := by decide +kernel
theorem qX4_remember_47 : decode (mB mX4_remember) 47 = .ok (.putfield 368, 3) := by decide +kernel
theorem qX4_remember_50 : decode (mB mX4_remember) 50 = .ok (.iconst 0, 1) := by decide +kernel
theorem qX4_remember_51 : decode (mB mX4_remember) 51 = .ok (.istore_n 1, 1) := by decide +kernel
theorem qX4_remember_52 : decode (mB mX4_remember) 52 = .ok (.iload_n 1, 1) := by decide +kernel
theorem qX4_remember_53 : decode (mB mX4_remember) 53 = .ok (.sipush 210, 3) := by decide +kernel
theorem qX4_remember_56 : decode (mB mX4_remember) 56 = .ok (.if_icmp .ge 30, 3) := by decide +kernel
theorem qX4_remember_59 : decode (mB mX4_remember) 59 = .ok (.aload_n 0, 1) := by decide +kernel
theorem qX4_remember_60 : decode (mB mX4_remember) 60 = .ok (.getfield 106, 3) := by decide +kernel
theorem qX4_remember_63 : decode (mB mX4_remember) 63 = .ok (.sipush 210, 3) := by decide +kernel
theorem qX4_remember_66 : decode (mB mX4_remember) 66 = .ok (.aload_n 0, 1) := by decide +kernel
theorem qX4_remember_67 : decode (mB mX4_remember) 67 = .ok (.getfield 368, 3) := by decide +kernel
theorem qX4_remember_70 : decode (mB mX4_remember) 70 = .ok (.imul, 1) := by decide +kernel
theorem qX4_remember_71 : decode (mB mX4_remember) 71 = .ok (.iload_n 1, 1) := by decide +kernel
theorem qX4_remember_72 : decode (mB mX4_remember) 72 = .ok (.iadd, 1) := by decide +kernel
theorem qX4_remember_73 : decode (mB mX4_remember) 73 = .ok (.aload_n 0, 1) := by decide +kernel
theorem qX4_remember_74 : decode (mB mX4_remember) 74 = .ok (.getfield 17, 3) := by decide +kernel
theorem qX4_remember_77 : decode (mB mX4_remember) 77 = .ok (.iload_n 1, 1) := by decide +kernel
theorem qX4_remember_78 : decode (mB mX4_remember) 78 = .ok (.iaload, 1) := by decide +kernel
theorem qX4_remember_79 : decode (mB mX4_remember) 79 = .ok (.iastore, 1) := by decide +kernel
theorem qX4_remember_80 : decode (mB mX4_remember) 80 = .ok (.iinc 1 1, 3) := by decide +kernel
theorem qX4_remember_83 : decode (mB mX4_remember) 83 = .ok (.goto (-31), 3) := by decide +kernel
theorem qX4_remember_86 : decode (mB mX4_remember) 86 = .ok (.aload_n 0, 1) := by decide +kernel
theorem qX4_remember_87 : decode (mB mX4_remember) 87 = .ok (.dup, 1) := by decide +kernel
theorem qX4_remember_88 : decode (mB mX4_remember) 88 = .ok (.getfield 368, 3) := by decide +kernel
theorem qX4_remember_91 : decode (mB mX4_remember) 91 = .ok (.iconst 1, 1) := by decide +kernel
theorem qX4_remember_92 : decode (mB mX4_remember) 92 = .ok (.iadd, 1) := by decide +kernel
theorem qX4_remember_93 : decode (mB mX4_remember) 93 = .ok (.putfield 368, 3) := by decide +kernel
theorem qX4_remember_96 : decode (mB mX4_remember) 96 = .ok (.return_, 1) := by decide +kernel
theorem qX4_requireNot_0 : decode (mB mX4_requireNot) 0 = .ok (.aload_n 0, 1) := by decide +kernel
theorem qX4_requireNot_1 : decode (mB mX4_requireNot) 1 = .ok (.invokevirtual 269, 3) := by decide +kernel
theorem qX4_requireNot_4 : decode (mB mX4_requireNot) 4 = .ok (.ifCond .eq 12, 3) := by decide +kernel
theorem qX4_requireNot_7 : decode (mB mX4_requireNot) 7 = .ok (.iload_n 1, 1) := by decide +kernel
theorem qX4_requireNot_8 : decode (mB mX4_requireNot) 8 = .ok (.ifCond .eq 8, 3) := by decide +kernel
theorem qX4_requireNot_11 : decode (mB mX4_requireNot) 11 = .ok (.aload_n 0, 1) := by decide +kernel
theorem qX4_requireNot_12 : decode (mB mX4_requireNot) 12 = .ok (.iload_n 2, 1) := by decide +kernel
theorem qX4_requireNot_13 : decode (mB mX4_requireNot) 13 = .ok (.invokevirtual 273, 3) := by decide +kernel
theorem qX4_requireNot_16 : decode (mB mX4_requireNot) 16 = .ok (.return_, 1) := by decide +kernel
theorem qX4_restore_0 : decode (mB mX4_restore) 0 = .ok (.iload_n 1, 1) := by decide +kernel
theorem qX4_restore_1 : decode (mB mX4_restore) 1 = .ok (.i2l, 1) := by decide +kernel
theorem qX4_restore_2 : decode (mB mX4_restore) 2 = .ok (.lconst 0, 1) := by decide +kernel
theorem qX4_restore_3 : decode (mB mX4_restore) 3 = .ok (.lconst 1, 1) := by decide +kernel
theorem qX4_restore_4 : decode (mB mX4_restore) 4 = .ok (.invokestatic 276, 3) := by decide +kernel
theorem qX4_restore_7 : decode (mB mX4_restore) 7 = .ok (.istore_n 2, 1) := by decide +kernel
theorem qX4_restore_8 : decode (mB mX4_restore) 8 = .ok (.aload_n 0, 1) := by decide +kernel
theorem qX4_restore_9 : decode (mB mX4_restore) 9 = .ok (.iload_n 2, 1) := by decide +kernel
theorem qX4_restore_10 : decode (mB mX4_restore) 10 = .ok (.iload_n 2, 1) := by decide +kernel
theorem qX4_restore_11 : decode (mB mX4_restore) 11 = .ok (.ifCond .eq 19, 3) := by decide +kernel
theorem qX4_restore_14 : decode (mB mX4_restore) 14 = .ok (.aload_n 0, 1) := by decide +kernel
theorem qX4_restore_15 : decode (mB mX4_restore) 15 = .ok (.getfield 460, 3) := by decide +kernel
theorem qX4_restore_18 : decode (mB mX4_restore) 18 = .ok (.iload_n 1, 1) := by decide +kernel
theorem qX4_restore_19 : decode (mB mX4_restore) 19 = .ok (.ishr, 1) := by decide +kernel
theorem qX4_restore_20 : decode (mB mX4_restore) 20 = .ok (.iconst 1, 1) := by decide +kernel
theorem qX4_restore_21 : decode (mB mX4_restore) 21 = .ok (.iand, 1) := by decide +kernel
theorem qX4_restore_22 : decode (mB mX4_restore) 22 = .ok (.iconst 1, 1) := by decide +kernel
theorem qX4_restore_23 : decode (mB mX4_restore) 23 = .ok (.if_icmp .ne 7, 3) := by decide +kernel
theorem qX4_restore_26 : decode (mB mX4_restore) 26 = .ok (.iconst 1, 1) := by decide +kernel
theorem qX4_restore_27 : decode (mB mX4_restore) 27 = .ok (.goto 4, 3) := by decide +kernel
theorem qX4_restore_30 : decode (mB mX4_restore) 30 = .ok (.iconst 0, 1) := by decide +kernel
theorem qX4_restore_31 : decode (mB mX4_restore) 31 = .ok (.invokevirtual 409, 3) := by decide +kernel
theorem qX4_restore_34 : decode (mB mX4_restore) 34 = .ok (.ifCond .ne 5, 3) := by decide +kernel
theorem qX4_restore_37 : decode (mB mX4_restore) 37 = .ok (.iconst 0, 1) := by decide +kernel
theorem qX4_restore_38 : decode (mB mX4_restore) 38 = .ok (.ireturn, 1) := by decide +kernel
theorem qX4_restore_39 : decode (mB mX4_restore) 39 = .ok (.aload_n 0, 1) := by decide +kernel
theorem qX4_restore_40 : decode (mB mX4_restore) 40 = .ok (.invokevirtual 384, 3) := by decide +kernel
theorem qX4_restore_43 : decode (mB mX4_restore) 43 = .ok (.iconst 0, 1) := by decide +kernel
theorem qX4_restore_44 : decode (mB mX4_restore) 44 = .ok (.istore_n 3, 1) := by decide +kernel
theorem qX4_restore_45 : decode (mB mX4_restore) 45 = .ok (.iload_n 3, 1) := by decide +kernel
theorem qX4_restore_46 : decode (mB mX4_restore) 46 = .ok (.sipush 210, 3) := by decide +kernel
theorem qX4_restore_49 : decode (mB mX4_restore) 49 = .ok (.if_icmp .ge 27, 3) := by decide +kernel
theorem qX4_restore_52 : decode (mB mX4_restore) 52 = .ok (.aload_n 0, 1) := by decide +kernel
theorem qX4_restore_53 : decode (mB mX4_restore) 53 = .ok (.getfield 17, 3) := by decide +kernel
theorem qX4_restore_56 : decode (mB mX4_restore) 56 = .ok (.iload_n 3, 1) := by decide +kernel
theorem qX4_restore_57 : decode (mB mX4_restore) 57 = .ok (.aload_n 0, 1) := by decide +kernel
theorem qX4_restore_58 : decode (mB mX4_restore) 58 = .ok (.getfield 109, 3) := by decide +kernel
theorem qX4_restore_61 : decode (mB mX4_restore) 61 = .ok (.sipush 210, 3) := by decide +kernel
theorem qX4_restore_64 : decode (mB mX4_restore) 64 = .ok (.iload_n 1, 1) := by decide +kernel
theorem qX4_restore_65 : decode (mB mX4_restore) 65 = .ok (.imul, 1) := by decide +kernel
theorem qX4_restore_66 : decode (mB mX4_restore) 66 = .ok (.iload_n 3, 1) := by decide +kernel
theorem qX4_restore_67 : decode (mB mX4_restore) 67 = .ok (.iadd, 1) := by decide +kernel
theorem qX4_restore_68 : decode (mB mX4_restore) 68 = .ok (.iaload, 1) := by decide +kernel
theorem qX4_restore_69 : decode (mB mX4_restore) 69 = .ok (.iastore, 1) := by decide +kernel
theorem qX4_restore_70 : decode (mB mX4_restore) 70 = .ok (.iinc 3 1, 3) := by decide +kernel
theorem qX4_restore_73 : decode (mB mX4_restore) 73 = .ok (.goto (-28), 3) := by decide +kernel
theorem qX4_restore_76 : decode (mB mX4_restore) 76 = .ok (.aload_n 0, 1) := by decide +kernel
theorem qX4_restore_77 : decode (mB mX4_restore) 77 = .ok (.getfield 17, 3) := by decide +kernel
theorem qX4_restore_80 : decode (mB mX4_restore) 80 = .ok (.iconst 2, 1) := by decide +kernel
theorem qX4_restore_81 : decode (mB mX4_restore) 81 = .ok (.iaload, 1) := by decide +kernel
theorem qX4_restore_82 : decode (mB mX4_restore) 82 = .ok (.ireturn, 1) := by decide +kernel
theorem qX4_roomDegrees_0 : decode (mB mX4_roomDegrees) 0 = .ok (.aload_n 0, 1) := by decide +kernel
theorem qX4_roomDegrees_1 : decode (mB mX4_roomDegrees) 1 = .ok (.iconst 0, 1) := by decide +kernel
theorem qX4_roomDegrees_2 : decode (mB mX4_roomDegrees) 2 = .ok (.invokevirtual 387, 3) := by decide +kernel
theorem qX4_roomDegrees_5 : decode (mB mX4_roomDegrees) 5 = .ok (.ireturn, 1) := by decide +kernel
theorem qX4_save_0 : decode (mB mX4_save) 0 = .ok (.aload_n 0, 1) := by decide +kernel
theorem qX4_save_1 : decode (mB mX4_save) 1 = .ok (.iload_n 1, 1) := by decide +kernel
theorem qX4_save_2 : decode (mB mX4_save) 2 = .ok (.i2l, 1) := by decide +kernel
theorem qX4_save_3 : decode (mB mX4_save) 3 = .ok (.lconst 0, 1) := by decide +kernel
theorem qX4_save_4 : decode (mB mX4_save) 4 = .ok (.lconst 1, 1) := by decide +kernel
theorem qX4_save_5 : decode (mB mX4_save) 5 = .ok (.invokestatic 276, 3) := by decide +kernel
theorem qX4_save_8 : decode (mB mX4_save) 8 = .ok (.invokevirtual 371, 3) := by decide +kernel
theorem qX4_save_11 : decode (mB mX4_save) 11 = .ok (.ifCond .ne 5, 3) := by decide +kernel
theorem qX4_save_14 : decode (mB mX4_save) 14 = .ok (.iconst 0, 1) := by decide +kernel
theorem qX4_save_15 : decode (mB mX4_save) 15 = .ok (.ireturn, 1) := by decide +kernel
theorem qX4_save_16 : decode (mB mX4_save) 16 = .ok (.iconst 0, 1) := by decide +kernel
theorem qX4_save_17 : decode (mB mX4_save) 17 = .ok (.istore_n 2, 1) := by decide +kernel
theorem qX4_save_18 : decode (mB mX4_save) 18 = .ok (.iload_n 2, 1) := by decide +kernel
theorem qX4_save_19 : decode (mB mX4_save) 19 = .ok (.sipush 210, 3) := by decide +kernel
theorem qX4_save_22 : decode (mB mX4_save) 22 = .ok (.if_icmp .ge 27, 3) := by decide +kernel
theorem qX4_save_25 : decode (mB mX4_save) 25 = .ok (.aload_n 0, 1) := by decide +kernel
theorem qX4_save_26 : decode (mB mX4_save) 26 = .ok (.getfield 109, 3) := by decide +kernel
theorem qX4_save_29 : decode (mB mX4_save) 29 = .ok (.sipush 210, 3) := by decide +kernel
theorem qX4_save_32 : decode (mB mX4_save) 32 = .ok (.iload_n 1, 1) := by decide +kernel
theorem qX4_save_33 : decode (mB mX4_save) 33 = .ok (.imul, 1) := by decide +kernel
theorem qX4_save_34 : decode (mB mX4_save) 34 = .ok (.iload_n 2, 1) := by decide +kernel
theorem qX4_save_35 : decode (mB mX4_save) 35 = .ok (.iadd, 1) := by decide +kernel
theorem qX4_save_36 : decode (mB mX4_save) 36 = .ok (.aload_n 0, 1) := by decide +kernel
theorem qX4_save_37 : decode (mB mX4_save) 37 = .ok (.getfield 17, 3) := by decide +kernel
theorem qX4_save_40 : decode (mB mX4_save) 40 = .ok (.iload_n 2, 1) := by decide +kernel
theorem qX4_save_41 : decode (mB mX4_save) 41 = .ok (.iaload, 1) := by decide +kernel
theorem qX4_save_42 : decode (mB mX4_save) 42 = .ok (.iastore, 1) := by decide +kernel
theorem qX4_save_43 : decode (mB mX4_save) 43 = .ok (.iinc 2 1, 3) := by decide +kernel
theorem qX4_save_46 : decode (mB mX4_save) 46 = .ok (.goto (-28), 3) := by decide +kernel
theorem qX4_save_49 : decode (mB mX4_save) 49 = .ok (.aload_n 0, 1) := by decide +kernel
theorem qX4_save_50 : decode (mB mX4_save) 50 = .ok (.dup, 1) := by decide +kernel
theorem qX4_save_51 : decode (mB mX4_save) 51 = .ok (.getfield 460, 3) := by decide +kernel
theorem qX4_save_54 : decode (mB mX4_save) 54 = .ok (.iconst 1, 1) := by decide +kernel
theorem qX4_save_55 : decode (mB mX4_save) 55 = .ok (.iload_n 1, 1) := by decide +kernel
theorem qX4_save_56 : decode (mB mX4_save) 56 = .ok (.ishl, 1) := by decide +kernel
theorem qX4_save_57 : decode (mB mX4_save) 57 = .ok (.ior, 1) := by decide +kernel
theorem qX4_save_58 : decode (mB mX4_save) 58 = .ok (.putfield 460, 3) := by decide +kernel
theorem qX4_save_61 : decode (mB mX4_save) 61 = .ok (.aload_n 0, 1) := by decide +kernel
theorem qX4_save_62 : decode (mB mX4_save) 62 = .ok (.getfield 17, 3) := by decide +kernel
theorem qX4_save_65 : decode (mB mX4_save) 65 = .ok (.iconst 2, 1) := by decide +kernel
theorem qX4_save_66 : decode (mB mX4_save) 66 = .ok (.iaload, 1) := by decide +kernel
theorem qX4_save_67 : decode (mB mX4_save) 67 = .ok (.ireturn, 1) := by decide +kernel
theorem qX4_scaleAt_0 : decode (mB mX4_scaleAt) 0 = .ok (.aload_n 0, 1) := by decide +kernel
theorem qX4_scaleAt_1 : decode (mB mX4_scaleAt) 1 = .ok (.aload_n 0, 1) := by decide +kernel
theorem qX4_scaleAt_2 : decode (mB mX4_scaleAt) 2 = .ok (.iload_n 1, 1) := by decide +kernel
theorem qX4_scaleAt_3 : decode (mB mX4_scaleAt) 3 = .ok (.invokevirtual 396, 3) := by decide +kernel
theorem qX4_scaleAt_6 : decode (mB mX4_scaleAt) 6 = .ok (.iload_n 2, 1) := by decide +kernel
theorem qX4_scaleAt_7 : decode (mB mX4_scaleAt) 7 = .ok (.invokestatic 427, 3) := by decide +kernel
theorem qX4_scaleAt_10 : decode (mB mX4_scaleAt) 10 = .ok (.aload_n 0, 1) := by decide +kernel
theorem qX4_scaleAt_11 : decode (mB mX4_scaleAt) 11 = .ok (.iload_n 1, 1) := by decide +kernel
theorem qX4_scaleAt_12 : decode (mB mX4_scaleAt) 12 = .ok (.invokevirtual 419, 3) := by decide +kernel
theorem qX4_scaleAt_15 : decode (mB mX4_scaleAt) 15 = .ok (.invokevirtual 7, 3) := by decide +kernel
theorem qX4_scaleAt_18 : decode (mB mX4_scaleAt) 18 = .ok (.ifCond .eq 12, 3) := by decide +kernel
theorem qX4_scaleAt_21 : decode (mB mX4_scaleAt) 21 = .ok (.aload_n 0, 1) := by decide +kernel
theorem qX4_scaleAt_22 : decode (mB mX4_scaleAt) 22 = .ok (.iload_n 1, 1) := by decide +kernel
theorem qX4_scaleAt_23 : decode (mB mX4_scaleAt) 23 = .ok (.iload_n 2, 1) := by decide +kernel
theorem qX4_scaleAt_24 : decode (mB mX4_scaleAt) 24 = .ok (.invokevirtual 195, 3) := by decide +kernel
theorem qX4_scaleAt_27 : decode (mB mX4_scaleAt) 27 = .ok (.goto 4, 3) := by decide +kernel
theorem qX4_scaleAt_30 : decode (mB mX4_scaleAt) 30 = .ok (.iconst 0, 1) := by decide +kernel
theorem qX4_scaleAt_31 : decode (mB mX4_scaleAt) 31 = .ok (.ireturn, 1) := by decide +kernel
theorem qX4_sensitivity_0 : decode (mB mX4_sensitivity) 0 = .ok (.aload_n 0, 1) := by decide +kernel
theorem qX4_sensitivity_1 : decode (mB mX4_sensitivity) 1 = .ok (.aload_n 0, 1) := by decide +kernel
theorem qX4_sensitivity_2 : decode (mB mX4_sensitivity) 2 = .ok (.iload_n 1, 1) := by decide +kernel
theorem qX4_sensitivity_3 : decode (mB mX4_sensitivity) 3 = .ok (.invokevirtual 396, 3) := by decide +kernel
theorem qX4_sensitivity_6 : decode (mB mX4_sensitivity) 6 = .ok (.invokevirtual 371, 3) := by decide +kernel
theorem qX4_sensitivity_9 : decode (mB mX4_sensitivity) 9 = .ok (.ifCond .eq 26, 3) := by decide +kernel
theorem qX4_sensitivity_12 : decode (mB mX4_sensitivity) 12 = .ok (.aload_n 0, 1) := by decide +kernel
theorem qX4_sensitivity_13 : decode (mB mX4_sensitivity) 13 = .ok (.iload_n 1, 1) := by decide +kernel
theorem qX4_sensitivity_14 : decode (mB mX4_sensitivity) 14 = .ok (.aload_n 0, 1) := by decide +kernel
theorem qX4_sensitivity_15 : decode (mB mX4_sensitivity) 15 = .ok (.iload_n 1, 1) := by decide +kernel
theorem qX4_sensitivity_16 : decode (mB mX4_sensitivity) 16 = .ok (.iconst 5, 1) := by decide +kernel
theorem qX4_sensitivity_17 : decode (mB mX4_sensitivity) 17 = .ok (.invokevirtual 148, 3) := by decide +kernel
theorem qX4_sensitivity_20 : decode (mB mX4_sensitivity) 20 = .ok (.bipush 10, 2) := by decide +kernel
theorem qX4_sensitivity_22 : decode (mB mX4_sensitivity) 22 = .ok (.iadd, 1) := by decide +kernel
theorem qX4_sensitivity_23 : decode (mB mX4_sensitivity) 23 = .ok (.invokevirtual 155, 3) := by decide +kernel
theorem qX4_sensitivity_26 : decode (mB mX4_sensitivity) 26 = .ok (.aload_n 0, 1) := by decide +kernel
theorem qX4_sensitivity_27 : decode (mB mX4_sensitivity) 27 = .ok (.iload_n 1, 1) := by decide +kernel
theorem qX4_sensitivity_28 : decode (mB mX4_sensitivity) 28 = .ok (.invokevirtual 158, 3) := by decide +kernel
theorem qX4_sensitivity_31 : decode (mB mX4_sensitivity) 31 = .ok (.isub, 1) := by decide +kernel
theorem qX4_sensitivity_32 : decode (mB mX4_sensitivity) 32 = .ok (.goto 4, 3) := by decide +kernel
theorem qX4_sensitivity_35 : decode (mB mX4_sensitivity) 35 = .ok (.iconst 0, 1) := by decide +kernel
theorem qX4_sensitivity_36 : decode (mB mX4_sensitivity) 36 = .ok (.ireturn, 1) := by decide +kernel
theorem qX4_set0_0 : decode (mB mX4_set0) 0 = .ok (.aload_n 0, 1) := by decide +kernel
theorem qX4_set0_1 : decode (mB mX4_set0) 1 = .ok (.getfield 24, 3) := by decide +kernel
theorem qX4_set0_4 : decode (mB mX4_set0) 4 = .ok (.bipush 42, 2) := by decide +kernel
theorem qX4_set0_6 : decode (mB mX4_set0) 6 = .ok (.bipush 21, 2) := by decide +kernel
theorem qX4_set0_8 : decode (mB mX4_set0) 8 = .ok (.iload_n 1, 1) := by decide +kernel
theorem qX4_set0_9 : decode (mB mX4_set0) 9 = .ok (.imul, 1) := by decide +kernel
theorem qX4_set0_10 : decode (mB mX4_set0) 10 = .ok (.iadd, 1) := by decide +kernel
theorem qX4_set0_11 : decode (mB mX4_set0) 11 = .ok (.iload_n 2, 1) := by decide +kernel
theorem qX4_set0_12 : decode (mB mX4_set0) 12 = .ok (.iadd, 1) := by decide +kernel
theorem qX4_set0_13 : decode (mB mX4_set0) 13 = .ok (.iload_n 3, 1) := by decide +kernel
theorem qX4_set0_14 : decode (mB mX4_set0) 14 = .ok (.iastore, 1) := by decide +kernel
theorem qX4_set0_15 : decode (mB mX4_set0) 15 = .ok (.return_, 1) := by decide +kernel
theorem qX4_setLeaky_0 : decode (mB mX4_setLeaky) 0 = .ok (.aload_n 0, 1) := by decide +kernel
theorem qX4_setLeaky_1 : decode (mB mX4_setLeaky) 1 = .ok (.aload_n 0, 1) := by decide +kernel
theorem qX4_setLeaky_2 : decode (mB mX4_setLeaky) 2 = .ok (.iload_n 1, 1) := by decide +kernel
theorem qX4_setLeaky_3 : decode (mB mX4_setLeaky) 3 = .ok (.invokevirtual 396, 3) := by decide +kernel
theorem qX4_setLeaky_6 : decode (mB mX4_setLeaky) 6 = .ok (.invokevirtual 371, 3) := by decide +kernel
theorem qX4_setLeaky_9 : decode (mB mX4_setLeaky) 9 = .ok (.ifCond .ne 5, 3) := by decide +kernel
theorem qX4_setLeaky_12 : decode (mB mX4_setLeaky) 12 = .ok (.iconst 0, 1) := by decide +kernel
theorem qX4_setLeaky_13 : decode (mB mX4_setLeaky) 13 = .ok (.ireturn, 1) := by decide +kernel
theorem qX4_setLeaky_14 : decode (mB mX4_setLeaky) 14 = .ok (.aload_n 0, 1) := by decide +kernel
theorem qX4_setLeaky_15 : decode (mB mX4_setLeaky) 15 = .ok (.invokevirtual 384, 3) := by decide +kernel
theorem qX4_setLeaky_18 : decode (mB mX4_setLeaky) 18 = .ok (.aload_n 0, 1) := by decide +kernel
theorem qX4_setLeaky_19 : decode (mB mX4_setLeaky) 19 = .ok (.iload_n 1, 1) := by decide +kernel
theorem qX4_setLeaky_20 : decode (mB mX4_setLeaky) 20 = .ok (.bipush 6, 2) := by decide +kernel
theorem qX4_setLeaky_22 : decode (mB mX4_setLeaky) 22 = .ok (.invokevirtual 148, 3) := by decide +kernel
theorem qX4_setLeaky_25 : decode (mB mX4_setLeaky) 25 = .ok (.iconst 1, 1) := by decide +kernel
theorem qX4_setLeaky_26 : decode (mB mX4_setLeaky) 26 = .ok (.if_icmp .ne 7, 3) := by decide +kernel
theorem qX4_setLeaky_29 : decode (mB mX4_setLeaky) 29 = .ok (.iconst 1, 1) := by decide +kernel
theorem qX4_setLeaky_30 : decode (mB mX4_setLeaky) 30 = .ok (.goto 4, 3) := by decide +kernel
theorem qX4_setLeaky_33 : decode (mB mX4_setLeaky) 33 = .ok (.iconst 0, 1) := by decide +kernel
theorem qX4_setLeaky_34 : decode (mB mX4_setLeaky) 34 = .ok (.istore_n 3, 1) := by decide +kernel
theorem qX4_setLeaky_35 : decode (mB mX4_setLeaky) 35 = .ok (.aload_n 0, 1) := by decide +kernel
theorem qX4_setLeaky_36 : decode (mB mX4_setLeaky) 36 = .ok (.iload_n 1, 1) := by decide +kernel
theorem qX4_setLeaky_37 : decode (mB mX4_setLeaky) 37 = .ok (.bipush 6, 2) := by decide +kernel
theorem qX4_setLeaky_39 : decode (mB mX4_setLeaky) 39 = .ok (.iload_n 2, 1) := by decide +kernel
theorem qX4_setLeaky_40 : decode (mB mX4_setLeaky) 40 = .ok (.ifCond .eq 7, 3) := by decide +kernel
theorem qX4_setLeaky_43 : decode (mB mX4_setLeaky) 43 = .ok (.iconst 1, 1) := by decide +kernel
theorem qX4_setLeaky_44 : decode (mB mX4_setLeaky) 44 = .ok (.goto 4, 3) := by decide +kernel
theorem qX4_setLeaky_47 : decode (mB mX4_setLeaky) 47 = .ok (.iconst 0, 1) := by decide +kernel
theorem qX4_setLeaky_48 : decode (mB mX4_setLeaky) 48 = .ok (.invokevirtual 137, 3) := by decide +kernel
theorem qX4_setLeaky_51 : decode (mB mX4_setLeaky) 51 = .ok (.iload_n 3, 1) := by decide +kernel
theorem qX4_setLeaky_52 : decode (mB mX4_setLeaky) 52 = .ok (.ireturn, 1) := by decide +kernel
theorem qX4_setRoom_0 : decode (mB mX4_setRoom) 0 = .ok (.aload_n 0, 1) := by decide +kernel
theorem qX4_setRoom_1 : decode (mB mX4_setRoom) 1 = .ok (.iload_n 1, 1) := by decide +kernel
theorem qX4_setRoom_2 : decode (mB mX4_setRoom) 2 = .ok (.i2l, 1) := by decide +kernel
theorem qX4_setRoom_3 : decode (mB mX4_setRoom) 3 = .ok (.ldc2_w 456, 3) := by decide +kernel
theorem qX4_setRoom_6 : decode (mB mX4_setRoom) 6 = .ok (.ldc2_w 458, 3) := by decide +kernel
theorem qX4_setRoom_9 : decode (mB mX4_setRoom) 9 = .ok (.invokestatic 276, 3) := by decide +kernel
theorem qX4_setRoom_12 : decode (mB mX4_setRoom) 12 = .ok (.invokevirtual 371, 3) := by decide +kernel
theorem qX4_setRoom_15 : decode (mB mX4_setRoom) 15 = .ok (.ifCond .ne 5, 3) := by decide +kernel
theorem qX4_setRoom_18 : decode (mB mX4_setRoom) 18 = .ok (.iconst 0, 1) := by decide +kernel
theorem qX4_setRoom_19 : decode (mB mX4_setRoom) 19 = .ok (.ireturn, 1) := by decide +kernel
theorem qX4_setRoom_20 : decode (mB mX4_setRoom) 20 = .ok (.aload_n 0, 1) := by decide +kernel
theorem qX4_setRoom_21 : decode (mB mX4_setRoom) 21 = .ok (.invokevirtual 384, 3) := by decide +kernel
theorem qX4_setRoom_24 : decode (mB mX4_setRoom) 24 = .ok (.aload_n 0, 1) := by decide +kernel
theorem qX4_setRoom_25 : decode (mB mX4_setRoom) 25 = .ok (.getfield 17, 3) := by decide +kernel
theorem qX4_setRoom_28 : decode (mB mX4_setRoom) 28 = .ok (.iconst 0, 1) := by decide +kernel
theorem qX4_setRoom_29 : decode (mB mX4_setRoom) 29 = .ok (.iaload, 1) := by decide +kernel
theorem qX4_setRoom_30 : decode (mB mX4_setRoom) 30 = .ok (.istore_n 2, 1) := by decide +kernel
theorem qX4_setRoom_31 : decode (mB mX4_setRoom) 31 = .ok (.aload_n 0, 1) := by decide +kernel
theorem qX4_setRoom_32 : decode (mB mX4_setRoom) 32 = .ok (.getfield 17, 3) := by decide +kernel
theorem qX4_setRoom_35 : decode (mB mX4_setRoom) 35 = .ok (.iconst 0, 1) := by decide +kernel
theorem qX4_setRoom_36 : decode (mB mX4_setRoom) 36 = .ok (.iload_n 1, 1) := by decide +kernel
theorem qX4_setRoom_37 : decode (mB mX4_setRoom) 37 = .ok (.iastore, 1) := by decide +kernel
theorem qX4_setRoom_38 : decode (mB mX4_setRoom) 38 = .ok (.iload_n 2, 1) := by decide +kernel
theorem qX4_setRoom_39 : decode (mB mX4_setRoom) 39 = .ok (.ireturn, 1) := by decide +kernel
theorem qX4_settledShare_0 : decode (mB mX4_settledShare) 0 = .ok (.aload_n 0, 1) := by decide +kernel
theorem qX4_settledShare_1 : decode (mB mX4_settledShare) 1 = .ok (.iconst 0, 1) := by decide +kernel
theorem qX4_settledShare_2 : decode (mB mX4_settledShare) 2 = .ok (.putfield 3, 3) := by decide +kernel
theorem qX4_settledShare_5 : decode (mB mX4_settledShare) 5 = .ok (.iconst 0, 1) := by decide +kernel
theorem qX4_settledShare_6 : decode (mB mX4_settledShare) 6 = .ok (.istore_n 1, 1) := by decide +kernel
theorem qX4_settledShare_7 : decode (mB mX4_settledShare) 7 = .ok (.iconst 0, 1) := by decide +kernel
theorem qX4_settledShare_8 : decode (mB mX4_settledShare) 8 = .ok (.istore_n 2, 1) := by decide +kernel
theorem qX4_settledShare_9 : decode (mB mX4_settledShare) 9 = .ok (.iload_n 2, 1) := by decide +kernel
theorem qX4_settledShare_10 : decode (mB mX4_settledShare) 10 = .ok (.aload_n 0, 1) := by decide +kernel
theorem qX4_settledShare_11 : decode (mB mX4_settledShare) 11 = .ok (.getfield 17, 3) := by decide +kernel
theorem qX4_settledShare_14 : decode (mB mX4_settledShare) 14 = .ok (.iconst 5, 1) := by decide +kernel
theorem qX4_settledShare_15 : decode (mB mX4_settledShare) 15 = .ok (.iaload, 1) := by decide +kernel
theorem qX4_settledShare_16 : decode (mB mX4_settledShare) 16 = .ok (.if_icmp .ge 25, 3) := by decide +kernel
theorem qX4_settledShare_19 : decode (mB mX4_settledShare) 19 = .ok (.iload_n 1, 1) := by decide +kernel
theorem qX4_settledShare_20 : decode (mB mX4_settledShare) 20 = .ok (.aload_n 0, 1) := by decide +kernel
theorem qX4_settledShare_21 : decode (mB mX4_settledShare) 21 = .ok (.iload_n 2, 1) := by decide +kernel
theorem qX4_settledShare_22 : decode (mB mX4_settledShare) 22 = .ok (.invokevirtual 178, 3) := by decide +kernel
theorem qX4_settledShare_25 : decode (mB mX4_settledShare) 25 = .ok (.ifCond .eq 7, 3) := by decide +kernel
theorem qX4_settledShare_28 : decode (mB mX4_settledShare) 28 = .ok (.iconst 1, 1) := by decide +kernel
theorem qX4_settledShare_29 : decode (mB mX4_settledShare) 29 = .ok (.goto 4, 3) := by decide +kernel
theorem qX4_settledShare_32 : decode (mB mX4_settledShare) 32 = .ok (.iconst 0, 1) := by decide +kernel
theorem qX4_settledShare_33 : decode (mB mX4_settledShare) 33 = .ok (.iadd, 1) := by decide +kernel
theorem qX4_settledShare_34 : decode (mB mX4_settledShare) 34 = .ok (.istore_n 1, 1) := by decide +kernel
theorem qX4_settledShare_35 : decode (mB mX4_settledShare) 35 = .ok (.iinc 2 1, 3) := by decide +kernel
theorem qX4_settledShare_38 : decode (mB mX4_settledShare) 38 = .ok (.goto (-29), 3) := by decide +kernel
theorem qX4_settledShare_41 : decode (mB mX4_settledShare) 41 = .ok (.aload_n 0, 1) := by decide +kernel
theorem qX4_settledShare_42 : decode (mB mX4_settledShare) 42 = .ok (.getfield 17, 3) := by decide +kernel
theorem qX4_settledShare_45 : decode (mB mX4_settledShare) 45 = .ok (.iconst 5, 1) := by decide +kernel
theorem qX4_settledShare_46 : decode (mB mX4_settledShare) 46 = .ok (.iaload, 1) := by decide +kernel
theorem qX4_settledShare_47 : decode (mB mX4_settledShare) 47 = .ok (.ifCond .ne 7, 3) := by decide +kernel
theorem qX4_settledShare_50 : decode (mB mX4_settledShare) 50 = .ok (.fconst 0, 1) := by decide +kernel
theorem qX4_settledShare_51 : decode (mB mX4_settledShare) 51 = .ok (.goto 13, 3) := by decide +kernel
theorem qX4_settledShare_54 : decode (mB mX4_settledShare) 54 = .ok (.iload_n 1, 1) := by decide +kernel
theorem qX4_settledShare_55 : decode (mB mX4_settledShare) 55 = .ok (.i2f, 1) := by decide +kernel
theorem qX4_settledShare_56 : decode (mB mX4_settledShare) 56 = .ok (.aload_n 0, 1) := by decide +kernel
theorem qX4_settledShare_57 : decode (mB mX4_settledShare) 57 = .ok (.getfield 17, 3) := by decide +kernel
theorem qX4_settledShare_60 : decode (mB mX4_settledShare) 60 = .ok (.iconst 5, 1) := by decide +kernel
theorem qX4_settledShare_61 : decode (mB mX4_settledShare) 61 = .ok (.iaload, 1) := by decide +kernel
theorem qX4_settledShare_62 : decode (mB mX4_settledShare) 62 = .ok (.i2f, 1) := by decide +kernel
theorem qX4_settledShare_63 : decode (mB mX4_settledShare) 63 = .ok (.fdiv, 1) := by decide +kernel
theorem qX4_settledShare_64 : decode (mB mX4_settledShare) 64 = .ok (.freturn, 1) := by decide +kernel
theorem qX4_spell_0 : decode (mB mX4_spell) 0 = .ok (.lconst 0, 1) := by decide +kernel
theorem qX4_spell_1 : decode (mB mX4_spell) 1 = .ok (.lstore_n 1, 1) := by decide +kernel
theorem qX4_spell_2 : decode (mB mX4_spell) 2 = .ok (.iconst 0, 1) := by decide +kernel
theorem qX4_spell_3 : decode (mB mX4_spell) 3 = .ok (.istore_n 3, 1) := by decide +kernel
theorem qX4_spell_4 : decode (mB mX4_spell) 4 = .ok (.iload_n 3, 1) := by decide +kernel
theorem qX4_spell_5 : decode (mB mX4_spell) 5 = .ok (.aload_n 0, 1) := by decide +kernel
theorem qX4_spell_6 : decode (mB mX4_spell) 6 = .ok (.invokevirtual 259, 3) := by decide +kernel
theorem qX4_spell_9 : decode (mB mX4_spell) 9 = .ok (.if_icmp .ge 28, 3) := by decide +kernel
theorem qX4_spell_12 : decode (mB mX4_spell) 12 = .ok (.ldc2_w 241, 3) := by decide +kernel
theorem qX4_spell_15 : decode (mB mX4_spell) 15 = .ok (.lload_n 1, 1) := by decide +kernel
theorem qX4_spell_16 : decode (mB mX4_spell) 16 = .ok (.lmul, 1) := by decide +kernel
theorem qX4_spell_17 : decode (mB mX4_spell) 17 = .ok (.aload_n 0, 1) := by decide +kernel
theorem qX4_spell_18 : decode (mB mX4_spell) 18 = .ok (.iload_n 3, 1) := by decide +kernel
theorem qX4_spell_19 : decode (mB mX4_spell) 19 = .ok (.invokevirtual 265, 3) := by decide +kernel
theorem qX4_spell_22 : decode (mB mX4_spell) 22 = .ok (.i2l, 1) := by decide +kernel
theorem qX4_spell_23 : decode (mB mX4_spell) 23 = .ok (.ladd, 1) := by decide +kernel
theorem qX4_spell_24 : decode (mB mX4_spell) 24 = .ok (.ldc2_w 243, 3) := by decide +kernel
theorem qX4_spell_27 : decode (mB mX4_spell) 27 = .ok (.lsub, 1) := by decide +kernel
theorem qX4_spell_28 : decode (mB mX4_spell) 28 = .ok (.lconst 1, 1) := by decide +kernel
theorem qX4_spell_29 : decode (mB mX4_spell) 29 = .ok (.ladd, 1) := by decide +kernel
theorem qX4_spell_30 : decode (mB mX4_spell) 30 = .ok (.lstore_n 1, 1) := by decide +kernel
theorem qX4_spell_31 : decode (mB mX4_spell) 31 = .ok (.iinc 3 1, 3) := by decide +kernel
theorem qX4_spell_34 : decode (mB mX4_spell) 34 = .ok (.goto (-30), 3) := by decide +kernel
theorem qX4_spell_37 : decode (mB mX4_spell) 37 = .ok (.lload_n 1, 1) := by decide +kernel
theorem qX4_spell_38 : decode (mB mX4_spell) 38 = .ok (.lreturn, 1) := by decide +kernel
theorem qX4_spiritDifference_0 : decode (mB mX4_spiritDifference) 0 = .ok (.aload_n 0, 1) := by decide +kernel
theorem qX4_spiritDifference_1 : decode (mB mX4_spiritDifference) 1 = .ok (.iconst 0, 1) := by decide +kernel
theorem qX4_spiritDifference_2 : decode (mB mX4_spiritDifference) 2 = .ok (.putfield 3, 3) := by decide +kernel
theorem qX4_spiritDifference_5 : decode (mB mX4_spiritDifference) 5 = .ok (.aload_n 0, 1) := by decide +kernel
theorem qX4_spiritDifference_6 : decode (mB mX4_spiritDifference) 6 = .ok (.getfield 17, 3) := by decide +kernel
theorem qX4_spiritDifference_9 : decode (mB mX4_spiritDifference) 9 = .ok (.bipush 8, 2) := by decide +kernel
theorem qX4_spiritDifference_11 : decode (mB mX4_spiritDifference) 11 = .ok (.iaload, 1) := by decide +kernel
theorem qX4_spiritDifference_12 : decode (mB mX4_spiritDifference) 12 = .ok (.aload_n 0, 1) := by decide +kernel
theorem qX4_spiritDifference_13 : decode (mB mX4_spiritDifference) 13 = .ok (.invokevirtual 451, 3) := by decide +kernel
theorem qX4_spiritDifference_16 : decode (mB mX4_spiritDifference) 16 = .ok (.isub, 1) := by decide +kernel
theorem qX4_spiritDifference_17 : decode (mB mX4_spiritDifference) 17 = .ok (.istore_n 1, 1) := by decide +kernel
theorem qX4_spiritDifference_18 : decode (mB mX4_spiritDifference) 18 = .ok (.iconst 0, 1) := by decide +kernel
theorem qX4_spiritDifference_19 : decode (mB mX4_spiritDifference) 19 = .ok (.istore_n 2, 1) := by decide +kernel
theorem qX4_spiritDifference_20 : decode (mB mX4_spiritDifference) 20 = .ok (.iload_n 2, 1) := by decide +kernel
theorem qX4_spiritDifference_21 : decode (mB mX4_spiritDifference) 21 = .ok (.aload_n 0, 1) := by decide +kernel
theorem qX4_spiritDifference_22 : decode (mB mX4_spiritDifference) 22 = .ok (.getfield 17, 3) := by decide +kernel
theorem qX4_spiritDifference_25 : decode (mB mX4_spiritDifference) 25 = .ok (.iconst 5, 1) := by decide +kernel
theorem qX4_spiritDifference_26 : decode (mB mX4_spiritDifference) 26 = .ok (.iaload, 1) := by decide +kernel
theorem qX4_spiritDifference_27 : decode (mB mX4_spiritDifference) 27 = .ok (.if_icmp .ge 18, 3) := by decide +kernel
theorem qX4_spiritDifference_30 : decode (mB mX4_spiritDifference) 30 = .ok (.iload_n 1, 1) := by decide +kernel
theorem qX4_spiritDifference_31 : decode (mB mX4_spiritDifference) 31 = .ok (.aload_n 0, 1) := by decide +kernel
theorem qX4_spiritDifference_32 : decode (mB mX4_spiritDifference) 32 = .ok (.iload_n 2, 1) := by decide +kernel
theorem qX4_spiritDifference_33 : decode (mB mX4_spiritDifference) 33 = .ok (.iconst 4, 1) := by decide +kernel
theorem qX4_spiritDifference_34 : decode (mB mX4_spiritDifference) 34 = .ok (.invokevirtual 148, 3) := by decide +kernel
theorem qX4_spiritDifference_37 : decode (mB mX4_spiritDifference) 37 = .ok (.isub, 1) := by decide +kernel
theorem qX4_spiritDifference_38 : decode (mB mX4_spiritDifference) 38 = .ok (.istore_n 1, 1) := by decide +kernel
theorem qX4_spiritDifference_39 : decode (mB mX4_spiritDifference) 39 = .ok (.iinc 2 1, 3) := by decide +kernel
theorem qX4_spiritDifference_42 : decode (mB mX4_spiritDifference) 42 = .ok (.goto (-22), 3) := by decide +kernel
theorem qX4_spiritDifference_45 : decode (mB mX4_spiritDifference) 45 = .ok (.iload_n 1, 1) := by decide +kernel
theorem qX4_spiritDifference_46 : decode (mB mX4_spiritDifference) 46 = .ok (.ireturn, 1) := by decide +kernel
theorem qX4_spiritHere_0 : decode (mB mX4_spiritHere) 0 = .ok (.iconst 0, 1) := by decide +kernel
theorem qX4_spiritHere_1 : decode (mB mX4_spiritHere) 1 = .ok (.istore_n 1, 1) := by decide +kernel
theorem qX4_spiritHere_2 : decode (mB mX4_spiritHere) 2 = .ok (.iload_n 1, 1) := by decide +kernel
theorem qX4_spiritHere_3 : decode (mB mX4_spiritHere) 3 = .ok (.aload_n 0, 1) := by decide +kernel
theorem qX4_spiritHere_4 : decode (mB mX4_spiritHere) 4 = .ok (.getfield 24, 3) := by decide +kernel
theorem qX4_spiritHere_7 : decode (mB mX4_spiritHere) 7 = .ok (.iconst 3, 1) := by decide +kernel
theorem qX4_spiritHere_8 : decode (mB mX4_spiritHere) 8 = .ok (.iaload, 1) := by decide +kernel
theorem qX4_spiritHere_9 : decode (mB mX4_spiritHere) 9 = .ok (.if_icmp .ge 47, 3) := by decide +kernel
theorem qX4_spiritHere_12 : decode (mB mX4_spiritHere) 12 = .ok (.aload_n 0, 1) := by decide +kernel
theorem qX4_spiritHere_13 : decode (mB mX4_spiritHere) 13 = .ok (.getfield 235, 3) := by decide +kernel
theorem qX4_spiritHere_16 : decode (mB mX4_spiritHere) 16 = .ok (.iconst 1, 1) := by decide +kernel
theorem qX4_spiritHere_17 : decode (mB mX4_spiritHere) 17 = .ok (.if_icmp .ne 33, 3) := by decide +kernel
theorem qX4_spiritHere_20 : decode (mB mX4_spiritHere) 20 = .ok (.aload_n 0, 1) := by decide +kernel
theorem qX4_spiritHere_21 : decode (mB mX4_spiritHere) 21 = .ok (.iload_n 1, 1) := by decide +kernel
theorem qX4_spiritHere_22 : decode (mB mX4_spiritHere) 22 = .ok (.iconst 1, 1) := by decide +kernel
theorem qX4_spiritHere_23 : decode (mB mX4_spiritHere) 23 = .ok (.invokevirtual 152, 3) := by decide +kernel
theorem qX4_spiritHere_26 : decode (mB mX4_spiritHere) 26 = .ok (.aload_n 0, 1) := by decide +kernel
theorem qX4_spiritHere_27 : decode (mB mX4_spiritHere) 27 = .ok (.getfield 226, 3) := by decide +kernel
theorem qX4_spiritHere_30 : decode (mB mX4_spiritHere) 30 = .ok (.if_icmp .ne 20, 3) := by decide +kernel
theorem qX4_spiritHere_33 : decode (mB mX4_spiritHere) 33 = .ok (.aload_n 0, 1) := by decide +kernel
theorem qX4_spiritHere_34 : decode (mB mX4_spiritHere) 34 = .ok (.iload_n 1, 1) := by decide +kernel
theorem qX4_spiritHere_35 : decode (mB mX4_spiritHere) 35 = .ok (.iconst 0, 1) := by decide +kernel
theorem qX4_spiritHere_36 : decode (mB mX4_spiritHere) 36 = .ok (.invokevirtual 152, 3) := by decide +kernel
theorem qX4_spiritHere_39 : decode (mB mX4_spiritHere) 39 = .ok (.i2l, 1) := by decide +kernel
theorem qX4_spiritHere_40 : decode (mB mX4_spiritHere) 40 = .ok (.aload_n 0, 1) := by decide +kernel
theorem qX4_spiritHere_41 : decode (mB mX4_spiritHere) 41 = .ok (.getfield 229, 3) := by decide +kernel
theorem qX4_spiritHere_44 : decode (mB mX4_spiritHere) 44 = .ok (.lcmp, 1) := by decide +kernel
theorem qX4_spiritHere_45 : decode (mB mX4_spiritHere) 45 = .ok (.ifCond .ne 5, 3) := by decide +kernel
theorem qX4_spiritHere_48 : decode (mB mX4_spiritHere) 48 = .ok (.iload_n 1, 1) := by decide +kernel
theorem qX4_spiritHere_49 : decode (mB mX4_spiritHere) 49 = .ok (.ireturn, 1) := by decide +kernel
theorem qX4_spiritHere_50 : decode (mB mX4_spiritHere) 50 = .ok (.iinc 1 1, 3) := by decide +kernel
theorem qX4_spiritHere_53 : decode (mB mX4_spiritHere) 53 = .ok (.goto (-51), 3) := by decide +kernel
theorem qX4_spiritHere_56 : decode (mB mX4_spiritHere) 56 = .ok (.iconst (-1), 1) := by decide +kernel
theorem qX4_spiritHere_57 : decode (mB mX4_spiritHere) 57 = .ok (.ireturn, 1) := by decide +kernel
theorem qX4_spiritInTubes_0 : decode (mB mX4_spiritInTubes) 0 = .ok (.aload_n 0, 1) := by decide +kernel
theorem qX4_spiritInTubes_1 : decode (mB mX4_spiritInTubes) 1 = .ok (.aload_n 0, 1) := by decide +kernel
theorem qX4_spiritInTubes_2 : decode (mB mX4_spiritInTubes) 2 = .ok (.iload_n 1, 1) := by decide +kernel
theorem qX4_spiritInTubes_3 : decode (mB mX4_spiritInTubes) 3 = .ok (.invokevirtual 393, 3) := by decide +kernel
theorem qX4_spiritInTubes_6 : decode (mB mX4_spiritInTubes) 6 = .ok (.invokevirtual 371, 3) := by decide +kernel
theorem qX4_spiritInTubes_9 : decode (mB mX4_spiritInTubes) 9 = .ok (.ifCond .ne 5, 3) := by decide +kernel
theorem qX4_spiritInTubes_12 : decode (mB mX4_spiritInTubes) 12 = .ok (.iconst 0, 1) := by decide +kernel
theorem qX4_spiritInTubes_13 : decode (mB mX4_spiritInTubes) 13 = .ok (.ireturn, 1) := by decide +kernel
theorem qX4_spiritInTubes_14 : decode (mB mX4_spiritInTubes) 14 = .ok (.iconst 0, 1) := by decide +kernel
theorem qX4_spiritInTubes_15 : decode (mB mX4_spiritInTubes) 15 = .ok (.istore_n 2, 1) := by decide +kernel
theorem qX4_spiritInTubes_16 : decode (mB mX4_spiritInTubes) 16 = .ok (.iconst 0, 1) := by decide +kernel
theorem qX4_spiritInTubes_17 : decode (mB mX4_spiritInTubes) 17 = .ok (.istore_n 3, 1) := by decide +kernel
theorem qX4_spiritInTubes_18 : decode (mB mX4_spiritInTubes) 18 = .ok (.iload_n 3, 1) := by decide +kernel
theorem qX4_spiritInTubes_19 : decode (mB mX4_spiritInTubes) 19 = .ok (.aload_n 0, 1) := by decide +kernel
theorem qX4_spiritInTubes_20 : decode (mB mX4_spiritInTubes) 20 = .ok (.getfield 17, 3) := by decide +kernel
theorem qX4_spiritInTubes_23 : decode (mB mX4_spiritInTubes) 23 = .ok (.iconst 5, 1) := by decide +kernel
theorem qX4_spiritInTubes_24 : decode (mB mX4_spiritInTubes) 24 = .ok (.iaload, 1) := by decide +kernel
theorem qX4_spiritInTubes_25 : decode (mB mX4_spiritInTubes) 25 = .ok (.if_icmp .ge 32, 3) := by decide +kernel
theorem qX4_spiritInTubes_28 : decode (mB mX4_spiritInTubes) 28 = .ok (.iload_n 2, 1) := by decide +kernel
theorem qX4_spiritInTubes_29 : decode (mB mX4_spiritInTubes) 29 = .ok (.aload_n 0, 1) := by decide +kernel
theorem qX4_spiritInTubes_30 : decode (mB mX4_spiritInTubes) 30 = .ok (.iload_n 3, 1) := by decide +kernel
theorem qX4_spiritInTubes_31 : decode (mB mX4_spiritInTubes) 31 = .ok (.iconst 0, 1) := by decide +kernel
theorem qX4_spiritInTubes_32 : decode (mB mX4_spiritInTubes) 32 = .ok (.invokevirtual 148, 3) := by decide +kernel
theorem qX4_spiritInTubes_35 : decode (mB mX4_spiritInTubes) 35 = .ok (.iload_n 1, 1) := by decide +kernel
theorem qX4_spiritInTubes_36 : decode (mB mX4_spiritInTubes) 36 = .ok (.if_icmp .ne 12, 3) := by decide +kernel
theorem qX4_spiritInTubes_39 : decode (mB mX4_spiritInTubes) 39 = .ok (.aload_n 0, 1) := by decide +kernel
theorem qX4_spiritInTubes_40 : decode (mB mX4_spiritInTubes) 40 = .ok (.iload_n 3, 1) := by decide +kernel
theorem qX4_spiritInTubes_41 : decode (mB mX4_spiritInTubes) 41 = .ok (.iconst 4, 1) := by decide +kernel
theorem qX4_spiritInTubes_42 : decode (mB mX4_spiritInTubes) 42 = .ok (.invokevirtual 148, 3) := by decide +kernel
theorem qX4_spiritInTubes_45 : decode (mB mX4_spiritInTubes) 45 = .ok (.goto 4, 3) := by decide +kernel
theorem qX4_spiritInTubes_48 : decode (mB mX4_spiritInTubes) 48 = .ok (.iconst 0, 1) := by decide +kernel
theorem qX4_spiritInTubes_49 : decode (mB mX4_spiritInTubes) 49 = .ok (.iadd, 1) := by decide +kernel
theorem qX4_spiritInTubes_50 : decode (mB mX4_spiritInTubes) 50 = .ok (.istore_n 2, 1) := by decide +kernel
theorem qX4_spiritInTubes_51 : decode (mB mX4_spiritInTubes) 51 = .ok (.iinc 3 1, 3) := by decide +kernel
theorem qX4_spiritInTubes_54 : decode (mB mX4_spiritInTubes) 54 = .ok (.goto (-36), 3) := by decide +kernel
theorem qX4_spiritInTubes_57 : decode (mB mX4_spiritInTubes) 57 = .ok (.iload_n 2, 1) := by decide +kernel
theorem qX4_spiritInTubes_58 : decode (mB mX4_spiritInTubes) 58 = .ok (.ireturn, 1) := by decide +kernel
theorem qX4_spiritLost_0 : decode (mB mX4_spiritLost) 0 = .ok (.aload_n 0, 1) := by decide +kernel
theorem qX4_spiritLost_1 : decode (mB mX4_spiritLost) 1 = .ok (.aload_n 0, 1) := by decide +kernel
theorem qX4_spiritLost_2 : decode (mB mX4_spiritLost) 2 = .ok (.iload_n 1, 1) := by decide +kernel
theorem qX4_spiritLost_3 : decode (mB mX4_spiritLost) 3 = .ok (.invokevirtual 393, 3) := by decide +kernel
theorem qX4_spiritLost_6 : decode (mB mX4_spiritLost) 6 = .ok (.invokevirtual 371, 3) := by decide +kernel
theorem qX4_spiritLost_9 : decode (mB mX4_spiritLost) 9 = .ok (.ifCond .eq 12, 3) := by decide +kernel
theorem qX4_spiritLost_12 : decode (mB mX4_spiritLost) 12 = .ok (.aload_n 0, 1) := by decide +kernel
theorem qX4_spiritLost_13 : decode (mB mX4_spiritLost) 13 = .ok (.iload_n 1, 1) := by decide +kernel
theorem qX4_spiritLost_14 : decode (mB mX4_spiritLost) 14 = .ok (.iconst 3, 1) := by decide +kernel
theorem qX4_spiritLost_15 : decode (mB mX4_spiritLost) 15 = .ok (.invokevirtual 152, 3) := by decide +kernel
theorem qX4_spiritLost_18 : decode (mB mX4_spiritLost) 18 = .ok (.goto 4, 3) := by decide +kernel
theorem qX4_spiritLost_21 : decode (mB mX4_spiritLost) 21 = .ok (.iconst 0, 1) := by decide +kernel
theorem qX4_spiritLost_22 : decode (mB mX4_spiritLost) 22 = .ok (.ireturn, 1) := by decide +kernel
theorem qX4_spiritOf_0 : decode (mB mX4_spiritOf) 0 = .ok (.aload_n 0, 1) := by decide +kernel
theorem qX4_spiritOf_1 : decode (mB mX4_spiritOf) 1 = .ok (.iload_n 1, 1) := by decide +kernel
theorem qX4_spiritOf_2 : decode (mB mX4_spiritOf) 2 = .ok (.iconst 0, 1) := by decide +kernel
theorem qX4_spiritOf_3 : decode (mB mX4_spiritOf) 3 = .ok (.invokevirtual 399, 3) := by decide +kernel
theorem qX4_spiritOf_6 : decode (mB mX4_spiritOf) 6 = .ok (.ireturn, 1) := by decide +kernel
theorem qX4_spread_0 : decode (mB mX4_spread) 0 = .ok (.aload_n 0, 1) := by decide +kernel
theorem qX4_spread_1 : decode (mB mX4_spread) 1 = .ok (.iconst 0, 1) := by decide +kernel
theorem qX4_spread_2 : decode (mB mX4_spread) 2 = .ok (.putfield 3, 3) := by decide +kernel
theorem qX4_spread_5 : decode (mB mX4_spread) 5 = .ok (.ldc_w 438, 3) := by decide +kernel
theorem qX4_spread_8 : decode (mB mX4_spread) 8 = .ok (.istore_n 1, 1) := by decide +kernel
theorem qX4_spread_9 : decode (mB mX4_spread) 9 = .ok (.ldc_w 439, 3) := by decide +kernel
theorem qX4_spread_12 : decode (mB mX4_spread) 12 = .ok (.istore_n 2, 1) := by decide +kernel
theorem qX4_spread_13 : decode (mB mX4_spread) 13 = .ok (.iconst 0, 1) := by decide +kernel
theorem qX4_spread_14 : decode (mB mX4_spread) 14 = .ok (.istore_n 3, 1) := by decide +kernel
theorem qX4_spread_15 : decode (mB mX4_spread) 15 = .ok (.iload_n 3, 1) := by decide +kernel
theorem qX4_spread_16 : decode (mB mX4_spread) 16 = .ok (.aload_n 0, 1) := by decide +kernel
theorem qX4_spread_17 : decode (mB mX4_spread) 17 = .ok (.getfield 17, 3) := by decide +kernel
theorem qX4_spread_20 : decode (mB mX4_spread) 20 = .ok (.iconst 5, 1) := by decide +kernel
theorem qX4_spread_21 : decode (mB mX4_spread) 21 = .ok (.iaload, 1) := by decide +kernel
theorem qX4_spread_22 : decode (mB mX4_spread) 22 = .ok (.if_icmp .ge 53, 3) := by decide +kernel
theorem qX4_spread_25 : decode (mB mX4_spread) 25 = .ok (.aload_n 0, 1) := by decide +kernel
theorem qX4_spread_26 : decode (mB mX4_spread) 26 = .ok (.iload_n 3, 1) := by decide +kernel
theorem qX4_spread_27 : decode (mB mX4_spread) 27 = .ok (.invokevirtual 416, 3) := by decide +kernel
theorem qX4_spread_30 : decode (mB mX4_spread) 30 = .ok (.ifCond .eq 15, 3) := by decide +kernel
theorem qX4_spread_33 : decode (mB mX4_spread) 33 = .ok (.iload_n 1, 1) := by decide +kernel
theorem qX4_spread_34 : decode (mB mX4_spread) 34 = .ok (.aload_n 0, 1) := by decide +kernel
theorem qX4_spread_35 : decode (mB mX4_spread) 35 = .ok (.iload_n 3, 1) := by decide +kernel
theorem qX4_spread_36 : decode (mB mX4_spread) 36 = .ok (.invokevirtual 422, 3) := by decide +kernel
theorem qX4_spread_39 : decode (mB mX4_spread) 39 = .ok (.invokestatic 201, 3) := by decide +kernel
theorem qX4_spread_42 : decode (mB mX4_spread) 42 = .ok (.goto 4, 3) := by decide +kernel
theorem qX4_spread_45 : decode (mB mX4_spread) 45 = .ok (.iload_n 1, 1) := by decide +kernel
theorem qX4_spread_46 : decode (mB mX4_spread) 46 = .ok (.istore_n 1, 1) := by decide +kernel
theorem qX4_spread_47 : decode (mB mX4_spread) 47 = .ok (.aload_n 0, 1) := by decide +kernel
theorem qX4_spread_48 : decode (mB mX4_spread) 48 = .ok (.iload_n 3, 1) := by decide +kernel
theorem qX4_spread_49 : decode (mB mX4_spread) 49 = .ok (.invokevirtual 416, 3) := by decide +kernel
theorem qX4_spread_52 : decode (mB mX4_spread) 52 = .ok (.ifCond .eq 15, 3) := by decide +kernel
theorem qX4_spread_55 : decode (mB mX4_spread) 55 = .ok (.iload_n 2, 1) := by decide +kernel
theorem qX4_spread_56 : decode (mB mX4_spread) 56 = .ok (.aload_n 0, 1) := by decide +kernel
theorem qX4_spread_57 : decode (mB mX4_spread) 57 = .ok (.iload_n 3, 1) := by decide +kernel
theorem qX4_spread_58 : decode (mB mX4_spread) 58 = .ok (.invokevirtual 422, 3) := by decide +kernel
theorem qX4_spread_61 : decode (mB mX4_spread) 61 = .ok (.invokestatic 161, 3) := by decide +kernel
theorem qX4_spread_64 : decode (mB mX4_spread) 64 = .ok (.goto 4, 3) := by decide +kernel
theorem qX4_spread_67 : decode (mB mX4_spread) 67 = .ok (.iload_n 2, 1) := by decide +kernel
theorem qX4_spread_68 : decode (mB mX4_spread) 68 = .ok (.istore_n 2, 1) := by decide +kernel
theorem qX4_spread_69 : decode (mB mX4_spread) 69 = .ok (.iinc 3 1, 3) := by decide +kernel
theorem qX4_spread_72 : decode (mB mX4_spread) 72 = .ok (.goto (-57), 3) := by decide +kernel
theorem qX4_spread_75 : decode (mB mX4_spread) 75 = .ok (.iload_n 1, 1) := by decide +kernel
theorem qX4_spread_76 : decode (mB mX4_spread) 76 = .ok (.iload_n 2, 1) := by decide +kernel
theorem qX4_spread_77 : decode (mB mX4_spread) 77 = .ok (.if_icmp .ge 7, 3) := by decide +kernel
theorem qX4_spread_80 : decode (mB mX4_spread) 80 = .ok (.iconst 0, 1) := by decide +kernel
theorem qX4_spread_81 : decode (mB mX4_spread) 81 = .ok (.goto 6, 3) := by decide +kernel
theorem qX4_spread_84 : decode (mB mX4_spread) 84 = .ok (.iload_n 1, 1) := by decide +kernel
theorem qX4_spread_85 : decode (mB mX4_spread) 85 = .ok (.iload_n 2, 1) := by decide +kernel
theorem qX4_spread_86 : decode (mB mX4_spread) 86 = .ok (.isub, 1) := by decide +kernel
theorem qX4_spread_87 : decode (mB mX4_spread) 87 = .ok (.ireturn, 1) := by decide +kernel
theorem qX4_startDraft_0 : decode (mB mX4_startDraft) 0 = .ok (.iconst 0, 1) := by decide +kernel
theorem qX4_startDraft_1 : decode (mB mX4_startDraft) 1 = .ok (.istore_n 1, 1) := by decide +kernel
theorem qX4_startDraft_2 : decode (mB mX4_startDraft) 2 = .ok (.iload_n 1, 1) := by decide +kernel
theorem qX4_startDraft_3 : decode (mB mX4_startDraft) 3 = .ok (.sipush 210, 3) := by decide +kernel
theorem qX4_startDraft_6 : decode (mB mX4_startDraft) 6 = .ok (.if_icmp .ge 21, 3) := by decide +kernel
theorem qX4_startDraft_9 : decode (mB mX4_startDraft) 9 = .ok (.aload_n 0, 1) := by decide +kernel
theorem qX4_startDraft_10 : decode (mB mX4_startDraft) 10 = .ok (.getfield 21, 3) := by decide +kernel
theorem qX4_startDraft_13 : decode (mB mX4_startDraft) 13 = .ok (.iload_n 1, 1) := by decide +kernel
theorem qX4_startDraft_14 : decode (mB mX4_startDraft) 14 = .ok (.aload_n 0, 1) := by decide +kernel
theorem qX4_startDraft_15 : decode (mB mX4_startDraft) 15 = .ok (.getfield 17, 3) := by decide +kernel
theorem qX4_startDraft_18 : decode (mB mX4_startDraft) 18 = .ok (.iload_n 1, 1) := by decide +kernel
theorem qX4_startDraft_19 : decode (mB mX4_startDraft) 19 = .ok (.iaload, 1) := by decide +kernel
theorem qX4_startDraft_20 : decode (mB mX4_startDraft) 20 = .ok (.iastore, 1) := by decide +kernel
theorem qX4_startDraft_21 : decode (mB mX4_startDraft) 21 = .ok (.iinc 1 1, 3) := by decide +kernel
theorem qX4_startDraft_24 : decode (mB mX4_startDraft) 24 = .ok (.goto (-22), 3) := by decide +kernel
theorem qX4_startDraft_27 : decode (mB mX4_startDraft) 27 = .ok (.aload_n 0, 1) := by decide +kernel
theorem qX4_startDraft_28 : decode (mB mX4_startDraft) 28 = .ok (.aload_n 0, 1) := by decide +kernel
theorem qX4_startDraft_29 : decode (mB mX4_startDraft) 29 = .ok (.getfield 21, 3) := by decide +kernel
theorem qX4_startDraft_32 : decode (mB mX4_startDraft) 32 = .ok (.putfield 24, 3) := by decide +kernel
theorem qX4_startDraft_35 : decode (mB mX4_startDraft) 35 = .ok (.return_, 1) := by decide +kernel
theorem qX4_startMore_0 : decode (mB mX4_startMore) 0 = .ok (.aload_n 0, 1) := by decide +kernel
theorem qX4_startMore_1 : decode (mB mX4_startMore) 1 = .ok (.aload_n 0, 1) := by decide +kernel
theorem qX4_startMore_2 : decode (mB mX4_startMore) 2 = .ok (.getfield 24, 3) := by decide +kernel
theorem qX4_startMore_5 : decode (mB mX4_startMore) 5 = .ok (.iload_n 1, 1) := by decide +kernel
theorem qX4_startMore_6 : decode (mB mX4_startMore) 6 = .ok (.iaload, 1) := by decide +kernel
theorem qX4_startMore_7 : decode (mB mX4_startMore) 7 = .ok (.iload_n 2, 1) := by decide +kernel
theorem qX4_startMore_8 : decode (mB mX4_startMore) 8 = .ok (.if_icmp .ne 7, 3) := by decide +kernel
theorem qX4_startMore_11 : decode (mB mX4_startMore) 11 = .ok (.iconst 1, 1) := by decide +kernel
theorem qX4_startMore_12 : decode (mB mX4_startMore) 12 = .ok (.goto 4, 3) := by decide +kernel
theorem qX4_startMore_15 : decode (mB mX4_startMore) 15 = .ok (.iconst 0, 1) := by decide +kernel
theorem qX4_startMore_16 : decode (mB mX4_startMore) 16 = .ok (.iconst 5, 1) := by decide +kernel
theorem qX4_startMore_17 : decode (mB mX4_startMore) 17 = .ok (.invokevirtual 283, 3) := by decide +kernel
theorem qX4_startMore_20 : decode (mB mX4_startMore) 20 = .ok (.aload_n 0, 1) := by decide +kernel
theorem qX4_startMore_21 : decode (mB mX4_startMore) 21 = .ok (.invokevirtual 269, 3) := by decide +kernel
theorem qX4_startMore_24 : decode (mB mX4_startMore) 24 = .ok (.ifCond .eq 7, 3) := by decide +kernel
theorem qX4_startMore_27 : decode (mB mX4_startMore) 27 = .ok (.aload_n 0, 1) := by decide +kernel
theorem qX4_startMore_28 : decode (mB mX4_startMore) 28 = .ok (.invokevirtual 253, 3) := by decide +kernel
theorem qX4_startMore_31 : decode (mB mX4_startMore) 31 = .ok (.aload_n 0, 1) := by decide +kernel
theorem qX4_startMore_32 : decode (mB mX4_startMore) 32 = .ok (.invokevirtual 269, 3) := by decide +kernel
theorem qX4_startMore_35 : decode (mB mX4_startMore) 35 = .ok (.ireturn, 1) := by decide +kernel
theorem qX4_startText_0 : decode (mB mX4_startText) 0 = .ok (.aload_n 0, 1) := by decide +kernel
theorem qX4_startText_1 : decode (mB mX4_startText) 1 = .ok (.iconst 0, 1) := by decide +kernel
theorem qX4_startText_2 : decode (mB mX4_startText) 2 = .ok (.putfield 217, 3) := by decide +kernel
theorem qX4_startText_5 : decode (mB mX4_startText) 5 = .ok (.aload_n 0, 1) := by decide +kernel
theorem qX4_startText_6 : decode (mB mX4_startText) 6 = .ok (.iconst 0, 1) := by decide +kernel
theorem qX4_startText_7 : decode (mB mX4_startText) 7 = .ok (.putfield 250, 3) := by decide +kernel
theorem qX4_startText_10 : decode (mB mX4_startText) 10 = .ok (.aload_n 0, 1) := by decide +kernel
theorem qX4_startText_11 : decode (mB mX4_startText) 11 = .ok (.invokevirtual 253, 3) := by decide +kernel
theorem qX4_startText_14 : decode (mB mX4_startText) 14 = .ok (.return_, 1) := by decide +kernel
theorem qX4_store_0 : decode (mB mX4_store) 0 = .ok (.bipush 24, 2) := by decide +kernel
theorem qX4_store_2 : decode (mB mX4_store) 2 = .ok (.istore_n 2, 1) := by decide +kernel
theorem qX4_store_3 : decode (mB mX4_store) 3 = .ok (.iload_n 2, 1) := by decide +kernel
theorem qX4_store_4 : decode (mB mX4_store) 4 = .ok (.ifCond .lt 32, 3) := by decide +kernel
theorem qX4_store_7 : decode (mB mX4_store) 7 = .ok (.aload_n 0, 1) := by decide +kernel
theorem qX4_store_8 : decode (mB mX4_store) 8 = .ok (.getfield 27, 3) := by decide +kernel
theorem qX4_store_11 : decode (mB mX4_store) 11 = .ok (.aload_n 0, 1) := by decide +kernel
theorem qX4_store_12 : decode (mB mX4_store) 12 = .ok (.getfield 214, 3) := by decide +kernel
theorem qX4_store_15 : decode (mB mX4_store) 15 = .ok (.iload_n 1, 1) := by decide +kernel
theorem qX4_store_16 : decode (mB mX4_store) 16 = .ok (.iload_n 2, 1) := by decide +kernel
theorem qX4_store_17 : decode (mB mX4_store) 17 = .ok (.ishr, 1) := by decide +kernel
theorem qX4_store_18 : decode (mB mX4_store) 18 = .ok (.i2b, 1) := by decide +kernel
theorem qX4_store_19 : decode (mB mX4_store) 19 = .ok (.bastore, 1) := by decide +kernel
theorem qX4_store_20 : decode (mB mX4_store) 20 = .ok (.aload_n 0, 1) := by decide +kernel
theorem qX4_store_21 : decode (mB mX4_store) 21 = .ok (.dup, 1) := by decide +kernel
theorem qX4_store_22 : decode (mB mX4_store) 22 = .ok (.getfield 214, 3) := by decide +kernel
theorem qX4_store_25 : decode (mB mX4_store) 25 = .ok (.iconst 1, 1) := by decide +kernel
theorem qX4_store_26 : decode (mB mX4_store) 26 = .ok (.iadd, 1) := by decide +kernel
theorem qX4_store_27 : decode (mB mX4_store) 27 = .ok (.putfield 214, 3) := by decide +kernel
theorem qX4_store_30 : decode (mB mX4_store) 30 = .ok (.iinc 2 (-8), 3) := by decide +kernel
theorem qX4_store_33 : decode (mB mX4_store) 33 = .ok (.goto (-30), 3) := by decide +kernel
theorem qX4_store_36 : decode (mB mX4_store) 36 = .ok (.return_, 1) := by decide +kernel
theorem qX4_surroundingsOf_0 : decode (mB mX4_surroundingsOf) 0 = .ok (.aload_n 0, 1) := by decide +kernel
theorem qX4_surroundingsOf_1 : decode (mB mX4_surroundingsOf) 1 = .ok (.aload_n 0, 1) := by decide +kernel
theorem qX4_surroundingsOf_2 : decode (mB mX4_surroundingsOf) 2 = .ok (.iload_n 1, 1) := by decide +kernel
theorem qX4_surroundingsOf_3 : decode (mB mX4_surroundingsOf) 3 = .ok (.invokevirtual 396, 3) := by decide +kernel
theorem qX4_surroundingsOf_6 : decode (mB mX4_surroundingsOf) 6 = .ok (.invokevirtual 371, 3) := by decide +kernel
theorem qX4_surroundingsOf_9 : decode (mB mX4_surroundingsOf) 9 = .ok (.ifCond .eq 11, 3) := by decide +kernel
theorem qX4_surroundingsOf_12 : decode (mB mX4_surroundingsOf) 12 = .ok (.aload_n 0, 1) := by decide +kernel
theorem qX4_surroundingsOf_13 : decode (mB mX4_surroundingsOf) 13 = .ok (.iload_n 1, 1) := by decide +kernel
theorem qX4_surroundingsOf_14 : decode (mB mX4_surroundingsOf) 14 = .ok (.invokevirtual 169, 3) := by decide +kernel
theorem qX4_surroundingsOf_17 : decode (mB mX4_surroundingsOf) 17 = .ok (.goto 4, 3) := by decide +kernel
theorem qX4_surroundingsOf_20 : decode (mB mX4_surroundingsOf) 20 = .ok (.iconst 0, 1) := by decide +kernel
theorem qX4_surroundingsOf_21 : decode (mB mX4_surroundingsOf) 21 = .ok (.ireturn, 1) := by decide +kernel
theorem qX4_takeDegrees_0 : decode (mB mX4_takeDegrees) 0 = .ok (.aload_n 0, 1) := by decide +kernel
theorem qX4_takeDegrees_1 : decode (mB mX4_takeDegrees) 1 = .ok (.invokevirtual 269, 3) := by decide +kernel
theorem qX4_takeDegrees_4 : decode (mB mX4_takeDegrees) 4 = .ok (.ifCond .eq 33, 3) := by decide +kernel
theorem qX4_takeDegrees_7 : decode (mB mX4_takeDegrees) 7 = .ok (.aload_n 0, 1) := by decide +kernel
theorem qX4_takeDegrees_8 : decode (mB mX4_takeDegrees) 8 = .ok (.getfield 235, 3) := by decide +kernel
theorem qX4_takeDegrees_11 : decode (mB mX4_takeDegrees) 11 = .ok (.iconst 3, 1) := by decide +kernel
theorem qX4_takeDegrees_12 : decode (mB mX4_takeDegrees) 12 = .ok (.if_icmp .ne 25, 3) := by decide +kernel
theorem qX4_takeDegrees_15 : decode (mB mX4_takeDegrees) 15 = .ok (.aload_n 0, 1) := by decide +kernel
theorem qX4_takeDegrees_16 : decode (mB mX4_takeDegrees) 16 = .ok (.getfield 232, 3) := by decide +kernel
theorem qX4_takeDegrees_19 : decode (mB mX4_takeDegrees) 19 = .ok (.bipush 45, 2) := by decide +kernel
theorem qX4_takeDegrees_21 : decode (mB mX4_takeDegrees) 21 = .ok (.if_icmp .ne 16, 3) := by decide +kernel
theorem qX4_takeDegrees_24 : decode (mB mX4_takeDegrees) 24 = .ok (.aload_n 0, 1) := by decide +kernel
theorem qX4_takeDegrees_25 : decode (mB mX4_takeDegrees) 25 = .ok (.invokevirtual 253, 3) := by decide +kernel
theorem qX4_takeDegrees_28 : decode (mB mX4_takeDegrees) 28 = .ok (.aload_n 0, 1) := by decide +kernel
theorem qX4_takeDegrees_29 : decode (mB mX4_takeDegrees) 29 = .ok (.iconst 0, 1) := by decide +kernel
theorem qX4_takeDegrees_30 : decode (mB mX4_takeDegrees) 30 = .ok (.bipush 20, 2) := by decide +kernel
theorem qX4_takeDegrees_32 : decode (mB mX4_takeDegrees) 32 = .ok (.invokevirtual 280, 3) := by decide +kernel
theorem qX4_takeDegrees_35 : decode (mB mX4_takeDegrees) 35 = .ok (.ineg, 1) := by decide +kernel
theorem qX4_takeDegrees_36 : decode (mB mX4_takeDegrees) 36 = .ok (.ireturn, 1) := by decide +kernel
theorem qX4_takeDegrees_37 : decode (mB mX4_takeDegrees) 37 = .ok (.aload_n 0, 1) := by decide +kernel
theorem qX4_takeDegrees_38 : decode (mB mX4_takeDegrees) 38 = .ok (.iconst 0, 1) := by decide +kernel
theorem qX4_takeDegrees_39 : decode (mB mX4_takeDegrees) 39 = .ok (.sipush 150, 3) := by decide +kernel
theorem qX4_takeDegrees_42 : decode (mB mX4_takeDegrees) 42 = .ok (.invokevirtual 280, 3) := by decide +kernel
theorem qX4_takeDegrees_45 : decode (mB mX4_takeDegrees) 45 = .ok (.ireturn, 1) := by decide +kernel
theorem qX4_takeEnd_0 : decode (mB mX4_takeEnd) 0 = .ok (.aload_n 0, 1) := by decide +kernel
theorem qX4_takeEnd_1 : decode (mB mX4_takeEnd) 1 = .ok (.invokevirtual 269, 3) := by decide +kernel
theorem qX4_takeEnd_4 : decode (mB mX4_takeEnd) 4 = .ok (.ifCond .ne 4, 3) := by decide +kernel
theorem qX4_takeEnd_7 : decode (mB mX4_takeEnd) 7 = .ok (.return_, 1) := by decide +kernel
theorem qX4_takeEnd_8 : decode (mB mX4_takeEnd) 8 = .ok (.aload_n 0, 1) := by decide +kernel
theorem qX4_takeEnd_9 : decode (mB mX4_takeEnd) 9 = .ok (.getfield 235, 3) := by decide +kernel
theorem qX4_takeEnd_12 : decode (mB mX4_takeEnd) 12 = .ok (.iconst 3, 1) := by decide +kernel
theorem qX4_takeEnd_13 : decode (mB mX4_takeEnd) 13 = .ok (.if_icmp .ne 12, 3) := by decide +kernel
theorem qX4_takeEnd_16 : decode (mB mX4_takeEnd) 16 = .ok (.aload_n 0, 1) := by decide +kernel
theorem qX4_takeEnd_17 : decode (mB mX4_takeEnd) 17 = .ok (.getfield 232, 3) := by decide +kernel
theorem qX4_takeEnd_20 : decode (mB mX4_takeEnd) 20 = .ok (.bipush 59, 2) := by decide +kernel
theorem qX4_takeEnd_22 : decode (mB mX4_takeEnd) 22 = .ok (.if_icmp .eq 8, 3) := by decide +kernel
theorem qX4_takeEnd_25 : decode (mB mX4_takeEnd) 25 = .ok (.aload_n 0, 1) := by decide +kernel
theorem qX4_takeEnd_26 : decode (mB mX4_takeEnd) 26 = .ok (.iconst 1, 1) := by decide +kernel
theorem qX4_takeEnd_27 : decode (mB mX4_takeEnd) 27 = .ok (.invokevirtual 273, 3) := by decide +kernel
theorem qX4_takeEnd_30 : decode (mB mX4_takeEnd) 30 = .ok (.aload_n 0, 1) := by decide +kernel
theorem qX4_takeEnd_31 : decode (mB mX4_takeEnd) 31 = .ok (.iload_n 1, 1) := by decide +kernel
theorem qX4_takeEnd_32 : decode (mB mX4_takeEnd) 32 = .ok (.bipush 6, 2) := by decide +kernel
theorem qX4_takeEnd_34 : decode (mB mX4_takeEnd) 34 = .ok (.invokevirtual 283, 3) := by decide +kernel
theorem qX4_takeEnd_37 : decode (mB mX4_takeEnd) 37 = .ok (.aload_n 0, 1) := by decide +kernel
theorem qX4_takeEnd_38 : decode (mB mX4_takeEnd) 38 = .ok (.invokevirtual 269, 3) := by decide +kernel
theorem qX4_takeEnd_41 : decode (mB mX4_takeEnd) 41 = .ok (.ifCond .eq 7, 3) := by decide +kernel
theorem qX4_takeEnd_44 : decode (mB mX4_takeEnd) 44 = .ok (.aload_n 0, 1) := by decide +kernel
theorem qX4_takeEnd_45 : decode (mB mX4_takeEnd) 45 = .ok (.invokevirtual 253, 3) := by decide +kernel
theorem qX4_takeEnd_48 : decode (mB mX4_takeEnd) 48 = .ok (.return_, 1) := by decide +kernel
theorem qX4_takeNamed_0 : decode (mB mX4_takeNamed) 0 = .ok (.aload_n 0, 1) := by decide +kernel
theorem qX4_takeNamed_1 : decode (mB mX4_takeNamed) 1 = .ok (.invokevirtual 269, 3) := by decide +kernel
theorem qX4_takeNamed_4 : decode (mB mX4_takeNamed) 4 = .ok (.ifCond .ne 5, 3) := by decide +kernel
theorem qX4_takeNamed_7 : decode (mB mX4_takeNamed) 7 = .ok (.iconst 0, 1) := by decide +kernel
theorem qX4_takeNamed_8 : decode (mB mX4_takeNamed) 8 = .ok (.ireturn, 1) := by decide +kernel
theorem qX4_takeNamed_9 : decode (mB mX4_takeNamed) 9 = .ok (.iload_n 1, 1) := by decide +kernel
theorem qX4_takeNamed_10 : decode (mB mX4_takeNamed) 10 = .ok (.ifCond .eq 10, 3) := by decide +kernel
theorem qX4_takeNamed_13 : decode (mB mX4_takeNamed) 13 = .ok (.aload_n 0, 1) := by decide +kernel
theorem qX4_takeNamed_14 : decode (mB mX4_takeNamed) 14 = .ok (.invokevirtual 287, 3) := by decide +kernel
theorem qX4_takeNamed_17 : decode (mB mX4_takeNamed) 17 = .ok (.goto 7, 3) := by decide +kernel
theorem qX4_takeNamed_20 : decode (mB mX4_takeNamed) 20 = .ok (.aload_n 0, 1) := by decide +kernel
theorem qX4_takeNamed_21 : decode (mB mX4_takeNamed) 21 = .ok (.invokevirtual 290, 3) := by decide +kernel
theorem qX4_takeNamed_24 : decode (mB mX4_takeNamed) 24 = .ok (.istore_n 2, 1) := by decide +kernel
theorem qX4_takeNamed_25 : decode (mB mX4_takeNamed) 25 = .ok (.aload_n 0, 1) := by decide +kernel
theorem qX4_takeNamed_26 : decode (mB mX4_takeNamed) 26 = .ok (.aload_n 0, 1) := by decide +kernel
theorem qX4_takeNamed_27 : decode (mB mX4_takeNamed) 27 = .ok (.getfield 235, 3) := by decide +kernel
theorem qX4_takeNamed_30 : decode (mB mX4_takeNamed) 30 = .ok (.iconst 1, 1) := by decide +kernel
theorem qX4_takeNamed_31 : decode (mB mX4_takeNamed) 31 = .ok (.if_icmp .eq 7, 3) := by decide +kernel
theorem qX4_takeNamed_34 : decode (mB mX4_takeNamed) 34 = .ok (.iconst 1, 1) := by decide +kernel
theorem qX4_takeNamed_35 : decode (mB mX4_takeNamed) 35 = .ok (.goto 4, 3) := by decide +kernel
theorem qX4_takeNamed_38 : decode (mB mX4_takeNamed) 38 = .ok (.iconst 0, 1) := by decide +kernel
theorem qX4_takeNamed_39 : decode (mB mX4_takeNamed) 39 = .ok (.iconst 1, 1) := by decide +kernel
theorem qX4_takeNamed_40 : decode (mB mX4_takeNamed) 40 = .ok (.invokevirtual 283, 3) := by decide +kernel
theorem qX4_takeNamed_43 : decode (mB mX4_takeNamed) 43 = .ok (.aload_n 0, 1) := by decide +kernel
theorem qX4_takeNamed_44 : decode (mB mX4_takeNamed) 44 = .ok (.iload_n 2, 1) := by decide +kernel
theorem qX4_takeNamed_45 : decode (mB mX4_takeNamed) 45 = .ok (.iconst (-1), 1) := by decide +kernel
theorem qX4_takeNamed_46 : decode (mB mX4_takeNamed) 46 = .ok (.if_icmp .ne 7, 3) := by decide +kernel
theorem qX4_takeNamed_49 : decode (mB mX4_takeNamed) 49 = .ok (.iconst 1, 1) := by decide +kernel
theorem qX4_takeNamed_50 : decode (mB mX4_takeNamed) 50 = .ok (.goto 4, 3) := by decide +kernel
theorem qX4_takeNamed_53 : decode (mB mX4_takeNamed) 53 = .ok (.iconst 0, 1) := by decide +kernel
theorem qX4_takeNamed_54 : decode (mB mX4_takeNamed) 54 = .ok (.iconst 4, 1) := by decide +kernel
theorem qX4_takeNamed_55 : decode (mB mX4_takeNamed) 55 = .ok (.invokevirtual 283, 3) := by decide +kernel
theorem qX4_takeNamed_58 : decode (mB mX4_takeNamed) 58 = .ok (.aload_n 0, 1) := by decide +kernel
theorem qX4_takeNamed_59 : decode (mB mX4_takeNamed) 59 = .ok (.invokevirtual 269, 3) := by decide +kernel
theorem qX4_takeNamed_62 : decode (mB mX4_takeNamed) 62 = .ok (.ifCond .eq 7, 3) := by decide +kernel
theorem qX4_takeNamed_65 : decode (mB mX4_takeNamed) 65 = .ok (.aload_n 0, 1) := by decide +kernel
theorem qX4_takeNamed_66 : decode (mB mX4_takeNamed) 66 = .ok (.invokevirtual 253, 3) := by decide +kernel
theorem qX4_takeNamed_69 : decode (mB mX4_takeNamed) 69 = .ok (.iconst 0, 1) := by decide +kernel
theorem qX4_takeNamed_70 : decode (mB mX4_takeNamed) 70 = .ok (.iload_n 2, 1) := by decide +kernel
theorem qX4_takeNamed_71 : decode (mB mX4_takeNamed) 71 = .ok (.invokestatic 201, 3) := by decide +kernel
theorem qX4_takeNamed_74 : decode (mB mX4_takeNamed) 74 = .ok (.ireturn, 1) := by decide +kernel
theorem qX4_takeNumber_0 : decode (mB mX4_takeNumber) 0 = .ok (.aload_n 0, 1) := by decide +kernel
theorem qX4_takeNumber_1 : decode (mB mX4_takeNumber) 1 = .ok (.invokevirtual 269, 3) := by decide +kernel
theorem qX4_takeNumber_4 : decode (mB mX4_takeNumber) 4 = .ok (.ifCond .ne 5, 3) := by decide +kernel
theorem qX4_takeNumber_7 : decode (mB mX4_takeNumber) 7 = .ok (.iload_n 1, 1) := by decide +kernel
theorem qX4_takeNumber_8 : decode (mB mX4_takeNumber) 8 = .ok (.ireturn, 1) := by decide +kernel
theorem qX4_takeNumber_9 : decode (mB mX4_takeNumber) 9 = .ok (.aload_n 0, 1) := by decide +kernel
theorem qX4_takeNumber_10 : decode (mB mX4_takeNumber) 10 = .ok (.getfield 235, 3) := by decide +kernel
theorem qX4_takeNumber_13 : decode (mB mX4_takeNumber) 13 = .ok (.iconst 2, 1) := by decide +kernel
theorem qX4_takeNumber_14 : decode (mB mX4_takeNumber) 14 = .ok (.if_icmp .eq 11, 3) := by decide +kernel
theorem qX4_takeNumber_17 : decode (mB mX4_takeNumber) 17 = .ok (.aload_n 0, 1) := by decide +kernel
theorem qX4_takeNumber_18 : decode (mB mX4_takeNumber) 18 = .ok (.iconst 1, 1) := by decide +kernel
theorem qX4_takeNumber_19 : decode (mB mX4_takeNumber) 19 = .ok (.invokevirtual 273, 3) := by decide +kernel
theorem qX4_takeNumber_22 : decode (mB mX4_takeNumber) 22 = .ok (.goto 23, 3) := by decide +kernel
theorem qX4_takeNumber_25 : decode (mB mX4_takeNumber) 25 = .ok (.aload_n 0, 1) := by decide +kernel
theorem qX4_takeNumber_26 : decode (mB mX4_takeNumber) 26 = .ok (.getfield 232, 3) := by decide +kernel
theorem qX4_takeNumber_29 : decode (mB mX4_takeNumber) 29 = .ok (.i2l, 1) := by decide +kernel
theorem qX4_takeNumber_30 : decode (mB mX4_takeNumber) 30 = .ok (.iload_n 1, 1) := by decide +kernel
theorem qX4_takeNumber_31 : decode (mB mX4_takeNumber) 31 = .ok (.i2l, 1) := by decide +kernel
theorem qX4_takeNumber_32 : decode (mB mX4_takeNumber) 32 = .ok (.iload_n 2, 1) := by decide +kernel
theorem qX4_takeNumber_33 : decode (mB mX4_takeNumber) 33 = .ok (.i2l, 1) := by decide +kernel
theorem qX4_takeNumber_34 : decode (mB mX4_takeNumber) 34 = .ok (.invokestatic 276, 3) := by decide +kernel
theorem qX4_takeNumber_37 : decode (mB mX4_takeNumber) 37 = .ok (.ifCond .ne 8, 3) := by decide +kernel
theorem qX4_takeNumber_40 : decode (mB mX4_takeNumber) 40 = .ok (.aload_n 0, 1) := by decide +kernel
theorem qX4_takeNumber_41 : decode (mB mX4_takeNumber) 41 = .ok (.iconst 2, 1) := by decide +kernel
theorem qX4_takeNumber_42 : decode (mB mX4_takeNumber) 42 = .ok (.invokevirtual 273, 3) := by decide +kernel
theorem qX4_takeNumber_45 : decode (mB mX4_takeNumber) 45 = .ok (.aload_n 0, 1) := by decide +kernel
theorem qX4_takeNumber_46 : decode (mB mX4_takeNumber) 46 = .ok (.invokevirtual 269, 3) := by decide +kernel
theorem qX4_takeNumber_49 : decode (mB mX4_takeNumber) 49 = .ok (.ifCond .eq 10, 3) := by decide +kernel
theorem qX4_takeNumber_52 : decode (mB mX4_takeNumber) 52 = .ok (.aload_n 0, 1) := by decide +kernel
theorem qX4_takeNumber_53 : decode (mB mX4_takeNumber) 53 = .ok (.getfield 232, 3) := by decide +kernel
theorem qX4_takeNumber_56 : decode (mB mX4_takeNumber) 56 = .ok (.goto 4, 3) := by decide +kernel
theorem qX4_takeNumber_59 : decode (mB mX4_takeNumber) 59 = .ok (.iload_n 1, 1) := by decide +kernel
theorem qX4_takeNumber_60 : decode (mB mX4_takeNumber) 60 = .ok (.istore_n 3, 1) := by decide +kernel
theorem qX4_takeNumber_61 : decode (mB mX4_takeNumber) 61 = .ok (.aload_n 0, 1) := by decide +kernel
theorem qX4_takeNumber_62 : decode (mB mX4_takeNumber) 62 = .ok (.invokevirtual 269, 3) := by decide +kernel
theorem qX4_takeNumber_65 : decode (mB mX4_takeNumber) 65 = .ok (.ifCond .eq 7, 3) := by decide +kernel
theorem qX4_takeNumber_68 : decode (mB mX4_takeNumber) 68 = .ok (.aload_n 0, 1) := by decide +kernel
theorem qX4_takeNumber_69 : decode (mB mX4_takeNumber) 69 = .ok (.invokevirtual 253, 3) := by decide +kernel
theorem qX4_takeNumber_72 : decode (mB mX4_takeNumber) 72 = .ok (.iload_n 3, 1) := by decide +kernel
theorem qX4_takeNumber_73 : decode (mB mX4_takeNumber) 73 = .ok (.ireturn, 1) := by decide +kernel
theorem qX4_takeTube_0 : decode (mB mX4_takeTube) 0 = .ok (.aload_n 0, 1) := by decide +kernel
theorem qX4_takeTube_1 : decode (mB mX4_takeTube) 1 = .ok (.iconst 0, 1) := by decide +kernel
theorem qX4_takeTube_2 : decode (mB mX4_takeTube) 2 = .ok (.aload_n 0, 1) := by decide +kernel
theorem qX4_takeTube_3 : decode (mB mX4_takeTube) 3 = .ok (.getfield 24, 3) := by decide +kernel
theorem qX4_takeTube_6 : decode (mB mX4_takeTube) 6 = .ok (.iconst 5, 1) := by decide +kernel
theorem qX4_takeTube_7 : decode (mB mX4_takeTube) 7 = .ok (.iaload, 1) := by decide +kernel
theorem qX4_takeTube_8 : decode (mB mX4_takeTube) 8 = .ok (.iconst 1, 1) := by decide +kernel
theorem qX4_takeTube_9 : decode (mB mX4_takeTube) 9 = .ok (.isub, 1) := by decide +kernel
theorem qX4_takeTube_10 : decode (mB mX4_takeTube) 10 = .ok (.invokevirtual 280, 3) := by decide +kernel
theorem qX4_takeTube_13 : decode (mB mX4_takeTube) 13 = .ok (.ireturn, 1) := by decide +kernel
theorem qX4_tallestTube_0 : decode (mB mX4_tallestTube) 0 = .ok (.aload_n 0, 1) := by decide +kernel
theorem qX4_tallestTube_1 : decode (mB mX4_tallestTube) 1 = .ok (.iconst 0, 1) := by decide +kernel
theorem qX4_tallestTube_2 : decode (mB mX4_tallestTube) 2 = .ok (.putfield 3, 3) := by decide +kernel
theorem qX4_tallestTube_5 : decode (mB mX4_tallestTube) 5 = .ok (.iconst (-1), 1) := by decide +kernel
theorem qX4_tallestTube_6 : decode (mB mX4_tallestTube) 6 = .ok (.istore_n 1, 1) := by decide +kernel
theorem qX4_tallestTube_7 : decode (mB mX4_tallestTube) 7 = .ok (.iconst 0, 1) := by decide +kernel
theorem qX4_tallestTube_8 : decode (mB mX4_tallestTube) 8 = .ok (.istore_n 2, 1) := by decide +kernel
theorem qX4_tallestTube_9 : decode (mB mX4_tallestTube) 9 = .ok (.iload_n 2, 1) := by decide +kernel
theorem qX4_tallestTube_10 : decode (mB mX4_tallestTube) 10 = .ok (.aload_n 0, 1) := by decide +kernel
theorem qX4_tallestTube_11 : decode (mB mX4_tallestTube) 11 = .ok (.getfield 17, 3) := by decide +kernel
theorem qX4_tallestTube_14 : decode (mB mX4_tallestTube) 14 = .ok (.iconst 5, 1) := by decide +kernel
theorem qX4_tallestTube_15 : decode (mB mX4_tallestTube) 15 = .ok (.iaload, 1) := by decide +kernel
theorem qX4_tallestTube_16 : decode (mB mX4_tallestTube) 16 = .ok (.if_icmp .ge 33, 3) := by decide +kernel
theorem qX4_tallestTube_19 : decode (mB mX4_tallestTube) 19 = .ok (.iload_n 1, 1) := by decide +kernel
theorem qX4_tallestTube_20 : decode (mB mX4_tallestTube) 20 = .ok (.iconst (-1), 1) := by decide +kernel
theorem qX4_tallestTube_21 : decode (mB mX4_tallestTube) 21 = .ok (.if_icmp .eq 16, 3) := by decide +kernel
theorem qX4_tallestTube_24 : decode (mB mX4_tallestTube) 24 = .ok (.aload_n 0, 1) := by decide +kernel
theorem qX4_tallestTube_25 : decode (mB mX4_tallestTube) 25 = .ok (.iload_n 2, 1) := by decide +kernel
theorem qX4_tallestTube_26 : decode (mB mX4_tallestTube) 26 = .ok (.invokevirtual 186, 3) := by decide +kernel
theorem qX4_tallestTube_29 : decode (mB mX4_tallestTube) 29 = .ok (.aload_n 0, 1) := by decide +kernel
theorem qX4_tallestTube_30 : decode (mB mX4_tallestTube) 30 = .ok (.iload_n 1, 1) := by decide +kernel
theorem qX4_tallestTube_31 : decode (mB mX4_tallestTube) 31 = .ok (.invokevirtual 186, 3) := by decide +kernel
theorem qX4_tallestTube_34 : decode (mB mX4_tallestTube) 34 = .ok (.if_icmp .le 7, 3) := by decide +kernel
theorem qX4_tallestTube_37 : decode (mB mX4_tallestTube) 37 = .ok (.iload_n 2, 1) := by decide +kernel
theorem qX4_tallestTube_38 : decode (mB mX4_tallestTube) 38 = .ok (.goto 4, 3) := by decide +kernel
theorem qX4_tallestTube_41 : decode (mB mX4_tallestTube) 41 = .ok (.iload_n 1, 1) := by decide +kernel
theorem qX4_tallestTube_42 : decode (mB mX4_tallestTube) 42 = .ok (.istore_n 1, 1) := by decide +kernel
theorem qX4_tallestTube_43 : decode (mB mX4_tallestTube) 43 = .ok (.iinc 2 1, 3) := by decide +kernel
theorem qX4_tallestTube_46 : decode (mB mX4_tallestTube) 46 = .ok (.goto (-37), 3) := by decide +kernel
theorem qX4_tallestTube_49 : decode (mB mX4_tallestTube) 49 = .ok (.iload_n 1, 1) := by decide +kernel
theorem qX4_tallestTube_50 : decode (mB mX4_tallestTube) 50 = .ok (.ireturn, 1) := by decide +kernel
theorem qX4_tell_0 : decode (mB mX4_tell) 0 = .ok (.aload_n 0, 1) := by decide +kernel
theorem qX4_tell_1 : decode (mB mX4_tell) 1 = .ok (.iconst 0, 1) := by decide +kernel
theorem qX4_tell_2 : decode (mB mX4_tell) 2 = .ok (.putfield 3, 3) := by decide +kernel
theorem qX4_tell_5 : decode (mB mX4_tell) 5 = .ok (.aload_n 0, 1) := by decide +kernel
theorem qX4_tell_6 : decode (mB mX4_tell) 6 = .ok (.getfield 17, 3) := by decide +kernel
theorem qX4_tell_9 : decode (mB mX4_tell) 9 = .ok (.iload_n 1, 1) := by decide +kernel
theorem qX4_tell_10 : decode (mB mX4_tell) 10 = .ok (.iaload, 1) := by decide +kernel
theorem qX4_tell_11 : decode (mB mX4_tell) 11 = .ok (.ireturn, 1) := by decide +kernel
theorem qX4_tellTube_0 : decode (mB mX4_tellTube) 0 = .ok (.aload_n 0, 1) := by decide +kernel
theorem qX4_tellTube_1 : decode (mB mX4_tellTube) 1 = .ok (.aload_n 0, 1) := by decide +kernel
theorem qX4_tellTube_2 : decode (mB mX4_tellTube) 2 = .ok (.iload_n 1, 1) := by decide +kernel
theorem qX4_tellTube_3 : decode (mB mX4_tellTube) 3 = .ok (.invokevirtual 396, 3) := by decide +kernel
theorem qX4_tellTube_6 : decode (mB mX4_tellTube) 6 = .ok (.invokevirtual 371, 3) := by decide +kernel
theorem qX4_tellTube_9 : decode (mB mX4_tellTube) 9 = .ok (.ifCond .eq 12, 3) := by decide +kernel
theorem qX4_tellTube_12 : decode (mB mX4_tellTube) 12 = .ok (.aload_n 0, 1) := by decide +kernel
theorem qX4_tellTube_13 : decode (mB mX4_tellTube) 13 = .ok (.iload_n 1, 1) := by decide +kernel
theorem qX4_tellTube_14 : decode (mB mX4_tellTube) 14 = .ok (.iload_n 2, 1) := by decide +kernel
theorem qX4_tellTube_15 : decode (mB mX4_tellTube) 15 = .ok (.invokevirtual 148, 3) := by decide +kernel
theorem qX4_tellTube_18 : decode (mB mX4_tellTube) 18 = .ok (.goto 4, 3) := by decide +kernel
theorem qX4_tellTube_21 : decode (mB mX4_tellTube) 21 = .ok (.iconst 0, 1) := by decide +kernel
theorem qX4_tellTube_22 : decode (mB mX4_tellTube) 22 = .ok (.ireturn, 1) := by decide +kernel
theorem qX4_tells_0 : decode (mB mX4_tells) 0 = .ok (.aload_n 0, 1) := by decide +kernel
theorem qX4_tells_1 : decode (mB mX4_tells) 1 = .ok (.iload_n 1, 1) := by decide +kernel
theorem qX4_tells_2 : decode (mB mX4_tells) 2 = .ok (.iconst 1, 1) := by decide +kernel
theorem qX4_tells_3 : decode (mB mX4_tells) 3 = .ok (.invokevirtual 192, 3) := by decide +kernel
theorem qX4_tells_6 : decode (mB mX4_tells) 6 = .ok (.istore_n 3, 1) := by decide +kernel
theorem qX4_tells_7 : decode (mB mX4_tells) 7 = .ok (.aload_n 0, 1) := by decide +kernel
theorem qX4_tells_8 : decode (mB mX4_tells) 8 = .ok (.iload_n 1, 1) := by decide +kernel
theorem qX4_tells_9 : decode (mB mX4_tells) 9 = .ok (.iconst (-1), 1) := by decide +kernel
theorem qX4_tells_10 : decode (mB mX4_tells) 10 = .ok (.invokevirtual 192, 3) := by decide +kernel
theorem qX4_tells_13 : decode (mB mX4_tells) 13 = .ok (.istore 4, 2) := by decide +kernel
theorem qX4_tells_15 : decode (mB mX4_tells) 15 = .ok (.bipush 10, 2) := by decide +kernel
theorem qX4_tells_17 : decode (mB mX4_tells) 17 = .ok (.aload_n 0, 1) := by decide +kernel
theorem qX4_tells_18 : decode (mB mX4_tells) 18 = .ok (.iload_n 1, 1) := by decide +kernel
theorem qX4_tells_19 : decode (mB mX4_tells) 19 = .ok (.iload 4, 2) := by decide +kernel
theorem qX4_tells_21 : decode (mB mX4_tells) 21 = .ok (.invokevirtual 172, 3) := by decide +kernel
theorem qX4_tells_24 : decode (mB mX4_tells) 24 = .ok (.aload_n 0, 1) := by decide +kernel
theorem qX4_tells_25 : decode (mB mX4_tells) 25 = .ok (.iload_n 1, 1) := by decide +kernel
theorem qX4_tells_26 : decode (mB mX4_tells) 26 = .ok (.iload_n 3, 1) := by decide +kernel
theorem qX4_tells_27 : decode (mB mX4_tells) 27 = .ok (.invokevirtual 172, 3) := by decide +kernel
theorem qX4_tells_30 : decode (mB mX4_tells) 30 = .ok (.isub, 1) := by decide +kernel
theorem qX4_tells_31 : decode (mB mX4_tells) 31 = .ok (.imul, 1) := by decide +kernel
theorem qX4_tells_32 : decode (mB mX4_tells) 32 = .ok (.iload_n 2, 1) := by decide +kernel
theorem qX4_tells_33 : decode (mB mX4_tells) 33 = .ok (.aload_n 0, 1) := by decide +kernel
theorem qX4_tells_34 : decode (mB mX4_tells) 34 = .ok (.iload_n 1, 1) := by decide +kernel
theorem qX4_tells_35 : decode (mB mX4_tells) 35 = .ok (.iload_n 3, 1) := by decide +kernel
theorem qX4_tells_36 : decode (mB mX4_tells) 36 = .ok (.invokevirtual 175, 3) := by decide +kernel
theorem qX4_tells_39 : decode (mB mX4_tells) 39 = .ok (.isub, 1) := by decide +kernel
theorem qX4_tells_40 : decode (mB mX4_tells) 40 = .ok (.imul, 1) := by decide +kernel
theorem qX4_tells_41 : decode (mB mX4_tells) 41 = .ok (.istore 5, 2) := by decide +kernel
theorem qX4_tells_43 : decode (mB mX4_tells) 43 = .ok (.bipush 10, 2) := by decide +kernel
theorem qX4_tells_45 : decode (mB mX4_tells) 45 = .ok (.aload_n 0, 1) := by decide +kernel
theorem qX4_tells_46 : decode (mB mX4_tells) 46 = .ok (.iload_n 1, 1) := by decide +kernel
theorem qX4_tells_47 : decode (mB mX4_tells) 47 = .ok (.iload_n 3, 1) := by decide +kernel
theorem qX4_tells_48 : decode (mB mX4_tells) 48 = .ok (.invokevirtual 172, 3) := by decide +kernel
theorem qX4_tells_51 : decode (mB mX4_tells) 51 = .ok (.imul, 1) := by decide +kernel
theorem qX4_tells_52 : decode (mB mX4_tells) 52 = .ok (.iload 5, 2) := by decide +kernel
theorem qX4_tells_54 : decode (mB mX4_tells) 54 = .ok (.aload_n 0, 1) := by decide +kernel
theorem qX4_tells_55 : decode (mB mX4_tells) 55 = .ok (.iload_n 1, 1) := by decide +kernel
theorem qX4_tells_56 : decode (mB mX4_tells) 56 = .ok (.iload 4, 2) := by decide +kernel
theorem qX4_tells_58 : decode (mB mX4_tells) 58 = .ok (.invokevirtual 175, 3) := by decide +kernel
theorem qX4_tells_61 : decode (mB mX4_tells) 61 = .ok (.aload_n 0, 1) := by decide +kernel
theorem qX4_tells_62 : decode (mB mX4_tells) 62 = .ok (.iload_n 1, 1) := by decide +kernel
theorem qX4_tells_63 : decode (mB mX4_tells) 63 = .ok (.iload_n 3, 1) := by decide +kernel
theorem qX4_tells_64 : decode (mB mX4_tells) 64 = .ok (.invokevirtual 175, 3) := by decide +kernel
theorem qX4_tells_67 : decode (mB mX4_tells) 67 = .ok (.isub, 1) := by decide +kernel
theorem qX4_tells_68 : decode (mB mX4_tells) 68 = .ok (.idiv, 1) := by decide +kernel
theorem qX4_tells_69 : decode (mB mX4_tells) 69 = .ok (.iadd, 1) := by decide +kernel
theorem qX4_tells_70 : decode (mB mX4_tells) 70 = .ok (.ireturn, 1) := by decide +kernel
theorem qX4_temperatureAfter_0 : decode (mB mX4_temperatureAfter) 0 = .ok (.aload_n 0, 1) := by decide +kernel
theorem qX4_temperatureAfter_1 : decode (mB mX4_temperatureAfter) 1 = .ok (.aload_n 0, 1) := by decide +kernel
theorem qX4_temperatureAfter_2 : decode (mB mX4_temperatureAfter) 2 = .ok (.iload_n 1, 1) := by decide +kernel
theorem qX4_temperatureAfter_3 : decode (mB mX4_temperatureAfter) 3 = .ok (.invokevirtual 396, 3) := by decide +kernel
theorem qX4_temperatureAfter_6 : decode (mB mX4_temperatureAfter) 6 = .ok (.iload_n 2, 1) := by decide +kernel
theorem qX4_temperatureAfter_7 : decode (mB mX4_temperatureAfter) 7 = .ok (.invokestatic 442, 3) := by decide +kernel
theorem qX4_temperatureAfter_10 : decode (mB mX4_temperatureAfter) 10 = .ok (.invokevirtual 409, 3) := by decide +kernel
theorem qX4_temperatureAfter_13 : decode (mB mX4_temperatureAfter) 13 = .ok (.ifCond .ne 5, 3) := by decide +kernel
theorem qX4_temperatureAfter_16 : decode (mB mX4_temperatureAfter) 16 = .ok (.iconst 0, 1) := by decide +kernel
theorem qX4_temperatureAfter_17 : decode (mB mX4_temperatureAfter) 17 = .ok (.ireturn, 1) := by decide +kernel
theorem qX4_temperatureAfter_18 : decode (mB mX4_temperatureAfter) 18 = .ok (.aload_n 0, 1) := by decide +kernel
theorem qX4_temperatureAfter_19 : decode (mB mX4_temperatureAfter) 19 = .ok (.invokevirtual 445, 3) := by decide +kernel
theorem qX4_temperatureAfter_22 : decode (mB mX4_temperatureAfter) 22 = .ok (.aload_n 0, 1) := by decide +kernel
theorem qX4_temperatureAfter_23 : decode (mB mX4_temperatureAfter) 23 = .ok (.iload_n 2, 1) := by decide +kernel
theorem qX4_temperatureAfter_24 : decode (mB mX4_temperatureAfter) 24 = .ok (.invokevirtual 140, 3) := by decide +kernel
theorem qX4_temperatureAfter_27 : decode (mB mX4_temperatureAfter) 27 = .ok (.aload_n 0, 1) := by decide +kernel
theorem qX4_temperatureAfter_28 : decode (mB mX4_temperatureAfter) 28 = .ok (.aload_n 0, 1) := by decide +kernel
theorem qX4_temperatureAfter_29 : decode (mB mX4_temperatureAfter) 29 = .ok (.iload_n 1, 1) := by decide +kernel
theorem qX4_temperatureAfter_30 : decode (mB mX4_temperatureAfter) 30 = .ok (.iconst 5, 1) := by decide +kernel
theorem qX4_temperatureAfter_31 : decode (mB mX4_temperatureAfter) 31 = .ok (.invokevirtual 148, 3) := by decide +kernel
theorem qX4_temperatureAfter_34 : decode (mB mX4_temperatureAfter) 34 = .ok (.invokevirtual 448, 3) := by decide +kernel
theorem qX4_temperatureAfter_37 : decode (mB mX4_temperatureAfter) 37 = .ok (.ireturn, 1) := by decide +kernel
theorem qX4_temperatureOf_0 : decode (mB mX4_temperatureOf) 0 = .ok (.aload_n 0, 1) := by decide +kernel
theorem qX4_temperatureOf_1 : decode (mB mX4_temperatureOf) 1 = .ok (.iload_n 1, 1) := by decide +kernel
theorem qX4_temperatureOf_2 : decode (mB mX4_temperatureOf) 2 = .ok (.iconst 5, 1) := by decide +kernel
theorem qX4_temperatureOf_3 : decode (mB mX4_temperatureOf) 3 = .ok (.invokevirtual 399, 3) := by decide +kernel
theorem qX4_temperatureOf_6 : decode (mB mX4_temperatureOf) 6 = .ok (.ireturn, 1) := by decide +kernel
theorem qX4_thrown_0 : decode (mB mX4_thrown) 0 = .ok (.aload_n 0, 1) := by decide +kernel
theorem qX4_thrown_1 : decode (mB mX4_thrown) 1 = .ok (.getfield 3, 3) := by decide +kernel
theorem qX4_thrown_4 : decode (mB mX4_thrown) 4 = .ok (.ireturn, 1) := by decide +kernel
theorem qX4_thumbLeft_0 : decode (mB mX4_thumbLeft) 0 = .ok (.aload_n 0, 1) := by decide +kernel
theorem qX4_thumbLeft_1 : decode (mB mX4_thumbLeft) 1 = .ok (.bipush 7, 2) := by decide +kernel
theorem qX4_thumbLeft_3 : decode (mB mX4_thumbLeft) 3 = .ok (.invokevirtual 387, 3) := by decide +kernel
theorem qX4_thumbLeft_6 : decode (mB mX4_thumbLeft) 6 = .ok (.ireturn, 1) := by decide +kernel
theorem qX4_thumbedTube_0 : decode (mB mX4_thumbedTube) 0 = .ok (.aload_n 0, 1) := by decide +kernel
theorem qX4_thumbedTube_1 : decode (mB mX4_thumbedTube) 1 = .ok (.bipush 6, 2) := by decide +kernel
theorem qX4_thumbedTube_3 : decode (mB mX4_thumbedTube) 3 = .ok (.invokevirtual 387, 3) := by decide +kernel
theorem qX4_thumbedTube_6 : decode (mB mX4_thumbedTube) 6 = .ok (.ireturn, 1) := by decide +kernel
theorem qX4_topUp_0 : decode (mB mX4_topUp) 0 = .ok (.aload_n 0, 1) := by decide +kernel
theorem qX4_topUp_1 : decode (mB mX4_topUp) 1 = .ok (.iload_n 1, 1) := by decide +kernel
theorem qX4_topUp_2 : decode (mB mX4_topUp) 2 = .ok (.invokevirtual 396, 3) := by decide +kernel
theorem qX4_topUp_5 : decode (mB mX4_topUp) 5 = .ok (.istore_n 3, 1) := by decide +kernel
theorem qX4_topUp_6 : decode (mB mX4_topUp) 6 = .ok (.iload_n 2, 1) := by decide +kernel
theorem qX4_topUp_7 : decode (mB mX4_topUp) 7 = .ok (.i2l, 1) := by decide +kernel
theorem qX4_topUp_8 : decode (mB mX4_topUp) 8 = .ok (.lconst 1, 1) := by decide +kernel
theorem qX4_topUp_9 : decode (mB mX4_topUp) 9 = .ok (.ldc2_w 425, 3) := by decide +kernel
theorem qX4_topUp_12 : decode (mB mX4_topUp) 12 = .ok (.invokestatic 276, 3) := by decide +kernel
theorem qX4_topUp_15 : decode (mB mX4_topUp) 15 = .ok (.istore 4, 2) := by decide +kernel
theorem qX4_topUp_17 : decode (mB mX4_topUp) 17 = .ok (.aload_n 0, 1) := by decide +kernel
theorem qX4_topUp_18 : decode (mB mX4_topUp) 18 = .ok (.iload_n 3, 1) := by decide +kernel
theorem qX4_topUp_19 : decode (mB mX4_topUp) 19 = .ok (.iload 4, 2) := by decide +kernel
theorem qX4_topUp_21 : decode (mB mX4_topUp) 21 = .ok (.iload_n 3, 1) := by decide +kernel
theorem qX4_topUp_22 : decode (mB mX4_topUp) 22 = .ok (.ifCond .eq 26, 3) := by decide +kernel
theorem qX4_topUp_25 : decode (mB mX4_topUp) 25 = .ok (.iload 4, 2) := by decide +kernel
theorem qX4_topUp_27 : decode (mB mX4_topUp) 27 = .ok (.ifCond .eq 21, 3) := by decide +kernel
theorem qX4_topUp_30 : decode (mB mX4_topUp) 30 = .ok (.aload_n 0, 1) := by decide +kernel
theorem qX4_topUp_31 : decode (mB mX4_topUp) 31 = .ok (.iload_n 1, 1) := by decide +kernel
theorem qX4_topUp_32 : decode (mB mX4_topUp) 32 = .ok (.iconst 4, 1) := by decide +kernel
theorem qX4_topUp_33 : decode (mB mX4_topUp) 33 = .ok (.invokevirtual 148, 3) := by decide +kernel
theorem qX4_topUp_36 : decode (mB mX4_topUp) 36 = .ok (.iload_n 2, 1) := by decide +kernel
theorem qX4_topUp_37 : decode (mB mX4_topUp) 37 = .ok (.iadd, 1) := by decide +kernel
theorem qX4_topUp_38 : decode (mB mX4_topUp) 38 = .ok (.sipush 999, 3) := by decide +kernel
theorem qX4_topUp_41 : decode (mB mX4_topUp) 41 = .ok (.if_icmp .gt 7, 3) := by decide +kernel
theorem qX4_topUp_44 : decode (mB mX4_topUp) 44 = .ok (.iconst 1, 1) := by decide +kernel
theorem qX4_topUp_45 : decode (mB mX4_topUp) 45 = .ok (.goto 4, 3) := by decide +kernel
theorem qX4_topUp_48 : decode (mB mX4_topUp) 48 = .ok (.iconst 0, 1) := by decide +kernel
theorem qX4_topUp_49 : decode (mB mX4_topUp) 49 = .ok (.invokevirtual 7, 3) := by decide +kernel
theorem qX4_topUp_52 : decode (mB mX4_topUp) 52 = .ok (.ifCond .ne 5, 3) := by decide +kernel
theorem qX4_topUp_55 : decode (mB mX4_topUp) 55 = .ok (.iconst 0, 1) := by decide +kernel
theorem qX4_topUp_56 : decode (mB mX4_topUp) 56 = .ok (.ireturn, 1) := by decide +kernel
theorem qX4_topUp_57 : decode (mB mX4_topUp) 57 = .ok (.aload_n 0, 1) := by decide +kernel
theorem qX4_topUp_58 : decode (mB mX4_topUp) 58 = .ok (.invokevirtual 384, 3) := by decide +kernel
theorem qX4_topUp_61 : decode (mB mX4_topUp) 61 = .ok (.aload_n 0, 1) := by decide +kernel
theorem qX4_topUp_62 : decode (mB mX4_topUp) 62 = .ok (.iload_n 1, 1) := by decide +kernel
theorem qX4_topUp_63 : decode (mB mX4_topUp) 63 = .ok (.iload_n 2, 1) := by decide +kernel
theorem qX4_topUp_64 : decode (mB mX4_topUp) 64 = .ok (.invokevirtual 320, 3) := by decide +kernel
theorem qX4_topUp_67 : decode (mB mX4_topUp) 67 = .ok (.aload_n 0, 1) := by decide +kernel
theorem qX4_topUp_68 : decode (mB mX4_topUp) 68 = .ok (.iload_n 1, 1) := by decide +kernel
theorem qX4_topUp_69 : decode (mB mX4_topUp) 69 = .ok (.iconst 4, 1) := by decide +kernel
theorem qX4_topUp_70 : decode (mB mX4_topUp) 70 = .ok (.invokevirtual 148, 3) := by decide +kernel
theorem qX4_topUp_73 : decode (mB mX4_topUp) 73 = .ok (.ireturn, 1) := by decide +kernel
theorem qX4_truncate_0 : decode (mB mX4_truncate) 0 = .ok (.aload_n 0, 1) := by decide +kernel
theorem qX4_truncate_1 : decode (mB mX4_truncate) 1 = .ok (.iload_n 1, 1) := by decide +kernel
theorem qX4_truncate_2 : decode (mB mX4_truncate) 2 = .ok (.i2l, 1) := by decide +kernel
theorem qX4_truncate_3 : decode (mB mX4_truncate) 3 = .ok (.lconst 0, 1) := by decide +kernel
theorem qX4_truncate_4 : decode (mB mX4_truncate) 4 = .ok (.aload_n 0, 1) := by decide +kernel
theorem qX4_truncate_5 : decode (mB mX4_truncate) 5 = .ok (.getfield 214, 3) := by decide +kernel
theorem qX4_truncate_8 : decode (mB mX4_truncate) 8 = .ok (.i2l, 1) := by decide +kernel
theorem qX4_truncate_9 : decode (mB mX4_truncate) 9 = .ok (.invokestatic 276, 3) := by decide +kernel
theorem qX4_truncate_12 : decode (mB mX4_truncate) 12 = .ok (.invokevirtual 371, 3) := by decide +kernel
theorem qX4_truncate_15 : decode (mB mX4_truncate) 15 = .ok (.ifCond .ne 5, 3) := by decide +kernel
theorem qX4_truncate_18 : decode (mB mX4_truncate) 18 = .ok (.iconst 0, 1) := by decide +kernel
theorem qX4_truncate_19 : decode (mB mX4_truncate) 19 = .ok (.ireturn, 1) := by decide +kernel
theorem qX4_truncate_20 : decode (mB mX4_truncate) 20 = .ok (.aload_n 0, 1) := by decide +kernel
theorem qX4_truncate_21 : decode (mB mX4_truncate) 21 = .ok (.iload_n 1, 1) := by decide +kernel
theorem qX4_truncate_22 : decode (mB mX4_truncate) 22 = .ok (.putfield 214, 3) := by decide +kernel
theorem qX4_truncate_25 : decode (mB mX4_truncate) 25 = .ok (.iload_n 1, 1) := by decide +kernel
theorem qX4_truncate_26 : decode (mB mX4_truncate) 26 = .ok (.ireturn, 1) := by decide +kernel
theorem qX4_tubesIn_0 : decode (mB mX4_tubesIn) 0 = .ok (.aload_n 0, 1) := by decide +kernel
theorem qX4_tubesIn_1 : decode (mB mX4_tubesIn) 1 = .ok (.aload_n 0, 1) := by decide +kernel
theorem qX4_tubesIn_2 : decode (mB mX4_tubesIn) 2 = .ok (.iload_n 1, 1) := by decide +kernel
theorem qX4_tubesIn_3 : decode (mB mX4_tubesIn) 3 = .ok (.invokevirtual 390, 3) := by decide +kernel
theorem qX4_tubesIn_6 : decode (mB mX4_tubesIn) 6 = .ok (.invokevirtual 371, 3) := by decide +kernel
theorem qX4_tubesIn_9 : decode (mB mX4_tubesIn) 9 = .ok (.ifCond .ne 5, 3) := by decide +kernel
theorem qX4_tubesIn_12 : decode (mB mX4_tubesIn) 12 = .ok (.iconst 0, 1) := by decide +kernel
theorem qX4_tubesIn_13 : decode (mB mX4_tubesIn) 13 = .ok (.ireturn, 1) := by decide +kernel
theorem qX4_tubesIn_14 : decode (mB mX4_tubesIn) 14 = .ok (.iconst 0, 1) := by decide +kernel
theorem qX4_tubesIn_15 : decode (mB mX4_tubesIn) 15 = .ok (.istore_n 2, 1) := by decide +kernel
theorem qX4_tubesIn_16 : decode (mB mX4_tubesIn) 16 = .ok (.iconst 0, 1) := by decide +kernel
theorem qX4_tubesIn_17 : decode (mB mX4_tubesIn) 17 = .ok (.istore_n 3, 1) := by decide +kernel
theorem qX4_tubesIn_18 : decode (mB mX4_tubesIn) 18 = .ok (.iload_n 3, 1) := by decide +kernel
theorem qX4_tubesIn_19 : decode (mB mX4_tubesIn) 19 = .ok (.aload_n 0, 1) := by decide +kernel
theorem qX4_tubesIn_20 : decode (mB mX4_tubesIn) 20 = .ok (.getfield 17, 3) := by decide +kernel
theorem qX4_tubesIn_23 : decode (mB mX4_tubesIn) 23 = .ok (.iconst 5, 1) := by decide +kernel
theorem qX4_tubesIn_24 : decode (mB mX4_tubesIn) 24 = .ok (.iaload, 1) := by decide +kernel
theorem qX4_tubesIn_25 : decode (mB mX4_tubesIn) 25 = .ok (.if_icmp .ge 28, 3) := by decide +kernel
theorem qX4_tubesIn_28 : decode (mB mX4_tubesIn) 28 = .ok (.iload_n 2, 1) := by decide +kernel
theorem qX4_tubesIn_29 : decode (mB mX4_tubesIn) 29 = .ok (.aload_n 0, 1) := by decide +kernel
theorem qX4_tubesIn_30 : decode (mB mX4_tubesIn) 30 = .ok (.iload_n 3, 1) := by decide +kernel
theorem qX4_tubesIn_31 : decode (mB mX4_tubesIn) 31 = .ok (.bipush 7, 2) := by decide +kernel
theorem qX4_tubesIn_33 : decode (mB mX4_tubesIn) 33 = .ok (.invokevirtual 148, 3) := by decide +kernel
theorem qX4_tubesIn_36 : decode (mB mX4_tubesIn) 36 = .ok (.iload_n 1, 1) := by decide +kernel
theorem qX4_tubesIn_37 : decode (mB mX4_tubesIn) 37 = .ok (.if_icmp .ne 7, 3) := by decide +kernel
theorem qX4_tubesIn_40 : decode (mB mX4_tubesIn) 40 = .ok (.iconst 1, 1) := by decide +kernel
theorem qX4_tubesIn_41 : decode (mB mX4_tubesIn) 41 = .ok (.goto 4, 3) := by decide +kernel
theorem qX4_tubesIn_44 : decode (mB mX4_tubesIn) 44 = .ok (.iconst 0, 1) := by decide +kernel
theorem qX4_tubesIn_45 : decode (mB mX4_tubesIn) 45 = .ok (.iadd, 1) := by decide +kernel
theorem qX4_tubesIn_46 : decode (mB mX4_tubesIn) 46 = .ok (.istore_n 2, 1) := by decide +kernel
theorem qX4_tubesIn_47 : decode (mB mX4_tubesIn) 47 = .ok (.iinc 3 1, 3) := by decide +kernel
theorem qX4_tubesIn_50 : decode (mB mX4_tubesIn) 50 = .ok (.goto (-32), 3) := by decide +kernel
theorem qX4_tubesIn_53 : decode (mB mX4_tubesIn) 53 = .ok (.iload_n 2, 1) := by decide +kernel
theorem qX4_tubesIn_54 : decode (mB mX4_tubesIn) 54 = .ok (.ireturn, 1) := by decide +kernel
theorem qX4_undo_0 : decode (mB mX4_undo) 0 = .ok (.aload_n 0, 1) := by decide +kernel
theorem qX4_undo_1 : decode (mB mX4_undo) 1 = .ok (.aload_n 0, 1) := by decide +kernel
theorem qX4_undo_2 : decode (mB mX4_undo) 2 = .ok (.getfield 368, 3) := by decide +kernel
theorem qX4_undo_5 : decode (mB mX4_undo) 5 = .ok (.ifCond .le 7, 3) := by decide +kernel
theorem qX4_undo_8 : decode (mB mX4_undo) 8 = .ok (.iconst 1, 1) := by decide +kernel
theorem qX4_undo_9 : decode (mB mX4_undo) 9 = .ok (.goto 4, 3) := by decide +kernel
theorem qX4_undo_12 : decode (mB mX4_undo) 12 = .ok (.iconst 0, 1) := by decide +kernel
theorem qX4_undo_13 : decode (mB mX4_undo) 13 = .ok (.invokevirtual 371, 3) := by decide +kernel
theorem qX4_undo_16 : decode (mB mX4_undo) 16 = .ok (.ifCond .ne 5, 3) := by decide +kernel
theorem qX4_undo_19 : decode (mB mX4_undo) 19 = .ok (.iconst 0, 1) := by decide +kernel
theorem qX4_undo_20 : decode (mB mX4_undo) 20 = .ok (.ireturn, 1) := by decide +kernel
theorem qX4_undo_21 : decode (mB mX4_undo) 21 = .ok (.aload_n 0, 1) := by decide +kernel
theorem qX4_undo_22 : decode (mB mX4_undo) 22 = .ok (.dup, 1) := by decide +kernel
theorem qX4_undo_23 : decode (mB mX4_undo) 23 = .ok (.getfield 368, 3) := by decide +kernel
theorem qX4_undo_26 : decode (mB mX4_undo) 26 = .ok (.iconst 1, 1) := by decide +kernel
theorem qX4_undo_27 : decode (mB mX4_undo) 27 = .ok (.isub, 1) := by decide +kernel
theorem qX4_undo_28 : decode (mB mX4_undo) 28 = .ok (.putfield 368, 3) := by decide +kernel
theorem qX4_undo_31 : decode (mB mX4_undo) 31 = .ok (.iconst 0, 1) := by decide +kernel
theorem qX4_undo_32 : decode (mB mX4_undo) 32 = .ok (.istore_n 1, 1) := by decide +kernel
theorem qX4_undo_33 : decode (mB mX4_undo) 33 = .ok (.iload_n 1, 1) := by decide +kernel
theorem qX4_undo_34 : decode (mB mX4_undo) 34 = .ok (.sipush 210, 3) := by decide +kernel
theorem qX4_undo_37 : decode (mB mX4_undo) 37 = .ok (.if_icmp .ge 30, 3) := by decide +kernel
theorem qX4_undo_40 : decode (mB mX4_undo) 40 = .ok (.aload_n 0, 1) := by decide +kernel
theorem qX4_undo_41 : decode (mB mX4_undo) 41 = .ok (.getfield 17, 3) := by decide +kernel
theorem qX4_undo_44 : decode (mB mX4_undo) 44 = .ok (.iload_n 1, 1) := by decide +kernel
theorem qX4_undo_45 : decode (mB mX4_undo) 45 = .ok (.aload_n 0, 1) := by decide +kernel
theorem qX4_undo_46 : decode (mB mX4_undo) 46 = .ok (.getfield 106, 3) := by decide +kernel
theorem qX4_undo_49 : decode (mB mX4_undo) 49 = .ok (.sipush 210, 3) := by decide +kernel
theorem qX4_undo_52 : decode (mB mX4_undo) 52 = .ok (.aload_n 0, 1) := by decide +kernel
theorem qX4_undo_53 : decode (mB mX4_undo) 53 = .ok (.getfield 368, 3) := by decide +kernel
theorem qX4_undo_56 : decode (mB mX4_undo) 56 = .ok (.imul, 1) := by decide +kernel
theorem qX4_undo_57 : decode (mB mX4_undo) 57 = .ok (.iload_n 1, 1) := by decide +kernel
theorem qX4_undo_58 : decode (mB mX4_undo) 58 = .ok (.iadd, 1) := by decide +kernel
theorem qX4_undo_59 : decode (mB mX4_undo) 59 = .ok (.iaload, 1) := by decide +kernel
theorem qX4_undo_60 : decode (mB mX4_undo) 60 = .ok (.iastore, 1) := by decide +kernel
theorem qX4_undo_61 : decode (mB mX4_undo) 61 = .ok (.iinc 1 1, 3) := by decide +kernel
theorem qX4_undo_64 : decode (mB mX4_undo) 64 = .ok (.goto (-31), 3) := by decide +kernel
theorem qX4_undo_67 : decode (mB mX4_undo) 67 = .ok (.aload_n 0, 1) := by decide +kernel
theorem qX4_undo_68 : decode (mB mX4_undo) 68 = .ok (.getfield 368, 3) := by decide +kernel
theorem qX4_undo_71 : decode (mB mX4_undo) 71 = .ok (.ireturn, 1) := by decide +kernel
theorem qX4_walk_0 : decode (mB mX4_walk) 0 = .ok (.iconst 0, 1) := by decide +kernel
theorem qX4_walk_1 : decode (mB mX4_walk) 1 = .ok (.istore_n 2, 1) := by decide +kernel
theorem qX4_walk_2 : decode (mB mX4_walk) 2 = .ok (.iload_n 2, 1) := by decide +kernel
theorem qX4_walk_3 : decode (mB mX4_walk) 3 = .ok (.iload_n 1, 1) := by decide +kernel
theorem qX4_walk_4 : decode (mB mX4_walk) 4 = .ok (.if_icmp .ge 13, 3) := by decide +kernel
theorem qX4_walk_7 : decode (mB mX4_walk) 7 = .ok (.aload_n 0, 1) := by decide +kernel
theorem qX4_walk_8 : decode (mB mX4_walk) 8 = .ok (.invokevirtual 211, 3) := by decide +kernel
theorem qX4_walk_11 : decode (mB mX4_walk) 11 = .ok (.iinc 2 1, 3) := by decide +kernel
theorem qX4_walk_14 : decode (mB mX4_walk) 14 = .ok (.goto (-12), 3) := by decide +kernel
theorem qX4_walk_17 : decode (mB mX4_walk) 17 = .ok (.return_, 1) := by decide +kernel
theorem qX4_worstFit_0 : decode (mB mX4_worstFit) 0 = .ok (.aload_n 0, 1) := by decide +kernel
theorem qX4_worstFit_1 : decode (mB mX4_worstFit) 1 = .ok (.iconst 0, 1) := by decide +kernel
theorem qX4_worstFit_2 : decode (mB mX4_worstFit) 2 = .ok (.putfield 3, 3) := by decide +kernel
theorem qX4_worstFit_5 : decode (mB mX4_worstFit) 5 = .ok (.iconst (-1), 1) := by decide +kernel
theorem qX4_worstFit_6 : decode (mB mX4_worstFit) 6 = .ok (.istore_n 1, 1) := by decide +kernel
theorem qX4_worstFit_7 : decode (mB mX4_worstFit) 7 = .ok (.iconst 0, 1) := by decide +kernel
theorem qX4_worstFit_8 : decode (mB mX4_worstFit) 8 = .ok (.istore_n 2, 1) := by decide +kernel
theorem qX4_worstFit_9 : decode (mB mX4_worstFit) 9 = .ok (.iload_n 2, 1) := by decide +kernel
theorem qX4_worstFit_10 : decode (mB mX4_worstFit) 10 = .ok (.aload_n 0, 1) := by decide +kernel
theorem qX4_worstFit_11 : decode (mB mX4_worstFit) 11 = .ok (.getfield 17, 3) := by decide +kernel
theorem qX4_worstFit_14 : decode (mB mX4_worstFit) 14 = .ok (.iconst 5, 1) := by decide +kernel
theorem qX4_worstFit_15 : decode (mB mX4_worstFit) 15 = .ok (.iaload, 1) := by decide +kernel
theorem qX4_worstFit_16 : decode (mB mX4_worstFit) 16 = .ok (.if_icmp .ge 41, 3) := by decide +kernel
theorem qX4_worstFit_19 : decode (mB mX4_worstFit) 19 = .ok (.aload_n 0, 1) := by decide +kernel
theorem qX4_worstFit_20 : decode (mB mX4_worstFit) 20 = .ok (.iload_n 2, 1) := by decide +kernel
theorem qX4_worstFit_21 : decode (mB mX4_worstFit) 21 = .ok (.invokevirtual 416, 3) := by decide +kernel
theorem qX4_worstFit_24 : decode (mB mX4_worstFit) 24 = .ok (.ifCond .eq 25, 3) := by decide +kernel
theorem qX4_worstFit_27 : decode (mB mX4_worstFit) 27 = .ok (.iload_n 1, 1) := by decide +kernel
theorem qX4_worstFit_28 : decode (mB mX4_worstFit) 28 = .ok (.iconst (-1), 1) := by decide +kernel
theorem qX4_worstFit_29 : decode (mB mX4_worstFit) 29 = .ok (.if_icmp .eq 16, 3) := by decide +kernel
theorem qX4_worstFit_32 : decode (mB mX4_worstFit) 32 = .ok (.aload_n 0, 1) := by decide +kernel
theorem qX4_worstFit_33 : decode (mB mX4_worstFit) 33 = .ok (.iload_n 2, 1) := by decide +kernel
theorem qX4_worstFit_34 : decode (mB mX4_worstFit) 34 = .ok (.invokevirtual 430, 3) := by decide +kernel
theorem qX4_worstFit_37 : decode (mB mX4_worstFit) 37 = .ok (.aload_n 0, 1) := by decide +kernel
theorem qX4_worstFit_38 : decode (mB mX4_worstFit) 38 = .ok (.iload_n 1, 1) := by decide +kernel
theorem qX4_worstFit_39 : decode (mB mX4_worstFit) 39 = .ok (.invokevirtual 430, 3) := by decide +kernel
theorem qX4_worstFit_42 : decode (mB mX4_worstFit) 42 = .ok (.if_icmp .le 7, 3) := by decide +kernel
theorem qX4_worstFit_45 : decode (mB mX4_worstFit) 45 = .ok (.iload_n 2, 1) := by decide +kernel
theorem qX4_worstFit_46 : decode (mB mX4_worstFit) 46 = .ok (.goto 4, 3) := by decide +kernel
theorem qX4_worstFit_49 : decode (mB mX4_worstFit) 49 = .ok (.iload_n 1, 1) := by decide +kernel
theorem qX4_worstFit_50 : decode (mB mX4_worstFit) 50 = .ok (.istore_n 1, 1) := by decide +kernel
theorem qX4_worstFit_51 : decode (mB mX4_worstFit) 51 = .ok (.iinc 2 1, 3) := by decide +kernel
theorem qX4_worstFit_54 : decode (mB mX4_worstFit) 54 = .ok (.goto (-45), 3) := by decide +kernel
theorem qX4_worstFit_57 : decode (mB mX4_worstFit) 57 = .ok (.iload_n 1, 1) := by decide +kernel
theorem qX4_worstFit_58 : decode (mB mX4_worstFit) 58 = .ok (.ireturn, 1) := by decide +kernel
