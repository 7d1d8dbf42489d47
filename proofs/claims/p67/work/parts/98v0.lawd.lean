/-! ===== P67: THE LAW: its words ===== -/
theorem nL_25 : zNw RL 25 3 11 := ⟨by decide, zmem 58 (by decide +kernel) (by decide +kernel), zmem 59 (by decide +kernel) (by decide +kernel), zmem 35 (by decide +kernel) (by decide +kernel)⟩
theorem kL_343 : zCI RL 343 mX3_init 0 := ⟨⟨zmem 60 (by decide +kernel) (by decide +kernel), zmem 35 (by decide +kernel) (by decide +kernel), zmem 62 (by decide +kernel) (by decide +kernel), ⟨by decide +kernel, by decide +kernel⟩, by decide +kernel⟩, zmem 61 (by decide +kernel) (by decide +kernel), by decide +kernel, rfl⟩
theorem kL_344 : zCS RL 344 mL_load 2 := ⟨⟨zmem 691 (by decide +kernel) (by decide +kernel), zmem 34 (by decide +kernel) (by decide +kernel), zmem 693 (by decide +kernel) (by decide +kernel), ⟨by decide +kernel, by decide +kernel⟩, by decide +kernel⟩, zmem 692 (by decide +kernel) (by decide +kernel)⟩
set_option maxRecDepth 1000000 in
theorem kL_347 : zCS RL 347 mL_holds 2 := ⟨⟨zmem 1180 (by decide +kernel) (by decide +kernel), zmem 34 (by decide +kernel) (by decide +kernel), zmem 1182 rfl (by decide +kernel), ⟨by decide +kernel, by decide +kernel⟩, by decide +kernel⟩, zmem 1181 (by decide +kernel) (by decide +kernel)⟩
theorem kL_350 : zCS RL 350 mL_all 2 := ⟨⟨zmem 1072 (by decide +kernel) (by decide +kernel), zmem 34 (by decide +kernel) (by decide +kernel), zmem 1074 (by decide +kernel) (by decide +kernel), ⟨by decide +kernel, by decide +kernel⟩, by decide +kernel⟩, zmem 1073 (by decide +kernel) (by decide +kernel)⟩
theorem kL_354 : zCS RL 354 mL_act 3 := ⟨⟨zmem 1112 (by decide +kernel) (by decide +kernel), zmem 34 (by decide +kernel) (by decide +kernel), zmem 1114 (by decide +kernel) (by decide +kernel), ⟨by decide +kernel, by decide +kernel⟩, by decide +kernel⟩, zmem 1113 (by decide +kernel) (by decide +kernel)⟩
theorem kL_358 : zCV RL 358 mX3_undo 0 := ⟨⟨zmem 615 (by decide +kernel) (by decide +kernel), zmem 35 (by decide +kernel) (by decide +kernel), zmem 618 (by decide +kernel) (by decide +kernel), ⟨by decide +kernel, by decide +kernel⟩, by decide +kernel⟩, zmem 616 (by decide +kernel) (by decide +kernel), zmem 617 (by decide +kernel) (by decide +kernel)⟩
theorem qL_law_0 : decode (mB mL_law) 0 = .ok (.new 25, 3) := by decide +kernel
theorem qL_law_3 : decode (mB mL_law) 3 = .ok (.dup, 1) := by decide +kernel
theorem qL_law_4 : decode (mB mL_law) 4 = .ok (.invokespecial 343, 3) := by decide +kernel
theorem qL_law_7 : decode (mB mL_law) 7 = .ok (.astore_n 1, 1) := by decide +kernel
theorem qL_law_8 : decode (mB mL_law) 8 = .ok (.aload_n 1, 1) := by decide +kernel
theorem qL_law_9 : decode (mB mL_law) 9 = .ok (.aload_n 0, 1) := by decide +kernel
theorem qL_law_10 : decode (mB mL_law) 10 = .ok (.invokestatic 344, 3) := by decide +kernel
theorem qL_law_13 : decode (mB mL_law) 13 = .ok (.ifCond .eq 11, 3) := by decide +kernel
theorem qL_law_16 : decode (mB mL_law) 16 = .ok (.aload_n 1, 1) := by decide +kernel
theorem qL_law_17 : decode (mB mL_law) 17 = .ok (.aload_n 0, 1) := by decide +kernel
theorem qL_law_18 : decode (mB mL_law) 18 = .ok (.invokestatic 347, 3) := by decide +kernel
theorem qL_law_21 : decode (mB mL_law) 21 = .ok (.ifCond .ne 5, 3) := by decide +kernel
theorem qL_law_24 : decode (mB mL_law) 24 = .ok (.iconst 0, 1) := by decide +kernel
theorem qL_law_25 : decode (mB mL_law) 25 = .ok (.ireturn, 1) := by decide +kernel
theorem qL_law_26 : decode (mB mL_law) 26 = .ok (.bipush 50, 2) := by decide +kernel
theorem qL_law_28 : decode (mB mL_law) 28 = .ok (.istore_n 2, 1) := by decide +kernel
theorem qL_law_29 : decode (mB mL_law) 29 = .ok (.iload_n 2, 1) := by decide +kernel
theorem qL_law_30 : decode (mB mL_law) 30 = .ok (.iconst 2, 1) := by decide +kernel
theorem qL_law_31 : decode (mB mL_law) 31 = .ok (.iadd, 1) := by decide +kernel
theorem qL_law_32 : decode (mB mL_law) 32 = .ok (.sipush 170, 3) := by decide +kernel
theorem qL_law_35 : decode (mB mL_law) 35 = .ok (.if_icmp .ge 86, 3) := by decide +kernel
theorem qL_law_38 : decode (mB mL_law) 38 = .ok (.aload_n 1, 1) := by decide +kernel
theorem qL_law_39 : decode (mB mL_law) 39 = .ok (.aload_n 0, 1) := by decide +kernel
theorem qL_law_40 : decode (mB mL_law) 40 = .ok (.invokestatic 350, 3) := by decide +kernel
theorem qL_law_43 : decode (mB mL_law) 43 = .ok (.lstore_n 3, 1) := by decide +kernel
theorem qL_law_44 : decode (mB mL_law) 44 = .ok (.aload_n 1, 1) := by decide +kernel
theorem qL_law_45 : decode (mB mL_law) 45 = .ok (.aload_n 0, 1) := by decide +kernel
theorem qL_law_46 : decode (mB mL_law) 46 = .ok (.iload_n 2, 1) := by decide +kernel
theorem qL_law_47 : decode (mB mL_law) 47 = .ok (.invokestatic 354, 3) := by decide +kernel
theorem qL_law_50 : decode (mB mL_law) 50 = .ok (.istore 5, 2) := by decide +kernel
theorem qL_law_52 : decode (mB mL_law) 52 = .ok (.iload 5, 2) := by decide +kernel
theorem qL_law_54 : decode (mB mL_law) 54 = .ok (.sipush (-9999), 3) := by decide +kernel
theorem qL_law_57 : decode (mB mL_law) 57 = .ok (.if_icmp .ne 15, 3) := by decide +kernel
theorem qL_law_60 : decode (mB mL_law) 60 = .ok (.aload_n 1, 1) := by decide +kernel
theorem qL_law_61 : decode (mB mL_law) 61 = .ok (.aload_n 0, 1) := by decide +kernel
theorem qL_law_62 : decode (mB mL_law) 62 = .ok (.invokestatic 350, 3) := by decide +kernel
theorem qL_law_65 : decode (mB mL_law) 65 = .ok (.lload_n 3, 1) := by decide +kernel
theorem qL_law_66 : decode (mB mL_law) 66 = .ok (.lcmp, 1) := by decide +kernel
theorem qL_law_67 : decode (mB mL_law) 67 = .ok (.ifCond .eq 48, 3) := by decide +kernel
theorem qL_law_70 : decode (mB mL_law) 70 = .ok (.iconst 0, 1) := by decide +kernel
theorem qL_law_71 : decode (mB mL_law) 71 = .ok (.ireturn, 1) := by decide +kernel
theorem qL_law_72 : decode (mB mL_law) 72 = .ok (.aload_n 1, 1) := by decide +kernel
theorem qL_law_73 : decode (mB mL_law) 73 = .ok (.aload_n 0, 1) := by decide +kernel
theorem qL_law_74 : decode (mB mL_law) 74 = .ok (.invokestatic 347, 3) := by decide +kernel
theorem qL_law_77 : decode (mB mL_law) 77 = .ok (.ifCond .ne 5, 3) := by decide +kernel
theorem qL_law_80 : decode (mB mL_law) 80 = .ok (.iconst 0, 1) := by decide +kernel
theorem qL_law_81 : decode (mB mL_law) 81 = .ok (.ireturn, 1) := by decide +kernel
theorem qL_law_82 : decode (mB mL_law) 82 = .ok (.aload_n 0, 1) := by decide +kernel
theorem qL_law_83 : decode (mB mL_law) 83 = .ok (.iload_n 2, 1) := by decide +kernel
theorem qL_law_84 : decode (mB mL_law) 84 = .ok (.iconst 1, 1) := by decide +kernel
theorem qL_law_85 : decode (mB mL_law) 85 = .ok (.iadd, 1) := by decide +kernel
theorem qL_law_86 : decode (mB mL_law) 86 = .ok (.iconst 4, 1) := by decide +kernel
theorem qL_law_87 : decode (mB mL_law) 87 = .ok (.invokestatic 40, 3) := by decide +kernel
theorem qL_law_90 : decode (mB mL_law) 90 = .ok (.ifCond .le 6, 3) := by decide +kernel
theorem qL_law_93 : decode (mB mL_law) 93 = .ok (.goto 22, 3) := by decide +kernel
theorem qL_law_96 : decode (mB mL_law) 96 = .ok (.aload_n 1, 1) := by decide +kernel
theorem qL_law_97 : decode (mB mL_law) 97 = .ok (.invokevirtual 358, 3) := by decide +kernel
theorem qL_law_100 : decode (mB mL_law) 100 = .ok (.ifCond .lt 13, 3) := by decide +kernel
theorem qL_law_103 : decode (mB mL_law) 103 = .ok (.aload_n 1, 1) := by decide +kernel
theorem qL_law_104 : decode (mB mL_law) 104 = .ok (.aload_n 0, 1) := by decide +kernel
theorem qL_law_105 : decode (mB mL_law) 105 = .ok (.invokestatic 350, 3) := by decide +kernel
theorem qL_law_108 : decode (mB mL_law) 108 = .ok (.lload_n 3, 1) := by decide +kernel
theorem qL_law_109 : decode (mB mL_law) 109 = .ok (.lcmp, 1) := by decide +kernel
theorem qL_law_110 : decode (mB mL_law) 110 = .ok (.ifCond .eq 5, 3) := by decide +kernel
theorem qL_law_113 : decode (mB mL_law) 113 = .ok (.iconst 0, 1) := by decide +kernel
theorem qL_law_114 : decode (mB mL_law) 114 = .ok (.ireturn, 1) := by decide +kernel
theorem qL_law_115 : decode (mB mL_law) 115 = .ok (.iinc 2 3, 3) := by decide +kernel
theorem qL_law_118 : decode (mB mL_law) 118 = .ok (.goto (-89), 3) := by decide +kernel
theorem qL_law_121 : decode (mB mL_law) 121 = .ok (.iconst 1, 1) := by decide +kernel
theorem qL_law_122 : decode (mB mL_law) 122 = .ok (.ireturn, 1) := by decide +kernel

