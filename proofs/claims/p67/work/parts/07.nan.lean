/-! the mean height is a number: case by case -/
theorem nf64_1_0 : ∀ u : Fin 9, ∀ v : Fin 90, (FP.ddiv (FP.i2d (nI (90 * (0 + u.val) + v.val))) (FP.i2d (nI 1))) &&& 0x7fffffffffffffff ≤ 0x7ff0000000000000 := by decide +kernel
theorem nf64_1_1 : ∀ u : Fin 9, ∀ v : Fin 90, (FP.ddiv (FP.i2d (nI (90 * (9 + u.val) + v.val))) (FP.i2d (nI 1))) &&& 0x7fffffffffffffff ≤ 0x7ff0000000000000 := by decide +kernel
theorem nf64_1_2 : ∀ u : Fin 9, ∀ v : Fin 90, (FP.ddiv (FP.i2d (nI (90 * (18 + u.val) + v.val))) (FP.i2d (nI 1))) &&& 0x7fffffffffffffff ≤ 0x7ff0000000000000 := by decide +kernel
theorem nf64_1_3 : ∀ u : Fin 9, ∀ v : Fin 90, (FP.ddiv (FP.i2d (nI (90 * (27 + u.val) + v.val))) (FP.i2d (nI 1))) &&& 0x7fffffffffffffff ≤ 0x7ff0000000000000 := by decide +kernel
theorem nf64_1_4 : ∀ u : Fin 9, ∀ v : Fin 90, (FP.ddiv (FP.i2d (nI (90 * (36 + u.val) + v.val))) (FP.i2d (nI 1))) &&& 0x7fffffffffffffff ≤ 0x7ff0000000000000 := by decide +kernel
theorem nf64_1_5 : ∀ u : Fin 9, ∀ v : Fin 90, (FP.ddiv (FP.i2d (nI (90 * (45 + u.val) + v.val))) (FP.i2d (nI 1))) &&& 0x7fffffffffffffff ≤ 0x7ff0000000000000 := by decide +kernel
theorem nf64_1_6 : ∀ u : Fin 9, ∀ v : Fin 90, (FP.ddiv (FP.i2d (nI (90 * (54 + u.val) + v.val))) (FP.i2d (nI 1))) &&& 0x7fffffffffffffff ≤ 0x7ff0000000000000 := by decide +kernel
theorem nf64_1_7 : ∀ u : Fin 9, ∀ v : Fin 90, (FP.ddiv (FP.i2d (nI (90 * (63 + u.val) + v.val))) (FP.i2d (nI 1))) &&& 0x7fffffffffffffff ≤ 0x7ff0000000000000 := by decide +kernel
theorem nf64_1_8 : ∀ u : Fin 9, ∀ v : Fin 90, (FP.ddiv (FP.i2d (nI (90 * (72 + u.val) + v.val))) (FP.i2d (nI 1))) &&& 0x7fffffffffffffff ≤ 0x7ff0000000000000 := by decide +kernel
theorem nf64_1_9 : ∀ u : Fin 9, ∀ v : Fin 90, (FP.ddiv (FP.i2d (nI (90 * (81 + u.val) + v.val))) (FP.i2d (nI 1))) &&& 0x7fffffffffffffff ≤ 0x7ff0000000000000 := by decide +kernel
theorem nf64_2_0 : ∀ u : Fin 9, ∀ v : Fin 90, (FP.ddiv (FP.i2d (nI (90 * (0 + u.val) + v.val))) (FP.i2d (nI 2))) &&& 0x7fffffffffffffff ≤ 0x7ff0000000000000 := by decide +kernel
theorem nf64_2_1 : ∀ u : Fin 9, ∀ v : Fin 90, (FP.ddiv (FP.i2d (nI (90 * (9 + u.val) + v.val))) (FP.i2d (nI 2))) &&& 0x7fffffffffffffff ≤ 0x7ff0000000000000 := by decide +kernel
theorem nf64_2_2 : ∀ u : Fin 9, ∀ v : Fin 90, (FP.ddiv (FP.i2d (nI (90 * (18 + u.val) + v.val))) (FP.i2d (nI 2))) &&& 0x7fffffffffffffff ≤ 0x7ff0000000000000 := by decide +kernel
theorem nf64_2_3 : ∀ u : Fin 9, ∀ v : Fin 90, (FP.ddiv (FP.i2d (nI (90 * (27 + u.val) + v.val))) (FP.i2d (nI 2))) &&& 0x7fffffffffffffff ≤ 0x7ff0000000000000 := by decide +kernel
theorem nf64_2_4 : ∀ u : Fin 9, ∀ v : Fin 90, (FP.ddiv (FP.i2d (nI (90 * (36 + u.val) + v.val))) (FP.i2d (nI 2))) &&& 0x7fffffffffffffff ≤ 0x7ff0000000000000 := by decide +kernel
theorem nf64_2_5 : ∀ u : Fin 9, ∀ v : Fin 90, (FP.ddiv (FP.i2d (nI (90 * (45 + u.val) + v.val))) (FP.i2d (nI 2))) &&& 0x7fffffffffffffff ≤ 0x7ff0000000000000 := by decide +kernel
theorem nf64_2_6 : ∀ u : Fin 9, ∀ v : Fin 90, (FP.ddiv (FP.i2d (nI (90 * (54 + u.val) + v.val))) (FP.i2d (nI 2))) &&& 0x7fffffffffffffff ≤ 0x7ff0000000000000 := by decide +kernel
theorem nf64_2_7 : ∀ u : Fin 9, ∀ v : Fin 90, (FP.ddiv (FP.i2d (nI (90 * (63 + u.val) + v.val))) (FP.i2d (nI 2))) &&& 0x7fffffffffffffff ≤ 0x7ff0000000000000 := by decide +kernel
theorem nf64_2_8 : ∀ u : Fin 9, ∀ v : Fin 90, (FP.ddiv (FP.i2d (nI (90 * (72 + u.val) + v.val))) (FP.i2d (nI 2))) &&& 0x7fffffffffffffff ≤ 0x7ff0000000000000 := by decide +kernel
theorem nf64_2_9 : ∀ u : Fin 9, ∀ v : Fin 90, (FP.ddiv (FP.i2d (nI (90 * (81 + u.val) + v.val))) (FP.i2d (nI 2))) &&& 0x7fffffffffffffff ≤ 0x7ff0000000000000 := by decide +kernel
theorem nf64_3_0 : ∀ u : Fin 9, ∀ v : Fin 90, (FP.ddiv (FP.i2d (nI (90 * (0 + u.val) + v.val))) (FP.i2d (nI 3))) &&& 0x7fffffffffffffff ≤ 0x7ff0000000000000 := by decide +kernel
theorem nf64_3_1 : ∀ u : Fin 9, ∀ v : Fin 90, (FP.ddiv (FP.i2d (nI (90 * (9 + u.val) + v.val))) (FP.i2d (nI 3))) &&& 0x7fffffffffffffff ≤ 0x7ff0000000000000 := by decide +kernel
theorem nf64_3_2 : ∀ u : Fin 9, ∀ v : Fin 90, (FP.ddiv (FP.i2d (nI (90 * (18 + u.val) + v.val))) (FP.i2d (nI 3))) &&& 0x7fffffffffffffff ≤ 0x7ff0000000000000 := by decide +kernel
theorem nf64_3_3 : ∀ u : Fin 9, ∀ v : Fin 90, (FP.ddiv (FP.i2d (nI (90 * (27 + u.val) + v.val))) (FP.i2d (nI 3))) &&& 0x7fffffffffffffff ≤ 0x7ff0000000000000 := by decide +kernel
theorem nf64_3_4 : ∀ u : Fin 9, ∀ v : Fin 90, (FP.ddiv (FP.i2d (nI (90 * (36 + u.val) + v.val))) (FP.i2d (nI 3))) &&& 0x7fffffffffffffff ≤ 0x7ff0000000000000 := by decide +kernel
theorem nf64_3_5 : ∀ u : Fin 9, ∀ v : Fin 90, (FP.ddiv (FP.i2d (nI (90 * (45 + u.val) + v.val))) (FP.i2d (nI 3))) &&& 0x7fffffffffffffff ≤ 0x7ff0000000000000 := by decide +kernel
theorem nf64_3_6 : ∀ u : Fin 9, ∀ v : Fin 90, (FP.ddiv (FP.i2d (nI (90 * (54 + u.val) + v.val))) (FP.i2d (nI 3))) &&& 0x7fffffffffffffff ≤ 0x7ff0000000000000 := by decide +kernel
theorem nf64_3_7 : ∀ u : Fin 9, ∀ v : Fin 90, (FP.ddiv (FP.i2d (nI (90 * (63 + u.val) + v.val))) (FP.i2d (nI 3))) &&& 0x7fffffffffffffff ≤ 0x7ff0000000000000 := by decide +kernel
theorem nf64_3_8 : ∀ u : Fin 9, ∀ v : Fin 90, (FP.ddiv (FP.i2d (nI (90 * (72 + u.val) + v.val))) (FP.i2d (nI 3))) &&& 0x7fffffffffffffff ≤ 0x7ff0000000000000 := by decide +kernel
theorem nf64_3_9 : ∀ u : Fin 9, ∀ v : Fin 90, (FP.ddiv (FP.i2d (nI (90 * (81 + u.val) + v.val))) (FP.i2d (nI 3))) &&& 0x7fffffffffffffff ≤ 0x7ff0000000000000 := by decide +kernel
theorem nf64_4_0 : ∀ u : Fin 9, ∀ v : Fin 90, (FP.ddiv (FP.i2d (nI (90 * (0 + u.val) + v.val))) (FP.i2d (nI 4))) &&& 0x7fffffffffffffff ≤ 0x7ff0000000000000 := by decide +kernel
theorem nf64_4_1 : ∀ u : Fin 9, ∀ v : Fin 90, (FP.ddiv (FP.i2d (nI (90 * (9 + u.val) + v.val))) (FP.i2d (nI 4))) &&& 0x7fffffffffffffff ≤ 0x7ff0000000000000 := by decide +kernel
theorem nf64_4_2 : ∀ u : Fin 9, ∀ v : Fin 90, (FP.ddiv (FP.i2d (nI (90 * (18 + u.val) + v.val))) (FP.i2d (nI 4))) &&& 0x7fffffffffffffff ≤ 0x7ff0000000000000 := by decide +kernel
theorem nf64_4_3 : ∀ u : Fin 9, ∀ v : Fin 90, (FP.ddiv (FP.i2d (nI (90 * (27 + u.val) + v.val))) (FP.i2d (nI 4))) &&& 0x7fffffffffffffff ≤ 0x7ff0000000000000 := by decide +kernel
theorem nf64_4_4 : ∀ u : Fin 9, ∀ v : Fin 90, (FP.ddiv (FP.i2d (nI (90 * (36 + u.val) + v.val))) (FP.i2d (nI 4))) &&& 0x7fffffffffffffff ≤ 0x7ff0000000000000 := by decide +kernel
theorem nf64_4_5 : ∀ u : Fin 9, ∀ v : Fin 90, (FP.ddiv (FP.i2d (nI (90 * (45 + u.val) + v.val))) (FP.i2d (nI 4))) &&& 0x7fffffffffffffff ≤ 0x7ff0000000000000 := by decide +kernel
theorem nf64_4_6 : ∀ u : Fin 9, ∀ v : Fin 90, (FP.ddiv (FP.i2d (nI (90 * (54 + u.val) + v.val))) (FP.i2d (nI 4))) &&& 0x7fffffffffffffff ≤ 0x7ff0000000000000 := by decide +kernel
theorem nf64_4_7 : ∀ u : Fin 9, ∀ v : Fin 90, (FP.ddiv (FP.i2d (nI (90 * (63 + u.val) + v.val))) (FP.i2d (nI 4))) &&& 0x7fffffffffffffff ≤ 0x7ff0000000000000 := by decide +kernel
theorem nf64_4_8 : ∀ u : Fin 9, ∀ v : Fin 90, (FP.ddiv (FP.i2d (nI (90 * (72 + u.val) + v.val))) (FP.i2d (nI 4))) &&& 0x7fffffffffffffff ≤ 0x7ff0000000000000 := by decide +kernel
theorem nf64_4_9 : ∀ u : Fin 9, ∀ v : Fin 90, (FP.ddiv (FP.i2d (nI (90 * (81 + u.val) + v.val))) (FP.i2d (nI 4))) &&& 0x7fffffffffffffff ≤ 0x7ff0000000000000 := by decide +kernel
theorem nf64_5_0 : ∀ u : Fin 9, ∀ v : Fin 90, (FP.ddiv (FP.i2d (nI (90 * (0 + u.val) + v.val))) (FP.i2d (nI 5))) &&& 0x7fffffffffffffff ≤ 0x7ff0000000000000 := by decide +kernel
theorem nf64_5_1 : ∀ u : Fin 9, ∀ v : Fin 90, (FP.ddiv (FP.i2d (nI (90 * (9 + u.val) + v.val))) (FP.i2d (nI 5))) &&& 0x7fffffffffffffff ≤ 0x7ff0000000000000 := by decide +kernel
theorem nf64_5_2 : ∀ u : Fin 9, ∀ v : Fin 90, (FP.ddiv (FP.i2d (nI (90 * (18 + u.val) + v.val))) (FP.i2d (nI 5))) &&& 0x7fffffffffffffff ≤ 0x7ff0000000000000 := by decide +kernel
theorem nf64_5_3 : ∀ u : Fin 9, ∀ v : Fin 90, (FP.ddiv (FP.i2d (nI (90 * (27 + u.val) + v.val))) (FP.i2d (nI 5))) &&& 0x7fffffffffffffff ≤ 0x7ff0000000000000 := by decide +kernel
theorem nf64_5_4 : ∀ u : Fin 9, ∀ v : Fin 90, (FP.ddiv (FP.i2d (nI (90 * (36 + u.val) + v.val))) (FP.i2d (nI 5))) &&& 0x7fffffffffffffff ≤ 0x7ff0000000000000 := by decide +kernel
theorem nf64_5_5 : ∀ u : Fin 9, ∀ v : Fin 90, (FP.ddiv (FP.i2d (nI (90 * (45 + u.val) + v.val))) (FP.i2d (nI 5))) &&& 0x7fffffffffffffff ≤ 0x7ff0000000000000 := by decide +kernel
theorem nf64_5_6 : ∀ u : Fin 9, ∀ v : Fin 90, (FP.ddiv (FP.i2d (nI (90 * (54 + u.val) + v.val))) (FP.i2d (nI 5))) &&& 0x7fffffffffffffff ≤ 0x7ff0000000000000 := by decide +kernel
theorem nf64_5_7 : ∀ u : Fin 9, ∀ v : Fin 90, (FP.ddiv (FP.i2d (nI (90 * (63 + u.val) + v.val))) (FP.i2d (nI 5))) &&& 0x7fffffffffffffff ≤ 0x7ff0000000000000 := by decide +kernel
theorem nf64_5_8 : ∀ u : Fin 9, ∀ v : Fin 90, (FP.ddiv (FP.i2d (nI (90 * (72 + u.val) + v.val))) (FP.i2d (nI 5))) &&& 0x7fffffffffffffff ≤ 0x7ff0000000000000 := by decide +kernel
theorem nf64_5_9 : ∀ u : Fin 9, ∀ v : Fin 90, (FP.ddiv (FP.i2d (nI (90 * (81 + u.val) + v.val))) (FP.i2d (nI 5))) &&& 0x7fffffffffffffff ≤ 0x7ff0000000000000 := by decide +kernel
theorem nf64_6_0 : ∀ u : Fin 9, ∀ v : Fin 90, (FP.ddiv (FP.i2d (nI (90 * (0 + u.val) + v.val))) (FP.i2d (nI 6))) &&& 0x7fffffffffffffff ≤ 0x7ff0000000000000 := by decide +kernel
theorem nf64_6_1 : ∀ u : Fin 9, ∀ v : Fin 90, (FP.ddiv (FP.i2d (nI (90 * (9 + u.val) + v.val))) (FP.i2d (nI 6))) &&& 0x7fffffffffffffff ≤ 0x7ff0000000000000 := by decide +kernel
theorem nf64_6_2 : ∀ u : Fin 9, ∀ v : Fin 90, (FP.ddiv (FP.i2d (nI (90 * (18 + u.val) + v.val))) (FP.i2d (nI 6))) &&& 0x7fffffffffffffff ≤ 0x7ff0000000000000 := by decide +kernel
theorem nf64_6_3 : ∀ u : Fin 9, ∀ v : Fin 90, (FP.ddiv (FP.i2d (nI (90 * (27 + u.val) + v.val))) (FP.i2d (nI 6))) &&& 0x7fffffffffffffff ≤ 0x7ff0000000000000 := by decide +kernel
theorem nf64_6_4 : ∀ u : Fin 9, ∀ v : Fin 90, (FP.ddiv (FP.i2d (nI (90 * (36 + u.val) + v.val))) (FP.i2d (nI 6))) &&& 0x7fffffffffffffff ≤ 0x7ff0000000000000 := by decide +kernel
theorem nf64_6_5 : ∀ u : Fin 9, ∀ v : Fin 90, (FP.ddiv (FP.i2d (nI (90 * (45 + u.val) + v.val))) (FP.i2d (nI 6))) &&& 0x7fffffffffffffff ≤ 0x7ff0000000000000 := by decide +kernel
theorem nf64_6_6 : ∀ u : Fin 9, ∀ v : Fin 90, (FP.ddiv (FP.i2d (nI (90 * (54 + u.val) + v.val))) (FP.i2d (nI 6))) &&& 0x7fffffffffffffff ≤ 0x7ff0000000000000 := by decide +kernel
theorem nf64_6_7 : ∀ u : Fin 9, ∀ v : Fin 90, (FP.ddiv (FP.i2d (nI (90 * (63 + u.val) + v.val))) (FP.i2d (nI 6))) &&& 0x7fffffffffffffff ≤ 0x7ff0000000000000 := by decide +kernel
theorem nf64_6_8 : ∀ u : Fin 9, ∀ v : Fin 90, (FP.ddiv (FP.i2d (nI (90 * (72 + u.val) + v.val))) (FP.i2d (nI 6))) &&& 0x7fffffffffffffff ≤ 0x7ff0000000000000 := by decide +kernel
theorem nf64_6_9 : ∀ u : Fin 9, ∀ v : Fin 90, (FP.ddiv (FP.i2d (nI (90 * (81 + u.val) + v.val))) (FP.i2d (nI 6))) &&& 0x7fffffffffffffff ≤ 0x7ff0000000000000 := by decide +kernel
theorem nf64_7_0 : ∀ u : Fin 9, ∀ v : Fin 90, (FP.ddiv (FP.i2d (nI (90 * (0 + u.val) + v.val))) (FP.i2d (nI 7))) &&& 0x7fffffffffffffff ≤ 0x7ff0000000000000 := by decide +kernel
theorem nf64_7_1 : ∀ u : Fin 9, ∀ v : Fin 90, (FP.ddiv (FP.i2d (nI (90 * (9 + u.val) + v.val))) (FP.i2d (nI 7))) &&& 0x7fffffffffffffff ≤ 0x7ff0000000000000 := by decide +kernel
theorem nf64_7_2 : ∀ u : Fin 9, ∀ v : Fin 90, (FP.ddiv (FP.i2d (nI (90 * (18 + u.val) + v.val))) (FP.i2d (nI 7))) &&& 0x7fffffffffffffff ≤ 0x7ff0000000000000 := by decide +kernel
theorem nf64_7_3 : ∀ u : Fin 9, ∀ v : Fin 90, (FP.ddiv (FP.i2d (nI (90 * (27 + u.val) + v.val))) (FP.i2d (nI 7))) &&& 0x7fffffffffffffff ≤ 0x7ff0000000000000 := by decide +kernel
theorem nf64_7_4 : ∀ u : Fin 9, ∀ v : Fin 90, (FP.ddiv (FP.i2d (nI (90 * (36 + u.val) + v.val))) (FP.i2d (nI 7))) &&& 0x7fffffffffffffff ≤ 0x7ff0000000000000 := by decide +kernel
theorem nf64_7_5 : ∀ u : Fin 9, ∀ v : Fin 90, (FP.ddiv (FP.i2d (nI (90 * (45 + u.val) + v.val))) (FP.i2d (nI 7))) &&& 0x7fffffffffffffff ≤ 0x7ff0000000000000 := by decide +kernel
theorem nf64_7_6 : ∀ u : Fin 9, ∀ v : Fin 90, (FP.ddiv (FP.i2d (nI (90 * (54 + u.val) + v.val))) (FP.i2d (nI 7))) &&& 0x7fffffffffffffff ≤ 0x7ff0000000000000 := by decide +kernel
theorem nf64_7_7 : ∀ u : Fin 9, ∀ v : Fin 90, (FP.ddiv (FP.i2d (nI (90 * (63 + u.val) + v.val))) (FP.i2d (nI 7))) &&& 0x7fffffffffffffff ≤ 0x7ff0000000000000 := by decide +kernel
theorem nf64_7_8 : ∀ u : Fin 9, ∀ v : Fin 90, (FP.ddiv (FP.i2d (nI (90 * (72 + u.val) + v.val))) (FP.i2d (nI 7))) &&& 0x7fffffffffffffff ≤ 0x7ff0000000000000 := by decide +kernel
theorem nf64_7_9 : ∀ u : Fin 9, ∀ v : Fin 90, (FP.ddiv (FP.i2d (nI (90 * (81 + u.val) + v.val))) (FP.i2d (nI 7))) &&& 0x7fffffffffffffff ≤ 0x7ff0000000000000 := by decide +kernel
theorem nf64_8_0 : ∀ u : Fin 9, ∀ v : Fin 90, (FP.ddiv (FP.i2d (nI (90 * (0 + u.val) + v.val))) (FP.i2d (nI 8))) &&& 0x7fffffffffffffff ≤ 0x7ff0000000000000 := by decide +kernel
theorem nf64_8_1 : ∀ u : Fin 9, ∀ v : Fin 90, (FP.ddiv (FP.i2d (nI (90 * (9 + u.val) + v.val))) (FP.i2d (nI 8))) &&& 0x7fffffffffffffff ≤ 0x7ff0000000000000 := by decide +kernel
theorem nf64_8_2 : ∀ u : Fin 9, ∀ v : Fin 90, (FP.ddiv (FP.i2d (nI (90 * (18 + u.val) + v.val))) (FP.i2d (nI 8))) &&& 0x7fffffffffffffff ≤ 0x7ff0000000000000 := by decide +kernel
theorem nf64_8_3 : ∀ u : Fin 9, ∀ v : Fin 90, (FP.ddiv (FP.i2d (nI (90 * (27 + u.val) + v.val))) (FP.i2d (nI 8))) &&& 0x7fffffffffffffff ≤ 0x7ff0000000000000 := by decide +kernel
theorem nf64_8_4 : ∀ u : Fin 9, ∀ v : Fin 90, (FP.ddiv (FP.i2d (nI (90 * (36 + u.val) + v.val))) (FP.i2d (nI 8))) &&& 0x7fffffffffffffff ≤ 0x7ff0000000000000 := by decide +kernel
theorem nf64_8_5 : ∀ u : Fin 9, ∀ v : Fin 90, (FP.ddiv (FP.i2d (nI (90 * (45 + u.val) + v.val))) (FP.i2d (nI 8))) &&& 0x7fffffffffffffff ≤ 0x7ff0000000000000 := by decide +kernel
theorem nf64_8_6 : ∀ u : Fin 9, ∀ v : Fin 90, (FP.ddiv (FP.i2d (nI (90 * (54 + u.val) + v.val))) (FP.i2d (nI 8))) &&& 0x7fffffffffffffff ≤ 0x7ff0000000000000 := by decide +kernel
theorem nf64_8_7 : ∀ u : Fin 9, ∀ v : Fin 90, (FP.ddiv (FP.i2d (nI (90 * (63 + u.val) + v.val))) (FP.i2d (nI 8))) &&& 0x7fffffffffffffff ≤ 0x7ff0000000000000 := by decide +kernel
theorem nf64_8_8 : ∀ u : Fin 9, ∀ v : Fin 90, (FP.ddiv (FP.i2d (nI (90 * (72 + u.val) + v.val))) (FP.i2d (nI 8))) &&& 0x7fffffffffffffff ≤ 0x7ff0000000000000 := by decide +kernel
theorem nf64_8_9 : ∀ u : Fin 9, ∀ v : Fin 90, (FP.ddiv (FP.i2d (nI (90 * (81 + u.val) + v.val))) (FP.i2d (nI 8))) &&& 0x7fffffffffffffff ≤ 0x7ff0000000000000 := by decide +kernel
set_option maxHeartbeats 4000000 in
theorem nf64_all (b u v : Nat) (hb : b < 8) (hu : u < 90) (hv : v < 90) : (FP.ddiv (FP.i2d (nI (90 * u + v))) (FP.i2d (nI (b + 1)))) &&& 0x7fffffffffffffff ≤ 0x7ff0000000000000 := by
  have e : u = 9 * (u / 9) + u % 9 := (Nat.div_add_mod u 9).symm
  have h1 : u / 9 < 10 := by omega
  have h2 : u % 9 < 9 := by omega
  generalize u / 9 = w at *
  generalize u % 9 = z at *
  subst e
  rcases (show b = 0 ∨ b = 1 ∨ b = 2 ∨ b = 3 ∨ b = 4 ∨ b = 5 ∨ b = 6 ∨ b = 7 by omega) with rfl | rfl | rfl | rfl | rfl | rfl | rfl | rfl
  · rcases (show w = 0 ∨ w = 1 ∨ w = 2 ∨ w = 3 ∨ w = 4 ∨ w = 5 ∨ w = 6 ∨ w = 7 ∨ w = 8 ∨ w = 9 by omega) with rfl | rfl | rfl | rfl | rfl | rfl | rfl | rfl | rfl | rfl
    · exact nf64_1_0 ⟨z, h2⟩ ⟨v, hv⟩
    · exact nf64_1_1 ⟨z, h2⟩ ⟨v, hv⟩
    · exact nf64_1_2 ⟨z, h2⟩ ⟨v, hv⟩
    · exact nf64_1_3 ⟨z, h2⟩ ⟨v, hv⟩
    · exact nf64_1_4 ⟨z, h2⟩ ⟨v, hv⟩
    · exact nf64_1_5 ⟨z, h2⟩ ⟨v, hv⟩
    · exact nf64_1_6 ⟨z, h2⟩ ⟨v, hv⟩
    · exact nf64_1_7 ⟨z, h2⟩ ⟨v, hv⟩
    · exact nf64_1_8 ⟨z, h2⟩ ⟨v, hv⟩
    · exact nf64_1_9 ⟨z, h2⟩ ⟨v, hv⟩
  · rcases (show w = 0 ∨ w = 1 ∨ w = 2 ∨ w = 3 ∨ w = 4 ∨ w = 5 ∨ w = 6 ∨ w = 7 ∨ w = 8 ∨ w = 9 by omega) with rfl | rfl | rfl | rfl | rfl | rfl | rfl | rfl | rfl | rfl
    · exact nf64_2_0 ⟨z, h2⟩ ⟨v, hv⟩
    · exact nf64_2_1 ⟨z, h2⟩ ⟨v, hv⟩
    · exact nf64_2_2 ⟨z, h2⟩ ⟨v, hv⟩
    · exact nf64_2_3 ⟨z, h2⟩ ⟨v, hv⟩
    · exact nf64_2_4 ⟨z, h2⟩ ⟨v, hv⟩
    · exact nf64_2_5 ⟨z, h2⟩ ⟨v, hv⟩
    · exact nf64_2_6 ⟨z, h2⟩ ⟨v, hv⟩
    · exact nf64_2_7 ⟨z, h2⟩ ⟨v, hv⟩
    · exact nf64_2_8 ⟨z, h2⟩ ⟨v, hv⟩
    · exact nf64_2_9 ⟨z, h2⟩ ⟨v, hv⟩
  · rcases (show w = 0 ∨ w = 1 ∨ w = 2 ∨ w = 3 ∨ w = 4 ∨ w = 5 ∨ w = 6 ∨ w = 7 ∨ w = 8 ∨ w = 9 by omega) with rfl | rfl | rfl | rfl | rfl | rfl | rfl | rfl | rfl | rfl
    · exact nf64_3_0 ⟨z, h2⟩ ⟨v, hv⟩
    · exact nf64_3_1 ⟨z, h2⟩ ⟨v, hv⟩
    · exact nf64_3_2 ⟨z, h2⟩ ⟨v, hv⟩
    · exact nf64_3_3 ⟨z, h2⟩ ⟨v, hv⟩
    · exact nf64_3_4 ⟨z, h2⟩ ⟨v, hv⟩
    · exact nf64_3_5 ⟨z, h2⟩ ⟨v, hv⟩
    · exact nf64_3_6 ⟨z, h2⟩ ⟨v, hv⟩
    · exact nf64_3_7 ⟨z, h2⟩ ⟨v, hv⟩
    · exact nf64_3_8 ⟨z, h2⟩ ⟨v, hv⟩
    · exact nf64_3_9 ⟨z, h2⟩ ⟨v, hv⟩
  · rcases (show w = 0 ∨ w = 1 ∨ w = 2 ∨ w = 3 ∨ w = 4 ∨ w = 5 ∨ w = 6 ∨ w = 7 ∨ w = 8 ∨ w = 9 by omega) with rfl | rfl | rfl | rfl | rfl | rfl | rfl | rfl | rfl | rfl
    · exact nf64_4_0 ⟨z, h2⟩ ⟨v, hv⟩
    · exact nf64_4_1 ⟨z, h2⟩ ⟨v, hv⟩
    · exact nf64_4_2 ⟨z, h2⟩ ⟨v, hv⟩
    · exact nf64_4_3 ⟨z, h2⟩ ⟨v, hv⟩
    · exact nf64_4_4 ⟨z, h2⟩ ⟨v, hv⟩
    · exact nf64_4_5 ⟨z, h2⟩ ⟨v, hv⟩
    · exact nf64_4_6 ⟨z, h2⟩ ⟨v, hv⟩
    · exact nf64_4_7 ⟨z, h2⟩ ⟨v, hv⟩
    · exact nf64_4_8 ⟨z, h2⟩ ⟨v, hv⟩
    · exact nf64_4_9 ⟨z, h2⟩ ⟨v, hv⟩
  · rcases (show w = 0 ∨ w = 1 ∨ w = 2 ∨ w = 3 ∨ w = 4 ∨ w = 5 ∨ w = 6 ∨ w = 7 ∨ w = 8 ∨ w = 9 by omega) with rfl | rfl | rfl | rfl | rfl | rfl | rfl | rfl | rfl | rfl
    · exact nf64_5_0 ⟨z, h2⟩ ⟨v, hv⟩
    · exact nf64_5_1 ⟨z, h2⟩ ⟨v, hv⟩
    · exact nf64_5_2 ⟨z, h2⟩ ⟨v, hv⟩
    · exact nf64_5_3 ⟨z, h2⟩ ⟨v, hv⟩
    · exact nf64_5_4 ⟨z, h2⟩ ⟨v, hv⟩
    · exact nf64_5_5 ⟨z, h2⟩ ⟨v, hv⟩
    · exact nf64_5_6 ⟨z, h2⟩ ⟨v, hv⟩
    · exact nf64_5_7 ⟨z, h2⟩ ⟨v, hv⟩
    · exact nf64_5_8 ⟨z, h2⟩ ⟨v, hv⟩
    · exact nf64_5_9 ⟨z, h2⟩ ⟨v, hv⟩
  · rcases (show w = 0 ∨ w = 1 ∨ w = 2 ∨ w = 3 ∨ w = 4 ∨ w = 5 ∨ w = 6 ∨ w = 7 ∨ w = 8 ∨ w = 9 by omega) with rfl | rfl | rfl | rfl | rfl | rfl | rfl | rfl | rfl | rfl
    · exact nf64_6_0 ⟨z, h2⟩ ⟨v, hv⟩
    · exact nf64_6_1 ⟨z, h2⟩ ⟨v, hv⟩
    · exact nf64_6_2 ⟨z, h2⟩ ⟨v, hv⟩
    · exact nf64_6_3 ⟨z, h2⟩ ⟨v, hv⟩
    · exact nf64_6_4 ⟨z, h2⟩ ⟨v, hv⟩
    · exact nf64_6_5 ⟨z, h2⟩ ⟨v, hv⟩
    · exact nf64_6_6 ⟨z, h2⟩ ⟨v, hv⟩
    · exact nf64_6_7 ⟨z, h2⟩ ⟨v, hv⟩
    · exact nf64_6_8 ⟨z, h2⟩ ⟨v, hv⟩
    · exact nf64_6_9 ⟨z, h2⟩ ⟨v, hv⟩
  · rcases (show w = 0 ∨ w = 1 ∨ w = 2 ∨ w = 3 ∨ w = 4 ∨ w = 5 ∨ w = 6 ∨ w = 7 ∨ w = 8 ∨ w = 9 by omega) with rfl | rfl | rfl | rfl | rfl | rfl | rfl | rfl | rfl | rfl
    · exact nf64_7_0 ⟨z, h2⟩ ⟨v, hv⟩
    · exact nf64_7_1 ⟨z, h2⟩ ⟨v, hv⟩
    · exact nf64_7_2 ⟨z, h2⟩ ⟨v, hv⟩
    · exact nf64_7_3 ⟨z, h2⟩ ⟨v, hv⟩
    · exact nf64_7_4 ⟨z, h2⟩ ⟨v, hv⟩
    · exact nf64_7_5 ⟨z, h2⟩ ⟨v, hv⟩
    · exact nf64_7_6 ⟨z, h2⟩ ⟨v, hv⟩
    · exact nf64_7_7 ⟨z, h2⟩ ⟨v, hv⟩
    · exact nf64_7_8 ⟨z, h2⟩ ⟨v, hv⟩
    · exact nf64_7_9 ⟨z, h2⟩ ⟨v, hv⟩
  · rcases (show w = 0 ∨ w = 1 ∨ w = 2 ∨ w = 3 ∨ w = 4 ∨ w = 5 ∨ w = 6 ∨ w = 7 ∨ w = 8 ∨ w = 9 by omega) with rfl | rfl | rfl | rfl | rfl | rfl | rfl | rfl | rfl | rfl
    · exact nf64_8_0 ⟨z, h2⟩ ⟨v, hv⟩
    · exact nf64_8_1 ⟨z, h2⟩ ⟨v, hv⟩
    · exact nf64_8_2 ⟨z, h2⟩ ⟨v, hv⟩
    · exact nf64_8_3 ⟨z, h2⟩ ⟨v, hv⟩
    · exact nf64_8_4 ⟨z, h2⟩ ⟨v, hv⟩
    · exact nf64_8_5 ⟨z, h2⟩ ⟨v, hv⟩
    · exact nf64_8_6 ⟨z, h2⟩ ⟨v, hv⟩
    · exact nf64_8_7 ⟨z, h2⟩ ⟨v, hv⟩
    · exact nf64_8_8 ⟨z, h2⟩ ⟨v, hv⟩
    · exact nf64_8_9 ⟨z, h2⟩ ⟨v, hv⟩
theorem nf64 {a b : Nat} (ha : a ≤ 7992) (hb : b ≤ 8) (h0 : b ≠ 0) : vf_n64 (FP.ddiv (FP.i2d (nI a)) (FP.i2d (nI b))) := by
  have h := nf64_all (b - 1) (a / 90) (a % 90) (by omega) (by omega) (by omega)
  simp only [Nat.div_add_mod, show b - 1 + 1 = b by omega] at h
  exact h


