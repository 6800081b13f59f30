set_option maxRecDepth 100000 in
theorem uX0 : ∀ w ∈ u_ws RX0 TX0 5, w ∈ gg_gt := by decide +kernel
set_option maxRecDepth 100000 in
theorem uX1 : ∀ w ∈ u_ws RX1 TX1 5, w ∈ gg_gt := by decide +kernel
set_option maxRecDepth 100000 in
theorem uX2 : ∀ w ∈ u_ws RX2 TX2 3, w ∈ gg_gt := by decide +kernel
set_option maxRecDepth 100000 in
theorem uX3 : ∀ w ∈ u_ws RX3 TX3 5, w ∈ gg_gt := by decide +kernel
set_option maxRecDepth 100000 in
theorem uX4 : ∀ w ∈ u_ws RX4 TX4 9, w ∈ gg_gt := by decide +kernel
set_option maxRecDepth 100000 in
theorem uX5 : ∀ w ∈ u_ws RX5 TX5 19, w ∈ gg_gt := by decide +kernel
theorem fX4_9 : gg_FL RX4 9 4 0 := ⟨RX4, TX4, 9, rfl, by decide, uX4, rfl, Or.inl (gg_mem 160 (by decide +kernel) (by decide +kernel))⟩
theorem fX4_15 : gg_FL RX4 15 4 1 := ⟨RX4, TX4, 9, rfl, by decide, uX4, rfl, Or.inl (gg_mem 161 (by decide +kernel) (by decide +kernel))⟩
theorem fX4_21 : gg_FL RX4 21 4 2 := ⟨RX4, TX4, 9, rfl, by decide, uX4, rfl, Or.inl (gg_mem 162 (by decide +kernel) (by decide +kernel))⟩
theorem fX4_28 : gg_FL RX4 28 4 3 := ⟨RX4, TX4, 9, rfl, by decide, uX4, rfl, Or.inl (gg_mem 163 (by decide +kernel) (by decide +kernel))⟩
theorem fX4_32 : gg_FL RX4 32 4 4 := ⟨RX4, TX4, 9, rfl, by decide, uX4, rfl, Or.inl (gg_mem 164 (by decide +kernel) (by decide +kernel))⟩
theorem fX4_35 : gg_FL RX4 35 4 5 := ⟨RX4, TX4, 9, rfl, by decide, uX4, rfl, Or.inl (gg_mem 165 (by decide +kernel) (by decide +kernel))⟩
theorem fX4_39 : gg_FL RX4 39 4 6 := ⟨RX4, TX4, 9, rfl, by decide, uX4, rfl, Or.inl (gg_mem 166 (by decide +kernel) (by decide +kernel))⟩
theorem fX4_42 : gg_FL RX4 42 4 7 := ⟨RX4, TX4, 9, rfl, by decide, uX4, rfl, Or.inl (gg_mem 167 (by decide +kernel) (by decide +kernel))⟩
theorem fX4_46 : gg_FL RX4 46 4 8 := ⟨RX4, TX4, 9, rfl, by decide, uX4, rfl, Or.inl (gg_mem 168 (by decide +kernel) (by decide +kernel))⟩
theorem fX4_89 : gg_FL RX4 89 0 4 := ⟨RX0, TX0, 5, rfl, by decide, uX0, rfl, Or.inr ⟨"MissRegisters", by decide +kernel⟩⟩
theorem fX4_92 : gg_FL RX4 92 0 2 := ⟨RX0, TX0, 5, rfl, by decide, uX0, rfl, Or.inr ⟨"MissRegisters", by decide +kernel⟩⟩
theorem fX4_97 : gg_FL RX4 97 3 2 := ⟨RX3, TX3, 5, rfl, by decide, uX3, rfl, Or.inr ⟨"MissRegisters", by decide +kernel⟩⟩
theorem fX4_100 : gg_FL RX4 100 3 1 := ⟨RX3, TX3, 5, rfl, by decide, uX3, rfl, Or.inr ⟨"MissRegisters", by decide +kernel⟩⟩
theorem fX4_103 : gg_FL RX4 103 3 0 := ⟨RX3, TX3, 5, rfl, by decide, uX3, rfl, Or.inr ⟨"MissRegisters", by decide +kernel⟩⟩
theorem fX4_112 : gg_FL RX4 112 3 3 := ⟨RX3, TX3, 5, rfl, by decide, uX3, rfl, Or.inr ⟨"MissRegisters", by decide +kernel⟩⟩
theorem fX4_122 : gg_FL RX4 122 1 4 := ⟨RX1, TX1, 5, rfl, by decide, uX1, rfl, Or.inr ⟨"MissRegisters", by decide +kernel⟩⟩
theorem fX4_129 : gg_FL RX4 129 2 2 := ⟨RX2, TX2, 3, rfl, by decide, uX2, rfl, Or.inr ⟨"MissRegisters", by decide +kernel⟩⟩
theorem fX4_135 : gg_FL RX4 135 2 1 := ⟨RX2, TX2, 3, rfl, by decide, uX2, rfl, Or.inr ⟨"MissRegisters", by decide +kernel⟩⟩
theorem fX4_136 : gg_FL RX4 136 0 3 := ⟨RX0, TX0, 5, rfl, by decide, uX0, rfl, Or.inr ⟨"MissRegisters", by decide +kernel⟩⟩
theorem fX4_191 : gg_FL RX4 191 1 3 := ⟨RX1, TX1, 5, rfl, by decide, uX1, rfl, Or.inr ⟨"MissRegisters", by decide +kernel⟩⟩
theorem fX4_198 : gg_FL RX4 198 3 4 := ⟨RX3, TX3, 5, rfl, by decide, uX3, rfl, Or.inr ⟨"MissRegisters", by decide +kernel⟩⟩
theorem fX4_208 : gg_FL RX4 208 2 0 := ⟨RX2, TX2, 3, rfl, by decide, uX2, rfl, Or.inr ⟨"MissRegisters", by decide +kernel⟩⟩
theorem fX4_209 : gg_FL RX4 209 1 0 := ⟨RX1, TX1, 5, rfl, by decide, uX1, rfl, Or.inr ⟨"MissRegisters", by decide +kernel⟩⟩
theorem fX4_212 : gg_FL RX4 212 1 1 := ⟨RX1, TX1, 5, rfl, by decide, uX1, rfl, Or.inr ⟨"MissRegisters", by decide +kernel⟩⟩
theorem fX4_213 : gg_FL RX4 213 1 2 := ⟨RX1, TX1, 5, rfl, by decide, uX1, rfl, Or.inr ⟨"MissRegisters", by decide +kernel⟩⟩
theorem fX0_11 : gg_FL RX0 11 0 0 := ⟨RX0, TX0, 5, rfl, by decide, uX0, rfl, Or.inl (gg_mem 88 (by decide +kernel) (by decide +kernel))⟩
theorem fX0_17 : gg_FL RX0 17 0 1 := ⟨RX0, TX0, 5, rfl, by decide, uX0, rfl, Or.inl (gg_mem 89 (by decide +kernel) (by decide +kernel))⟩
theorem fX0_21 : gg_FL RX0 21 0 2 := ⟨RX0, TX0, 5, rfl, by decide, uX0, rfl, Or.inl (gg_mem 90 (by decide +kernel) (by decide +kernel))⟩
theorem fX0_24 : gg_FL RX0 24 0 3 := ⟨RX0, TX0, 5, rfl, by decide, uX0, rfl, Or.inl (gg_mem 92 (by decide +kernel) (by decide +kernel))⟩
theorem fX0_27 : gg_FL RX0 27 0 4 := ⟨RX0, TX0, 5, rfl, by decide, uX0, rfl, Or.inl (gg_mem 94 (by decide +kernel) (by decide +kernel))⟩
theorem fX0_35 : gg_FL RX0 35 2 2 := ⟨RX2, TX2, 3, rfl, by decide, uX2, rfl, Or.inr ⟨"MissRegisters", by decide +kernel⟩⟩
theorem fX0_39 : gg_FL RX0 39 2 1 := ⟨RX2, TX2, 3, rfl, by decide, uX2, rfl, Or.inr ⟨"MissRegisters", by decide +kernel⟩⟩
theorem fX0_46 : gg_FL RX0 46 2 0 := ⟨RX2, TX2, 3, rfl, by decide, uX2, rfl, Or.inr ⟨"MissRegisters", by decide +kernel⟩⟩
theorem fX1_9 : gg_FL RX1 9 1 0 := ⟨RX1, TX1, 5, rfl, by decide, uX1, rfl, Or.inl (gg_mem 139 (by decide +kernel) (by decide +kernel))⟩
theorem fX1_15 : gg_FL RX1 15 1 1 := ⟨RX1, TX1, 5, rfl, by decide, uX1, rfl, Or.inl (gg_mem 141 (by decide +kernel) (by decide +kernel))⟩
theorem fX1_18 : gg_FL RX1 18 1 2 := ⟨RX1, TX1, 5, rfl, by decide, uX1, rfl, Or.inl (gg_mem 143 (by decide +kernel) (by decide +kernel))⟩
theorem fX1_22 : gg_FL RX1 22 1 3 := ⟨RX1, TX1, 5, rfl, by decide, uX1, rfl, Or.inl (gg_mem 145 (by decide +kernel) (by decide +kernel))⟩
theorem fX1_26 : gg_FL RX1 26 1 4 := ⟨RX1, TX1, 5, rfl, by decide, uX1, rfl, Or.inl (gg_mem 147 (by decide +kernel) (by decide +kernel))⟩
theorem fX2_9 : gg_FL RX2 9 2 0 := ⟨RX2, TX2, 3, rfl, by decide, uX2, rfl, Or.inl (gg_mem 71 (by decide +kernel) (by decide +kernel))⟩
theorem fX2_15 : gg_FL RX2 15 2 1 := ⟨RX2, TX2, 3, rfl, by decide, uX2, rfl, Or.inl (gg_mem 74 (by decide +kernel) (by decide +kernel))⟩
theorem fX2_19 : gg_FL RX2 19 2 2 := ⟨RX2, TX2, 3, rfl, by decide, uX2, rfl, Or.inl (gg_mem 77 (by decide +kernel) (by decide +kernel))⟩
theorem fX3_9 : gg_FL RX3 9 3 0 := ⟨RX3, TX3, 5, rfl, by decide, uX3, rfl, Or.inl (gg_mem 112 (by decide +kernel) (by decide +kernel))⟩
theorem fX3_15 : gg_FL RX3 15 3 1 := ⟨RX3, TX3, 5, rfl, by decide, uX3, rfl, Or.inl (gg_mem 114 (by decide +kernel) (by decide +kernel))⟩
theorem fX3_19 : gg_FL RX3 19 3 2 := ⟨RX3, TX3, 5, rfl, by decide, uX3, rfl, Or.inl (gg_mem 116 (by decide +kernel) (by decide +kernel))⟩
theorem fX3_23 : gg_FL RX3 23 3 3 := ⟨RX3, TX3, 5, rfl, by decide, uX3, rfl, Or.inl (gg_mem 118 (by decide +kernel) (by decide +kernel))⟩
theorem fX3_27 : gg_FL RX3 27 3 4 := ⟨RX3, TX3, 5, rfl, by decide, uX3, rfl, Or.inl (gg_mem 120 (by decide +kernel) (by decide +kernel))⟩
theorem fX5_7 : gg_FL RX5 7 5 1 := ⟨RX5, TX5, 19, rfl, by decide, uX5, rfl, Or.inl (gg_mem 480 (by decide +kernel) (by decide +kernel))⟩
theorem fX5_13 : gg_FL RX5 13 5 2 := ⟨RX5, TX5, 19, rfl, by decide, uX5, rfl, Or.inl (gg_mem 481 (by decide +kernel) (by decide +kernel))⟩
theorem fX5_16 : gg_FL RX5 16 5 3 := ⟨RX5, TX5, 19, rfl, by decide, uX5, rfl, Or.inl (gg_mem 482 (by decide +kernel) (by decide +kernel))⟩
theorem fX5_19 : gg_FL RX5 19 5 4 := ⟨RX5, TX5, 19, rfl, by decide, uX5, rfl, Or.inl (gg_mem 483 (by decide +kernel) (by decide +kernel))⟩
theorem fX5_22 : gg_FL RX5 22 5 5 := ⟨RX5, TX5, 19, rfl, by decide, uX5, rfl, Or.inl (gg_mem 484 (by decide +kernel) (by decide +kernel))⟩
theorem fX5_25 : gg_FL RX5 25 5 8 := ⟨RX5, TX5, 19, rfl, by decide, uX5, rfl, Or.inl (gg_mem 487 (by decide +kernel) (by decide +kernel))⟩
theorem fX5_28 : gg_FL RX5 28 5 9 := ⟨RX5, TX5, 19, rfl, by decide, uX5, rfl, Or.inl (gg_mem 488 (by decide +kernel) (by decide +kernel))⟩
theorem fX5_32 : gg_FL RX5 32 5 10 := ⟨RX5, TX5, 19, rfl, by decide, uX5, rfl, Or.inl (gg_mem 489 (by decide +kernel) (by decide +kernel))⟩
theorem fX5_35 : gg_FL RX5 35 5 11 := ⟨RX5, TX5, 19, rfl, by decide, uX5, rfl, Or.inl (gg_mem 490 (by decide +kernel) (by decide +kernel))⟩
theorem fX5_38 : gg_FL RX5 38 5 13 := ⟨RX5, TX5, 19, rfl, by decide, uX5, rfl, Or.inl (gg_mem 492 (by decide +kernel) (by decide +kernel))⟩
theorem fX5_41 : gg_FL RX5 41 5 14 := ⟨RX5, TX5, 19, rfl, by decide, uX5, rfl, Or.inl (gg_mem 493 (by decide +kernel) (by decide +kernel))⟩
theorem fX5_44 : gg_FL RX5 44 5 16 := ⟨RX5, TX5, 19, rfl, by decide, uX5, rfl, Or.inl (gg_mem 495 (by decide +kernel) (by decide +kernel))⟩
theorem fX5_48 : gg_FL RX5 48 5 18 := ⟨RX5, TX5, 19, rfl, by decide, uX5, rfl, Or.inl (gg_mem 497 (by decide +kernel) (by decide +kernel))⟩
theorem fX5_51 : gg_FL RX5 51 5 0 := ⟨RX5, TX5, 19, rfl, by decide, uX5, rfl, Or.inl (gg_mem 479 (by decide +kernel) (by decide +kernel))⟩
theorem fX5_54 : gg_FL RX5 54 5 7 := ⟨RX5, TX5, 19, rfl, by decide, uX5, rfl, Or.inl (gg_mem 486 (by decide +kernel) (by decide +kernel))⟩
theorem fX5_57 : gg_FL RX5 57 5 12 := ⟨RX5, TX5, 19, rfl, by decide, uX5, rfl, Or.inl (gg_mem 491 (by decide +kernel) (by decide +kernel))⟩
theorem fX5_60 : gg_FL RX5 60 5 6 := ⟨RX5, TX5, 19, rfl, by decide, uX5, rfl, Or.inl (gg_mem 485 (by decide +kernel) (by decide +kernel))⟩
theorem fX5_63 : gg_FL RX5 63 5 15 := ⟨RX5, TX5, 19, rfl, by decide, uX5, rfl, Or.inl (gg_mem 494 (by decide +kernel) (by decide +kernel))⟩
theorem fX5_74 : gg_FL RX5 74 5 17 := ⟨RX5, TX5, 19, rfl, by decide, uX5, rfl, Or.inl (gg_mem 496 (by decide +kernel) (by decide +kernel))⟩
theorem p4_7 : gg_FP 4 7 .boolean := ⟨RX4, TX4, 9, tyX4, rfl, tyX4_ok, nmX4, rfl, by decide +kernel⟩
theorem p4_8 : gg_FP 4 8 .int := ⟨RX4, TX4, 9, tyX4, rfl, tyX4_ok, nmX4, rfl, by decide +kernel⟩
theorem p0_1 : gg_FP 0 1 .int := ⟨RX0, TX0, 5, tyX0, rfl, tyX0_ok, nmX0, rfl, by decide +kernel⟩
theorem p0_2 : gg_FP 0 2 .int := ⟨RX0, TX0, 5, tyX0, rfl, tyX0_ok, nmX0, rfl, by decide +kernel⟩
theorem p0_3 : gg_FP 0 3 .int := ⟨RX0, TX0, 5, tyX0, rfl, tyX0_ok, nmX0, rfl, by decide +kernel⟩
theorem p0_4 : gg_FP 0 4 .int := ⟨RX0, TX0, 5, tyX0, rfl, tyX0_ok, nmX0, rfl, by decide +kernel⟩
theorem p3_1 : gg_FP 3 1 .int := ⟨RX3, TX3, 5, tyX3, rfl, tyX3_ok, nmX3, rfl, by decide +kernel⟩
theorem p3_2 : gg_FP 3 2 .boolean := ⟨RX3, TX3, 5, tyX3, rfl, tyX3_ok, nmX3, rfl, by decide +kernel⟩
theorem p3_3 : gg_FP 3 3 (.object "MissRegisters$Register") := ⟨RX3, TX3, 5, tyX3, rfl, tyX3_ok, nmX3, rfl, by decide +kernel⟩
theorem p3_4 : gg_FP 3 4 .int := ⟨RX3, TX3, 5, tyX3, rfl, tyX3_ok, nmX3, rfl, by decide +kernel⟩
theorem p1_3 : gg_FP 1 3 .boolean := ⟨RX1, TX1, 5, tyX1, rfl, tyX1_ok, nmX1, rfl, by decide +kernel⟩
theorem p1_4 : gg_FP 1 4 .int := ⟨RX1, TX1, 5, tyX1, rfl, tyX1_ok, nmX1, rfl, by decide +kernel⟩
theorem p2_1 : gg_FP 2 1 .int := ⟨RX2, TX2, 3, tyX2, rfl, tyX2_ok, nmX2, rfl, by decide +kernel⟩
theorem p2_2 : gg_FP 2 2 (.object "MissRegisters$Way") := ⟨RX2, TX2, 3, tyX2, rfl, tyX2_ok, nmX2, rfl, by decide +kernel⟩
theorem p5_0 : gg_FP 5 0 .int := ⟨RX5, TX5, 19, tyX5, rfl, tyX5_ok, nmX5, rfl, by decide +kernel⟩
theorem p5_6 : gg_FP 5 6 .int := ⟨RX5, TX5, 19, tyX5, rfl, tyX5_ok, nmX5, rfl, by decide +kernel⟩
theorem p5_7 : gg_FP 5 7 .int := ⟨RX5, TX5, 19, tyX5, rfl, tyX5_ok, nmX5, rfl, by decide +kernel⟩
theorem p5_12 : gg_FP 5 12 .int := ⟨RX5, TX5, 19, tyX5, rfl, tyX5_ok, nmX5, rfl, by decide +kernel⟩
theorem p5_15 : gg_FP 5 15 .int := ⟨RX5, TX5, 19, tyX5, rfl, tyX5_ok, nmX5, rfl, by decide +kernel⟩
theorem p5_16 : gg_FP 5 16 .int := ⟨RX5, TX5, 19, tyX5, rfl, tyX5_ok, nmX5, rfl, by decide +kernel⟩
theorem p5_17 : gg_FP 5 17 .boolean := ⟨RX5, TX5, 19, tyX5, rfl, tyX5_ok, nmX5, rfl, by decide +kernel⟩
set_option maxRecDepth 100000 in
theorem gX0_31 : gg_CV RX0 31 yX0_at cX0_at 2 (some (.object "MissRegisters$Request")) 0 1 := ⟨(gg_mem 311 (by decide +kernel) (by decide +kernel)), (gg_mem 197 (by decide +kernel) (by decide +kernel)), (gg_mem 198 (by decide +kernel) (by decide +kernel)), (gg_mem 199 rfl rfl), (gg_mem 36 (by decide +kernel) (by decide +kernel)), by decide +kernel, by decide +kernel, TX0, 5, rfl⟩
set_option maxRecDepth 100000 in
theorem gX0_42 : gg_CV RX0 42 yX0_append cX0_append 4 (some (.object "MissRegisters$Request")) 0 2 := ⟨(gg_mem 316 (by decide +kernel) (by decide +kernel)), (gg_mem 317 (by decide +kernel) (by decide +kernel)), (gg_mem 318 (by decide +kernel) (by decide +kernel)), (gg_mem 319 rfl rfl), (gg_mem 36 (by decide +kernel) (by decide +kernel)), by decide +kernel, by decide +kernel, TX0, 5, rfl⟩
set_option maxRecDepth 100000 in
theorem gX4_106 : gg_CV RX4 106 yX4_copyToMemory cX4_copyToMemory 4 none 4 2 := ⟨(gg_mem 394 (by decide +kernel) (by decide +kernel)), (gg_mem 396 (by decide +kernel) (by decide +kernel)), (gg_mem 15 (by decide +kernel) (by decide +kernel)), (gg_mem 397 rfl rfl), (gg_mem 35 (by decide +kernel) (by decide +kernel)), by decide +kernel, by decide +kernel, TX4, 9, rfl⟩
set_option maxRecDepth 100000 in
theorem gX4_118 : gg_CV RX4 118 yX4_findWay cX4_findWay 4 (some (.object "MissRegisters$Way")) 4 1 := ⟨(gg_mem 291 (by decide +kernel) (by decide +kernel)), (gg_mem 293 (by decide +kernel) (by decide +kernel)), (gg_mem 3 (by decide +kernel) (by decide +kernel)), (gg_mem 294 rfl rfl), (gg_mem 35 (by decide +kernel) (by decide +kernel)), by decide +kernel, by decide +kernel, TX4, 9, rfl⟩
set_option maxRecDepth 100000 in
theorem gX4_125 : gg_CV RX4 125 yX0_at cX0_at 2 (some (.object "MissRegisters$Request")) 0 1 := ⟨(gg_mem 196 (by decide +kernel) (by decide +kernel)), (gg_mem 197 (by decide +kernel) (by decide +kernel)), (gg_mem 198 (by decide +kernel) (by decide +kernel)), (gg_mem 199 rfl rfl), (gg_mem 36 (by decide +kernel) (by decide +kernel)), by decide +kernel, by decide +kernel, TX0, 5, rfl⟩
set_option maxRecDepth 100000 in
theorem gX4_147 : gg_CV RX4 147 yX4_isTaken cX4_isTaken 8 (some .boolean) 4 4 := ⟨(gg_mem 287 (by decide +kernel) (by decide +kernel)), (gg_mem 289 (by decide +kernel) (by decide +kernel)), (gg_mem 2 (by decide +kernel) (by decide +kernel)), (gg_mem 290 rfl rfl), (gg_mem 35 (by decide +kernel) (by decide +kernel)), by decide +kernel, by decide +kernel, TX4, 9, rfl⟩
set_option maxRecDepth 100000 in
theorem gX4_151 : gg_CV RX4 151 yX4_misses cX4_misses 7 (some .boolean) 4 4 := ⟨(gg_mem 295 (by decide +kernel) (by decide +kernel)), (gg_mem 297 (by decide +kernel) (by decide +kernel)), (gg_mem 4 (by decide +kernel) (by decide +kernel)), (gg_mem 298 rfl rfl), (gg_mem 35 (by decide +kernel) (by decide +kernel)), by decide +kernel, by decide +kernel, TX4, 9, rfl⟩
set_option maxRecDepth 100000 in
theorem gX4_155 : gg_CV RX4 155 yX4_joins cX4_joins 6 (some .boolean) 4 5 := ⟨(gg_mem 337 (by decide +kernel) (by decide +kernel)), (gg_mem 339 (by decide +kernel) (by decide +kernel)), (gg_mem 10 (by decide +kernel) (by decide +kernel)), (gg_mem 340 rfl rfl), (gg_mem 35 (by decide +kernel) (by decide +kernel)), by decide +kernel, by decide +kernel, TX4, 9, rfl⟩
set_option maxRecDepth 100000 in
theorem gX4_159 : gg_CV RX4 159 yX4_use cX4_use 2 none 4 1 := ⟨(gg_mem 324 (by decide +kernel) (by decide +kernel)), (gg_mem 326 (by decide +kernel) (by decide +kernel)), (gg_mem 8 (by decide +kernel) (by decide +kernel)), (gg_mem 327 rfl rfl), (gg_mem 35 (by decide +kernel) (by decide +kernel)), by decide +kernel, by decide +kernel, TX4, 9, rfl⟩
set_option maxRecDepth 100000 in
theorem gX4_163 : gg_CV RX4 163 yX4_answer cX4_answer 5 none 4 4 := ⟨(gg_mem 341 (by decide +kernel) (by decide +kernel)), (gg_mem 343 (by decide +kernel) (by decide +kernel)), (gg_mem 11 (by decide +kernel) (by decide +kernel)), (gg_mem 344 rfl rfl), (gg_mem 35 (by decide +kernel) (by decide +kernel)), by decide +kernel, by decide +kernel, TX4, 9, rfl⟩
set_option maxRecDepth 100000 in
theorem gX4_167 : gg_CV RX4 167 yX1_addTarget cX1_addTarget 4 none 1 3 := ⟨(gg_mem 329 (by decide +kernel) (by decide +kernel)), (gg_mem 330 (by decide +kernel) (by decide +kernel)), (gg_mem 331 (by decide +kernel) (by decide +kernel)), (gg_mem 332 rfl rfl), (gg_mem 39 (by decide +kernel) (by decide +kernel)), by decide +kernel, by decide +kernel, TX1, 5, rfl⟩
set_option maxRecDepth 100000 in
theorem gX4_171 : gg_CV RX4 171 yX4_findFreeRegister cX4_findFreeRegister 2 (some (.object "MissRegisters$Register")) 4 0 := ⟨(gg_mem 299 (by decide +kernel) (by decide +kernel)), (gg_mem 301 (by decide +kernel) (by decide +kernel)), (gg_mem 5 (by decide +kernel) (by decide +kernel)), (gg_mem 302 rfl rfl), (gg_mem 35 (by decide +kernel) (by decide +kernel)), by decide +kernel, by decide +kernel, TX4, 9, rfl⟩
set_option maxRecDepth 100000 in
theorem gX4_175 : gg_CV RX4 175 yX4_chooseWay cX4_chooseWay 6 (some (.object "MissRegisters$Way")) 4 1 := ⟨(gg_mem 303 (by decide +kernel) (by decide +kernel)), (gg_mem 305 (by decide +kernel) (by decide +kernel)), (gg_mem 6 (by decide +kernel) (by decide +kernel)), (gg_mem 306 rfl rfl), (gg_mem 35 (by decide +kernel) (by decide +kernel)), by decide +kernel, by decide +kernel, TX4, 9, rfl⟩
set_option maxRecDepth 100000 in
theorem gX4_178 : gg_CV RX4 178 yX0_countWrites cX0_countWrites 3 (some .int) 0 0 := ⟨(gg_mem 307 (by decide +kernel) (by decide +kernel)), (gg_mem 308 (by decide +kernel) (by decide +kernel)), (gg_mem 309 (by decide +kernel) (by decide +kernel)), (gg_mem 310 rfl rfl), (gg_mem 36 (by decide +kernel) (by decide +kernel)), by decide +kernel, by decide +kernel, TX0, 5, rfl⟩
set_option maxRecDepth 100000 in
theorem gX4_181 : gg_CV RX4 181 yX0_appendWrite cX0_appendWrite 5 none 0 2 := ⟨(gg_mem 312 (by decide +kernel) (by decide +kernel)), (gg_mem 313 (by decide +kernel) (by decide +kernel)), (gg_mem 314 (by decide +kernel) (by decide +kernel)), (gg_mem 315 rfl rfl), (gg_mem 36 (by decide +kernel) (by decide +kernel)), by decide +kernel, by decide +kernel, TX0, 5, rfl⟩
set_option maxRecDepth 100000 in
theorem gX4_184 : gg_CV RX4 184 yX4_fetch cX4_fetch 4 none 4 3 := ⟨(gg_mem 320 (by decide +kernel) (by decide +kernel)), (gg_mem 322 (by decide +kernel) (by decide +kernel)), (gg_mem 7 (by decide +kernel) (by decide +kernel)), (gg_mem 323 rfl rfl), (gg_mem 35 (by decide +kernel) (by decide +kernel)), by decide +kernel, by decide +kernel, TX4, 9, rfl⟩
set_option maxRecDepth 100000 in
theorem gX4_188 : gg_CV RX4 188 yX4_fetchIfWanted cX4_fetchIfWanted 4 none 4 1 := ⟨(gg_mem 333 (by decide +kernel) (by decide +kernel)), (gg_mem 335 (by decide +kernel) (by decide +kernel)), (gg_mem 9 (by decide +kernel) (by decide +kernel)), (gg_mem 336 rfl rfl), (gg_mem 35 (by decide +kernel) (by decide +kernel)), by decide +kernel, by decide +kernel, TX4, 9, rfl⟩
set_option maxRecDepth 100000 in
theorem gX4_194 : gg_CV RX4 194 yX0_append cX0_append 4 (some (.object "MissRegisters$Request")) 0 2 := ⟨(gg_mem 328 (by decide +kernel) (by decide +kernel)), (gg_mem 317 (by decide +kernel) (by decide +kernel)), (gg_mem 318 (by decide +kernel) (by decide +kernel)), (gg_mem 319 rfl rfl), (gg_mem 36 (by decide +kernel) (by decide +kernel)), by decide +kernel, by decide +kernel, TX0, 5, rfl⟩
set_option maxRecDepth 100000 in
theorem gX4_201 : gg_CV RX4 201 yX0_dropFirst cX0_dropFirst 1 none 0 0 := ⟨(gg_mem 386 (by decide +kernel) (by decide +kernel)), (gg_mem 387 (by decide +kernel) (by decide +kernel)), (gg_mem 388 (by decide +kernel) (by decide +kernel)), (gg_mem 389 rfl rfl), (gg_mem 36 (by decide +kernel) (by decide +kernel)), by decide +kernel, by decide +kernel, TX0, 5, rfl⟩
set_option maxRecDepth 100000 in
theorem gX4_204 : gg_CV RX4 204 yX4_fill cX4_fill 5 (some .int) 4 2 := ⟨(gg_mem 390 (by decide +kernel) (by decide +kernel)), (gg_mem 392 (by decide +kernel) (by decide +kernel)), (gg_mem 14 (by decide +kernel) (by decide +kernel)), (gg_mem 393 rfl rfl), (gg_mem 35 (by decide +kernel) (by decide +kernel)), by decide +kernel, by decide +kernel, TX4, 9, rfl⟩
theorem gX4_52 : gg_CS RX4 52 yX4_checkAddress cX4_checkAddress 1 none 1 := ⟨(gg_mem 213 (by decide +kernel) (by decide +kernel)), (gg_mem 214 (by decide +kernel) (by decide +kernel)), (gg_mem 215 rfl rfl), (gg_mem 35 (by decide +kernel) (by decide +kernel)), by decide +kernel, by decide +kernel⟩
set_option maxRecDepth 100000 in
theorem gX4_56 : gg_CV RX4 56 yX4_issue cX4_issue 5 (some .int) 4 3 := ⟨(gg_mem 283 (by decide +kernel) (by decide +kernel)), (gg_mem 285 (by decide +kernel) (by decide +kernel)), (gg_mem 1 (by decide +kernel) (by decide +kernel)), (gg_mem 286 rfl rfl), (gg_mem 35 (by decide +kernel) (by decide +kernel)), by decide +kernel, by decide +kernel, TX4, 9, rfl⟩
theorem gX4_60 : gg_CS RX4 60 yX4_ticketOrStall cX4_ticketOrStall 1 (some .int) 1 := ⟨(gg_mem 345 (by decide +kernel) (by decide +kernel)), (gg_mem 346 (by decide +kernel) (by decide +kernel)), (gg_mem 347 rfl rfl), (gg_mem 35 (by decide +kernel) (by decide +kernel)), by decide +kernel, by decide +kernel⟩
set_option maxRecDepth 100000 in
theorem gX4_64 : gg_CV RX4 64 yX4_isAnswered cX4_isAnswered 2 (some .boolean) 4 1 := ⟨(gg_mem 378 (by decide +kernel) (by decide +kernel)), (gg_mem 380 (by decide +kernel) (by decide +kernel)), (gg_mem 12 (by decide +kernel) (by decide +kernel)), (gg_mem 381 rfl rfl), (gg_mem 35 (by decide +kernel) (by decide +kernel)), by decide +kernel, by decide +kernel, TX4, 9, rfl⟩
set_option maxRecDepth 100000 in
theorem gX4_68 : gg_CV RX4 68 yX4_passTick cX4_passTick 2 (some .int) 4 0 := ⟨(gg_mem 382 (by decide +kernel) (by decide +kernel)), (gg_mem 384 (by decide +kernel) (by decide +kernel)), (gg_mem 13 (by decide +kernel) (by decide +kernel)), (gg_mem 385 rfl rfl), (gg_mem 35 (by decide +kernel) (by decide +kernel)), by decide +kernel, by decide +kernel, TX4, 9, rfl⟩
set_option maxRecDepth 100000 in
theorem gX4_79 : gg_CV RX4 79 yX4_checkTicket cX4_checkTicket 2 none 4 1 := ⟨(gg_mem 413 (by decide +kernel) (by decide +kernel)), (gg_mem 415 (by decide +kernel) (by decide +kernel)), (gg_mem 16 (by decide +kernel) (by decide +kernel)), (gg_mem 416 rfl rfl), (gg_mem 35 (by decide +kernel) (by decide +kernel)), by decide +kernel, by decide +kernel, TX4, 9, rfl⟩
set_option maxRecDepth 100000 in
theorem gL_17 : gg_CV "MissRegistersLaw" 17 yX4_store cX4_store 3 (some .int) 4 2 := ⟨(gg_mem 367 (by decide +kernel) (by decide +kernel)), (gg_mem 368 (by decide +kernel) (by decide +kernel)), (gg_mem 369 (by decide +kernel) (by decide +kernel)), (gg_mem 370 rfl rfl), (gg_mem 35 (by decide +kernel) (by decide +kernel)), by decide +kernel, by decide +kernel, TX4, 9, rfl⟩
set_option maxRecDepth 100000 in
theorem gL_21 : gg_CV "MissRegistersLaw" 21 yX4_await cX4_await 4 (some .int) 4 1 := ⟨(gg_mem 374 (by decide +kernel) (by decide +kernel)), (gg_mem 375 (by decide +kernel) (by decide +kernel)), (gg_mem 376 (by decide +kernel) (by decide +kernel)), (gg_mem 377 rfl rfl), (gg_mem 35 (by decide +kernel) (by decide +kernel)), by decide +kernel, by decide +kernel, TX4, 9, rfl⟩
set_option maxRecDepth 100000 in
theorem gL_24 : gg_CV "MissRegistersLaw" 24 yX4_tick cX4_tick 4 (some .int) 4 1 := ⟨(gg_mem 401 (by decide +kernel) (by decide +kernel)), (gg_mem 402 (by decide +kernel) (by decide +kernel)), (gg_mem 403 (by decide +kernel) (by decide +kernel)), (gg_mem 404 rfl rfl), (gg_mem 35 (by decide +kernel) (by decide +kernel)), by decide +kernel, by decide +kernel, TX4, 9, rfl⟩
set_option maxRecDepth 100000 in
theorem gL_27 : gg_CV "MissRegistersLaw" 27 yX4_done cX4_done 2 (some .boolean) 4 1 := ⟨(gg_mem 409 (by decide +kernel) (by decide +kernel)), (gg_mem 410 (by decide +kernel) (by decide +kernel)), (gg_mem 411 (by decide +kernel) (by decide +kernel)), (gg_mem 412 rfl rfl), (gg_mem 35 (by decide +kernel) (by decide +kernel)), by decide +kernel, by decide +kernel, TX4, 9, rfl⟩
set_option maxRecDepth 100000 in
theorem gL_31 : gg_CV "MissRegistersLaw" 31 yX4_value cX4_value 2 (some .int) 4 1 := ⟨(gg_mem 421 (by decide +kernel) (by decide +kernel)), (gg_mem 422 (by decide +kernel) (by decide +kernel)), (gg_mem 423 (by decide +kernel) (by decide +kernel)), (gg_mem 424 rfl rfl), (gg_mem 35 (by decide +kernel) (by decide +kernel)), by decide +kernel, by decide +kernel, TX4, 9, rfl⟩
set_option maxRecDepth 100000 in
theorem gL_34 : gg_CV "MissRegistersLaw" 34 yX4_delay cX4_delay 2 none 4 1 := ⟨(gg_mem 429 (by decide +kernel) (by decide +kernel)), (gg_mem 430 (by decide +kernel) (by decide +kernel)), (gg_mem 431 (by decide +kernel) (by decide +kernel)), (gg_mem 432 rfl rfl), (gg_mem 35 (by decide +kernel) (by decide +kernel)), by decide +kernel, by decide +kernel, TX4, 9, rfl⟩
set_option maxRecDepth 100000 in
theorem gL_38 : gg_CV "MissRegistersLaw" 38 yX4_flush cX4_flush 3 (some .int) 4 0 := ⟨(gg_mem 437 (by decide +kernel) (by decide +kernel)), (gg_mem 438 (by decide +kernel) (by decide +kernel)), (gg_mem 439 (by decide +kernel) (by decide +kernel)), (gg_mem 440 rfl rfl), (gg_mem 35 (by decide +kernel) (by decide +kernel)), by decide +kernel, by decide +kernel, TX4, 9, rfl⟩
set_option maxRecDepth 100000 in
theorem gL_42 : gg_CV "MissRegistersLaw" 42 yX4_memory cX4_memory 2 (some .int) 4 1 := ⟨(gg_mem 445 (by decide +kernel) (by decide +kernel)), (gg_mem 446 (by decide +kernel) (by decide +kernel)), (gg_mem 447 (by decide +kernel) (by decide +kernel)), (gg_mem 448 rfl rfl), (gg_mem 35 (by decide +kernel) (by decide +kernel)), by decide +kernel, by decide +kernel, TX4, 9, rfl⟩
set_option maxRecDepth 100000 in
theorem gL_45 : gg_CV "MissRegistersLaw" 45 yX4_way cX4_way 4 (some .int) 4 2 := ⟨(gg_mem 452 (by decide +kernel) (by decide +kernel)), (gg_mem 453 (by decide +kernel) (by decide +kernel)), (gg_mem 454 (by decide +kernel) (by decide +kernel)), (gg_mem 455 rfl rfl), (gg_mem 35 (by decide +kernel) (by decide +kernel)), by decide +kernel, by decide +kernel, TX4, 9, rfl⟩
set_option maxRecDepth 100000 in
theorem gL_48 : gg_CV "MissRegistersLaw" 48 yX4_targets cX4_targets 3 (some .int) 4 1 := ⟨(gg_mem 460 (by decide +kernel) (by decide +kernel)), (gg_mem 461 (by decide +kernel) (by decide +kernel)), (gg_mem 462 (by decide +kernel) (by decide +kernel)), (gg_mem 463 rfl rfl), (gg_mem 35 (by decide +kernel) (by decide +kernel)), by decide +kernel, by decide +kernel, TX4, 9, rfl⟩
set_option maxRecDepth 100000 in
theorem gL_51 : gg_CV "MissRegistersLaw" 51 yX4_count cX4_count 2 (some .int) 4 1 := ⟨(gg_mem 468 (by decide +kernel) (by decide +kernel)), (gg_mem 469 (by decide +kernel) (by decide +kernel)), (gg_mem 470 (by decide +kernel) (by decide +kernel)), (gg_mem 471 rfl rfl), (gg_mem 35 (by decide +kernel) (by decide +kernel)), by decide +kernel, by decide +kernel, TX4, 9, rfl⟩
set_option maxRecDepth 100000 in
theorem gL_7 : gg_CV "MissRegistersLaw" 7 yX4_load cX4_load 2 (some .int) 4 1 := ⟨(gg_mem 209 (by decide +kernel) (by decide +kernel)), (gg_mem 210 (by decide +kernel) (by decide +kernel)), (gg_mem 211 (by decide +kernel) (by decide +kernel)), (gg_mem 212 rfl rfl), (gg_mem 35 (by decide +kernel) (by decide +kernel)), by decide +kernel, by decide +kernel, TX4, 9, rfl⟩
set_option maxRecDepth 100000 in
theorem gX5_102 : gg_CV RX5 102 yX5_stall cX5_stall 1 (some .int) 5 0 := ⟨(gg_mem 573 (by decide +kernel) (by decide +kernel)), (gg_mem 575 (by decide +kernel) (by decide +kernel)), (gg_mem 24 (by decide +kernel) (by decide +kernel)), (gg_mem 576 rfl rfl), (gg_mem 40 (by decide +kernel) (by decide +kernel)), by decide +kernel, by decide +kernel, TX5, 19, rfl⟩
set_option maxRecDepth 100000 in
theorem gX5_105 : gg_CV RX5 105 yX5_writes cX5_writes 3 (some .int) 5 0 := ⟨(gg_mem 585 (by decide +kernel) (by decide +kernel)), (gg_mem 587 (by decide +kernel) (by decide +kernel)), (gg_mem 27 (by decide +kernel) (by decide +kernel)), (gg_mem 588 rfl rfl), (gg_mem 40 (by decide +kernel) (by decide +kernel)), by decide +kernel, by decide +kernel, TX5, 19, rfl⟩
set_option maxRecDepth 100000 in
theorem gX5_108 : gg_CV RX5 108 yX5_fetchAhead cX5_fetchAhead 3 none 5 1 := ⟨(gg_mem 597 (by decide +kernel) (by decide +kernel)), (gg_mem 599 (by decide +kernel) (by decide +kernel)), (gg_mem 30 (by decide +kernel) (by decide +kernel)), (gg_mem 600 rfl rfl), (gg_mem 40 (by decide +kernel) (by decide +kernel)), by decide +kernel, by decide +kernel, TX5, 19, rfl⟩
set_option maxRecDepth 100000 in
theorem gX5_111 : gg_CV RX5 111 yX5_noAddress cX5_noAddress 2 (some .boolean) 5 1 := ⟨(gg_mem 545 (by decide +kernel) (by decide +kernel)), (gg_mem 547 (by decide +kernel) (by decide +kernel)), (gg_mem 17 (by decide +kernel) (by decide +kernel)), (gg_mem 548 rfl rfl), (gg_mem 40 (by decide +kernel) (by decide +kernel)), by decide +kernel, by decide +kernel, TX5, 19, rfl⟩
set_option maxRecDepth 100000 in
theorem gX5_115 : gg_CV RX5 115 yX5_issue cX5_issue 7 (some .int) 5 3 := ⟨(gg_mem 549 (by decide +kernel) (by decide +kernel)), (gg_mem 551 (by decide +kernel) (by decide +kernel)), (gg_mem 18 (by decide +kernel) (by decide +kernel)), (gg_mem 552 rfl rfl), (gg_mem 40 (by decide +kernel) (by decide +kernel)), by decide +kernel, by decide +kernel, TX5, 19, rfl⟩
set_option maxRecDepth 100000 in
theorem gX5_118 : gg_CV RX5 118 yX5_finish cX5_finish 5 (some .int) 5 0 := ⟨(gg_mem 613 (by decide +kernel) (by decide +kernel)), (gg_mem 615 (by decide +kernel) (by decide +kernel)), (gg_mem 32 (by decide +kernel) (by decide +kernel)), (gg_mem 616 rfl rfl), (gg_mem 40 (by decide +kernel) (by decide +kernel)), by decide +kernel, by decide +kernel, TX5, 19, rfl⟩
set_option maxRecDepth 100000 in
theorem gX5_121 : gg_CV RX5 121 yX5_pass cX5_pass 1 (some .int) 5 0 := ⟨(gg_mem 609 (by decide +kernel) (by decide +kernel)), (gg_mem 611 (by decide +kernel) (by decide +kernel)), (gg_mem 31 (by decide +kernel) (by decide +kernel)), (gg_mem 612 rfl rfl), (gg_mem 40 (by decide +kernel) (by decide +kernel)), by decide +kernel, by decide +kernel, TX5, 19, rfl⟩
set_option maxRecDepth 100000 in
theorem gX5_124 : gg_CV RX5 124 yX5_noTicket cX5_noTicket 2 (some .boolean) 5 1 := ⟨(gg_mem 625 (by decide +kernel) (by decide +kernel)), (gg_mem 627 (by decide +kernel) (by decide +kernel)), (gg_mem 33 (by decide +kernel) (by decide +kernel)), (gg_mem 628 rfl rfl), (gg_mem 40 (by decide +kernel) (by decide +kernel)), by decide +kernel, by decide +kernel, TX5, 19, rfl⟩
set_option maxRecDepth 100000 in
theorem gX5_66 : gg_CV RX5 66 yX5_use cX5_use 2 none 5 1 := ⟨(gg_mem 557 (by decide +kernel) (by decide +kernel)), (gg_mem 559 (by decide +kernel) (by decide +kernel)), (gg_mem 20 (by decide +kernel) (by decide +kernel)), (gg_mem 560 rfl rfl), (gg_mem 40 (by decide +kernel) (by decide +kernel)), by decide +kernel, by decide +kernel, TX5, 19, rfl⟩
set_option maxRecDepth 100000 in
theorem gX5_70 : gg_CV RX5 70 yX5_put cX5_put 4 none 5 2 := ⟨(gg_mem 589 (by decide +kernel) (by decide +kernel)), (gg_mem 591 (by decide +kernel) (by decide +kernel)), (gg_mem 28 (by decide +kernel) (by decide +kernel)), (gg_mem 592 rfl rfl), (gg_mem 40 (by decide +kernel) (by decide +kernel)), by decide +kernel, by decide +kernel, TX5, 19, rfl⟩
set_option maxRecDepth 100000 in
theorem gX5_78 : gg_CV RX5 78 yX5_wayOf cX5_wayOf 3 (some .int) 5 1 := ⟨(gg_mem 553 (by decide +kernel) (by decide +kernel)), (gg_mem 555 (by decide +kernel) (by decide +kernel)), (gg_mem 19 (by decide +kernel) (by decide +kernel)), (gg_mem 556 rfl rfl), (gg_mem 40 (by decide +kernel) (by decide +kernel)), by decide +kernel, by decide +kernel, TX5, 19, rfl⟩
set_option maxRecDepth 100000 in
theorem gX5_82 : gg_CV RX5 82 yX5_awaited cX5_awaited 3 (some .int) 5 0 := ⟨(gg_mem 581 (by decide +kernel) (by decide +kernel)), (gg_mem 583 (by decide +kernel) (by decide +kernel)), (gg_mem 26 (by decide +kernel) (by decide +kernel)), (gg_mem 584 rfl rfl), (gg_mem 40 (by decide +kernel) (by decide +kernel)), by decide +kernel, by decide +kernel, TX5, 19, rfl⟩
set_option maxRecDepth 100000 in
theorem gX5_86 : gg_CV RX5 86 yX5_choose cX5_choose 3 (some .int) 5 1 := ⟨(gg_mem 577 (by decide +kernel) (by decide +kernel)), (gg_mem 579 (by decide +kernel) (by decide +kernel)), (gg_mem 25 (by decide +kernel) (by decide +kernel)), (gg_mem 580 rfl rfl), (gg_mem 40 (by decide +kernel) (by decide +kernel)), by decide +kernel, by decide +kernel, TX5, 19, rfl⟩
set_option maxRecDepth 100000 in
theorem gX5_89 : gg_CV RX5 89 yX5_fetch cX5_fetch 3 none 5 2 := ⟨(gg_mem 593 (by decide +kernel) (by decide +kernel)), (gg_mem 595 (by decide +kernel) (by decide +kernel)), (gg_mem 29 (by decide +kernel) (by decide +kernel)), (gg_mem 596 rfl rfl), (gg_mem 40 (by decide +kernel) (by decide +kernel)), by decide +kernel, by decide +kernel, TX5, 19, rfl⟩
set_option maxRecDepth 100000 in
theorem gX5_92 : gg_CV RX5 92 yX5_note cX5_note 4 (some .int) 5 3 := ⟨(gg_mem 561 (by decide +kernel) (by decide +kernel)), (gg_mem 563 (by decide +kernel) (by decide +kernel)), (gg_mem 21 (by decide +kernel) (by decide +kernel)), (gg_mem 564 rfl rfl), (gg_mem 40 (by decide +kernel) (by decide +kernel)), by decide +kernel, by decide +kernel, TX5, 19, rfl⟩
set_option maxRecDepth 100000 in
theorem gX5_96 : gg_CV RX5 96 yX5_act cX5_act 4 none 5 2 := ⟨(gg_mem 565 (by decide +kernel) (by decide +kernel)), (gg_mem 567 (by decide +kernel) (by decide +kernel)), (gg_mem 22 (by decide +kernel) (by decide +kernel)), (gg_mem 568 rfl rfl), (gg_mem 40 (by decide +kernel) (by decide +kernel)), by decide +kernel, by decide +kernel, TX5, 19, rfl⟩
set_option maxRecDepth 100000 in
theorem gX5_99 : gg_CV RX5 99 yX5_targetsOf cX5_targetsOf 4 (some .int) 5 1 := ⟨(gg_mem 569 (by decide +kernel) (by decide +kernel)), (gg_mem 571 (by decide +kernel) (by decide +kernel)), (gg_mem 23 (by decide +kernel) (by decide +kernel)), (gg_mem 572 rfl rfl), (gg_mem 40 (by decide +kernel) (by decide +kernel)), by decide +kernel, by decide +kernel, TX5, 19, rfl⟩
