/-! Names by program: field links, words of throws, decode rows, methods. -/
theorem fl_X3_11 : Cond.fieldLink RX3 11 RX3 (TX3 0).2.1 (TX3 0).2.2.1 ∈ lw_tbl := by decide +kernel
theorem fl_X3_17 : Cond.fieldLink RX3 17 RX3 (TX3 1).2.1 (TX3 1).2.2.1 ∈ lw_tbl := by decide +kernel
theorem fl_X3_24 : Cond.fieldLink RX3 24 RX3 (TX3 2).2.1 (TX3 2).2.2.1 ∈ lw_tbl := by decide +kernel
theorem fl_X3_28 : Cond.fieldLink RX3 28 RX3 (TX3 3).2.1 (TX3 3).2.2.1 ∈ lw_tbl := by decide +kernel
theorem fl_X3_34 : Cond.fieldLink RX3 34 RX3 (TX3 4).2.1 (TX3 4).2.2.1 ∈ lw_tbl := by decide +kernel
theorem fl_X3_38 : Cond.fieldLink RX3 38 RX3 (TX3 5).2.1 (TX3 5).2.2.1 ∈ lw_tbl := by decide +kernel
theorem fl_X3_61 : Cond.fieldLink RX3 61 RX0 (TX0 1).2.1 (TX0 1).2.2.1 ∈ lw_tbl := by decide +kernel
theorem fl_X3_64 : Cond.fieldLink RX3 64 RX0 (TX0 3).2.1 (TX0 3).2.2.1 ∈ lw_tbl := by decide +kernel
theorem fl_X3_72 : Cond.fieldLink RX3 72 RX2 (TX2 0).2.1 (TX2 0).2.2.1 ∈ lw_tbl := by decide +kernel
theorem fl_X3_75 : Cond.fieldLink RX3 75 RX0 (TX0 2).2.1 (TX0 2).2.2.1 ∈ lw_tbl := by decide +kernel
theorem fl_X3_86 : Cond.fieldLink RX3 86 RX1 (TX1 2).2.1 (TX1 2).2.2.1 ∈ lw_tbl := by decide +kernel
theorem fl_X3_118 : Cond.fieldLink RX3 118 RX2 (TX2 2).2.1 (TX2 2).2.2.1 ∈ lw_tbl := by decide +kernel
theorem fl_X3_131 : Cond.fieldLink RX3 131 RX3 (TX3 6).2.1 (TX3 6).2.2.1 ∈ lw_tbl := by decide +kernel
theorem fl_X3_154 : Cond.fieldLink RX3 154 RX1 (TX1 0).2.1 (TX1 0).2.2.1 ∈ lw_tbl := by decide +kernel
theorem fl_X3_157 : Cond.fieldLink RX3 157 RX1 (TX1 1).2.1 (TX1 1).2.2.1 ∈ lw_tbl := by decide +kernel
theorem fl_X3_173 : Cond.fieldLink RX3 173 RX2 (TX2 1).2.1 (TX2 1).2.2.1 ∈ lw_tbl := by decide +kernel
theorem fl_X3_222 : Cond.fieldLink RX3 222 RX0 (TX0 0).2.1 (TX0 0).2.2.1 ∈ lw_tbl := by decide +kernel
theorem fl_X0_9 : Cond.fieldLink RX0 9 RX0 (TX0 0).2.1 (TX0 0).2.2.1 ∈ lw_tbl := by decide +kernel
theorem fl_X0_17 : Cond.fieldLink RX0 17 RX0 (TX0 1).2.1 (TX0 1).2.2.1 ∈ lw_tbl := by decide +kernel
theorem fl_X0_20 : Cond.fieldLink RX0 20 RX0 (TX0 2).2.1 (TX0 2).2.2.1 ∈ lw_tbl := by decide +kernel
theorem fl_X0_24 : Cond.fieldLink RX0 24 RX0 (TX0 3).2.1 (TX0 3).2.2.1 ∈ lw_tbl := by decide +kernel
theorem fl_X1_9 : Cond.fieldLink RX1 9 RX1 (TX1 0).2.1 (TX1 0).2.2.1 ∈ lw_tbl := by decide +kernel
theorem fl_X1_17 : Cond.fieldLink RX1 17 RX1 (TX1 1).2.1 (TX1 1).2.2.1 ∈ lw_tbl := by decide +kernel
theorem fl_X1_20 : Cond.fieldLink RX1 20 RX1 (TX1 2).2.1 (TX1 2).2.2.1 ∈ lw_tbl := by decide +kernel
theorem fl_X2_9 : Cond.fieldLink RX2 9 RX2 (TX2 0).2.1 (TX2 0).2.2.1 ∈ lw_tbl := by decide +kernel
theorem fl_X2_21 : Cond.fieldLink RX2 21 RX2 (TX2 1).2.1 (TX2 1).2.2.1 ∈ lw_tbl := by decide +kernel
theorem fl_X2_25 : Cond.fieldLink RX2 25 RX2 (TX2 2).2.1 (TX2 2).2.2.1 ∈ lw_tbl := by decide +kernel
theorem fl_X4_7 : Cond.fieldLink RX4 7 RX4 (TX4 0).2.1 (TX4 0).2.2.1 ∈ lw_tbl := by decide +kernel
theorem fl_X4_13 : Cond.fieldLink RX4 13 RX4 (TX4 1).2.1 (TX4 1).2.2.1 ∈ lw_tbl := by decide +kernel
theorem fl_X4_16 : Cond.fieldLink RX4 16 RX4 (TX4 2).2.1 (TX4 2).2.2.1 ∈ lw_tbl := by decide +kernel
theorem fl_X4_19 : Cond.fieldLink RX4 19 RX4 (TX4 9).2.1 (TX4 9).2.2.1 ∈ lw_tbl := by decide +kernel
theorem fl_X4_22 : Cond.fieldLink RX4 22 RX4 (TX4 10).2.1 (TX4 10).2.2.1 ∈ lw_tbl := by decide +kernel
theorem fl_X4_26 : Cond.fieldLink RX4 26 RX4 (TX4 11).2.1 (TX4 11).2.2.1 ∈ lw_tbl := by decide +kernel
theorem fl_X4_29 : Cond.fieldLink RX4 29 RX4 (TX4 12).2.1 (TX4 12).2.2.1 ∈ lw_tbl := by decide +kernel
theorem fl_X4_32 : Cond.fieldLink RX4 32 RX4 (TX4 13).2.1 (TX4 13).2.2.1 ∈ lw_tbl := by decide +kernel
theorem fl_X4_38 : Cond.fieldLink RX4 38 RX4 (TX4 16).2.1 (TX4 16).2.2.1 ∈ lw_tbl := by decide +kernel
theorem fl_X4_54 : Cond.fieldLink RX4 54 RX4 (TX4 14).2.1 (TX4 14).2.2.1 ∈ lw_tbl := by decide +kernel
theorem fl_X4_57 : Cond.fieldLink RX4 57 RX4 (TX4 15).2.1 (TX4 15).2.2.1 ∈ lw_tbl := by decide +kernel
theorem fl_X4_61 : Cond.fieldLink RX4 61 RX4 (TX4 8).2.1 (TX4 8).2.2.1 ∈ lw_tbl := by decide +kernel
theorem fl_X4_64 : Cond.fieldLink RX4 64 RX4 (TX4 7).2.1 (TX4 7).2.2.1 ∈ lw_tbl := by decide +kernel
theorem fl_X4_71 : Cond.fieldLink RX4 71 RX4 (TX4 3).2.1 (TX4 3).2.2.1 ∈ lw_tbl := by decide +kernel
theorem fl_X4_74 : Cond.fieldLink RX4 74 RX4 (TX4 5).2.1 (TX4 5).2.2.1 ∈ lw_tbl := by decide +kernel
theorem fl_X4_80 : Cond.fieldLink RX4 80 RX4 (TX4 4).2.1 (TX4 4).2.2.1 ∈ lw_tbl := by decide +kernel
theorem fl_X4_83 : Cond.fieldLink RX4 83 RX4 (TX4 6).2.1 (TX4 6).2.2.1 ∈ lw_tbl := by decide +kernel
set_option maxRecDepth 100000 in
theorem tw_20_83 : ∀ x ∈ vx_atS "FlipPages" 83 (zc_ex 20) ["java/lang/RuntimeException", "java/lang/Exception"], x ∈ lw_tbl ∧ zx_fc x = true := by decide +kernel
set_option maxRecDepth 100000 in
theorem tw_21_93 : ∀ x ∈ vx_atS "FlipPages" 93 (zc_ex 21) ["java/lang/RuntimeException", "java/lang/Exception"], x ∈ lw_tbl ∧ zx_fc x = true := by decide +kernel
theorem zt_cap {w : zw_W} (h : zl_X w) : 1 ≤ w.1 ∧ w.1 + 1 ≤ zc_cn ∧ w.2.1 + 6 ≤ zc_cs := ⟨by have := h.1; omega, by have := h.2.2.1; omega, by have := h.2.2.2; omega⟩
theorem dX0_init_0 : decode cX0_init 0 = .ok (.aload_n 0, 1) := by decide +kernel
theorem dX0_init_1 : decode cX0_init 1 = .ok (.invokespecial 3, 3) := by decide +kernel
theorem dX0_init_4 : decode cX0_init 4 = .ok (.aload_n 0, 1) := by decide +kernel
theorem dX0_init_5 : decode cX0_init 5 = .ok (.bipush 16, 2) := by decide +kernel
theorem dX0_init_7 : decode cX0_init 7 = .ok (.newarray .int, 2) := by decide +kernel
theorem dX0_init_9 : decode cX0_init 9 = .ok (.putfield 9, 3) := by decide +kernel
theorem dX0_init_12 : decode cX0_init 12 = .ok (.aload_n 0, 1) := by decide +kernel
theorem dX0_init_13 : decode cX0_init 13 = .ok (.bipush 16, 2) := by decide +kernel
theorem dX0_init_15 : decode cX0_init 15 = .ok (.bipush 16, 2) := by decide +kernel
theorem dX0_init_17 : decode cX0_init 17 = .ok (.multianewarray 15 2, 4) := by decide +kernel
theorem dX0_init_21 : decode cX0_init 21 = .ok (.putfield 17, 3) := by decide +kernel
theorem dX0_init_24 : decode cX0_init 24 = .ok (.aload_n 0, 1) := by decide +kernel
theorem dX0_init_25 : decode cX0_init 25 = .ok (.bipush 16, 2) := by decide +kernel
theorem dX0_init_27 : decode cX0_init 27 = .ok (.newarray .boolean, 2) := by decide +kernel
theorem dX0_init_29 : decode cX0_init 29 = .ok (.putfield 20, 3) := by decide +kernel
theorem dX0_init_32 : decode cX0_init 32 = .ok (.return_, 1) := by decide +kernel
abbrev zm_X0_init : zg_M := (RX0, cX0_init, 1, none, [])
theorem dX0_isOpen_0 : decode cX0_isOpen 0 = .ok (.aload_n 0, 1) := by decide +kernel
theorem dX0_isOpen_1 : decode cX0_isOpen 1 = .ok (.getfield 24, 3) := by decide +kernel
theorem dX0_isOpen_4 : decode cX0_isOpen 4 = .ok (.ifCond .le 7, 3) := by decide +kernel
theorem dX0_isOpen_7 : decode cX0_isOpen 7 = .ok (.iconst 1, 1) := by decide +kernel
theorem dX0_isOpen_8 : decode cX0_isOpen 8 = .ok (.goto 4, 3) := by decide +kernel
theorem dX0_isOpen_11 : decode cX0_isOpen 11 = .ok (.iconst 0, 1) := by decide +kernel
theorem dX0_isOpen_12 : decode cX0_isOpen 12 = .ok (.ireturn, 1) := by decide +kernel
abbrev zm_X0_isOpen : zg_M := (RX0, cX0_isOpen, 1, (some .boolean), [])
theorem dX0_has_0 : decode cX0_has 0 = .ok (.aload_n 0, 1) := by decide +kernel
theorem dX0_has_1 : decode cX0_has 1 = .ok (.getfield 9, 3) := by decide +kernel
theorem dX0_has_4 : decode cX0_has 4 = .ok (.iload_n 1, 1) := by decide +kernel
theorem dX0_has_5 : decode cX0_has 5 = .ok (.iaload, 1) := by decide +kernel
theorem dX0_has_6 : decode cX0_has 6 = .ok (.ifCond .eq 7, 3) := by decide +kernel
theorem dX0_has_9 : decode cX0_has 9 = .ok (.iconst 1, 1) := by decide +kernel
theorem dX0_has_10 : decode cX0_has 10 = .ok (.goto 4, 3) := by decide +kernel
theorem dX0_has_13 : decode cX0_has 13 = .ok (.iconst 0, 1) := by decide +kernel
theorem dX0_has_14 : decode cX0_has 14 = .ok (.ireturn, 1) := by decide +kernel
abbrev zm_X0_has : zg_M := (RX0, cX0_has, 2, (some .boolean), [])
theorem dX0_add_0 : decode cX0_add 0 = .ok (.aload_n 0, 1) := by decide +kernel
theorem dX0_add_1 : decode cX0_add 1 = .ok (.getfield 9, 3) := by decide +kernel
theorem dX0_add_4 : decode cX0_add 4 = .ok (.iload_n 1, 1) := by decide +kernel
theorem dX0_add_5 : decode cX0_add 5 = .ok (.iload_n 2, 1) := by decide +kernel
theorem dX0_add_6 : decode cX0_add 6 = .ok (.iastore, 1) := by decide +kernel
theorem dX0_add_7 : decode cX0_add 7 = .ok (.aload_n 0, 1) := by decide +kernel
theorem dX0_add_8 : decode cX0_add 8 = .ok (.dup, 1) := by decide +kernel
theorem dX0_add_9 : decode cX0_add 9 = .ok (.getfield 24, 3) := by decide +kernel
theorem dX0_add_12 : decode cX0_add 12 = .ok (.iconst 1, 1) := by decide +kernel
theorem dX0_add_13 : decode cX0_add 13 = .ok (.iadd, 1) := by decide +kernel
theorem dX0_add_14 : decode cX0_add 14 = .ok (.putfield 24, 3) := by decide +kernel
theorem dX0_add_17 : decode cX0_add 17 = .ok (.return_, 1) := by decide +kernel
abbrev zm_X0_add : zg_M := (RX0, cX0_add, 3, none, [])
theorem dX0_close_0 : decode cX0_close 0 = .ok (.aload_n 0, 1) := by decide +kernel
theorem dX0_close_1 : decode cX0_close 1 = .ok (.getfield 9, 3) := by decide +kernel
theorem dX0_close_4 : decode cX0_close 4 = .ok (.iconst 0, 1) := by decide +kernel
theorem dX0_close_5 : decode cX0_close 5 = .ok (.invokestatic 28, 3) := by decide +kernel
theorem dX0_close_8 : decode cX0_close 8 = .ok (.aload_n 0, 1) := by decide +kernel
theorem dX0_close_9 : decode cX0_close 9 = .ok (.iconst 0, 1) := by decide +kernel
theorem dX0_close_10 : decode cX0_close 10 = .ok (.putfield 24, 3) := by decide +kernel
theorem dX0_close_13 : decode cX0_close 13 = .ok (.return_, 1) := by decide +kernel
abbrev zm_X0_close : zg_M := (RX0, cX0_close, 1, none, [])
theorem dX1_init_0 : decode cX1_init 0 = .ok (.aload_n 0, 1) := by decide +kernel
theorem dX1_init_1 : decode cX1_init 1 = .ok (.invokespecial 3, 3) := by decide +kernel
theorem dX1_init_4 : decode cX1_init 4 = .ok (.aload_n 0, 1) := by decide +kernel
theorem dX1_init_5 : decode cX1_init 5 = .ok (.bipush 77, 2) := by decide +kernel
theorem dX1_init_7 : decode cX1_init 7 = .ok (.newarray .int, 2) := by decide +kernel
theorem dX1_init_9 : decode cX1_init 9 = .ok (.putfield 9, 3) := by decide +kernel
theorem dX1_init_12 : decode cX1_init 12 = .ok (.aload_n 0, 1) := by decide +kernel
theorem dX1_init_13 : decode cX1_init 13 = .ok (.bipush 77, 2) := by decide +kernel
theorem dX1_init_15 : decode cX1_init 15 = .ok (.bipush 16, 2) := by decide +kernel
theorem dX1_init_17 : decode cX1_init 17 = .ok (.multianewarray 15 2, 4) := by decide +kernel
theorem dX1_init_21 : decode cX1_init 21 = .ok (.putfield 17, 3) := by decide +kernel
theorem dX1_init_24 : decode cX1_init 24 = .ok (.return_, 1) := by decide +kernel
abbrev zm_X1_init : zg_M := (RX1, cX1_init, 1, none, [])
theorem dX1_add_0 : decode cX1_add 0 = .ok (.aload_n 0, 1) := by decide +kernel
theorem dX1_add_1 : decode cX1_add 1 = .ok (.getfield 9, 3) := by decide +kernel
theorem dX1_add_4 : decode cX1_add 4 = .ok (.aload_n 0, 1) := by decide +kernel
theorem dX1_add_5 : decode cX1_add 5 = .ok (.getfield 20, 3) := by decide +kernel
theorem dX1_add_8 : decode cX1_add 8 = .ok (.iload_n 1, 1) := by decide +kernel
theorem dX1_add_9 : decode cX1_add 9 = .ok (.iastore, 1) := by decide +kernel
theorem dX1_add_10 : decode cX1_add 10 = .ok (.aload_n 2, 1) := by decide +kernel
theorem dX1_add_11 : decode cX1_add 11 = .ok (.iconst 0, 1) := by decide +kernel
theorem dX1_add_12 : decode cX1_add 12 = .ok (.aload_n 0, 1) := by decide +kernel
theorem dX1_add_13 : decode cX1_add 13 = .ok (.getfield 17, 3) := by decide +kernel
theorem dX1_add_16 : decode cX1_add 16 = .ok (.aload_n 0, 1) := by decide +kernel
theorem dX1_add_17 : decode cX1_add 17 = .ok (.getfield 20, 3) := by decide +kernel
theorem dX1_add_20 : decode cX1_add 20 = .ok (.aaload, 1) := by decide +kernel
theorem dX1_add_21 : decode cX1_add 21 = .ok (.iconst 0, 1) := by decide +kernel
theorem dX1_add_22 : decode cX1_add 22 = .ok (.bipush 16, 2) := by decide +kernel
theorem dX1_add_24 : decode cX1_add 24 = .ok (.invokestatic 24, 3) := by decide +kernel
theorem dX1_add_27 : decode cX1_add 27 = .ok (.aload_n 0, 1) := by decide +kernel
theorem dX1_add_28 : decode cX1_add 28 = .ok (.dup, 1) := by decide +kernel
theorem dX1_add_29 : decode cX1_add 29 = .ok (.getfield 20, 3) := by decide +kernel
theorem dX1_add_32 : decode cX1_add 32 = .ok (.iconst 1, 1) := by decide +kernel
theorem dX1_add_33 : decode cX1_add 33 = .ok (.iadd, 1) := by decide +kernel
theorem dX1_add_34 : decode cX1_add 34 = .ok (.putfield 20, 3) := by decide +kernel
theorem dX1_add_37 : decode cX1_add 37 = .ok (.return_, 1) := by decide +kernel
abbrev zm_X1_add : zg_M := (RX1, cX1_add, 3, none, [])
theorem dX1_carryOut_0 : decode cX1_carryOut 0 = .ok (.aload_n 0, 1) := by decide +kernel
theorem dX1_carryOut_1 : decode cX1_carryOut 1 = .ok (.getfield 17, 3) := by decide +kernel
theorem dX1_carryOut_4 : decode cX1_carryOut 4 = .ok (.iload_n 1, 1) := by decide +kernel
theorem dX1_carryOut_5 : decode cX1_carryOut 5 = .ok (.aaload, 1) := by decide +kernel
theorem dX1_carryOut_6 : decode cX1_carryOut 6 = .ok (.iconst 0, 1) := by decide +kernel
theorem dX1_carryOut_7 : decode cX1_carryOut 7 = .ok (.aload_n 2, 1) := by decide +kernel
theorem dX1_carryOut_8 : decode cX1_carryOut 8 = .ok (.aload_n 0, 1) := by decide +kernel
theorem dX1_carryOut_9 : decode cX1_carryOut 9 = .ok (.getfield 9, 3) := by decide +kernel
theorem dX1_carryOut_12 : decode cX1_carryOut 12 = .ok (.iload_n 1, 1) := by decide +kernel
theorem dX1_carryOut_13 : decode cX1_carryOut 13 = .ok (.iaload, 1) := by decide +kernel
theorem dX1_carryOut_14 : decode cX1_carryOut 14 = .ok (.aaload, 1) := by decide +kernel
theorem dX1_carryOut_15 : decode cX1_carryOut 15 = .ok (.iconst 0, 1) := by decide +kernel
theorem dX1_carryOut_16 : decode cX1_carryOut 16 = .ok (.bipush 16, 2) := by decide +kernel
theorem dX1_carryOut_18 : decode cX1_carryOut 18 = .ok (.invokestatic 24, 3) := by decide +kernel
theorem dX1_carryOut_21 : decode cX1_carryOut 21 = .ok (.return_, 1) := by decide +kernel
abbrev zm_X1_carryOut : zg_M := (RX1, cX1_carryOut, 3, none, [])
theorem dX2_init_0 : decode cX2_init 0 = .ok (.aload_n 0, 1) := by decide +kernel
theorem dX2_init_1 : decode cX2_init 1 = .ok (.invokespecial 3, 3) := by decide +kernel
theorem dX2_init_4 : decode cX2_init 4 = .ok (.aload_n 0, 1) := by decide +kernel
theorem dX2_init_5 : decode cX2_init 5 = .ok (.bipush 16, 2) := by decide +kernel
theorem dX2_init_7 : decode cX2_init 7 = .ok (.newarray .int, 2) := by decide +kernel
theorem dX2_init_9 : decode cX2_init 9 = .ok (.putfield 9, 3) := by decide +kernel
theorem dX2_init_12 : decode cX2_init 12 = .ok (.return_, 1) := by decide +kernel
abbrev zm_X2_init : zg_M := (RX2, cX2_init, 1, none, [])
theorem dX2_become_0 : decode cX2_become 0 = .ok (.aload_n 1, 1) := by decide +kernel
theorem dX2_become_1 : decode cX2_become 1 = .ok (.getfield 9, 3) := by decide +kernel
theorem dX2_become_4 : decode cX2_become 4 = .ok (.iconst 0, 1) := by decide +kernel
theorem dX2_become_5 : decode cX2_become 5 = .ok (.aload_n 0, 1) := by decide +kernel
theorem dX2_become_6 : decode cX2_become 6 = .ok (.getfield 9, 3) := by decide +kernel
theorem dX2_become_9 : decode cX2_become 9 = .ok (.iconst 0, 1) := by decide +kernel
theorem dX2_become_10 : decode cX2_become 10 = .ok (.bipush 16, 2) := by decide +kernel
theorem dX2_become_12 : decode cX2_become 12 = .ok (.invokestatic 15, 3) := by decide +kernel
theorem dX2_become_15 : decode cX2_become 15 = .ok (.aload_n 0, 1) := by decide +kernel
theorem dX2_become_16 : decode cX2_become 16 = .ok (.aload_n 1, 1) := by decide +kernel
theorem dX2_become_17 : decode cX2_become 17 = .ok (.getfield 21, 3) := by decide +kernel
theorem dX2_become_20 : decode cX2_become 20 = .ok (.putfield 21, 3) := by decide +kernel
theorem dX2_become_23 : decode cX2_become 23 = .ok (.aload_n 0, 1) := by decide +kernel
theorem dX2_become_24 : decode cX2_become 24 = .ok (.aload_n 1, 1) := by decide +kernel
theorem dX2_become_25 : decode cX2_become 25 = .ok (.getfield 25, 3) := by decide +kernel
theorem dX2_become_28 : decode cX2_become 28 = .ok (.putfield 25, 3) := by decide +kernel
theorem dX2_become_31 : decode cX2_become 31 = .ok (.return_, 1) := by decide +kernel
abbrev zm_X2_become : zg_M := (RX2, cX2_become, 2, none, [])
theorem dX2_usedSet_0 : decode cX2_usedSet 0 = .ok (.lconst 1, 1) := by decide +kernel
theorem dX2_usedSet_1 : decode cX2_usedSet 1 = .ok (.aload_n 0, 1) := by decide +kernel
theorem dX2_usedSet_2 : decode cX2_usedSet 2 = .ok (.getfield 21, 3) := by decide +kernel
theorem dX2_usedSet_5 : decode cX2_usedSet 5 = .ok (.lshl, 1) := by decide +kernel
theorem dX2_usedSet_6 : decode cX2_usedSet 6 = .ok (.lstore_n 1, 1) := by decide +kernel
theorem dX2_usedSet_7 : decode cX2_usedSet 7 = .ok (.iconst 0, 1) := by decide +kernel
theorem dX2_usedSet_8 : decode cX2_usedSet 8 = .ok (.istore_n 3, 1) := by decide +kernel
theorem dX2_usedSet_9 : decode cX2_usedSet 9 = .ok (.iload_n 3, 1) := by decide +kernel
theorem dX2_usedSet_10 : decode cX2_usedSet 10 = .ok (.bipush 16, 2) := by decide +kernel
theorem dX2_usedSet_12 : decode cX2_usedSet 12 = .ok (.if_icmp .ge 20, 3) := by decide +kernel
theorem dX2_usedSet_15 : decode cX2_usedSet 15 = .ok (.lload_n 1, 1) := by decide +kernel
theorem dX2_usedSet_16 : decode cX2_usedSet 16 = .ok (.lconst 1, 1) := by decide +kernel
theorem dX2_usedSet_17 : decode cX2_usedSet 17 = .ok (.aload_n 0, 1) := by decide +kernel
theorem dX2_usedSet_18 : decode cX2_usedSet 18 = .ok (.getfield 9, 3) := by decide +kernel
theorem dX2_usedSet_21 : decode cX2_usedSet 21 = .ok (.iload_n 3, 1) := by decide +kernel
theorem dX2_usedSet_22 : decode cX2_usedSet 22 = .ok (.iaload, 1) := by decide +kernel
theorem dX2_usedSet_23 : decode cX2_usedSet 23 = .ok (.lshl, 1) := by decide +kernel
theorem dX2_usedSet_24 : decode cX2_usedSet 24 = .ok (.lor, 1) := by decide +kernel
theorem dX2_usedSet_25 : decode cX2_usedSet 25 = .ok (.lstore_n 1, 1) := by decide +kernel
theorem dX2_usedSet_26 : decode cX2_usedSet 26 = .ok (.iinc 3 1, 3) := by decide +kernel
theorem dX2_usedSet_29 : decode cX2_usedSet 29 = .ok (.goto (-20), 3) := by decide +kernel
theorem dX2_usedSet_32 : decode cX2_usedSet 32 = .ok (.lload_n 1, 1) := by decide +kernel
theorem dX2_usedSet_33 : decode cX2_usedSet 33 = .ok (.lreturn, 1) := by decide +kernel
abbrev zm_X2_usedSet : zg_M := (RX2, cX2_usedSet, 4, (some .long), [])
theorem dX3_init_0 : decode cX3_init 0 = .ok (.aload_n 0, 1) := by decide +kernel
theorem dX3_init_1 : decode cX3_init 1 = .ok (.invokespecial 3, 3) := by decide +kernel
theorem dX3_init_4 : decode cX3_init 4 = .ok (.aload_n 0, 1) := by decide +kernel
theorem dX3_init_5 : decode cX3_init 5 = .ok (.bipush 48, 2) := by decide +kernel
theorem dX3_init_7 : decode cX3_init 7 = .ok (.bipush 16, 2) := by decide +kernel
theorem dX3_init_9 : decode cX3_init 9 = .ok (.multianewarray 9 2, 4) := by decide +kernel
theorem dX3_init_13 : decode cX3_init 13 = .ok (.putfield 11, 3) := by decide +kernel
theorem dX3_init_16 : decode cX3_init 16 = .ok (.aload_n 0, 1) := by decide +kernel
theorem dX3_init_17 : decode cX3_init 17 = .ok (.new 14, 3) := by decide +kernel
theorem dX3_init_20 : decode cX3_init 20 = .ok (.dup, 1) := by decide +kernel
theorem dX3_init_21 : decode cX3_init 21 = .ok (.invokespecial 16, 3) := by decide +kernel
theorem dX3_init_24 : decode cX3_init 24 = .ok (.putfield 17, 3) := by decide +kernel
theorem dX3_init_27 : decode cX3_init 27 = .ok (.aload_n 0, 1) := by decide +kernel
theorem dX3_init_28 : decode cX3_init 28 = .ok (.new 21, 3) := by decide +kernel
theorem dX3_init_31 : decode cX3_init 31 = .ok (.dup, 1) := by decide +kernel
theorem dX3_init_32 : decode cX3_init 32 = .ok (.invokespecial 23, 3) := by decide +kernel
theorem dX3_init_35 : decode cX3_init 35 = .ok (.putfield 24, 3) := by decide +kernel
theorem dX3_init_38 : decode cX3_init 38 = .ok (.aload_n 0, 1) := by decide +kernel
theorem dX3_init_39 : decode cX3_init 39 = .ok (.new 21, 3) := by decide +kernel
theorem dX3_init_42 : decode cX3_init 42 = .ok (.dup, 1) := by decide +kernel
theorem dX3_init_43 : decode cX3_init 43 = .ok (.invokespecial 23, 3) := by decide +kernel
theorem dX3_init_46 : decode cX3_init 46 = .ok (.putfield 28, 3) := by decide +kernel
theorem dX3_init_49 : decode cX3_init 49 = .ok (.aload_n 0, 1) := by decide +kernel
theorem dX3_init_50 : decode cX3_init 50 = .ok (.new 31, 3) := by decide +kernel
theorem dX3_init_53 : decode cX3_init 53 = .ok (.dup, 1) := by decide +kernel
theorem dX3_init_54 : decode cX3_init 54 = .ok (.invokespecial 33, 3) := by decide +kernel
theorem dX3_init_57 : decode cX3_init 57 = .ok (.putfield 34, 3) := by decide +kernel
theorem dX3_init_60 : decode cX3_init 60 = .ok (.aload_n 0, 1) := by decide +kernel
theorem dX3_init_61 : decode cX3_init 61 = .ok (.bipush 16, 2) := by decide +kernel
theorem dX3_init_63 : decode cX3_init 63 = .ok (.newarray .int, 2) := by decide +kernel
theorem dX3_init_65 : decode cX3_init 65 = .ok (.putfield 38, 3) := by decide +kernel
theorem dX3_init_68 : decode cX3_init 68 = .ok (.aload_n 0, 1) := by decide +kernel
theorem dX3_init_69 : decode cX3_init 69 = .ok (.invokevirtual 42, 3) := by decide +kernel
theorem dX3_init_72 : decode cX3_init 72 = .ok (.return_, 1) := by decide +kernel
abbrev zm_X3_init : zg_M := (RX3, cX3_init, 1, none, [])
theorem dX3_format_0 : decode cX3_format 0 = .ok (.aload_n 0, 1) := by decide +kernel
theorem dX3_format_1 : decode cX3_format 1 = .ok (.invokevirtual 42, 3) := by decide +kernel
theorem dX3_format_4 : decode cX3_format 4 = .ok (.return_, 1) := by decide +kernel
abbrev zm_X3_format : zg_M := (RX3, cX3_format, 1, none, [])
theorem dX3_write_0 : decode cX3_write 0 = .ok (.iload_n 1, 1) := by decide +kernel
theorem dX3_write_1 : decode cX3_write 1 = .ok (.invokestatic 45, 3) := by decide +kernel
theorem dX3_write_4 : decode cX3_write 4 = .ok (.iload_n 2, 1) := by decide +kernel
theorem dX3_write_5 : decode cX3_write 5 = .ok (.invokestatic 49, 3) := by decide +kernel
theorem dX3_write_8 : decode cX3_write 8 = .ok (.iload_n 3, 1) := by decide +kernel
theorem dX3_write_9 : decode cX3_write 9 = .ok (.invokestatic 52, 3) := by decide +kernel
theorem dX3_write_12 : decode cX3_write 12 = .ok (.aload_n 0, 1) := by decide +kernel
theorem dX3_write_13 : decode cX3_write 13 = .ok (.invokevirtual 55, 3) := by decide +kernel
theorem dX3_write_16 : decode cX3_write 16 = .ok (.aload_n 0, 1) := by decide +kernel
theorem dX3_write_17 : decode cX3_write 17 = .ok (.iload_n 1, 1) := by decide +kernel
theorem dX3_write_18 : decode cX3_write 18 = .ok (.invokevirtual 58, 3) := by decide +kernel
theorem dX3_write_21 : decode cX3_write 21 = .ok (.aload_n 0, 1) := by decide +kernel
theorem dX3_write_22 : decode cX3_write 22 = .ok (.getfield 34, 3) := by decide +kernel
theorem dX3_write_25 : decode cX3_write 25 = .ok (.getfield 61, 3) := by decide +kernel
theorem dX3_write_28 : decode cX3_write 28 = .ok (.iload_n 1, 1) := by decide +kernel
theorem dX3_write_29 : decode cX3_write 29 = .ok (.aaload, 1) := by decide +kernel
theorem dX3_write_30 : decode cX3_write 30 = .ok (.iload_n 2, 1) := by decide +kernel
theorem dX3_write_31 : decode cX3_write 31 = .ok (.iaload, 1) := by decide +kernel
theorem dX3_write_32 : decode cX3_write 32 = .ok (.istore 4, 2) := by decide +kernel
theorem dX3_write_34 : decode cX3_write 34 = .ok (.aload_n 0, 1) := by decide +kernel
theorem dX3_write_35 : decode cX3_write 35 = .ok (.getfield 34, 3) := by decide +kernel
theorem dX3_write_38 : decode cX3_write 38 = .ok (.getfield 61, 3) := by decide +kernel
theorem dX3_write_41 : decode cX3_write 41 = .ok (.iload_n 1, 1) := by decide +kernel
theorem dX3_write_42 : decode cX3_write 42 = .ok (.aaload, 1) := by decide +kernel
theorem dX3_write_43 : decode cX3_write 43 = .ok (.iload_n 2, 1) := by decide +kernel
theorem dX3_write_44 : decode cX3_write 44 = .ok (.iload_n 3, 1) := by decide +kernel
theorem dX3_write_45 : decode cX3_write 45 = .ok (.iastore, 1) := by decide +kernel
theorem dX3_write_46 : decode cX3_write 46 = .ok (.iload 4, 2) := by decide +kernel
theorem dX3_write_48 : decode cX3_write 48 = .ok (.ireturn, 1) := by decide +kernel
abbrev zm_X3_write : zg_M := (RX3, cX3_write, 5, (some .int), [])
theorem dX3_fill_0 : decode cX3_fill 0 = .ok (.iload_n 1, 1) := by decide +kernel
theorem dX3_fill_1 : decode cX3_fill 1 = .ok (.invokestatic 45, 3) := by decide +kernel
theorem dX3_fill_4 : decode cX3_fill 4 = .ok (.aload_n 0, 1) := by decide +kernel
theorem dX3_fill_5 : decode cX3_fill 5 = .ok (.invokevirtual 55, 3) := by decide +kernel
theorem dX3_fill_8 : decode cX3_fill 8 = .ok (.aload_n 0, 1) := by decide +kernel
theorem dX3_fill_9 : decode cX3_fill 9 = .ok (.iload_n 1, 1) := by decide +kernel
theorem dX3_fill_10 : decode cX3_fill 10 = .ok (.invokevirtual 58, 3) := by decide +kernel
theorem dX3_fill_13 : decode cX3_fill 13 = .ok (.aload_n 0, 1) := by decide +kernel
theorem dX3_fill_14 : decode cX3_fill 14 = .ok (.getfield 34, 3) := by decide +kernel
theorem dX3_fill_17 : decode cX3_fill 17 = .ok (.getfield 61, 3) := by decide +kernel
theorem dX3_fill_20 : decode cX3_fill 20 = .ok (.iload_n 1, 1) := by decide +kernel
theorem dX3_fill_21 : decode cX3_fill 21 = .ok (.aaload, 1) := by decide +kernel
theorem dX3_fill_22 : decode cX3_fill 22 = .ok (.astore 6, 2) := by decide +kernel
theorem dX3_fill_24 : decode cX3_fill 24 = .ok (.bipush 8, 2) := by decide +kernel
theorem dX3_fill_26 : decode cX3_fill 26 = .ok (.istore 7, 2) := by decide +kernel
theorem dX3_fill_28 : decode cX3_fill 28 = .ok (.iconst 0, 1) := by decide +kernel
theorem dX3_fill_29 : decode cX3_fill 29 = .ok (.istore 8, 2) := by decide +kernel
theorem dX3_fill_31 : decode cX3_fill 31 = .ok (.iload 8, 2) := by decide +kernel
theorem dX3_fill_33 : decode cX3_fill 33 = .ok (.iload 7, 2) := by decide +kernel
theorem dX3_fill_35 : decode cX3_fill 35 = .ok (.if_icmp .ge 47, 3) := by decide +kernel
theorem dX3_fill_38 : decode cX3_fill 38 = .ok (.aload 6, 2) := by decide +kernel
theorem dX3_fill_40 : decode cX3_fill 40 = .ok (.iload 8, 2) := by decide +kernel
theorem dX3_fill_42 : decode cX3_fill 42 = .ok (.lload_n 2, 1) := by decide +kernel
theorem dX3_fill_43 : decode cX3_fill 43 = .ok (.bipush 8, 2) := by decide +kernel
theorem dX3_fill_45 : decode cX3_fill 45 = .ok (.iload 8, 2) := by decide +kernel
theorem dX3_fill_47 : decode cX3_fill 47 = .ok (.imul, 1) := by decide +kernel
theorem dX3_fill_48 : decode cX3_fill 48 = .ok (.lushr, 1) := by decide +kernel
theorem dX3_fill_49 : decode cX3_fill 49 = .ok (.l2i, 1) := by decide +kernel
theorem dX3_fill_50 : decode cX3_fill 50 = .ok (.sipush 255, 3) := by decide +kernel
theorem dX3_fill_53 : decode cX3_fill 53 = .ok (.iand, 1) := by decide +kernel
theorem dX3_fill_54 : decode cX3_fill 54 = .ok (.iastore, 1) := by decide +kernel
theorem dX3_fill_55 : decode cX3_fill 55 = .ok (.aload 6, 2) := by decide +kernel
theorem dX3_fill_57 : decode cX3_fill 57 = .ok (.iload 7, 2) := by decide +kernel
theorem dX3_fill_59 : decode cX3_fill 59 = .ok (.iload 8, 2) := by decide +kernel
theorem dX3_fill_61 : decode cX3_fill 61 = .ok (.iadd, 1) := by decide +kernel
theorem dX3_fill_62 : decode cX3_fill 62 = .ok (.lload 4, 2) := by decide +kernel
theorem dX3_fill_64 : decode cX3_fill 64 = .ok (.bipush 8, 2) := by decide +kernel
theorem dX3_fill_66 : decode cX3_fill 66 = .ok (.iload 8, 2) := by decide +kernel
theorem dX3_fill_68 : decode cX3_fill 68 = .ok (.imul, 1) := by decide +kernel
theorem dX3_fill_69 : decode cX3_fill 69 = .ok (.lushr, 1) := by decide +kernel
theorem dX3_fill_70 : decode cX3_fill 70 = .ok (.l2i, 1) := by decide +kernel
theorem dX3_fill_71 : decode cX3_fill 71 = .ok (.sipush 255, 3) := by decide +kernel
theorem dX3_fill_74 : decode cX3_fill 74 = .ok (.iand, 1) := by decide +kernel
theorem dX3_fill_75 : decode cX3_fill 75 = .ok (.iastore, 1) := by decide +kernel
theorem dX3_fill_76 : decode cX3_fill 76 = .ok (.iinc 8 1, 3) := by decide +kernel
theorem dX3_fill_79 : decode cX3_fill 79 = .ok (.goto (-48), 3) := by decide +kernel
theorem dX3_fill_82 : decode cX3_fill 82 = .ok (.aload_n 0, 1) := by decide +kernel
theorem dX3_fill_83 : decode cX3_fill 83 = .ok (.getfield 34, 3) := by decide +kernel
theorem dX3_fill_86 : decode cX3_fill 86 = .ok (.getfield 64, 3) := by decide +kernel
theorem dX3_fill_89 : decode cX3_fill 89 = .ok (.ireturn, 1) := by decide +kernel
abbrev zm_X3_fill : zg_M := (RX3, cX3_fill, 9, (some .int), [])
theorem dX3_read_0 : decode cX3_read 0 = .ok (.iload_n 1, 1) := by decide +kernel
theorem dX3_read_1 : decode cX3_read 1 = .ok (.invokestatic 45, 3) := by decide +kernel
theorem dX3_read_4 : decode cX3_read 4 = .ok (.iload_n 2, 1) := by decide +kernel
theorem dX3_read_5 : decode cX3_read 5 = .ok (.invokestatic 49, 3) := by decide +kernel
theorem dX3_read_8 : decode cX3_read 8 = .ok (.aload_n 0, 1) := by decide +kernel
theorem dX3_read_9 : decode cX3_read 9 = .ok (.invokevirtual 55, 3) := by decide +kernel
theorem dX3_read_12 : decode cX3_read 12 = .ok (.iload_n 3, 1) := by decide +kernel
theorem dX3_read_13 : decode cX3_read 13 = .ok (.ifCond .ne 26, 3) := by decide +kernel
theorem dX3_read_16 : decode cX3_read 16 = .ok (.aload_n 0, 1) := by decide +kernel
theorem dX3_read_17 : decode cX3_read 17 = .ok (.getfield 34, 3) := by decide +kernel
theorem dX3_read_20 : decode cX3_read 20 = .ok (.iload_n 1, 1) := by decide +kernel
theorem dX3_read_21 : decode cX3_read 21 = .ok (.invokevirtual 68, 3) := by decide +kernel
theorem dX3_read_24 : decode cX3_read 24 = .ok (.ifCond .eq 15, 3) := by decide +kernel
theorem dX3_read_27 : decode cX3_read 27 = .ok (.aload_n 0, 1) := by decide +kernel
theorem dX3_read_28 : decode cX3_read 28 = .ok (.getfield 34, 3) := by decide +kernel
theorem dX3_read_31 : decode cX3_read 31 = .ok (.getfield 61, 3) := by decide +kernel
theorem dX3_read_34 : decode cX3_read 34 = .ok (.iload_n 1, 1) := by decide +kernel
theorem dX3_read_35 : decode cX3_read 35 = .ok (.aaload, 1) := by decide +kernel
theorem dX3_read_36 : decode cX3_read 36 = .ok (.iload_n 2, 1) := by decide +kernel
theorem dX3_read_37 : decode cX3_read 37 = .ok (.iaload, 1) := by decide +kernel
theorem dX3_read_38 : decode cX3_read 38 = .ok (.ireturn, 1) := by decide +kernel
theorem dX3_read_39 : decode cX3_read 39 = .ok (.aload_n 0, 1) := by decide +kernel
theorem dX3_read_40 : decode cX3_read 40 = .ok (.getfield 24, 3) := by decide +kernel
theorem dX3_read_43 : decode cX3_read 43 = .ok (.getfield 72, 3) := by decide +kernel
theorem dX3_read_46 : decode cX3_read 46 = .ok (.iload_n 1, 1) := by decide +kernel
theorem dX3_read_47 : decode cX3_read 47 = .ok (.iaload, 1) := by decide +kernel
theorem dX3_read_48 : decode cX3_read 48 = .ok (.istore 4, 2) := by decide +kernel
theorem dX3_read_50 : decode cX3_read 50 = .ok (.iload 4, 2) := by decide +kernel
theorem dX3_read_52 : decode cX3_read 52 = .ok (.ifCond .ne 7, 3) := by decide +kernel
theorem dX3_read_55 : decode cX3_read 55 = .ok (.iconst 0, 1) := by decide +kernel
theorem dX3_read_56 : decode cX3_read 56 = .ok (.goto 12, 3) := by decide +kernel
theorem dX3_read_59 : decode cX3_read 59 = .ok (.aload_n 0, 1) := by decide +kernel
theorem dX3_read_60 : decode cX3_read 60 = .ok (.getfield 11, 3) := by decide +kernel
theorem dX3_read_63 : decode cX3_read 63 = .ok (.iload 4, 2) := by decide +kernel
theorem dX3_read_65 : decode cX3_read 65 = .ok (.aaload, 1) := by decide +kernel
theorem dX3_read_66 : decode cX3_read 66 = .ok (.iload_n 2, 1) := by decide +kernel
theorem dX3_read_67 : decode cX3_read 67 = .ok (.iaload, 1) := by decide +kernel
theorem dX3_read_68 : decode cX3_read 68 = .ok (.ireturn, 1) := by decide +kernel
abbrev zm_X3_read : zg_M := (RX3, cX3_read, 5, (some .int), [])
theorem dX3_spill_0 : decode cX3_spill 0 = .ok (.iload_n 1, 1) := by decide +kernel
theorem dX3_spill_1 : decode cX3_spill 1 = .ok (.invokestatic 45, 3) := by decide +kernel
theorem dX3_spill_4 : decode cX3_spill 4 = .ok (.aload_n 0, 1) := by decide +kernel
theorem dX3_spill_5 : decode cX3_spill 5 = .ok (.getfield 34, 3) := by decide +kernel
theorem dX3_spill_8 : decode cX3_spill 8 = .ok (.iload_n 1, 1) := by decide +kernel
theorem dX3_spill_9 : decode cX3_spill 9 = .ok (.invokevirtual 68, 3) := by decide +kernel
theorem dX3_spill_12 : decode cX3_spill 12 = .ok (.ifCond .eq 15, 3) := by decide +kernel
theorem dX3_spill_15 : decode cX3_spill 15 = .ok (.aload_n 0, 1) := by decide +kernel
theorem dX3_spill_16 : decode cX3_spill 16 = .ok (.getfield 34, 3) := by decide +kernel
theorem dX3_spill_19 : decode cX3_spill 19 = .ok (.getfield 75, 3) := by decide +kernel
theorem dX3_spill_22 : decode cX3_spill 22 = .ok (.iload_n 1, 1) := by decide +kernel
theorem dX3_spill_23 : decode cX3_spill 23 = .ok (.baload, 1) := by decide +kernel
theorem dX3_spill_24 : decode cX3_spill 24 = .ok (.ifCond .eq 13, 3) := by decide +kernel
theorem dX3_spill_27 : decode cX3_spill 27 = .ok (.new 79, 3) := by decide +kernel
theorem dX3_spill_30 : decode cX3_spill 30 = .ok (.dup, 1) := by decide +kernel
theorem dX3_spill_31 : decode cX3_spill 31 = .ok (.ldc 81, 2) := by decide +kernel
theorem dX3_spill_33 : decode cX3_spill 33 = .ok (.invokespecial 83, 3) := by decide +kernel
theorem dX3_spill_36 : decode cX3_spill 36 = .ok (.athrow, 1) := by decide +kernel
theorem dX3_spill_37 : decode cX3_spill 37 = .ok (.aload_n 0, 1) := by decide +kernel
theorem dX3_spill_38 : decode cX3_spill 38 = .ok (.getfield 17, 3) := by decide +kernel
theorem dX3_spill_41 : decode cX3_spill 41 = .ok (.getfield 86, 3) := by decide +kernel
theorem dX3_spill_44 : decode cX3_spill 44 = .ok (.bipush 60, 2) := by decide +kernel
theorem dX3_spill_46 : decode cX3_spill 46 = .ok (.if_icmp .lt 13, 3) := by decide +kernel
theorem dX3_spill_49 : decode cX3_spill 49 = .ok (.new 89, 3) := by decide +kernel
theorem dX3_spill_52 : decode cX3_spill 52 = .ok (.dup, 1) := by decide +kernel
theorem dX3_spill_53 : decode cX3_spill 53 = .ok (.ldc 91, 2) := by decide +kernel
theorem dX3_spill_55 : decode cX3_spill 55 = .ok (.invokespecial 93, 3) := by decide +kernel
theorem dX3_spill_58 : decode cX3_spill 58 = .ok (.athrow, 1) := by decide +kernel
theorem dX3_spill_59 : decode cX3_spill 59 = .ok (.aload_n 0, 1) := by decide +kernel
theorem dX3_spill_60 : decode cX3_spill 60 = .ok (.iload_n 1, 1) := by decide +kernel
theorem dX3_spill_61 : decode cX3_spill 61 = .ok (.invokevirtual 94, 3) := by decide +kernel
theorem dX3_spill_64 : decode cX3_spill 64 = .ok (.aload_n 0, 1) := by decide +kernel
theorem dX3_spill_65 : decode cX3_spill 65 = .ok (.getfield 17, 3) := by decide +kernel
theorem dX3_spill_68 : decode cX3_spill 68 = .ok (.getfield 86, 3) := by decide +kernel
theorem dX3_spill_71 : decode cX3_spill 71 = .ok (.ireturn, 1) := by decide +kernel
abbrev zm_X3_spill : zg_M := (RX3, cX3_spill, 2, (some .int), [])
theorem dX3_commit_0 : decode cX3_commit 0 = .ok (.aload_n 0, 1) := by decide +kernel
theorem dX3_commit_1 : decode cX3_commit 1 = .ok (.invokevirtual 55, 3) := by decide +kernel
theorem dX3_commit_4 : decode cX3_commit 4 = .ok (.aload_n 0, 1) := by decide +kernel
theorem dX3_commit_5 : decode cX3_commit 5 = .ok (.invokevirtual 97, 3) := by decide +kernel
theorem dX3_commit_8 : decode cX3_commit 8 = .ok (.aload_n 0, 1) := by decide +kernel
theorem dX3_commit_9 : decode cX3_commit 9 = .ok (.invokevirtual 100, 3) := by decide +kernel
theorem dX3_commit_12 : decode cX3_commit 12 = .ok (.istore_n 2, 1) := by decide +kernel
theorem dX3_commit_13 : decode cX3_commit 13 = .ok (.iload_n 2, 1) := by decide +kernel
theorem dX3_commit_14 : decode cX3_commit 14 = .ok (.iconst (-1), 1) := by decide +kernel
theorem dX3_commit_15 : decode cX3_commit 15 = .ok (.if_icmp .ne 13, 3) := by decide +kernel
theorem dX3_commit_18 : decode cX3_commit 18 = .ok (.new 89, 3) := by decide +kernel
theorem dX3_commit_21 : decode cX3_commit 21 = .ok (.dup, 1) := by decide +kernel
theorem dX3_commit_22 : decode cX3_commit 22 = .ok (.ldc 104, 2) := by decide +kernel
theorem dX3_commit_24 : decode cX3_commit 24 = .ok (.invokespecial 93, 3) := by decide +kernel
theorem dX3_commit_27 : decode cX3_commit 27 = .ok (.athrow, 1) := by decide +kernel
theorem dX3_commit_28 : decode cX3_commit 28 = .ok (.aload_n 0, 1) := by decide +kernel
theorem dX3_commit_29 : decode cX3_commit 29 = .ok (.invokevirtual 106, 3) := by decide +kernel
theorem dX3_commit_32 : decode cX3_commit 32 = .ok (.aload_n 0, 1) := by decide +kernel
theorem dX3_commit_33 : decode cX3_commit 33 = .ok (.iload_n 2, 1) := by decide +kernel
theorem dX3_commit_34 : decode cX3_commit 34 = .ok (.invokevirtual 109, 3) := by decide +kernel
theorem dX3_commit_37 : decode cX3_commit 37 = .ok (.aload_n 0, 1) := by decide +kernel
theorem dX3_commit_38 : decode cX3_commit 38 = .ok (.invokevirtual 112, 3) := by decide +kernel
theorem dX3_commit_41 : decode cX3_commit 41 = .ok (.pop, 1) := by decide +kernel
theorem dX3_commit_42 : decode cX3_commit 42 = .ok (.aload_n 0, 1) := by decide +kernel
theorem dX3_commit_43 : decode cX3_commit 43 = .ok (.iload_n 2, 1) := by decide +kernel
theorem dX3_commit_44 : decode cX3_commit 44 = .ok (.invokevirtual 115, 3) := by decide +kernel
theorem dX3_commit_47 : decode cX3_commit 47 = .ok (.iload_n 1, 1) := by decide +kernel
theorem dX3_commit_48 : decode cX3_commit 48 = .ok (.ifCond .eq 8, 3) := by decide +kernel
theorem dX3_commit_51 : decode cX3_commit 51 = .ok (.aload_n 0, 1) := by decide +kernel
theorem dX3_commit_52 : decode cX3_commit 52 = .ok (.invokevirtual 112, 3) := by decide +kernel
theorem dX3_commit_55 : decode cX3_commit 55 = .ok (.pop, 1) := by decide +kernel
theorem dX3_commit_56 : decode cX3_commit 56 = .ok (.aload_n 0, 1) := by decide +kernel
theorem dX3_commit_57 : decode cX3_commit 57 = .ok (.getfield 24, 3) := by decide +kernel
theorem dX3_commit_60 : decode cX3_commit 60 = .ok (.getfield 118, 3) := by decide +kernel
theorem dX3_commit_63 : decode cX3_commit 63 = .ok (.ireturn, 1) := by decide +kernel
abbrev zm_X3_commit : zg_M := (RX3, cX3_commit, 3, (some .int), [])
theorem dX3_abort_0 : decode cX3_abort 0 = .ok (.aload_n 0, 1) := by decide +kernel
theorem dX3_abort_1 : decode cX3_abort 1 = .ok (.invokevirtual 55, 3) := by decide +kernel
theorem dX3_abort_4 : decode cX3_abort 4 = .ok (.aload_n 0, 1) := by decide +kernel
theorem dX3_abort_5 : decode cX3_abort 5 = .ok (.invokevirtual 97, 3) := by decide +kernel
theorem dX3_abort_8 : decode cX3_abort 8 = .ok (.aload_n 0, 1) := by decide +kernel
theorem dX3_abort_9 : decode cX3_abort 9 = .ok (.getfield 34, 3) := by decide +kernel
theorem dX3_abort_12 : decode cX3_abort 12 = .ok (.getfield 64, 3) := by decide +kernel
theorem dX3_abort_15 : decode cX3_abort 15 = .ok (.istore_n 1, 1) := by decide +kernel
theorem dX3_abort_16 : decode cX3_abort 16 = .ok (.aload_n 0, 1) := by decide +kernel
theorem dX3_abort_17 : decode cX3_abort 17 = .ok (.getfield 34, 3) := by decide +kernel
theorem dX3_abort_20 : decode cX3_abort 20 = .ok (.invokevirtual 121, 3) := by decide +kernel
theorem dX3_abort_23 : decode cX3_abort 23 = .ok (.iload_n 1, 1) := by decide +kernel
theorem dX3_abort_24 : decode cX3_abort 24 = .ok (.ireturn, 1) := by decide +kernel
abbrev zm_X3_abort : zg_M := (RX3, cX3_abort, 2, (some .int), [])
theorem dX3_flush_0 : decode cX3_flush 0 = .ok (.aload_n 0, 1) := by decide +kernel
theorem dX3_flush_1 : decode cX3_flush 1 = .ok (.invokevirtual 55, 3) := by decide +kernel
theorem dX3_flush_4 : decode cX3_flush 4 = .ok (.aload_n 0, 1) := by decide +kernel
theorem dX3_flush_5 : decode cX3_flush 5 = .ok (.invokevirtual 112, 3) := by decide +kernel
theorem dX3_flush_8 : decode cX3_flush 8 = .ok (.ireturn, 1) := by decide +kernel
abbrev zm_X3_flush : zg_M := (RX3, cX3_flush, 1, (some .int), [])
theorem dX3_fail_0 : decode cX3_fail 0 = .ok (.iconst 0, 1) := by decide +kernel
theorem dX3_fail_1 : decode cX3_fail 1 = .ok (.istore_n 3, 1) := by decide +kernel
theorem dX3_fail_2 : decode cX3_fail 2 = .ok (.iload_n 3, 1) := by decide +kernel
theorem dX3_fail_3 : decode cX3_fail 3 = .ok (.aload_n 0, 1) := by decide +kernel
theorem dX3_fail_4 : decode cX3_fail 4 = .ok (.getfield 17, 3) := by decide +kernel
theorem dX3_fail_7 : decode cX3_fail 7 = .ok (.getfield 86, 3) := by decide +kernel
theorem dX3_fail_10 : decode cX3_fail 10 = .ok (.if_icmp .ge 31, 3) := by decide +kernel
theorem dX3_fail_13 : decode cX3_fail 13 = .ok (.lload_n 1, 1) := by decide +kernel
theorem dX3_fail_14 : decode cX3_fail 14 = .ok (.iload_n 3, 1) := by decide +kernel
theorem dX3_fail_15 : decode cX3_fail 15 = .ok (.lushr, 1) := by decide +kernel
theorem dX3_fail_16 : decode cX3_fail 16 = .ok (.lconst 1, 1) := by decide +kernel
theorem dX3_fail_17 : decode cX3_fail 17 = .ok (.land, 1) := by decide +kernel
theorem dX3_fail_18 : decode cX3_fail 18 = .ok (.lconst 0, 1) := by decide +kernel
theorem dX3_fail_19 : decode cX3_fail 19 = .ok (.lcmp, 1) := by decide +kernel
theorem dX3_fail_20 : decode cX3_fail 20 = .ok (.ifCond .eq 15, 3) := by decide +kernel
theorem dX3_fail_23 : decode cX3_fail 23 = .ok (.aload_n 0, 1) := by decide +kernel
theorem dX3_fail_24 : decode cX3_fail 24 = .ok (.getfield 17, 3) := by decide +kernel
theorem dX3_fail_27 : decode cX3_fail 27 = .ok (.iload_n 3, 1) := by decide +kernel
theorem dX3_fail_28 : decode cX3_fail 28 = .ok (.aload_n 0, 1) := by decide +kernel
theorem dX3_fail_29 : decode cX3_fail 29 = .ok (.getfield 11, 3) := by decide +kernel
theorem dX3_fail_32 : decode cX3_fail 32 = .ok (.invokevirtual 124, 3) := by decide +kernel
theorem dX3_fail_35 : decode cX3_fail 35 = .ok (.iinc 3 1, 3) := by decide +kernel
theorem dX3_fail_38 : decode cX3_fail 38 = .ok (.goto (-36), 3) := by decide +kernel
theorem dX3_fail_41 : decode cX3_fail 41 = .ok (.aload_n 0, 1) := by decide +kernel
theorem dX3_fail_42 : decode cX3_fail 42 = .ok (.invokevirtual 128, 3) := by decide +kernel
theorem dX3_fail_45 : decode cX3_fail 45 = .ok (.aload_n 0, 1) := by decide +kernel
theorem dX3_fail_46 : decode cX3_fail 46 = .ok (.getfield 131, 3) := by decide +kernel
theorem dX3_fail_49 : decode cX3_fail 49 = .ok (.ifCond .ne 7, 3) := by decide +kernel
theorem dX3_fail_52 : decode cX3_fail 52 = .ok (.iconst 1, 1) := by decide +kernel
theorem dX3_fail_53 : decode cX3_fail 53 = .ok (.goto 4, 3) := by decide +kernel
theorem dX3_fail_56 : decode cX3_fail 56 = .ok (.iconst 0, 1) := by decide +kernel
theorem dX3_fail_57 : decode cX3_fail 57 = .ok (.ireturn, 1) := by decide +kernel
abbrev zm_X3_fail : zg_M := (RX3, cX3_fail, 4, (some .boolean), [])
theorem dX3_damage_0 : decode cX3_damage 0 = .ok (.iload_n 1, 1) := by decide +kernel
theorem dX3_damage_1 : decode cX3_damage 1 = .ok (.invokestatic 135, 3) := by decide +kernel
theorem dX3_damage_4 : decode cX3_damage 4 = .ok (.iload_n 2, 1) := by decide +kernel
theorem dX3_damage_5 : decode cX3_damage 5 = .ok (.invokestatic 49, 3) := by decide +kernel
theorem dX3_damage_8 : decode cX3_damage 8 = .ok (.iload_n 3, 1) := by decide +kernel
theorem dX3_damage_9 : decode cX3_damage 9 = .ok (.invokestatic 52, 3) := by decide +kernel
theorem dX3_damage_12 : decode cX3_damage 12 = .ok (.aload_n 0, 1) := by decide +kernel
theorem dX3_damage_13 : decode cX3_damage 13 = .ok (.getfield 11, 3) := by decide +kernel
theorem dX3_damage_16 : decode cX3_damage 16 = .ok (.iload_n 1, 1) := by decide +kernel
theorem dX3_damage_17 : decode cX3_damage 17 = .ok (.aaload, 1) := by decide +kernel
theorem dX3_damage_18 : decode cX3_damage 18 = .ok (.iload_n 2, 1) := by decide +kernel
theorem dX3_damage_19 : decode cX3_damage 19 = .ok (.iaload, 1) := by decide +kernel
theorem dX3_damage_20 : decode cX3_damage 20 = .ok (.istore 4, 2) := by decide +kernel
theorem dX3_damage_22 : decode cX3_damage 22 = .ok (.aload_n 0, 1) := by decide +kernel
theorem dX3_damage_23 : decode cX3_damage 23 = .ok (.getfield 11, 3) := by decide +kernel
theorem dX3_damage_26 : decode cX3_damage 26 = .ok (.iload_n 1, 1) := by decide +kernel
theorem dX3_damage_27 : decode cX3_damage 27 = .ok (.aaload, 1) := by decide +kernel
theorem dX3_damage_28 : decode cX3_damage 28 = .ok (.iload_n 2, 1) := by decide +kernel
theorem dX3_damage_29 : decode cX3_damage 29 = .ok (.iload_n 3, 1) := by decide +kernel
theorem dX3_damage_30 : decode cX3_damage 30 = .ok (.iastore, 1) := by decide +kernel
theorem dX3_damage_31 : decode cX3_damage 31 = .ok (.iload 4, 2) := by decide +kernel
theorem dX3_damage_33 : decode cX3_damage 33 = .ok (.ireturn, 1) := by decide +kernel
abbrev zm_X3_damage : zg_M := (RX3, cX3_damage, 5, (some .int), [])
theorem dX3_disk_0 : decode cX3_disk 0 = .ok (.iload_n 1, 1) := by decide +kernel
theorem dX3_disk_1 : decode cX3_disk 1 = .ok (.invokestatic 135, 3) := by decide +kernel
theorem dX3_disk_4 : decode cX3_disk 4 = .ok (.iload_n 2, 1) := by decide +kernel
theorem dX3_disk_5 : decode cX3_disk 5 = .ok (.invokestatic 49, 3) := by decide +kernel
theorem dX3_disk_8 : decode cX3_disk 8 = .ok (.aload_n 0, 1) := by decide +kernel
theorem dX3_disk_9 : decode cX3_disk 9 = .ok (.getfield 11, 3) := by decide +kernel
theorem dX3_disk_12 : decode cX3_disk 12 = .ok (.iload_n 1, 1) := by decide +kernel
theorem dX3_disk_13 : decode cX3_disk 13 = .ok (.aaload, 1) := by decide +kernel
theorem dX3_disk_14 : decode cX3_disk 14 = .ok (.iload_n 2, 1) := by decide +kernel
theorem dX3_disk_15 : decode cX3_disk 15 = .ok (.iaload, 1) := by decide +kernel
theorem dX3_disk_16 : decode cX3_disk 16 = .ok (.ireturn, 1) := by decide +kernel
abbrev zm_X3_disk : zg_M := (RX3, cX3_disk, 3, (some .int), [])
theorem dX3_place_0 : decode cX3_place 0 = .ok (.iload_n 1, 1) := by decide +kernel
theorem dX3_place_1 : decode cX3_place 1 = .ok (.invokestatic 45, 3) := by decide +kernel
theorem dX3_place_4 : decode cX3_place 4 = .ok (.iload_n 2, 1) := by decide +kernel
theorem dX3_place_5 : decode cX3_place 5 = .ok (.ifCond .lt 8, 3) := by decide +kernel
theorem dX3_place_8 : decode cX3_place 8 = .ok (.iload_n 2, 1) := by decide +kernel
theorem dX3_place_9 : decode cX3_place 9 = .ok (.iconst 2, 1) := by decide +kernel
theorem dX3_place_10 : decode cX3_place 10 = .ok (.if_icmp .le 13, 3) := by decide +kernel
theorem dX3_place_13 : decode cX3_place 13 = .ok (.new 79, 3) := by decide +kernel
theorem dX3_place_16 : decode cX3_place 16 = .ok (.dup, 1) := by decide +kernel
theorem dX3_place_17 : decode cX3_place 17 = .ok (.ldc 138, 2) := by decide +kernel
theorem dX3_place_19 : decode cX3_place 19 = .ok (.invokespecial 83, 3) := by decide +kernel
theorem dX3_place_22 : decode cX3_place 22 = .ok (.athrow, 1) := by decide +kernel
theorem dX3_place_23 : decode cX3_place 23 = .ok (.aload_n 0, 1) := by decide +kernel
theorem dX3_place_24 : decode cX3_place 24 = .ok (.invokevirtual 55, 3) := by decide +kernel
theorem dX3_place_27 : decode cX3_place 27 = .ok (.iload_n 2, 1) := by decide +kernel
theorem dX3_place_28 : decode cX3_place 28 = .ok (.ifCond .ne 13, 3) := by decide +kernel
theorem dX3_place_31 : decode cX3_place 31 = .ok (.aload_n 0, 1) := by decide +kernel
theorem dX3_place_32 : decode cX3_place 32 = .ok (.getfield 24, 3) := by decide +kernel
theorem dX3_place_35 : decode cX3_place 35 = .ok (.getfield 72, 3) := by decide +kernel
theorem dX3_place_38 : decode cX3_place 38 = .ok (.iload_n 1, 1) := by decide +kernel
theorem dX3_place_39 : decode cX3_place 39 = .ok (.iaload, 1) := by decide +kernel
theorem dX3_place_40 : decode cX3_place 40 = .ok (.ireturn, 1) := by decide +kernel
theorem dX3_place_41 : decode cX3_place 41 = .ok (.iload_n 2, 1) := by decide +kernel
theorem dX3_place_42 : decode cX3_place 42 = .ok (.iconst 1, 1) := by decide +kernel
theorem dX3_place_43 : decode cX3_place 43 = .ok (.if_icmp .ne 15, 3) := by decide +kernel
theorem dX3_place_46 : decode cX3_place 46 = .ok (.aload_n 0, 1) := by decide +kernel
theorem dX3_place_47 : decode cX3_place 47 = .ok (.getfield 28, 3) := by decide +kernel
theorem dX3_place_50 : decode cX3_place 50 = .ok (.getfield 72, 3) := by decide +kernel
theorem dX3_place_53 : decode cX3_place 53 = .ok (.iload_n 1, 1) := by decide +kernel
theorem dX3_place_54 : decode cX3_place 54 = .ok (.iaload, 1) := by decide +kernel
theorem dX3_place_55 : decode cX3_place 55 = .ok (.goto 8, 3) := by decide +kernel
theorem dX3_place_58 : decode cX3_place 58 = .ok (.aload_n 0, 1) := by decide +kernel
theorem dX3_place_59 : decode cX3_place 59 = .ok (.iload_n 1, 1) := by decide +kernel
theorem dX3_place_60 : decode cX3_place 60 = .ok (.invokevirtual 140, 3) := by decide +kernel
theorem dX3_place_63 : decode cX3_place 63 = .ok (.ireturn, 1) := by decide +kernel
abbrev zm_X3_place : zg_M := (RX3, cX3_place, 3, (some .int), [])
theorem dX3_free_0 : decode cX3_free 0 = .ok (.iload_n 1, 1) := by decide +kernel
theorem dX3_free_1 : decode cX3_free 1 = .ok (.invokestatic 135, 3) := by decide +kernel
theorem dX3_free_4 : decode cX3_free 4 = .ok (.aload_n 0, 1) := by decide +kernel
theorem dX3_free_5 : decode cX3_free 5 = .ok (.invokevirtual 55, 3) := by decide +kernel
theorem dX3_free_8 : decode cX3_free 8 = .ok (.aload_n 0, 1) := by decide +kernel
theorem dX3_free_9 : decode cX3_free 9 = .ok (.invokevirtual 144, 3) := by decide +kernel
theorem dX3_free_12 : decode cX3_free 12 = .ok (.iload_n 1, 1) := by decide +kernel
theorem dX3_free_13 : decode cX3_free 13 = .ok (.invokestatic 148, 3) := by decide +kernel
theorem dX3_free_16 : decode cX3_free 16 = .ok (.ireturn, 1) := by decide +kernel
abbrev zm_X3_free : zg_M := (RX3, cX3_free, 2, (some .boolean), [])
theorem dX3_held_0 : decode cX3_held 0 = .ok (.iload_n 1, 1) := by decide +kernel
theorem dX3_held_1 : decode cX3_held 1 = .ok (.ifCond .lt 14, 3) := by decide +kernel
theorem dX3_held_4 : decode cX3_held 4 = .ok (.iload_n 1, 1) := by decide +kernel
theorem dX3_held_5 : decode cX3_held 5 = .ok (.aload_n 0, 1) := by decide +kernel
theorem dX3_held_6 : decode cX3_held 6 = .ok (.getfield 17, 3) := by decide +kernel
theorem dX3_held_9 : decode cX3_held 9 = .ok (.getfield 86, 3) := by decide +kernel
theorem dX3_held_12 : decode cX3_held 12 = .ok (.if_icmp .lt 13, 3) := by decide +kernel
theorem dX3_held_15 : decode cX3_held 15 = .ok (.new 79, 3) := by decide +kernel
theorem dX3_held_18 : decode cX3_held 18 = .ok (.dup, 1) := by decide +kernel
theorem dX3_held_19 : decode cX3_held 19 = .ok (.ldc 152, 2) := by decide +kernel
theorem dX3_held_21 : decode cX3_held 21 = .ok (.invokespecial 83, 3) := by decide +kernel
theorem dX3_held_24 : decode cX3_held 24 = .ok (.athrow, 1) := by decide +kernel
theorem dX3_held_25 : decode cX3_held 25 = .ok (.iload_n 2, 1) := by decide +kernel
theorem dX3_held_26 : decode cX3_held 26 = .ok (.iconst (-1), 1) := by decide +kernel
theorem dX3_held_27 : decode cX3_held 27 = .ok (.if_icmp .ne 13, 3) := by decide +kernel
theorem dX3_held_30 : decode cX3_held 30 = .ok (.aload_n 0, 1) := by decide +kernel
theorem dX3_held_31 : decode cX3_held 31 = .ok (.getfield 17, 3) := by decide +kernel
theorem dX3_held_34 : decode cX3_held 34 = .ok (.getfield 154, 3) := by decide +kernel
theorem dX3_held_37 : decode cX3_held 37 = .ok (.iload_n 1, 1) := by decide +kernel
theorem dX3_held_38 : decode cX3_held 38 = .ok (.iaload, 1) := by decide +kernel
theorem dX3_held_39 : decode cX3_held 39 = .ok (.ireturn, 1) := by decide +kernel
theorem dX3_held_40 : decode cX3_held 40 = .ok (.iload_n 2, 1) := by decide +kernel
theorem dX3_held_41 : decode cX3_held 41 = .ok (.invokestatic 49, 3) := by decide +kernel
theorem dX3_held_44 : decode cX3_held 44 = .ok (.aload_n 0, 1) := by decide +kernel
theorem dX3_held_45 : decode cX3_held 45 = .ok (.getfield 17, 3) := by decide +kernel
theorem dX3_held_48 : decode cX3_held 48 = .ok (.getfield 157, 3) := by decide +kernel
theorem dX3_held_51 : decode cX3_held 51 = .ok (.iload_n 1, 1) := by decide +kernel
theorem dX3_held_52 : decode cX3_held 52 = .ok (.aaload, 1) := by decide +kernel
theorem dX3_held_53 : decode cX3_held 53 = .ok (.iload_n 2, 1) := by decide +kernel
theorem dX3_held_54 : decode cX3_held 54 = .ok (.iaload, 1) := by decide +kernel
theorem dX3_held_55 : decode cX3_held 55 = .ok (.ireturn, 1) := by decide +kernel
abbrev zm_X3_held : zg_M := (RX3, cX3_held, 3, (some .int), [])
theorem dX3_total_0 : decode cX3_total 0 = .ok (.iload_n 1, 1) := by decide +kernel
theorem dX3_total_1 : decode cX3_total 1 = .ok (.ifCond .lt 9, 3) := by decide +kernel
theorem dX3_total_4 : decode cX3_total 4 = .ok (.iload_n 1, 1) := by decide +kernel
theorem dX3_total_5 : decode cX3_total 5 = .ok (.bipush 7, 2) := by decide +kernel
theorem dX3_total_7 : decode cX3_total 7 = .ok (.if_icmp .le 13, 3) := by decide +kernel
theorem dX3_total_10 : decode cX3_total 10 = .ok (.new 79, 3) := by decide +kernel
theorem dX3_total_13 : decode cX3_total 13 = .ok (.dup, 1) := by decide +kernel
theorem dX3_total_14 : decode cX3_total 14 = .ok (.ldc 158, 2) := by decide +kernel
theorem dX3_total_16 : decode cX3_total 16 = .ok (.invokespecial 83, 3) := by decide +kernel
theorem dX3_total_19 : decode cX3_total 19 = .ok (.athrow, 1) := by decide +kernel
theorem dX3_total_20 : decode cX3_total 20 = .ok (.iload_n 1, 1) := by decide +kernel
theorem dX3_total_21 : decode cX3_total 21 = .ok (.ifCond .ne 11, 3) := by decide +kernel
theorem dX3_total_24 : decode cX3_total 24 = .ok (.aload_n 0, 1) := by decide +kernel
theorem dX3_total_25 : decode cX3_total 25 = .ok (.getfield 17, 3) := by decide +kernel
theorem dX3_total_28 : decode cX3_total 28 = .ok (.getfield 86, 3) := by decide +kernel
theorem dX3_total_31 : decode cX3_total 31 = .ok (.ireturn, 1) := by decide +kernel
theorem dX3_total_32 : decode cX3_total 32 = .ok (.iload_n 1, 1) := by decide +kernel
theorem dX3_total_33 : decode cX3_total 33 = .ok (.bipush 7, 2) := by decide +kernel
theorem dX3_total_35 : decode cX3_total 35 = .ok (.if_icmp .ne 16, 3) := by decide +kernel
theorem dX3_total_38 : decode cX3_total 38 = .ok (.aload_n 0, 1) := by decide +kernel
theorem dX3_total_39 : decode cX3_total 39 = .ok (.getfield 131, 3) := by decide +kernel
theorem dX3_total_42 : decode cX3_total 42 = .ok (.ifCond .eq 7, 3) := by decide +kernel
theorem dX3_total_45 : decode cX3_total 45 = .ok (.iconst 1, 1) := by decide +kernel
theorem dX3_total_46 : decode cX3_total 46 = .ok (.goto 4, 3) := by decide +kernel
theorem dX3_total_49 : decode cX3_total 49 = .ok (.iconst 0, 1) := by decide +kernel
theorem dX3_total_50 : decode cX3_total 50 = .ok (.ireturn, 1) := by decide +kernel
theorem dX3_total_51 : decode cX3_total 51 = .ok (.aload_n 0, 1) := by decide +kernel
theorem dX3_total_52 : decode cX3_total 52 = .ok (.getfield 131, 3) := by decide +kernel
theorem dX3_total_55 : decode cX3_total 55 = .ok (.ifCond .eq 7, 3) := by decide +kernel
theorem dX3_total_58 : decode cX3_total 58 = .ok (.iconst (-1), 1) := by decide +kernel
theorem dX3_total_59 : decode cX3_total 59 = .ok (.goto 8, 3) := by decide +kernel
theorem dX3_total_62 : decode cX3_total 62 = .ok (.aload_n 0, 1) := by decide +kernel
theorem dX3_total_63 : decode cX3_total 63 = .ok (.iload_n 1, 1) := by decide +kernel
theorem dX3_total_64 : decode cX3_total 64 = .ok (.invokevirtual 160, 3) := by decide +kernel
theorem dX3_total_67 : decode cX3_total 67 = .ok (.ireturn, 1) := by decide +kernel
abbrev zm_X3_total : zg_M := (RX3, cX3_total, 2, (some .int), [])
theorem dX3_mountedTotal_0 : decode cX3_mountedTotal 0 = .ok (.iload_n 1, 1) := by decide +kernel
theorem dX3_mountedTotal_1 : decode cX3_mountedTotal 1 = .ok (.tableswitch 89 1 5 #[35, 57, 65, 73, 81], 35) := by decide +kernel
theorem dX3_mountedTotal_36 : decode cX3_mountedTotal 36 = .ok (.aload_n 0, 1) := by decide +kernel
theorem dX3_mountedTotal_37 : decode cX3_mountedTotal 37 = .ok (.getfield 34, 3) := by decide +kernel
theorem dX3_mountedTotal_40 : decode cX3_mountedTotal 40 = .ok (.invokevirtual 163, 3) := by decide +kernel
theorem dX3_mountedTotal_43 : decode cX3_mountedTotal 43 = .ok (.ifCond .eq 13, 3) := by decide +kernel
theorem dX3_mountedTotal_46 : decode cX3_mountedTotal 46 = .ok (.aload_n 0, 1) := by decide +kernel
theorem dX3_mountedTotal_47 : decode cX3_mountedTotal 47 = .ok (.getfield 34, 3) := by decide +kernel
theorem dX3_mountedTotal_50 : decode cX3_mountedTotal 50 = .ok (.getfield 64, 3) := by decide +kernel
theorem dX3_mountedTotal_53 : decode cX3_mountedTotal 53 = .ok (.goto 4, 3) := by decide +kernel
theorem dX3_mountedTotal_56 : decode cX3_mountedTotal 56 = .ok (.iconst (-1), 1) := by decide +kernel
theorem dX3_mountedTotal_57 : decode cX3_mountedTotal 57 = .ok (.ireturn, 1) := by decide +kernel
theorem dX3_mountedTotal_58 : decode cX3_mountedTotal 58 = .ok (.aload_n 0, 1) := by decide +kernel
theorem dX3_mountedTotal_59 : decode cX3_mountedTotal 59 = .ok (.invokevirtual 144, 3) := by decide +kernel
theorem dX3_mountedTotal_62 : decode cX3_mountedTotal 62 = .ok (.invokestatic 167, 3) := by decide +kernel
theorem dX3_mountedTotal_65 : decode cX3_mountedTotal 65 = .ok (.ireturn, 1) := by decide +kernel
theorem dX3_mountedTotal_66 : decode cX3_mountedTotal 66 = .ok (.aload_n 0, 1) := by decide +kernel
theorem dX3_mountedTotal_67 : decode cX3_mountedTotal 67 = .ok (.getfield 24, 3) := by decide +kernel
theorem dX3_mountedTotal_70 : decode cX3_mountedTotal 70 = .ok (.getfield 118, 3) := by decide +kernel
theorem dX3_mountedTotal_73 : decode cX3_mountedTotal 73 = .ok (.ireturn, 1) := by decide +kernel
theorem dX3_mountedTotal_74 : decode cX3_mountedTotal 74 = .ok (.aload_n 0, 1) := by decide +kernel
theorem dX3_mountedTotal_75 : decode cX3_mountedTotal 75 = .ok (.getfield 24, 3) := by decide +kernel
theorem dX3_mountedTotal_78 : decode cX3_mountedTotal 78 = .ok (.getfield 173, 3) := by decide +kernel
theorem dX3_mountedTotal_81 : decode cX3_mountedTotal 81 = .ok (.ireturn, 1) := by decide +kernel
theorem dX3_mountedTotal_82 : decode cX3_mountedTotal 82 = .ok (.aload_n 0, 1) := by decide +kernel
theorem dX3_mountedTotal_83 : decode cX3_mountedTotal 83 = .ok (.getfield 28, 3) := by decide +kernel
theorem dX3_mountedTotal_86 : decode cX3_mountedTotal 86 = .ok (.getfield 118, 3) := by decide +kernel
theorem dX3_mountedTotal_89 : decode cX3_mountedTotal 89 = .ok (.ireturn, 1) := by decide +kernel
theorem dX3_mountedTotal_90 : decode cX3_mountedTotal 90 = .ok (.aload_n 0, 1) := by decide +kernel
theorem dX3_mountedTotal_91 : decode cX3_mountedTotal 91 = .ok (.getfield 28, 3) := by decide +kernel
theorem dX3_mountedTotal_94 : decode cX3_mountedTotal 94 = .ok (.getfield 173, 3) := by decide +kernel
theorem dX3_mountedTotal_97 : decode cX3_mountedTotal 97 = .ok (.ireturn, 1) := by decide +kernel
abbrev zm_X3_mountedTotal : zg_M := (RX3, cX3_mountedTotal, 2, (some .int), [])
theorem dX3_checkPage_0 : decode cX3_checkPage 0 = .ok (.iload_n 0, 1) := by decide +kernel
theorem dX3_checkPage_1 : decode cX3_checkPage 1 = .ok (.ifCond .lt 9, 3) := by decide +kernel
theorem dX3_checkPage_4 : decode cX3_checkPage 4 = .ok (.iload_n 0, 1) := by decide +kernel
theorem dX3_checkPage_5 : decode cX3_checkPage 5 = .ok (.bipush 16, 2) := by decide +kernel
theorem dX3_checkPage_7 : decode cX3_checkPage 7 = .ok (.if_icmp .lt 13, 3) := by decide +kernel
theorem dX3_checkPage_10 : decode cX3_checkPage 10 = .ok (.new 79, 3) := by decide +kernel
theorem dX3_checkPage_13 : decode cX3_checkPage 13 = .ok (.dup, 1) := by decide +kernel
theorem dX3_checkPage_14 : decode cX3_checkPage 14 = .ok (.ldc 176, 2) := by decide +kernel
theorem dX3_checkPage_16 : decode cX3_checkPage 16 = .ok (.invokespecial 83, 3) := by decide +kernel
theorem dX3_checkPage_19 : decode cX3_checkPage 19 = .ok (.athrow, 1) := by decide +kernel
theorem dX3_checkPage_20 : decode cX3_checkPage 20 = .ok (.return_, 1) := by decide +kernel
abbrev zm_X3_checkPage : zg_M := (RX3, cX3_checkPage, 1, none, [])
theorem dX3_checkSector_0 : decode cX3_checkSector 0 = .ok (.iload_n 0, 1) := by decide +kernel
theorem dX3_checkSector_1 : decode cX3_checkSector 1 = .ok (.ifCond .lt 9, 3) := by decide +kernel
theorem dX3_checkSector_4 : decode cX3_checkSector 4 = .ok (.iload_n 0, 1) := by decide +kernel
theorem dX3_checkSector_5 : decode cX3_checkSector 5 = .ok (.bipush 48, 2) := by decide +kernel
theorem dX3_checkSector_7 : decode cX3_checkSector 7 = .ok (.if_icmp .lt 13, 3) := by decide +kernel
theorem dX3_checkSector_10 : decode cX3_checkSector 10 = .ok (.new 79, 3) := by decide +kernel
theorem dX3_checkSector_13 : decode cX3_checkSector 13 = .ok (.dup, 1) := by decide +kernel
theorem dX3_checkSector_14 : decode cX3_checkSector 14 = .ok (.ldc 178, 2) := by decide +kernel
theorem dX3_checkSector_16 : decode cX3_checkSector 16 = .ok (.invokespecial 83, 3) := by decide +kernel
theorem dX3_checkSector_19 : decode cX3_checkSector 19 = .ok (.athrow, 1) := by decide +kernel
theorem dX3_checkSector_20 : decode cX3_checkSector 20 = .ok (.return_, 1) := by decide +kernel
abbrev zm_X3_checkSector : zg_M := (RX3, cX3_checkSector, 1, none, [])
theorem dX3_checkIndex_0 : decode cX3_checkIndex 0 = .ok (.iload_n 0, 1) := by decide +kernel
theorem dX3_checkIndex_1 : decode cX3_checkIndex 1 = .ok (.ifCond .lt 9, 3) := by decide +kernel
theorem dX3_checkIndex_4 : decode cX3_checkIndex 4 = .ok (.iload_n 0, 1) := by decide +kernel
theorem dX3_checkIndex_5 : decode cX3_checkIndex 5 = .ok (.bipush 16, 2) := by decide +kernel
theorem dX3_checkIndex_7 : decode cX3_checkIndex 7 = .ok (.if_icmp .lt 13, 3) := by decide +kernel
theorem dX3_checkIndex_10 : decode cX3_checkIndex 10 = .ok (.new 79, 3) := by decide +kernel
theorem dX3_checkIndex_13 : decode cX3_checkIndex 13 = .ok (.dup, 1) := by decide +kernel
theorem dX3_checkIndex_14 : decode cX3_checkIndex 14 = .ok (.ldc 180, 2) := by decide +kernel
theorem dX3_checkIndex_16 : decode cX3_checkIndex 16 = .ok (.invokespecial 83, 3) := by decide +kernel
theorem dX3_checkIndex_19 : decode cX3_checkIndex 19 = .ok (.athrow, 1) := by decide +kernel
theorem dX3_checkIndex_20 : decode cX3_checkIndex 20 = .ok (.return_, 1) := by decide +kernel
abbrev zm_X3_checkIndex : zg_M := (RX3, cX3_checkIndex, 1, none, [])
theorem dX3_checkByte_0 : decode cX3_checkByte 0 = .ok (.iload_n 0, 1) := by decide +kernel
theorem dX3_checkByte_1 : decode cX3_checkByte 1 = .ok (.ifCond .lt 10, 3) := by decide +kernel
theorem dX3_checkByte_4 : decode cX3_checkByte 4 = .ok (.iload_n 0, 1) := by decide +kernel
theorem dX3_checkByte_5 : decode cX3_checkByte 5 = .ok (.sipush 255, 3) := by decide +kernel
theorem dX3_checkByte_8 : decode cX3_checkByte 8 = .ok (.if_icmp .le 13, 3) := by decide +kernel
theorem dX3_checkByte_11 : decode cX3_checkByte 11 = .ok (.new 79, 3) := by decide +kernel
theorem dX3_checkByte_14 : decode cX3_checkByte 14 = .ok (.dup, 1) := by decide +kernel
theorem dX3_checkByte_15 : decode cX3_checkByte 15 = .ok (.ldc 182, 2) := by decide +kernel
theorem dX3_checkByte_17 : decode cX3_checkByte 17 = .ok (.invokespecial 83, 3) := by decide +kernel
theorem dX3_checkByte_20 : decode cX3_checkByte 20 = .ok (.athrow, 1) := by decide +kernel
theorem dX3_checkByte_21 : decode cX3_checkByte 21 = .ok (.return_, 1) := by decide +kernel
abbrev zm_X3_checkByte : zg_M := (RX3, cX3_checkByte, 1, none, [])
theorem dX3_checkMounted_0 : decode cX3_checkMounted 0 = .ok (.aload_n 0, 1) := by decide +kernel
theorem dX3_checkMounted_1 : decode cX3_checkMounted 1 = .ok (.getfield 131, 3) := by decide +kernel
theorem dX3_checkMounted_4 : decode cX3_checkMounted 4 = .ok (.ifCond .eq 13, 3) := by decide +kernel
theorem dX3_checkMounted_7 : decode cX3_checkMounted 7 = .ok (.new 89, 3) := by decide +kernel
theorem dX3_checkMounted_10 : decode cX3_checkMounted 10 = .ok (.dup, 1) := by decide +kernel
theorem dX3_checkMounted_11 : decode cX3_checkMounted 11 = .ok (.ldc 184, 2) := by decide +kernel
theorem dX3_checkMounted_13 : decode cX3_checkMounted 13 = .ok (.invokespecial 93, 3) := by decide +kernel
theorem dX3_checkMounted_16 : decode cX3_checkMounted 16 = .ok (.athrow, 1) := by decide +kernel
theorem dX3_checkMounted_17 : decode cX3_checkMounted 17 = .ok (.return_, 1) := by decide +kernel
abbrev zm_X3_checkMounted : zg_M := (RX3, cX3_checkMounted, 1, none, [])
theorem dX3_checkOpen_0 : decode cX3_checkOpen 0 = .ok (.aload_n 0, 1) := by decide +kernel
theorem dX3_checkOpen_1 : decode cX3_checkOpen 1 = .ok (.getfield 34, 3) := by decide +kernel
theorem dX3_checkOpen_4 : decode cX3_checkOpen 4 = .ok (.invokevirtual 163, 3) := by decide +kernel
theorem dX3_checkOpen_7 : decode cX3_checkOpen 7 = .ok (.ifCond .ne 13, 3) := by decide +kernel
theorem dX3_checkOpen_10 : decode cX3_checkOpen 10 = .ok (.new 89, 3) := by decide +kernel
theorem dX3_checkOpen_13 : decode cX3_checkOpen 13 = .ok (.dup, 1) := by decide +kernel
theorem dX3_checkOpen_14 : decode cX3_checkOpen 14 = .ok (.ldc 186, 2) := by decide +kernel
theorem dX3_checkOpen_16 : decode cX3_checkOpen 16 = .ok (.invokespecial 93, 3) := by decide +kernel
theorem dX3_checkOpen_19 : decode cX3_checkOpen 19 = .ok (.athrow, 1) := by decide +kernel
theorem dX3_checkOpen_20 : decode cX3_checkOpen 20 = .ok (.return_, 1) := by decide +kernel
abbrev zm_X3_checkOpen : zg_M := (RX3, cX3_checkOpen, 1, none, [])
theorem dX3_formatAndMount_0 : decode cX3_formatAndMount 0 = .ok (.iconst 0, 1) := by decide +kernel
theorem dX3_formatAndMount_1 : decode cX3_formatAndMount 1 = .ok (.istore_n 1, 1) := by decide +kernel
theorem dX3_formatAndMount_2 : decode cX3_formatAndMount 2 = .ok (.iload_n 1, 1) := by decide +kernel
theorem dX3_formatAndMount_3 : decode cX3_formatAndMount 3 = .ok (.bipush 48, 2) := by decide +kernel
theorem dX3_formatAndMount_5 : decode cX3_formatAndMount 5 = .ok (.if_icmp .ge 19, 3) := by decide +kernel
theorem dX3_formatAndMount_8 : decode cX3_formatAndMount 8 = .ok (.aload_n 0, 1) := by decide +kernel
theorem dX3_formatAndMount_9 : decode cX3_formatAndMount 9 = .ok (.getfield 11, 3) := by decide +kernel
theorem dX3_formatAndMount_12 : decode cX3_formatAndMount 12 = .ok (.iload_n 1, 1) := by decide +kernel
theorem dX3_formatAndMount_13 : decode cX3_formatAndMount 13 = .ok (.aaload, 1) := by decide +kernel
theorem dX3_formatAndMount_14 : decode cX3_formatAndMount 14 = .ok (.iconst 0, 1) := by decide +kernel
theorem dX3_formatAndMount_15 : decode cX3_formatAndMount 15 = .ok (.invokestatic 188, 3) := by decide +kernel
theorem dX3_formatAndMount_18 : decode cX3_formatAndMount 18 = .ok (.iinc 1 1, 3) := by decide +kernel
theorem dX3_formatAndMount_21 : decode cX3_formatAndMount 21 = .ok (.goto (-19), 3) := by decide +kernel
theorem dX3_formatAndMount_24 : decode cX3_formatAndMount 24 = .ok (.aload_n 0, 1) := by decide +kernel
theorem dX3_formatAndMount_25 : decode cX3_formatAndMount 25 = .ok (.getfield 11, 3) := by decide +kernel
theorem dX3_formatAndMount_28 : decode cX3_formatAndMount 28 = .ok (.iconst 0, 1) := by decide +kernel
theorem dX3_formatAndMount_29 : decode cX3_formatAndMount 29 = .ok (.aaload, 1) := by decide +kernel
theorem dX3_formatAndMount_30 : decode cX3_formatAndMount 30 = .ok (.iconst 0, 1) := by decide +kernel
theorem dX3_formatAndMount_31 : decode cX3_formatAndMount 31 = .ok (.iconst 1, 1) := by decide +kernel
theorem dX3_formatAndMount_32 : decode cX3_formatAndMount 32 = .ok (.invokestatic 194, 3) := by decide +kernel
theorem dX3_formatAndMount_35 : decode cX3_formatAndMount 35 = .ok (.aload_n 0, 1) := by decide +kernel
theorem dX3_formatAndMount_36 : decode cX3_formatAndMount 36 = .ok (.invokevirtual 128, 3) := by decide +kernel
theorem dX3_formatAndMount_39 : decode cX3_formatAndMount 39 = .ok (.return_, 1) := by decide +kernel
abbrev zm_X3_formatAndMount : zg_M := (RX3, cX3_formatAndMount, 2, none, [])
theorem dX3_mount_0 : decode cX3_mount 0 = .ok (.aload_n 0, 1) := by decide +kernel
theorem dX3_mount_1 : decode cX3_mount 1 = .ok (.getfield 17, 3) := by decide +kernel
theorem dX3_mount_4 : decode cX3_mount 4 = .ok (.iconst 0, 1) := by decide +kernel
theorem dX3_mount_5 : decode cX3_mount 5 = .ok (.putfield 86, 3) := by decide +kernel
theorem dX3_mount_8 : decode cX3_mount 8 = .ok (.aload_n 0, 1) := by decide +kernel
theorem dX3_mount_9 : decode cX3_mount 9 = .ok (.getfield 34, 3) := by decide +kernel
theorem dX3_mount_12 : decode cX3_mount 12 = .ok (.invokevirtual 121, 3) := by decide +kernel
theorem dX3_mount_15 : decode cX3_mount 15 = .ok (.aload_n 0, 1) := by decide +kernel
theorem dX3_mount_16 : decode cX3_mount 16 = .ok (.aload_n 0, 1) := by decide +kernel
theorem dX3_mount_17 : decode cX3_mount 17 = .ok (.invokevirtual 198, 3) := by decide +kernel
theorem dX3_mount_20 : decode cX3_mount 20 = .ok (.ifCond .eq 10, 3) := by decide +kernel
theorem dX3_mount_23 : decode cX3_mount 23 = .ok (.aload_n 0, 1) := by decide +kernel
theorem dX3_mount_24 : decode cX3_mount 24 = .ok (.invokevirtual 201, 3) := by decide +kernel
theorem dX3_mount_27 : decode cX3_mount 27 = .ok (.ifCond .ne 7, 3) := by decide +kernel
theorem dX3_mount_30 : decode cX3_mount 30 = .ok (.iconst 1, 1) := by decide +kernel
theorem dX3_mount_31 : decode cX3_mount 31 = .ok (.goto 4, 3) := by decide +kernel
theorem dX3_mount_34 : decode cX3_mount 34 = .ok (.iconst 0, 1) := by decide +kernel
theorem dX3_mount_35 : decode cX3_mount 35 = .ok (.putfield 131, 3) := by decide +kernel
theorem dX3_mount_38 : decode cX3_mount 38 = .ok (.aload_n 0, 1) := by decide +kernel
theorem dX3_mount_39 : decode cX3_mount 39 = .ok (.getfield 131, 3) := by decide +kernel
theorem dX3_mount_42 : decode cX3_mount 42 = .ok (.ifCond .ne 84, 3) := by decide +kernel
theorem dX3_mount_45 : decode cX3_mount 45 = .ok (.aload_n 0, 1) := by decide +kernel
theorem dX3_mount_46 : decode cX3_mount 46 = .ok (.getfield 11, 3) := by decide +kernel
theorem dX3_mount_49 : decode cX3_mount 49 = .ok (.iconst 0, 1) := by decide +kernel
theorem dX3_mount_50 : decode cX3_mount 50 = .ok (.aaload, 1) := by decide +kernel
theorem dX3_mount_51 : decode cX3_mount 51 = .ok (.astore_n 1, 1) := by decide +kernel
theorem dX3_mount_52 : decode cX3_mount 52 = .ok (.aload_n 1, 1) := by decide +kernel
theorem dX3_mount_53 : decode cX3_mount 53 = .ok (.iconst 4, 1) := by decide +kernel
theorem dX3_mount_54 : decode cX3_mount 54 = .ok (.iaload, 1) := by decide +kernel
theorem dX3_mount_55 : decode cX3_mount 55 = .ok (.istore_n 2, 1) := by decide +kernel
theorem dX3_mount_56 : decode cX3_mount 56 = .ok (.aload_n 0, 1) := by decide +kernel
theorem dX3_mount_57 : decode cX3_mount 57 = .ok (.getfield 11, 3) := by decide +kernel
theorem dX3_mount_60 : decode cX3_mount 60 = .ok (.iload_n 2, 1) := by decide +kernel
theorem dX3_mount_61 : decode cX3_mount 61 = .ok (.aaload, 1) := by decide +kernel
theorem dX3_mount_62 : decode cX3_mount 62 = .ok (.iconst 0, 1) := by decide +kernel
theorem dX3_mount_63 : decode cX3_mount 63 = .ok (.aload_n 0, 1) := by decide +kernel
theorem dX3_mount_64 : decode cX3_mount 64 = .ok (.getfield 24, 3) := by decide +kernel
theorem dX3_mount_67 : decode cX3_mount 67 = .ok (.getfield 72, 3) := by decide +kernel
theorem dX3_mount_70 : decode cX3_mount 70 = .ok (.iconst 0, 1) := by decide +kernel
theorem dX3_mount_71 : decode cX3_mount 71 = .ok (.bipush 16, 2) := by decide +kernel
theorem dX3_mount_73 : decode cX3_mount 73 = .ok (.invokestatic 204, 3) := by decide +kernel
theorem dX3_mount_76 : decode cX3_mount 76 = .ok (.aload_n 0, 1) := by decide +kernel
theorem dX3_mount_77 : decode cX3_mount 77 = .ok (.getfield 24, 3) := by decide +kernel
theorem dX3_mount_80 : decode cX3_mount 80 = .ok (.iload_n 2, 1) := by decide +kernel
theorem dX3_mount_81 : decode cX3_mount 81 = .ok (.putfield 173, 3) := by decide +kernel
theorem dX3_mount_84 : decode cX3_mount 84 = .ok (.aload_n 0, 1) := by decide +kernel
theorem dX3_mount_85 : decode cX3_mount 85 = .ok (.getfield 24, 3) := by decide +kernel
theorem dX3_mount_88 : decode cX3_mount 88 = .ok (.aload_n 1, 1) := by decide +kernel
theorem dX3_mount_89 : decode cX3_mount 89 = .ok (.iconst 0, 1) := by decide +kernel
theorem dX3_mount_90 : decode cX3_mount 90 = .ok (.iaload, 1) := by decide +kernel
theorem dX3_mount_91 : decode cX3_mount 91 = .ok (.bipush 24, 2) := by decide +kernel
theorem dX3_mount_93 : decode cX3_mount 93 = .ok (.ishl, 1) := by decide +kernel
theorem dX3_mount_94 : decode cX3_mount 94 = .ok (.aload_n 1, 1) := by decide +kernel
theorem dX3_mount_95 : decode cX3_mount 95 = .ok (.iconst 1, 1) := by decide +kernel
theorem dX3_mount_96 : decode cX3_mount 96 = .ok (.iaload, 1) := by decide +kernel
theorem dX3_mount_97 : decode cX3_mount 97 = .ok (.bipush 16, 2) := by decide +kernel
theorem dX3_mount_99 : decode cX3_mount 99 = .ok (.ishl, 1) := by decide +kernel
theorem dX3_mount_100 : decode cX3_mount 100 = .ok (.ior, 1) := by decide +kernel
theorem dX3_mount_101 : decode cX3_mount 101 = .ok (.aload_n 1, 1) := by decide +kernel
theorem dX3_mount_102 : decode cX3_mount 102 = .ok (.iconst 2, 1) := by decide +kernel
theorem dX3_mount_103 : decode cX3_mount 103 = .ok (.iaload, 1) := by decide +kernel
theorem dX3_mount_104 : decode cX3_mount 104 = .ok (.bipush 8, 2) := by decide +kernel
theorem dX3_mount_106 : decode cX3_mount 106 = .ok (.ishl, 1) := by decide +kernel
theorem dX3_mount_107 : decode cX3_mount 107 = .ok (.ior, 1) := by decide +kernel
theorem dX3_mount_108 : decode cX3_mount 108 = .ok (.aload_n 1, 1) := by decide +kernel
theorem dX3_mount_109 : decode cX3_mount 109 = .ok (.iconst 3, 1) := by decide +kernel
theorem dX3_mount_110 : decode cX3_mount 110 = .ok (.iaload, 1) := by decide +kernel
theorem dX3_mount_111 : decode cX3_mount 111 = .ok (.ior, 1) := by decide +kernel
theorem dX3_mount_112 : decode cX3_mount 112 = .ok (.putfield 118, 3) := by decide +kernel
theorem dX3_mount_115 : decode cX3_mount 115 = .ok (.aload_n 0, 1) := by decide +kernel
theorem dX3_mount_116 : decode cX3_mount 116 = .ok (.getfield 28, 3) := by decide +kernel
theorem dX3_mount_119 : decode cX3_mount 119 = .ok (.aload_n 0, 1) := by decide +kernel
theorem dX3_mount_120 : decode cX3_mount 120 = .ok (.getfield 24, 3) := by decide +kernel
theorem dX3_mount_123 : decode cX3_mount 123 = .ok (.invokevirtual 210, 3) := by decide +kernel
theorem dX3_mount_126 : decode cX3_mount 126 = .ok (.return_, 1) := by decide +kernel
abbrev zm_X3_mount : zg_M := (RX3, cX3_mount, 3, none, [])
theorem dX3_masterIsRight_0 : decode cX3_masterIsRight 0 = .ok (.aload_n 0, 1) := by decide +kernel
theorem dX3_masterIsRight_1 : decode cX3_masterIsRight 1 = .ok (.getfield 11, 3) := by decide +kernel
theorem dX3_masterIsRight_4 : decode cX3_masterIsRight 4 = .ok (.iconst 0, 1) := by decide +kernel
theorem dX3_masterIsRight_5 : decode cX3_masterIsRight 5 = .ok (.aaload, 1) := by decide +kernel
theorem dX3_masterIsRight_6 : decode cX3_masterIsRight 6 = .ok (.astore_n 1, 1) := by decide +kernel
theorem dX3_masterIsRight_7 : decode cX3_masterIsRight 7 = .ok (.iconst 5, 1) := by decide +kernel
theorem dX3_masterIsRight_8 : decode cX3_masterIsRight 8 = .ok (.istore_n 2, 1) := by decide +kernel
theorem dX3_masterIsRight_9 : decode cX3_masterIsRight 9 = .ok (.iload_n 2, 1) := by decide +kernel
theorem dX3_masterIsRight_10 : decode cX3_masterIsRight 10 = .ok (.bipush 14, 2) := by decide +kernel
theorem dX3_masterIsRight_12 : decode cX3_masterIsRight 12 = .ok (.if_icmp .ge 17, 3) := by decide +kernel
theorem dX3_masterIsRight_15 : decode cX3_masterIsRight 15 = .ok (.aload_n 1, 1) := by decide +kernel
theorem dX3_masterIsRight_16 : decode cX3_masterIsRight 16 = .ok (.iload_n 2, 1) := by decide +kernel
theorem dX3_masterIsRight_17 : decode cX3_masterIsRight 17 = .ok (.iaload, 1) := by decide +kernel
theorem dX3_masterIsRight_18 : decode cX3_masterIsRight 18 = .ok (.ifCond .eq 5, 3) := by decide +kernel
theorem dX3_masterIsRight_21 : decode cX3_masterIsRight 21 = .ok (.iconst 0, 1) := by decide +kernel
theorem dX3_masterIsRight_22 : decode cX3_masterIsRight 22 = .ok (.ireturn, 1) := by decide +kernel
theorem dX3_masterIsRight_23 : decode cX3_masterIsRight 23 = .ok (.iinc 2 1, 3) := by decide +kernel
theorem dX3_masterIsRight_26 : decode cX3_masterIsRight 26 = .ok (.goto (-17), 3) := by decide +kernel
theorem dX3_masterIsRight_29 : decode cX3_masterIsRight 29 = .ok (.aload_n 1, 1) := by decide +kernel
theorem dX3_masterIsRight_30 : decode cX3_masterIsRight 30 = .ok (.bipush 14, 2) := by decide +kernel
theorem dX3_masterIsRight_32 : decode cX3_masterIsRight 32 = .ok (.iaload, 1) := by decide +kernel
theorem dX3_masterIsRight_33 : decode cX3_masterIsRight 33 = .ok (.bipush 8, 2) := by decide +kernel
theorem dX3_masterIsRight_35 : decode cX3_masterIsRight 35 = .ok (.ishl, 1) := by decide +kernel
theorem dX3_masterIsRight_36 : decode cX3_masterIsRight 36 = .ok (.aload_n 1, 1) := by decide +kernel
theorem dX3_masterIsRight_37 : decode cX3_masterIsRight 37 = .ok (.bipush 15, 2) := by decide +kernel
theorem dX3_masterIsRight_39 : decode cX3_masterIsRight 39 = .ok (.iaload, 1) := by decide +kernel
theorem dX3_masterIsRight_40 : decode cX3_masterIsRight 40 = .ok (.ior, 1) := by decide +kernel
theorem dX3_masterIsRight_41 : decode cX3_masterIsRight 41 = .ok (.aload_n 1, 1) := by decide +kernel
theorem dX3_masterIsRight_42 : decode cX3_masterIsRight 42 = .ok (.invokestatic 214, 3) := by decide +kernel
theorem dX3_masterIsRight_45 : decode cX3_masterIsRight 45 = .ok (.if_icmp .ne 7, 3) := by decide +kernel
theorem dX3_masterIsRight_48 : decode cX3_masterIsRight 48 = .ok (.iconst 1, 1) := by decide +kernel
theorem dX3_masterIsRight_49 : decode cX3_masterIsRight 49 = .ok (.goto 4, 3) := by decide +kernel
theorem dX3_masterIsRight_52 : decode cX3_masterIsRight 52 = .ok (.iconst 0, 1) := by decide +kernel
theorem dX3_masterIsRight_53 : decode cX3_masterIsRight 53 = .ok (.ireturn, 1) := by decide +kernel
abbrev zm_X3_masterIsRight : zg_M := (RX3, cX3_masterIsRight, 3, (some .boolean), [])
theorem dX3_tableIsRight_0 : decode cX3_tableIsRight 0 = .ok (.aload_n 0, 1) := by decide +kernel
theorem dX3_tableIsRight_1 : decode cX3_tableIsRight 1 = .ok (.getfield 11, 3) := by decide +kernel
theorem dX3_tableIsRight_4 : decode cX3_tableIsRight 4 = .ok (.iconst 0, 1) := by decide +kernel
theorem dX3_tableIsRight_5 : decode cX3_tableIsRight 5 = .ok (.aaload, 1) := by decide +kernel
theorem dX3_tableIsRight_6 : decode cX3_tableIsRight 6 = .ok (.iconst 4, 1) := by decide +kernel
theorem dX3_tableIsRight_7 : decode cX3_tableIsRight 7 = .ok (.iaload, 1) := by decide +kernel
theorem dX3_tableIsRight_8 : decode cX3_tableIsRight 8 = .ok (.istore_n 1, 1) := by decide +kernel
theorem dX3_tableIsRight_9 : decode cX3_tableIsRight 9 = .ok (.iload_n 1, 1) := by decide +kernel
theorem dX3_tableIsRight_10 : decode cX3_tableIsRight 10 = .ok (.iconst 1, 1) := by decide +kernel
theorem dX3_tableIsRight_11 : decode cX3_tableIsRight 11 = .ok (.if_icmp .lt 9, 3) := by decide +kernel
theorem dX3_tableIsRight_14 : decode cX3_tableIsRight 14 = .ok (.iload_n 1, 1) := by decide +kernel
theorem dX3_tableIsRight_15 : decode cX3_tableIsRight 15 = .ok (.bipush 48, 2) := by decide +kernel
theorem dX3_tableIsRight_17 : decode cX3_tableIsRight 17 = .ok (.if_icmp .lt 5, 3) := by decide +kernel
theorem dX3_tableIsRight_20 : decode cX3_tableIsRight 20 = .ok (.iconst 0, 1) := by decide +kernel
theorem dX3_tableIsRight_21 : decode cX3_tableIsRight 21 = .ok (.ireturn, 1) := by decide +kernel
theorem dX3_tableIsRight_22 : decode cX3_tableIsRight 22 = .ok (.lconst 1, 1) := by decide +kernel
theorem dX3_tableIsRight_23 : decode cX3_tableIsRight 23 = .ok (.iload_n 1, 1) := by decide +kernel
theorem dX3_tableIsRight_24 : decode cX3_tableIsRight 24 = .ok (.lshl, 1) := by decide +kernel
theorem dX3_tableIsRight_25 : decode cX3_tableIsRight 25 = .ok (.lstore_n 2, 1) := by decide +kernel
theorem dX3_tableIsRight_26 : decode cX3_tableIsRight 26 = .ok (.iconst 0, 1) := by decide +kernel
theorem dX3_tableIsRight_27 : decode cX3_tableIsRight 27 = .ok (.istore 4, 2) := by decide +kernel
theorem dX3_tableIsRight_29 : decode cX3_tableIsRight 29 = .ok (.iload 4, 2) := by decide +kernel
theorem dX3_tableIsRight_31 : decode cX3_tableIsRight 31 = .ok (.bipush 16, 2) := by decide +kernel
theorem dX3_tableIsRight_33 : decode cX3_tableIsRight 33 = .ok (.if_icmp .ge 50, 3) := by decide +kernel
theorem dX3_tableIsRight_36 : decode cX3_tableIsRight 36 = .ok (.aload_n 0, 1) := by decide +kernel
theorem dX3_tableIsRight_37 : decode cX3_tableIsRight 37 = .ok (.getfield 11, 3) := by decide +kernel
theorem dX3_tableIsRight_40 : decode cX3_tableIsRight 40 = .ok (.iload_n 1, 1) := by decide +kernel
theorem dX3_tableIsRight_41 : decode cX3_tableIsRight 41 = .ok (.aaload, 1) := by decide +kernel
theorem dX3_tableIsRight_42 : decode cX3_tableIsRight 42 = .ok (.iload 4, 2) := by decide +kernel
theorem dX3_tableIsRight_44 : decode cX3_tableIsRight 44 = .ok (.iaload, 1) := by decide +kernel
theorem dX3_tableIsRight_45 : decode cX3_tableIsRight 45 = .ok (.istore 5, 2) := by decide +kernel
theorem dX3_tableIsRight_47 : decode cX3_tableIsRight 47 = .ok (.iload 5, 2) := by decide +kernel
theorem dX3_tableIsRight_49 : decode cX3_tableIsRight 49 = .ok (.bipush 48, 2) := by decide +kernel
theorem dX3_tableIsRight_51 : decode cX3_tableIsRight 51 = .ok (.if_icmp .ge 17, 3) := by decide +kernel
theorem dX3_tableIsRight_54 : decode cX3_tableIsRight 54 = .ok (.iload 5, 2) := by decide +kernel
theorem dX3_tableIsRight_56 : decode cX3_tableIsRight 56 = .ok (.ifCond .eq 14, 3) := by decide +kernel
theorem dX3_tableIsRight_59 : decode cX3_tableIsRight 59 = .ok (.lload_n 2, 1) := by decide +kernel
theorem dX3_tableIsRight_60 : decode cX3_tableIsRight 60 = .ok (.iload 5, 2) := by decide +kernel
theorem dX3_tableIsRight_62 : decode cX3_tableIsRight 62 = .ok (.invokestatic 148, 3) := by decide +kernel
theorem dX3_tableIsRight_65 : decode cX3_tableIsRight 65 = .ok (.ifCond .eq 5, 3) := by decide +kernel
theorem dX3_tableIsRight_68 : decode cX3_tableIsRight 68 = .ok (.iconst 0, 1) := by decide +kernel
theorem dX3_tableIsRight_69 : decode cX3_tableIsRight 69 = .ok (.ireturn, 1) := by decide +kernel
theorem dX3_tableIsRight_70 : decode cX3_tableIsRight 70 = .ok (.lload_n 2, 1) := by decide +kernel
theorem dX3_tableIsRight_71 : decode cX3_tableIsRight 71 = .ok (.lconst 1, 1) := by decide +kernel
theorem dX3_tableIsRight_72 : decode cX3_tableIsRight 72 = .ok (.iload 5, 2) := by decide +kernel
theorem dX3_tableIsRight_74 : decode cX3_tableIsRight 74 = .ok (.lshl, 1) := by decide +kernel
theorem dX3_tableIsRight_75 : decode cX3_tableIsRight 75 = .ok (.lor, 1) := by decide +kernel
theorem dX3_tableIsRight_76 : decode cX3_tableIsRight 76 = .ok (.lstore_n 2, 1) := by decide +kernel
theorem dX3_tableIsRight_77 : decode cX3_tableIsRight 77 = .ok (.iinc 4 1, 3) := by decide +kernel
theorem dX3_tableIsRight_80 : decode cX3_tableIsRight 80 = .ok (.goto (-51), 3) := by decide +kernel
theorem dX3_tableIsRight_83 : decode cX3_tableIsRight 83 = .ok (.iconst 1, 1) := by decide +kernel
theorem dX3_tableIsRight_84 : decode cX3_tableIsRight 84 = .ok (.ireturn, 1) := by decide +kernel
abbrev zm_X3_tableIsRight : zg_M := (RX3, cX3_tableIsRight, 6, (some .boolean), [])
theorem dX3_checkOf_0 : decode cX3_checkOf 0 = .ok (.iconst 1, 1) := by decide +kernel
theorem dX3_checkOf_1 : decode cX3_checkOf 1 = .ok (.istore_n 1, 1) := by decide +kernel
theorem dX3_checkOf_2 : decode cX3_checkOf 2 = .ok (.iconst 0, 1) := by decide +kernel
theorem dX3_checkOf_3 : decode cX3_checkOf 3 = .ok (.istore_n 2, 1) := by decide +kernel
theorem dX3_checkOf_4 : decode cX3_checkOf 4 = .ok (.iload_n 2, 1) := by decide +kernel
theorem dX3_checkOf_5 : decode cX3_checkOf 5 = .ok (.bipush 14, 2) := by decide +kernel
theorem dX3_checkOf_7 : decode cX3_checkOf 7 = .ok (.if_icmp .ge 21, 3) := by decide +kernel
theorem dX3_checkOf_10 : decode cX3_checkOf 10 = .ok (.iload_n 1, 1) := by decide +kernel
theorem dX3_checkOf_11 : decode cX3_checkOf 11 = .ok (.bipush 31, 2) := by decide +kernel
theorem dX3_checkOf_13 : decode cX3_checkOf 13 = .ok (.imul, 1) := by decide +kernel
theorem dX3_checkOf_14 : decode cX3_checkOf 14 = .ok (.aload_n 0, 1) := by decide +kernel
theorem dX3_checkOf_15 : decode cX3_checkOf 15 = .ok (.iload_n 2, 1) := by decide +kernel
theorem dX3_checkOf_16 : decode cX3_checkOf 16 = .ok (.iaload, 1) := by decide +kernel
theorem dX3_checkOf_17 : decode cX3_checkOf 17 = .ok (.iadd, 1) := by decide +kernel
theorem dX3_checkOf_18 : decode cX3_checkOf 18 = .ok (.ldc 218, 2) := by decide +kernel
theorem dX3_checkOf_20 : decode cX3_checkOf 20 = .ok (.iand, 1) := by decide +kernel
theorem dX3_checkOf_21 : decode cX3_checkOf 21 = .ok (.istore_n 1, 1) := by decide +kernel
theorem dX3_checkOf_22 : decode cX3_checkOf 22 = .ok (.iinc 2 1, 3) := by decide +kernel
theorem dX3_checkOf_25 : decode cX3_checkOf 25 = .ok (.goto (-21), 3) := by decide +kernel
theorem dX3_checkOf_28 : decode cX3_checkOf 28 = .ok (.iload_n 1, 1) := by decide +kernel
theorem dX3_checkOf_29 : decode cX3_checkOf 29 = .ok (.ireturn, 1) := by decide +kernel
abbrev zm_X3_checkOf : zg_M := (RX3, cX3_checkOf, 3, (some .int), [])
theorem dX3_putMaster_0 : decode cX3_putMaster 0 = .ok (.aload_n 0, 1) := by decide +kernel
theorem dX3_putMaster_1 : decode cX3_putMaster 1 = .ok (.iconst 0, 1) := by decide +kernel
theorem dX3_putMaster_2 : decode cX3_putMaster 2 = .ok (.invokestatic 188, 3) := by decide +kernel
theorem dX3_putMaster_5 : decode cX3_putMaster 5 = .ok (.iconst 0, 1) := by decide +kernel
theorem dX3_putMaster_6 : decode cX3_putMaster 6 = .ok (.istore_n 3, 1) := by decide +kernel
theorem dX3_putMaster_7 : decode cX3_putMaster 7 = .ok (.iload_n 3, 1) := by decide +kernel
theorem dX3_putMaster_8 : decode cX3_putMaster 8 = .ok (.iconst 4, 1) := by decide +kernel
theorem dX3_putMaster_9 : decode cX3_putMaster 9 = .ok (.if_icmp .ge 25, 3) := by decide +kernel
theorem dX3_putMaster_12 : decode cX3_putMaster 12 = .ok (.aload_n 0, 1) := by decide +kernel
theorem dX3_putMaster_13 : decode cX3_putMaster 13 = .ok (.iload_n 3, 1) := by decide +kernel
theorem dX3_putMaster_14 : decode cX3_putMaster 14 = .ok (.iload_n 1, 1) := by decide +kernel
theorem dX3_putMaster_15 : decode cX3_putMaster 15 = .ok (.bipush 24, 2) := by decide +kernel
theorem dX3_putMaster_17 : decode cX3_putMaster 17 = .ok (.bipush 8, 2) := by decide +kernel
theorem dX3_putMaster_19 : decode cX3_putMaster 19 = .ok (.iload_n 3, 1) := by decide +kernel
theorem dX3_putMaster_20 : decode cX3_putMaster 20 = .ok (.imul, 1) := by decide +kernel
theorem dX3_putMaster_21 : decode cX3_putMaster 21 = .ok (.isub, 1) := by decide +kernel
theorem dX3_putMaster_22 : decode cX3_putMaster 22 = .ok (.iushr, 1) := by decide +kernel
theorem dX3_putMaster_23 : decode cX3_putMaster 23 = .ok (.sipush 255, 3) := by decide +kernel
theorem dX3_putMaster_26 : decode cX3_putMaster 26 = .ok (.iand, 1) := by decide +kernel
theorem dX3_putMaster_27 : decode cX3_putMaster 27 = .ok (.iastore, 1) := by decide +kernel
theorem dX3_putMaster_28 : decode cX3_putMaster 28 = .ok (.iinc 3 1, 3) := by decide +kernel
theorem dX3_putMaster_31 : decode cX3_putMaster 31 = .ok (.goto (-24), 3) := by decide +kernel
theorem dX3_putMaster_34 : decode cX3_putMaster 34 = .ok (.aload_n 0, 1) := by decide +kernel
theorem dX3_putMaster_35 : decode cX3_putMaster 35 = .ok (.iconst 4, 1) := by decide +kernel
theorem dX3_putMaster_36 : decode cX3_putMaster 36 = .ok (.iload_n 2, 1) := by decide +kernel
theorem dX3_putMaster_37 : decode cX3_putMaster 37 = .ok (.iastore, 1) := by decide +kernel
theorem dX3_putMaster_38 : decode cX3_putMaster 38 = .ok (.aload_n 0, 1) := by decide +kernel
theorem dX3_putMaster_39 : decode cX3_putMaster 39 = .ok (.invokestatic 214, 3) := by decide +kernel
theorem dX3_putMaster_42 : decode cX3_putMaster 42 = .ok (.istore_n 3, 1) := by decide +kernel
theorem dX3_putMaster_43 : decode cX3_putMaster 43 = .ok (.aload_n 0, 1) := by decide +kernel
theorem dX3_putMaster_44 : decode cX3_putMaster 44 = .ok (.bipush 14, 2) := by decide +kernel
theorem dX3_putMaster_46 : decode cX3_putMaster 46 = .ok (.iload_n 3, 1) := by decide +kernel
theorem dX3_putMaster_47 : decode cX3_putMaster 47 = .ok (.bipush 8, 2) := by decide +kernel
theorem dX3_putMaster_49 : decode cX3_putMaster 49 = .ok (.iushr, 1) := by decide +kernel
theorem dX3_putMaster_50 : decode cX3_putMaster 50 = .ok (.iastore, 1) := by decide +kernel
theorem dX3_putMaster_51 : decode cX3_putMaster 51 = .ok (.aload_n 0, 1) := by decide +kernel
theorem dX3_putMaster_52 : decode cX3_putMaster 52 = .ok (.bipush 15, 2) := by decide +kernel
theorem dX3_putMaster_54 : decode cX3_putMaster 54 = .ok (.iload_n 3, 1) := by decide +kernel
theorem dX3_putMaster_55 : decode cX3_putMaster 55 = .ok (.sipush 255, 3) := by decide +kernel
theorem dX3_putMaster_58 : decode cX3_putMaster 58 = .ok (.iand, 1) := by decide +kernel
theorem dX3_putMaster_59 : decode cX3_putMaster 59 = .ok (.iastore, 1) := by decide +kernel
theorem dX3_putMaster_60 : decode cX3_putMaster 60 = .ok (.return_, 1) := by decide +kernel
abbrev zm_X3_putMaster : zg_M := (RX3, cX3_putMaster, 4, none, [])
theorem dX3_freeSet_0 : decode cX3_freeSet 0 = .ok (.lconst 1, 1) := by decide +kernel
theorem dX3_freeSet_1 : decode cX3_freeSet 1 = .ok (.aload_n 0, 1) := by decide +kernel
theorem dX3_freeSet_2 : decode cX3_freeSet 2 = .ok (.getfield 24, 3) := by decide +kernel
theorem dX3_freeSet_5 : decode cX3_freeSet 5 = .ok (.invokevirtual 219, 3) := by decide +kernel
theorem dX3_freeSet_8 : decode cX3_freeSet 8 = .ok (.lor, 1) := by decide +kernel
theorem dX3_freeSet_9 : decode cX3_freeSet 9 = .ok (.aload_n 0, 1) := by decide +kernel
theorem dX3_freeSet_10 : decode cX3_freeSet 10 = .ok (.getfield 28, 3) := by decide +kernel
theorem dX3_freeSet_13 : decode cX3_freeSet 13 = .ok (.invokevirtual 219, 3) := by decide +kernel
theorem dX3_freeSet_16 : decode cX3_freeSet 16 = .ok (.lor, 1) := by decide +kernel
theorem dX3_freeSet_17 : decode cX3_freeSet 17 = .ok (.lstore_n 1, 1) := by decide +kernel
theorem dX3_freeSet_18 : decode cX3_freeSet 18 = .ok (.iconst 0, 1) := by decide +kernel
theorem dX3_freeSet_19 : decode cX3_freeSet 19 = .ok (.istore_n 3, 1) := by decide +kernel
theorem dX3_freeSet_20 : decode cX3_freeSet 20 = .ok (.iload_n 3, 1) := by decide +kernel
theorem dX3_freeSet_21 : decode cX3_freeSet 21 = .ok (.bipush 16, 2) := by decide +kernel
theorem dX3_freeSet_23 : decode cX3_freeSet 23 = .ok (.if_icmp .ge 23, 3) := by decide +kernel
theorem dX3_freeSet_26 : decode cX3_freeSet 26 = .ok (.lload_n 1, 1) := by decide +kernel
theorem dX3_freeSet_27 : decode cX3_freeSet 27 = .ok (.lconst 1, 1) := by decide +kernel
theorem dX3_freeSet_28 : decode cX3_freeSet 28 = .ok (.aload_n 0, 1) := by decide +kernel
theorem dX3_freeSet_29 : decode cX3_freeSet 29 = .ok (.getfield 34, 3) := by decide +kernel
theorem dX3_freeSet_32 : decode cX3_freeSet 32 = .ok (.getfield 222, 3) := by decide +kernel
theorem dX3_freeSet_35 : decode cX3_freeSet 35 = .ok (.iload_n 3, 1) := by decide +kernel
theorem dX3_freeSet_36 : decode cX3_freeSet 36 = .ok (.iaload, 1) := by decide +kernel
theorem dX3_freeSet_37 : decode cX3_freeSet 37 = .ok (.lshl, 1) := by decide +kernel
theorem dX3_freeSet_38 : decode cX3_freeSet 38 = .ok (.lor, 1) := by decide +kernel
theorem dX3_freeSet_39 : decode cX3_freeSet 39 = .ok (.lstore_n 1, 1) := by decide +kernel
theorem dX3_freeSet_40 : decode cX3_freeSet 40 = .ok (.iinc 3 1, 3) := by decide +kernel
theorem dX3_freeSet_43 : decode cX3_freeSet 43 = .ok (.goto (-23), 3) := by decide +kernel
theorem dX3_freeSet_46 : decode cX3_freeSet 46 = .ok (.lload_n 1, 1) := by decide +kernel
theorem dX3_freeSet_47 : decode cX3_freeSet 47 = .ok (.ldc2_w 225, 3) := by decide +kernel
theorem dX3_freeSet_50 : decode cX3_freeSet 50 = .ok (.lxor, 1) := by decide +kernel
theorem dX3_freeSet_51 : decode cX3_freeSet 51 = .ok (.ldc2_w 227, 3) := by decide +kernel
theorem dX3_freeSet_54 : decode cX3_freeSet 54 = .ok (.land, 1) := by decide +kernel
theorem dX3_freeSet_55 : decode cX3_freeSet 55 = .ok (.lreturn, 1) := by decide +kernel
abbrev zm_X3_freeSet : zg_M := (RX3, cX3_freeSet, 4, (some .long), [])
theorem dX3_holds_0 : decode cX3_holds 0 = .ok (.lload_n 0, 1) := by decide +kernel
theorem dX3_holds_1 : decode cX3_holds 1 = .ok (.iload_n 2, 1) := by decide +kernel
theorem dX3_holds_2 : decode cX3_holds 2 = .ok (.lushr, 1) := by decide +kernel
theorem dX3_holds_3 : decode cX3_holds 3 = .ok (.lconst 1, 1) := by decide +kernel
theorem dX3_holds_4 : decode cX3_holds 4 = .ok (.land, 1) := by decide +kernel
theorem dX3_holds_5 : decode cX3_holds 5 = .ok (.lconst 0, 1) := by decide +kernel
theorem dX3_holds_6 : decode cX3_holds 6 = .ok (.lcmp, 1) := by decide +kernel
theorem dX3_holds_7 : decode cX3_holds 7 = .ok (.ifCond .eq 7, 3) := by decide +kernel
theorem dX3_holds_10 : decode cX3_holds 10 = .ok (.iconst 1, 1) := by decide +kernel
theorem dX3_holds_11 : decode cX3_holds 11 = .ok (.goto 4, 3) := by decide +kernel
theorem dX3_holds_14 : decode cX3_holds 14 = .ok (.iconst 0, 1) := by decide +kernel
theorem dX3_holds_15 : decode cX3_holds 15 = .ok (.ireturn, 1) := by decide +kernel
abbrev zm_X3_holds : zg_M := (RX3, cX3_holds, 3, (some .boolean), [])
theorem dX3_leastFree_0 : decode cX3_leastFree 0 = .ok (.aload_n 0, 1) := by decide +kernel
theorem dX3_leastFree_1 : decode cX3_leastFree 1 = .ok (.invokevirtual 144, 3) := by decide +kernel
theorem dX3_leastFree_4 : decode cX3_leastFree 4 = .ok (.lstore_n 1, 1) := by decide +kernel
theorem dX3_leastFree_5 : decode cX3_leastFree 5 = .ok (.iconst 0, 1) := by decide +kernel
theorem dX3_leastFree_6 : decode cX3_leastFree 6 = .ok (.istore_n 3, 1) := by decide +kernel
theorem dX3_leastFree_7 : decode cX3_leastFree 7 = .ok (.iload_n 3, 1) := by decide +kernel
theorem dX3_leastFree_8 : decode cX3_leastFree 8 = .ok (.bipush 48, 2) := by decide +kernel
theorem dX3_leastFree_10 : decode cX3_leastFree 10 = .ok (.if_icmp .ge 19, 3) := by decide +kernel
theorem dX3_leastFree_13 : decode cX3_leastFree 13 = .ok (.lload_n 1, 1) := by decide +kernel
theorem dX3_leastFree_14 : decode cX3_leastFree 14 = .ok (.iload_n 3, 1) := by decide +kernel
theorem dX3_leastFree_15 : decode cX3_leastFree 15 = .ok (.invokestatic 148, 3) := by decide +kernel
theorem dX3_leastFree_18 : decode cX3_leastFree 18 = .ok (.ifCond .eq 5, 3) := by decide +kernel
theorem dX3_leastFree_21 : decode cX3_leastFree 21 = .ok (.iload_n 3, 1) := by decide +kernel
theorem dX3_leastFree_22 : decode cX3_leastFree 22 = .ok (.ireturn, 1) := by decide +kernel
theorem dX3_leastFree_23 : decode cX3_leastFree 23 = .ok (.iinc 3 1, 3) := by decide +kernel
theorem dX3_leastFree_26 : decode cX3_leastFree 26 = .ok (.goto (-19), 3) := by decide +kernel
theorem dX3_leastFree_29 : decode cX3_leastFree 29 = .ok (.iconst (-1), 1) := by decide +kernel
theorem dX3_leastFree_30 : decode cX3_leastFree 30 = .ok (.ireturn, 1) := by decide +kernel
abbrev zm_X3_leastFree : zg_M := (RX3, cX3_leastFree, 4, (some .int), [])
theorem dX3_changePage_0 : decode cX3_changePage 0 = .ok (.aload_n 0, 1) := by decide +kernel
theorem dX3_changePage_1 : decode cX3_changePage 1 = .ok (.getfield 34, 3) := by decide +kernel
theorem dX3_changePage_4 : decode cX3_changePage 4 = .ok (.iload_n 1, 1) := by decide +kernel
theorem dX3_changePage_5 : decode cX3_changePage 5 = .ok (.invokevirtual 68, 3) := by decide +kernel
theorem dX3_changePage_8 : decode cX3_changePage 8 = .ok (.ifCond .ne 46, 3) := by decide +kernel
theorem dX3_changePage_11 : decode cX3_changePage 11 = .ok (.aload_n 0, 1) := by decide +kernel
theorem dX3_changePage_12 : decode cX3_changePage 12 = .ok (.invokevirtual 100, 3) := by decide +kernel
theorem dX3_changePage_15 : decode cX3_changePage 15 = .ok (.istore_n 2, 1) := by decide +kernel
theorem dX3_changePage_16 : decode cX3_changePage 16 = .ok (.iload_n 2, 1) := by decide +kernel
theorem dX3_changePage_17 : decode cX3_changePage 17 = .ok (.iconst (-1), 1) := by decide +kernel
theorem dX3_changePage_18 : decode cX3_changePage 18 = .ok (.if_icmp .ne 13, 3) := by decide +kernel
theorem dX3_changePage_21 : decode cX3_changePage 21 = .ok (.new 89, 3) := by decide +kernel
theorem dX3_changePage_24 : decode cX3_changePage 24 = .ok (.dup, 1) := by decide +kernel
theorem dX3_changePage_25 : decode cX3_changePage 25 = .ok (.ldc 229, 2) := by decide +kernel
theorem dX3_changePage_27 : decode cX3_changePage 27 = .ok (.invokespecial 93, 3) := by decide +kernel
theorem dX3_changePage_30 : decode cX3_changePage 30 = .ok (.athrow, 1) := by decide +kernel
theorem dX3_changePage_31 : decode cX3_changePage 31 = .ok (.aload_n 0, 1) := by decide +kernel
theorem dX3_changePage_32 : decode cX3_changePage 32 = .ok (.iload_n 1, 1) := by decide +kernel
theorem dX3_changePage_33 : decode cX3_changePage 33 = .ok (.aload_n 0, 1) := by decide +kernel
theorem dX3_changePage_34 : decode cX3_changePage 34 = .ok (.getfield 34, 3) := by decide +kernel
theorem dX3_changePage_37 : decode cX3_changePage 37 = .ok (.getfield 61, 3) := by decide +kernel
theorem dX3_changePage_40 : decode cX3_changePage 40 = .ok (.iload_n 1, 1) := by decide +kernel
theorem dX3_changePage_41 : decode cX3_changePage 41 = .ok (.aaload, 1) := by decide +kernel
theorem dX3_changePage_42 : decode cX3_changePage 42 = .ok (.invokevirtual 231, 3) := by decide +kernel
theorem dX3_changePage_45 : decode cX3_changePage 45 = .ok (.aload_n 0, 1) := by decide +kernel
theorem dX3_changePage_46 : decode cX3_changePage 46 = .ok (.getfield 34, 3) := by decide +kernel
theorem dX3_changePage_49 : decode cX3_changePage 49 = .ok (.iload_n 1, 1) := by decide +kernel
theorem dX3_changePage_50 : decode cX3_changePage 50 = .ok (.iload_n 2, 1) := by decide +kernel
theorem dX3_changePage_51 : decode cX3_changePage 51 = .ok (.invokevirtual 235, 3) := by decide +kernel
theorem dX3_changePage_54 : decode cX3_changePage 54 = .ok (.aload_n 0, 1) := by decide +kernel
theorem dX3_changePage_55 : decode cX3_changePage 55 = .ok (.getfield 34, 3) := by decide +kernel
theorem dX3_changePage_58 : decode cX3_changePage 58 = .ok (.getfield 75, 3) := by decide +kernel
theorem dX3_changePage_61 : decode cX3_changePage 61 = .ok (.iload_n 1, 1) := by decide +kernel
theorem dX3_changePage_62 : decode cX3_changePage 62 = .ok (.iconst 0, 1) := by decide +kernel
theorem dX3_changePage_63 : decode cX3_changePage 63 = .ok (.bastore, 1) := by decide +kernel
theorem dX3_changePage_64 : decode cX3_changePage 64 = .ok (.return_, 1) := by decide +kernel
abbrev zm_X3_changePage : zg_M := (RX3, cX3_changePage, 3, none, [])
theorem dX3_copyLatestPage_0 : decode cX3_copyLatestPage 0 = .ok (.aload_n 0, 1) := by decide +kernel
theorem dX3_copyLatestPage_1 : decode cX3_copyLatestPage 1 = .ok (.getfield 24, 3) := by decide +kernel
theorem dX3_copyLatestPage_4 : decode cX3_copyLatestPage 4 = .ok (.getfield 72, 3) := by decide +kernel
theorem dX3_copyLatestPage_7 : decode cX3_copyLatestPage 7 = .ok (.iload_n 1, 1) := by decide +kernel
theorem dX3_copyLatestPage_8 : decode cX3_copyLatestPage 8 = .ok (.iaload, 1) := by decide +kernel
theorem dX3_copyLatestPage_9 : decode cX3_copyLatestPage 9 = .ok (.istore_n 3, 1) := by decide +kernel
theorem dX3_copyLatestPage_10 : decode cX3_copyLatestPage 10 = .ok (.iload_n 3, 1) := by decide +kernel
theorem dX3_copyLatestPage_11 : decode cX3_copyLatestPage 11 = .ok (.ifCond .ne 11, 3) := by decide +kernel
theorem dX3_copyLatestPage_14 : decode cX3_copyLatestPage 14 = .ok (.aload_n 2, 1) := by decide +kernel
theorem dX3_copyLatestPage_15 : decode cX3_copyLatestPage 15 = .ok (.iconst 0, 1) := by decide +kernel
theorem dX3_copyLatestPage_16 : decode cX3_copyLatestPage 16 = .ok (.invokestatic 188, 3) := by decide +kernel
theorem dX3_copyLatestPage_19 : decode cX3_copyLatestPage 19 = .ok (.goto 17, 3) := by decide +kernel
theorem dX3_copyLatestPage_22 : decode cX3_copyLatestPage 22 = .ok (.aload_n 0, 1) := by decide +kernel
theorem dX3_copyLatestPage_23 : decode cX3_copyLatestPage 23 = .ok (.getfield 11, 3) := by decide +kernel
theorem dX3_copyLatestPage_26 : decode cX3_copyLatestPage 26 = .ok (.iload_n 3, 1) := by decide +kernel
theorem dX3_copyLatestPage_27 : decode cX3_copyLatestPage 27 = .ok (.aaload, 1) := by decide +kernel
theorem dX3_copyLatestPage_28 : decode cX3_copyLatestPage 28 = .ok (.iconst 0, 1) := by decide +kernel
theorem dX3_copyLatestPage_29 : decode cX3_copyLatestPage 29 = .ok (.aload_n 2, 1) := by decide +kernel
theorem dX3_copyLatestPage_30 : decode cX3_copyLatestPage 30 = .ok (.iconst 0, 1) := by decide +kernel
theorem dX3_copyLatestPage_31 : decode cX3_copyLatestPage 31 = .ok (.bipush 16, 2) := by decide +kernel
theorem dX3_copyLatestPage_33 : decode cX3_copyLatestPage 33 = .ok (.invokestatic 204, 3) := by decide +kernel
theorem dX3_copyLatestPage_36 : decode cX3_copyLatestPage 36 = .ok (.return_, 1) := by decide +kernel
abbrev zm_X3_copyLatestPage : zg_M := (RX3, cX3_copyLatestPage, 4, none, [])
theorem dX3_openPlace_0 : decode cX3_openPlace 0 = .ok (.aload_n 0, 1) := by decide +kernel
theorem dX3_openPlace_1 : decode cX3_openPlace 1 = .ok (.getfield 34, 3) := by decide +kernel
theorem dX3_openPlace_4 : decode cX3_openPlace 4 = .ok (.iload_n 1, 1) := by decide +kernel
theorem dX3_openPlace_5 : decode cX3_openPlace 5 = .ok (.invokevirtual 68, 3) := by decide +kernel
theorem dX3_openPlace_8 : decode cX3_openPlace 8 = .ok (.ifCond .eq 15, 3) := by decide +kernel
theorem dX3_openPlace_11 : decode cX3_openPlace 11 = .ok (.aload_n 0, 1) := by decide +kernel
theorem dX3_openPlace_12 : decode cX3_openPlace 12 = .ok (.getfield 34, 3) := by decide +kernel
theorem dX3_openPlace_15 : decode cX3_openPlace 15 = .ok (.getfield 222, 3) := by decide +kernel
theorem dX3_openPlace_18 : decode cX3_openPlace 18 = .ok (.iload_n 1, 1) := by decide +kernel
theorem dX3_openPlace_19 : decode cX3_openPlace 19 = .ok (.iaload, 1) := by decide +kernel
theorem dX3_openPlace_20 : decode cX3_openPlace 20 = .ok (.goto 12, 3) := by decide +kernel
theorem dX3_openPlace_23 : decode cX3_openPlace 23 = .ok (.aload_n 0, 1) := by decide +kernel
theorem dX3_openPlace_24 : decode cX3_openPlace 24 = .ok (.getfield 24, 3) := by decide +kernel
theorem dX3_openPlace_27 : decode cX3_openPlace 27 = .ok (.getfield 72, 3) := by decide +kernel
theorem dX3_openPlace_30 : decode cX3_openPlace 30 = .ok (.iload_n 1, 1) := by decide +kernel
theorem dX3_openPlace_31 : decode cX3_openPlace 31 = .ok (.iaload, 1) := by decide +kernel
theorem dX3_openPlace_32 : decode cX3_openPlace 32 = .ok (.ireturn, 1) := by decide +kernel
abbrev zm_X3_openPlace : zg_M := (RX3, cX3_openPlace, 2, (some .int), [])
theorem dX3_holdBackPage_0 : decode cX3_holdBackPage 0 = .ok (.aload_n 0, 1) := by decide +kernel
theorem dX3_holdBackPage_1 : decode cX3_holdBackPage 1 = .ok (.getfield 17, 3) := by decide +kernel
theorem dX3_holdBackPage_4 : decode cX3_holdBackPage 4 = .ok (.aload_n 0, 1) := by decide +kernel
theorem dX3_holdBackPage_5 : decode cX3_holdBackPage 5 = .ok (.getfield 34, 3) := by decide +kernel
theorem dX3_holdBackPage_8 : decode cX3_holdBackPage 8 = .ok (.getfield 222, 3) := by decide +kernel
theorem dX3_holdBackPage_11 : decode cX3_holdBackPage 11 = .ok (.iload_n 1, 1) := by decide +kernel
theorem dX3_holdBackPage_12 : decode cX3_holdBackPage 12 = .ok (.iaload, 1) := by decide +kernel
theorem dX3_holdBackPage_13 : decode cX3_holdBackPage 13 = .ok (.aload_n 0, 1) := by decide +kernel
theorem dX3_holdBackPage_14 : decode cX3_holdBackPage 14 = .ok (.getfield 34, 3) := by decide +kernel
theorem dX3_holdBackPage_17 : decode cX3_holdBackPage 17 = .ok (.getfield 61, 3) := by decide +kernel
theorem dX3_holdBackPage_20 : decode cX3_holdBackPage 20 = .ok (.iload_n 1, 1) := by decide +kernel
theorem dX3_holdBackPage_21 : decode cX3_holdBackPage 21 = .ok (.aaload, 1) := by decide +kernel
theorem dX3_holdBackPage_22 : decode cX3_holdBackPage 22 = .ok (.invokevirtual 239, 3) := by decide +kernel
theorem dX3_holdBackPage_25 : decode cX3_holdBackPage 25 = .ok (.aload_n 0, 1) := by decide +kernel
theorem dX3_holdBackPage_26 : decode cX3_holdBackPage 26 = .ok (.getfield 34, 3) := by decide +kernel
theorem dX3_holdBackPage_29 : decode cX3_holdBackPage 29 = .ok (.getfield 75, 3) := by decide +kernel
theorem dX3_holdBackPage_32 : decode cX3_holdBackPage 32 = .ok (.iload_n 1, 1) := by decide +kernel
theorem dX3_holdBackPage_33 : decode cX3_holdBackPage 33 = .ok (.iconst 1, 1) := by decide +kernel
theorem dX3_holdBackPage_34 : decode cX3_holdBackPage 34 = .ok (.bastore, 1) := by decide +kernel
theorem dX3_holdBackPage_35 : decode cX3_holdBackPage 35 = .ok (.return_, 1) := by decide +kernel
abbrev zm_X3_holdBackPage : zg_M := (RX3, cX3_holdBackPage, 2, none, [])
theorem dX3_holdBackUnspilledPages_0 : decode cX3_holdBackUnspilledPages 0 = .ok (.iconst 0, 1) := by decide +kernel
theorem dX3_holdBackUnspilledPages_1 : decode cX3_holdBackUnspilledPages 1 = .ok (.istore_n 1, 1) := by decide +kernel
theorem dX3_holdBackUnspilledPages_2 : decode cX3_holdBackUnspilledPages 2 = .ok (.iload_n 1, 1) := by decide +kernel
theorem dX3_holdBackUnspilledPages_3 : decode cX3_holdBackUnspilledPages 3 = .ok (.bipush 16, 2) := by decide +kernel
theorem dX3_holdBackUnspilledPages_5 : decode cX3_holdBackUnspilledPages 5 = .ok (.if_icmp .ge 37, 3) := by decide +kernel
theorem dX3_holdBackUnspilledPages_8 : decode cX3_holdBackUnspilledPages 8 = .ok (.aload_n 0, 1) := by decide +kernel
theorem dX3_holdBackUnspilledPages_9 : decode cX3_holdBackUnspilledPages 9 = .ok (.getfield 34, 3) := by decide +kernel
theorem dX3_holdBackUnspilledPages_12 : decode cX3_holdBackUnspilledPages 12 = .ok (.iload_n 1, 1) := by decide +kernel
theorem dX3_holdBackUnspilledPages_13 : decode cX3_holdBackUnspilledPages 13 = .ok (.invokevirtual 68, 3) := by decide +kernel
theorem dX3_holdBackUnspilledPages_16 : decode cX3_holdBackUnspilledPages 16 = .ok (.ifCond .eq 20, 3) := by decide +kernel
theorem dX3_holdBackUnspilledPages_19 : decode cX3_holdBackUnspilledPages 19 = .ok (.aload_n 0, 1) := by decide +kernel
theorem dX3_holdBackUnspilledPages_20 : decode cX3_holdBackUnspilledPages 20 = .ok (.getfield 34, 3) := by decide +kernel
theorem dX3_holdBackUnspilledPages_23 : decode cX3_holdBackUnspilledPages 23 = .ok (.getfield 75, 3) := by decide +kernel
theorem dX3_holdBackUnspilledPages_26 : decode cX3_holdBackUnspilledPages 26 = .ok (.iload_n 1, 1) := by decide +kernel
theorem dX3_holdBackUnspilledPages_27 : decode cX3_holdBackUnspilledPages 27 = .ok (.baload, 1) := by decide +kernel
theorem dX3_holdBackUnspilledPages_28 : decode cX3_holdBackUnspilledPages 28 = .ok (.ifCond .ne 8, 3) := by decide +kernel
theorem dX3_holdBackUnspilledPages_31 : decode cX3_holdBackUnspilledPages 31 = .ok (.aload_n 0, 1) := by decide +kernel
theorem dX3_holdBackUnspilledPages_32 : decode cX3_holdBackUnspilledPages 32 = .ok (.iload_n 1, 1) := by decide +kernel
theorem dX3_holdBackUnspilledPages_33 : decode cX3_holdBackUnspilledPages 33 = .ok (.invokevirtual 94, 3) := by decide +kernel
theorem dX3_holdBackUnspilledPages_36 : decode cX3_holdBackUnspilledPages 36 = .ok (.iinc 1 1, 3) := by decide +kernel
theorem dX3_holdBackUnspilledPages_39 : decode cX3_holdBackUnspilledPages 39 = .ok (.goto (-37), 3) := by decide +kernel
theorem dX3_holdBackUnspilledPages_42 : decode cX3_holdBackUnspilledPages 42 = .ok (.return_, 1) := by decide +kernel
abbrev zm_X3_holdBackUnspilledPages : zg_M := (RX3, cX3_holdBackUnspilledPages, 2, none, [])
theorem dX3_holdBackTable_0 : decode cX3_holdBackTable 0 = .ok (.iconst 0, 1) := by decide +kernel
theorem dX3_holdBackTable_1 : decode cX3_holdBackTable 1 = .ok (.istore_n 2, 1) := by decide +kernel
theorem dX3_holdBackTable_2 : decode cX3_holdBackTable 2 = .ok (.iload_n 2, 1) := by decide +kernel
theorem dX3_holdBackTable_3 : decode cX3_holdBackTable 3 = .ok (.bipush 16, 2) := by decide +kernel
theorem dX3_holdBackTable_5 : decode cX3_holdBackTable 5 = .ok (.if_icmp .ge 20, 3) := by decide +kernel
theorem dX3_holdBackTable_8 : decode cX3_holdBackTable 8 = .ok (.aload_n 0, 1) := by decide +kernel
theorem dX3_holdBackTable_9 : decode cX3_holdBackTable 9 = .ok (.getfield 38, 3) := by decide +kernel
theorem dX3_holdBackTable_12 : decode cX3_holdBackTable 12 = .ok (.iload_n 2, 1) := by decide +kernel
theorem dX3_holdBackTable_13 : decode cX3_holdBackTable 13 = .ok (.aload_n 0, 1) := by decide +kernel
theorem dX3_holdBackTable_14 : decode cX3_holdBackTable 14 = .ok (.iload_n 2, 1) := by decide +kernel
theorem dX3_holdBackTable_15 : decode cX3_holdBackTable 15 = .ok (.invokevirtual 140, 3) := by decide +kernel
theorem dX3_holdBackTable_18 : decode cX3_holdBackTable 18 = .ok (.iastore, 1) := by decide +kernel
theorem dX3_holdBackTable_19 : decode cX3_holdBackTable 19 = .ok (.iinc 2 1, 3) := by decide +kernel
theorem dX3_holdBackTable_22 : decode cX3_holdBackTable 22 = .ok (.goto (-20), 3) := by decide +kernel
theorem dX3_holdBackTable_25 : decode cX3_holdBackTable 25 = .ok (.aload_n 0, 1) := by decide +kernel
theorem dX3_holdBackTable_26 : decode cX3_holdBackTable 26 = .ok (.getfield 17, 3) := by decide +kernel
theorem dX3_holdBackTable_29 : decode cX3_holdBackTable 29 = .ok (.iload_n 1, 1) := by decide +kernel
theorem dX3_holdBackTable_30 : decode cX3_holdBackTable 30 = .ok (.aload_n 0, 1) := by decide +kernel
theorem dX3_holdBackTable_31 : decode cX3_holdBackTable 31 = .ok (.getfield 38, 3) := by decide +kernel
theorem dX3_holdBackTable_34 : decode cX3_holdBackTable 34 = .ok (.invokevirtual 239, 3) := by decide +kernel
theorem dX3_holdBackTable_37 : decode cX3_holdBackTable 37 = .ok (.return_, 1) := by decide +kernel
abbrev zm_X3_holdBackTable : zg_M := (RX3, cX3_holdBackTable, 3, none, [])
theorem dX3_turnOver_0 : decode cX3_turnOver 0 = .ok (.iconst 0, 1) := by decide +kernel
theorem dX3_turnOver_1 : decode cX3_turnOver 1 = .ok (.istore_n 2, 1) := by decide +kernel
theorem dX3_turnOver_2 : decode cX3_turnOver 2 = .ok (.iload_n 2, 1) := by decide +kernel
theorem dX3_turnOver_3 : decode cX3_turnOver 3 = .ok (.bipush 16, 2) := by decide +kernel
theorem dX3_turnOver_5 : decode cX3_turnOver 5 = .ok (.if_icmp .ge 23, 3) := by decide +kernel
theorem dX3_turnOver_8 : decode cX3_turnOver 8 = .ok (.aload_n 0, 1) := by decide +kernel
theorem dX3_turnOver_9 : decode cX3_turnOver 9 = .ok (.getfield 24, 3) := by decide +kernel
theorem dX3_turnOver_12 : decode cX3_turnOver 12 = .ok (.getfield 72, 3) := by decide +kernel
theorem dX3_turnOver_15 : decode cX3_turnOver 15 = .ok (.iload_n 2, 1) := by decide +kernel
theorem dX3_turnOver_16 : decode cX3_turnOver 16 = .ok (.aload_n 0, 1) := by decide +kernel
theorem dX3_turnOver_17 : decode cX3_turnOver 17 = .ok (.iload_n 2, 1) := by decide +kernel
theorem dX3_turnOver_18 : decode cX3_turnOver 18 = .ok (.invokevirtual 140, 3) := by decide +kernel
theorem dX3_turnOver_21 : decode cX3_turnOver 21 = .ok (.iastore, 1) := by decide +kernel
theorem dX3_turnOver_22 : decode cX3_turnOver 22 = .ok (.iinc 2 1, 3) := by decide +kernel
theorem dX3_turnOver_25 : decode cX3_turnOver 25 = .ok (.goto (-23), 3) := by decide +kernel
theorem dX3_turnOver_28 : decode cX3_turnOver 28 = .ok (.aload_n 0, 1) := by decide +kernel
theorem dX3_turnOver_29 : decode cX3_turnOver 29 = .ok (.getfield 24, 3) := by decide +kernel
theorem dX3_turnOver_32 : decode cX3_turnOver 32 = .ok (.iload_n 1, 1) := by decide +kernel
theorem dX3_turnOver_33 : decode cX3_turnOver 33 = .ok (.putfield 173, 3) := by decide +kernel
theorem dX3_turnOver_36 : decode cX3_turnOver 36 = .ok (.aload_n 0, 1) := by decide +kernel
theorem dX3_turnOver_37 : decode cX3_turnOver 37 = .ok (.getfield 24, 3) := by decide +kernel
theorem dX3_turnOver_40 : decode cX3_turnOver 40 = .ok (.dup, 1) := by decide +kernel
theorem dX3_turnOver_41 : decode cX3_turnOver 41 = .ok (.getfield 118, 3) := by decide +kernel
theorem dX3_turnOver_44 : decode cX3_turnOver 44 = .ok (.iconst 1, 1) := by decide +kernel
theorem dX3_turnOver_45 : decode cX3_turnOver 45 = .ok (.iadd, 1) := by decide +kernel
theorem dX3_turnOver_46 : decode cX3_turnOver 46 = .ok (.putfield 118, 3) := by decide +kernel
theorem dX3_turnOver_49 : decode cX3_turnOver 49 = .ok (.aload_n 0, 1) := by decide +kernel
theorem dX3_turnOver_50 : decode cX3_turnOver 50 = .ok (.getfield 34, 3) := by decide +kernel
theorem dX3_turnOver_53 : decode cX3_turnOver 53 = .ok (.invokevirtual 121, 3) := by decide +kernel
theorem dX3_turnOver_56 : decode cX3_turnOver 56 = .ok (.aload_n 0, 1) := by decide +kernel
theorem dX3_turnOver_57 : decode cX3_turnOver 57 = .ok (.getfield 38, 3) := by decide +kernel
theorem dX3_turnOver_60 : decode cX3_turnOver 60 = .ok (.aload_n 0, 1) := by decide +kernel
theorem dX3_turnOver_61 : decode cX3_turnOver 61 = .ok (.getfield 24, 3) := by decide +kernel
theorem dX3_turnOver_64 : decode cX3_turnOver 64 = .ok (.getfield 118, 3) := by decide +kernel
theorem dX3_turnOver_67 : decode cX3_turnOver 67 = .ok (.iload_n 1, 1) := by decide +kernel
theorem dX3_turnOver_68 : decode cX3_turnOver 68 = .ok (.invokestatic 194, 3) := by decide +kernel
theorem dX3_turnOver_71 : decode cX3_turnOver 71 = .ok (.aload_n 0, 1) := by decide +kernel
theorem dX3_turnOver_72 : decode cX3_turnOver 72 = .ok (.getfield 17, 3) := by decide +kernel
theorem dX3_turnOver_75 : decode cX3_turnOver 75 = .ok (.iconst 0, 1) := by decide +kernel
theorem dX3_turnOver_76 : decode cX3_turnOver 76 = .ok (.aload_n 0, 1) := by decide +kernel
theorem dX3_turnOver_77 : decode cX3_turnOver 77 = .ok (.getfield 38, 3) := by decide +kernel
theorem dX3_turnOver_80 : decode cX3_turnOver 80 = .ok (.invokevirtual 239, 3) := by decide +kernel
theorem dX3_turnOver_83 : decode cX3_turnOver 83 = .ok (.return_, 1) := by decide +kernel
abbrev zm_X3_turnOver : zg_M := (RX3, cX3_turnOver, 3, none, [])
theorem dX3_carryOutAll_0 : decode cX3_carryOutAll 0 = .ok (.aload_n 0, 1) := by decide +kernel
theorem dX3_carryOutAll_1 : decode cX3_carryOutAll 1 = .ok (.getfield 17, 3) := by decide +kernel
theorem dX3_carryOutAll_4 : decode cX3_carryOutAll 4 = .ok (.getfield 86, 3) := by decide +kernel
theorem dX3_carryOutAll_7 : decode cX3_carryOutAll 7 = .ok (.istore_n 1, 1) := by decide +kernel
theorem dX3_carryOutAll_8 : decode cX3_carryOutAll 8 = .ok (.iconst 0, 1) := by decide +kernel
theorem dX3_carryOutAll_9 : decode cX3_carryOutAll 9 = .ok (.istore_n 2, 1) := by decide +kernel
theorem dX3_carryOutAll_10 : decode cX3_carryOutAll 10 = .ok (.iload_n 2, 1) := by decide +kernel
theorem dX3_carryOutAll_11 : decode cX3_carryOutAll 11 = .ok (.iload_n 1, 1) := by decide +kernel
theorem dX3_carryOutAll_12 : decode cX3_carryOutAll 12 = .ok (.if_icmp .ge 44, 3) := by decide +kernel
theorem dX3_carryOutAll_15 : decode cX3_carryOutAll 15 = .ok (.aload_n 0, 1) := by decide +kernel
theorem dX3_carryOutAll_16 : decode cX3_carryOutAll 16 = .ok (.getfield 17, 3) := by decide +kernel
theorem dX3_carryOutAll_19 : decode cX3_carryOutAll 19 = .ok (.iload_n 2, 1) := by decide +kernel
theorem dX3_carryOutAll_20 : decode cX3_carryOutAll 20 = .ok (.aload_n 0, 1) := by decide +kernel
theorem dX3_carryOutAll_21 : decode cX3_carryOutAll 21 = .ok (.getfield 11, 3) := by decide +kernel
theorem dX3_carryOutAll_24 : decode cX3_carryOutAll 24 = .ok (.invokevirtual 124, 3) := by decide +kernel
theorem dX3_carryOutAll_27 : decode cX3_carryOutAll 27 = .ok (.aload_n 0, 1) := by decide +kernel
theorem dX3_carryOutAll_28 : decode cX3_carryOutAll 28 = .ok (.getfield 17, 3) := by decide +kernel
theorem dX3_carryOutAll_31 : decode cX3_carryOutAll 31 = .ok (.getfield 154, 3) := by decide +kernel
theorem dX3_carryOutAll_34 : decode cX3_carryOutAll 34 = .ok (.iload_n 2, 1) := by decide +kernel
theorem dX3_carryOutAll_35 : decode cX3_carryOutAll 35 = .ok (.iaload, 1) := by decide +kernel
theorem dX3_carryOutAll_36 : decode cX3_carryOutAll 36 = .ok (.ifCond .ne 14, 3) := by decide +kernel
theorem dX3_carryOutAll_39 : decode cX3_carryOutAll 39 = .ok (.aload_n 0, 1) := by decide +kernel
theorem dX3_carryOutAll_40 : decode cX3_carryOutAll 40 = .ok (.getfield 28, 3) := by decide +kernel
theorem dX3_carryOutAll_43 : decode cX3_carryOutAll 43 = .ok (.aload_n 0, 1) := by decide +kernel
theorem dX3_carryOutAll_44 : decode cX3_carryOutAll 44 = .ok (.getfield 24, 3) := by decide +kernel
theorem dX3_carryOutAll_47 : decode cX3_carryOutAll 47 = .ok (.invokevirtual 210, 3) := by decide +kernel
theorem dX3_carryOutAll_50 : decode cX3_carryOutAll 50 = .ok (.iinc 2 1, 3) := by decide +kernel
theorem dX3_carryOutAll_53 : decode cX3_carryOutAll 53 = .ok (.goto (-43), 3) := by decide +kernel
theorem dX3_carryOutAll_56 : decode cX3_carryOutAll 56 = .ok (.aload_n 0, 1) := by decide +kernel
theorem dX3_carryOutAll_57 : decode cX3_carryOutAll 57 = .ok (.getfield 17, 3) := by decide +kernel
theorem dX3_carryOutAll_60 : decode cX3_carryOutAll 60 = .ok (.iconst 0, 1) := by decide +kernel
theorem dX3_carryOutAll_61 : decode cX3_carryOutAll 61 = .ok (.putfield 86, 3) := by decide +kernel
theorem dX3_carryOutAll_64 : decode cX3_carryOutAll 64 = .ok (.iload_n 1, 1) := by decide +kernel
theorem dX3_carryOutAll_65 : decode cX3_carryOutAll 65 = .ok (.ireturn, 1) := by decide +kernel
abbrev zm_X3_carryOutAll : zg_M := (RX3, cX3_carryOutAll, 3, (some .int), [])
abbrev cJ13_bitCount_95d88 : ByteArray := prog_10_method_50_code
def yJ13_bitCount_95d88 : MethodName := ⟨"java/lang/Long", "bitCount", "(J)I"⟩
theorem dJ13_bitCount_95d88_0 : decode cJ13_bitCount_95d88 0 = .ok (.lload_n 0, 1) := by decide +kernel
theorem dJ13_bitCount_95d88_1 : decode cJ13_bitCount_95d88 1 = .ok (.lload_n 0, 1) := by decide +kernel
theorem dJ13_bitCount_95d88_2 : decode cJ13_bitCount_95d88 2 = .ok (.iconst 1, 1) := by decide +kernel
theorem dJ13_bitCount_95d88_3 : decode cJ13_bitCount_95d88 3 = .ok (.lushr, 1) := by decide +kernel
theorem dJ13_bitCount_95d88_4 : decode cJ13_bitCount_95d88 4 = .ok (.ldc2_w 314, 3) := by decide +kernel
theorem dJ13_bitCount_95d88_7 : decode cJ13_bitCount_95d88 7 = .ok (.land, 1) := by decide +kernel
theorem dJ13_bitCount_95d88_8 : decode cJ13_bitCount_95d88 8 = .ok (.lsub, 1) := by decide +kernel
theorem dJ13_bitCount_95d88_9 : decode cJ13_bitCount_95d88 9 = .ok (.lstore_n 0, 1) := by decide +kernel
theorem dJ13_bitCount_95d88_10 : decode cJ13_bitCount_95d88 10 = .ok (.lload_n 0, 1) := by decide +kernel
theorem dJ13_bitCount_95d88_11 : decode cJ13_bitCount_95d88 11 = .ok (.ldc2_w 316, 3) := by decide +kernel
theorem dJ13_bitCount_95d88_14 : decode cJ13_bitCount_95d88 14 = .ok (.land, 1) := by decide +kernel
theorem dJ13_bitCount_95d88_15 : decode cJ13_bitCount_95d88 15 = .ok (.lload_n 0, 1) := by decide +kernel
theorem dJ13_bitCount_95d88_16 : decode cJ13_bitCount_95d88 16 = .ok (.iconst 2, 1) := by decide +kernel
theorem dJ13_bitCount_95d88_17 : decode cJ13_bitCount_95d88 17 = .ok (.lushr, 1) := by decide +kernel
theorem dJ13_bitCount_95d88_18 : decode cJ13_bitCount_95d88 18 = .ok (.ldc2_w 316, 3) := by decide +kernel
theorem dJ13_bitCount_95d88_21 : decode cJ13_bitCount_95d88 21 = .ok (.land, 1) := by decide +kernel
theorem dJ13_bitCount_95d88_22 : decode cJ13_bitCount_95d88 22 = .ok (.ladd, 1) := by decide +kernel
theorem dJ13_bitCount_95d88_23 : decode cJ13_bitCount_95d88 23 = .ok (.lstore_n 0, 1) := by decide +kernel
theorem dJ13_bitCount_95d88_24 : decode cJ13_bitCount_95d88 24 = .ok (.lload_n 0, 1) := by decide +kernel
theorem dJ13_bitCount_95d88_25 : decode cJ13_bitCount_95d88 25 = .ok (.lload_n 0, 1) := by decide +kernel
theorem dJ13_bitCount_95d88_26 : decode cJ13_bitCount_95d88 26 = .ok (.iconst 4, 1) := by decide +kernel
theorem dJ13_bitCount_95d88_27 : decode cJ13_bitCount_95d88 27 = .ok (.lushr, 1) := by decide +kernel
theorem dJ13_bitCount_95d88_28 : decode cJ13_bitCount_95d88 28 = .ok (.ladd, 1) := by decide +kernel
theorem dJ13_bitCount_95d88_29 : decode cJ13_bitCount_95d88 29 = .ok (.ldc2_w 318, 3) := by decide +kernel
theorem dJ13_bitCount_95d88_32 : decode cJ13_bitCount_95d88 32 = .ok (.land, 1) := by decide +kernel
theorem dJ13_bitCount_95d88_33 : decode cJ13_bitCount_95d88 33 = .ok (.lstore_n 0, 1) := by decide +kernel
theorem dJ13_bitCount_95d88_34 : decode cJ13_bitCount_95d88 34 = .ok (.lload_n 0, 1) := by decide +kernel
theorem dJ13_bitCount_95d88_35 : decode cJ13_bitCount_95d88 35 = .ok (.lload_n 0, 1) := by decide +kernel
theorem dJ13_bitCount_95d88_36 : decode cJ13_bitCount_95d88 36 = .ok (.bipush 8, 2) := by decide +kernel
theorem dJ13_bitCount_95d88_38 : decode cJ13_bitCount_95d88 38 = .ok (.lushr, 1) := by decide +kernel
theorem dJ13_bitCount_95d88_39 : decode cJ13_bitCount_95d88 39 = .ok (.ladd, 1) := by decide +kernel
theorem dJ13_bitCount_95d88_40 : decode cJ13_bitCount_95d88 40 = .ok (.lstore_n 0, 1) := by decide +kernel
theorem dJ13_bitCount_95d88_41 : decode cJ13_bitCount_95d88 41 = .ok (.lload_n 0, 1) := by decide +kernel
theorem dJ13_bitCount_95d88_42 : decode cJ13_bitCount_95d88 42 = .ok (.lload_n 0, 1) := by decide +kernel
theorem dJ13_bitCount_95d88_43 : decode cJ13_bitCount_95d88 43 = .ok (.bipush 16, 2) := by decide +kernel
theorem dJ13_bitCount_95d88_45 : decode cJ13_bitCount_95d88 45 = .ok (.lushr, 1) := by decide +kernel
theorem dJ13_bitCount_95d88_46 : decode cJ13_bitCount_95d88 46 = .ok (.ladd, 1) := by decide +kernel
theorem dJ13_bitCount_95d88_47 : decode cJ13_bitCount_95d88 47 = .ok (.lstore_n 0, 1) := by decide +kernel
theorem dJ13_bitCount_95d88_48 : decode cJ13_bitCount_95d88 48 = .ok (.lload_n 0, 1) := by decide +kernel
theorem dJ13_bitCount_95d88_49 : decode cJ13_bitCount_95d88 49 = .ok (.lload_n 0, 1) := by decide +kernel
theorem dJ13_bitCount_95d88_50 : decode cJ13_bitCount_95d88 50 = .ok (.bipush 32, 2) := by decide +kernel
theorem dJ13_bitCount_95d88_52 : decode cJ13_bitCount_95d88 52 = .ok (.lushr, 1) := by decide +kernel
theorem dJ13_bitCount_95d88_53 : decode cJ13_bitCount_95d88 53 = .ok (.ladd, 1) := by decide +kernel
theorem dJ13_bitCount_95d88_54 : decode cJ13_bitCount_95d88 54 = .ok (.lstore_n 0, 1) := by decide +kernel
theorem dJ13_bitCount_95d88_55 : decode cJ13_bitCount_95d88 55 = .ok (.lload_n 0, 1) := by decide +kernel
theorem dJ13_bitCount_95d88_56 : decode cJ13_bitCount_95d88 56 = .ok (.l2i, 1) := by decide +kernel
theorem dJ13_bitCount_95d88_57 : decode cJ13_bitCount_95d88 57 = .ok (.bipush 127, 2) := by decide +kernel
theorem dJ13_bitCount_95d88_59 : decode cJ13_bitCount_95d88 59 = .ok (.iand, 1) := by decide +kernel
theorem dJ13_bitCount_95d88_60 : decode cJ13_bitCount_95d88 60 = .ok (.ireturn, 1) := by decide +kernel
abbrev zm_J13_bitCount_95d88 : zg_M := ("java/lang/Long", cJ13_bitCount_95d88, 2, (some .int), [])
abbrev cJ7_fill_53178 : ByteArray := prog_15_method_103_code
def yJ7_fill_53178 : MethodName := ⟨"java/util/Arrays", "fill", "([II)V"⟩
theorem dJ7_fill_53178_0 : decode cJ7_fill_53178 0 = .ok (.iconst 0, 1) := by decide +kernel
theorem dJ7_fill_53178_1 : decode cJ7_fill_53178 1 = .ok (.istore_n 2, 1) := by decide +kernel
theorem dJ7_fill_53178_2 : decode cJ7_fill_53178 2 = .ok (.aload_n 0, 1) := by decide +kernel
theorem dJ7_fill_53178_3 : decode cJ7_fill_53178 3 = .ok (.arraylength, 1) := by decide +kernel
theorem dJ7_fill_53178_4 : decode cJ7_fill_53178 4 = .ok (.istore_n 3, 1) := by decide +kernel
theorem dJ7_fill_53178_5 : decode cJ7_fill_53178 5 = .ok (.iload_n 2, 1) := by decide +kernel
theorem dJ7_fill_53178_6 : decode cJ7_fill_53178 6 = .ok (.iload_n 3, 1) := by decide +kernel
theorem dJ7_fill_53178_7 : decode cJ7_fill_53178 7 = .ok (.if_icmp .ge 13, 3) := by decide +kernel
theorem dJ7_fill_53178_10 : decode cJ7_fill_53178 10 = .ok (.aload_n 0, 1) := by decide +kernel
theorem dJ7_fill_53178_11 : decode cJ7_fill_53178 11 = .ok (.iload_n 2, 1) := by decide +kernel
theorem dJ7_fill_53178_12 : decode cJ7_fill_53178 12 = .ok (.iload_n 1, 1) := by decide +kernel
theorem dJ7_fill_53178_13 : decode cJ7_fill_53178 13 = .ok (.iastore, 1) := by decide +kernel
theorem dJ7_fill_53178_14 : decode cJ7_fill_53178 14 = .ok (.iinc 2 1, 3) := by decide +kernel
theorem dJ7_fill_53178_17 : decode cJ7_fill_53178 17 = .ok (.goto (-12), 3) := by decide +kernel
theorem dJ7_fill_53178_20 : decode cJ7_fill_53178 20 = .ok (.return_, 1) := by decide +kernel
abbrev zm_J7_fill_53178 : zg_M := ("java/util/Arrays", cJ7_fill_53178, 4, none, [])
