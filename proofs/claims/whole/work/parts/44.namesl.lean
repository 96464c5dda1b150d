/-! Names by program: the law's wrappers. -/
theorem dL_write_0 : decode cL_write 0 = .ok (.aload 4, 2) := by decide +kernel
theorem dL_write_2 : decode cL_write 2 = .ok (.iconst 0, 1) := by decide +kernel
theorem dL_write_3 : decode cL_write 3 = .ok (.aload_n 0, 1) := by decide +kernel
theorem dL_write_4 : decode cL_write 4 = .ok (.iload_n 1, 1) := by decide +kernel
theorem dL_write_5 : decode cL_write 5 = .ok (.iload_n 2, 1) := by decide +kernel
theorem dL_write_6 : decode cL_write 6 = .ok (.iload_n 3, 1) := by decide +kernel
theorem dL_write_7 : decode cL_write 7 = .ok (.invokevirtual 7, 3) := by decide +kernel
theorem dL_write_10 : decode cL_write 10 = .ok (.i2l, 1) := by decide +kernel
theorem dL_write_11 : decode cL_write 11 = .ok (.lastore, 1) := by decide +kernel
theorem dL_write_12 : decode cL_write 12 = .ok (.goto 11, 3) := by decide +kernel
theorem dL_write_15 : decode cL_write 15 = .ok (.astore 5, 2) := by decide +kernel
theorem dL_write_17 : decode cL_write 17 = .ok (.iconst 1, 1) := by decide +kernel
theorem dL_write_18 : decode cL_write 18 = .ok (.ireturn, 1) := by decide +kernel
theorem dL_write_19 : decode cL_write 19 = .ok (.astore 5, 2) := by decide +kernel
theorem dL_write_21 : decode cL_write 21 = .ok (.iconst 2, 1) := by decide +kernel
theorem dL_write_22 : decode cL_write 22 = .ok (.ireturn, 1) := by decide +kernel
theorem dL_write_23 : decode cL_write 23 = .ok (.iconst 0, 1) := by decide +kernel
theorem dL_write_24 : decode cL_write 24 = .ok (.ireturn, 1) := by decide +kernel
abbrev zm_L_write : zg_M := (RL, cL_write, 6, (some .int), [(0, 12, 15, 13), (0, 12, 19, 15)])
theorem dL_fill_0 : decode cL_fill 0 = .ok (.aload 6, 2) := by decide +kernel
theorem dL_fill_2 : decode cL_fill 2 = .ok (.iconst 0, 1) := by decide +kernel
theorem dL_fill_3 : decode cL_fill 3 = .ok (.aload_n 0, 1) := by decide +kernel
theorem dL_fill_4 : decode cL_fill 4 = .ok (.iload_n 1, 1) := by decide +kernel
theorem dL_fill_5 : decode cL_fill 5 = .ok (.lload_n 2, 1) := by decide +kernel
theorem dL_fill_6 : decode cL_fill 6 = .ok (.lload 4, 2) := by decide +kernel
theorem dL_fill_8 : decode cL_fill 8 = .ok (.invokevirtual 17, 3) := by decide +kernel
theorem dL_fill_11 : decode cL_fill 11 = .ok (.i2l, 1) := by decide +kernel
theorem dL_fill_12 : decode cL_fill 12 = .ok (.lastore, 1) := by decide +kernel
theorem dL_fill_13 : decode cL_fill 13 = .ok (.goto 11, 3) := by decide +kernel
theorem dL_fill_16 : decode cL_fill 16 = .ok (.astore 7, 2) := by decide +kernel
theorem dL_fill_18 : decode cL_fill 18 = .ok (.iconst 1, 1) := by decide +kernel
theorem dL_fill_19 : decode cL_fill 19 = .ok (.ireturn, 1) := by decide +kernel
theorem dL_fill_20 : decode cL_fill 20 = .ok (.astore 7, 2) := by decide +kernel
theorem dL_fill_22 : decode cL_fill 22 = .ok (.iconst 2, 1) := by decide +kernel
theorem dL_fill_23 : decode cL_fill 23 = .ok (.ireturn, 1) := by decide +kernel
theorem dL_fill_24 : decode cL_fill 24 = .ok (.iconst 0, 1) := by decide +kernel
theorem dL_fill_25 : decode cL_fill 25 = .ok (.ireturn, 1) := by decide +kernel
abbrev zm_L_fill : zg_M := (RL, cL_fill, 8, (some .int), [(0, 13, 16, 13), (0, 13, 20, 15)])
theorem dL_read_0 : decode cL_read 0 = .ok (.aload 4, 2) := by decide +kernel
theorem dL_read_2 : decode cL_read 2 = .ok (.iconst 0, 1) := by decide +kernel
theorem dL_read_3 : decode cL_read 3 = .ok (.aload_n 0, 1) := by decide +kernel
theorem dL_read_4 : decode cL_read 4 = .ok (.iload_n 1, 1) := by decide +kernel
theorem dL_read_5 : decode cL_read 5 = .ok (.iload_n 2, 1) := by decide +kernel
theorem dL_read_6 : decode cL_read 6 = .ok (.iload_n 3, 1) := by decide +kernel
theorem dL_read_7 : decode cL_read 7 = .ok (.invokevirtual 21, 3) := by decide +kernel
theorem dL_read_10 : decode cL_read 10 = .ok (.i2l, 1) := by decide +kernel
theorem dL_read_11 : decode cL_read 11 = .ok (.lastore, 1) := by decide +kernel
theorem dL_read_12 : decode cL_read 12 = .ok (.goto 11, 3) := by decide +kernel
theorem dL_read_15 : decode cL_read 15 = .ok (.astore 5, 2) := by decide +kernel
theorem dL_read_17 : decode cL_read 17 = .ok (.iconst 1, 1) := by decide +kernel
theorem dL_read_18 : decode cL_read 18 = .ok (.ireturn, 1) := by decide +kernel
theorem dL_read_19 : decode cL_read 19 = .ok (.astore 5, 2) := by decide +kernel
theorem dL_read_21 : decode cL_read 21 = .ok (.iconst 2, 1) := by decide +kernel
theorem dL_read_22 : decode cL_read 22 = .ok (.ireturn, 1) := by decide +kernel
theorem dL_read_23 : decode cL_read 23 = .ok (.iconst 0, 1) := by decide +kernel
theorem dL_read_24 : decode cL_read 24 = .ok (.ireturn, 1) := by decide +kernel
abbrev zm_L_read : zg_M := (RL, cL_read, 6, (some .int), [(0, 12, 15, 13), (0, 12, 19, 15)])
theorem dL_spill_0 : decode cL_spill 0 = .ok (.aload_n 2, 1) := by decide +kernel
theorem dL_spill_1 : decode cL_spill 1 = .ok (.iconst 0, 1) := by decide +kernel
theorem dL_spill_2 : decode cL_spill 2 = .ok (.aload_n 0, 1) := by decide +kernel
theorem dL_spill_3 : decode cL_spill 3 = .ok (.iload_n 1, 1) := by decide +kernel
theorem dL_spill_4 : decode cL_spill 4 = .ok (.invokevirtual 25, 3) := by decide +kernel
theorem dL_spill_7 : decode cL_spill 7 = .ok (.i2l, 1) := by decide +kernel
theorem dL_spill_8 : decode cL_spill 8 = .ok (.lastore, 1) := by decide +kernel
theorem dL_spill_9 : decode cL_spill 9 = .ok (.goto 9, 3) := by decide +kernel
theorem dL_spill_12 : decode cL_spill 12 = .ok (.astore_n 3, 1) := by decide +kernel
theorem dL_spill_13 : decode cL_spill 13 = .ok (.iconst 1, 1) := by decide +kernel
theorem dL_spill_14 : decode cL_spill 14 = .ok (.ireturn, 1) := by decide +kernel
theorem dL_spill_15 : decode cL_spill 15 = .ok (.astore_n 3, 1) := by decide +kernel
theorem dL_spill_16 : decode cL_spill 16 = .ok (.iconst 2, 1) := by decide +kernel
theorem dL_spill_17 : decode cL_spill 17 = .ok (.ireturn, 1) := by decide +kernel
theorem dL_spill_18 : decode cL_spill 18 = .ok (.iconst 0, 1) := by decide +kernel
theorem dL_spill_19 : decode cL_spill 19 = .ok (.ireturn, 1) := by decide +kernel
abbrev zm_L_spill : zg_M := (RL, cL_spill, 4, (some .int), [(0, 9, 12, 13), (0, 9, 15, 15)])
theorem dL_commit_0 : decode cL_commit 0 = .ok (.aload_n 2, 1) := by decide +kernel
theorem dL_commit_1 : decode cL_commit 1 = .ok (.iconst 0, 1) := by decide +kernel
theorem dL_commit_2 : decode cL_commit 2 = .ok (.aload_n 0, 1) := by decide +kernel
theorem dL_commit_3 : decode cL_commit 3 = .ok (.iload_n 1, 1) := by decide +kernel
theorem dL_commit_4 : decode cL_commit 4 = .ok (.invokevirtual 29, 3) := by decide +kernel
theorem dL_commit_7 : decode cL_commit 7 = .ok (.i2l, 1) := by decide +kernel
theorem dL_commit_8 : decode cL_commit 8 = .ok (.lastore, 1) := by decide +kernel
theorem dL_commit_9 : decode cL_commit 9 = .ok (.goto 6, 3) := by decide +kernel
theorem dL_commit_12 : decode cL_commit 12 = .ok (.astore_n 3, 1) := by decide +kernel
theorem dL_commit_13 : decode cL_commit 13 = .ok (.iconst 1, 1) := by decide +kernel
theorem dL_commit_14 : decode cL_commit 14 = .ok (.ireturn, 1) := by decide +kernel
theorem dL_commit_15 : decode cL_commit 15 = .ok (.iconst 0, 1) := by decide +kernel
theorem dL_commit_16 : decode cL_commit 16 = .ok (.ireturn, 1) := by decide +kernel
abbrev zm_L_commit : zg_M := (RL, cL_commit, 4, (some .int), [(0, 9, 12, 15)])
theorem dL_abort_0 : decode cL_abort 0 = .ok (.aload_n 1, 1) := by decide +kernel
theorem dL_abort_1 : decode cL_abort 1 = .ok (.iconst 0, 1) := by decide +kernel
theorem dL_abort_2 : decode cL_abort 2 = .ok (.aload_n 0, 1) := by decide +kernel
theorem dL_abort_3 : decode cL_abort 3 = .ok (.invokevirtual 33, 3) := by decide +kernel
theorem dL_abort_6 : decode cL_abort 6 = .ok (.i2l, 1) := by decide +kernel
theorem dL_abort_7 : decode cL_abort 7 = .ok (.lastore, 1) := by decide +kernel
theorem dL_abort_8 : decode cL_abort 8 = .ok (.goto 6, 3) := by decide +kernel
theorem dL_abort_11 : decode cL_abort 11 = .ok (.astore_n 2, 1) := by decide +kernel
theorem dL_abort_12 : decode cL_abort 12 = .ok (.iconst 1, 1) := by decide +kernel
theorem dL_abort_13 : decode cL_abort 13 = .ok (.ireturn, 1) := by decide +kernel
theorem dL_abort_14 : decode cL_abort 14 = .ok (.iconst 0, 1) := by decide +kernel
theorem dL_abort_15 : decode cL_abort 15 = .ok (.ireturn, 1) := by decide +kernel
abbrev zm_L_abort : zg_M := (RL, cL_abort, 3, (some .int), [(0, 8, 11, 15)])
theorem dL_flush_0 : decode cL_flush 0 = .ok (.aload_n 1, 1) := by decide +kernel
theorem dL_flush_1 : decode cL_flush 1 = .ok (.iconst 0, 1) := by decide +kernel
theorem dL_flush_2 : decode cL_flush 2 = .ok (.aload_n 0, 1) := by decide +kernel
theorem dL_flush_3 : decode cL_flush 3 = .ok (.invokevirtual 37, 3) := by decide +kernel
theorem dL_flush_6 : decode cL_flush 6 = .ok (.i2l, 1) := by decide +kernel
theorem dL_flush_7 : decode cL_flush 7 = .ok (.lastore, 1) := by decide +kernel
theorem dL_flush_8 : decode cL_flush 8 = .ok (.goto 6, 3) := by decide +kernel
theorem dL_flush_11 : decode cL_flush 11 = .ok (.astore_n 2, 1) := by decide +kernel
theorem dL_flush_12 : decode cL_flush 12 = .ok (.iconst 1, 1) := by decide +kernel
theorem dL_flush_13 : decode cL_flush 13 = .ok (.ireturn, 1) := by decide +kernel
theorem dL_flush_14 : decode cL_flush 14 = .ok (.iconst 0, 1) := by decide +kernel
theorem dL_flush_15 : decode cL_flush 15 = .ok (.ireturn, 1) := by decide +kernel
abbrev zm_L_flush : zg_M := (RL, cL_flush, 3, (some .int), [(0, 8, 11, 15)])
theorem dL_damage_0 : decode cL_damage 0 = .ok (.aload 4, 2) := by decide +kernel
theorem dL_damage_2 : decode cL_damage 2 = .ok (.iconst 0, 1) := by decide +kernel
theorem dL_damage_3 : decode cL_damage 3 = .ok (.aload_n 0, 1) := by decide +kernel
theorem dL_damage_4 : decode cL_damage 4 = .ok (.iload_n 1, 1) := by decide +kernel
theorem dL_damage_5 : decode cL_damage 5 = .ok (.iload_n 2, 1) := by decide +kernel
theorem dL_damage_6 : decode cL_damage 6 = .ok (.iload_n 3, 1) := by decide +kernel
theorem dL_damage_7 : decode cL_damage 7 = .ok (.invokevirtual 40, 3) := by decide +kernel
theorem dL_damage_10 : decode cL_damage 10 = .ok (.i2l, 1) := by decide +kernel
theorem dL_damage_11 : decode cL_damage 11 = .ok (.lastore, 1) := by decide +kernel
theorem dL_damage_12 : decode cL_damage 12 = .ok (.goto 7, 3) := by decide +kernel
theorem dL_damage_15 : decode cL_damage 15 = .ok (.astore 5, 2) := by decide +kernel
theorem dL_damage_17 : decode cL_damage 17 = .ok (.iconst 1, 1) := by decide +kernel
theorem dL_damage_18 : decode cL_damage 18 = .ok (.ireturn, 1) := by decide +kernel
theorem dL_damage_19 : decode cL_damage 19 = .ok (.iconst 0, 1) := by decide +kernel
theorem dL_damage_20 : decode cL_damage 20 = .ok (.ireturn, 1) := by decide +kernel
abbrev zm_L_damage : zg_M := (RL, cL_damage, 6, (some .int), [(0, 12, 15, 13)])
theorem dL_disk_0 : decode cL_disk 0 = .ok (.aload_n 3, 1) := by decide +kernel
theorem dL_disk_1 : decode cL_disk 1 = .ok (.iconst 0, 1) := by decide +kernel
theorem dL_disk_2 : decode cL_disk 2 = .ok (.aload_n 0, 1) := by decide +kernel
theorem dL_disk_3 : decode cL_disk 3 = .ok (.iload_n 1, 1) := by decide +kernel
theorem dL_disk_4 : decode cL_disk 4 = .ok (.iload_n 2, 1) := by decide +kernel
theorem dL_disk_5 : decode cL_disk 5 = .ok (.invokevirtual 43, 3) := by decide +kernel
theorem dL_disk_8 : decode cL_disk 8 = .ok (.i2l, 1) := by decide +kernel
theorem dL_disk_9 : decode cL_disk 9 = .ok (.lastore, 1) := by decide +kernel
theorem dL_disk_10 : decode cL_disk 10 = .ok (.goto 7, 3) := by decide +kernel
theorem dL_disk_13 : decode cL_disk 13 = .ok (.astore 4, 2) := by decide +kernel
theorem dL_disk_15 : decode cL_disk 15 = .ok (.iconst 1, 1) := by decide +kernel
theorem dL_disk_16 : decode cL_disk 16 = .ok (.ireturn, 1) := by decide +kernel
theorem dL_disk_17 : decode cL_disk 17 = .ok (.iconst 0, 1) := by decide +kernel
theorem dL_disk_18 : decode cL_disk 18 = .ok (.ireturn, 1) := by decide +kernel
abbrev zm_L_disk : zg_M := (RL, cL_disk, 5, (some .int), [(0, 10, 13, 13)])
theorem dL_place_0 : decode cL_place 0 = .ok (.aload_n 3, 1) := by decide +kernel
theorem dL_place_1 : decode cL_place 1 = .ok (.iconst 0, 1) := by decide +kernel
theorem dL_place_2 : decode cL_place 2 = .ok (.aload_n 0, 1) := by decide +kernel
theorem dL_place_3 : decode cL_place 3 = .ok (.iload_n 1, 1) := by decide +kernel
theorem dL_place_4 : decode cL_place 4 = .ok (.iload_n 2, 1) := by decide +kernel
theorem dL_place_5 : decode cL_place 5 = .ok (.invokevirtual 47, 3) := by decide +kernel
theorem dL_place_8 : decode cL_place 8 = .ok (.i2l, 1) := by decide +kernel
theorem dL_place_9 : decode cL_place 9 = .ok (.lastore, 1) := by decide +kernel
theorem dL_place_10 : decode cL_place 10 = .ok (.goto 11, 3) := by decide +kernel
theorem dL_place_13 : decode cL_place 13 = .ok (.astore 4, 2) := by decide +kernel
theorem dL_place_15 : decode cL_place 15 = .ok (.iconst 1, 1) := by decide +kernel
theorem dL_place_16 : decode cL_place 16 = .ok (.ireturn, 1) := by decide +kernel
theorem dL_place_17 : decode cL_place 17 = .ok (.astore 4, 2) := by decide +kernel
theorem dL_place_19 : decode cL_place 19 = .ok (.iconst 2, 1) := by decide +kernel
theorem dL_place_20 : decode cL_place 20 = .ok (.ireturn, 1) := by decide +kernel
theorem dL_place_21 : decode cL_place 21 = .ok (.iconst 0, 1) := by decide +kernel
theorem dL_place_22 : decode cL_place 22 = .ok (.ireturn, 1) := by decide +kernel
abbrev zm_L_place : zg_M := (RL, cL_place, 5, (some .int), [(0, 10, 13, 13), (0, 10, 17, 15)])
theorem dL_free_0 : decode cL_free 0 = .ok (.aload_n 2, 1) := by decide +kernel
theorem dL_free_1 : decode cL_free 1 = .ok (.iconst 0, 1) := by decide +kernel
theorem dL_free_2 : decode cL_free 2 = .ok (.aload_n 0, 1) := by decide +kernel
theorem dL_free_3 : decode cL_free 3 = .ok (.iload_n 1, 1) := by decide +kernel
theorem dL_free_4 : decode cL_free 4 = .ok (.invokevirtual 50, 3) := by decide +kernel
theorem dL_free_7 : decode cL_free 7 = .ok (.ifCond .eq 7, 3) := by decide +kernel
theorem dL_free_10 : decode cL_free 10 = .ok (.lconst 1, 1) := by decide +kernel
theorem dL_free_11 : decode cL_free 11 = .ok (.goto 4, 3) := by decide +kernel
theorem dL_free_14 : decode cL_free 14 = .ok (.lconst 0, 1) := by decide +kernel
theorem dL_free_15 : decode cL_free 15 = .ok (.lastore, 1) := by decide +kernel
theorem dL_free_16 : decode cL_free 16 = .ok (.goto 9, 3) := by decide +kernel
theorem dL_free_19 : decode cL_free 19 = .ok (.astore_n 3, 1) := by decide +kernel
theorem dL_free_20 : decode cL_free 20 = .ok (.iconst 1, 1) := by decide +kernel
theorem dL_free_21 : decode cL_free 21 = .ok (.ireturn, 1) := by decide +kernel
theorem dL_free_22 : decode cL_free 22 = .ok (.astore_n 3, 1) := by decide +kernel
theorem dL_free_23 : decode cL_free 23 = .ok (.iconst 2, 1) := by decide +kernel
theorem dL_free_24 : decode cL_free 24 = .ok (.ireturn, 1) := by decide +kernel
theorem dL_free_25 : decode cL_free 25 = .ok (.iconst 0, 1) := by decide +kernel
theorem dL_free_26 : decode cL_free 26 = .ok (.ireturn, 1) := by decide +kernel
abbrev zm_L_free : zg_M := (RL, cL_free, 4, (some .int), [(0, 16, 19, 13), (0, 16, 22, 15)])
theorem dL_held_0 : decode cL_held 0 = .ok (.aload_n 3, 1) := by decide +kernel
theorem dL_held_1 : decode cL_held 1 = .ok (.iconst 0, 1) := by decide +kernel
theorem dL_held_2 : decode cL_held 2 = .ok (.aload_n 0, 1) := by decide +kernel
theorem dL_held_3 : decode cL_held 3 = .ok (.iload_n 1, 1) := by decide +kernel
theorem dL_held_4 : decode cL_held 4 = .ok (.iload_n 2, 1) := by decide +kernel
theorem dL_held_5 : decode cL_held 5 = .ok (.invokevirtual 54, 3) := by decide +kernel
theorem dL_held_8 : decode cL_held 8 = .ok (.i2l, 1) := by decide +kernel
theorem dL_held_9 : decode cL_held 9 = .ok (.lastore, 1) := by decide +kernel
theorem dL_held_10 : decode cL_held 10 = .ok (.goto 7, 3) := by decide +kernel
theorem dL_held_13 : decode cL_held 13 = .ok (.astore 4, 2) := by decide +kernel
theorem dL_held_15 : decode cL_held 15 = .ok (.iconst 1, 1) := by decide +kernel
theorem dL_held_16 : decode cL_held 16 = .ok (.ireturn, 1) := by decide +kernel
theorem dL_held_17 : decode cL_held 17 = .ok (.iconst 0, 1) := by decide +kernel
theorem dL_held_18 : decode cL_held 18 = .ok (.ireturn, 1) := by decide +kernel
abbrev zm_L_held : zg_M := (RL, cL_held, 5, (some .int), [(0, 10, 13, 13)])
theorem dL_total_0 : decode cL_total 0 = .ok (.aload_n 2, 1) := by decide +kernel
theorem dL_total_1 : decode cL_total 1 = .ok (.iconst 0, 1) := by decide +kernel
theorem dL_total_2 : decode cL_total 2 = .ok (.aload_n 0, 1) := by decide +kernel
theorem dL_total_3 : decode cL_total 3 = .ok (.iload_n 1, 1) := by decide +kernel
theorem dL_total_4 : decode cL_total 4 = .ok (.invokevirtual 57, 3) := by decide +kernel
theorem dL_total_7 : decode cL_total 7 = .ok (.i2l, 1) := by decide +kernel
theorem dL_total_8 : decode cL_total 8 = .ok (.lastore, 1) := by decide +kernel
theorem dL_total_9 : decode cL_total 9 = .ok (.goto 6, 3) := by decide +kernel
theorem dL_total_12 : decode cL_total 12 = .ok (.astore_n 3, 1) := by decide +kernel
theorem dL_total_13 : decode cL_total 13 = .ok (.iconst 1, 1) := by decide +kernel
theorem dL_total_14 : decode cL_total 14 = .ok (.ireturn, 1) := by decide +kernel
theorem dL_total_15 : decode cL_total 15 = .ok (.iconst 0, 1) := by decide +kernel
theorem dL_total_16 : decode cL_total 16 = .ok (.ireturn, 1) := by decide +kernel
abbrev zm_L_total : zg_M := (RL, cL_total, 4, (some .int), [(0, 9, 12, 13)])
