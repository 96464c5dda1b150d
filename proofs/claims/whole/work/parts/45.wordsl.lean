/-! Words of the law's calls, by program. -/
theorem wd_L_7 : [Cond.methodLink RL 7 yX3_write, Cond.instanceMethod yX3_write, Cond.selects RX3 yX3_write yX3_write, Cond.initialized yX3_write.cls, zg_cw zm_X3_write yX3_write].all (fun x => decide (x ∈ lw_tbl) && goodWord x) = true := by decide +kernel
theorem wd_L_17 : [Cond.methodLink RL 17 yX3_fill, Cond.instanceMethod yX3_fill, Cond.selects RX3 yX3_fill yX3_fill, Cond.initialized yX3_fill.cls, zg_cw zm_X3_fill yX3_fill].all (fun x => decide (x ∈ lw_tbl) && goodWord x) = true := by decide +kernel
theorem wd_L_21 : [Cond.methodLink RL 21 yX3_read, Cond.instanceMethod yX3_read, Cond.selects RX3 yX3_read yX3_read, Cond.initialized yX3_read.cls, zg_cw zm_X3_read yX3_read].all (fun x => decide (x ∈ lw_tbl) && goodWord x) = true := by decide +kernel
theorem wd_L_25 : [Cond.methodLink RL 25 yX3_spill, Cond.instanceMethod yX3_spill, Cond.selects RX3 yX3_spill yX3_spill, Cond.initialized yX3_spill.cls, zg_cw zm_X3_spill yX3_spill].all (fun x => decide (x ∈ lw_tbl) && goodWord x) = true := by decide +kernel
theorem wd_L_29 : [Cond.methodLink RL 29 yX3_commit, Cond.instanceMethod yX3_commit, Cond.selects RX3 yX3_commit yX3_commit, Cond.initialized yX3_commit.cls, zg_cw zm_X3_commit yX3_commit].all (fun x => decide (x ∈ lw_tbl) && goodWord x) = true := by decide +kernel
theorem wd_L_33 : [Cond.methodLink RL 33 yX3_abort, Cond.instanceMethod yX3_abort, Cond.selects RX3 yX3_abort yX3_abort, Cond.initialized yX3_abort.cls, zg_cw zm_X3_abort yX3_abort].all (fun x => decide (x ∈ lw_tbl) && goodWord x) = true := by decide +kernel
theorem wd_L_37 : [Cond.methodLink RL 37 yX3_flush, Cond.instanceMethod yX3_flush, Cond.selects RX3 yX3_flush yX3_flush, Cond.initialized yX3_flush.cls, zg_cw zm_X3_flush yX3_flush].all (fun x => decide (x ∈ lw_tbl) && goodWord x) = true := by decide +kernel
theorem wd_L_40 : [Cond.methodLink RL 40 yX3_damage, Cond.instanceMethod yX3_damage, Cond.selects RX3 yX3_damage yX3_damage, Cond.initialized yX3_damage.cls, zg_cw zm_X3_damage yX3_damage].all (fun x => decide (x ∈ lw_tbl) && goodWord x) = true := by decide +kernel
theorem wd_L_43 : [Cond.methodLink RL 43 yX3_disk, Cond.instanceMethod yX3_disk, Cond.selects RX3 yX3_disk yX3_disk, Cond.initialized yX3_disk.cls, zg_cw zm_X3_disk yX3_disk].all (fun x => decide (x ∈ lw_tbl) && goodWord x) = true := by decide +kernel
theorem wd_L_47 : [Cond.methodLink RL 47 yX3_place, Cond.instanceMethod yX3_place, Cond.selects RX3 yX3_place yX3_place, Cond.initialized yX3_place.cls, zg_cw zm_X3_place yX3_place].all (fun x => decide (x ∈ lw_tbl) && goodWord x) = true := by decide +kernel
theorem wd_L_50 : [Cond.methodLink RL 50 yX3_free, Cond.instanceMethod yX3_free, Cond.selects RX3 yX3_free yX3_free, Cond.initialized yX3_free.cls, zg_cw zm_X3_free yX3_free].all (fun x => decide (x ∈ lw_tbl) && goodWord x) = true := by decide +kernel
theorem wd_L_54 : [Cond.methodLink RL 54 yX3_held, Cond.instanceMethod yX3_held, Cond.selects RX3 yX3_held yX3_held, Cond.initialized yX3_held.cls, zg_cw zm_X3_held yX3_held].all (fun x => decide (x ∈ lw_tbl) && goodWord x) = true := by decide +kernel
theorem wd_L_57 : [Cond.methodLink RL 57 yX3_total, Cond.instanceMethod yX3_total, Cond.selects RX3 yX3_total yX3_total, Cond.initialized yX3_total.cls, zg_cw zm_X3_total yX3_total].all (fun x => decide (x ∈ lw_tbl) && goodWord x) = true := by decide +kernel
theorem wd_L_60 : [Cond.instanceMethod yX3_init, Cond.initialized yX3_init.cls, zg_cw zm_X3_init yX3_init].all (fun x => decide (x ∈ lw_tbl) && goodWord x) = true := by decide +kernel
theorem wl_L_60 : Cond.methodLink RL 60 yX3_init ∈ lw_tbl := by decide +kernel
theorem wd_L_63 : [Cond.instanceMethod yX4_init, Cond.initialized yX4_init.cls, zg_cw zm_X4_init yX4_init].all (fun x => decide (x ∈ lw_tbl) && goodWord x) = true := by decide +kernel
theorem wl_L_63 : Cond.methodLink RL 63 yX4_init ∈ lw_tbl := by decide +kernel
theorem wd_L_64 : [Cond.methodLink RL 64 yX3_format, Cond.instanceMethod yX3_format, Cond.selects RX3 yX3_format yX3_format, Cond.initialized yX3_format.cls, zg_cw zm_X3_format yX3_format].all (fun x => decide (x ∈ lw_tbl) && goodWord x) = true := by decide +kernel
theorem wd_L_67 : [Cond.methodLink RL 67 yX4_format, Cond.instanceMethod yX4_format, Cond.selects RX4 yX4_format yX4_format, Cond.initialized yX4_format.cls, zg_cw zm_X4_format yX4_format].all (fun x => decide (x ∈ lw_tbl) && goodWord x) = true := by decide +kernel
theorem wd_L_68 : [Cond.methodLink RL 68 yL_write, Cond.static yL_write, Cond.initialized yL_write.cls, zg_cw zm_L_write yL_write].all (fun x => decide (x ∈ lw_tbl) && goodWord x) = true := by decide +kernel
theorem wd_L_73 : [Cond.methodLink RL 73 yX4_write, Cond.instanceMethod yX4_write, Cond.selects RX4 yX4_write yX4_write, Cond.initialized yX4_write.cls, zg_cw zm_X4_write yX4_write].all (fun x => decide (x ∈ lw_tbl) && goodWord x) = true := by decide +kernel
theorem wd_L_74 : [Cond.methodLink RL 74 yX4_thrown, Cond.instanceMethod yX4_thrown, Cond.selects RX4 yX4_thrown yX4_thrown, Cond.initialized yX4_thrown.cls, zg_cw zm_X4_thrown yX4_thrown].all (fun x => decide (x ∈ lw_tbl) && goodWord x) = true := by decide +kernel
theorem wd_L_79 : [Cond.methodLink RL 79 yL_fill, Cond.static yL_fill, Cond.initialized yL_fill.cls, zg_cw zm_L_fill yL_fill].all (fun x => decide (x ∈ lw_tbl) && goodWord x) = true := by decide +kernel
theorem wd_L_82 : [Cond.methodLink RL 82 yX4_fill, Cond.instanceMethod yX4_fill, Cond.selects RX4 yX4_fill yX4_fill, Cond.initialized yX4_fill.cls, zg_cw zm_X4_fill yX4_fill].all (fun x => decide (x ∈ lw_tbl) && goodWord x) = true := by decide +kernel
theorem wd_L_83 : [Cond.methodLink RL 83 yL_read, Cond.static yL_read, Cond.initialized yL_read.cls, zg_cw zm_L_read yL_read].all (fun x => decide (x ∈ lw_tbl) && goodWord x) = true := by decide +kernel
theorem wd_L_86 : [Cond.methodLink RL 86 yX4_read, Cond.instanceMethod yX4_read, Cond.selects RX4 yX4_read yX4_read, Cond.initialized yX4_read.cls, zg_cw zm_X4_read yX4_read].all (fun x => decide (x ∈ lw_tbl) && goodWord x) = true := by decide +kernel
theorem wd_L_87 : [Cond.methodLink RL 87 yL_spill, Cond.static yL_spill, Cond.initialized yL_spill.cls, zg_cw zm_L_spill yL_spill].all (fun x => decide (x ∈ lw_tbl) && goodWord x) = true := by decide +kernel
theorem wd_L_90 : [Cond.methodLink RL 90 yX4_spill, Cond.instanceMethod yX4_spill, Cond.selects RX4 yX4_spill yX4_spill, Cond.initialized yX4_spill.cls, zg_cw zm_X4_spill yX4_spill].all (fun x => decide (x ∈ lw_tbl) && goodWord x) = true := by decide +kernel
theorem wd_L_91 : [Cond.methodLink RL 91 yL_commit, Cond.static yL_commit, Cond.initialized yL_commit.cls, zg_cw zm_L_commit yL_commit].all (fun x => decide (x ∈ lw_tbl) && goodWord x) = true := by decide +kernel
theorem wd_L_94 : [Cond.methodLink RL 94 yX4_commit, Cond.instanceMethod yX4_commit, Cond.selects RX4 yX4_commit yX4_commit, Cond.initialized yX4_commit.cls, zg_cw zm_X4_commit yX4_commit].all (fun x => decide (x ∈ lw_tbl) && goodWord x) = true := by decide +kernel
theorem wd_L_95 : [Cond.methodLink RL 95 yL_abort, Cond.static yL_abort, Cond.initialized yL_abort.cls, zg_cw zm_L_abort yL_abort].all (fun x => decide (x ∈ lw_tbl) && goodWord x) = true := by decide +kernel
theorem wd_L_98 : [Cond.methodLink RL 98 yX4_abort, Cond.instanceMethod yX4_abort, Cond.selects RX4 yX4_abort yX4_abort, Cond.initialized yX4_abort.cls, zg_cw zm_X4_abort yX4_abort].all (fun x => decide (x ∈ lw_tbl) && goodWord x) = true := by decide +kernel
theorem wd_L_99 : [Cond.methodLink RL 99 yL_flush, Cond.static yL_flush, Cond.initialized yL_flush.cls, zg_cw zm_L_flush yL_flush].all (fun x => decide (x ∈ lw_tbl) && goodWord x) = true := by decide +kernel
theorem wd_L_101 : [Cond.methodLink RL 101 yX4_flush, Cond.instanceMethod yX4_flush, Cond.selects RX4 yX4_flush yX4_flush, Cond.initialized yX4_flush.cls, zg_cw zm_X4_flush yX4_flush].all (fun x => decide (x ∈ lw_tbl) && goodWord x) = true := by decide +kernel
theorem wd_L_102 : [Cond.methodLink RL 102 yX3_fail, Cond.instanceMethod yX3_fail, Cond.selects RX3 yX3_fail yX3_fail, Cond.initialized yX3_fail.cls, zg_cw zm_X3_fail yX3_fail].all (fun x => decide (x ∈ lw_tbl) && goodWord x) = true := by decide +kernel
theorem wd_L_106 : [Cond.methodLink RL 106 yX4_fail, Cond.instanceMethod yX4_fail, Cond.selects RX4 yX4_fail yX4_fail, Cond.initialized yX4_fail.cls, zg_cw zm_X4_fail yX4_fail].all (fun x => decide (x ∈ lw_tbl) && goodWord x) = true := by decide +kernel
theorem wd_L_107 : [Cond.methodLink RL 107 yL_damage, Cond.static yL_damage, Cond.initialized yL_damage.cls, zg_cw zm_L_damage yL_damage].all (fun x => decide (x ∈ lw_tbl) && goodWord x) = true := by decide +kernel
theorem wd_L_109 : [Cond.methodLink RL 109 yX4_damage, Cond.instanceMethod yX4_damage, Cond.selects RX4 yX4_damage yX4_damage, Cond.initialized yX4_damage.cls, zg_cw zm_X4_damage yX4_damage].all (fun x => decide (x ∈ lw_tbl) && goodWord x) = true := by decide +kernel
theorem wd_L_110 : [Cond.methodLink RL 110 yL_disk, Cond.static yL_disk, Cond.initialized yL_disk.cls, zg_cw zm_L_disk yL_disk].all (fun x => decide (x ∈ lw_tbl) && goodWord x) = true := by decide +kernel
theorem wd_L_113 : [Cond.methodLink RL 113 yX4_disk, Cond.instanceMethod yX4_disk, Cond.selects RX4 yX4_disk yX4_disk, Cond.initialized yX4_disk.cls, zg_cw zm_X4_disk yX4_disk].all (fun x => decide (x ∈ lw_tbl) && goodWord x) = true := by decide +kernel
theorem wd_L_114 : [Cond.methodLink RL 114 yL_place, Cond.static yL_place, Cond.initialized yL_place.cls, zg_cw zm_L_place yL_place].all (fun x => decide (x ∈ lw_tbl) && goodWord x) = true := by decide +kernel
theorem wd_L_116 : [Cond.methodLink RL 116 yX4_place, Cond.instanceMethod yX4_place, Cond.selects RX4 yX4_place yX4_place, Cond.initialized yX4_place.cls, zg_cw zm_X4_place yX4_place].all (fun x => decide (x ∈ lw_tbl) && goodWord x) = true := by decide +kernel
theorem wd_L_117 : [Cond.methodLink RL 117 yL_free, Cond.static yL_free, Cond.initialized yL_free.cls, zg_cw zm_L_free yL_free].all (fun x => decide (x ∈ lw_tbl) && goodWord x) = true := by decide +kernel
theorem wd_L_119 : [Cond.methodLink RL 119 yX4_free, Cond.instanceMethod yX4_free, Cond.selects RX4 yX4_free yX4_free, Cond.initialized yX4_free.cls, zg_cw zm_X4_free yX4_free].all (fun x => decide (x ∈ lw_tbl) && goodWord x) = true := by decide +kernel
theorem wd_L_120 : [Cond.methodLink RL 120 yL_held, Cond.static yL_held, Cond.initialized yL_held.cls, zg_cw zm_L_held yL_held].all (fun x => decide (x ∈ lw_tbl) && goodWord x) = true := by decide +kernel
theorem wd_L_122 : [Cond.methodLink RL 122 yX4_held, Cond.instanceMethod yX4_held, Cond.selects RX4 yX4_held yX4_held, Cond.initialized yX4_held.cls, zg_cw zm_X4_held yX4_held].all (fun x => decide (x ∈ lw_tbl) && goodWord x) = true := by decide +kernel
theorem wd_L_123 : [Cond.methodLink RL 123 yL_total, Cond.static yL_total, Cond.initialized yL_total.cls, zg_cw zm_L_total yL_total].all (fun x => decide (x ∈ lw_tbl) && goodWord x) = true := by decide +kernel
theorem wd_L_125 : [Cond.methodLink RL 125 yX4_total, Cond.instanceMethod yX4_total, Cond.selects RX4 yX4_total yX4_total, Cond.initialized yX4_total.cls, zg_cw zm_X4_total yX4_total].all (fun x => decide (x ∈ lw_tbl) && goodWord x) = true := by decide +kernel
theorem dn_L_abort : (parseMethodDescriptor yL_abort.desc).map (fun d => d.parameters.length) = some 2 := by decide +kernel
theorem dh_L_abort : yL_abort.cls ≠ "java/lang/invoke/MethodHandle" ∧ yL_abort.cls ≠ "java/lang/invoke/VarHandle" := by decide +kernel
theorem dn_L_commit : (parseMethodDescriptor yL_commit.desc).map (fun d => d.parameters.length) = some 3 := by decide +kernel
theorem dh_L_commit : yL_commit.cls ≠ "java/lang/invoke/MethodHandle" ∧ yL_commit.cls ≠ "java/lang/invoke/VarHandle" := by decide +kernel
theorem dn_L_damage : (parseMethodDescriptor yL_damage.desc).map (fun d => d.parameters.length) = some 5 := by decide +kernel
theorem dh_L_damage : yL_damage.cls ≠ "java/lang/invoke/MethodHandle" ∧ yL_damage.cls ≠ "java/lang/invoke/VarHandle" := by decide +kernel
theorem dn_L_disk : (parseMethodDescriptor yL_disk.desc).map (fun d => d.parameters.length) = some 4 := by decide +kernel
theorem dh_L_disk : yL_disk.cls ≠ "java/lang/invoke/MethodHandle" ∧ yL_disk.cls ≠ "java/lang/invoke/VarHandle" := by decide +kernel
theorem dn_L_fill : (parseMethodDescriptor yL_fill.desc).map (fun d => d.parameters.length) = some 5 := by decide +kernel
theorem dh_L_fill : yL_fill.cls ≠ "java/lang/invoke/MethodHandle" ∧ yL_fill.cls ≠ "java/lang/invoke/VarHandle" := by decide +kernel
theorem dn_L_flush : (parseMethodDescriptor yL_flush.desc).map (fun d => d.parameters.length) = some 2 := by decide +kernel
theorem dh_L_flush : yL_flush.cls ≠ "java/lang/invoke/MethodHandle" ∧ yL_flush.cls ≠ "java/lang/invoke/VarHandle" := by decide +kernel
theorem dn_L_free : (parseMethodDescriptor yL_free.desc).map (fun d => d.parameters.length) = some 3 := by decide +kernel
theorem dh_L_free : yL_free.cls ≠ "java/lang/invoke/MethodHandle" ∧ yL_free.cls ≠ "java/lang/invoke/VarHandle" := by decide +kernel
theorem dn_L_held : (parseMethodDescriptor yL_held.desc).map (fun d => d.parameters.length) = some 4 := by decide +kernel
theorem dh_L_held : yL_held.cls ≠ "java/lang/invoke/MethodHandle" ∧ yL_held.cls ≠ "java/lang/invoke/VarHandle" := by decide +kernel
theorem dn_L_place : (parseMethodDescriptor yL_place.desc).map (fun d => d.parameters.length) = some 4 := by decide +kernel
theorem dh_L_place : yL_place.cls ≠ "java/lang/invoke/MethodHandle" ∧ yL_place.cls ≠ "java/lang/invoke/VarHandle" := by decide +kernel
theorem dn_L_read : (parseMethodDescriptor yL_read.desc).map (fun d => d.parameters.length) = some 5 := by decide +kernel
theorem dh_L_read : yL_read.cls ≠ "java/lang/invoke/MethodHandle" ∧ yL_read.cls ≠ "java/lang/invoke/VarHandle" := by decide +kernel
theorem dn_L_spill : (parseMethodDescriptor yL_spill.desc).map (fun d => d.parameters.length) = some 3 := by decide +kernel
theorem dh_L_spill : yL_spill.cls ≠ "java/lang/invoke/MethodHandle" ∧ yL_spill.cls ≠ "java/lang/invoke/VarHandle" := by decide +kernel
theorem dn_L_total : (parseMethodDescriptor yL_total.desc).map (fun d => d.parameters.length) = some 3 := by decide +kernel
theorem dh_L_total : yL_total.cls ≠ "java/lang/invoke/MethodHandle" ∧ yL_total.cls ≠ "java/lang/invoke/VarHandle" := by decide +kernel
theorem dn_L_write : (parseMethodDescriptor yL_write.desc).map (fun d => d.parameters.length) = some 5 := by decide +kernel
theorem dh_L_write : yL_write.cls ≠ "java/lang/invoke/MethodHandle" ∧ yL_write.cls ≠ "java/lang/invoke/VarHandle" := by decide +kernel
theorem dn_X3_abort : (parseMethodDescriptor yX3_abort.desc).map (fun d => d.parameters.length) = some 0 := by decide +kernel
theorem dh_X3_abort : yX3_abort.cls ≠ "java/lang/invoke/MethodHandle" ∧ yX3_abort.cls ≠ "java/lang/invoke/VarHandle" := by decide +kernel
theorem dn_X3_commit : (parseMethodDescriptor yX3_commit.desc).map (fun d => d.parameters.length) = some 1 := by decide +kernel
theorem dh_X3_commit : yX3_commit.cls ≠ "java/lang/invoke/MethodHandle" ∧ yX3_commit.cls ≠ "java/lang/invoke/VarHandle" := by decide +kernel
theorem dn_X3_damage : (parseMethodDescriptor yX3_damage.desc).map (fun d => d.parameters.length) = some 3 := by decide +kernel
theorem dh_X3_damage : yX3_damage.cls ≠ "java/lang/invoke/MethodHandle" ∧ yX3_damage.cls ≠ "java/lang/invoke/VarHandle" := by decide +kernel
theorem dn_X3_disk : (parseMethodDescriptor yX3_disk.desc).map (fun d => d.parameters.length) = some 2 := by decide +kernel
theorem dh_X3_disk : yX3_disk.cls ≠ "java/lang/invoke/MethodHandle" ∧ yX3_disk.cls ≠ "java/lang/invoke/VarHandle" := by decide +kernel
theorem dn_X3_fail : (parseMethodDescriptor yX3_fail.desc).map (fun d => d.parameters.length) = some 1 := by decide +kernel
theorem dh_X3_fail : yX3_fail.cls ≠ "java/lang/invoke/MethodHandle" ∧ yX3_fail.cls ≠ "java/lang/invoke/VarHandle" := by decide +kernel
theorem dn_X3_fill : (parseMethodDescriptor yX3_fill.desc).map (fun d => d.parameters.length) = some 3 := by decide +kernel
theorem dh_X3_fill : yX3_fill.cls ≠ "java/lang/invoke/MethodHandle" ∧ yX3_fill.cls ≠ "java/lang/invoke/VarHandle" := by decide +kernel
theorem dn_X3_flush : (parseMethodDescriptor yX3_flush.desc).map (fun d => d.parameters.length) = some 0 := by decide +kernel
theorem dh_X3_flush : yX3_flush.cls ≠ "java/lang/invoke/MethodHandle" ∧ yX3_flush.cls ≠ "java/lang/invoke/VarHandle" := by decide +kernel
theorem dn_X3_format : (parseMethodDescriptor yX3_format.desc).map (fun d => d.parameters.length) = some 0 := by decide +kernel
theorem dh_X3_format : yX3_format.cls ≠ "java/lang/invoke/MethodHandle" ∧ yX3_format.cls ≠ "java/lang/invoke/VarHandle" := by decide +kernel
theorem dn_X3_free : (parseMethodDescriptor yX3_free.desc).map (fun d => d.parameters.length) = some 1 := by decide +kernel
theorem dh_X3_free : yX3_free.cls ≠ "java/lang/invoke/MethodHandle" ∧ yX3_free.cls ≠ "java/lang/invoke/VarHandle" := by decide +kernel
theorem dn_X3_held : (parseMethodDescriptor yX3_held.desc).map (fun d => d.parameters.length) = some 2 := by decide +kernel
theorem dh_X3_held : yX3_held.cls ≠ "java/lang/invoke/MethodHandle" ∧ yX3_held.cls ≠ "java/lang/invoke/VarHandle" := by decide +kernel
theorem dn_X3_init : (parseMethodDescriptor yX3_init.desc).map (fun d => d.parameters.length) = some 0 := by decide +kernel
theorem dh_X3_init : yX3_init.cls ≠ "java/lang/invoke/MethodHandle" ∧ yX3_init.cls ≠ "java/lang/invoke/VarHandle" := by decide +kernel
theorem dn_X3_place : (parseMethodDescriptor yX3_place.desc).map (fun d => d.parameters.length) = some 2 := by decide +kernel
theorem dh_X3_place : yX3_place.cls ≠ "java/lang/invoke/MethodHandle" ∧ yX3_place.cls ≠ "java/lang/invoke/VarHandle" := by decide +kernel
theorem dn_X3_read : (parseMethodDescriptor yX3_read.desc).map (fun d => d.parameters.length) = some 3 := by decide +kernel
theorem dh_X3_read : yX3_read.cls ≠ "java/lang/invoke/MethodHandle" ∧ yX3_read.cls ≠ "java/lang/invoke/VarHandle" := by decide +kernel
theorem dn_X3_spill : (parseMethodDescriptor yX3_spill.desc).map (fun d => d.parameters.length) = some 1 := by decide +kernel
theorem dh_X3_spill : yX3_spill.cls ≠ "java/lang/invoke/MethodHandle" ∧ yX3_spill.cls ≠ "java/lang/invoke/VarHandle" := by decide +kernel
theorem dn_X3_total : (parseMethodDescriptor yX3_total.desc).map (fun d => d.parameters.length) = some 1 := by decide +kernel
theorem dh_X3_total : yX3_total.cls ≠ "java/lang/invoke/MethodHandle" ∧ yX3_total.cls ≠ "java/lang/invoke/VarHandle" := by decide +kernel
theorem dn_X3_write : (parseMethodDescriptor yX3_write.desc).map (fun d => d.parameters.length) = some 3 := by decide +kernel
theorem dh_X3_write : yX3_write.cls ≠ "java/lang/invoke/MethodHandle" ∧ yX3_write.cls ≠ "java/lang/invoke/VarHandle" := by decide +kernel
theorem dn_X4_abort : (parseMethodDescriptor yX4_abort.desc).map (fun d => d.parameters.length) = some 0 := by decide +kernel
theorem dh_X4_abort : yX4_abort.cls ≠ "java/lang/invoke/MethodHandle" ∧ yX4_abort.cls ≠ "java/lang/invoke/VarHandle" := by decide +kernel
theorem dn_X4_commit : (parseMethodDescriptor yX4_commit.desc).map (fun d => d.parameters.length) = some 1 := by decide +kernel
theorem dh_X4_commit : yX4_commit.cls ≠ "java/lang/invoke/MethodHandle" ∧ yX4_commit.cls ≠ "java/lang/invoke/VarHandle" := by decide +kernel
theorem dn_X4_damage : (parseMethodDescriptor yX4_damage.desc).map (fun d => d.parameters.length) = some 3 := by decide +kernel
theorem dh_X4_damage : yX4_damage.cls ≠ "java/lang/invoke/MethodHandle" ∧ yX4_damage.cls ≠ "java/lang/invoke/VarHandle" := by decide +kernel
theorem dn_X4_disk : (parseMethodDescriptor yX4_disk.desc).map (fun d => d.parameters.length) = some 2 := by decide +kernel
theorem dh_X4_disk : yX4_disk.cls ≠ "java/lang/invoke/MethodHandle" ∧ yX4_disk.cls ≠ "java/lang/invoke/VarHandle" := by decide +kernel
theorem dn_X4_fail : (parseMethodDescriptor yX4_fail.desc).map (fun d => d.parameters.length) = some 1 := by decide +kernel
theorem dh_X4_fail : yX4_fail.cls ≠ "java/lang/invoke/MethodHandle" ∧ yX4_fail.cls ≠ "java/lang/invoke/VarHandle" := by decide +kernel
theorem dn_X4_fill : (parseMethodDescriptor yX4_fill.desc).map (fun d => d.parameters.length) = some 3 := by decide +kernel
theorem dh_X4_fill : yX4_fill.cls ≠ "java/lang/invoke/MethodHandle" ∧ yX4_fill.cls ≠ "java/lang/invoke/VarHandle" := by decide +kernel
theorem dn_X4_flush : (parseMethodDescriptor yX4_flush.desc).map (fun d => d.parameters.length) = some 0 := by decide +kernel
theorem dh_X4_flush : yX4_flush.cls ≠ "java/lang/invoke/MethodHandle" ∧ yX4_flush.cls ≠ "java/lang/invoke/VarHandle" := by decide +kernel
theorem dn_X4_format : (parseMethodDescriptor yX4_format.desc).map (fun d => d.parameters.length) = some 0 := by decide +kernel
theorem dh_X4_format : yX4_format.cls ≠ "java/lang/invoke/MethodHandle" ∧ yX4_format.cls ≠ "java/lang/invoke/VarHandle" := by decide +kernel
theorem dn_X4_free : (parseMethodDescriptor yX4_free.desc).map (fun d => d.parameters.length) = some 1 := by decide +kernel
theorem dh_X4_free : yX4_free.cls ≠ "java/lang/invoke/MethodHandle" ∧ yX4_free.cls ≠ "java/lang/invoke/VarHandle" := by decide +kernel
theorem dn_X4_held : (parseMethodDescriptor yX4_held.desc).map (fun d => d.parameters.length) = some 2 := by decide +kernel
theorem dh_X4_held : yX4_held.cls ≠ "java/lang/invoke/MethodHandle" ∧ yX4_held.cls ≠ "java/lang/invoke/VarHandle" := by decide +kernel
theorem dn_X4_init : (parseMethodDescriptor yX4_init.desc).map (fun d => d.parameters.length) = some 0 := by decide +kernel
theorem dh_X4_init : yX4_init.cls ≠ "java/lang/invoke/MethodHandle" ∧ yX4_init.cls ≠ "java/lang/invoke/VarHandle" := by decide +kernel
theorem dn_X4_place : (parseMethodDescriptor yX4_place.desc).map (fun d => d.parameters.length) = some 2 := by decide +kernel
theorem dh_X4_place : yX4_place.cls ≠ "java/lang/invoke/MethodHandle" ∧ yX4_place.cls ≠ "java/lang/invoke/VarHandle" := by decide +kernel
theorem dn_X4_read : (parseMethodDescriptor yX4_read.desc).map (fun d => d.parameters.length) = some 3 := by decide +kernel
theorem dh_X4_read : yX4_read.cls ≠ "java/lang/invoke/MethodHandle" ∧ yX4_read.cls ≠ "java/lang/invoke/VarHandle" := by decide +kernel
theorem dn_X4_spill : (parseMethodDescriptor yX4_spill.desc).map (fun d => d.parameters.length) = some 1 := by decide +kernel
theorem dh_X4_spill : yX4_spill.cls ≠ "java/lang/invoke/MethodHandle" ∧ yX4_spill.cls ≠ "java/lang/invoke/VarHandle" := by decide +kernel
theorem dn_X4_thrown : (parseMethodDescriptor yX4_thrown.desc).map (fun d => d.parameters.length) = some 0 := by decide +kernel
theorem dh_X4_thrown : yX4_thrown.cls ≠ "java/lang/invoke/MethodHandle" ∧ yX4_thrown.cls ≠ "java/lang/invoke/VarHandle" := by decide +kernel
theorem dn_X4_total : (parseMethodDescriptor yX4_total.desc).map (fun d => d.parameters.length) = some 1 := by decide +kernel
theorem dh_X4_total : yX4_total.cls ≠ "java/lang/invoke/MethodHandle" ∧ yX4_total.cls ≠ "java/lang/invoke/VarHandle" := by decide +kernel
theorem dn_X4_write : (parseMethodDescriptor yX4_write.desc).map (fun d => d.parameters.length) = some 3 := by decide +kernel
theorem dh_X4_write : yX4_write.cls ≠ "java/lang/invoke/MethodHandle" ∧ yX4_write.cls ≠ "java/lang/invoke/VarHandle" := by decide +kernel
