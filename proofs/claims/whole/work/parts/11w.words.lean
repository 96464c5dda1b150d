/-! Words of calls, by program. -/
theorem wd_X0_28 : [Cond.methodLink RX0 28 yJ7_fill_53178, Cond.static yJ7_fill_53178, Cond.initialized yJ7_fill_53178.cls, zg_cw zm_J7_fill_53178 yJ7_fill_53178].all (fun x => decide (x ∈ lw_tbl) && goodWord x) = true := by decide +kernel
theorem wd_X3_16 : [Cond.instanceMethod yX1_init, Cond.initialized yX1_init.cls, zg_cw zm_X1_init yX1_init].all (fun x => decide (x ∈ lw_tbl) && goodWord x) = true := by decide +kernel
theorem wd_X3_23 : [Cond.instanceMethod yX2_init, Cond.initialized yX2_init.cls, zg_cw zm_X2_init yX2_init].all (fun x => decide (x ∈ lw_tbl) && goodWord x) = true := by decide +kernel
theorem wd_X3_33 : [Cond.instanceMethod yX0_init, Cond.initialized yX0_init.cls, zg_cw zm_X0_init yX0_init].all (fun x => decide (x ∈ lw_tbl) && goodWord x) = true := by decide +kernel
theorem wd_X3_42 : [Cond.methodLink RX3 42 yX3_formatAndMount, Cond.instanceMethod yX3_formatAndMount, Cond.selects RX3 yX3_formatAndMount yX3_formatAndMount, Cond.initialized yX3_formatAndMount.cls, zg_cw zm_X3_formatAndMount yX3_formatAndMount].all (fun x => decide (x ∈ lw_tbl) && goodWord x) = true := by decide +kernel
theorem wd_X3_45 : [Cond.methodLink RX3 45 yX3_checkPage, Cond.static yX3_checkPage, Cond.initialized yX3_checkPage.cls, zg_cw zm_X3_checkPage yX3_checkPage].all (fun x => decide (x ∈ lw_tbl) && goodWord x) = true := by decide +kernel
theorem wd_X3_49 : [Cond.methodLink RX3 49 yX3_checkIndex, Cond.static yX3_checkIndex, Cond.initialized yX3_checkIndex.cls, zg_cw zm_X3_checkIndex yX3_checkIndex].all (fun x => decide (x ∈ lw_tbl) && goodWord x) = true := by decide +kernel
theorem wd_X3_52 : [Cond.methodLink RX3 52 yX3_checkByte, Cond.static yX3_checkByte, Cond.initialized yX3_checkByte.cls, zg_cw zm_X3_checkByte yX3_checkByte].all (fun x => decide (x ∈ lw_tbl) && goodWord x) = true := by decide +kernel
theorem wd_X3_55 : [Cond.methodLink RX3 55 yX3_checkMounted, Cond.instanceMethod yX3_checkMounted, Cond.selects RX3 yX3_checkMounted yX3_checkMounted, Cond.initialized yX3_checkMounted.cls, zg_cw zm_X3_checkMounted yX3_checkMounted].all (fun x => decide (x ∈ lw_tbl) && goodWord x) = true := by decide +kernel
theorem wd_X3_58 : [Cond.methodLink RX3 58 yX3_changePage, Cond.instanceMethod yX3_changePage, Cond.selects RX3 yX3_changePage yX3_changePage, Cond.initialized yX3_changePage.cls, zg_cw zm_X3_changePage yX3_changePage].all (fun x => decide (x ∈ lw_tbl) && goodWord x) = true := by decide +kernel
theorem wd_X3_68 : [Cond.methodLink RX3 68 yX0_has, Cond.instanceMethod yX0_has, Cond.selects RX0 yX0_has yX0_has, Cond.initialized yX0_has.cls, zg_cw zm_X0_has yX0_has].all (fun x => decide (x ∈ lw_tbl) && goodWord x) = true := by decide +kernel
theorem wd_X3_94 : [Cond.methodLink RX3 94 yX3_holdBackPage, Cond.instanceMethod yX3_holdBackPage, Cond.selects RX3 yX3_holdBackPage yX3_holdBackPage, Cond.initialized yX3_holdBackPage.cls, zg_cw zm_X3_holdBackPage yX3_holdBackPage].all (fun x => decide (x ∈ lw_tbl) && goodWord x) = true := by decide +kernel
theorem wd_X3_97 : [Cond.methodLink RX3 97 yX3_checkOpen, Cond.instanceMethod yX3_checkOpen, Cond.selects RX3 yX3_checkOpen yX3_checkOpen, Cond.initialized yX3_checkOpen.cls, zg_cw zm_X3_checkOpen yX3_checkOpen].all (fun x => decide (x ∈ lw_tbl) && goodWord x) = true := by decide +kernel
theorem wd_X3_100 : [Cond.methodLink RX3 100 yX3_leastFree, Cond.instanceMethod yX3_leastFree, Cond.selects RX3 yX3_leastFree yX3_leastFree, Cond.initialized yX3_leastFree.cls, zg_cw zm_X3_leastFree yX3_leastFree].all (fun x => decide (x ∈ lw_tbl) && goodWord x) = true := by decide +kernel
theorem wd_X3_106 : [Cond.methodLink RX3 106 yX3_holdBackUnspilledPages, Cond.instanceMethod yX3_holdBackUnspilledPages, Cond.selects RX3 yX3_holdBackUnspilledPages yX3_holdBackUnspilledPages, Cond.initialized yX3_holdBackUnspilledPages.cls, zg_cw zm_X3_holdBackUnspilledPages yX3_holdBackUnspilledPages].all (fun x => decide (x ∈ lw_tbl) && goodWord x) = true := by decide +kernel
theorem wd_X3_109 : [Cond.methodLink RX3 109 yX3_holdBackTable, Cond.instanceMethod yX3_holdBackTable, Cond.selects RX3 yX3_holdBackTable yX3_holdBackTable, Cond.initialized yX3_holdBackTable.cls, zg_cw zm_X3_holdBackTable yX3_holdBackTable].all (fun x => decide (x ∈ lw_tbl) && goodWord x) = true := by decide +kernel
theorem wd_X3_112 : [Cond.methodLink RX3 112 yX3_carryOutAll, Cond.instanceMethod yX3_carryOutAll, Cond.selects RX3 yX3_carryOutAll yX3_carryOutAll, Cond.initialized yX3_carryOutAll.cls, zg_cw zm_X3_carryOutAll yX3_carryOutAll].all (fun x => decide (x ∈ lw_tbl) && goodWord x) = true := by decide +kernel
theorem wd_X3_115 : [Cond.methodLink RX3 115 yX3_turnOver, Cond.instanceMethod yX3_turnOver, Cond.selects RX3 yX3_turnOver yX3_turnOver, Cond.initialized yX3_turnOver.cls, zg_cw zm_X3_turnOver yX3_turnOver].all (fun x => decide (x ∈ lw_tbl) && goodWord x) = true := by decide +kernel
theorem wd_X3_121 : [Cond.methodLink RX3 121 yX0_close, Cond.instanceMethod yX0_close, Cond.selects RX0 yX0_close yX0_close, Cond.initialized yX0_close.cls, zg_cw zm_X0_close yX0_close].all (fun x => decide (x ∈ lw_tbl) && goodWord x) = true := by decide +kernel
theorem wd_X3_124 : [Cond.methodLink RX3 124 yX1_carryOut, Cond.instanceMethod yX1_carryOut, Cond.selects RX1 yX1_carryOut yX1_carryOut, Cond.initialized yX1_carryOut.cls, zg_cw zm_X1_carryOut yX1_carryOut].all (fun x => decide (x ∈ lw_tbl) && goodWord x) = true := by decide +kernel
theorem wd_X3_128 : [Cond.methodLink RX3 128 yX3_mount, Cond.instanceMethod yX3_mount, Cond.selects RX3 yX3_mount yX3_mount, Cond.initialized yX3_mount.cls, zg_cw zm_X3_mount yX3_mount].all (fun x => decide (x ∈ lw_tbl) && goodWord x) = true := by decide +kernel
theorem wd_X3_135 : [Cond.methodLink RX3 135 yX3_checkSector, Cond.static yX3_checkSector, Cond.initialized yX3_checkSector.cls, zg_cw zm_X3_checkSector yX3_checkSector].all (fun x => decide (x ∈ lw_tbl) && goodWord x) = true := by decide +kernel
theorem wd_X3_140 : [Cond.methodLink RX3 140 yX3_openPlace, Cond.instanceMethod yX3_openPlace, Cond.selects RX3 yX3_openPlace yX3_openPlace, Cond.initialized yX3_openPlace.cls, zg_cw zm_X3_openPlace yX3_openPlace].all (fun x => decide (x ∈ lw_tbl) && goodWord x) = true := by decide +kernel
theorem wd_X3_144 : [Cond.methodLink RX3 144 yX3_freeSet, Cond.instanceMethod yX3_freeSet, Cond.selects RX3 yX3_freeSet yX3_freeSet, Cond.initialized yX3_freeSet.cls, zg_cw zm_X3_freeSet yX3_freeSet].all (fun x => decide (x ∈ lw_tbl) && goodWord x) = true := by decide +kernel
theorem wd_X3_148 : [Cond.methodLink RX3 148 yX3_holds, Cond.static yX3_holds, Cond.initialized yX3_holds.cls, zg_cw zm_X3_holds yX3_holds].all (fun x => decide (x ∈ lw_tbl) && goodWord x) = true := by decide +kernel
theorem wd_X3_160 : [Cond.methodLink RX3 160 yX3_mountedTotal, Cond.instanceMethod yX3_mountedTotal, Cond.selects RX3 yX3_mountedTotal yX3_mountedTotal, Cond.initialized yX3_mountedTotal.cls, zg_cw zm_X3_mountedTotal yX3_mountedTotal].all (fun x => decide (x ∈ lw_tbl) && goodWord x) = true := by decide +kernel
theorem wd_X3_163 : [Cond.methodLink RX3 163 yX0_isOpen, Cond.instanceMethod yX0_isOpen, Cond.selects RX0 yX0_isOpen yX0_isOpen, Cond.initialized yX0_isOpen.cls, zg_cw zm_X0_isOpen yX0_isOpen].all (fun x => decide (x ∈ lw_tbl) && goodWord x) = true := by decide +kernel
theorem wd_X3_167 : [Cond.methodLink RX3 167 yJ13_bitCount_95d88, Cond.static yJ13_bitCount_95d88, Cond.initialized yJ13_bitCount_95d88.cls, zg_cw zm_J13_bitCount_95d88 yJ13_bitCount_95d88].all (fun x => decide (x ∈ lw_tbl) && goodWord x) = true := by decide +kernel
theorem wd_X3_188 : [Cond.methodLink RX3 188 yJ7_fill_53178, Cond.static yJ7_fill_53178, Cond.initialized yJ7_fill_53178.cls, zg_cw zm_J7_fill_53178 yJ7_fill_53178].all (fun x => decide (x ∈ lw_tbl) && goodWord x) = true := by decide +kernel
theorem wd_X3_194 : [Cond.methodLink RX3 194 yX3_putMaster, Cond.static yX3_putMaster, Cond.initialized yX3_putMaster.cls, zg_cw zm_X3_putMaster yX3_putMaster].all (fun x => decide (x ∈ lw_tbl) && goodWord x) = true := by decide +kernel
theorem wd_X3_198 : [Cond.methodLink RX3 198 yX3_masterIsRight, Cond.instanceMethod yX3_masterIsRight, Cond.selects RX3 yX3_masterIsRight yX3_masterIsRight, Cond.initialized yX3_masterIsRight.cls, zg_cw zm_X3_masterIsRight yX3_masterIsRight].all (fun x => decide (x ∈ lw_tbl) && goodWord x) = true := by decide +kernel
theorem wd_X3_201 : [Cond.methodLink RX3 201 yX3_tableIsRight, Cond.instanceMethod yX3_tableIsRight, Cond.selects RX3 yX3_tableIsRight yX3_tableIsRight, Cond.initialized yX3_tableIsRight.cls, zg_cw zm_X3_tableIsRight yX3_tableIsRight].all (fun x => decide (x ∈ lw_tbl) && goodWord x) = true := by decide +kernel
theorem wd_X3_210 : [Cond.methodLink RX3 210 yX2_become, Cond.instanceMethod yX2_become, Cond.selects RX2 yX2_become yX2_become, Cond.initialized yX2_become.cls, zg_cw zm_X2_become yX2_become].all (fun x => decide (x ∈ lw_tbl) && goodWord x) = true := by decide +kernel
theorem wd_X3_214 : [Cond.methodLink RX3 214 yX3_checkOf, Cond.static yX3_checkOf, Cond.initialized yX3_checkOf.cls, zg_cw zm_X3_checkOf yX3_checkOf].all (fun x => decide (x ∈ lw_tbl) && goodWord x) = true := by decide +kernel
theorem wd_X3_219 : [Cond.methodLink RX3 219 yX2_usedSet, Cond.instanceMethod yX2_usedSet, Cond.selects RX2 yX2_usedSet yX2_usedSet, Cond.initialized yX2_usedSet.cls, zg_cw zm_X2_usedSet yX2_usedSet].all (fun x => decide (x ∈ lw_tbl) && goodWord x) = true := by decide +kernel
theorem wd_X3_231 : [Cond.methodLink RX3 231 yX3_copyLatestPage, Cond.instanceMethod yX3_copyLatestPage, Cond.selects RX3 yX3_copyLatestPage yX3_copyLatestPage, Cond.initialized yX3_copyLatestPage.cls, zg_cw zm_X3_copyLatestPage yX3_copyLatestPage].all (fun x => decide (x ∈ lw_tbl) && goodWord x) = true := by decide +kernel
theorem wd_X3_235 : [Cond.methodLink RX3 235 yX0_add, Cond.instanceMethod yX0_add, Cond.selects RX0 yX0_add yX0_add, Cond.initialized yX0_add.cls, zg_cw zm_X0_add yX0_add].all (fun x => decide (x ∈ lw_tbl) && goodWord x) = true := by decide +kernel
theorem wd_X3_239 : [Cond.methodLink RX3 239 yX1_add, Cond.instanceMethod yX1_add, Cond.selects RX1 yX1_add yX1_add, Cond.initialized yX1_add.cls, zg_cw zm_X1_add yX1_add].all (fun x => decide (x ∈ lw_tbl) && goodWord x) = true := by decide +kernel
theorem wd_X4_35 : [Cond.methodLink RX4 35 yX4_clear, Cond.instanceMethod yX4_clear, Cond.selects RX4 yX4_clear yX4_clear, Cond.initialized yX4_clear.cls, zg_cw zm_X4_clear yX4_clear].all (fun x => decide (x ∈ lw_tbl) && goodWord x) = true := by decide +kernel
theorem wd_X4_43 : [Cond.methodLink RX4 43 yX4_checkOf, Cond.instanceMethod yX4_checkOf, Cond.selects RX4 yX4_checkOf yX4_checkOf, Cond.initialized yX4_checkOf.cls, zg_cw zm_X4_checkOf yX4_checkOf].all (fun x => decide (x ∈ lw_tbl) && goodWord x) = true := by decide +kernel
theorem wd_X4_47 : [Cond.methodLink RX4 47 yX4_master, Cond.instanceMethod yX4_master, Cond.selects RX4 yX4_master yX4_master, Cond.initialized yX4_master.cls, zg_cw zm_X4_master yX4_master].all (fun x => decide (x ∈ lw_tbl) && goodWord x) = true := by decide +kernel
theorem wd_X4_51 : [Cond.methodLink RX4 51 yX4_mount, Cond.instanceMethod yX4_mount, Cond.selects RX4 yX4_mount yX4_mount, Cond.initialized yX4_mount.cls, zg_cw zm_X4_mount yX4_mount].all (fun x => decide (x ∈ lw_tbl) && goodWord x) = true := by decide +kernel
theorem wd_X4_67 : [Cond.methodLink RX4 67 yX4_within, Cond.static yX4_within, Cond.initialized yX4_within.cls, zg_cw zm_X4_within yX4_within].all (fun x => decide (x ∈ lw_tbl) && goodWord x) = true := by decide +kernel
theorem wd_X4_77 : [Cond.methodLink RX4 77 yX4_settle, Cond.instanceMethod yX4_settle, Cond.selects RX4 yX4_settle yX4_settle, Cond.initialized yX4_settle.cls, zg_cw zm_X4_settle yX4_settle].all (fun x => decide (x ∈ lw_tbl) && goodWord x) = true := by decide +kernel
theorem wd_X4_86 : [Cond.methodLink RX4 86 yX4_isFree, Cond.instanceMethod yX4_isFree, Cond.selects RX4 yX4_isFree yX4_isFree, Cond.initialized yX4_isFree.cls, zg_cw zm_X4_isFree yX4_isFree].all (fun x => decide (x ∈ lw_tbl) && goodWord x) = true := by decide +kernel
theorem wd_X4_90 : [Cond.methodLink RX4 90 yX4_writes, Cond.instanceMethod yX4_writes, Cond.selects RX4 yX4_writes yX4_writes, Cond.initialized yX4_writes.cls, zg_cw zm_X4_writes yX4_writes].all (fun x => decide (x ∈ lw_tbl) && goodWord x) = true := by decide +kernel
theorem wd_X4_94 : [Cond.methodLink RX4 94 yX4_firstFree, Cond.instanceMethod yX4_firstFree, Cond.selects RX4 yX4_firstFree yX4_firstFree, Cond.initialized yX4_firstFree.cls, zg_cw zm_X4_firstFree yX4_firstFree].all (fun x => decide (x ∈ lw_tbl) && goodWord x) = true := by decide +kernel
theorem wd_X4_98 : [Cond.methodLink RX4 98 yX4_byteAt, Cond.instanceMethod yX4_byteAt, Cond.selects RX4 yX4_byteAt yX4_byteAt, Cond.initialized yX4_byteAt.cls, zg_cw zm_X4_byteAt yX4_byteAt].all (fun x => decide (x ∈ lw_tbl) && goodWord x) = true := by decide +kernel
theorem wd_X4_102 : [Cond.methodLink RX4 102 yX4_fails, Cond.instanceMethod yX4_fails, Cond.selects RX4 yX4_fails yX4_fails, Cond.initialized yX4_fails.cls, zg_cw zm_X4_fails yX4_fails].all (fun x => decide (x ∈ lw_tbl) && goodWord x) = true := by decide +kernel
theorem wd_X4_106 : [Cond.methodLink RX4 106 yX4_changes, Cond.instanceMethod yX4_changes, Cond.selects RX4 yX4_changes yX4_changes, Cond.initialized yX4_changes.cls, zg_cw zm_X4_changes yX4_changes].all (fun x => decide (x ∈ lw_tbl) && goodWord x) = true := by decide +kernel
theorem wd_X4_111 : [Cond.methodLink RX4 111 yX4_changed, Cond.instanceMethod yX4_changed, Cond.selects RX4 yX4_changed yX4_changed, Cond.initialized yX4_changed.cls, zg_cw zm_X4_changed yX4_changed].all (fun x => decide (x ∈ lw_tbl) && goodWord x) = true := by decide +kernel
theorem wd_X4_114 : [Cond.methodLink RX4 114 yX4_hold, Cond.instanceMethod yX4_hold, Cond.selects RX4 yX4_hold yX4_hold, Cond.initialized yX4_hold.cls, zg_cw zm_X4_hold yX4_hold].all (fun x => decide (x ∈ lw_tbl) && goodWord x) = true := by decide +kernel
theorem wd_X4_118 : [Cond.methodLink RX4 118 yX4_flushed, Cond.instanceMethod yX4_flushed, Cond.selects RX4 yX4_flushed yX4_flushed, Cond.initialized yX4_flushed.cls, zg_cw zm_X4_flushed yX4_flushed].all (fun x => decide (x ∈ lw_tbl) && goodWord x) = true := by decide +kernel
theorem dn_J13_bitCount_95d88 : (parseMethodDescriptor yJ13_bitCount_95d88.desc).map (fun d => d.parameters.length) = some 1 := by decide +kernel
theorem dh_J13_bitCount_95d88 : yJ13_bitCount_95d88.cls ≠ "java/lang/invoke/MethodHandle" ∧ yJ13_bitCount_95d88.cls ≠ "java/lang/invoke/VarHandle" := by decide +kernel
theorem dn_J7_fill_53178 : (parseMethodDescriptor yJ7_fill_53178.desc).map (fun d => d.parameters.length) = some 2 := by decide +kernel
theorem dh_J7_fill_53178 : yJ7_fill_53178.cls ≠ "java/lang/invoke/MethodHandle" ∧ yJ7_fill_53178.cls ≠ "java/lang/invoke/VarHandle" := by decide +kernel
theorem dn_X0_add : (parseMethodDescriptor yX0_add.desc).map (fun d => d.parameters.length) = some 2 := by decide +kernel
theorem dh_X0_add : yX0_add.cls ≠ "java/lang/invoke/MethodHandle" ∧ yX0_add.cls ≠ "java/lang/invoke/VarHandle" := by decide +kernel
theorem dn_X0_close : (parseMethodDescriptor yX0_close.desc).map (fun d => d.parameters.length) = some 0 := by decide +kernel
theorem dh_X0_close : yX0_close.cls ≠ "java/lang/invoke/MethodHandle" ∧ yX0_close.cls ≠ "java/lang/invoke/VarHandle" := by decide +kernel
theorem dn_X0_has : (parseMethodDescriptor yX0_has.desc).map (fun d => d.parameters.length) = some 1 := by decide +kernel
theorem dh_X0_has : yX0_has.cls ≠ "java/lang/invoke/MethodHandle" ∧ yX0_has.cls ≠ "java/lang/invoke/VarHandle" := by decide +kernel
theorem dn_X0_init : (parseMethodDescriptor yX0_init.desc).map (fun d => d.parameters.length) = some 0 := by decide +kernel
theorem dh_X0_init : yX0_init.cls ≠ "java/lang/invoke/MethodHandle" ∧ yX0_init.cls ≠ "java/lang/invoke/VarHandle" := by decide +kernel
theorem dn_X0_isOpen : (parseMethodDescriptor yX0_isOpen.desc).map (fun d => d.parameters.length) = some 0 := by decide +kernel
theorem dh_X0_isOpen : yX0_isOpen.cls ≠ "java/lang/invoke/MethodHandle" ∧ yX0_isOpen.cls ≠ "java/lang/invoke/VarHandle" := by decide +kernel
theorem dn_X1_add : (parseMethodDescriptor yX1_add.desc).map (fun d => d.parameters.length) = some 2 := by decide +kernel
theorem dh_X1_add : yX1_add.cls ≠ "java/lang/invoke/MethodHandle" ∧ yX1_add.cls ≠ "java/lang/invoke/VarHandle" := by decide +kernel
theorem dn_X1_carryOut : (parseMethodDescriptor yX1_carryOut.desc).map (fun d => d.parameters.length) = some 2 := by decide +kernel
theorem dh_X1_carryOut : yX1_carryOut.cls ≠ "java/lang/invoke/MethodHandle" ∧ yX1_carryOut.cls ≠ "java/lang/invoke/VarHandle" := by decide +kernel
theorem dn_X1_init : (parseMethodDescriptor yX1_init.desc).map (fun d => d.parameters.length) = some 0 := by decide +kernel
theorem dh_X1_init : yX1_init.cls ≠ "java/lang/invoke/MethodHandle" ∧ yX1_init.cls ≠ "java/lang/invoke/VarHandle" := by decide +kernel
theorem dn_X2_become : (parseMethodDescriptor yX2_become.desc).map (fun d => d.parameters.length) = some 1 := by decide +kernel
theorem dh_X2_become : yX2_become.cls ≠ "java/lang/invoke/MethodHandle" ∧ yX2_become.cls ≠ "java/lang/invoke/VarHandle" := by decide +kernel
theorem dn_X2_init : (parseMethodDescriptor yX2_init.desc).map (fun d => d.parameters.length) = some 0 := by decide +kernel
theorem dh_X2_init : yX2_init.cls ≠ "java/lang/invoke/MethodHandle" ∧ yX2_init.cls ≠ "java/lang/invoke/VarHandle" := by decide +kernel
theorem dn_X2_usedSet : (parseMethodDescriptor yX2_usedSet.desc).map (fun d => d.parameters.length) = some 0 := by decide +kernel
theorem dh_X2_usedSet : yX2_usedSet.cls ≠ "java/lang/invoke/MethodHandle" ∧ yX2_usedSet.cls ≠ "java/lang/invoke/VarHandle" := by decide +kernel
theorem dn_X3_carryOutAll : (parseMethodDescriptor yX3_carryOutAll.desc).map (fun d => d.parameters.length) = some 0 := by decide +kernel
theorem dh_X3_carryOutAll : yX3_carryOutAll.cls ≠ "java/lang/invoke/MethodHandle" ∧ yX3_carryOutAll.cls ≠ "java/lang/invoke/VarHandle" := by decide +kernel
theorem dn_X3_changePage : (parseMethodDescriptor yX3_changePage.desc).map (fun d => d.parameters.length) = some 1 := by decide +kernel
theorem dh_X3_changePage : yX3_changePage.cls ≠ "java/lang/invoke/MethodHandle" ∧ yX3_changePage.cls ≠ "java/lang/invoke/VarHandle" := by decide +kernel
theorem dn_X3_checkByte : (parseMethodDescriptor yX3_checkByte.desc).map (fun d => d.parameters.length) = some 1 := by decide +kernel
theorem dh_X3_checkByte : yX3_checkByte.cls ≠ "java/lang/invoke/MethodHandle" ∧ yX3_checkByte.cls ≠ "java/lang/invoke/VarHandle" := by decide +kernel
theorem dn_X3_checkIndex : (parseMethodDescriptor yX3_checkIndex.desc).map (fun d => d.parameters.length) = some 1 := by decide +kernel
theorem dh_X3_checkIndex : yX3_checkIndex.cls ≠ "java/lang/invoke/MethodHandle" ∧ yX3_checkIndex.cls ≠ "java/lang/invoke/VarHandle" := by decide +kernel
theorem dn_X3_checkMounted : (parseMethodDescriptor yX3_checkMounted.desc).map (fun d => d.parameters.length) = some 0 := by decide +kernel
theorem dh_X3_checkMounted : yX3_checkMounted.cls ≠ "java/lang/invoke/MethodHandle" ∧ yX3_checkMounted.cls ≠ "java/lang/invoke/VarHandle" := by decide +kernel
theorem dn_X3_checkOf : (parseMethodDescriptor yX3_checkOf.desc).map (fun d => d.parameters.length) = some 1 := by decide +kernel
theorem dh_X3_checkOf : yX3_checkOf.cls ≠ "java/lang/invoke/MethodHandle" ∧ yX3_checkOf.cls ≠ "java/lang/invoke/VarHandle" := by decide +kernel
theorem dn_X3_checkOpen : (parseMethodDescriptor yX3_checkOpen.desc).map (fun d => d.parameters.length) = some 0 := by decide +kernel
theorem dh_X3_checkOpen : yX3_checkOpen.cls ≠ "java/lang/invoke/MethodHandle" ∧ yX3_checkOpen.cls ≠ "java/lang/invoke/VarHandle" := by decide +kernel
theorem dn_X3_checkPage : (parseMethodDescriptor yX3_checkPage.desc).map (fun d => d.parameters.length) = some 1 := by decide +kernel
theorem dh_X3_checkPage : yX3_checkPage.cls ≠ "java/lang/invoke/MethodHandle" ∧ yX3_checkPage.cls ≠ "java/lang/invoke/VarHandle" := by decide +kernel
theorem dn_X3_checkSector : (parseMethodDescriptor yX3_checkSector.desc).map (fun d => d.parameters.length) = some 1 := by decide +kernel
theorem dh_X3_checkSector : yX3_checkSector.cls ≠ "java/lang/invoke/MethodHandle" ∧ yX3_checkSector.cls ≠ "java/lang/invoke/VarHandle" := by decide +kernel
theorem dn_X3_copyLatestPage : (parseMethodDescriptor yX3_copyLatestPage.desc).map (fun d => d.parameters.length) = some 2 := by decide +kernel
theorem dh_X3_copyLatestPage : yX3_copyLatestPage.cls ≠ "java/lang/invoke/MethodHandle" ∧ yX3_copyLatestPage.cls ≠ "java/lang/invoke/VarHandle" := by decide +kernel
theorem dn_X3_formatAndMount : (parseMethodDescriptor yX3_formatAndMount.desc).map (fun d => d.parameters.length) = some 0 := by decide +kernel
theorem dh_X3_formatAndMount : yX3_formatAndMount.cls ≠ "java/lang/invoke/MethodHandle" ∧ yX3_formatAndMount.cls ≠ "java/lang/invoke/VarHandle" := by decide +kernel
theorem dn_X3_freeSet : (parseMethodDescriptor yX3_freeSet.desc).map (fun d => d.parameters.length) = some 0 := by decide +kernel
theorem dh_X3_freeSet : yX3_freeSet.cls ≠ "java/lang/invoke/MethodHandle" ∧ yX3_freeSet.cls ≠ "java/lang/invoke/VarHandle" := by decide +kernel
theorem dn_X3_holdBackPage : (parseMethodDescriptor yX3_holdBackPage.desc).map (fun d => d.parameters.length) = some 1 := by decide +kernel
theorem dh_X3_holdBackPage : yX3_holdBackPage.cls ≠ "java/lang/invoke/MethodHandle" ∧ yX3_holdBackPage.cls ≠ "java/lang/invoke/VarHandle" := by decide +kernel
theorem dn_X3_holdBackTable : (parseMethodDescriptor yX3_holdBackTable.desc).map (fun d => d.parameters.length) = some 1 := by decide +kernel
theorem dh_X3_holdBackTable : yX3_holdBackTable.cls ≠ "java/lang/invoke/MethodHandle" ∧ yX3_holdBackTable.cls ≠ "java/lang/invoke/VarHandle" := by decide +kernel
theorem dn_X3_holdBackUnspilledPages : (parseMethodDescriptor yX3_holdBackUnspilledPages.desc).map (fun d => d.parameters.length) = some 0 := by decide +kernel
theorem dh_X3_holdBackUnspilledPages : yX3_holdBackUnspilledPages.cls ≠ "java/lang/invoke/MethodHandle" ∧ yX3_holdBackUnspilledPages.cls ≠ "java/lang/invoke/VarHandle" := by decide +kernel
theorem dn_X3_holds : (parseMethodDescriptor yX3_holds.desc).map (fun d => d.parameters.length) = some 2 := by decide +kernel
theorem dh_X3_holds : yX3_holds.cls ≠ "java/lang/invoke/MethodHandle" ∧ yX3_holds.cls ≠ "java/lang/invoke/VarHandle" := by decide +kernel
theorem dn_X3_leastFree : (parseMethodDescriptor yX3_leastFree.desc).map (fun d => d.parameters.length) = some 0 := by decide +kernel
theorem dh_X3_leastFree : yX3_leastFree.cls ≠ "java/lang/invoke/MethodHandle" ∧ yX3_leastFree.cls ≠ "java/lang/invoke/VarHandle" := by decide +kernel
theorem dn_X3_masterIsRight : (parseMethodDescriptor yX3_masterIsRight.desc).map (fun d => d.parameters.length) = some 0 := by decide +kernel
theorem dh_X3_masterIsRight : yX3_masterIsRight.cls ≠ "java/lang/invoke/MethodHandle" ∧ yX3_masterIsRight.cls ≠ "java/lang/invoke/VarHandle" := by decide +kernel
theorem dn_X3_mount : (parseMethodDescriptor yX3_mount.desc).map (fun d => d.parameters.length) = some 0 := by decide +kernel
theorem dh_X3_mount : yX3_mount.cls ≠ "java/lang/invoke/MethodHandle" ∧ yX3_mount.cls ≠ "java/lang/invoke/VarHandle" := by decide +kernel
theorem dn_X3_mountedTotal : (parseMethodDescriptor yX3_mountedTotal.desc).map (fun d => d.parameters.length) = some 1 := by decide +kernel
theorem dh_X3_mountedTotal : yX3_mountedTotal.cls ≠ "java/lang/invoke/MethodHandle" ∧ yX3_mountedTotal.cls ≠ "java/lang/invoke/VarHandle" := by decide +kernel
theorem dn_X3_openPlace : (parseMethodDescriptor yX3_openPlace.desc).map (fun d => d.parameters.length) = some 1 := by decide +kernel
theorem dh_X3_openPlace : yX3_openPlace.cls ≠ "java/lang/invoke/MethodHandle" ∧ yX3_openPlace.cls ≠ "java/lang/invoke/VarHandle" := by decide +kernel
theorem dn_X3_putMaster : (parseMethodDescriptor yX3_putMaster.desc).map (fun d => d.parameters.length) = some 3 := by decide +kernel
theorem dh_X3_putMaster : yX3_putMaster.cls ≠ "java/lang/invoke/MethodHandle" ∧ yX3_putMaster.cls ≠ "java/lang/invoke/VarHandle" := by decide +kernel
theorem dn_X3_tableIsRight : (parseMethodDescriptor yX3_tableIsRight.desc).map (fun d => d.parameters.length) = some 0 := by decide +kernel
theorem dh_X3_tableIsRight : yX3_tableIsRight.cls ≠ "java/lang/invoke/MethodHandle" ∧ yX3_tableIsRight.cls ≠ "java/lang/invoke/VarHandle" := by decide +kernel
theorem dn_X3_turnOver : (parseMethodDescriptor yX3_turnOver.desc).map (fun d => d.parameters.length) = some 1 := by decide +kernel
theorem dh_X3_turnOver : yX3_turnOver.cls ≠ "java/lang/invoke/MethodHandle" ∧ yX3_turnOver.cls ≠ "java/lang/invoke/VarHandle" := by decide +kernel
theorem dn_X4_byteAt : (parseMethodDescriptor yX4_byteAt.desc).map (fun d => d.parameters.length) = some 3 := by decide +kernel
theorem dh_X4_byteAt : yX4_byteAt.cls ≠ "java/lang/invoke/MethodHandle" ∧ yX4_byteAt.cls ≠ "java/lang/invoke/VarHandle" := by decide +kernel
theorem dn_X4_changed : (parseMethodDescriptor yX4_changed.desc).map (fun d => d.parameters.length) = some 0 := by decide +kernel
theorem dh_X4_changed : yX4_changed.cls ≠ "java/lang/invoke/MethodHandle" ∧ yX4_changed.cls ≠ "java/lang/invoke/VarHandle" := by decide +kernel
theorem dn_X4_changes : (parseMethodDescriptor yX4_changes.desc).map (fun d => d.parameters.length) = some 1 := by decide +kernel
theorem dh_X4_changes : yX4_changes.cls ≠ "java/lang/invoke/MethodHandle" ∧ yX4_changes.cls ≠ "java/lang/invoke/VarHandle" := by decide +kernel
theorem dn_X4_checkOf : (parseMethodDescriptor yX4_checkOf.desc).map (fun d => d.parameters.length) = some 2 := by decide +kernel
theorem dh_X4_checkOf : yX4_checkOf.cls ≠ "java/lang/invoke/MethodHandle" ∧ yX4_checkOf.cls ≠ "java/lang/invoke/VarHandle" := by decide +kernel
theorem dn_X4_clear : (parseMethodDescriptor yX4_clear.desc).map (fun d => d.parameters.length) = some 0 := by decide +kernel
theorem dh_X4_clear : yX4_clear.cls ≠ "java/lang/invoke/MethodHandle" ∧ yX4_clear.cls ≠ "java/lang/invoke/VarHandle" := by decide +kernel
theorem dn_X4_fails : (parseMethodDescriptor yX4_fails.desc).map (fun d => d.parameters.length) = some 2 := by decide +kernel
theorem dh_X4_fails : yX4_fails.cls ≠ "java/lang/invoke/MethodHandle" ∧ yX4_fails.cls ≠ "java/lang/invoke/VarHandle" := by decide +kernel
theorem dn_X4_firstFree : (parseMethodDescriptor yX4_firstFree.desc).map (fun d => d.parameters.length) = some 0 := by decide +kernel
theorem dh_X4_firstFree : yX4_firstFree.cls ≠ "java/lang/invoke/MethodHandle" ∧ yX4_firstFree.cls ≠ "java/lang/invoke/VarHandle" := by decide +kernel
theorem dn_X4_flushed : (parseMethodDescriptor yX4_flushed.desc).map (fun d => d.parameters.length) = some 0 := by decide +kernel
theorem dh_X4_flushed : yX4_flushed.cls ≠ "java/lang/invoke/MethodHandle" ∧ yX4_flushed.cls ≠ "java/lang/invoke/VarHandle" := by decide +kernel
theorem dn_X4_hold : (parseMethodDescriptor yX4_hold.desc).map (fun d => d.parameters.length) = some 3 := by decide +kernel
theorem dh_X4_hold : yX4_hold.cls ≠ "java/lang/invoke/MethodHandle" ∧ yX4_hold.cls ≠ "java/lang/invoke/VarHandle" := by decide +kernel
theorem dn_X4_isFree : (parseMethodDescriptor yX4_isFree.desc).map (fun d => d.parameters.length) = some 1 := by decide +kernel
theorem dh_X4_isFree : yX4_isFree.cls ≠ "java/lang/invoke/MethodHandle" ∧ yX4_isFree.cls ≠ "java/lang/invoke/VarHandle" := by decide +kernel
theorem dn_X4_master : (parseMethodDescriptor yX4_master.desc).map (fun d => d.parameters.length) = some 4 := by decide +kernel
theorem dh_X4_master : yX4_master.cls ≠ "java/lang/invoke/MethodHandle" ∧ yX4_master.cls ≠ "java/lang/invoke/VarHandle" := by decide +kernel
theorem dn_X4_mount : (parseMethodDescriptor yX4_mount.desc).map (fun d => d.parameters.length) = some 0 := by decide +kernel
theorem dh_X4_mount : yX4_mount.cls ≠ "java/lang/invoke/MethodHandle" ∧ yX4_mount.cls ≠ "java/lang/invoke/VarHandle" := by decide +kernel
theorem dn_X4_settle : (parseMethodDescriptor yX4_settle.desc).map (fun d => d.parameters.length) = some 0 := by decide +kernel
theorem dh_X4_settle : yX4_settle.cls ≠ "java/lang/invoke/MethodHandle" ∧ yX4_settle.cls ≠ "java/lang/invoke/VarHandle" := by decide +kernel
theorem dn_X4_within : (parseMethodDescriptor yX4_within.desc).map (fun d => d.parameters.length) = some 3 := by decide +kernel
theorem dh_X4_within : yX4_within.cls ≠ "java/lang/invoke/MethodHandle" ∧ yX4_within.cls ≠ "java/lang/invoke/VarHandle" := by decide +kernel
theorem dn_X4_writes : (parseMethodDescriptor yX4_writes.desc).map (fun d => d.parameters.length) = some 1 := by decide +kernel
theorem dh_X4_writes : yX4_writes.cls ≠ "java/lang/invoke/MethodHandle" ∧ yX4_writes.cls ≠ "java/lang/invoke/VarHandle" := by decide +kernel
