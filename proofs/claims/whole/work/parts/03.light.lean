/-! A light judgement over W: the machine's context is hidden; the heap is told by a world of numbered cells (0: the script; 1, 2 ..: the cells made since the law began, in their order, so their addresses are known). -/
abbrev zv_V : Type := Launch × State × Nat × Nat × (Nat → Int32) × (Nat → ClassId) × (Nat → Nat → Nat) × (Nat → ClassId)
abbrev zv_l (V : zv_V) : Launch := V.1
abbrev zv_s (V : zv_V) : State := V.2.1
abbrev zv_b (V : zv_V) : Nat := V.2.2.1
abbrev zv_L (V : zv_V) : Nat := V.2.2.2.1
abbrev zv_x (V : zv_V) : Nat → Int32 := V.2.2.2.2.1
abbrev zv_C (V : zv_V) : Nat → ClassId := V.2.2.2.2.2.1
abbrev zv_I (V : zv_V) : Nat → Nat → Nat := V.2.2.2.2.2.2.1
abbrev zv_A (V : zv_V) : Nat → ClassId := V.2.2.2.2.2.2.2
abbrev zv_S (V : zv_V) : Nat := (zv_s V).heap.size
/-- the classes whose objects are made -/
abbrev zc_cl : List vw_C := [(RX0, TX0, 4), (RX1, TX1, 3), (RX2, TX2, 3), (RX3, TX3, 7), (RX4, TX4, 17)]
/-- is field j of class c a reference? -/
def zc_rf (c j : Nat) : Bool := if c = 0 then decide (j < 3) else if c = 1 then decide (j < 2) else if c = 2 then decide (j < 1) else if c = 3 then decide (j < 6) else decide (j < 3) || (decide (9 ≤ j) && decide (j < 14))
def zc_nf (c : Nat) : Nat := if c = 0 then 4 else if c = 1 then 3 else if c = 2 then 3 else if c = 3 then 7 else 17
def zc_ex (k : Nat) : String := if k = 20 then "java/lang/IllegalArgumentException" else "java/lang/IllegalStateException"
/-- what may be made in all, the script's cell counted -/
def zc_cn : Nat := 601025
def zc_cs : Nat := 7293034
/-- the texts of the exceptions -/
def zc_tx : List (Nat × String) := [(176, "no such page"), (180, "no such byte"), (182, "not the number of a byte"), (184, "the store is broken"), (229, "no sector is free for the page"), (81, "the page has no change that could be spilled"), (91, "too many writes are held back"), (186, "no change is open"), (104, "no sector is free for the table"), (178, "no such sector"), (138, "no such table"), (152, "no such write is held back"), (158, "no such total")]
/-- a world: how many cells, how many slots, the cells' tags (class or kind of array, and how long), references, ints, longs -/
abbrev zw_W : Type := Nat × Nat × (Nat → Nat × Nat) × (Nat → Nat → Option Nat) × (Nat → Nat → Int32) × (Nat → Nat → Int64)
abbrev zw_t (w : zw_W) : Nat → Nat × Nat := w.2.2.1
abbrev zw_r (w : zw_W) : Nat → Nat → Option Nat := w.2.2.2.1
abbrev zw_i (w : zw_W) : Nat → Nat → Int32 := w.2.2.2.2.1
abbrev zw_l (w : zw_W) : Nat → Nat → Int64 := w.2.2.2.2.2
def zw_up {α : Type} (f : Nat → Nat → α) (k j : Nat) (x : α) : Nat → Nat → α := fun a c => if a = k ∧ c = j then x else f a c
def zw_ro {α : Type} (f : Nat → α) (k : Nat) (g : α) : Nat → α := fun a => if a = k then g else f a
theorem zw_up_s {α : Type} (f : Nat → Nat → α) (k j : Nat) (x : α) : zw_up f k j x k j = x := if_pos ⟨rfl, rfl⟩
theorem zw_up_n {α : Type} (f : Nat → Nat → α) {k j a c : Nat} (x : α) (h : a ≠ k ∨ c ≠ j) : zw_up f k j x a c = f a c := if_neg (fun q => h.elim (fun z => z q.1) (fun z => z q.2))
theorem zw_up_row {α : Type} (f : Nat → Nat → α) {k a : Nat} (j : Nat) (x : α) (h : a ≠ k) : zw_up f k j x a = f a := funext fun _ => zw_up_n f x (Or.inl h)
theorem zw_ro_s {α : Type} (f : Nat → α) (k : Nat) (g : α) : zw_ro f k g k = g := if_pos rfl
theorem zw_ro_n {α : Type} (f : Nat → α) {k a : Nat} (g : α) (h : a ≠ k) : zw_ro f k g a = f a := if_neg h
/-- the address of a numbered cell -/
def zv_ad (V : zv_V) (k : Nat) : Nat := if k = 0 then zv_b V else zv_S V + (k - 1)
def zv_rf (V : zv_V) : Option Nat → Value
  | none => .null
  | some k => .ref (zv_ad V k)
def zv_cv (V : zv_V) : Value → Value
  | .ref k => .ref (zv_ad V k)
  | v => v
def zv_lp (V : zv_V) (q : Nat × Value) : Nat × Value := (q.1, zv_cv V q.2)
theorem zv_cat (V : zv_V) (v : Value) : (zv_cv V v).category = v.category := by cases v <;> rfl
theorem zv_ad_1 (V : zv_V) {k : Nat} (h : 1 ≤ k) : zv_ad V k = zv_S V + (k - 1) := if_neg (by omega)
theorem zv_ad_ne (V : zv_V) {k j : Nat} (hk : 1 ≤ k) (hj : 1 ≤ j) (h : k ≠ j) : zv_ad V k ≠ zv_ad V j := by
  rw [zv_ad_1 V hk, zv_ad_1 V hj]
  omega
def zw_cell (V : zv_V) (t : Nat × Nat) (r : Nat → Option Nat) (i : Nat → Int32) (lo : Nat → Int64) (a : Nat) (H : Heap) : Prop :=
  if t.1 < 5 then t.2 = zc_nf t.1 ∧ t_OB a (zv_C V t.1) t.2 (zv_I V t.1) H (fun j => if zc_rf t.1 j = true then zv_rf V (r j) else .int (i j))
  else if t.1 = 10 then H[a]? = some (arrV (zv_A V 0) t.2 (fun j => .int (i j)))
  else if t.1 = 11 then H[a]? = some (arrV (zv_A V 1) t.2 (fun j => .int (i j)))
  else if t.1 = 12 then H[a]? = some (arrV (zv_A V 2) t.2 (fun j => .long (lo j)))
  else if t.1 = 13 then H[a]? = some (arrV (zv_A V 3) t.2 (fun j => zv_rf V (r j)))
  else True
theorem zw_cell_kept {V : zv_V} {t : Nat × Nat} {r : Nat → Option Nat} {i : Nat → Int32} {lo : Nat → Int64} {a : Nat} {H H1 : Heap} (h : zw_cell V t r i lo a H) (e : H1[a]? = H[a]?) : zw_cell V t r i lo a H1 := by
  unfold zw_cell at h ⊢
  split
  · rename_i h5
    rw [if_pos h5] at h
    exact ⟨h.1, h.2.kept e⟩
  · rename_i h5
    rw [if_neg h5] at h
    rw [e]
    exact h
def zw_P (V : zv_V) (w : zw_W) (H : Heap) : Prop := H.size + 1 = zv_S V + w.1 ∧ (∀ q, q < zv_S V → H[q]? = (zv_s V).heap[q]?) ∧ ∀ k, 1 ≤ k → k < w.1 → zw_cell V (zw_t w k) (zw_r w k) (zw_i w k) (zw_l w k) (zv_ad V k) H
/-- what the law's start gives -/
def zv_OK (V : zv_V) : Prop :=
  (zv_l V).stackTraces = false ∧ (∀ w ∈ lw_tbl, w.before #[.ref (zv_b V)] (zv_s V) = true) ∧ va_X (zv_b V) (zv_L V) (zv_x V) (zv_s V) (zv_s V).heap ∧ zv_b V < zv_S V ∧
  (∀ (k : Nat) (q : vw_C), zc_cl[k]? = some q → u_Kn (zv_s V) q.1 q.2.1 q.2.2 (zv_C V k) (zv_I V k)) ∧
  (ArrOfT (zv_s V) (zv_A V 0) .int ∧ (zv_s V).vm.findClass "[I" = some (zv_A V 0)) ∧ (ArrOfT (zv_s V) (zv_A V 1) .boolean ∧ (zv_s V).vm.findClass "[Z" = some (zv_A V 1)) ∧ (ArrOfT (zv_s V) (zv_A V 2) .long ∧ (zv_s V).vm.findClass "[J" = some (zv_A V 2)) ∧ (ArrOfT (zv_s V) (zv_A V 3) (.array .int) ∧ (zv_s V).vm.findClass "[[I" = some (zv_A V 3)) ∧
  vx_Zq Bundle.tN "UNASSIGNED_STACK" Bundle.steD (fun q => zv_S V ≤ q) (zv_s V) (zv_s V).heap ∧ vx_Zq Bundle.tN "SUPPRESSED_SENTINEL" Bundle.listD (fun q => zv_S V ≤ q) (zv_s V) (zv_s V).heap ∧
  (∀ q ∈ zc_tx, ∃ sa, vk_R "FlipPages" q.1 q.2 sa (zv_s V)) ∧ va_Nc (zc_ex 21) (zc_ex 20) (zv_s V)
/-- a method: its class, code, locals, what it returns, its handlers -/
abbrev zg_M : Type := String × ByteArray × Nat × Option FieldType × List (Nat × Nat × Nat × Nat)
/-- how a method ends: with a value, or with an exception of a kind -/
abbrev zg_O : Type := Option Value ⊕ Nat
def zg_oc (V : zv_V) (t : State) (o : Outcome) : zg_O → Prop
  | .inl v => o = .returned (v.map (zv_cv V))
  | .inr k => ∃ (kx : Nat) (ce : Cell), o = .threw (zv_ad V kx) ∧ t.heap[zv_ad V kx]? = some ce ∧ ce.vm = .none ∧ (zv_s V).vm.findClass (zc_ex k) = some ce.cls
/-- what is so when a method that began at s with n0 cells, u0 slots has ended -/
def zg_F (V : zv_V) (s : State) (n0 u0 : Nat) (Q : zg_O → zw_W → Prop) (o : Outcome) (t : State) : Prop :=
  ∃ (o' : zg_O) (w : zw_W) (L : List Loc), zg_oc V t o o' ∧ zw_P V w t.heap ∧ Q o' w ∧ n0 ≤ w.1 ∧ u0 ≤ w.2.1 ∧ s.WarmedH t.vm ∧ s.sameButNew ({ t with vm := s.vm } : State) L (w.1 - n0) (w.2.1 - u0) ∧ ∀ q ∈ L, zv_S V ≤ q.base
def zg_E (V : zv_V) (below : List Frame) (s : State) (n0 u0 : Nat) (Q : zg_O → zw_W → Prop) : State → Prop := fun t =>
  ∃ o : Outcome, t.status = .running ∧ Ended t below o ∧ zg_F V s n0 u0 Q o t
def zg_X (V : zv_V) (M : zg_M) (p : Program) (s : State) (m : MethodId) (meth : Method) (c : Code) : Prop :=
  p.tables.exec = Jvm.exec ∧ c.code = M.2.1 ∧ meth.sig.returnType = M.2.2.2.1 ∧ c.maxLocals = M.2.2.1 ∧ s.vm.findClass M.1 = some m.cls ∧ meth.locks = false ∧ c.exceptionTable.toList = tableOf M.2.2.2.2 ∧ (zv_s V).WarmedH s.vm ∧ (∀ q, q < zv_S V → s.heap[q]? = (zv_s V).heap[q]?) ∧ zv_S V ≤ s.heap.size
def zg_K (V : zv_V) (M : zg_M) (fr lc n0 u0 : Nat) (lv : List (Nat × Value)) (w : zw_W) (p : Program) (R : Room) (s : State) (m : MethodId) (meth : Method) (c : Code) (H : Heap) (locs : List Loc) (cells slots : Nat) (ls : Array Slot) : Prop :=
  zg_X V M p s m meth c ∧ (fr ≤ R.frames ∧ lc ≤ R.locals ∧ zc_cn ≤ n0 + R.cells ∧ zc_cs ≤ u0 + R.slots) ∧ n0 + cells = w.1 ∧ u0 + slots = w.2.1 ∧ zw_P V w H ∧ ((∀ q ∈ locs, zv_S V ≤ q.base) ∧ s.heap.size + 1 = zv_S V + n0) ∧ lv_has ls M.2.2.1 (lv.map (zv_lp V))
/-- at pc, with the operand stack st, the locals lv, the world w, the method ends with Q -/
def zg_G (V : zv_V) (M : zg_M) (fr lc n0 u0 : Nat) (pc : Nat) (st : List Value) (lv : List (Nat × Value)) (w : zw_W) (Q : zg_O → zw_W → Prop) : Prop :=
  ∀ (p : Program) (e : Env) (R : Room) (s : State) (m : MethodId) (args : Array Value) (below : List Frame) (meth : Method) (c : Code) (H : Heap) (locs : List Loc) (cells slots : Nat) (ls : Array Slot),
    zg_K V M fr lc n0 u0 lv w p R s m meth c H locs cells slots ls → W p (zv_l V) e R s m args below meth c H locs cells slots (zg_E V below s n0 u0 Q) (F0 m pc ls (st.map (zv_cv V)))
/-- .. with an exception of the kind k over the frame -/
def zg_T (V : zv_V) (M : zg_M) (fr lc n0 u0 : Nat) (pc : Nat) (k : Nat) (lv : List (Nat × Value)) (w : zw_W) (Q : zg_O → zw_W → Prop) : Prop :=
  ∀ (p : Program) (e : Env) (R : Room) (s : State) (m : MethodId) (args : Array Value) (below : List Frame) (meth : Method) (c : Code) (H : Heap) (locs : List Loc) (cells slots : Nat) (ls : Array Slot) (rest : List Value) (kx : Nat) (ce : Cell),
    zg_K V M fr lc n0 u0 lv w p R s m meth c H locs cells slots ls → H[zv_ad V kx]? = some ce → ce.vm = .none → s.vm.findClass (zc_ex k) = some ce.cls → vx_W p (zv_l V) e R s m args below meth c H locs cells slots (zg_E V below s n0 u0 Q) (F0 m pc ls rest) (zv_ad V kx)
/-- a local variable by its number -/
def zg_lk : List (Nat × Value) → Nat → Option Value
  | [], _ => none
  | q :: l, i => if q.1 = i then some q.2 else zg_lk l i
theorem zg_lk_in {i : Nat} {v : Value} : ∀ {l : List (Nat × Value)}, zg_lk l i = some v → (i, v) ∈ l
  | [], h => by cases h
  | q :: l, h => by
    unfold zg_lk at h
    split at h
    · rename_i e
      cases h
      rw [← e]
      exact List.mem_cons_self
    · exact List.mem_cons_of_mem _ (zg_lk_in h)
theorem zg_lk_at {V : zv_V} {ls : Array Slot} {nL i : Nat} {lv : List (Nat × Value)} {v : Value} (h : lv_has ls nL (lv.map (zv_lp V))) (hk : zg_lk lv i = some v) : ls[i]? = some (.val (zv_cv V v)) :=
  h.2.2 (i, zv_cv V v) (List.mem_map.mpr ⟨(i, v), zg_lk_in hk, rfl⟩)
def zg_s1 (lv : List (Nat × Value)) (i : Nat) (v : Value) : List (Nat × Value) := (i, v) :: lv.filter (fun q => !(q.1 == i) && !(q.1 + 1 == i && q.2.category == 2))
def zg_s2 (lv : List (Nat × Value)) (i : Nat) (v : Value) : List (Nat × Value) := (i, v) :: lv.filter (fun q => !(q.1 == i) && (!(q.1 == i + 1) && !(q.1 + 1 == i && q.2.category == 2)))
theorem zg_s1_map (V : zv_V) (lv : List (Nat × Value)) (i : Nat) (v : Value) : (i, zv_cv V v) :: (lv.map (zv_lp V)).filter (fun q => !(q.1 == i) && !(q.1 + 1 == i && q.2.category == 2)) = (zg_s1 lv i v).map (zv_lp V) := by
  unfold zg_s1
  rw [List.map_cons, List.filter_map]
  refine congrArg _ (congrArg _ (List.filter_congr fun q _ => ?_))
  show _ = _
  simp [zv_lp, zv_cat]
theorem zg_s2_map (V : zv_V) (lv : List (Nat × Value)) (i : Nat) (v : Value) : (i, zv_cv V v) :: (lv.map (zv_lp V)).filter (fun q => !(q.1 == i) && (!(q.1 == i + 1) && !(q.1 + 1 == i && q.2.category == 2))) = (zg_s2 lv i v).map (zv_lp V) := by
  unfold zg_s2
  rw [List.map_cons, List.filter_map]
  refine congrArg _ (congrArg _ (List.filter_congr fun q _ => ?_))
  show _ = _
  simp [zv_lp, zv_cat]
section ZGR
variable {V : zv_V} {M : zg_M} {fr lc n0 u0 pc : Nat} {st : List Value} {lv : List (Nat × Value)} {w : zw_W} {Q : zg_O → zw_W → Prop}
theorem zg_iconst {n : Int} {v : Int32} (hd : decode M.2.1 pc = .ok (.iconst n, 1)) (hv : Int32.ofInt n = v) (k : zg_G V M fr lc n0 u0 (pc + 1) (.int v :: st) lv w Q) : zg_G V M fr lc n0 u0 pc (st) lv w Q := fun p e R s m args below meth c H locs cells slots ls K => lv_iconst K.1.1 K.1.2.1 hd hv (k p e R s m args below meth c H locs cells slots ls K)
theorem zg_bipush {n : Int} {v : Int32} (hd : decode M.2.1 pc = .ok (.bipush n, 2)) (hv : (Int8.ofInt n).toInt32 = v) (k : zg_G V M fr lc n0 u0 (pc + 2) (.int v :: st) lv w Q) : zg_G V M fr lc n0 u0 pc (st) lv w Q := fun p e R s m args below meth c H locs cells slots ls K => lv_bipush K.1.1 K.1.2.1 hd hv (k p e R s m args below meth c H locs cells slots ls K)
theorem zg_sipush {n : Int} {v : Int32} (hd : decode M.2.1 pc = .ok (.sipush n, 3)) (hv : (Int16.ofInt n).toInt32 = v) (k : zg_G V M fr lc n0 u0 (pc + 3) (.int v :: st) lv w Q) : zg_G V M fr lc n0 u0 pc (st) lv w Q := fun p e R s m args below meth c H locs cells slots ls K => lv_sipush K.1.1 K.1.2.1 hd hv (k p e R s m args below meth c H locs cells slots ls K)
theorem zg_lconst {n : Fin 2} {v : Int64} (hd : decode M.2.1 pc = .ok (.lconst n, 1)) (hv : Int64.ofNat (n : Nat) = v) (k : zg_G V M fr lc n0 u0 (pc + 1) (.long v :: st) lv w Q) : zg_G V M fr lc n0 u0 pc (st) lv w Q := fun p e R s m args below meth c H locs cells slots ls K => lv_lconst K.1.1 K.1.2.1 hd hv (k p e R s m args below meth c H locs cells slots ls K)
theorem zg_iload_n {j : Fin 4} {x : Int32} (hd : decode M.2.1 pc = .ok (.iload_n j, 1)) (hl : zg_lk lv j = some (.int x)) (k : zg_G V M fr lc n0 u0 (pc + 1) (.int x :: st) lv w Q) : zg_G V M fr lc n0 u0 pc (st) lv w Q := fun p e R s m args below meth c H locs cells slots ls K => lv_iload_n K.1.1 K.1.2.1 hd rfl (zg_lk_at K.2.2.2.2.2.2 hl) (k p e R s m args below meth c H locs cells slots ls K)
theorem zg_iload {j : Nat} {x : Int32} (hd : decode M.2.1 pc = .ok (.iload j, 2)) (hl : zg_lk lv j = some (.int x)) (k : zg_G V M fr lc n0 u0 (pc + 2) (.int x :: st) lv w Q) : zg_G V M fr lc n0 u0 pc (st) lv w Q := fun p e R s m args below meth c H locs cells slots ls K => lv_iload K.1.1 K.1.2.1 hd (zg_lk_at K.2.2.2.2.2.2 hl) (k p e R s m args below meth c H locs cells slots ls K)
theorem zg_lload_n {j : Fin 4} {x : Int64} (hd : decode M.2.1 pc = .ok (.lload_n j, 1)) (hl : zg_lk lv j = some (.long x)) (k : zg_G V M fr lc n0 u0 (pc + 1) (.long x :: st) lv w Q) : zg_G V M fr lc n0 u0 pc (st) lv w Q := fun p e R s m args below meth c H locs cells slots ls K => lv_lload_n K.1.1 K.1.2.1 hd rfl (zg_lk_at K.2.2.2.2.2.2 hl) (k p e R s m args below meth c H locs cells slots ls K)
theorem zg_lload {j : Nat} {x : Int64} (hd : decode M.2.1 pc = .ok (.lload j, 2)) (hl : zg_lk lv j = some (.long x)) (k : zg_G V M fr lc n0 u0 (pc + 2) (.long x :: st) lv w Q) : zg_G V M fr lc n0 u0 pc (st) lv w Q := fun p e R s m args below meth c H locs cells slots ls K => lv_lload K.1.1 K.1.2.1 hd (zg_lk_at K.2.2.2.2.2.2 hl) (k p e R s m args below meth c H locs cells slots ls K)
theorem zg_aload_n {j : Fin 4} {x : Nat} (hd : decode M.2.1 pc = .ok (.aload_n j, 1)) (hl : zg_lk lv j = some (.ref x)) (k : zg_G V M fr lc n0 u0 (pc + 1) (.ref x :: st) lv w Q) : zg_G V M fr lc n0 u0 pc (st) lv w Q := fun p e R s m args below meth c H locs cells slots ls K => lv_aload_n K.1.1 K.1.2.1 hd rfl (zg_lk_at K.2.2.2.2.2.2 hl) (k p e R s m args below meth c H locs cells slots ls K)
theorem zg_aload {j : Nat} {x : Nat} (hd : decode M.2.1 pc = .ok (.aload j, 2)) (hl : zg_lk lv j = some (.ref x)) (k : zg_G V M fr lc n0 u0 (pc + 2) (.ref x :: st) lv w Q) : zg_G V M fr lc n0 u0 pc (st) lv w Q := fun p e R s m args below meth c H locs cells slots ls K => lv_aload K.1.1 K.1.2.1 hd (zg_lk_at K.2.2.2.2.2.2 hl) (k p e R s m args below meth c H locs cells slots ls K)
theorem zg_istore_n {j : Fin 4} {x : Int32} {lv' : List (Nat × Value)} (hd : decode M.2.1 pc = .ok (.istore_n j, 1)) (hn : (j : Nat) < M.2.2.1) (hl : zg_s1 lv (j : Nat) (.int x) = lv') (k : zg_G V M fr lc n0 u0 (pc + 1) st lv' w Q) : zg_G V M fr lc n0 u0 pc (.int x :: st) lv w Q := by
  subst hl
  exact fun p e R s m args below meth c H locs cells slots ls K => lv_istore_n K.1.1 K.1.2.1 hd rfl K.2.2.2.2.2.2 hn (zg_s1_map V lv _ (.int x)) (fun ls' h => k p e R s m args below meth c H locs cells slots ls' ⟨K.1, K.2.1, K.2.2.1, K.2.2.2.1, K.2.2.2.2.1, K.2.2.2.2.2.1, h⟩)
theorem zg_istore {j : Nat} {x : Int32} {lv' : List (Nat × Value)} (hd : decode M.2.1 pc = .ok (.istore j, 2)) (hn : (j : Nat) < M.2.2.1) (hl : zg_s1 lv j (.int x) = lv') (k : zg_G V M fr lc n0 u0 (pc + 2) st lv' w Q) : zg_G V M fr lc n0 u0 pc (.int x :: st) lv w Q := by
  subst hl
  exact fun p e R s m args below meth c H locs cells slots ls K => lv_istore K.1.1 K.1.2.1 hd K.2.2.2.2.2.2 hn (zg_s1_map V lv _ (.int x)) (fun ls' h => k p e R s m args below meth c H locs cells slots ls' ⟨K.1, K.2.1, K.2.2.1, K.2.2.2.1, K.2.2.2.2.1, K.2.2.2.2.2.1, h⟩)
theorem zg_lstore_n {j : Fin 4} {x : Int64} {lv' : List (Nat × Value)} (hd : decode M.2.1 pc = .ok (.lstore_n j, 1)) (hn : (j : Nat) + 1 < M.2.2.1) (hl : zg_s2 lv (j : Nat) (.long x) = lv') (k : zg_G V M fr lc n0 u0 (pc + 1) st lv' w Q) : zg_G V M fr lc n0 u0 pc (.long x :: st) lv w Q := by
  subst hl
  exact fun p e R s m args below meth c H locs cells slots ls K => lv_lstore_n K.1.1 K.1.2.1 hd rfl K.2.2.2.2.2.2 hn (zg_s2_map V lv _ (.long x)) (fun ls' h => k p e R s m args below meth c H locs cells slots ls' ⟨K.1, K.2.1, K.2.2.1, K.2.2.2.1, K.2.2.2.2.1, K.2.2.2.2.2.1, h⟩)
theorem zg_lstore {j : Nat} {x : Int64} {lv' : List (Nat × Value)} (hd : decode M.2.1 pc = .ok (.lstore j, 2)) (hn : (j : Nat) + 1 < M.2.2.1) (hl : zg_s2 lv j (.long x) = lv') (k : zg_G V M fr lc n0 u0 (pc + 2) st lv' w Q) : zg_G V M fr lc n0 u0 pc (.long x :: st) lv w Q := by
  subst hl
  exact fun p e R s m args below meth c H locs cells slots ls K => lv_lstore K.1.1 K.1.2.1 hd K.2.2.2.2.2.2 hn (zg_s2_map V lv _ (.long x)) (fun ls' h => k p e R s m args below meth c H locs cells slots ls' ⟨K.1, K.2.1, K.2.2.1, K.2.2.2.1, K.2.2.2.2.1, K.2.2.2.2.2.1, h⟩)
theorem zg_astore_n {j : Fin 4} {x : Nat} {lv' : List (Nat × Value)} (hd : decode M.2.1 pc = .ok (.astore_n j, 1)) (hn : (j : Nat) < M.2.2.1) (hl : zg_s1 lv (j : Nat) (.ref x) = lv') (k : zg_G V M fr lc n0 u0 (pc + 1) st lv' w Q) : zg_G V M fr lc n0 u0 pc (.ref x :: st) lv w Q := by
  subst hl
  exact fun p e R s m args below meth c H locs cells slots ls K => lv_astore_n K.1.1 K.1.2.1 hd rfl K.2.2.2.2.2.2 hn (zg_s1_map V lv _ (.ref x)) (fun ls' h => k p e R s m args below meth c H locs cells slots ls' ⟨K.1, K.2.1, K.2.2.1, K.2.2.2.1, K.2.2.2.2.1, K.2.2.2.2.2.1, h⟩)
theorem zg_astore {j : Nat} {x : Nat} {lv' : List (Nat × Value)} (hd : decode M.2.1 pc = .ok (.astore j, 2)) (hn : (j : Nat) < M.2.2.1) (hl : zg_s1 lv j (.ref x) = lv') (k : zg_G V M fr lc n0 u0 (pc + 2) st lv' w Q) : zg_G V M fr lc n0 u0 pc (.ref x :: st) lv w Q := by
  subst hl
  exact fun p e R s m args below meth c H locs cells slots ls K => lv_astore K.1.1 K.1.2.1 hd K.2.2.2.2.2.2 hn (zg_s1_map V lv _ (.ref x)) (fun ls' h => k p e R s m args below meth c H locs cells slots ls' ⟨K.1, K.2.1, K.2.2.1, K.2.2.2.1, K.2.2.2.2.1, K.2.2.2.2.2.1, h⟩)
theorem zg_iinc {j : Nat} {n : Int} {x v : Int32} {lv' : List (Nat × Value)} (hd : decode M.2.1 pc = .ok (.iinc j n, 3)) (hk : zg_lk lv j = some (.int x)) (hv : x + Int32.ofInt n = v) (hn : j < M.2.2.1) (hl : zg_s1 lv j (.int v) = lv') (k : zg_G V M fr lc n0 u0 (pc + 3) st lv' w Q) : zg_G V M fr lc n0 u0 pc st lv w Q := by
  subst hl
  intro p e R s m args below meth c H locs cells slots ls K
  obtain ⟨i, hi⟩ := List.getElem?_of_mem (List.mem_map.mpr ⟨(j, .int x), zg_lk_in hk, rfl⟩ : (j, Value.int x) ∈ lv.map (zv_lp V))
  exact lv_iinc K.1.1 K.1.2.1 hd K.2.2.2.2.2.2 hi hv hn (zg_s1_map V lv _ (.int v)) (fun ls' h => k p e R s m args below meth c H locs cells slots ls' ⟨K.1, K.2.1, K.2.2.1, K.2.2.2.1, K.2.2.2.2.1, K.2.2.2.2.2.1, h⟩)
theorem zg_iadd {x y : Int32} (hd : decode M.2.1 pc = .ok (.iadd, 1)) (k : zg_G V M fr lc n0 u0 (pc + 1) (.int (x + y) :: st) lv w Q) : zg_G V M fr lc n0 u0 pc (.int y :: .int x :: st) lv w Q := fun p e R s m args below meth c H locs cells slots ls K => lv_iadd K.1.1 K.1.2.1 hd (k p e R s m args below meth c H locs cells slots ls K)
theorem zg_isub {x y : Int32} (hd : decode M.2.1 pc = .ok (.isub, 1)) (k : zg_G V M fr lc n0 u0 (pc + 1) (.int (x - y) :: st) lv w Q) : zg_G V M fr lc n0 u0 pc (.int y :: .int x :: st) lv w Q := fun p e R s m args below meth c H locs cells slots ls K => lv_isub K.1.1 K.1.2.1 hd (k p e R s m args below meth c H locs cells slots ls K)
theorem zg_imul {x y : Int32} (hd : decode M.2.1 pc = .ok (.imul, 1)) (k : zg_G V M fr lc n0 u0 (pc + 1) (.int (x * y) :: st) lv w Q) : zg_G V M fr lc n0 u0 pc (.int y :: .int x :: st) lv w Q := fun p e R s m args below meth c H locs cells slots ls K => lv_imul K.1.1 K.1.2.1 hd (k p e R s m args below meth c H locs cells slots ls K)
theorem zg_iand {x y : Int32} (hd : decode M.2.1 pc = .ok (.iand, 1)) (k : zg_G V M fr lc n0 u0 (pc + 1) (.int (x &&& y) :: st) lv w Q) : zg_G V M fr lc n0 u0 pc (.int y :: .int x :: st) lv w Q := fun p e R s m args below meth c H locs cells slots ls K => lv_iand K.1.1 K.1.2.1 hd (k p e R s m args below meth c H locs cells slots ls K)
theorem zg_ior {x y : Int32} (hd : decode M.2.1 pc = .ok (.ior, 1)) (k : zg_G V M fr lc n0 u0 (pc + 1) (.int (x ||| y) :: st) lv w Q) : zg_G V M fr lc n0 u0 pc (.int y :: .int x :: st) lv w Q := fun p e R s m args below meth c H locs cells slots ls K => lv_ior K.1.1 K.1.2.1 hd (k p e R s m args below meth c H locs cells slots ls K)
theorem zg_ixor {x y : Int32} (hd : decode M.2.1 pc = .ok (.ixor, 1)) (k : zg_G V M fr lc n0 u0 (pc + 1) (.int (x ^^^ y) :: st) lv w Q) : zg_G V M fr lc n0 u0 pc (.int y :: .int x :: st) lv w Q := fun p e R s m args below meth c H locs cells slots ls K => lv_ixor K.1.1 K.1.2.1 hd (k p e R s m args below meth c H locs cells slots ls K)
theorem zg_ishl {x y : Int32} (hd : decode M.2.1 pc = .ok (.ishl, 1)) (k : zg_G V M fr lc n0 u0 (pc + 1) (.int (x <<< (y &&& 31)) :: st) lv w Q) : zg_G V M fr lc n0 u0 pc (.int y :: .int x :: st) lv w Q := fun p e R s m args below meth c H locs cells slots ls K => lv_ishl K.1.1 K.1.2.1 hd (k p e R s m args below meth c H locs cells slots ls K)
theorem zg_ishr {x y : Int32} (hd : decode M.2.1 pc = .ok (.ishr, 1)) (k : zg_G V M fr lc n0 u0 (pc + 1) (.int (x >>> (y &&& 31)) :: st) lv w Q) : zg_G V M fr lc n0 u0 pc (.int y :: .int x :: st) lv w Q := fun p e R s m args below meth c H locs cells slots ls K => lv_ishr K.1.1 K.1.2.1 hd (k p e R s m args below meth c H locs cells slots ls K)
theorem zg_irem {x y : Int32} (hd : decode M.2.1 pc = .ok (.irem, 1)) (hne : ¬ y = 0) (k : zg_G V M fr lc n0 u0 (pc + 1) (.int (x - x / y * y) :: st) lv w Q) : zg_G V M fr lc n0 u0 pc (.int y :: .int x :: st) lv w Q := fun p e R s m args below meth c H locs cells slots ls K => lv_irem K.1.1 K.1.2.1 hd hne (k p e R s m args below meth c H locs cells slots ls K)
theorem zg_iushr {x y : Int32} (hd : decode M.2.1 pc = .ok (.iushr, 1)) (k : zg_G V M fr lc n0 u0 (pc + 1) (.int ((x.toUInt32 >>> (y.toUInt32 &&& Int32.toUInt32 31)).toInt32) :: st) lv w Q) : zg_G V M fr lc n0 u0 pc (.int y :: .int x :: st) lv w Q := fun p e R s m args below meth c H locs cells slots ls K => lv_iushr K.1.1 K.1.2.1 hd rfl (k p e R s m args below meth c H locs cells slots ls K)
theorem zg_ladd {x y : Int64} (hd : decode M.2.1 pc = .ok (.ladd, 1)) (k : zg_G V M fr lc n0 u0 (pc + 1) (.long (x + y) :: st) lv w Q) : zg_G V M fr lc n0 u0 pc (.long y :: .long x :: st) lv w Q := fun p e R s m args below meth c H locs cells slots ls K => lv_ladd K.1.1 K.1.2.1 hd (k p e R s m args below meth c H locs cells slots ls K)
theorem zg_lsub {x y : Int64} (hd : decode M.2.1 pc = .ok (.lsub, 1)) (k : zg_G V M fr lc n0 u0 (pc + 1) (.long (x - y) :: st) lv w Q) : zg_G V M fr lc n0 u0 pc (.long y :: .long x :: st) lv w Q := fun p e R s m args below meth c H locs cells slots ls K => lv_lsub K.1.1 K.1.2.1 hd (k p e R s m args below meth c H locs cells slots ls K)
theorem zg_lmul {x y : Int64} (hd : decode M.2.1 pc = .ok (.lmul, 1)) (k : zg_G V M fr lc n0 u0 (pc + 1) (.long (x * y) :: st) lv w Q) : zg_G V M fr lc n0 u0 pc (.long y :: .long x :: st) lv w Q := fun p e R s m args below meth c H locs cells slots ls K => lv_lmul K.1.1 K.1.2.1 hd (k p e R s m args below meth c H locs cells slots ls K)
theorem zg_land {x y : Int64} (hd : decode M.2.1 pc = .ok (.land, 1)) (k : zg_G V M fr lc n0 u0 (pc + 1) (.long (x &&& y) :: st) lv w Q) : zg_G V M fr lc n0 u0 pc (.long y :: .long x :: st) lv w Q := fun p e R s m args below meth c H locs cells slots ls K => lv_land K.1.1 K.1.2.1 hd (k p e R s m args below meth c H locs cells slots ls K)
theorem zg_lor {x y : Int64} (hd : decode M.2.1 pc = .ok (.lor, 1)) (k : zg_G V M fr lc n0 u0 (pc + 1) (.long (x ||| y) :: st) lv w Q) : zg_G V M fr lc n0 u0 pc (.long y :: .long x :: st) lv w Q := fun p e R s m args below meth c H locs cells slots ls K => lv_lor K.1.1 K.1.2.1 hd (k p e R s m args below meth c H locs cells slots ls K)
theorem zg_lxor {x y : Int64} (hd : decode M.2.1 pc = .ok (.lxor, 1)) (k : zg_G V M fr lc n0 u0 (pc + 1) (.long (x ^^^ y) :: st) lv w Q) : zg_G V M fr lc n0 u0 pc (.long y :: .long x :: st) lv w Q := fun p e R s m args below meth c H locs cells slots ls K => lv_lxor K.1.1 K.1.2.1 hd (k p e R s m args below meth c H locs cells slots ls K)
theorem zg_lcmp {x y : Int64} (hd : decode M.2.1 pc = .ok (.lcmp, 1)) (k : zg_G V M fr lc n0 u0 (pc + 1) (.int (lg_cmp x y) :: st) lv w Q) : zg_G V M fr lc n0 u0 pc (.long y :: .long x :: st) lv w Q := fun p e R s m args below meth c H locs cells slots ls K => W.lcmp K.1.1 K.1.2.1 hd (k p e R s m args below meth c H locs cells slots ls K)
theorem zg_lushr {x : Int64} {y : Int32} (hd : decode M.2.1 pc = .ok (.lushr, 1)) (k : zg_G V M fr lc n0 u0 (pc + 1) (.long ((x.toUInt64 >>> (y.toInt64.toUInt64 &&& Int64.toUInt64 63)).toInt64) :: st) lv w Q) : zg_G V M fr lc n0 u0 pc (.int y :: .long x :: st) lv w Q := fun p e R s m args below meth c H locs cells slots ls K => lv_lushr K.1.1 K.1.2.1 hd rfl (k p e R s m args below meth c H locs cells slots ls K)
theorem zg_lshl {x : Int64} {y : Int32} (hd : decode M.2.1 pc = .ok (.lshl, 1)) (k : zg_G V M fr lc n0 u0 (pc + 1) (.long (x <<< (y.toInt64 &&& 63)) :: st) lv w Q) : zg_G V M fr lc n0 u0 pc (.int y :: .long x :: st) lv w Q := fun p e R s m args below meth c H locs cells slots ls K => lv_lshl K.1.1 K.1.2.1 hd rfl (k p e R s m args below meth c H locs cells slots ls K)
theorem zg_lshr {x : Int64} {y : Int32} (hd : decode M.2.1 pc = .ok (.lshr, 1)) (k : zg_G V M fr lc n0 u0 (pc + 1) (.long (x >>> (y.toInt64 &&& 63)) :: st) lv w Q) : zg_G V M fr lc n0 u0 pc (.int y :: .long x :: st) lv w Q := fun p e R s m args below meth c H locs cells slots ls K => lv_lshr K.1.1 K.1.2.1 hd rfl (k p e R s m args below meth c H locs cells slots ls K)
theorem zg_i2l {x : Int32} (hd : decode M.2.1 pc = .ok (.i2l, 1)) (k : zg_G V M fr lc n0 u0 (pc + 1) (.long x.toInt64 :: st) lv w Q) : zg_G V M fr lc n0 u0 pc (.int x :: st) lv w Q := fun p e R s m args below meth c H locs cells slots ls K => lv_i2l K.1.1 K.1.2.1 hd rfl (k p e R s m args below meth c H locs cells slots ls K)
theorem zg_l2i {x : Int64} (hd : decode M.2.1 pc = .ok (.l2i, 1)) (k : zg_G V M fr lc n0 u0 (pc + 1) (.int x.toInt32 :: st) lv w Q) : zg_G V M fr lc n0 u0 pc (.long x :: st) lv w Q := fun p e R s m args below meth c H locs cells slots ls K => lv_l2i K.1.1 K.1.2.1 hd rfl (k p e R s m args below meth c H locs cells slots ls K)
theorem zg_dup {v : Value} (hd : decode M.2.1 pc = .ok (.dup, 1)) (hv : v.category = 1) (k : zg_G V M fr lc n0 u0 (pc + 1) (v :: v :: st) lv w Q) : zg_G V M fr lc n0 u0 pc (v :: st) lv w Q := fun p e R s m args below meth c H locs cells slots ls K => lv_dup K.1.1 K.1.2.1 hd (by rw [zv_cat]; exact hv) (k p e R s m args below meth c H locs cells slots ls K)
theorem zg_pop {v : Value} (hd : decode M.2.1 pc = .ok (.pop, 1)) (hv : v.category = 1) (k : zg_G V M fr lc n0 u0 (pc + 1) (st) lv w Q) : zg_G V M fr lc n0 u0 pc (v :: st) lv w Q := fun p e R s m args below meth c H locs cells slots ls K => lv_pop K.1.1 K.1.2.1 hd (by rw [zv_cat]; exact hv) (k p e R s m args below meth c H locs cells slots ls K)
theorem zg_if_eq {x : Int32} {off : Int} {tgt : Nat} (hd : decode M.2.1 pc = .ok (.ifCond .eq off, 3)) (ht : (pc : Int) + off = (tgt : Int)) (kt : x = 0 → zg_G V M fr lc n0 u0 tgt st lv w Q) (kf : ¬ (x = 0) → zg_G V M fr lc n0 u0 (pc + 3) st lv w Q) : zg_G V M fr lc n0 u0 pc (.int x :: st) lv w Q := fun p e R s m args below meth c H locs cells slots ls K => lv_if_eq K.1.1 K.1.2.1 hd ht (fun h => kt h p e R s m args below meth c H locs cells slots ls K) (fun h => kf h p e R s m args below meth c H locs cells slots ls K)
theorem zg_icmp_eq {x y : Int32} {off : Int} {tgt : Nat} (hd : decode M.2.1 pc = .ok (.if_icmp .eq off, 3)) (ht : (pc : Int) + off = (tgt : Int)) (kt : x = y → zg_G V M fr lc n0 u0 tgt st lv w Q) (kf : ¬ (x = y) → zg_G V M fr lc n0 u0 (pc + 3) st lv w Q) : zg_G V M fr lc n0 u0 pc (.int y :: .int x :: st) lv w Q := fun p e R s m args below meth c H locs cells slots ls K => lv_icmp_eq K.1.1 K.1.2.1 hd ht (fun h => kt h p e R s m args below meth c H locs cells slots ls K) (fun h => kf h p e R s m args below meth c H locs cells slots ls K)
theorem zg_if_ne {x : Int32} {off : Int} {tgt : Nat} (hd : decode M.2.1 pc = .ok (.ifCond .ne off, 3)) (ht : (pc : Int) + off = (tgt : Int)) (kt : ¬ x = 0 → zg_G V M fr lc n0 u0 tgt st lv w Q) (kf : x = 0 → zg_G V M fr lc n0 u0 (pc + 3) st lv w Q) : zg_G V M fr lc n0 u0 pc (.int x :: st) lv w Q := fun p e R s m args below meth c H locs cells slots ls K => lv_if_ne K.1.1 K.1.2.1 hd ht (fun h => kt h p e R s m args below meth c H locs cells slots ls K) (fun h => kf h p e R s m args below meth c H locs cells slots ls K)
theorem zg_icmp_ne {x y : Int32} {off : Int} {tgt : Nat} (hd : decode M.2.1 pc = .ok (.if_icmp .ne off, 3)) (ht : (pc : Int) + off = (tgt : Int)) (kt : ¬ x = y → zg_G V M fr lc n0 u0 tgt st lv w Q) (kf : x = y → zg_G V M fr lc n0 u0 (pc + 3) st lv w Q) : zg_G V M fr lc n0 u0 pc (.int y :: .int x :: st) lv w Q := fun p e R s m args below meth c H locs cells slots ls K => lv_icmp_ne K.1.1 K.1.2.1 hd ht (fun h => kt h p e R s m args below meth c H locs cells slots ls K) (fun h => kf h p e R s m args below meth c H locs cells slots ls K)
theorem zg_if_lt {x : Int32} {off : Int} {tgt : Nat} (hd : decode M.2.1 pc = .ok (.ifCond .lt off, 3)) (ht : (pc : Int) + off = (tgt : Int)) (kt : x < 0 → zg_G V M fr lc n0 u0 tgt st lv w Q) (kf : ¬ (x < 0) → zg_G V M fr lc n0 u0 (pc + 3) st lv w Q) : zg_G V M fr lc n0 u0 pc (.int x :: st) lv w Q := fun p e R s m args below meth c H locs cells slots ls K => lv_if_lt K.1.1 K.1.2.1 hd ht (fun h => kt h p e R s m args below meth c H locs cells slots ls K) (fun h => kf h p e R s m args below meth c H locs cells slots ls K)
theorem zg_icmp_lt {x y : Int32} {off : Int} {tgt : Nat} (hd : decode M.2.1 pc = .ok (.if_icmp .lt off, 3)) (ht : (pc : Int) + off = (tgt : Int)) (kt : x < y → zg_G V M fr lc n0 u0 tgt st lv w Q) (kf : ¬ (x < y) → zg_G V M fr lc n0 u0 (pc + 3) st lv w Q) : zg_G V M fr lc n0 u0 pc (.int y :: .int x :: st) lv w Q := fun p e R s m args below meth c H locs cells slots ls K => lv_icmp_lt K.1.1 K.1.2.1 hd ht (fun h => kt h p e R s m args below meth c H locs cells slots ls K) (fun h => kf h p e R s m args below meth c H locs cells slots ls K)
theorem zg_if_ge {x : Int32} {off : Int} {tgt : Nat} (hd : decode M.2.1 pc = .ok (.ifCond .ge off, 3)) (ht : (pc : Int) + off = (tgt : Int)) (kt : 0 ≤ x → zg_G V M fr lc n0 u0 tgt st lv w Q) (kf : ¬ (0 ≤ x) → zg_G V M fr lc n0 u0 (pc + 3) st lv w Q) : zg_G V M fr lc n0 u0 pc (.int x :: st) lv w Q := fun p e R s m args below meth c H locs cells slots ls K => lv_if_ge K.1.1 K.1.2.1 hd ht (fun h => kt h p e R s m args below meth c H locs cells slots ls K) (fun h => kf h p e R s m args below meth c H locs cells slots ls K)
theorem zg_icmp_ge {x y : Int32} {off : Int} {tgt : Nat} (hd : decode M.2.1 pc = .ok (.if_icmp .ge off, 3)) (ht : (pc : Int) + off = (tgt : Int)) (kt : y ≤ x → zg_G V M fr lc n0 u0 tgt st lv w Q) (kf : ¬ (y ≤ x) → zg_G V M fr lc n0 u0 (pc + 3) st lv w Q) : zg_G V M fr lc n0 u0 pc (.int y :: .int x :: st) lv w Q := fun p e R s m args below meth c H locs cells slots ls K => lv_icmp_ge K.1.1 K.1.2.1 hd ht (fun h => kt h p e R s m args below meth c H locs cells slots ls K) (fun h => kf h p e R s m args below meth c H locs cells slots ls K)
theorem zg_if_gt {x : Int32} {off : Int} {tgt : Nat} (hd : decode M.2.1 pc = .ok (.ifCond .gt off, 3)) (ht : (pc : Int) + off = (tgt : Int)) (kt : 0 < x → zg_G V M fr lc n0 u0 tgt st lv w Q) (kf : ¬ (0 < x) → zg_G V M fr lc n0 u0 (pc + 3) st lv w Q) : zg_G V M fr lc n0 u0 pc (.int x :: st) lv w Q := fun p e R s m args below meth c H locs cells slots ls K => lv_if_gt K.1.1 K.1.2.1 hd ht (fun h => kt h p e R s m args below meth c H locs cells slots ls K) (fun h => kf h p e R s m args below meth c H locs cells slots ls K)
theorem zg_icmp_gt {x y : Int32} {off : Int} {tgt : Nat} (hd : decode M.2.1 pc = .ok (.if_icmp .gt off, 3)) (ht : (pc : Int) + off = (tgt : Int)) (kt : y < x → zg_G V M fr lc n0 u0 tgt st lv w Q) (kf : ¬ (y < x) → zg_G V M fr lc n0 u0 (pc + 3) st lv w Q) : zg_G V M fr lc n0 u0 pc (.int y :: .int x :: st) lv w Q := fun p e R s m args below meth c H locs cells slots ls K => lv_icmp_gt K.1.1 K.1.2.1 hd ht (fun h => kt h p e R s m args below meth c H locs cells slots ls K) (fun h => kf h p e R s m args below meth c H locs cells slots ls K)
theorem zg_if_le {x : Int32} {off : Int} {tgt : Nat} (hd : decode M.2.1 pc = .ok (.ifCond .le off, 3)) (ht : (pc : Int) + off = (tgt : Int)) (kt : x ≤ 0 → zg_G V M fr lc n0 u0 tgt st lv w Q) (kf : ¬ (x ≤ 0) → zg_G V M fr lc n0 u0 (pc + 3) st lv w Q) : zg_G V M fr lc n0 u0 pc (.int x :: st) lv w Q := fun p e R s m args below meth c H locs cells slots ls K => lv_if_le K.1.1 K.1.2.1 hd ht (fun h => kt h p e R s m args below meth c H locs cells slots ls K) (fun h => kf h p e R s m args below meth c H locs cells slots ls K)
theorem zg_icmp_le {x y : Int32} {off : Int} {tgt : Nat} (hd : decode M.2.1 pc = .ok (.if_icmp .le off, 3)) (ht : (pc : Int) + off = (tgt : Int)) (kt : x ≤ y → zg_G V M fr lc n0 u0 tgt st lv w Q) (kf : ¬ (x ≤ y) → zg_G V M fr lc n0 u0 (pc + 3) st lv w Q) : zg_G V M fr lc n0 u0 pc (.int y :: .int x :: st) lv w Q := fun p e R s m args below meth c H locs cells slots ls K => lv_icmp_le K.1.1 K.1.2.1 hd ht (fun h => kt h p e R s m args below meth c H locs cells slots ls K) (fun h => kf h p e R s m args below meth c H locs cells slots ls K)
theorem zg_goto {off : Int} {tgt : Nat} (hd : decode M.2.1 pc = .ok (.goto off, 3)) (ht : (pc : Int) + off = (tgt : Int)) (k : zg_G V M fr lc n0 u0 tgt st lv w Q) : zg_G V M fr lc n0 u0 pc st lv w Q := fun p e R s m args below meth c H locs cells slots ls K => lv_goto K.1.1 K.1.2.1 hd ht (k p e R s m args below meth c H locs cells slots ls K)
theorem zg_tabIn {dflt lo hi : Int} {offs : Array Int} {len : Nat} {x : Int32} {off : Int} {tgt : Nat} (hd : decode M.2.1 pc = .ok (.tableswitch dflt lo hi offs, len)) (h1 : ¬ x.toInt < lo) (h2 : ¬ hi < x.toInt) (ho : offs[(x.toInt - lo).toNat]? = some off) (ht : (pc : Int) + off = (tgt : Int)) (k : zg_G V M fr lc n0 u0 tgt st lv w Q) : zg_G V M fr lc n0 u0 pc (.int x :: st) lv w Q := fun p e R s m args below meth c H locs cells slots ls K => lv_tableIn K.1.1 K.1.2.1 hd h1 h2 ho ht (k p e R s m args below meth c H locs cells slots ls K)
theorem zg_tabOut {dflt lo hi : Int} {offs : Array Int} {len : Nat} {x : Int32} {tgt : Nat} (hd : decode M.2.1 pc = .ok (.tableswitch dflt lo hi offs, len)) (h : x.toInt < lo ∨ hi < x.toInt) (ht : (pc : Int) + dflt = (tgt : Int)) (k : zg_G V M fr lc n0 u0 tgt st lv w Q) : zg_G V M fr lc n0 u0 pc (.int x :: st) lv w Q := fun p e R s m args below meth c H locs cells slots ls K => lv_tableOut K.1.1 K.1.2.1 hd h ht (k p e R s m args below meth c H locs cells slots ls K)
end ZGR
