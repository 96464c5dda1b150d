/-! The law's start: what the Statement gives is what the rows stand on. -/
def R_law : String := "FlipPagesLaw"
def lw_P (b : Addr) (xs : List Int32) (args : Array Value) (s : State) : Prop := args = #[.ref b] ∧ s.IntsAt b xs ∧ xs.length ≤ 3072 ∧ (Jvm.Cond.and given_1 narrow_1).before args s = true
def lw_Q (_ : Array Value) (s : State) (o : Outcome) (t : State) : Prop := o = .returned (some (.int 1)) ∧ Framed s o t [] 601024 7293034
def lw_Z (below : List Frame) (a : Array Value) (s : State) : State → Prop := fun t => ∃ o, t.status = .running ∧ Ended t below o ∧ lw_Q a s o t
def lw_At (p : Program) (s : State) (m : MethodId) (meth : Method) (c : Code) (b L : Nat) (xs : Nat → Int32) : Prop :=
  p.tables.exec = Jvm.exec ∧ c.code = code ∧ meth.sig.returnType = ret ∧ c.maxLocals = 7 ∧ s.vm.findClass R_law = some m.cls ∧ (∀ w ∈ lw_tbl, w.before #[Value.ref b] s = true) ∧ va_X b L xs s s.heap ∧ b < s.heap.size ∧ meth.locks = false ∧ (Jvm.Cond.and given_1 narrow_1).before #[Value.ref b] s = true ∧ c.exceptionTable.toList = []
theorem zz_drop {s s' : State} {L : List Loc} {k n k' n' : Nat} (h : s.sameButNew s' L k n) (hJ : ∀ x ∈ L, s.heap.size ≤ x.base) (hk : k ≤ k') (hn : n ≤ n') : s.sameButNew s' [] k' n' := by
  obtain ⟨e1, e2, e3, e4, e5, e6⟩ := h
  refine ⟨e1, e2, by omega, e4, by omega, fun a c hc => ?_⟩
  obtain ⟨c', g1, g2, g3, g4⟩ := e6 a c hc
  refine ⟨c', g1, g2, g3, fun i _ => g4 i (fun hm => ?_)⟩
  have h1 : s.heap.size ≤ a := hJ _ hm
  have h2 := (Array.getElem?_eq_some_iff.mp hc).1
  omega
theorem law_st : ∀ q ∈ zc_tx, Cond.stringRef "FlipPages" q.1 q.2 ∈ lw_tbl ∧ Cond.exactly (.string "FlipPages" q.1) "java/lang/String" ∈ flatC (Jvm.Cond.and given_1 narrow_1) := by decide +kernel
theorem law_ok {p : Program} {s : State} {m : MethodId} {meth : Method} {c : Code} {b L : Nat} {xs : Nat → Int32} (l : Launch) (hl : l.stackTraces = false) (C0 : lw_At p s m meth c b L xs) : ∃ V : zv_V, zv_l V = l ∧ zv_s V = s ∧ zv_b V = b ∧ zv_L V = L ∧ zv_x V = xs ∧ zv_OK V := by
  obtain ⟨hx, hb, hr, hm, hown, hts, hX, hbl, hlk, hgv, -⟩ := C0
  have hg := flat_of_before _ hgv
  obtain ⟨c0, i0, k0⟩ := u_known (C := RX0) (T := TX0) (N := 4) hts (fun w hw => (zc_lay 0 _ rfl w hw).1) (hts (Cond.instantiable RX0 4) (by decide +kernel))
  obtain ⟨c1, i1, k1⟩ := u_known (C := RX1) (T := TX1) (N := 3) hts (fun w hw => (zc_lay 1 _ rfl w hw).1) (hts (Cond.instantiable RX1 3) (by decide +kernel))
  obtain ⟨c2, i2, k2⟩ := u_known (C := RX2) (T := TX2) (N := 3) hts (fun w hw => (zc_lay 2 _ rfl w hw).1) (hts (Cond.instantiable RX2 3) (by decide +kernel))
  obtain ⟨c3, i3, k3⟩ := u_known (C := RX3) (T := TX3) (N := 7) hts (fun w hw => (zc_lay 3 _ rfl w hw).1) (hts (Cond.instantiable RX3 7) (by decide +kernel))
  obtain ⟨c4, i4, k4⟩ := u_known (C := RX4) (T := TX4) (N := 17) hts (fun w hw => (zc_lay 4 _ rfl w hw).1) (hts (Cond.instantiable RX4 17) (by decide +kernel))
  obtain ⟨a0, ka0, m0, f0, g0, e0⟩ := Cond.arrayClass_spec (hts (Cond.arrayClass .int) (by decide +kernel))
  obtain ⟨a1, ka1, m1, f1, g1, e1⟩ := Cond.arrayClass_spec (hts (Cond.arrayClass .boolean) (by decide +kernel))
  obtain ⟨a2, ka2, m2, f2, g2, e2⟩ := Cond.arrayClass_spec (hts (Cond.arrayClass .long) (by decide +kernel))
  obtain ⟨m3, a3, ka3, -, g3, e3, f3⟩ := zz_overA (o := none) (first := s) (idx := []) (hts (Cond.arrayOver (.array .int)) (by decide +kernel))
  refine ⟨(l, s, b, L, xs, (fun k => if k = 0 then c0 else if k = 1 then c1 else if k = 2 then c2 else if k = 3 then c3 else c4), (fun k => if k = 0 then i0 else if k = 1 then i1 else if k = 2 then i2 else if k = 3 then i3 else i4), (fun k => if k = 0 then a0 else if k = 1 then a1 else if k = 2 then a2 else a3)), rfl, rfl, rfl, rfl, rfl, hl, hts, hX, hbl, ?_, ⟨fun n z => ⟨fun x h => (by cases h), ka0, g0, m0, e0⟩, f0⟩, ⟨fun n z => ⟨fun x h => (by cases h), ka1, g1, m1, e1⟩, f1⟩, ⟨fun n z => ⟨fun x h => (by cases h), ka2, g2, m2, e2⟩, f2⟩, ⟨fun n z => ⟨fun x h => (by cases h), ka3, g3, m3, e3⟩, f3⟩, ?_, ?_, ?_, ?_⟩
  · intro k q hq
    rcases k with _ | _ | _ | _ | _ | k
    · cases hq
      exact k0
    · cases hq
      exact k1
    · cases hq
      exact k2
    · cases hq
      exact k3
    · cases hq
      exact k4
    · have h9 : k + 5 < 5 := (List.getElem?_eq_some_iff.mp hq).1
      exact absurd h9 (by omega)
  · exact vx_Zqof (hts (Cond.laysStatic Bundle.tN "UNASSIGNED_STACK" Bundle.steD) (by decide +kernel)) (hts (Cond.initialized Bundle.tN) (by decide +kernel)) (hg (Cond.isRef (.static Bundle.tN "UNASSIGNED_STACK" Bundle.steD)) (by decide +kernel)) (fun a h h2 => absurd h (Nat.not_lt.mpr h2))
  · exact vx_Zqof (hts (Cond.laysStatic Bundle.tN "SUPPRESSED_SENTINEL" Bundle.listD) (by decide +kernel)) (hts (Cond.initialized Bundle.tN) (by decide +kernel)) (hg (Cond.isRef (.static Bundle.tN "SUPPRESSED_SENTINEL" Bundle.listD)) (by decide +kernel)) (fun a h h2 => absurd h (Nat.not_lt.mpr h2))
  · intro q hq
    obtain ⟨a, c, cell, k, h1, -⟩ := Cond.exactly_spec (hg _ (law_st q hq).2)
    exact ⟨a, vk_R.of (hts _ (law_st q hq).1) h1⟩
  · exact va_Nc.of (hg (Cond.not (.castable "java/lang/IllegalStateException" "java/lang/IllegalArgumentException")) (by decide +kernel))
set_option maxHeartbeats 4000000 in
theorem whole_start {p : Program} {e : Env} {s : State} {m : MethodId} {below : List Frame} {meth : Method} {c : Code} (l : Launch) (hl : l.stackTraces = false) {b L : Nat} {xs : Nat → Int32} (hL : L ≤ 3072) (C0 : lw_At p s m meth c b L xs) : W p l e room_1 s m #[Value.ref b] below meth c s.heap [] 0 0 (lw_Z below #[Value.ref b] s) (entryFrame m ([Value.ref b] : List Value).toArray 7) := by
  obtain ⟨V, rfl, rfl, rfl, rfl, rfl, E⟩ := law_ok l hl C0
  obtain ⟨hx, hb, hr, hm, hown, hts, hX, hbl, hlk, hgv, hex⟩ := C0
  have c1 : zc_cn = 601025 := rfl
  have c2 : zc_cs = 7293034 := rfl
  have g := law_body E hL (Q := zq_p (.inl (some (.int 1))) (fun w => w.1 ≤ 601025 ∧ w.2.1 ≤ 7293034)) (fun w h => ⟨rfl, by have := h.2.2.1; omega, by have := h.2.2.2; omega⟩)
  have hl' := lv_entry ([Value.ref (zv_b V)]) (n := 7) (Nat.le_of_ble_eq_true rfl)
  rw [lg_entry_eq]
  refine zz_mono (fun t ht => ?_) (g p e room_1 (zv_s V) m #[Value.ref (zv_b V)] below meth c (zv_s V).heap [] 0 0 _ ⟨⟨hx, hb, hr, hm, hown, hlk, hex, State.WarmedH.refl _, fun q _ => rfl, Nat.le_refl _⟩, ⟨by decide, by decide, by decide, by decide⟩, rfl, rfl, ⟨rfl, fun q _ => rfl, fun k h1 h2 => absurd h2 (Nat.not_lt.mpr h1)⟩, ⟨(fun _ h => nomatch h), rfl⟩, hl'⟩)
  obtain ⟨o, h1, h2, o', w, Lc, h3, h4, ⟨rfl, h5, h6⟩, h7, h8, h9, h10, h11⟩ := ht
  exact ⟨o, h1, h2, h3, ⟨_, h3⟩, h9, zz_drop h10 h11 (by omega) (by omega)⟩
