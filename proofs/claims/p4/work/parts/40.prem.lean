theorem lw_str {p : Program} {s : State} {m : MethodId} {meth : Method} {c : Code} {b L : Nat} {xs : Nat → Int32} (C0 : lw_At p s m meth c b L xs) : ∀ q ∈ kx_strs, ∃ sa : Nat, vk_R RX3 q.1 q.2 sa s := by
  obtain ⟨hx, hb, hr, hml, hown, hts, hX, hbl, hlocks, hgv⟩ := C0
  have h1 : ∀ q ∈ kx_strs, (Cond.stringRef RX3 q.1 q.2) ∈ lw_tbl := by decide +kernel
  have h2 : ∀ q ∈ kx_strs, (Cond.exactly (.string RX3 q.1) "java/lang/String") ∈ flatC (Jvm.Cond.and given_1 narrow_1) := by decide +kernel
  have hs := flat_of_before _ hgv
  intro q hq
  obtain ⟨sa, c9, cell, k9, g1, -⟩ := Cond.exactly_spec (hs _ (h2 q hq))
  exact ⟨sa, vk_R.of (hts _ (h1 q hq)) g1⟩
theorem lw_E {p : Program} {s : State} {m : MethodId} {meth : Method} {c : Code} {b L : Nat} {xs : Nat → Int32} (C0 : lw_At p s m meth c b L xs) : ∃ ad : Nat, kx_E ad (fun q : Nat => s.heap.size ≤ q) s s.heap := by
  have hstr := lw_str C0
  obtain ⟨hx, hb, hr, hml, hown, hts, hX, hbl, hlocks, hgv⟩ := C0
  have hs := flat_of_before _ hgv
  have hA : ∀ a : Nat, a < s.heap.size → ¬ (fun q : Nat => s.heap.size ≤ q) a := fun a h h2 => Nat.not_le.mpr h h2
  have hlen : (Term.length (.static "java/util/ArrayList" "DEFAULTCAPACITY_EMPTY_ELEMENTDATA" "[Ljava/lang/Object;")).eval #[Value.ref b] s none [] s = some (.int (Int32.ofNat 0)) := va_eqt (hs (.eq (.length (.static "java/util/ArrayList" "DEFAULTCAPACITY_EMPTY_ELEMENTDATA" "[Ljava/lang/Object;")) (.int 0)) (by decide +kernel))
  obtain ⟨ad, hev, hT⟩ := va_Tof (N := 0) (f := fun _ => .null) (A := fun q : Nat => s.heap.size ≤ q) (by decide) (hs (.arrayOf (.static "java/util/ArrayList" "DEFAULTCAPACITY_EMPTY_ELEMENTDATA" "[Ljava/lang/Object;") (.object "java/lang/Object")) (by decide +kernel)) hlen (fun j hj => absurd hj (Nat.not_lt_zero j)) hA
  have hd : ∀ y ∈ [Bundle.initS "java/lang/RuntimeException", Bundle.initS "java/lang/Exception", Bundle.initS Bundle.tN], Cond.declares y ∈ lw_tbl := by decide +kernel
  have hc : ∀ q ∈ [(kx_IOOBE, kx_IOOBE), (kx_IAE, kx_IAE), (kx_ISE, kx_ISE), ("IslandSolver$Body", "java/lang/Object"), ("IslandSolver$Row", "java/lang/Object"), ("IslandSolver$Body", "IslandSolver$Body"), ("IslandSolver$Row", "IslandSolver$Row")], Cond.castable q.1 q.2 ∈ lw_tbl := by decide +kernel
  have hn : ∀ q ∈ [(kx_IOOBE, kx_IAE), (kx_IOOBE, kx_ISE), (kx_IAE, kx_IOOBE), (kx_IAE, kx_ISE), (kx_ISE, kx_IOOBE), (kx_ISE, kx_IAE)], Cond.not (.castable q.1 q.2) ∈ flatC (Jvm.Cond.and given_1 narrow_1) := by decide +kernel
  have hw : ∀ q ∈ [(RX3, 24, yX2_init), (RX0, 11, yX2_init), (RX1, 11, yX2_init), (RX2, 19, yX3_hold), (RX1, 106, yX3_hold)], Cond.methodLinkNest q.1 q.2.1 q.2.2 RX3 ∈ lw_tbl := by decide +kernel
  have ho : ∀ C ∈ ["IslandSolver$Row", "java/lang/Object"], Cond.arrayOver (.object C) ∈ lw_tbl := by decide +kernel
  refine ⟨ad, fun y hy => kx_decl.of (hts _ (hd y hy)), fun q hq => kx_cast.of (hts _ (hc q hq)), fun q hq => va_Nc.of (hs _ (hn q hq)), fun q hq => va_Nw.of rfl (hts _ (hw q hq)), hstr, fun C hC => va_AO.of (hts _ (ho C hC)), ?_, ?_, ?_, hT, va_Mi.of (args := #[Value.ref b]) (hs (.isRef (.mirror "[Ljava/lang/Object;")) (by decide +kernel)), va_Dc.of (hts _ (by decide +kernel))⟩
  · exact vx_Zqof (hts _ (by decide +kernel)) (hts _ (by decide +kernel)) (hs _ (by decide +kernel)) hA
  · exact vx_Zqof (hts _ (by decide +kernel)) (hts _ (by decide +kernel)) (hs _ (by decide +kernel)) hA
  · exact va_Zof (hts _ (by decide +kernel)) (hts _ (by decide +kernel)) hev hA
