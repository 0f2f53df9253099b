def kx_IOOBE : String := "java/lang/IndexOutOfBoundsException"
def kx_IAE : String := "java/lang/IllegalArgumentException"
def kx_ISE : String := "java/lang/IllegalStateException"
def kx_strs : List (Nat × String) := [(80, "inverse mass or inertia is not 0 .. 16"), (91, "there are 256 bodies"), (109, "xy, yz or zx is not -4 .. 4"), (128, "velocity or spin is not -1024 .. 1024"), (146, "there are no such bodies"), (150, "x, y or z is not -64 .. 64"), (172, "the pad has no such vector"), (181, "target, softness or limits are out of range"), (208, "target or friction is out of range"), (224, "the row rubs itself or is of other bodies"), (235, "a setting is out of range"), (237, "n is not 1 .. 8"), (239, "n is not 1 .. 20"), (268, "what is not 0 .. 12"), (279, "what is not 0 .. 3"), (294, "what is not 0 .. 2"), (302, "what is not 0 .. 6"), (307, "there is no such body"), (309, "there is no such row"), (311, "there are no such two bodies"), (313, "there are 1024 rows")]
def kx_cast (a b : String) (U : State) : Prop := ∃ x y : ClassId, U.vm.findClass a = some x ∧ U.vm.findClass b = some y ∧ U.vm.assignable x y = true
theorem kx_cast.moved {a b : String} {u U : State} (hvm : u.vm.Alike U.vm) (h : kx_cast a b u) : kx_cast a b U := by
  obtain ⟨x, y, h1, h2, h3⟩ := h
  exact ⟨x, y, by rw [hvm.findClass]; exact h1, by rw [hvm.findClass]; exact h2, by rw [hvm.assignable]; exact h3⟩
theorem kx_cast.of {a b : String} {A : Array Value} {U : State} (h : (Cond.castable a b).before A U = true) : kx_cast a b U := by
  obtain ⟨x, y, h1, h2, h3⟩ := Cond.castable_spec h
  exact ⟨x, y, h1, h2, h3⟩
theorem kx_cast.use {a b : String} {A : Array Value} {U : State} (h : kx_cast a b U) : (Cond.castable a b).before A U = true := by
  obtain ⟨x, y, h1, h2, h3⟩ := h
  simp [Cond.before, Cond.holds, Cond.value, h1, h2, h3]
def kx_decl (y : MethodName) (U : State) : Prop := (Cond.declares y).before #[] U = true
theorem kx_decl.use {y : MethodName} {A : Array Value} {U : State} (h : kx_decl y U) : (Cond.declares y).before A U = true := va_any rfl h
theorem kx_decl.of {y : MethodName} {A : Array Value} {U : State} (h : (Cond.declares y).before A U = true) : kx_decl y U := va_any rfl h
theorem kx_decl.moved {y : MethodName} {u U : State} (hvm : u.vm.Alike U.vm) (h : kx_decl y u) : kx_decl y U := by
  have h1 : (Cond.declares y).before #[] (u.setVm U.vm) = true := by
    rw [Cond.declares_setVm hvm]
    exact h
  have e := Cond.onTables_vm (A := #[]) (A' := #[]) (U := u) (U' := U) U.vm (Cond.declares y) rfl
  have hU : U.setVm U.vm = U := rfl
  rw [hU] at e
  unfold kx_decl
  rw [← e]
  exact h1
def kx_E (ad : Nat) (A : Nat → Prop) (U : State) (H : Heap) : Prop :=
  (∀ y ∈ [Bundle.initS "java/lang/RuntimeException", Bundle.initS "java/lang/Exception", Bundle.initS Bundle.tN], kx_decl y U) ∧
  (∀ q ∈ [(kx_IOOBE, kx_IOOBE), (kx_IAE, kx_IAE), (kx_ISE, kx_ISE), ("IslandSolver$Body", "java/lang/Object"), ("IslandSolver$Row", "java/lang/Object"), ("IslandSolver$Body", "IslandSolver$Body"), ("IslandSolver$Row", "IslandSolver$Row")], kx_cast q.1 q.2 U) ∧
  (∀ q ∈ [(kx_IOOBE, kx_IAE), (kx_IOOBE, kx_ISE), (kx_IAE, kx_IOOBE), (kx_IAE, kx_ISE), (kx_ISE, kx_IOOBE), (kx_ISE, kx_IAE)], va_Nc q.1 q.2 U) ∧
  (∀ q ∈ [(RX3, 24, yX2_init), (RX0, 11, yX2_init), (RX1, 11, yX2_init), (RX2, 19, yX3_hold), (RX1, 106, yX3_hold)], va_Nw (.methodLinkNest q.1 q.2.1 q.2.2 RX3) U) ∧
  (∀ q ∈ kx_strs, ∃ sa : Nat, vk_R RX3 q.1 q.2 sa U) ∧
  (∀ C ∈ ["IslandSolver$Row", "java/lang/Object"], va_AO C U) ∧
  vx_Zq Bundle.tN "UNASSIGNED_STACK" Bundle.steD A U H ∧ vx_Zq Bundle.tN "SUPPRESSED_SENTINEL" Bundle.listD A U H ∧
  va_Z "java/util/ArrayList" "DEFAULTCAPACITY_EMPTY_ELEMENTDATA" "[Ljava/lang/Object;" (.ref ad) A U H ∧ va_T (.object "java/lang/Object") ad 0 (fun _ => .null) A U H ∧
  (∃ mi : Nat, va_Mi "[Ljava/lang/Object;" mi U) ∧ va_Dc U
theorem kx_E.go {ad : Nat} {A : Nat → Prop} {s U : State} {H : Heap} (hW : s.WarmedH U.vm) (h : kx_E ad A s H) : kx_E ad A U H := by
  obtain ⟨h1, h2, h3, h4, h5, h6, h7, h8, h9, h10, h11, h12⟩ := h
  have ha := hW.alike
  exact ⟨fun y hy => (h1 y hy).moved ha, fun a hq => (h2 a hq).moved ha, fun q hq => (h3 q hq).moved ha, fun q hq => va_Nw.warmM hW (h4 q hq), fun q hq => (h5 q hq).elim fun sa h => ⟨sa, vk_R.warm hW h⟩, fun C hC => (h6 C hC).moved ha, vx_Zq.moved ha h7, vx_Zq.moved ha h8, va_Z.moved ha h9, va_T.moved ha h10, h11.elim fun mi h => ⟨mi, h.moved ha⟩, h12.moved ha⟩
theorem kx_E.kept {ad : Nat} {A : Nat → Prop} {U : State} {H H1 : Heap} (h : kx_E ad A U H) (hq : ∀ a : Nat, a < H.size → ¬ A a → H1[a]? = H[a]?) : kx_E ad A U H1 := by
  obtain ⟨h1, h2, h3, h4, h5, h6, h7, h8, h9, h10, h11, h12⟩ := h
  exact ⟨h1, h2, h3, h4, h5, h6, h7.kept hq, h8.kept hq, h9.kept hq, h10.kept hq, h11, h12⟩
theorem kx_E.narrow {ad : Nat} {A B : Nat → Prop} {U : State} {H : Heap} (h : kx_E ad A U H) (hAB : ∀ q, B q → A q) : kx_E ad B U H := by
  obtain ⟨h1, h2, h3, h4, h5, h6, h7, h8, h9, h10, h11, h12⟩ := h
  exact ⟨h1, h2, h3, h4, h5, h6, h7.narrow hAB, h8.narrow hAB, h9.narrow hAB, h10.narrow hAB, h11, h12⟩
theorem kx_E.str {ad : Nat} {A : Nat → Prop} {U : State} {H : Heap} (h : kx_E ad A U H) (k : Nat) (tx : String) (hm : (k, tx) ∈ kx_strs) : ∃ sa : Nat, vk_R RX3 k tx sa U := h.2.2.2.2.1 (k, tx) hm
theorem kx_E.nest {ad : Nat} {A : Nat → Prop} {U : State} {H : Heap} (h : kx_E ad A U H) (C : String) (k : Nat) (y : MethodName) (hm : (C, k, y) ∈ [(RX3, 24, yX2_init), (RX0, 11, yX2_init), (RX1, 11, yX2_init), (RX2, 19, yX3_hold), (RX1, 106, yX3_hold)]) : va_Nw (.methodLinkNest C k y RX3) U := h.2.2.2.1 (C, k, y) hm
theorem kx_E.cast2 {ad : Nat} {A : Nat → Prop} {U : State} {H : Heap} (h : kx_E ad A U H) (a b : String) (hm : (a, b) ∈ [(kx_IOOBE, kx_IOOBE), (kx_IAE, kx_IAE), (kx_ISE, kx_ISE), ("IslandSolver$Body", "java/lang/Object"), ("IslandSolver$Row", "java/lang/Object"), ("IslandSolver$Body", "IslandSolver$Body"), ("IslandSolver$Row", "IslandSolver$Row")]) : kx_cast a b U := h.2.1 (a, b) hm
theorem kx_E.cast {ad : Nat} {A : Nat → Prop} {U : State} {H : Heap} (h : kx_E ad A U H) (a : String) (hm : a ∈ [kx_IOOBE, kx_IAE, kx_ISE]) {B : Array Value} : (Cond.castable a a).before B U = true := by
  simp only [List.mem_cons, List.not_mem_nil, or_false] at hm
  rcases hm with rfl | rfl | rfl
  · exact (h.cast2 _ _ (by simp)).use
  · exact (h.cast2 _ _ (by simp)).use
  · exact (h.cast2 _ _ (by simp)).use
theorem kx_E.asg {ad : Nat} {A : Nat → Prop} {U : State} {H : Heap} (h : kx_E ad A U H) (a b : String) (hm : (a, b) ∈ [(kx_IOOBE, kx_IOOBE), (kx_IAE, kx_IAE), (kx_ISE, kx_ISE), ("IslandSolver$Body", "java/lang/Object"), ("IslandSolver$Row", "java/lang/Object"), ("IslandSolver$Body", "IslandSolver$Body"), ("IslandSolver$Row", "IslandSolver$Row")]) : ∀ comp c0 : ClassId, U.vm.findClass b = some comp → U.vm.findClass a = some c0 → U.vm.assignable c0 comp = true := by
  intro comp c0 h1 h2
  obtain ⟨x, y, g1, g2, g3⟩ := h.cast2 a b hm
  cases Option.some.inj (g1.symm.trans h2)
  cases Option.some.inj (g2.symm.trans h1)
  exact g3
theorem kx_E.nocast {ad : Nat} {A : Nat → Prop} {U : State} {H : Heap} (h : kx_E ad A U H) (a b : String) (hm : (a, b) ∈ [(kx_IOOBE, kx_IAE), (kx_IOOBE, kx_ISE), (kx_IAE, kx_IOOBE), (kx_IAE, kx_ISE), (kx_ISE, kx_IOOBE), (kx_ISE, kx_IAE)]) : va_Nc a b U := h.2.2.1 (a, b) hm
def kx_non (X : String) : List Cond := [.declares (Bundle.initS "java/lang/RuntimeException"), .declares (Bundle.initS "java/lang/Exception"), .declares (Bundle.initS Bundle.tN), .castable X X]
theorem kx_E.non {ad : Nat} {A : Nat → Prop} {U : State} {H : Heap} (h : kx_E ad A U H) (X : String) (hm : X ∈ [kx_IOOBE, kx_IAE, kx_ISE]) {B : Array Value} : ∀ w ∈ kx_non X, w.before B U = true := by
  intro w hw
  simp only [kx_non, List.mem_cons, List.not_mem_nil, or_false] at hw
  rcases hw with rfl | rfl | rfl | rfl
  · exact (h.1 _ (by simp)).use
  · exact (h.1 _ (by simp)).use
  · exact (h.1 _ (by simp)).use
  · exact h.cast X hm
def kc_B (D : va_G) (cl : List vw_C) (ad sz : Nat) (wc : va_W) (tyc : List (ClassId × FieldType)) : State → Prop := fun U => U.heap.size = sz ∧ va_P D cl wc U.heap ∧ va_K D cl tyc U ∧ va_D (fun _ => True) wc ∧ kx_E ad (va_A wc sz) U U.heap
def kc_R {S : Type} (D : va_G) (cl : List vw_C) (A : Nat → Prop) (w1 : S → va_W) (t1 : S → List (ClassId × FieldType)) : S → State → Prop := fun u t => va_P D cl (w1 u) t.heap ∧ va_K D cl (t1 u) t ∧ va_D A (w1 u)
theorem kc_blind {D : va_G} {cl : List vw_C} {ad sz : Nat} {wc : va_W} {tyc : List (ClassId × FieldType)} {av : List Value} : FrameBlind (va_Pc av (kc_B D cl ad sz wc tyc)) := by
  intro a U g mk q
  obtain ⟨q0, q1, qP, qK, qD, qE⟩ := q
  exact ⟨q0, q1, qP, va_K.moved (u := U) (U := U.calling g mk a) (Vm.Alike.refl U.vm) qK, qD, kx_E.go (s := U) (U := U.calling g mk a) (State.WarmedH.refl U) qE⟩
theorem kc_pick {D : va_G} {cl : List vw_C} {ws wc : va_W} {H : Heap} (hP : va_P D cl ws H) (isC : List Nat) (hC : isC.map (fun i => ws[i]?) = wc.map some) : va_P D cl wc H := by
  intro k q hq
  have h1 : (isC.map (fun i => ws[i]?))[k]? = some (some q) := by rw [hC, List.getElem?_map, hq]; rfl
  rw [List.getElem?_map] at h1
  cases hi : isC[k]? with
  | none => rw [hi] at h1; cases h1
  | some i => rw [hi] at h1; exact hP i q (Option.some.inj h1)
section KCP
variable {s : State} {H : Heap} {D : va_G} {cl : List vw_C} {ad : Nat} {ws wc : va_W} {A : Nat → Prop} {tys tyc : List (ClassId × FieldType)} {locs : List Loc}
theorem kc_U (hP : va_P D cl ws H) (hD : va_D A ws) (hK : va_K D cl tys s) (hS : va_S A s.heap H locs) (hA : ∀ q, s.heap.size ≤ q → A q) (hE : kx_E ad A s s.heap) (isC : List Nat) (hC : isC.map (fun i => ws[i]?) = wc.map some) (hn : va_nd isC = true) (itC : List Nat) (hT : itC.filterMap (fun i => tys[i]?) = tyc) :
    ∀ U : State, U.heap = H → s.WarmedH U.vm → kc_B D cl ad H.size wc tyc U := by
  intro U hU hW
  have hFc := va_free (wc := wc) hD hS hA isC hC
  exact ⟨by rw [hU], by rw [hU]; exact kc_pick hP isC hC, va_K.moved hW.alike (hK.sub itC hT), (hD.sub isC hn hC).weaken (fun _ _ _ _ => trivial), by rw [hU]; exact kx_E.go hW ((hE.kept hS.2.1).narrow hFc)⟩
theorem kc_preS {As : List Value} (hP : va_P D cl ws H) (hD : va_D A ws) (hK : va_K D cl tys s) (hS : va_S A s.heap H locs) (hA : ∀ q, s.heap.size ≤ q → A q) (hE : kx_E ad A s s.heap) (isC : List Nat) (hC : isC.map (fun i => ws[i]?) = wc.map some) (hn : va_nd isC = true) (itC : List Nat) (hT : itC.filterMap (fun i => tys[i]?) = tyc) :
    PreS s H (va_Pc As (kc_B D cl ad H.size wc tyc)) As := ⟨kc_blind, fun U hU hW => ⟨rfl, kc_U hP hD hK hS hA hE isC hC hn itC hT U hU hW⟩⟩
theorem kc_preV {As : List Value} {b ci : Nat} {fs : List Value} {C : String} {T : u_T} {N : Nat} (hP : va_P D cl ws H) (hD : va_D A ws) (hK : va_K D cl tys s) (hS : va_S A s.heap H locs) (hA : ∀ q, s.heap.size ≤ q → A q) (hE : kx_E ad A s s.heap) (isC : List Nat) (hC : isC.map (fun i => ws[i]?) = wc.map some) (hn : va_nd isC = true) (itC : List Nat) (hT : itC.filterMap (fun i => tys[i]?) = tyc)
    (q0 : Nat) (hc : cl[ci]? = some (C, T, N)) (he : ws[q0]? = some (b, .inr (ci, fs))) :
    PreV s H C b (va_Pc (.ref b :: As) (kc_B D cl ad H.size wc tyc)) As := ⟨kc_blind, va_recv hK hP hc he, fun U hU hW => ⟨rfl, kc_U hP hD hK hS hA hE isC hC hn itC hT U hU hW⟩⟩
end KCP
section KCC
variable {p : Program} {l : Launch} {e : Env} {R : Room} {s : State} {m : MethodId} {args : Array Value} {below : List Frame} {meth : Method} {c : Code} {H : Heap} {locs : List Loc} {cells slots : Nat} {Q : State → Prop}
variable {mc ms : Nat} {A : Nat → Prop} {a : Array Value} {pc : Nat} {ls : Array Slot} {st0 rest : List Value} {D : va_G} {cl : List vw_C} {ws wc wr : va_W} {tys tyr : List (ClassId × FieldType)}
theorem kc_after {S : Type} {w1 : S → va_W} {t1 : S → List (ClassId × FieldType)} {u : S} {t : State} {H1 : Heap} (ht : t.heap = H1) (hvm : s.vm.Alike t.vm) (hB : kc_R D cl (va_A wc H.size) w1 t1 u t) (hk1 : ∀ q : Nat, q < H.size → ¬ va_A wc H.size q → H1[q]? = H[q]?)
    (hP : va_P D cl ws H) (hD : va_D A ws) (hK : va_K D cl tys s) (hS : va_S A s.heap H locs) (hA : ∀ q, s.heap.size ≤ q → A q) (isC isR : List Nat) (hC : isC.map (fun i => ws[i]?) = wc.map some) (hR : isR.map (fun i => ws[i]?) = wr.map some) (hn : va_nd isR = true) (hdis : ∀ i ∈ isR, i ∉ isC) (itR : List Nat) (hT : itR.filterMap (fun i => tys[i]?) = tyr) :
    va_P D cl (wr ++ w1 u) H1 ∧ va_D A (wr ++ w1 u) ∧ va_K D cl (tyr ++ t1 u) s := by
  have hFc := va_free (wc := wc) hD hS hA isC hC
  obtain ⟨hP1, hK1, hD1⟩ := hB
  rw [ht] at hP1
  obtain ⟨g1, g2⟩ := va_join hP hD isC isR hC hR hn hdis hk1 hFc hP1 hD1
  exact ⟨g1, g2, (hK.sub itR hT).app (va_K.moved hvm.symm hK1)⟩
theorem kc_calli {S : Type} {post : Int32 → S → Prop} {w1 : S → va_W} {t1 : S → List (ClassId × FieldType)} (hr : va_Run p l e R s m args below meth c H locs cells slots mc ms (F0 m pc ls st0) rest (va_Qi post (kc_R D cl (va_A wc H.size) w1 t1) (va_A wc H.size) a) (va_A wc H.size))
    (hP : va_P D cl ws H) (hD : va_D A ws) (hK : va_K D cl tys s) (hS : va_S A s.heap H locs) (hA : ∀ q, s.heap.size ≤ q → A q) (isC isR : List Nat) (hC : isC.map (fun i => ws[i]?) = wc.map some) (hR : isR.map (fun i => ws[i]?) = wr.map some) (hn : va_nd isR = true) (hdis : ∀ i ∈ isR, i ∉ isC) (itR : List Nat) (hT : itR.filterMap (fun i => tys[i]?) = tyr)
    (kk : ∀ (r : Int32) (u : S) (H1 : Heap) (locs1 : List Loc), post r u → va_P D cl (wr ++ w1 u) H1 → va_D A (wr ++ w1 u) → va_K D cl (tyr ++ t1 u) s → va_S A s.heap H1 locs1 → W p l e R s m args below meth c H1 locs1 (cells + mc) (slots + ms) Q (F0 m (pc + 3) ls (.int r :: rest))) : W p l e R s m args below meth c H locs cells slots Q (F0 m pc ls st0) := by
  have hFc := va_free (wc := wc) hD hS hA isC hC
  refine va_calli hr hS (fun q _ h => hFc q h) hFc (fun r u t H1 locs1 ht hvm hw hB hz1 hk1 hS1 => ?_)
  obtain ⟨g1, g2, g3⟩ := kc_after ht hvm hB hk1 hP hD hK hS hA isC isR hC hR hn hdis itR hT
  exact kk r u H1 locs1 hw g1 g2 g3 hS1
theorem kc_callf {S : Type} {post : UInt32 → S → Prop} {w1 : S → va_W} {t1 : S → List (ClassId × FieldType)} (hr : va_Run p l e R s m args below meth c H locs cells slots mc ms (F0 m pc ls st0) rest (va_Qf post (kc_R D cl (va_A wc H.size) w1 t1) (va_A wc H.size) a) (va_A wc H.size))
    (hP : va_P D cl ws H) (hD : va_D A ws) (hK : va_K D cl tys s) (hS : va_S A s.heap H locs) (hA : ∀ q, s.heap.size ≤ q → A q) (isC isR : List Nat) (hC : isC.map (fun i => ws[i]?) = wc.map some) (hR : isR.map (fun i => ws[i]?) = wr.map some) (hn : va_nd isR = true) (hdis : ∀ i ∈ isR, i ∉ isC) (itR : List Nat) (hT : itR.filterMap (fun i => tys[i]?) = tyr)
    (kk : ∀ (r : UInt32) (u : S) (H1 : Heap) (locs1 : List Loc), post r u → va_P D cl (wr ++ w1 u) H1 → va_D A (wr ++ w1 u) → va_K D cl (tyr ++ t1 u) s → va_S A s.heap H1 locs1 → W p l e R s m args below meth c H1 locs1 (cells + mc) (slots + ms) Q (F0 m (pc + 3) ls (.float r :: rest))) : W p l e R s m args below meth c H locs cells slots Q (F0 m pc ls st0) := by
  have hFc := va_free (wc := wc) hD hS hA isC hC
  refine va_callf hr hS (fun q _ h => hFc q h) hFc (fun r u t H1 locs1 ht hvm hw hB hz1 hk1 hS1 => ?_)
  obtain ⟨g1, g2, g3⟩ := kc_after ht hvm hB hk1 hP hD hK hS hA isC isR hC hR hn hdis itR hT
  exact kk r u H1 locs1 hw g1 g2 g3 hS1
theorem kc_callv {S : Type} {post : S → Prop} {w1 : S → va_W} {t1 : S → List (ClassId × FieldType)} (hr : va_Run p l e R s m args below meth c H locs cells slots mc ms (F0 m pc ls st0) rest (va_Qv post (kc_R D cl (va_A wc H.size) w1 t1) (va_A wc H.size) a) (va_A wc H.size))
    (hP : va_P D cl ws H) (hD : va_D A ws) (hK : va_K D cl tys s) (hS : va_S A s.heap H locs) (hA : ∀ q, s.heap.size ≤ q → A q) (isC isR : List Nat) (hC : isC.map (fun i => ws[i]?) = wc.map some) (hR : isR.map (fun i => ws[i]?) = wr.map some) (hn : va_nd isR = true) (hdis : ∀ i ∈ isR, i ∉ isC) (itR : List Nat) (hT : itR.filterMap (fun i => tys[i]?) = tyr)
    (kk : ∀ (u : S) (H1 : Heap) (locs1 : List Loc), post u → va_P D cl (wr ++ w1 u) H1 → va_D A (wr ++ w1 u) → va_K D cl (tyr ++ t1 u) s → va_S A s.heap H1 locs1 → W p l e R s m args below meth c H1 locs1 (cells + mc) (slots + ms) Q (F0 m (pc + 3) ls rest)) : W p l e R s m args below meth c H locs cells slots Q (F0 m pc ls st0) := by
  have hFc := va_free (wc := wc) hD hS hA isC hC
  refine va_callv hr hS (fun q _ h => hFc q h) hFc (fun u t H1 locs1 ht hvm hw hB hz1 hk1 hS1 => ?_)
  obtain ⟨g1, g2, g3⟩ := kc_after ht hvm hB hk1 hP hD hK hS hA isC isR hC hR hn hdis itR hT
  exact kk u H1 locs1 hw g1 g2 g3 hS1
theorem kc_callr {S : Type} {post : S → Prop} {w1 : S → Nat → va_W} {t1 : S → List (ClassId × FieldType)} (hr : va_Run p l e R s m args below meth c H locs cells slots mc ms (F0 m pc ls st0) rest (va_Qr post (fun u ra => kc_R (S := Unit) D cl (va_A wc H.size) (fun _ => w1 u ra) (fun _ => t1 u) ()) (va_A wc H.size) a) (va_A wc H.size))
    (hP : va_P D cl ws H) (hD : va_D A ws) (hK : va_K D cl tys s) (hS : va_S A s.heap H locs) (hA : ∀ q, s.heap.size ≤ q → A q) (isC isR : List Nat) (hC : isC.map (fun i => ws[i]?) = wc.map some) (hR : isR.map (fun i => ws[i]?) = wr.map some) (hn : va_nd isR = true) (hdis : ∀ i ∈ isR, i ∉ isC) (itR : List Nat) (hT : itR.filterMap (fun i => tys[i]?) = tyr)
    (kk : ∀ (u : S) (ra : Nat) (H1 : Heap) (locs1 : List Loc), post u → va_P D cl (wr ++ w1 u ra) H1 → va_D A (wr ++ w1 u ra) → va_K D cl (tyr ++ t1 u) s → va_S A s.heap H1 locs1 → W p l e R s m args below meth c H1 locs1 (cells + mc) (slots + ms) Q (F0 m (pc + 3) ls (.ref ra :: rest))) : W p l e R s m args below meth c H locs cells slots Q (F0 m pc ls st0) := by
  have hFc := va_free (wc := wc) hD hS hA isC hC
  refine va_callr hr hS (fun q _ h => hFc q h) hFc (fun u ra t H1 locs1 ht hvm hw hB hz1 hk1 hS1 => ?_)
  obtain ⟨g1, g2, g3⟩ := kc_after (S := Unit) (w1 := fun _ => w1 u ra) (t1 := fun _ => t1 u) (u := ()) ht hvm hB hk1 hP hD hK hS hA isC isR hC hR hn hdis itR hT
  exact kk u ra H1 locs1 hw g1 g2 g3 hS1
def kc_X (EX : String → Prop) (A : Nat → Prop) : String → State → State → Prop := vx_X (fun _ : Unit => True) (fun E _ _ => EX E) A
theorem kc_xi {S : Type} {EX : String → Prop} {post : Int32 → S → Prop} {w1 : S → va_W} {t1 : S → List (ClassId × FieldType)} (hr : vx_Run p l e R s m args below meth c H locs cells slots mc ms (F0 m pc ls st0) rest (va_Qi post (kc_R D cl (va_A wc H.size) w1 t1) (va_A wc H.size) a) (kc_X EX (va_A wc H.size)) (va_A wc H.size))
    (hP : va_P D cl ws H) (hD : va_D A ws) (hK : va_K D cl tys s) (hS : va_S A s.heap H locs) (hA : ∀ q, s.heap.size ≤ q → A q) (isC isR : List Nat) (hC : isC.map (fun i => ws[i]?) = wc.map some) (hR : isR.map (fun i => ws[i]?) = wr.map some) (hn : va_nd isR = true) (hdis : ∀ i ∈ isR, i ∉ isC) (itR : List Nat) (hT : itR.filterMap (fun i => tys[i]?) = tyr)
    (kx : ∀ (E : String) (ce : Cell) (q9 : Addr) (H1 : Heap) (locs1 : List Loc), EX E → va_P D cl wr H1 → va_D A wr → va_S A s.heap H1 locs1 → H1[q9]? = some ce → ce.vm = .none → s.vm.findClass E = some ce.cls → vx_W p l e R s m args below meth c H1 locs1 (cells + mc) (slots + ms) Q (F0 m pc ls rest) q9)
    (kk : ∀ (r : Int32) (u : S) (H1 : Heap) (locs1 : List Loc), post r u → va_P D cl (wr ++ w1 u) H1 → va_D A (wr ++ w1 u) → va_K D cl (tyr ++ t1 u) s → va_S A s.heap H1 locs1 → W p l e R s m args below meth c H1 locs1 (cells + mc) (slots + ms) Q (F0 m (pc + 3) ls (.int r :: rest))) : W p l e R s m args below meth c H locs cells slots Q (F0 m pc ls st0) := by
  have hFc := va_free (wc := wc) hD hS hA isC hC
  refine vx_calli hr hS (fun q _ h => hFc q h) hFc (fun q _ h => hFc q h) (fun E ce q9 u t H1 locs1 ht hvm _ hx hz1 hk1 hS1 h1 h2 h3 => ?_) (fun r u t H1 locs1 ht hvm hw hB hz1 hk1 hS1 => ?_)
  · obtain ⟨g1, g2⟩ := va_join (w1 := []) hP hD isC isR hC hR hn hdis hk1 hFc (fun k q h => by simp at h) ⟨fun i j p q h => by simp at h, fun k q h => by simp at h⟩
    rw [List.append_nil] at g1 g2
    exact kx E ce q9 H1 locs1 hx g1 g2 hS1 h1 h2 h3
  · obtain ⟨g1, g2, g3⟩ := kc_after ht hvm hB hk1 hP hD hK hS hA isC isR hC hR hn hdis itR hT
    exact kk r u H1 locs1 hw g1 g2 g3 hS1
theorem kc_xf {S : Type} {EX : String → Prop} {post : UInt32 → S → Prop} {w1 : S → va_W} {t1 : S → List (ClassId × FieldType)} (hr : vx_Run p l e R s m args below meth c H locs cells slots mc ms (F0 m pc ls st0) rest (va_Qf post (kc_R D cl (va_A wc H.size) w1 t1) (va_A wc H.size) a) (kc_X EX (va_A wc H.size)) (va_A wc H.size))
    (hP : va_P D cl ws H) (hD : va_D A ws) (hK : va_K D cl tys s) (hS : va_S A s.heap H locs) (hA : ∀ q, s.heap.size ≤ q → A q) (isC isR : List Nat) (hC : isC.map (fun i => ws[i]?) = wc.map some) (hR : isR.map (fun i => ws[i]?) = wr.map some) (hn : va_nd isR = true) (hdis : ∀ i ∈ isR, i ∉ isC) (itR : List Nat) (hT : itR.filterMap (fun i => tys[i]?) = tyr)
    (kx : ∀ (E : String) (ce : Cell) (q9 : Addr) (H1 : Heap) (locs1 : List Loc), EX E → va_P D cl wr H1 → va_D A wr → va_S A s.heap H1 locs1 → H1[q9]? = some ce → ce.vm = .none → s.vm.findClass E = some ce.cls → vx_W p l e R s m args below meth c H1 locs1 (cells + mc) (slots + ms) Q (F0 m pc ls rest) q9)
    (kk : ∀ (r : UInt32) (u : S) (H1 : Heap) (locs1 : List Loc), post r u → va_P D cl (wr ++ w1 u) H1 → va_D A (wr ++ w1 u) → va_K D cl (tyr ++ t1 u) s → va_S A s.heap H1 locs1 → W p l e R s m args below meth c H1 locs1 (cells + mc) (slots + ms) Q (F0 m (pc + 3) ls (.float r :: rest))) : W p l e R s m args below meth c H locs cells slots Q (F0 m pc ls st0) := by
  have hFc := va_free (wc := wc) hD hS hA isC hC
  refine vx_callf hr hS (fun q _ h => hFc q h) hFc (fun q _ h => hFc q h) (fun E ce q9 u t H1 locs1 ht hvm _ hx hz1 hk1 hS1 h1 h2 h3 => ?_) (fun r u t H1 locs1 ht hvm hw hB hz1 hk1 hS1 => ?_)
  · obtain ⟨g1, g2⟩ := va_join (w1 := []) hP hD isC isR hC hR hn hdis hk1 hFc (fun k q h => by simp at h) ⟨fun i j p q h => by simp at h, fun k q h => by simp at h⟩
    rw [List.append_nil] at g1 g2
    exact kx E ce q9 H1 locs1 hx g1 g2 hS1 h1 h2 h3
  · obtain ⟨g1, g2, g3⟩ := kc_after ht hvm hB hk1 hP hD hK hS hA isC isR hC hR hn hdis itR hT
    exact kk r u H1 locs1 hw g1 g2 g3 hS1
theorem kc_xv {S : Type} {EX : String → Prop} {post : S → Prop} {w1 : S → va_W} {t1 : S → List (ClassId × FieldType)} (hr : vx_Run p l e R s m args below meth c H locs cells slots mc ms (F0 m pc ls st0) rest (va_Qv post (kc_R D cl (va_A wc H.size) w1 t1) (va_A wc H.size) a) (kc_X EX (va_A wc H.size)) (va_A wc H.size))
    (hP : va_P D cl ws H) (hD : va_D A ws) (hK : va_K D cl tys s) (hS : va_S A s.heap H locs) (hA : ∀ q, s.heap.size ≤ q → A q) (isC isR : List Nat) (hC : isC.map (fun i => ws[i]?) = wc.map some) (hR : isR.map (fun i => ws[i]?) = wr.map some) (hn : va_nd isR = true) (hdis : ∀ i ∈ isR, i ∉ isC) (itR : List Nat) (hT : itR.filterMap (fun i => tys[i]?) = tyr)
    (kx : ∀ (E : String) (ce : Cell) (q9 : Addr) (H1 : Heap) (locs1 : List Loc), EX E → va_P D cl wr H1 → va_D A wr → va_S A s.heap H1 locs1 → H1[q9]? = some ce → ce.vm = .none → s.vm.findClass E = some ce.cls → vx_W p l e R s m args below meth c H1 locs1 (cells + mc) (slots + ms) Q (F0 m pc ls rest) q9)
    (kk : ∀ (u : S) (H1 : Heap) (locs1 : List Loc), post u → va_P D cl (wr ++ w1 u) H1 → va_D A (wr ++ w1 u) → va_K D cl (tyr ++ t1 u) s → va_S A s.heap H1 locs1 → W p l e R s m args below meth c H1 locs1 (cells + mc) (slots + ms) Q (F0 m (pc + 3) ls rest)) : W p l e R s m args below meth c H locs cells slots Q (F0 m pc ls st0) := by
  have hFc := va_free (wc := wc) hD hS hA isC hC
  refine vx_callv hr hS (fun q _ h => hFc q h) hFc (fun q _ h => hFc q h) (fun E ce q9 u t H1 locs1 ht hvm _ hx hz1 hk1 hS1 h1 h2 h3 => ?_) (fun u t H1 locs1 ht hvm hw hB hz1 hk1 hS1 => ?_)
  · obtain ⟨g1, g2⟩ := va_join (w1 := []) hP hD isC isR hC hR hn hdis hk1 hFc (fun k q h => by simp at h) ⟨fun i j p q h => by simp at h, fun k q h => by simp at h⟩
    rw [List.append_nil] at g1 g2
    exact kx E ce q9 H1 locs1 hx g1 g2 hS1 h1 h2 h3
  · obtain ⟨g1, g2, g3⟩ := kc_after ht hvm hB hk1 hP hD hK hS hA isC isR hC hR hn hdis itR hT
    exact kk u H1 locs1 hw g1 g2 g3 hS1
theorem kc_xn {EX : String → Prop} {Qa : State → Outcome → State → Prop} (hr : vx_Run p l e R s m args below meth c H locs cells slots mc ms (F0 m pc ls st0) rest Qa (kc_X EX (va_A wc H.size)) (va_A wc H.size)) (hno : ∀ st o t, Qa st o t → False)
    (hP : va_P D cl ws H) (hD : va_D A ws) (hS : va_S A s.heap H locs) (hA : ∀ q, s.heap.size ≤ q → A q) (isC isR : List Nat) (hC : isC.map (fun i => ws[i]?) = wc.map some) (hR : isR.map (fun i => ws[i]?) = wr.map some) (hn : va_nd isR = true) (hdis : ∀ i ∈ isR, i ∉ isC)
    (kx : ∀ (E : String) (ce : Cell) (q9 : Addr) (H1 : Heap) (locs1 : List Loc), EX E → va_P D cl wr H1 → va_D A wr → va_S A s.heap H1 locs1 → H1[q9]? = some ce → ce.vm = .none → s.vm.findClass E = some ce.cls → vx_W p l e R s m args below meth c H1 locs1 (cells + mc) (slots + ms) Q (F0 m pc ls rest) q9) : W p l e R s m args below meth c H locs cells slots Q (F0 m pc ls st0) := by
  have hFc := va_free (wc := wc) hD hS hA isC hC
  intro T hT X
  rcases hr T hT X with ⟨v, st₀, t, T', L, h0, X', hL, e1, e2, hq, st⟩ | ⟨q, st₀, t, T', L, E, ce, h0, X', hL, e1, e2, ⟨u, -, hx, hF⟩, hce, hcv, hcl, st⟩
  · exact (hno _ _ _ hq).elim
  · obtain ⟨k1, k2, k3⟩ := vx_keep h0 e1 hS (fun q _ h => hFc q h) hFc hL hF
    obtain ⟨g1, g2⟩ := va_join (w1 := []) hP hD isC isR hC hR hn hdis k2 hFc (fun k q h => by simp at h) ⟨fun i j p q h => by simp at h, fun k q h => by simp at h⟩
    rw [List.append_nil] at g1 g2
    obtain ⟨t2, a1, b1⟩ := kx E ce q T'.heap (locs ++ L) hx g1 g2 k3 (by rw [e1]; exact hce) hcv hcl T' rfl X'
    exact ⟨t2, st.trans a1, b1⟩
end KCC
def kz_fin (x lo hi : UInt32) : Bool := !decide (Op.cmpValue (FP.fcmp x lo) .l < 0) && !decide (0 < Op.cmpValue (FP.fcmp x hi) .g)
def kz_code (f g h : Int32) : Int32 := if f = 0 then 1 else if g = 0 then 2 else if h = 0 then 3 else 0
def kz_ok (f g h : Int32) : Int32 := if kz_code f g h = 0 then 1 else 0
theorem kz_none (k : Nat) : va_up (fun _ : Nat => (none : Option Nat)) k none = fun _ => none := by
  funext j
  by_cases h : j = k
  · rw [h, va_up_self]
  · rw [va_up_ne _ _ h]
def kc_workers (n : Int32) : Int32 := if (!decide (n < 1) && !decide (8 < n)) = true then 0 else 1
def kc_settings (n : Int32) (a b : UInt32) (k : Int32) : Int32 := if (!decide (n < 1) && (!decide (16 < n) && (kz_fin a FP.fconst0 FP.fconst1 && (kz_fin b FP.fconst0 1115684864 && (!decide (k < 0) && !decide (100 < k)))))) = true then 0 else 1
