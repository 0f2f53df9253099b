set_option maxHeartbeats 4000000 in
set_option maxRecDepth 100000 in
theorem k_VecInit3 (l : Launch) (dC : Nat → ClassId) (dI : Nat → Nat → Nat) (dA : Nat → ClassId) (ad sz : Nat) (τ : Nat → Nat → Nat) (pv : Nat → Nat → Value) (L : List Nat) (f : Nat → va_E) (hI : kI dA τ pv L f) (a : Nat) (hh_a : τ 0 a = 3) : Met l yX2_init wsX2_init ({ frames := 1, cells := 0, slots := 0, locals := 12 } : Room) (va_Pc [.ref a] (kB dC dI dA ad sz L f)) (va_Qv (fun u => kI dA τ pv u.1 u.2) (kR dC dI dA (va_A (va_pl L f) sz)) (va_A (va_pl L f) sz)) 0 0 (va_A (va_pl L f) sz) := by
  refine Met.ofW (cc := cX2_init) (maxL := 1) (ret := none) (by decide) rfl ?_
  intro p e s m args below meth c s₁ B hml hv
  obtain ⟨rfl, hsz, hP, hK, hD0, hE⟩ := hv
  have hx := B.exec
  have hb := B.bytes
  have hr := B.returns
  have hts := atoms_spec (ws := wsX2_init) B.pre
  have hown : s.vm.findClass RX2 = some m.cls := findClass_of_methodNamed B.named
  have hlocks := B.notSynchronized
  have hin : meth.name = "<init>" := (name_of_methodNamed B.named B.method).1
  subst hsz
  have hD := hD0.self (sz := s.heap.size)
  generalize hAe : va_A (va_pl L f) s.heap.size = A at hD hE ⊢
  have hA : ∀ q : Nat, s.heap.size ≤ q → A q := fun q h => by rw [← hAe]; exact Or.inr h
  have hS : va_S A s.heap s.heap [] := va_S.rf
  have hP : va_P (dC, dI) vwCl (va_pl L f) s.heap := hP
  have hK : va_K (dC, dI) vwCl (tyA dA) s := hK
  have hl := lv_entry ([.ref a]) (n := 1) (Nat.le_of_ble_eq_true rfl)
  rw [lg_entry_eq]
  generalize (lg_sl ([.ref a]) ++ List.replicate (1 - (lg_sl ([.ref a])).length) Slot.unset).toArray = ls at hl ⊢
  have hl : lv_has ls 1 [(0, .ref a)] := hl
  refine lv_aload_n hx hb dX2_init_0 rfl (lv_at hl 0 rfl) ?_
  refine W.objInit hx hb hown (hts (.methodLink RX2 1 objectInit) (by decide +kernel)) (hts (.instanceMethod objectInit) (by decide +kernel)) (hts (.code objectInit ⟨#[0xb1]⟩ 1 none) (by decide +kernel)) rfl (by rw [hml]; exact hl.1) rfl dX2_init_1 (Nat.le_of_ble_eq_true rfl) (Nat.le_of_ble_eq_true rfl) ?_
  refine W.eq (g2 := F0 m 4 ls []) rfl ?_
  refine W.widen (k := 0) (n := 0) (Nat.le_of_ble_eq_true rfl) (Nat.le_of_ble_eq_true rfl) ?_
  exact W.vret hx hb hr (fun t ht hW9 => ⟨⟨(L, f), rfl, hI, by rw [ht]; exact hP, va_K.moved hW9.alike hK, hD⟩, hS.F ht⟩) hS.2.2 dX2_init_4
set_option maxHeartbeats 4000000 in
set_option maxRecDepth 100000 in
theorem k_VecInit4 (l : Launch) (dC : Nat → ClassId) (dI : Nat → Nat → Nat) (dA : Nat → ClassId) (ad sz : Nat) (τ : Nat → Nat → Nat) (pv : Nat → Nat → Value) (L : List Nat) (f : Nat → va_E) (hI : kI dA τ pv L f) (a : Nat) (hh_a : τ 0 a = 4) : Met l yX2_init wsX2_init ({ frames := 1, cells := 0, slots := 0, locals := 12 } : Room) (va_Pc [.ref a] (kB dC dI dA ad sz L f)) (va_Qv (fun u => kI dA τ pv u.1 u.2) (kR dC dI dA (va_A (va_pl L f) sz)) (va_A (va_pl L f) sz)) 0 0 (va_A (va_pl L f) sz) := by
  refine Met.ofW (cc := cX2_init) (maxL := 1) (ret := none) (by decide) rfl ?_
  intro p e s m args below meth c s₁ B hml hv
  obtain ⟨rfl, hsz, hP, hK, hD0, hE⟩ := hv
  have hx := B.exec
  have hb := B.bytes
  have hr := B.returns
  have hts := atoms_spec (ws := wsX2_init) B.pre
  have hown : s.vm.findClass RX2 = some m.cls := findClass_of_methodNamed B.named
  have hlocks := B.notSynchronized
  have hin : meth.name = "<init>" := (name_of_methodNamed B.named B.method).1
  subst hsz
  have hD := hD0.self (sz := s.heap.size)
  generalize hAe : va_A (va_pl L f) s.heap.size = A at hD hE ⊢
  have hA : ∀ q : Nat, s.heap.size ≤ q → A q := fun q h => by rw [← hAe]; exact Or.inr h
  have hS : va_S A s.heap s.heap [] := va_S.rf
  have hP : va_P (dC, dI) vwCl (va_pl L f) s.heap := hP
  have hK : va_K (dC, dI) vwCl (tyA dA) s := hK
  have hl := lv_entry ([.ref a]) (n := 1) (Nat.le_of_ble_eq_true rfl)
  rw [lg_entry_eq]
  generalize (lg_sl ([.ref a]) ++ List.replicate (1 - (lg_sl ([.ref a])).length) Slot.unset).toArray = ls at hl ⊢
  have hl : lv_has ls 1 [(0, .ref a)] := hl
  refine lv_aload_n hx hb dX2_init_0 rfl (lv_at hl 0 rfl) ?_
  refine W.objInit hx hb hown (hts (.methodLink RX2 1 objectInit) (by decide +kernel)) (hts (.instanceMethod objectInit) (by decide +kernel)) (hts (.code objectInit ⟨#[0xb1]⟩ 1 none) (by decide +kernel)) rfl (by rw [hml]; exact hl.1) rfl dX2_init_1 (Nat.le_of_ble_eq_true rfl) (Nat.le_of_ble_eq_true rfl) ?_
  refine W.eq (g2 := F0 m 4 ls []) rfl ?_
  refine W.widen (k := 0) (n := 0) (Nat.le_of_ble_eq_true rfl) (Nat.le_of_ble_eq_true rfl) ?_
  exact W.vret hx hb hr (fun t ht hW9 => ⟨⟨(L, f), rfl, hI, by rw [ht]; exact hP, va_K.moved hW9.alike hK, hD⟩, hS.F ht⟩) hS.2.2 dX2_init_4
set_option maxHeartbeats 4000000 in
set_option maxRecDepth 100000 in
theorem k_VecInit5 (l : Launch) (dC : Nat → ClassId) (dI : Nat → Nat → Nat) (dA : Nat → ClassId) (ad sz : Nat) (τ : Nat → Nat → Nat) (pv : Nat → Nat → Value) (L : List Nat) (f : Nat → va_E) (hI : kI dA τ pv L f) (a : Nat) (hh_a : τ 0 a = 5) : Met l yX2_init wsX2_init ({ frames := 1, cells := 0, slots := 0, locals := 12 } : Room) (va_Pc [.ref a] (kB dC dI dA ad sz L f)) (va_Qv (fun u => kI dA τ pv u.1 u.2) (kR dC dI dA (va_A (va_pl L f) sz)) (va_A (va_pl L f) sz)) 0 0 (va_A (va_pl L f) sz) := by
  refine Met.ofW (cc := cX2_init) (maxL := 1) (ret := none) (by decide) rfl ?_
  intro p e s m args below meth c s₁ B hml hv
  obtain ⟨rfl, hsz, hP, hK, hD0, hE⟩ := hv
  have hx := B.exec
  have hb := B.bytes
  have hr := B.returns
  have hts := atoms_spec (ws := wsX2_init) B.pre
  have hown : s.vm.findClass RX2 = some m.cls := findClass_of_methodNamed B.named
  have hlocks := B.notSynchronized
  have hin : meth.name = "<init>" := (name_of_methodNamed B.named B.method).1
  subst hsz
  have hD := hD0.self (sz := s.heap.size)
  generalize hAe : va_A (va_pl L f) s.heap.size = A at hD hE ⊢
  have hA : ∀ q : Nat, s.heap.size ≤ q → A q := fun q h => by rw [← hAe]; exact Or.inr h
  have hS : va_S A s.heap s.heap [] := va_S.rf
  have hP : va_P (dC, dI) vwCl (va_pl L f) s.heap := hP
  have hK : va_K (dC, dI) vwCl (tyA dA) s := hK
  have hl := lv_entry ([.ref a]) (n := 1) (Nat.le_of_ble_eq_true rfl)
  rw [lg_entry_eq]
  generalize (lg_sl ([.ref a]) ++ List.replicate (1 - (lg_sl ([.ref a])).length) Slot.unset).toArray = ls at hl ⊢
  have hl : lv_has ls 1 [(0, .ref a)] := hl
  refine lv_aload_n hx hb dX2_init_0 rfl (lv_at hl 0 rfl) ?_
  refine W.objInit hx hb hown (hts (.methodLink RX2 1 objectInit) (by decide +kernel)) (hts (.instanceMethod objectInit) (by decide +kernel)) (hts (.code objectInit ⟨#[0xb1]⟩ 1 none) (by decide +kernel)) rfl (by rw [hml]; exact hl.1) rfl dX2_init_1 (Nat.le_of_ble_eq_true rfl) (Nat.le_of_ble_eq_true rfl) ?_
  refine W.eq (g2 := F0 m 4 ls []) rfl ?_
  refine W.widen (k := 0) (n := 0) (Nat.le_of_ble_eq_true rfl) (Nat.le_of_ble_eq_true rfl) ?_
  exact W.vret hx hb hr (fun t ht hW9 => ⟨⟨(L, f), rfl, hI, by rw [ht]; exact hP, va_K.moved hW9.alike hK, hD⟩, hS.F ht⟩) hS.2.2 dX2_init_4
set_option maxHeartbeats 4000000 in
set_option maxRecDepth 100000 in
theorem k_BodyInit (l : Launch) (dC : Nat → ClassId) (dI : Nat → Nat → Nat) (dA : Nat → ClassId) (ad sz : Nat) (τ : Nat → Nat → Nat) (pv : Nat → Nat → Value) (L : List Nat) (f : Nat → va_E) (hI : kI dA τ pv L f) (a nm : Nat) (hh_a : τ 0 a = 40) (hnm : nm < 256) (hp : ∀ k, pv a k = kb0.getD k .null) (w xx yy zz : UInt32) (h_w : fb 1098907648 w) (h_xx : fb 1098907648 xx) (h_yy : fb 1098907648 yy) (h_zz : fb 1098907648 zz) : Met l yX0_init wsX0_init ({ frames := 2, cells := 2, slots := 6, locals := 32 } : Room) (va_Pc [.ref a, .int (nI nm), .float w, .float xx, .float yy, .float zz] (kB dC dI dA ad sz L f)) (va_Qv (fun u => ∃ τ2 pv2, kFr kPt τ pv τ2 pv2 ∧ τ2 0 a = 1 ∧ τ2 1 a = nm ∧ kI dA τ2 pv2 u.1 u.2) (kR dC dI dA (va_A (va_pl L f) sz)) (va_A (va_pl L f) sz)) 2 6 (va_A (va_pl L f) sz) := by
  refine Met.ofW (cc := cX0_init) (maxL := 6) (ret := none) (by decide) rfl ?_
  intro p e s m args below meth c s₁ B hml hv
  obtain ⟨rfl, hsz, hP, hK, hD0, hE⟩ := hv
  have hx := B.exec
  have hb := B.bytes
  have hr := B.returns
  have hts := atoms_spec (ws := wsX0_init) B.pre
  have hown : s.vm.findClass RX0 = some m.cls := findClass_of_methodNamed B.named
  have hlocks := B.notSynchronized
  have hin : meth.name = "<init>" := (name_of_methodNamed B.named B.method).1
  have i_X2 : ∀ w ∈ u_ws RX2 TX2 3, w ∈ wsX0_init := by decide +kernel
  have i_X0 : ∀ w ∈ u_ws RX0 TX0 16, w ∈ wsX0_init := by decide +kernel
  subst hsz
  have hD := hD0.self (sz := s.heap.size)
  generalize hAe : va_A (va_pl L f) s.heap.size = A at hD hE ⊢
  have hA : ∀ q : Nat, s.heap.size ≤ q → A q := fun q h => by rw [← hAe]; exact Or.inr h
  have hS : va_S A s.heap s.heap [] := va_S.rf
  have hP : va_P (dC, dI) vwCl (va_pl L f) s.heap := hP
  have hK : va_K (dC, dI) vwCl (tyA dA) s := hK
  have hl := lv_entry ([.ref a, .int (nI nm), .float w, .float xx, .float yy, .float zz]) (n := 6) (Nat.le_of_ble_eq_true rfl)
  rw [lg_entry_eq]
  generalize (lg_sl ([.ref a, .int (nI nm), .float w, .float xx, .float yy, .float zz]) ++ List.replicate (6 - (lg_sl ([.ref a, .int (nI nm), .float w, .float xx, .float yy, .float zz])).length) Slot.unset).toArray = ls at hl ⊢
  have hl : lv_has ls 6 [(0, .ref a), (1, .int (nI nm)), (2, .float w), (3, .float xx), (4, .float yy), (5, .float zz)] := hl
  have hF : kFr kPt τ pv τ pv := kFr.rf
  refine lv_aload_n hx hb dX0_init_0 rfl (lv_at hl 0 rfl) ?_
  refine W.objInit hx hb hown (hts (.methodLink RX0 3 objectInit) (by decide +kernel)) (hts (.instanceMethod objectInit) (by decide +kernel)) (hts (.code objectInit ⟨#[0xb1]⟩ 1 none) (by decide +kernel)) rfl (by rw [hml]; exact hl.1) rfl dX0_init_1 (Nat.le_of_ble_eq_true rfl) (Nat.le_of_ble_eq_true rfl) ?_
  refine W.eq (g2 := F0 m 4 ls []) rfl ?_
  refine lv_aload_n hx hb dX0_init_4 rfl (lv_at hl 0 rfl) ?_
  refine kp_new (ci := 3) (fs := [.float 0, .float 0, .float 0]) (C := RX2) (T := TX2) (N := 3) hx hb hts i_X2 tyX2 tyX2_ok hown (hts (.classLink RX0 9 RX2) (by decide +kernel)) (hts (.instantiable RX2 3) (by decide +kernel)) (hts (.initialized RX2) (by decide +kernel)) hK hP hD hS hA rfl (fun j hj => by rcases (show j = 0 ∨ j = 1 ∨ j = 2 by omega) with rfl | rfl | rfl <;> rfl) (Nat.le_of_ble_eq_true rfl) (Nat.le_of_ble_eq_true rfl) dX0_init_5 (fun q_1 H hqL hP hD hS => ?_)
  have h0q_1 : τ 0 q_1 = 0 := hI.t0 hqL
  have hI := hI.newV 3 (by decide) hqL
  obtain ⟨τ_1, hτ_1⟩ : ∃ z, z = kxt τ q_1 (fun j => if j = 0 then 3 else 0) := ⟨_, rfl⟩
  rw [← hτ_1] at hI
  have hF_1 : kFr kPt τ pv τ_1 pv := by rw [hτ_1]; exact kFr.ret (Or.inl h0q_1)
  have tq_1 : τ_1 0 q_1 = 3 := by rw [hτ_1]; exact kxt_self 0
  have hh_a : τ_1 0 a = 40 := by rw [hτ_1]; exact (kxt_ne (fun e9 => by rw [← e9, hh_a] at h0q_1; cases h0q_1) 0).trans hh_a
  have hF := hF.trans hF_1
  refine W.widen (k := 1) (n := 3) (by omega) (by omega) ?_
  refine lv_dup hx hb dX0_init_8 rfl ?_
  refine kd_callv (va_runIN (host := RX3) (As := []) (rest := [.ref q_1, .ref a]) ⟨hx, hb, hml, hown, hts⟩ (k_VecInit3 l dC dI dA ad _ τ_1 pv _ _ hI q_1 tq_1) ⟨va_cnB 0 hts gX0_init_X2_init_n11 rfl rfl rfl (hE.nest RX0 11 yX2_init (by decide +kernel)) (hts (.initialized RX2) (by decide +kernel)) (by decide +kernel) ⟨Nat.le_of_ble_eq_true rfl, Nat.le_of_ble_eq_true rfl⟩, rfl, (hts (.instanceMethod yX2_init) (by decide +kernel))⟩ (kd_preS hP hD hK hS hA hE) rfl rfl hl.1 rfl (lv_room (Nat.le_of_ble_eq_true rfl)) dX0_init_9 ⟨Nat.le_of_ble_eq_true rfl, Nat.le_of_ble_eq_true rfl⟩) hD hS hA (fun u_2 H locs hw hP hD hS => ?_)
  have hI := hw
  refine kp_putF (v := .ref q_1) (ty := .object "IslandSolver$Vec") hx hb hts i_X0 tyX0 tyX0_ok nmX0 hown hK hP hD hS hI hh_a rfl rfl 9 (by decide) (by decide) (hts (.fieldLink RX0 12 "IslandSolver$Body" "v" "LIslandSolver$Vec;") (by decide +kernel)) (fun _ h9 => h9) rfl hin rfl (by decide +kernel) rfl rfl rfl (kv_S (by decide) ⟨some q_1, rfl⟩) dX0_init_12 (fun f H locs hI hP hD hS => ?_)
  have hF := hF.trans (kFr.upr (P := kPt) (τ := τ_1) (pv := pv) (a := a) (w := .ref q_1) (k := 9) (Or.inr (by rw [hh_a]; decide)))
  refine lv_aload_n hx hb dX0_init_15 rfl (lv_at hl 0 rfl) ?_
  refine kp_new (ci := 3) (fs := [.float 0, .float 0, .float 0]) (C := RX2) (T := TX2) (N := 3) hx hb hts i_X2 tyX2 tyX2_ok hown (hts (.classLink RX0 9 RX2) (by decide +kernel)) (hts (.instantiable RX2 3) (by decide +kernel)) (hts (.initialized RX2) (by decide +kernel)) hK hP hD hS hA rfl (fun j hj => by rcases (show j = 0 ∨ j = 1 ∨ j = 2 by omega) with rfl | rfl | rfl <;> rfl) (Nat.le_of_ble_eq_true rfl) (Nat.le_of_ble_eq_true rfl) dX0_init_16 (fun q_3 H hqL hP hD hS => ?_)
  have h0q_3 : τ_1 0 q_3 = 0 := hI.t0 hqL
  have hI := hI.newV 3 (by decide) hqL
  obtain ⟨τ_3, hτ_3⟩ : ∃ z, z = kxt τ_1 q_3 (fun j => if j = 0 then 3 else 0) := ⟨_, rfl⟩
  rw [← hτ_3] at hI
  have hF_3 : kFr kPt τ_1 (kup pv a 9 (.ref q_1)) τ_3 (kup pv a 9 (.ref q_1)) := by rw [hτ_3]; exact kFr.ret (Or.inl h0q_3)
  have tq_3 : τ_3 0 q_3 = 3 := by rw [hτ_3]; exact kxt_self 0
  have hh_a : τ_3 0 a = 40 := by rw [hτ_3]; exact (kxt_ne (fun e9 => by rw [← e9, hh_a] at h0q_3; cases h0q_3) 0).trans hh_a
  have hF := hF.trans hF_3
  refine W.widen (k := 2) (n := 6) (by omega) (by omega) ?_
  refine lv_dup hx hb dX0_init_19 rfl ?_
  refine kd_callv (va_runIN (host := RX3) (As := []) (rest := [.ref q_3, .ref a]) ⟨hx, hb, hml, hown, hts⟩ (k_VecInit3 l dC dI dA ad _ τ_3 (kup pv a 9 (.ref q_1)) _ _ hI q_3 tq_3) ⟨va_cnB 0 hts gX0_init_X2_init_n11 rfl rfl rfl (hE.nest RX0 11 yX2_init (by decide +kernel)) (hts (.initialized RX2) (by decide +kernel)) (by decide +kernel) ⟨Nat.le_of_ble_eq_true rfl, Nat.le_of_ble_eq_true rfl⟩, rfl, (hts (.instanceMethod yX2_init) (by decide +kernel))⟩ (kd_preS hP hD hK hS hA hE) rfl rfl hl.1 rfl (lv_room (Nat.le_of_ble_eq_true rfl)) dX0_init_20 ⟨Nat.le_of_ble_eq_true rfl, Nat.le_of_ble_eq_true rfl⟩) hD hS hA (fun u_4 H locs hw hP hD hS => ?_)
  have hI := hw
  refine kp_putF (v := .ref q_3) (ty := .object "IslandSolver$Vec") hx hb hts i_X0 tyX0 tyX0_ok nmX0 hown hK hP hD hS hI hh_a rfl rfl 10 (by decide) (by decide) (hts (.fieldLink RX0 18 "IslandSolver$Body" "s" "LIslandSolver$Vec;") (by decide +kernel)) (fun _ h9 => h9) rfl hin rfl (by decide +kernel) rfl rfl rfl (kv_S (by decide) ⟨some q_3, rfl⟩) dX0_init_23 (fun f H locs hI hP hD hS => ?_)
  have hF := hF.trans (kFr.upr (P := kPt) (τ := τ_3) (pv := (kup pv a 9 (.ref q_1))) (a := a) (w := .ref q_3) (k := 10) (Or.inr (by rw [hh_a]; decide)))
  refine lv_aload_n hx hb dX0_init_26 rfl (lv_at hl 0 rfl) ?_
  refine lv_iconst (v := (-1)) hx hb dX0_init_27 (by decide) ?_
  refine kp_putP (v := .int (-1)) (ty := .int) hx hb hts i_X0 tyX0 tyX0_ok nmX0 hown hK hP hD hS hI hh_a rfl rfl 14 (by decide) (by decide) (hts (.fieldLink RX0 21 "IslandSolver$Body" "island" "I") (by decide +kernel)) (fun _ h9 => h9) rfl (by decide +kernel) rfl rfl rfl (kv_I _) dX0_init_28 (fun f H locs hI hP hD hS => ?_)
  have hF := hF.trans (kFr.upr (P := kPt) (τ := τ_3) (pv := (kup (kup pv a 9 (.ref q_1)) a 10 (.ref q_3))) (a := a) (w := .int (-1)) (k := 14) (Or.inr (by rw [hh_a]; decide)))
  refine lv_aload_n hx hb dX0_init_31 rfl (lv_at hl 0 rfl) ?_
  refine lv_iload_n hx hb dX0_init_32 rfl (lv_at hl 1 rfl) ?_
  refine kp_putF (v := .int (nI nm)) (ty := .int) hx hb hts i_X0 tyX0 tyX0_ok nmX0 hown hK hP hD hS hI hh_a rfl rfl 0 (by decide) (by decide) (hts (.fieldLink RX0 25 "IslandSolver$Body" "number" "I") (by decide +kernel)) (fun _ h9 => h9) rfl hin rfl (by decide +kernel) rfl rfl rfl (kv_I _) dX0_init_33 (fun f H locs hI hP hD hS => ?_)
  have hF := hF.trans (kFr.upr (P := kPt) (τ := τ_3) (pv := (kup (kup (kup pv a 9 (.ref q_1)) a 10 (.ref q_3)) a 14 (.int (-1)))) (a := a) (w := .int (nI nm)) (k := 0) (Or.inr (by rw [hh_a]; decide)))
  refine lv_aload_n hx hb dX0_init_36 rfl (lv_at hl 0 rfl) ?_
  refine lv_fload_n hx hb dX0_init_37 rfl (lv_at hl 2 rfl) ?_
  refine kp_putF (v := .float w) (ty := .float) hx hb hts i_X0 tyX0 tyX0_ok nmX0 hown hK hP hD hS hI hh_a rfl rfl 2 (by decide) (by decide) (hts (.fieldLink RX0 28 "IslandSolver$Body" "w" "F") (by decide +kernel)) (fun _ h9 => h9) rfl hin rfl (by decide +kernel) rfl rfl rfl (kv_G _) dX0_init_38 (fun f H locs hI hP hD hS => ?_)
  have hF := hF.trans (kFr.upr (P := kPt) (τ := τ_3) (pv := (kup (kup (kup (kup pv a 9 (.ref q_1)) a 10 (.ref q_3)) a 14 (.int (-1))) a 0 (.int (nI nm)))) (a := a) (w := .float w) (k := 2) (Or.inr (by rw [hh_a]; decide)))
  refine lv_aload_n hx hb dX0_init_41 rfl (lv_at hl 0 rfl) ?_
  refine lv_fload_n hx hb dX0_init_42 rfl (lv_at hl 3 rfl) ?_
  refine kp_putF (v := .float xx) (ty := .float) hx hb hts i_X0 tyX0 tyX0_ok nmX0 hown hK hP hD hS hI hh_a rfl rfl 3 (by decide) (by decide) (hts (.fieldLink RX0 32 "IslandSolver$Body" "xx" "F") (by decide +kernel)) (fun _ h9 => h9) rfl hin rfl (by decide +kernel) rfl rfl rfl (kv_G _) dX0_init_43 (fun f H locs hI hP hD hS => ?_)
  have hF := hF.trans (kFr.upr (P := kPt) (τ := τ_3) (pv := (kup (kup (kup (kup (kup pv a 9 (.ref q_1)) a 10 (.ref q_3)) a 14 (.int (-1))) a 0 (.int (nI nm))) a 2 (.float w))) (a := a) (w := .float xx) (k := 3) (Or.inr (by rw [hh_a]; decide)))
  refine lv_aload_n hx hb dX0_init_46 rfl (lv_at hl 0 rfl) ?_
  refine lv_fload hx hb dX0_init_47 (lv_at hl 4 rfl) ?_
  refine kp_putF (v := .float yy) (ty := .float) hx hb hts i_X0 tyX0 tyX0_ok nmX0 hown hK hP hD hS hI hh_a rfl rfl 4 (by decide) (by decide) (hts (.fieldLink RX0 35 "IslandSolver$Body" "yy" "F") (by decide +kernel)) (fun _ h9 => h9) rfl hin rfl (by decide +kernel) rfl rfl rfl (kv_G _) dX0_init_49 (fun f H locs hI hP hD hS => ?_)
  have hF := hF.trans (kFr.upr (P := kPt) (τ := τ_3) (pv := (kup (kup (kup (kup (kup (kup pv a 9 (.ref q_1)) a 10 (.ref q_3)) a 14 (.int (-1))) a 0 (.int (nI nm))) a 2 (.float w)) a 3 (.float xx))) (a := a) (w := .float yy) (k := 4) (Or.inr (by rw [hh_a]; decide)))
  refine lv_aload_n hx hb dX0_init_52 rfl (lv_at hl 0 rfl) ?_
  refine lv_fload hx hb dX0_init_53 (lv_at hl 5 rfl) ?_
  refine kp_putF (v := .float zz) (ty := .float) hx hb hts i_X0 tyX0 tyX0_ok nmX0 hown hK hP hD hS hI hh_a rfl rfl 5 (by decide) (by decide) (hts (.fieldLink RX0 38 "IslandSolver$Body" "zz" "F") (by decide +kernel)) (fun _ h9 => h9) rfl hin rfl (by decide +kernel) rfl rfl rfl (kv_G _) dX0_init_55 (fun f H locs hI hP hD hS => ?_)
  have hF := hF.trans (kFr.upr (P := kPt) (τ := τ_3) (pv := (kup (kup (kup (kup (kup (kup (kup pv a 9 (.ref q_1)) a 10 (.ref q_3)) a 14 (.int (-1))) a 0 (.int (nI nm))) a 2 (.float w)) a 3 (.float xx)) a 4 (.float yy))) (a := a) (w := .float zz) (k := 5) (Or.inr (by rw [hh_a]; decide)))
  refine lv_aload_n hx hb dX0_init_58 rfl (lv_at hl 0 rfl) ?_
  refine lv_fload_n hx hb dX0_init_59 rfl (lv_at hl 2 rfl) ?_
  refine lv_fconst0 hx hb dX0_init_60 ?_
  refine lv_fcmp hx hb dX0_init_61 ?_
  refine lv_if_gt (tgt := 77) hx hb dX0_init_62 (by decide) (fun c_5 => ?_) (fun c_5 => ?_)
  · refine lv_iconst (v := 1) hx hb dX0_init_77 (by decide) ?_
    refine lv_goto (tgt := 82) hx hb dX0_init_78 (by decide) ?_
    refine kp_putF (v := .int 1) (ty := .boolean) hx hb hts i_X0 tyX0 tyX0_ok nmX0 hown hK hP hD hS hI hh_a rfl rfl 1 (by decide) (by decide) (hts (.fieldLink RX0 41 "IslandSolver$Body" "movable" "Z") (by decide +kernel)) (fun _ h9 => h9) rfl hin rfl (by decide +kernel) rfl rfl rfl (kv_I _) dX0_init_82 (fun f H locs hI hP hD hS => ?_)
    have hF := hF.trans (kFr.upr (P := kPt) (τ := τ_3) (pv := (kup (kup (kup (kup (kup (kup (kup (kup pv a 9 (.ref q_1)) a 10 (.ref q_3)) a 14 (.int (-1))) a 0 (.int (nI nm))) a 2 (.float w)) a 3 (.float xx)) a 4 (.float yy)) a 5 (.float zz))) (a := a) (w := .int 1) (k := 1) (Or.inr (by rw [hh_a]; decide)))
    refine W.widen (k := 2) (n := 6) (Nat.le_of_ble_eq_true rfl) (Nat.le_of_ble_eq_true rfl) ?_
    exact W.vret hx hb hr (fun t ht hW9 => ⟨⟨(u_4.1, f), rfl, ⟨kxt τ_3 a (kgB nm 1), _, hF.trans (kFr.ret (Or.inr (by rw [hh_a]; decide))), kxt_self 0, kxt_self 1, hI.mkBody hh_a hnm (by decide) ((kup_ne (Or.inr (by decide))).trans ((kup_ne (Or.inr (by decide))).trans ((kup_ne (Or.inr (by decide))).trans ((kup_ne (Or.inr (by decide))).trans ((kup_ne (Or.inr (by decide))).trans kup_self))))) kup_self ((kup_ne (Or.inr (by decide))).trans ((kup_ne (Or.inr (by decide))).trans ((kup_ne (Or.inr (by decide))).trans ((kup_ne (Or.inr (by decide))).trans kup_self)))) ((kup_ne (Or.inr (by decide))).trans ((kup_ne (Or.inr (by decide))).trans ((kup_ne (Or.inr (by decide))).trans kup_self))) ((kup_ne (Or.inr (by decide))).trans ((kup_ne (Or.inr (by decide))).trans kup_self)) ((kup_ne (Or.inr (by decide))).trans kup_self) ((kup_ne (Or.inr (by decide))).trans ((kup_ne (Or.inr (by decide))).trans ((kup_ne (Or.inr (by decide))).trans ((kup_ne (Or.inr (by decide))).trans ((kup_ne (Or.inr (by decide))).trans ((kup_ne (Or.inr (by decide))).trans ((kup_ne (Or.inr (by decide))).trans ((kup_ne (Or.inr (by decide))).trans ((kup_ne (Or.inr (by decide))).trans (hp 6)))))))))) ((kup_ne (Or.inr (by decide))).trans ((kup_ne (Or.inr (by decide))).trans ((kup_ne (Or.inr (by decide))).trans ((kup_ne (Or.inr (by decide))).trans ((kup_ne (Or.inr (by decide))).trans ((kup_ne (Or.inr (by decide))).trans ((kup_ne (Or.inr (by decide))).trans ((kup_ne (Or.inr (by decide))).trans ((kup_ne (Or.inr (by decide))).trans (hp 7)))))))))) ((kup_ne (Or.inr (by decide))).trans ((kup_ne (Or.inr (by decide))).trans ((kup_ne (Or.inr (by decide))).trans ((kup_ne (Or.inr (by decide))).trans ((kup_ne (Or.inr (by decide))).trans ((kup_ne (Or.inr (by decide))).trans ((kup_ne (Or.inr (by decide))).trans ((kup_ne (Or.inr (by decide))).trans ((kup_ne (Or.inr (by decide))).trans (hp 8)))))))))) h_w h_xx h_yy h_zz ((kup_ne (Or.inr (by decide))).trans ((kup_ne (Or.inr (by decide))).trans ((kup_ne (Or.inr (by decide))).trans ((kup_ne (Or.inr (by decide))).trans ((kup_ne (Or.inr (by decide))).trans ((kup_ne (Or.inr (by decide))).trans ((kup_ne (Or.inr (by decide))).trans ((kup_ne (Or.inr (by decide))).trans kup_self)))))))) (hF_3.ty tq_1) ((kup_ne (Or.inr (by decide))).trans ((kup_ne (Or.inr (by decide))).trans ((kup_ne (Or.inr (by decide))).trans ((kup_ne (Or.inr (by decide))).trans ((kup_ne (Or.inr (by decide))).trans ((kup_ne (Or.inr (by decide))).trans ((kup_ne (Or.inr (by decide))).trans kup_self))))))) tq_3 ((kup_ne (Or.inr (by decide))).trans ((kup_ne (Or.inr (by decide))).trans ((kup_ne (Or.inr (by decide))).trans ((kup_ne (Or.inr (by decide))).trans ((kup_ne (Or.inr (by decide))).trans ((kup_ne (Or.inr (by decide))).trans ((kup_ne (Or.inr (by decide))).trans ((kup_ne (Or.inr (by decide))).trans ((kup_ne (Or.inr (by decide))).trans (hp 11)))))))))) ((kup_ne (Or.inr (by decide))).trans ((kup_ne (Or.inr (by decide))).trans ((kup_ne (Or.inr (by decide))).trans ((kup_ne (Or.inr (by decide))).trans ((kup_ne (Or.inr (by decide))).trans ((kup_ne (Or.inr (by decide))).trans ((kup_ne (Or.inr (by decide))).trans ((kup_ne (Or.inr (by decide))).trans ((kup_ne (Or.inr (by decide))).trans (hp 12)))))))))) ((kup_ne (Or.inr (by decide))).trans ((kup_ne (Or.inr (by decide))).trans ((kup_ne (Or.inr (by decide))).trans ((kup_ne (Or.inr (by decide))).trans ((kup_ne (Or.inr (by decide))).trans ((kup_ne (Or.inr (by decide))).trans ((kup_ne (Or.inr (by decide))).trans ((kup_ne (Or.inr (by decide))).trans ((kup_ne (Or.inr (by decide))).trans (hp 13)))))))))) ((kup_ne (Or.inr (by decide))).trans ((kup_ne (Or.inr (by decide))).trans ((kup_ne (Or.inr (by decide))).trans ((kup_ne (Or.inr (by decide))).trans ((kup_ne (Or.inr (by decide))).trans ((kup_ne (Or.inr (by decide))).trans kup_self)))))) ((kup_ne (Or.inr (by decide))).trans ((kup_ne (Or.inr (by decide))).trans ((kup_ne (Or.inr (by decide))).trans ((kup_ne (Or.inr (by decide))).trans ((kup_ne (Or.inr (by decide))).trans ((kup_ne (Or.inr (by decide))).trans ((kup_ne (Or.inr (by decide))).trans ((kup_ne (Or.inr (by decide))).trans ((kup_ne (Or.inr (by decide))).trans (hp 15))))))))))⟩, by rw [ht]; exact hP, va_K.moved hW9.alike hK, hD⟩, hS.F ht⟩) hS.2.2 dX0_init_85
  · refine lv_fload_n hx hb dX0_init_65 rfl (lv_at hl 3 rfl) ?_
    refine lv_fload hx hb dX0_init_66 (lv_at hl 4 rfl) ?_
    refine kw_fadd (M := 1107296256) hx hb dX0_init_68 h_xx h_yy (by decide) (by decide) (by decide +kernel) (by decide) (fun z_6 hz_7 => ?_)
    refine lv_fload hx hb dX0_init_69 (lv_at hl 5 rfl) ?_
    refine kw_fadd (M := 1111490560) hx hb dX0_init_71 hz_7 h_zz (by decide) (by decide) (by decide +kernel) (by decide) (fun z_8 hz_9 => ?_)
    refine lv_fconst0 hx hb dX0_init_72 ?_
    refine lv_fcmp hx hb dX0_init_73 ?_
    refine lv_if_le (tgt := 81) hx hb dX0_init_74 (by decide) (fun c_10 => ?_) (fun c_10 => ?_)
    · refine lv_iconst (v := 0) hx hb dX0_init_81 (by decide) ?_
      refine kp_putF (v := .int 0) (ty := .boolean) hx hb hts i_X0 tyX0 tyX0_ok nmX0 hown hK hP hD hS hI hh_a rfl rfl 1 (by decide) (by decide) (hts (.fieldLink RX0 41 "IslandSolver$Body" "movable" "Z") (by decide +kernel)) (fun _ h9 => h9) rfl hin rfl (by decide +kernel) rfl rfl rfl (kv_I _) dX0_init_82 (fun f H locs hI hP hD hS => ?_)
      have hF := hF.trans (kFr.upr (P := kPt) (τ := τ_3) (pv := (kup (kup (kup (kup (kup (kup (kup (kup pv a 9 (.ref q_1)) a 10 (.ref q_3)) a 14 (.int (-1))) a 0 (.int (nI nm))) a 2 (.float w)) a 3 (.float xx)) a 4 (.float yy)) a 5 (.float zz))) (a := a) (w := .int 0) (k := 1) (Or.inr (by rw [hh_a]; decide)))
      refine W.widen (k := 2) (n := 6) (Nat.le_of_ble_eq_true rfl) (Nat.le_of_ble_eq_true rfl) ?_
      exact W.vret hx hb hr (fun t ht hW9 => ⟨⟨(u_4.1, f), rfl, ⟨kxt τ_3 a (kgB nm 0), _, hF.trans (kFr.ret (Or.inr (by rw [hh_a]; decide))), kxt_self 0, kxt_self 1, hI.mkBody hh_a hnm (by decide) ((kup_ne (Or.inr (by decide))).trans ((kup_ne (Or.inr (by decide))).trans ((kup_ne (Or.inr (by decide))).trans ((kup_ne (Or.inr (by decide))).trans ((kup_ne (Or.inr (by decide))).trans kup_self))))) kup_self ((kup_ne (Or.inr (by decide))).trans ((kup_ne (Or.inr (by decide))).trans ((kup_ne (Or.inr (by decide))).trans ((kup_ne (Or.inr (by decide))).trans kup_self)))) ((kup_ne (Or.inr (by decide))).trans ((kup_ne (Or.inr (by decide))).trans ((kup_ne (Or.inr (by decide))).trans kup_self))) ((kup_ne (Or.inr (by decide))).trans ((kup_ne (Or.inr (by decide))).trans kup_self)) ((kup_ne (Or.inr (by decide))).trans kup_self) ((kup_ne (Or.inr (by decide))).trans ((kup_ne (Or.inr (by decide))).trans ((kup_ne (Or.inr (by decide))).trans ((kup_ne (Or.inr (by decide))).trans ((kup_ne (Or.inr (by decide))).trans ((kup_ne (Or.inr (by decide))).trans ((kup_ne (Or.inr (by decide))).trans ((kup_ne (Or.inr (by decide))).trans ((kup_ne (Or.inr (by decide))).trans (hp 6)))))))))) ((kup_ne (Or.inr (by decide))).trans ((kup_ne (Or.inr (by decide))).trans ((kup_ne (Or.inr (by decide))).trans ((kup_ne (Or.inr (by decide))).trans ((kup_ne (Or.inr (by decide))).trans ((kup_ne (Or.inr (by decide))).trans ((kup_ne (Or.inr (by decide))).trans ((kup_ne (Or.inr (by decide))).trans ((kup_ne (Or.inr (by decide))).trans (hp 7)))))))))) ((kup_ne (Or.inr (by decide))).trans ((kup_ne (Or.inr (by decide))).trans ((kup_ne (Or.inr (by decide))).trans ((kup_ne (Or.inr (by decide))).trans ((kup_ne (Or.inr (by decide))).trans ((kup_ne (Or.inr (by decide))).trans ((kup_ne (Or.inr (by decide))).trans ((kup_ne (Or.inr (by decide))).trans ((kup_ne (Or.inr (by decide))).trans (hp 8)))))))))) h_w h_xx h_yy h_zz ((kup_ne (Or.inr (by decide))).trans ((kup_ne (Or.inr (by decide))).trans ((kup_ne (Or.inr (by decide))).trans ((kup_ne (Or.inr (by decide))).trans ((kup_ne (Or.inr (by decide))).trans ((kup_ne (Or.inr (by decide))).trans ((kup_ne (Or.inr (by decide))).trans ((kup_ne (Or.inr (by decide))).trans kup_self)))))))) (hF_3.ty tq_1) ((kup_ne (Or.inr (by decide))).trans ((kup_ne (Or.inr (by decide))).trans ((kup_ne (Or.inr (by decide))).trans ((kup_ne (Or.inr (by decide))).trans ((kup_ne (Or.inr (by decide))).trans ((kup_ne (Or.inr (by decide))).trans ((kup_ne (Or.inr (by decide))).trans kup_self))))))) tq_3 ((kup_ne (Or.inr (by decide))).trans ((kup_ne (Or.inr (by decide))).trans ((kup_ne (Or.inr (by decide))).trans ((kup_ne (Or.inr (by decide))).trans ((kup_ne (Or.inr (by decide))).trans ((kup_ne (Or.inr (by decide))).trans ((kup_ne (Or.inr (by decide))).trans ((kup_ne (Or.inr (by decide))).trans ((kup_ne (Or.inr (by decide))).trans (hp 11)))))))))) ((kup_ne (Or.inr (by decide))).trans ((kup_ne (Or.inr (by decide))).trans ((kup_ne (Or.inr (by decide))).trans ((kup_ne (Or.inr (by decide))).trans ((kup_ne (Or.inr (by decide))).trans ((kup_ne (Or.inr (by decide))).trans ((kup_ne (Or.inr (by decide))).trans ((kup_ne (Or.inr (by decide))).trans ((kup_ne (Or.inr (by decide))).trans (hp 12)))))))))) ((kup_ne (Or.inr (by decide))).trans ((kup_ne (Or.inr (by decide))).trans ((kup_ne (Or.inr (by decide))).trans ((kup_ne (Or.inr (by decide))).trans ((kup_ne (Or.inr (by decide))).trans ((kup_ne (Or.inr (by decide))).trans ((kup_ne (Or.inr (by decide))).trans ((kup_ne (Or.inr (by decide))).trans ((kup_ne (Or.inr (by decide))).trans (hp 13)))))))))) ((kup_ne (Or.inr (by decide))).trans ((kup_ne (Or.inr (by decide))).trans ((kup_ne (Or.inr (by decide))).trans ((kup_ne (Or.inr (by decide))).trans ((kup_ne (Or.inr (by decide))).trans ((kup_ne (Or.inr (by decide))).trans kup_self)))))) ((kup_ne (Or.inr (by decide))).trans ((kup_ne (Or.inr (by decide))).trans ((kup_ne (Or.inr (by decide))).trans ((kup_ne (Or.inr (by decide))).trans ((kup_ne (Or.inr (by decide))).trans ((kup_ne (Or.inr (by decide))).trans ((kup_ne (Or.inr (by decide))).trans ((kup_ne (Or.inr (by decide))).trans ((kup_ne (Or.inr (by decide))).trans (hp 15))))))))))⟩, by rw [ht]; exact hP, va_K.moved hW9.alike hK, hD⟩, hS.F ht⟩) hS.2.2 dX0_init_85
    · refine lv_iconst (v := 1) hx hb dX0_init_77 (by decide) ?_
      refine lv_goto (tgt := 82) hx hb dX0_init_78 (by decide) ?_
      refine kp_putF (v := .int 1) (ty := .boolean) hx hb hts i_X0 tyX0 tyX0_ok nmX0 hown hK hP hD hS hI hh_a rfl rfl 1 (by decide) (by decide) (hts (.fieldLink RX0 41 "IslandSolver$Body" "movable" "Z") (by decide +kernel)) (fun _ h9 => h9) rfl hin rfl (by decide +kernel) rfl rfl rfl (kv_I _) dX0_init_82 (fun f H locs hI hP hD hS => ?_)
      have hF := hF.trans (kFr.upr (P := kPt) (τ := τ_3) (pv := (kup (kup (kup (kup (kup (kup (kup (kup pv a 9 (.ref q_1)) a 10 (.ref q_3)) a 14 (.int (-1))) a 0 (.int (nI nm))) a 2 (.float w)) a 3 (.float xx)) a 4 (.float yy)) a 5 (.float zz))) (a := a) (w := .int 1) (k := 1) (Or.inr (by rw [hh_a]; decide)))
      refine W.widen (k := 2) (n := 6) (Nat.le_of_ble_eq_true rfl) (Nat.le_of_ble_eq_true rfl) ?_
      exact W.vret hx hb hr (fun t ht hW9 => ⟨⟨(u_4.1, f), rfl, ⟨kxt τ_3 a (kgB nm 1), _, hF.trans (kFr.ret (Or.inr (by rw [hh_a]; decide))), kxt_self 0, kxt_self 1, hI.mkBody hh_a hnm (by decide) ((kup_ne (Or.inr (by decide))).trans ((kup_ne (Or.inr (by decide))).trans ((kup_ne (Or.inr (by decide))).trans ((kup_ne (Or.inr (by decide))).trans ((kup_ne (Or.inr (by decide))).trans kup_self))))) kup_self ((kup_ne (Or.inr (by decide))).trans ((kup_ne (Or.inr (by decide))).trans ((kup_ne (Or.inr (by decide))).trans ((kup_ne (Or.inr (by decide))).trans kup_self)))) ((kup_ne (Or.inr (by decide))).trans ((kup_ne (Or.inr (by decide))).trans ((kup_ne (Or.inr (by decide))).trans kup_self))) ((kup_ne (Or.inr (by decide))).trans ((kup_ne (Or.inr (by decide))).trans kup_self)) ((kup_ne (Or.inr (by decide))).trans kup_self) ((kup_ne (Or.inr (by decide))).trans ((kup_ne (Or.inr (by decide))).trans ((kup_ne (Or.inr (by decide))).trans ((kup_ne (Or.inr (by decide))).trans ((kup_ne (Or.inr (by decide))).trans ((kup_ne (Or.inr (by decide))).trans ((kup_ne (Or.inr (by decide))).trans ((kup_ne (Or.inr (by decide))).trans ((kup_ne (Or.inr (by decide))).trans (hp 6)))))))))) ((kup_ne (Or.inr (by decide))).trans ((kup_ne (Or.inr (by decide))).trans ((kup_ne (Or.inr (by decide))).trans ((kup_ne (Or.inr (by decide))).trans ((kup_ne (Or.inr (by decide))).trans ((kup_ne (Or.inr (by decide))).trans ((kup_ne (Or.inr (by decide))).trans ((kup_ne (Or.inr (by decide))).trans ((kup_ne (Or.inr (by decide))).trans (hp 7)))))))))) ((kup_ne (Or.inr (by decide))).trans ((kup_ne (Or.inr (by decide))).trans ((kup_ne (Or.inr (by decide))).trans ((kup_ne (Or.inr (by decide))).trans ((kup_ne (Or.inr (by decide))).trans ((kup_ne (Or.inr (by decide))).trans ((kup_ne (Or.inr (by decide))).trans ((kup_ne (Or.inr (by decide))).trans ((kup_ne (Or.inr (by decide))).trans (hp 8)))))))))) h_w h_xx h_yy h_zz ((kup_ne (Or.inr (by decide))).trans ((kup_ne (Or.inr (by decide))).trans ((kup_ne (Or.inr (by decide))).trans ((kup_ne (Or.inr (by decide))).trans ((kup_ne (Or.inr (by decide))).trans ((kup_ne (Or.inr (by decide))).trans ((kup_ne (Or.inr (by decide))).trans ((kup_ne (Or.inr (by decide))).trans kup_self)))))))) (hF_3.ty tq_1) ((kup_ne (Or.inr (by decide))).trans ((kup_ne (Or.inr (by decide))).trans ((kup_ne (Or.inr (by decide))).trans ((kup_ne (Or.inr (by decide))).trans ((kup_ne (Or.inr (by decide))).trans ((kup_ne (Or.inr (by decide))).trans ((kup_ne (Or.inr (by decide))).trans kup_self))))))) tq_3 ((kup_ne (Or.inr (by decide))).trans ((kup_ne (Or.inr (by decide))).trans ((kup_ne (Or.inr (by decide))).trans ((kup_ne (Or.inr (by decide))).trans ((kup_ne (Or.inr (by decide))).trans ((kup_ne (Or.inr (by decide))).trans ((kup_ne (Or.inr (by decide))).trans ((kup_ne (Or.inr (by decide))).trans ((kup_ne (Or.inr (by decide))).trans (hp 11)))))))))) ((kup_ne (Or.inr (by decide))).trans ((kup_ne (Or.inr (by decide))).trans ((kup_ne (Or.inr (by decide))).trans ((kup_ne (Or.inr (by decide))).trans ((kup_ne (Or.inr (by decide))).trans ((kup_ne (Or.inr (by decide))).trans ((kup_ne (Or.inr (by decide))).trans ((kup_ne (Or.inr (by decide))).trans ((kup_ne (Or.inr (by decide))).trans (hp 12)))))))))) ((kup_ne (Or.inr (by decide))).trans ((kup_ne (Or.inr (by decide))).trans ((kup_ne (Or.inr (by decide))).trans ((kup_ne (Or.inr (by decide))).trans ((kup_ne (Or.inr (by decide))).trans ((kup_ne (Or.inr (by decide))).trans ((kup_ne (Or.inr (by decide))).trans ((kup_ne (Or.inr (by decide))).trans ((kup_ne (Or.inr (by decide))).trans (hp 13)))))))))) ((kup_ne (Or.inr (by decide))).trans ((kup_ne (Or.inr (by decide))).trans ((kup_ne (Or.inr (by decide))).trans ((kup_ne (Or.inr (by decide))).trans ((kup_ne (Or.inr (by decide))).trans ((kup_ne (Or.inr (by decide))).trans kup_self)))))) ((kup_ne (Or.inr (by decide))).trans ((kup_ne (Or.inr (by decide))).trans ((kup_ne (Or.inr (by decide))).trans ((kup_ne (Or.inr (by decide))).trans ((kup_ne (Or.inr (by decide))).trans ((kup_ne (Or.inr (by decide))).trans ((kup_ne (Or.inr (by decide))).trans ((kup_ne (Or.inr (by decide))).trans ((kup_ne (Or.inr (by decide))).trans (hp 15))))))))))⟩, by rw [ht]; exact hP, va_K.moved hW9.alike hK, hD⟩, hS.F ht⟩) hS.2.2 dX0_init_85
set_option maxHeartbeats 4000000 in
set_option maxRecDepth 100000 in
theorem k_RowInit0 (l : Launch) (dC : Nat → ClassId) (dI : Nat → Nat → Nat) (dA : Nat → ClassId) (ad sz : Nat) (τ : Nat → Nat → Nat) (pv : Nat → Nat → Value) (L : List Nat) (f : Nat → va_E) (hI : kI dA τ pv L f) (a qa pn pp pq : Nat) (hh_a : τ 0 a = 41) (hp : ∀ k, pv a k = kr0.getD k .null) (h_qa : τ 0 qa = 1) (h_pn : τ 0 pn = 4) (h_pp : τ 0 pp = 4) (h_pq : τ 0 pq = 4) : Met l yX1_init wsX1_init ({ frames := 2, cells := 5, slots := 15, locals := 32 } : Room) (va_Pc [.ref a, .ref qa, .null, .ref pn, .ref pp, .ref pq] (kB dC dI dA ad sz L f)) (va_Qv (fun u => ∃ τ2 pv2, kFr kPt τ pv τ2 pv2 ∧ τ2 0 a = 41 ∧ kRaw τ2 pv2 a qa 0 ∧ kI dA τ2 pv2 u.1 u.2) (kR dC dI dA (va_A (va_pl L f) sz)) (va_A (va_pl L f) sz)) 5 15 (va_A (va_pl L f) sz) := by
  refine Met.ofW (cc := cX1_init) (maxL := 6) (ret := none) (by decide) rfl ?_
  intro p e s m args below meth c s₁ B hml hv
  obtain ⟨rfl, hsz, hP, hK, hD0, hE⟩ := hv
  have hx := B.exec
  have hb := B.bytes
  have hr := B.returns
  have hts := atoms_spec (ws := wsX1_init) B.pre
  have hown : s.vm.findClass RX1 = some m.cls := findClass_of_methodNamed B.named
  have hlocks := B.notSynchronized
  have hin : meth.name = "<init>" := (name_of_methodNamed B.named B.method).1
  have i_X2 : ∀ w ∈ u_ws RX2 TX2 3, w ∈ wsX1_init := by decide +kernel
  have i_X1 : ∀ w ∈ u_ws RX1 TX1 18, w ∈ wsX1_init := by decide +kernel
  subst hsz
  have hD := hD0.self (sz := s.heap.size)
  generalize hAe : va_A (va_pl L f) s.heap.size = A at hD hE ⊢
  have hA : ∀ q : Nat, s.heap.size ≤ q → A q := fun q h => by rw [← hAe]; exact Or.inr h
  have hS : va_S A s.heap s.heap [] := va_S.rf
  have hP : va_P (dC, dI) vwCl (va_pl L f) s.heap := hP
  have hK : va_K (dC, dI) vwCl (tyA dA) s := hK
  have hl := lv_entry ([.ref a, .ref qa, .null, .ref pn, .ref pp, .ref pq]) (n := 6) (Nat.le_of_ble_eq_true rfl)
  rw [lg_entry_eq]
  generalize (lg_sl ([.ref a, .ref qa, .null, .ref pn, .ref pp, .ref pq]) ++ List.replicate (6 - (lg_sl ([.ref a, .ref qa, .null, .ref pn, .ref pp, .ref pq])).length) Slot.unset).toArray = ls at hl ⊢
  have hl : lv_has ls 6 [(0, .ref a), (1, .ref qa), (2, .null), (3, .ref pn), (4, .ref pp), (5, .ref pq)] := hl
  have hF : kFr kPt τ pv τ pv := kFr.rf
  refine lv_aload_n hx hb dX1_init_0 rfl (lv_at hl 0 rfl) ?_
  refine W.objInit hx hb hown (hts (.methodLink RX1 3 objectInit) (by decide +kernel)) (hts (.instanceMethod objectInit) (by decide +kernel)) (hts (.code objectInit ⟨#[0xb1]⟩ 1 none) (by decide +kernel)) rfl (by rw [hml]; exact hl.1) rfl dX1_init_1 (Nat.le_of_ble_eq_true rfl) (Nat.le_of_ble_eq_true rfl) ?_
  refine W.eq (g2 := F0 m 4 ls []) rfl ?_
  refine lv_aload_n hx hb dX1_init_4 rfl (lv_at hl 0 rfl) ?_
  refine kp_new (ci := 3) (fs := [.float 0, .float 0, .float 0]) (C := RX2) (T := TX2) (N := 3) hx hb hts i_X2 tyX2 tyX2_ok hown (hts (.classLink RX1 9 RX2) (by decide +kernel)) (hts (.instantiable RX2 3) (by decide +kernel)) (hts (.initialized RX2) (by decide +kernel)) hK hP hD hS hA rfl (fun j hj => by rcases (show j = 0 ∨ j = 1 ∨ j = 2 by omega) with rfl | rfl | rfl <;> rfl) (Nat.le_of_ble_eq_true rfl) (Nat.le_of_ble_eq_true rfl) dX1_init_5 (fun q_1 H hqL hP hD hS => ?_)
  have h0q_1 : τ 0 q_1 = 0 := hI.t0 hqL
  have hI := hI.newV 4 (by decide) hqL
  obtain ⟨τ_1, hτ_1⟩ : ∃ z, z = kxt τ q_1 (fun j => if j = 0 then 4 else 0) := ⟨_, rfl⟩
  rw [← hτ_1] at hI
  have hF_1 : kFr kPt τ pv τ_1 pv := by rw [hτ_1]; exact kFr.ret (Or.inl h0q_1)
  have tq_1 : τ_1 0 q_1 = 4 := by rw [hτ_1]; exact kxt_self 0
  have hh_a : τ_1 0 a = 41 := by rw [hτ_1]; exact (kxt_ne (fun e9 => by rw [← e9, hh_a] at h0q_1; cases h0q_1) 0).trans hh_a
  have hF := hF.trans hF_1
  refine W.widen (k := 1) (n := 3) (by omega) (by omega) ?_
  refine lv_dup hx hb dX1_init_8 rfl ?_
  refine kd_callv (va_runIN (host := RX3) (As := []) (rest := [.ref q_1, .ref a]) ⟨hx, hb, hml, hown, hts⟩ (k_VecInit4 l dC dI dA ad _ τ_1 pv _ _ hI q_1 tq_1) ⟨va_cnB 0 hts gX1_init_X2_init_n11 rfl rfl rfl (hE.nest RX1 11 yX2_init (by decide +kernel)) (hts (.initialized RX2) (by decide +kernel)) (by decide +kernel) ⟨Nat.le_of_ble_eq_true rfl, Nat.le_of_ble_eq_true rfl⟩, rfl, (hts (.instanceMethod yX2_init) (by decide +kernel))⟩ (kd_preS hP hD hK hS hA hE) rfl rfl hl.1 rfl (lv_room (Nat.le_of_ble_eq_true rfl)) dX1_init_9 ⟨Nat.le_of_ble_eq_true rfl, Nat.le_of_ble_eq_true rfl⟩) hD hS hA (fun u_2 H locs hw hP hD hS => ?_)
  have hI := hw
  refine kp_putF (v := .ref q_1) (ty := .object "IslandSolver$Vec") hx hb hts i_X1 tyX1 tyX1_ok nmX1 hown hK hP hD hS hI hh_a rfl rfl 2 (by decide) (by decide) (hts (.fieldLink RX1 12 "IslandSolver$Row" "n" "LIslandSolver$Vec;") (by decide +kernel)) (fun _ h9 => h9) rfl hin rfl (by decide +kernel) rfl rfl rfl (kv_S (by decide) ⟨some q_1, rfl⟩) dX1_init_12 (fun f H locs hI hP hD hS => ?_)
  have hF := hF.trans (kFr.upr (P := kPt) (τ := τ_1) (pv := pv) (a := a) (w := .ref q_1) (k := 2) (Or.inr (by rw [hh_a]; decide)))
  refine lv_aload_n hx hb dX1_init_15 rfl (lv_at hl 0 rfl) ?_
  refine kp_new (ci := 3) (fs := [.float 0, .float 0, .float 0]) (C := RX2) (T := TX2) (N := 3) hx hb hts i_X2 tyX2 tyX2_ok hown (hts (.classLink RX1 9 RX2) (by decide +kernel)) (hts (.instantiable RX2 3) (by decide +kernel)) (hts (.initialized RX2) (by decide +kernel)) hK hP hD hS hA rfl (fun j hj => by rcases (show j = 0 ∨ j = 1 ∨ j = 2 by omega) with rfl | rfl | rfl <;> rfl) (Nat.le_of_ble_eq_true rfl) (Nat.le_of_ble_eq_true rfl) dX1_init_16 (fun q_3 H hqL hP hD hS => ?_)
  have h0q_3 : τ_1 0 q_3 = 0 := hI.t0 hqL
  have hI := hI.newV 4 (by decide) hqL
  obtain ⟨τ_3, hτ_3⟩ : ∃ z, z = kxt τ_1 q_3 (fun j => if j = 0 then 4 else 0) := ⟨_, rfl⟩
  rw [← hτ_3] at hI
  have hF_3 : kFr kPt τ_1 (kup pv a 2 (.ref q_1)) τ_3 (kup pv a 2 (.ref q_1)) := by rw [hτ_3]; exact kFr.ret (Or.inl h0q_3)
  have tq_3 : τ_3 0 q_3 = 4 := by rw [hτ_3]; exact kxt_self 0
  have hh_a : τ_3 0 a = 41 := by rw [hτ_3]; exact (kxt_ne (fun e9 => by rw [← e9, hh_a] at h0q_3; cases h0q_3) 0).trans hh_a
  have hF := hF.trans hF_3
  refine W.widen (k := 2) (n := 6) (by omega) (by omega) ?_
  refine lv_dup hx hb dX1_init_19 rfl ?_
  refine kd_callv (va_runIN (host := RX3) (As := []) (rest := [.ref q_3, .ref a]) ⟨hx, hb, hml, hown, hts⟩ (k_VecInit4 l dC dI dA ad _ τ_3 (kup pv a 2 (.ref q_1)) _ _ hI q_3 tq_3) ⟨va_cnB 0 hts gX1_init_X2_init_n11 rfl rfl rfl (hE.nest RX1 11 yX2_init (by decide +kernel)) (hts (.initialized RX2) (by decide +kernel)) (by decide +kernel) ⟨Nat.le_of_ble_eq_true rfl, Nat.le_of_ble_eq_true rfl⟩, rfl, (hts (.instanceMethod yX2_init) (by decide +kernel))⟩ (kd_preS hP hD hK hS hA hE) rfl rfl hl.1 rfl (lv_room (Nat.le_of_ble_eq_true rfl)) dX1_init_20 ⟨Nat.le_of_ble_eq_true rfl, Nat.le_of_ble_eq_true rfl⟩) hD hS hA (fun u_4 H locs hw hP hD hS => ?_)
  have hI := hw
  refine kp_putF (v := .ref q_3) (ty := .object "IslandSolver$Vec") hx hb hts i_X1 tyX1 tyX1_ok nmX1 hown hK hP hD hS hI hh_a rfl rfl 3 (by decide) (by decide) (hts (.fieldLink RX1 18 "IslandSolver$Row" "p" "LIslandSolver$Vec;") (by decide +kernel)) (fun _ h9 => h9) rfl hin rfl (by decide +kernel) rfl rfl rfl (kv_S (by decide) ⟨some q_3, rfl⟩) dX1_init_23 (fun f H locs hI hP hD hS => ?_)
  have hF := hF.trans (kFr.upr (P := kPt) (τ := τ_3) (pv := (kup pv a 2 (.ref q_1))) (a := a) (w := .ref q_3) (k := 3) (Or.inr (by rw [hh_a]; decide)))
  refine lv_aload_n hx hb dX1_init_26 rfl (lv_at hl 0 rfl) ?_
  refine kp_new (ci := 3) (fs := [.float 0, .float 0, .float 0]) (C := RX2) (T := TX2) (N := 3) hx hb hts i_X2 tyX2 tyX2_ok hown (hts (.classLink RX1 9 RX2) (by decide +kernel)) (hts (.instantiable RX2 3) (by decide +kernel)) (hts (.initialized RX2) (by decide +kernel)) hK hP hD hS hA rfl (fun j hj => by rcases (show j = 0 ∨ j = 1 ∨ j = 2 by omega) with rfl | rfl | rfl <;> rfl) (Nat.le_of_ble_eq_true rfl) (Nat.le_of_ble_eq_true rfl) dX1_init_27 (fun q_5 H hqL hP hD hS => ?_)
  have h0q_5 : τ_3 0 q_5 = 0 := hI.t0 hqL
  have hI := hI.newV 4 (by decide) hqL
  obtain ⟨τ_5, hτ_5⟩ : ∃ z, z = kxt τ_3 q_5 (fun j => if j = 0 then 4 else 0) := ⟨_, rfl⟩
  rw [← hτ_5] at hI
  have hF_5 : kFr kPt τ_3 (kup (kup pv a 2 (.ref q_1)) a 3 (.ref q_3)) τ_5 (kup (kup pv a 2 (.ref q_1)) a 3 (.ref q_3)) := by rw [hτ_5]; exact kFr.ret (Or.inl h0q_5)
  have tq_5 : τ_5 0 q_5 = 4 := by rw [hτ_5]; exact kxt_self 0
  have hh_a : τ_5 0 a = 41 := by rw [hτ_5]; exact (kxt_ne (fun e9 => by rw [← e9, hh_a] at h0q_5; cases h0q_5) 0).trans hh_a
  have hF := hF.trans hF_5
  refine W.widen (k := 3) (n := 9) (by omega) (by omega) ?_
  refine lv_dup hx hb dX1_init_30 rfl ?_
  refine kd_callv (va_runIN (host := RX3) (As := []) (rest := [.ref q_5, .ref a]) ⟨hx, hb, hml, hown, hts⟩ (k_VecInit4 l dC dI dA ad _ τ_5 (kup (kup pv a 2 (.ref q_1)) a 3 (.ref q_3)) _ _ hI q_5 tq_5) ⟨va_cnB 0 hts gX1_init_X2_init_n11 rfl rfl rfl (hE.nest RX1 11 yX2_init (by decide +kernel)) (hts (.initialized RX2) (by decide +kernel)) (by decide +kernel) ⟨Nat.le_of_ble_eq_true rfl, Nat.le_of_ble_eq_true rfl⟩, rfl, (hts (.instanceMethod yX2_init) (by decide +kernel))⟩ (kd_preS hP hD hK hS hA hE) rfl rfl hl.1 rfl (lv_room (Nat.le_of_ble_eq_true rfl)) dX1_init_31 ⟨Nat.le_of_ble_eq_true rfl, Nat.le_of_ble_eq_true rfl⟩) hD hS hA (fun u_6 H locs hw hP hD hS => ?_)
  have hI := hw
  refine kp_putF (v := .ref q_5) (ty := .object "IslandSolver$Vec") hx hb hts i_X1 tyX1 tyX1_ok nmX1 hown hK hP hD hS hI hh_a rfl rfl 4 (by decide) (by decide) (hts (.fieldLink RX1 21 "IslandSolver$Row" "q" "LIslandSolver$Vec;") (by decide +kernel)) (fun _ h9 => h9) rfl hin rfl (by decide +kernel) rfl rfl rfl (kv_S (by decide) ⟨some q_5, rfl⟩) dX1_init_34 (fun f H locs hI hP hD hS => ?_)
  have hF := hF.trans (kFr.upr (P := kPt) (τ := τ_5) (pv := (kup (kup pv a 2 (.ref q_1)) a 3 (.ref q_3))) (a := a) (w := .ref q_5) (k := 4) (Or.inr (by rw [hh_a]; decide)))
  refine lv_aload_n hx hb dX1_init_37 rfl (lv_at hl 0 rfl) ?_
  refine kp_new (ci := 3) (fs := [.float 0, .float 0, .float 0]) (C := RX2) (T := TX2) (N := 3) hx hb hts i_X2 tyX2 tyX2_ok hown (hts (.classLink RX1 9 RX2) (by decide +kernel)) (hts (.instantiable RX2 3) (by decide +kernel)) (hts (.initialized RX2) (by decide +kernel)) hK hP hD hS hA rfl (fun j hj => by rcases (show j = 0 ∨ j = 1 ∨ j = 2 by omega) with rfl | rfl | rfl <;> rfl) (Nat.le_of_ble_eq_true rfl) (Nat.le_of_ble_eq_true rfl) dX1_init_38 (fun q_7 H hqL hP hD hS => ?_)
  have h0q_7 : τ_5 0 q_7 = 0 := hI.t0 hqL
  have hI := hI.newV 5 (by decide) hqL
  obtain ⟨τ_7, hτ_7⟩ : ∃ z, z = kxt τ_5 q_7 (fun j => if j = 0 then 5 else 0) := ⟨_, rfl⟩
  rw [← hτ_7] at hI
  have hF_7 : kFr kPt τ_5 (kup (kup (kup pv a 2 (.ref q_1)) a 3 (.ref q_3)) a 4 (.ref q_5)) τ_7 (kup (kup (kup pv a 2 (.ref q_1)) a 3 (.ref q_3)) a 4 (.ref q_5)) := by rw [hτ_7]; exact kFr.ret (Or.inl h0q_7)
  have tq_7 : τ_7 0 q_7 = 5 := by rw [hτ_7]; exact kxt_self 0
  have hh_a : τ_7 0 a = 41 := by rw [hτ_7]; exact (kxt_ne (fun e9 => by rw [← e9, hh_a] at h0q_7; cases h0q_7) 0).trans hh_a
  have hF := hF.trans hF_7
  refine W.widen (k := 4) (n := 12) (by omega) (by omega) ?_
  refine lv_dup hx hb dX1_init_41 rfl ?_
  refine kd_callv (va_runIN (host := RX3) (As := []) (rest := [.ref q_7, .ref a]) ⟨hx, hb, hml, hown, hts⟩ (k_VecInit5 l dC dI dA ad _ τ_7 (kup (kup (kup pv a 2 (.ref q_1)) a 3 (.ref q_3)) a 4 (.ref q_5)) _ _ hI q_7 tq_7) ⟨va_cnB 0 hts gX1_init_X2_init_n11 rfl rfl rfl (hE.nest RX1 11 yX2_init (by decide +kernel)) (hts (.initialized RX2) (by decide +kernel)) (by decide +kernel) ⟨Nat.le_of_ble_eq_true rfl, Nat.le_of_ble_eq_true rfl⟩, rfl, (hts (.instanceMethod yX2_init) (by decide +kernel))⟩ (kd_preS hP hD hK hS hA hE) rfl rfl hl.1 rfl (lv_room (Nat.le_of_ble_eq_true rfl)) dX1_init_42 ⟨Nat.le_of_ble_eq_true rfl, Nat.le_of_ble_eq_true rfl⟩) hD hS hA (fun u_8 H locs hw hP hD hS => ?_)
  have hI := hw
  refine kp_putF (v := .ref q_7) (ty := .object "IslandSolver$Vec") hx hb hts i_X1 tyX1 tyX1_ok nmX1 hown hK hP hD hS hI hh_a rfl rfl 15 (by decide) (by decide) (hts (.fieldLink RX1 24 "IslandSolver$Row" "turnA" "LIslandSolver$Vec;") (by decide +kernel)) (fun _ h9 => h9) rfl hin rfl (by decide +kernel) rfl rfl rfl (kv_S (by decide) ⟨some q_7, rfl⟩) dX1_init_45 (fun f H locs hI hP hD hS => ?_)
  have hF := hF.trans (kFr.upr (P := kPt) (τ := τ_7) (pv := (kup (kup (kup pv a 2 (.ref q_1)) a 3 (.ref q_3)) a 4 (.ref q_5))) (a := a) (w := .ref q_7) (k := 15) (Or.inr (by rw [hh_a]; decide)))
  refine lv_aload_n hx hb dX1_init_48 rfl (lv_at hl 0 rfl) ?_
  refine kp_new (ci := 3) (fs := [.float 0, .float 0, .float 0]) (C := RX2) (T := TX2) (N := 3) hx hb hts i_X2 tyX2 tyX2_ok hown (hts (.classLink RX1 9 RX2) (by decide +kernel)) (hts (.instantiable RX2 3) (by decide +kernel)) (hts (.initialized RX2) (by decide +kernel)) hK hP hD hS hA rfl (fun j hj => by rcases (show j = 0 ∨ j = 1 ∨ j = 2 by omega) with rfl | rfl | rfl <;> rfl) (Nat.le_of_ble_eq_true rfl) (Nat.le_of_ble_eq_true rfl) dX1_init_49 (fun q_9 H hqL hP hD hS => ?_)
  have h0q_9 : τ_7 0 q_9 = 0 := hI.t0 hqL
  have hI := hI.newV 5 (by decide) hqL
  obtain ⟨τ_9, hτ_9⟩ : ∃ z, z = kxt τ_7 q_9 (fun j => if j = 0 then 5 else 0) := ⟨_, rfl⟩
  rw [← hτ_9] at hI
  have hF_9 : kFr kPt τ_7 (kup (kup (kup (kup pv a 2 (.ref q_1)) a 3 (.ref q_3)) a 4 (.ref q_5)) a 15 (.ref q_7)) τ_9 (kup (kup (kup (kup pv a 2 (.ref q_1)) a 3 (.ref q_3)) a 4 (.ref q_5)) a 15 (.ref q_7)) := by rw [hτ_9]; exact kFr.ret (Or.inl h0q_9)
  have tq_9 : τ_9 0 q_9 = 5 := by rw [hτ_9]; exact kxt_self 0
  have hh_a : τ_9 0 a = 41 := by rw [hτ_9]; exact (kxt_ne (fun e9 => by rw [← e9, hh_a] at h0q_9; cases h0q_9) 0).trans hh_a
  have hF := hF.trans hF_9
  refine W.widen (k := 5) (n := 15) (by omega) (by omega) ?_
  refine lv_dup hx hb dX1_init_52 rfl ?_
  refine kd_callv (va_runIN (host := RX3) (As := []) (rest := [.ref q_9, .ref a]) ⟨hx, hb, hml, hown, hts⟩ (k_VecInit5 l dC dI dA ad _ τ_9 (kup (kup (kup (kup pv a 2 (.ref q_1)) a 3 (.ref q_3)) a 4 (.ref q_5)) a 15 (.ref q_7)) _ _ hI q_9 tq_9) ⟨va_cnB 0 hts gX1_init_X2_init_n11 rfl rfl rfl (hE.nest RX1 11 yX2_init (by decide +kernel)) (hts (.initialized RX2) (by decide +kernel)) (by decide +kernel) ⟨Nat.le_of_ble_eq_true rfl, Nat.le_of_ble_eq_true rfl⟩, rfl, (hts (.instanceMethod yX2_init) (by decide +kernel))⟩ (kd_preS hP hD hK hS hA hE) rfl rfl hl.1 rfl (lv_room (Nat.le_of_ble_eq_true rfl)) dX1_init_53 ⟨Nat.le_of_ble_eq_true rfl, Nat.le_of_ble_eq_true rfl⟩) hD hS hA (fun u_10 H locs hw hP hD hS => ?_)
  have hI := hw
  refine kp_putF (v := .ref q_9) (ty := .object "IslandSolver$Vec") hx hb hts i_X1 tyX1 tyX1_ok nmX1 hown hK hP hD hS hI hh_a rfl rfl 16 (by decide) (by decide) (hts (.fieldLink RX1 27 "IslandSolver$Row" "turnB" "LIslandSolver$Vec;") (by decide +kernel)) (fun _ h9 => h9) rfl hin rfl (by decide +kernel) rfl rfl rfl (kv_S (by decide) ⟨some q_9, rfl⟩) dX1_init_56 (fun f H locs hI hP hD hS => ?_)
  have hF := hF.trans (kFr.upr (P := kPt) (τ := τ_9) (pv := (kup (kup (kup (kup pv a 2 (.ref q_1)) a 3 (.ref q_3)) a 4 (.ref q_5)) a 15 (.ref q_7))) (a := a) (w := .ref q_9) (k := 16) (Or.inr (by rw [hh_a]; decide)))
  refine lv_aload_n hx hb dX1_init_59 rfl (lv_at hl 0 rfl) ?_
  refine lv_aload_n hx hb dX1_init_60 rfl (lv_at hl 1 rfl) ?_
  refine kp_putF (v := .ref qa) (ty := .object "IslandSolver$Body") hx hb hts i_X1 tyX1 tyX1_ok nmX1 hown hK hP hD hS hI hh_a rfl rfl 0 (by decide) (by decide) (hts (.fieldLink RX1 30 "IslandSolver$Row" "a" "LIslandSolver$Body;") (by decide +kernel)) (fun _ h9 => h9) rfl hin rfl (by decide +kernel) rfl rfl rfl (kv_S (by decide) ⟨some qa, rfl⟩) dX1_init_61 (fun f H locs hI hP hD hS => ?_)
  have hF := hF.trans (kFr.upr (P := kPt) (τ := τ_9) (pv := (kup (kup (kup (kup (kup pv a 2 (.ref q_1)) a 3 (.ref q_3)) a 4 (.ref q_5)) a 15 (.ref q_7)) a 16 (.ref q_9))) (a := a) (w := .ref qa) (k := 0) (Or.inr (by rw [hh_a]; decide)))
  refine lv_aload_n hx hb dX1_init_64 rfl (lv_at hl 0 rfl) ?_
  refine lv_aload_nN hx hb dX1_init_65 rfl (lv_at hl 2 rfl) ?_
  refine kp_putF (v := .null) (ty := .object "IslandSolver$Body") hx hb hts i_X1 tyX1 tyX1_ok nmX1 hown hK hP hD hS hI hh_a rfl rfl 1 (by decide) (by decide) (hts (.fieldLink RX1 34 "IslandSolver$Row" "b" "LIslandSolver$Body;") (by decide +kernel)) (fun _ h9 => h9) rfl hin rfl (by decide +kernel) rfl rfl rfl (kv_S (by decide) ⟨none, rfl⟩) dX1_init_66 (fun f H locs hI hP hD hS => ?_)
  have hF := hF.trans (kFr.upr (P := kPt) (τ := τ_9) (pv := (kup (kup (kup (kup (kup (kup pv a 2 (.ref q_1)) a 3 (.ref q_3)) a 4 (.ref q_5)) a 15 (.ref q_7)) a 16 (.ref q_9)) a 0 (.ref qa))) (a := a) (w := .null) (k := 1) (Or.inr (by rw [hh_a]; decide)))
  refine lv_aload_n hx hb dX1_init_69 rfl (lv_at hl 0 rfl) ?_
  refine kp_get hx hb hts i_X1 hown hK hP hI hh_a rfl rfl 2 (by decide) (by decide) (hts (.fieldLink RX1 12 "IslandSolver$Row" "n" "LIslandSolver$Vec;") (by decide +kernel)) (fun _ h9 => h9) dX1_init_70 (kq_P (v0 := .ref q_1) rfl ((kup_ne (Or.inr (by decide))).trans ((kup_ne (Or.inr (by decide))).trans ((kup_ne (Or.inr (by decide))).trans ((kup_ne (Or.inr (by decide))).trans ((kup_ne (Or.inr (by decide))).trans ((kup_ne (Or.inr (by decide))).trans kup_self)))))) fun h_12 => ?_)
  refine lv_aload_n hx hb dX1_init_73 rfl (lv_at hl 3 rfl) ?_
  refine kp_get hx hb hts i_X2 hown hK hP hI (hF_9.ty (hF_7.ty (hF_5.ty (hF_3.ty (hF_1.ty h_pn))))) rfl rfl 0 (by decide) (by decide) (hts (.fieldLink RX1 37 "IslandSolver$Vec" "x" "F") (by decide +kernel)) (fun _ h9 => h9) dX1_init_74 (kq_F (cd := 1115684864) (by decide) fun x_13 h_14 => ?_)
  refine lv_aload_n hx hb dX1_init_77 rfl (lv_at hl 3 rfl) ?_
  refine kp_get hx hb hts i_X2 hown hK hP hI (hF_9.ty (hF_7.ty (hF_5.ty (hF_3.ty (hF_1.ty h_pn))))) rfl rfl 1 (by decide) (by decide) (hts (.fieldLink RX1 41 "IslandSolver$Vec" "y" "F") (by decide +kernel)) (fun _ h9 => h9) dX1_init_78 (kq_F (cd := 1115684864) (by decide) fun x_15 h_16 => ?_)
  refine lv_aload_n hx hb dX1_init_81 rfl (lv_at hl 3 rfl) ?_
  refine kp_get hx hb hts i_X2 hown hK hP hI (hF_9.ty (hF_7.ty (hF_5.ty (hF_3.ty (hF_1.ty h_pn))))) rfl rfl 2 (by decide) (by decide) (hts (.fieldLink RX1 44 "IslandSolver$Vec" "z" "F") (by decide +kernel)) (fun _ h9 => h9) dX1_init_82 (kq_F (cd := 1115684864) (by decide) fun x_17 h_18 => ?_)
  refine kd_callv (va_runV (As := [.float x_13, .float x_15, .float x_17]) (rest := []) ⟨hx, hb, hml, hown, hts⟩ (k_put4 l dC dI dA ad _ τ_9 (kup (kup (kup (kup (kup (kup (kup pv a 2 (.ref q_1)) a 3 (.ref q_3)) a 4 (.ref q_5)) a 15 (.ref q_7)) a 16 (.ref q_9)) a 0 (.ref qa)) a 1 (.null)) _ _ hI q_1 (hF_9.ty (hF_7.ty (hF_5.ty (hF_3.ty tq_1)))) x_13 h_14 x_15 h_16 x_17 h_18) (cwV 3 hts gX1_init_X2_put rfl rfl rfl (by decide +kernel) ⟨Nat.le_of_ble_eq_true rfl, Nat.le_of_ble_eq_true rfl⟩) (kd_preV hP hD hK hS hA hE hI (hF_9.ty (hF_7.ty (hF_5.ty (hF_3.ty tq_1)))) rfl rfl) rfl rfl hl.1 rfl (lv_room (Nat.le_of_ble_eq_true rfl)) dX1_init_85 ⟨Nat.le_of_ble_eq_true rfl, Nat.le_of_ble_eq_true rfl⟩) hD hS hA (fun u_19 H locs hw hP hD hS => ?_)
  have hI := hw
  refine lv_aload_n hx hb dX1_init_88 rfl (lv_at hl 0 rfl) ?_
  refine kp_get hx hb hts i_X1 hown hK hP hI hh_a rfl rfl 3 (by decide) (by decide) (hts (.fieldLink RX1 18 "IslandSolver$Row" "p" "LIslandSolver$Vec;") (by decide +kernel)) (fun _ h9 => h9) dX1_init_89 (kq_P (v0 := .ref q_3) rfl ((kup_ne (Or.inr (by decide))).trans ((kup_ne (Or.inr (by decide))).trans ((kup_ne (Or.inr (by decide))).trans ((kup_ne (Or.inr (by decide))).trans ((kup_ne (Or.inr (by decide))).trans kup_self))))) fun h_21 => ?_)
  refine lv_aload hx hb dX1_init_92 (lv_at hl 4 rfl) ?_
  refine kp_get hx hb hts i_X2 hown hK hP hI (hF_9.ty (hF_7.ty (hF_5.ty (hF_3.ty (hF_1.ty h_pp))))) rfl rfl 0 (by decide) (by decide) (hts (.fieldLink RX1 37 "IslandSolver$Vec" "x" "F") (by decide +kernel)) (fun _ h9 => h9) dX1_init_94 (kq_F (cd := 1115684864) (by decide) fun x_22 h_23 => ?_)
  refine lv_aload hx hb dX1_init_97 (lv_at hl 4 rfl) ?_
  refine kp_get hx hb hts i_X2 hown hK hP hI (hF_9.ty (hF_7.ty (hF_5.ty (hF_3.ty (hF_1.ty h_pp))))) rfl rfl 1 (by decide) (by decide) (hts (.fieldLink RX1 41 "IslandSolver$Vec" "y" "F") (by decide +kernel)) (fun _ h9 => h9) dX1_init_99 (kq_F (cd := 1115684864) (by decide) fun x_24 h_25 => ?_)
  refine lv_aload hx hb dX1_init_102 (lv_at hl 4 rfl) ?_
  refine kp_get hx hb hts i_X2 hown hK hP hI (hF_9.ty (hF_7.ty (hF_5.ty (hF_3.ty (hF_1.ty h_pp))))) rfl rfl 2 (by decide) (by decide) (hts (.fieldLink RX1 44 "IslandSolver$Vec" "z" "F") (by decide +kernel)) (fun _ h9 => h9) dX1_init_104 (kq_F (cd := 1115684864) (by decide) fun x_26 h_27 => ?_)
  refine kd_callv (va_runV (As := [.float x_22, .float x_24, .float x_26]) (rest := []) ⟨hx, hb, hml, hown, hts⟩ (k_put4 l dC dI dA ad _ τ_9 (kup (kup (kup (kup (kup (kup (kup pv a 2 (.ref q_1)) a 3 (.ref q_3)) a 4 (.ref q_5)) a 15 (.ref q_7)) a 16 (.ref q_9)) a 0 (.ref qa)) a 1 (.null)) _ _ hI q_3 (hF_9.ty (hF_7.ty (hF_5.ty tq_3))) x_22 h_23 x_24 h_25 x_26 h_27) (cwV 3 hts gX1_init_X2_put rfl rfl rfl (by decide +kernel) ⟨Nat.le_of_ble_eq_true rfl, Nat.le_of_ble_eq_true rfl⟩) (kd_preV hP hD hK hS hA hE hI (hF_9.ty (hF_7.ty (hF_5.ty tq_3))) rfl rfl) rfl rfl hl.1 rfl (lv_room (Nat.le_of_ble_eq_true rfl)) dX1_init_107 ⟨Nat.le_of_ble_eq_true rfl, Nat.le_of_ble_eq_true rfl⟩) hD hS hA (fun u_28 H locs hw hP hD hS => ?_)
  have hI := hw
  refine lv_aload_n hx hb dX1_init_110 rfl (lv_at hl 0 rfl) ?_
  refine kp_get hx hb hts i_X1 hown hK hP hI hh_a rfl rfl 4 (by decide) (by decide) (hts (.fieldLink RX1 21 "IslandSolver$Row" "q" "LIslandSolver$Vec;") (by decide +kernel)) (fun _ h9 => h9) dX1_init_111 (kq_P (v0 := .ref q_5) rfl ((kup_ne (Or.inr (by decide))).trans ((kup_ne (Or.inr (by decide))).trans ((kup_ne (Or.inr (by decide))).trans ((kup_ne (Or.inr (by decide))).trans kup_self)))) fun h_30 => ?_)
  refine lv_aload hx hb dX1_init_114 (lv_at hl 5 rfl) ?_
  refine kp_get hx hb hts i_X2 hown hK hP hI (hF_9.ty (hF_7.ty (hF_5.ty (hF_3.ty (hF_1.ty h_pq))))) rfl rfl 0 (by decide) (by decide) (hts (.fieldLink RX1 37 "IslandSolver$Vec" "x" "F") (by decide +kernel)) (fun _ h9 => h9) dX1_init_116 (kq_F (cd := 1115684864) (by decide) fun x_31 h_32 => ?_)
  refine lv_aload hx hb dX1_init_119 (lv_at hl 5 rfl) ?_
  refine kp_get hx hb hts i_X2 hown hK hP hI (hF_9.ty (hF_7.ty (hF_5.ty (hF_3.ty (hF_1.ty h_pq))))) rfl rfl 1 (by decide) (by decide) (hts (.fieldLink RX1 41 "IslandSolver$Vec" "y" "F") (by decide +kernel)) (fun _ h9 => h9) dX1_init_121 (kq_F (cd := 1115684864) (by decide) fun x_33 h_34 => ?_)
  refine lv_aload hx hb dX1_init_124 (lv_at hl 5 rfl) ?_
  refine kp_get hx hb hts i_X2 hown hK hP hI (hF_9.ty (hF_7.ty (hF_5.ty (hF_3.ty (hF_1.ty h_pq))))) rfl rfl 2 (by decide) (by decide) (hts (.fieldLink RX1 44 "IslandSolver$Vec" "z" "F") (by decide +kernel)) (fun _ h9 => h9) dX1_init_126 (kq_F (cd := 1115684864) (by decide) fun x_35 h_36 => ?_)
  refine kd_callv (va_runV (As := [.float x_31, .float x_33, .float x_35]) (rest := []) ⟨hx, hb, hml, hown, hts⟩ (k_put4 l dC dI dA ad _ τ_9 (kup (kup (kup (kup (kup (kup (kup pv a 2 (.ref q_1)) a 3 (.ref q_3)) a 4 (.ref q_5)) a 15 (.ref q_7)) a 16 (.ref q_9)) a 0 (.ref qa)) a 1 (.null)) _ _ hI q_5 (hF_9.ty (hF_7.ty tq_5)) x_31 h_32 x_33 h_34 x_35 h_36) (cwV 3 hts gX1_init_X2_put rfl rfl rfl (by decide +kernel) ⟨Nat.le_of_ble_eq_true rfl, Nat.le_of_ble_eq_true rfl⟩) (kd_preV hP hD hK hS hA hE hI (hF_9.ty (hF_7.ty tq_5)) rfl rfl) rfl rfl hl.1 rfl (lv_room (Nat.le_of_ble_eq_true rfl)) dX1_init_129 ⟨Nat.le_of_ble_eq_true rfl, Nat.le_of_ble_eq_true rfl⟩) hD hS hA (fun u_37 H locs hw hP hD hS => ?_)
  have hI := hw
  refine W.widen (k := 5) (n := 15) (Nat.le_of_ble_eq_true rfl) (Nat.le_of_ble_eq_true rfl) ?_
  exact W.vret hx hb hr (fun t ht hW9 => ⟨⟨(u_37.1, u_37.2), rfl, ⟨_, _, hF, hh_a, ⟨q_1, q_3, q_5, q_7, q_9, 0, 0, ((kup_ne (Or.inr (by decide))).trans kup_self), kup_self, ((kup_ne (Or.inr (by decide))).trans ((kup_ne (Or.inr (by decide))).trans ((kup_ne (Or.inr (by decide))).trans ((kup_ne (Or.inr (by decide))).trans ((kup_ne (Or.inr (by decide))).trans ((kup_ne (Or.inr (by decide))).trans kup_self)))))), ((kup_ne (Or.inr (by decide))).trans ((kup_ne (Or.inr (by decide))).trans ((kup_ne (Or.inr (by decide))).trans ((kup_ne (Or.inr (by decide))).trans ((kup_ne (Or.inr (by decide))).trans kup_self))))), ((kup_ne (Or.inr (by decide))).trans ((kup_ne (Or.inr (by decide))).trans ((kup_ne (Or.inr (by decide))).trans ((kup_ne (Or.inr (by decide))).trans kup_self)))), ((kup_ne (Or.inr (by decide))).trans ((kup_ne (Or.inr (by decide))).trans ((kup_ne (Or.inr (by decide))).trans ((kup_ne (Or.inr (by decide))).trans ((kup_ne (Or.inr (by decide))).trans ((kup_ne (Or.inr (by decide))).trans ((kup_ne (Or.inr (by decide))).trans (hp 5)))))))), ((kup_ne (Or.inr (by decide))).trans ((kup_ne (Or.inr (by decide))).trans ((kup_ne (Or.inr (by decide))).trans ((kup_ne (Or.inr (by decide))).trans ((kup_ne (Or.inr (by decide))).trans ((kup_ne (Or.inr (by decide))).trans ((kup_ne (Or.inr (by decide))).trans (hp 6)))))))), ((kup_ne (Or.inr (by decide))).trans ((kup_ne (Or.inr (by decide))).trans ((kup_ne (Or.inr (by decide))).trans ((kup_ne (Or.inr (by decide))).trans ((kup_ne (Or.inr (by decide))).trans ((kup_ne (Or.inr (by decide))).trans ((kup_ne (Or.inr (by decide))).trans (hp 7)))))))), ((kup_ne (Or.inr (by decide))).trans ((kup_ne (Or.inr (by decide))).trans ((kup_ne (Or.inr (by decide))).trans ((kup_ne (Or.inr (by decide))).trans ((kup_ne (Or.inr (by decide))).trans ((kup_ne (Or.inr (by decide))).trans ((kup_ne (Or.inr (by decide))).trans (hp 8)))))))), ((kup_ne (Or.inr (by decide))).trans ((kup_ne (Or.inr (by decide))).trans ((kup_ne (Or.inr (by decide))).trans ((kup_ne (Or.inr (by decide))).trans ((kup_ne (Or.inr (by decide))).trans ((kup_ne (Or.inr (by decide))).trans ((kup_ne (Or.inr (by decide))).trans (hp 9)))))))), ((kup_ne (Or.inr (by decide))).trans ((kup_ne (Or.inr (by decide))).trans ((kup_ne (Or.inr (by decide))).trans ((kup_ne (Or.inr (by decide))).trans ((kup_ne (Or.inr (by decide))).trans ((kup_ne (Or.inr (by decide))).trans ((kup_ne (Or.inr (by decide))).trans (hp 10)))))))), ((kup_ne (Or.inr (by decide))).trans ((kup_ne (Or.inr (by decide))).trans ((kup_ne (Or.inr (by decide))).trans ((kup_ne (Or.inr (by decide))).trans ((kup_ne (Or.inr (by decide))).trans ((kup_ne (Or.inr (by decide))).trans ((kup_ne (Or.inr (by decide))).trans (hp 11)))))))), ((kup_ne (Or.inr (by decide))).trans ((kup_ne (Or.inr (by decide))).trans ((kup_ne (Or.inr (by decide))).trans ((kup_ne (Or.inr (by decide))).trans ((kup_ne (Or.inr (by decide))).trans ((kup_ne (Or.inr (by decide))).trans ((kup_ne (Or.inr (by decide))).trans (hp 12)))))))), ((kup_ne (Or.inr (by decide))).trans ((kup_ne (Or.inr (by decide))).trans ((kup_ne (Or.inr (by decide))).trans ((kup_ne (Or.inr (by decide))).trans ((kup_ne (Or.inr (by decide))).trans ((kup_ne (Or.inr (by decide))).trans ((kup_ne (Or.inr (by decide))).trans (hp 13)))))))), ((kup_ne (Or.inr (by decide))).trans ((kup_ne (Or.inr (by decide))).trans ((kup_ne (Or.inr (by decide))).trans ((kup_ne (Or.inr (by decide))).trans ((kup_ne (Or.inr (by decide))).trans ((kup_ne (Or.inr (by decide))).trans ((kup_ne (Or.inr (by decide))).trans (hp 14)))))))), ((kup_ne (Or.inr (by decide))).trans ((kup_ne (Or.inr (by decide))).trans ((kup_ne (Or.inr (by decide))).trans kup_self))), ((kup_ne (Or.inr (by decide))).trans ((kup_ne (Or.inr (by decide))).trans kup_self)), ((kup_ne (Or.inr (by decide))).trans ((kup_ne (Or.inr (by decide))).trans ((kup_ne (Or.inr (by decide))).trans ((kup_ne (Or.inr (by decide))).trans ((kup_ne (Or.inr (by decide))).trans ((kup_ne (Or.inr (by decide))).trans ((kup_ne (Or.inr (by decide))).trans (hp 17)))))))), (Nat.zero_le _), (hF_9.ty (hF_7.ty (hF_5.ty (hF_3.ty (hF_1.ty h_qa))))), (fun b hb => by cases hb), (hF_9.ty (hF_7.ty (hF_5.ty (hF_3.ty tq_1)))), (hF_9.ty (hF_7.ty (hF_5.ty tq_3))), (hF_9.ty (hF_7.ty tq_5)), (hF_9.ty tq_7), tq_9⟩, hI⟩, by rw [ht]; exact hP, va_K.moved hW9.alike hK, hD⟩, hS.F ht⟩) hS.2.2 dX1_init_132
set_option maxHeartbeats 4000000 in
set_option maxRecDepth 100000 in
theorem k_RowInit1 (l : Launch) (dC : Nat → ClassId) (dI : Nat → Nat → Nat) (dA : Nat → ClassId) (ad sz : Nat) (τ : Nat → Nat → Nat) (pv : Nat → Nat → Value) (L : List Nat) (f : Nat → va_E) (hI : kI dA τ pv L f) (a qa qb pn pp pq : Nat) (hh_a : τ 0 a = 41) (hp : ∀ k, pv a k = kr0.getD k .null) (h_qa : τ 0 qa = 1) (h_qb : τ 0 qb = 1) (h_pn : τ 0 pn = 4) (h_pp : τ 0 pp = 4) (h_pq : τ 0 pq = 4) : Met l yX1_init wsX1_init ({ frames := 2, cells := 5, slots := 15, locals := 32 } : Room) (va_Pc [.ref a, .ref qa, .ref qb, .ref pn, .ref pp, .ref pq] (kB dC dI dA ad sz L f)) (va_Qv (fun u => ∃ τ2 pv2, kFr kPt τ pv τ2 pv2 ∧ τ2 0 a = 41 ∧ kRaw τ2 pv2 a qa (qb + 1) ∧ kI dA τ2 pv2 u.1 u.2) (kR dC dI dA (va_A (va_pl L f) sz)) (va_A (va_pl L f) sz)) 5 15 (va_A (va_pl L f) sz) := by
  refine Met.ofW (cc := cX1_init) (maxL := 6) (ret := none) (by decide) rfl ?_
  intro p e s m args below meth c s₁ B hml hv
  obtain ⟨rfl, hsz, hP, hK, hD0, hE⟩ := hv
  have hx := B.exec
  have hb := B.bytes
  have hr := B.returns
  have hts := atoms_spec (ws := wsX1_init) B.pre
  have hown : s.vm.findClass RX1 = some m.cls := findClass_of_methodNamed B.named
  have hlocks := B.notSynchronized
  have hin : meth.name = "<init>" := (name_of_methodNamed B.named B.method).1
  have i_X2 : ∀ w ∈ u_ws RX2 TX2 3, w ∈ wsX1_init := by decide +kernel
  have i_X1 : ∀ w ∈ u_ws RX1 TX1 18, w ∈ wsX1_init := by decide +kernel
  subst hsz
  have hD := hD0.self (sz := s.heap.size)
  generalize hAe : va_A (va_pl L f) s.heap.size = A at hD hE ⊢
  have hA : ∀ q : Nat, s.heap.size ≤ q → A q := fun q h => by rw [← hAe]; exact Or.inr h
  have hS : va_S A s.heap s.heap [] := va_S.rf
  have hP : va_P (dC, dI) vwCl (va_pl L f) s.heap := hP
  have hK : va_K (dC, dI) vwCl (tyA dA) s := hK
  have hl := lv_entry ([.ref a, .ref qa, .ref qb, .ref pn, .ref pp, .ref pq]) (n := 6) (Nat.le_of_ble_eq_true rfl)
  rw [lg_entry_eq]
  generalize (lg_sl ([.ref a, .ref qa, .ref qb, .ref pn, .ref pp, .ref pq]) ++ List.replicate (6 - (lg_sl ([.ref a, .ref qa, .ref qb, .ref pn, .ref pp, .ref pq])).length) Slot.unset).toArray = ls at hl ⊢
  have hl : lv_has ls 6 [(0, .ref a), (1, .ref qa), (2, .ref qb), (3, .ref pn), (4, .ref pp), (5, .ref pq)] := hl
  have hF : kFr kPt τ pv τ pv := kFr.rf
  refine lv_aload_n hx hb dX1_init_0 rfl (lv_at hl 0 rfl) ?_
  refine W.objInit hx hb hown (hts (.methodLink RX1 3 objectInit) (by decide +kernel)) (hts (.instanceMethod objectInit) (by decide +kernel)) (hts (.code objectInit ⟨#[0xb1]⟩ 1 none) (by decide +kernel)) rfl (by rw [hml]; exact hl.1) rfl dX1_init_1 (Nat.le_of_ble_eq_true rfl) (Nat.le_of_ble_eq_true rfl) ?_
  refine W.eq (g2 := F0 m 4 ls []) rfl ?_
  refine lv_aload_n hx hb dX1_init_4 rfl (lv_at hl 0 rfl) ?_
  refine kp_new (ci := 3) (fs := [.float 0, .float 0, .float 0]) (C := RX2) (T := TX2) (N := 3) hx hb hts i_X2 tyX2 tyX2_ok hown (hts (.classLink RX1 9 RX2) (by decide +kernel)) (hts (.instantiable RX2 3) (by decide +kernel)) (hts (.initialized RX2) (by decide +kernel)) hK hP hD hS hA rfl (fun j hj => by rcases (show j = 0 ∨ j = 1 ∨ j = 2 by omega) with rfl | rfl | rfl <;> rfl) (Nat.le_of_ble_eq_true rfl) (Nat.le_of_ble_eq_true rfl) dX1_init_5 (fun q_1 H hqL hP hD hS => ?_)
  have h0q_1 : τ 0 q_1 = 0 := hI.t0 hqL
  have hI := hI.newV 4 (by decide) hqL
  obtain ⟨τ_1, hτ_1⟩ : ∃ z, z = kxt τ q_1 (fun j => if j = 0 then 4 else 0) := ⟨_, rfl⟩
  rw [← hτ_1] at hI
  have hF_1 : kFr kPt τ pv τ_1 pv := by rw [hτ_1]; exact kFr.ret (Or.inl h0q_1)
  have tq_1 : τ_1 0 q_1 = 4 := by rw [hτ_1]; exact kxt_self 0
  have hh_a : τ_1 0 a = 41 := by rw [hτ_1]; exact (kxt_ne (fun e9 => by rw [← e9, hh_a] at h0q_1; cases h0q_1) 0).trans hh_a
  have hF := hF.trans hF_1
  refine W.widen (k := 1) (n := 3) (by omega) (by omega) ?_
  refine lv_dup hx hb dX1_init_8 rfl ?_
  refine kd_callv (va_runIN (host := RX3) (As := []) (rest := [.ref q_1, .ref a]) ⟨hx, hb, hml, hown, hts⟩ (k_VecInit4 l dC dI dA ad _ τ_1 pv _ _ hI q_1 tq_1) ⟨va_cnB 0 hts gX1_init_X2_init_n11 rfl rfl rfl (hE.nest RX1 11 yX2_init (by decide +kernel)) (hts (.initialized RX2) (by decide +kernel)) (by decide +kernel) ⟨Nat.le_of_ble_eq_true rfl, Nat.le_of_ble_eq_true rfl⟩, rfl, (hts (.instanceMethod yX2_init) (by decide +kernel))⟩ (kd_preS hP hD hK hS hA hE) rfl rfl hl.1 rfl (lv_room (Nat.le_of_ble_eq_true rfl)) dX1_init_9 ⟨Nat.le_of_ble_eq_true rfl, Nat.le_of_ble_eq_true rfl⟩) hD hS hA (fun u_2 H locs hw hP hD hS => ?_)
  have hI := hw
  refine kp_putF (v := .ref q_1) (ty := .object "IslandSolver$Vec") hx hb hts i_X1 tyX1 tyX1_ok nmX1 hown hK hP hD hS hI hh_a rfl rfl 2 (by decide) (by decide) (hts (.fieldLink RX1 12 "IslandSolver$Row" "n" "LIslandSolver$Vec;") (by decide +kernel)) (fun _ h9 => h9) rfl hin rfl (by decide +kernel) rfl rfl rfl (kv_S (by decide) ⟨some q_1, rfl⟩) dX1_init_12 (fun f H locs hI hP hD hS => ?_)
  have hF := hF.trans (kFr.upr (P := kPt) (τ := τ_1) (pv := pv) (a := a) (w := .ref q_1) (k := 2) (Or.inr (by rw [hh_a]; decide)))
  refine lv_aload_n hx hb dX1_init_15 rfl (lv_at hl 0 rfl) ?_
  refine kp_new (ci := 3) (fs := [.float 0, .float 0, .float 0]) (C := RX2) (T := TX2) (N := 3) hx hb hts i_X2 tyX2 tyX2_ok hown (hts (.classLink RX1 9 RX2) (by decide +kernel)) (hts (.instantiable RX2 3) (by decide +kernel)) (hts (.initialized RX2) (by decide +kernel)) hK hP hD hS hA rfl (fun j hj => by rcases (show j = 0 ∨ j = 1 ∨ j = 2 by omega) with rfl | rfl | rfl <;> rfl) (Nat.le_of_ble_eq_true rfl) (Nat.le_of_ble_eq_true rfl) dX1_init_16 (fun q_3 H hqL hP hD hS => ?_)
  have h0q_3 : τ_1 0 q_3 = 0 := hI.t0 hqL
  have hI := hI.newV 4 (by decide) hqL
  obtain ⟨τ_3, hτ_3⟩ : ∃ z, z = kxt τ_1 q_3 (fun j => if j = 0 then 4 else 0) := ⟨_, rfl⟩
  rw [← hτ_3] at hI
  have hF_3 : kFr kPt τ_1 (kup pv a 2 (.ref q_1)) τ_3 (kup pv a 2 (.ref q_1)) := by rw [hτ_3]; exact kFr.ret (Or.inl h0q_3)
  have tq_3 : τ_3 0 q_3 = 4 := by rw [hτ_3]; exact kxt_self 0
  have hh_a : τ_3 0 a = 41 := by rw [hτ_3]; exact (kxt_ne (fun e9 => by rw [← e9, hh_a] at h0q_3; cases h0q_3) 0).trans hh_a
  have hF := hF.trans hF_3
  refine W.widen (k := 2) (n := 6) (by omega) (by omega) ?_
  refine lv_dup hx hb dX1_init_19 rfl ?_
  refine kd_callv (va_runIN (host := RX3) (As := []) (rest := [.ref q_3, .ref a]) ⟨hx, hb, hml, hown, hts⟩ (k_VecInit4 l dC dI dA ad _ τ_3 (kup pv a 2 (.ref q_1)) _ _ hI q_3 tq_3) ⟨va_cnB 0 hts gX1_init_X2_init_n11 rfl rfl rfl (hE.nest RX1 11 yX2_init (by decide +kernel)) (hts (.initialized RX2) (by decide +kernel)) (by decide +kernel) ⟨Nat.le_of_ble_eq_true rfl, Nat.le_of_ble_eq_true rfl⟩, rfl, (hts (.instanceMethod yX2_init) (by decide +kernel))⟩ (kd_preS hP hD hK hS hA hE) rfl rfl hl.1 rfl (lv_room (Nat.le_of_ble_eq_true rfl)) dX1_init_20 ⟨Nat.le_of_ble_eq_true rfl, Nat.le_of_ble_eq_true rfl⟩) hD hS hA (fun u_4 H locs hw hP hD hS => ?_)
  have hI := hw
  refine kp_putF (v := .ref q_3) (ty := .object "IslandSolver$Vec") hx hb hts i_X1 tyX1 tyX1_ok nmX1 hown hK hP hD hS hI hh_a rfl rfl 3 (by decide) (by decide) (hts (.fieldLink RX1 18 "IslandSolver$Row" "p" "LIslandSolver$Vec;") (by decide +kernel)) (fun _ h9 => h9) rfl hin rfl (by decide +kernel) rfl rfl rfl (kv_S (by decide) ⟨some q_3, rfl⟩) dX1_init_23 (fun f H locs hI hP hD hS => ?_)
  have hF := hF.trans (kFr.upr (P := kPt) (τ := τ_3) (pv := (kup pv a 2 (.ref q_1))) (a := a) (w := .ref q_3) (k := 3) (Or.inr (by rw [hh_a]; decide)))
  refine lv_aload_n hx hb dX1_init_26 rfl (lv_at hl 0 rfl) ?_
  refine kp_new (ci := 3) (fs := [.float 0, .float 0, .float 0]) (C := RX2) (T := TX2) (N := 3) hx hb hts i_X2 tyX2 tyX2_ok hown (hts (.classLink RX1 9 RX2) (by decide +kernel)) (hts (.instantiable RX2 3) (by decide +kernel)) (hts (.initialized RX2) (by decide +kernel)) hK hP hD hS hA rfl (fun j hj => by rcases (show j = 0 ∨ j = 1 ∨ j = 2 by omega) with rfl | rfl | rfl <;> rfl) (Nat.le_of_ble_eq_true rfl) (Nat.le_of_ble_eq_true rfl) dX1_init_27 (fun q_5 H hqL hP hD hS => ?_)
  have h0q_5 : τ_3 0 q_5 = 0 := hI.t0 hqL
  have hI := hI.newV 4 (by decide) hqL
  obtain ⟨τ_5, hτ_5⟩ : ∃ z, z = kxt τ_3 q_5 (fun j => if j = 0 then 4 else 0) := ⟨_, rfl⟩
  rw [← hτ_5] at hI
  have hF_5 : kFr kPt τ_3 (kup (kup pv a 2 (.ref q_1)) a 3 (.ref q_3)) τ_5 (kup (kup pv a 2 (.ref q_1)) a 3 (.ref q_3)) := by rw [hτ_5]; exact kFr.ret (Or.inl h0q_5)
  have tq_5 : τ_5 0 q_5 = 4 := by rw [hτ_5]; exact kxt_self 0
  have hh_a : τ_5 0 a = 41 := by rw [hτ_5]; exact (kxt_ne (fun e9 => by rw [← e9, hh_a] at h0q_5; cases h0q_5) 0).trans hh_a
  have hF := hF.trans hF_5
  refine W.widen (k := 3) (n := 9) (by omega) (by omega) ?_
  refine lv_dup hx hb dX1_init_30 rfl ?_
  refine kd_callv (va_runIN (host := RX3) (As := []) (rest := [.ref q_5, .ref a]) ⟨hx, hb, hml, hown, hts⟩ (k_VecInit4 l dC dI dA ad _ τ_5 (kup (kup pv a 2 (.ref q_1)) a 3 (.ref q_3)) _ _ hI q_5 tq_5) ⟨va_cnB 0 hts gX1_init_X2_init_n11 rfl rfl rfl (hE.nest RX1 11 yX2_init (by decide +kernel)) (hts (.initialized RX2) (by decide +kernel)) (by decide +kernel) ⟨Nat.le_of_ble_eq_true rfl, Nat.le_of_ble_eq_true rfl⟩, rfl, (hts (.instanceMethod yX2_init) (by decide +kernel))⟩ (kd_preS hP hD hK hS hA hE) rfl rfl hl.1 rfl (lv_room (Nat.le_of_ble_eq_true rfl)) dX1_init_31 ⟨Nat.le_of_ble_eq_true rfl, Nat.le_of_ble_eq_true rfl⟩) hD hS hA (fun u_6 H locs hw hP hD hS => ?_)
  have hI := hw
  refine kp_putF (v := .ref q_5) (ty := .object "IslandSolver$Vec") hx hb hts i_X1 tyX1 tyX1_ok nmX1 hown hK hP hD hS hI hh_a rfl rfl 4 (by decide) (by decide) (hts (.fieldLink RX1 21 "IslandSolver$Row" "q" "LIslandSolver$Vec;") (by decide +kernel)) (fun _ h9 => h9) rfl hin rfl (by decide +kernel) rfl rfl rfl (kv_S (by decide) ⟨some q_5, rfl⟩) dX1_init_34 (fun f H locs hI hP hD hS => ?_)
  have hF := hF.trans (kFr.upr (P := kPt) (τ := τ_5) (pv := (kup (kup pv a 2 (.ref q_1)) a 3 (.ref q_3))) (a := a) (w := .ref q_5) (k := 4) (Or.inr (by rw [hh_a]; decide)))
  refine lv_aload_n hx hb dX1_init_37 rfl (lv_at hl 0 rfl) ?_
  refine kp_new (ci := 3) (fs := [.float 0, .float 0, .float 0]) (C := RX2) (T := TX2) (N := 3) hx hb hts i_X2 tyX2 tyX2_ok hown (hts (.classLink RX1 9 RX2) (by decide +kernel)) (hts (.instantiable RX2 3) (by decide +kernel)) (hts (.initialized RX2) (by decide +kernel)) hK hP hD hS hA rfl (fun j hj => by rcases (show j = 0 ∨ j = 1 ∨ j = 2 by omega) with rfl | rfl | rfl <;> rfl) (Nat.le_of_ble_eq_true rfl) (Nat.le_of_ble_eq_true rfl) dX1_init_38 (fun q_7 H hqL hP hD hS => ?_)
  have h0q_7 : τ_5 0 q_7 = 0 := hI.t0 hqL
  have hI := hI.newV 5 (by decide) hqL
  obtain ⟨τ_7, hτ_7⟩ : ∃ z, z = kxt τ_5 q_7 (fun j => if j = 0 then 5 else 0) := ⟨_, rfl⟩
  rw [← hτ_7] at hI
  have hF_7 : kFr kPt τ_5 (kup (kup (kup pv a 2 (.ref q_1)) a 3 (.ref q_3)) a 4 (.ref q_5)) τ_7 (kup (kup (kup pv a 2 (.ref q_1)) a 3 (.ref q_3)) a 4 (.ref q_5)) := by rw [hτ_7]; exact kFr.ret (Or.inl h0q_7)
  have tq_7 : τ_7 0 q_7 = 5 := by rw [hτ_7]; exact kxt_self 0
  have hh_a : τ_7 0 a = 41 := by rw [hτ_7]; exact (kxt_ne (fun e9 => by rw [← e9, hh_a] at h0q_7; cases h0q_7) 0).trans hh_a
  have hF := hF.trans hF_7
  refine W.widen (k := 4) (n := 12) (by omega) (by omega) ?_
  refine lv_dup hx hb dX1_init_41 rfl ?_
  refine kd_callv (va_runIN (host := RX3) (As := []) (rest := [.ref q_7, .ref a]) ⟨hx, hb, hml, hown, hts⟩ (k_VecInit5 l dC dI dA ad _ τ_7 (kup (kup (kup pv a 2 (.ref q_1)) a 3 (.ref q_3)) a 4 (.ref q_5)) _ _ hI q_7 tq_7) ⟨va_cnB 0 hts gX1_init_X2_init_n11 rfl rfl rfl (hE.nest RX1 11 yX2_init (by decide +kernel)) (hts (.initialized RX2) (by decide +kernel)) (by decide +kernel) ⟨Nat.le_of_ble_eq_true rfl, Nat.le_of_ble_eq_true rfl⟩, rfl, (hts (.instanceMethod yX2_init) (by decide +kernel))⟩ (kd_preS hP hD hK hS hA hE) rfl rfl hl.1 rfl (lv_room (Nat.le_of_ble_eq_true rfl)) dX1_init_42 ⟨Nat.le_of_ble_eq_true rfl, Nat.le_of_ble_eq_true rfl⟩) hD hS hA (fun u_8 H locs hw hP hD hS => ?_)
  have hI := hw
  refine kp_putF (v := .ref q_7) (ty := .object "IslandSolver$Vec") hx hb hts i_X1 tyX1 tyX1_ok nmX1 hown hK hP hD hS hI hh_a rfl rfl 15 (by decide) (by decide) (hts (.fieldLink RX1 24 "IslandSolver$Row" "turnA" "LIslandSolver$Vec;") (by decide +kernel)) (fun _ h9 => h9) rfl hin rfl (by decide +kernel) rfl rfl rfl (kv_S (by decide) ⟨some q_7, rfl⟩) dX1_init_45 (fun f H locs hI hP hD hS => ?_)
  have hF := hF.trans (kFr.upr (P := kPt) (τ := τ_7) (pv := (kup (kup (kup pv a 2 (.ref q_1)) a 3 (.ref q_3)) a 4 (.ref q_5))) (a := a) (w := .ref q_7) (k := 15) (Or.inr (by rw [hh_a]; decide)))
  refine lv_aload_n hx hb dX1_init_48 rfl (lv_at hl 0 rfl) ?_
  refine kp_new (ci := 3) (fs := [.float 0, .float 0, .float 0]) (C := RX2) (T := TX2) (N := 3) hx hb hts i_X2 tyX2 tyX2_ok hown (hts (.classLink RX1 9 RX2) (by decide +kernel)) (hts (.instantiable RX2 3) (by decide +kernel)) (hts (.initialized RX2) (by decide +kernel)) hK hP hD hS hA rfl (fun j hj => by rcases (show j = 0 ∨ j = 1 ∨ j = 2 by omega) with rfl | rfl | rfl <;> rfl) (Nat.le_of_ble_eq_true rfl) (Nat.le_of_ble_eq_true rfl) dX1_init_49 (fun q_9 H hqL hP hD hS => ?_)
  have h0q_9 : τ_7 0 q_9 = 0 := hI.t0 hqL
  have hI := hI.newV 5 (by decide) hqL
  obtain ⟨τ_9, hτ_9⟩ : ∃ z, z = kxt τ_7 q_9 (fun j => if j = 0 then 5 else 0) := ⟨_, rfl⟩
  rw [← hτ_9] at hI
  have hF_9 : kFr kPt τ_7 (kup (kup (kup (kup pv a 2 (.ref q_1)) a 3 (.ref q_3)) a 4 (.ref q_5)) a 15 (.ref q_7)) τ_9 (kup (kup (kup (kup pv a 2 (.ref q_1)) a 3 (.ref q_3)) a 4 (.ref q_5)) a 15 (.ref q_7)) := by rw [hτ_9]; exact kFr.ret (Or.inl h0q_9)
  have tq_9 : τ_9 0 q_9 = 5 := by rw [hτ_9]; exact kxt_self 0
  have hh_a : τ_9 0 a = 41 := by rw [hτ_9]; exact (kxt_ne (fun e9 => by rw [← e9, hh_a] at h0q_9; cases h0q_9) 0).trans hh_a
  have hF := hF.trans hF_9
  refine W.widen (k := 5) (n := 15) (by omega) (by omega) ?_
  refine lv_dup hx hb dX1_init_52 rfl ?_
  refine kd_callv (va_runIN (host := RX3) (As := []) (rest := [.ref q_9, .ref a]) ⟨hx, hb, hml, hown, hts⟩ (k_VecInit5 l dC dI dA ad _ τ_9 (kup (kup (kup (kup pv a 2 (.ref q_1)) a 3 (.ref q_3)) a 4 (.ref q_5)) a 15 (.ref q_7)) _ _ hI q_9 tq_9) ⟨va_cnB 0 hts gX1_init_X2_init_n11 rfl rfl rfl (hE.nest RX1 11 yX2_init (by decide +kernel)) (hts (.initialized RX2) (by decide +kernel)) (by decide +kernel) ⟨Nat.le_of_ble_eq_true rfl, Nat.le_of_ble_eq_true rfl⟩, rfl, (hts (.instanceMethod yX2_init) (by decide +kernel))⟩ (kd_preS hP hD hK hS hA hE) rfl rfl hl.1 rfl (lv_room (Nat.le_of_ble_eq_true rfl)) dX1_init_53 ⟨Nat.le_of_ble_eq_true rfl, Nat.le_of_ble_eq_true rfl⟩) hD hS hA (fun u_10 H locs hw hP hD hS => ?_)
  have hI := hw
  refine kp_putF (v := .ref q_9) (ty := .object "IslandSolver$Vec") hx hb hts i_X1 tyX1 tyX1_ok nmX1 hown hK hP hD hS hI hh_a rfl rfl 16 (by decide) (by decide) (hts (.fieldLink RX1 27 "IslandSolver$Row" "turnB" "LIslandSolver$Vec;") (by decide +kernel)) (fun _ h9 => h9) rfl hin rfl (by decide +kernel) rfl rfl rfl (kv_S (by decide) ⟨some q_9, rfl⟩) dX1_init_56 (fun f H locs hI hP hD hS => ?_)
  have hF := hF.trans (kFr.upr (P := kPt) (τ := τ_9) (pv := (kup (kup (kup (kup pv a 2 (.ref q_1)) a 3 (.ref q_3)) a 4 (.ref q_5)) a 15 (.ref q_7))) (a := a) (w := .ref q_9) (k := 16) (Or.inr (by rw [hh_a]; decide)))
  refine lv_aload_n hx hb dX1_init_59 rfl (lv_at hl 0 rfl) ?_
  refine lv_aload_n hx hb dX1_init_60 rfl (lv_at hl 1 rfl) ?_
  refine kp_putF (v := .ref qa) (ty := .object "IslandSolver$Body") hx hb hts i_X1 tyX1 tyX1_ok nmX1 hown hK hP hD hS hI hh_a rfl rfl 0 (by decide) (by decide) (hts (.fieldLink RX1 30 "IslandSolver$Row" "a" "LIslandSolver$Body;") (by decide +kernel)) (fun _ h9 => h9) rfl hin rfl (by decide +kernel) rfl rfl rfl (kv_S (by decide) ⟨some qa, rfl⟩) dX1_init_61 (fun f H locs hI hP hD hS => ?_)
  have hF := hF.trans (kFr.upr (P := kPt) (τ := τ_9) (pv := (kup (kup (kup (kup (kup pv a 2 (.ref q_1)) a 3 (.ref q_3)) a 4 (.ref q_5)) a 15 (.ref q_7)) a 16 (.ref q_9))) (a := a) (w := .ref qa) (k := 0) (Or.inr (by rw [hh_a]; decide)))
  refine lv_aload_n hx hb dX1_init_64 rfl (lv_at hl 0 rfl) ?_
  refine lv_aload_n hx hb dX1_init_65 rfl (lv_at hl 2 rfl) ?_
  refine kp_putF (v := .ref qb) (ty := .object "IslandSolver$Body") hx hb hts i_X1 tyX1 tyX1_ok nmX1 hown hK hP hD hS hI hh_a rfl rfl 1 (by decide) (by decide) (hts (.fieldLink RX1 34 "IslandSolver$Row" "b" "LIslandSolver$Body;") (by decide +kernel)) (fun _ h9 => h9) rfl hin rfl (by decide +kernel) rfl rfl rfl (kv_S (by decide) ⟨some qb, rfl⟩) dX1_init_66 (fun f H locs hI hP hD hS => ?_)
  have hF := hF.trans (kFr.upr (P := kPt) (τ := τ_9) (pv := (kup (kup (kup (kup (kup (kup pv a 2 (.ref q_1)) a 3 (.ref q_3)) a 4 (.ref q_5)) a 15 (.ref q_7)) a 16 (.ref q_9)) a 0 (.ref qa))) (a := a) (w := .ref qb) (k := 1) (Or.inr (by rw [hh_a]; decide)))
  refine lv_aload_n hx hb dX1_init_69 rfl (lv_at hl 0 rfl) ?_
  refine kp_get hx hb hts i_X1 hown hK hP hI hh_a rfl rfl 2 (by decide) (by decide) (hts (.fieldLink RX1 12 "IslandSolver$Row" "n" "LIslandSolver$Vec;") (by decide +kernel)) (fun _ h9 => h9) dX1_init_70 (kq_P (v0 := .ref q_1) rfl ((kup_ne (Or.inr (by decide))).trans ((kup_ne (Or.inr (by decide))).trans ((kup_ne (Or.inr (by decide))).trans ((kup_ne (Or.inr (by decide))).trans ((kup_ne (Or.inr (by decide))).trans ((kup_ne (Or.inr (by decide))).trans kup_self)))))) fun h_12 => ?_)
  refine lv_aload_n hx hb dX1_init_73 rfl (lv_at hl 3 rfl) ?_
  refine kp_get hx hb hts i_X2 hown hK hP hI (hF_9.ty (hF_7.ty (hF_5.ty (hF_3.ty (hF_1.ty h_pn))))) rfl rfl 0 (by decide) (by decide) (hts (.fieldLink RX1 37 "IslandSolver$Vec" "x" "F") (by decide +kernel)) (fun _ h9 => h9) dX1_init_74 (kq_F (cd := 1115684864) (by decide) fun x_13 h_14 => ?_)
  refine lv_aload_n hx hb dX1_init_77 rfl (lv_at hl 3 rfl) ?_
  refine kp_get hx hb hts i_X2 hown hK hP hI (hF_9.ty (hF_7.ty (hF_5.ty (hF_3.ty (hF_1.ty h_pn))))) rfl rfl 1 (by decide) (by decide) (hts (.fieldLink RX1 41 "IslandSolver$Vec" "y" "F") (by decide +kernel)) (fun _ h9 => h9) dX1_init_78 (kq_F (cd := 1115684864) (by decide) fun x_15 h_16 => ?_)
  refine lv_aload_n hx hb dX1_init_81 rfl (lv_at hl 3 rfl) ?_
  refine kp_get hx hb hts i_X2 hown hK hP hI (hF_9.ty (hF_7.ty (hF_5.ty (hF_3.ty (hF_1.ty h_pn))))) rfl rfl 2 (by decide) (by decide) (hts (.fieldLink RX1 44 "IslandSolver$Vec" "z" "F") (by decide +kernel)) (fun _ h9 => h9) dX1_init_82 (kq_F (cd := 1115684864) (by decide) fun x_17 h_18 => ?_)
  refine kd_callv (va_runV (As := [.float x_13, .float x_15, .float x_17]) (rest := []) ⟨hx, hb, hml, hown, hts⟩ (k_put4 l dC dI dA ad _ τ_9 (kup (kup (kup (kup (kup (kup (kup pv a 2 (.ref q_1)) a 3 (.ref q_3)) a 4 (.ref q_5)) a 15 (.ref q_7)) a 16 (.ref q_9)) a 0 (.ref qa)) a 1 (.ref qb)) _ _ hI q_1 (hF_9.ty (hF_7.ty (hF_5.ty (hF_3.ty tq_1)))) x_13 h_14 x_15 h_16 x_17 h_18) (cwV 3 hts gX1_init_X2_put rfl rfl rfl (by decide +kernel) ⟨Nat.le_of_ble_eq_true rfl, Nat.le_of_ble_eq_true rfl⟩) (kd_preV hP hD hK hS hA hE hI (hF_9.ty (hF_7.ty (hF_5.ty (hF_3.ty tq_1)))) rfl rfl) rfl rfl hl.1 rfl (lv_room (Nat.le_of_ble_eq_true rfl)) dX1_init_85 ⟨Nat.le_of_ble_eq_true rfl, Nat.le_of_ble_eq_true rfl⟩) hD hS hA (fun u_19 H locs hw hP hD hS => ?_)
  have hI := hw
  refine lv_aload_n hx hb dX1_init_88 rfl (lv_at hl 0 rfl) ?_
  refine kp_get hx hb hts i_X1 hown hK hP hI hh_a rfl rfl 3 (by decide) (by decide) (hts (.fieldLink RX1 18 "IslandSolver$Row" "p" "LIslandSolver$Vec;") (by decide +kernel)) (fun _ h9 => h9) dX1_init_89 (kq_P (v0 := .ref q_3) rfl ((kup_ne (Or.inr (by decide))).trans ((kup_ne (Or.inr (by decide))).trans ((kup_ne (Or.inr (by decide))).trans ((kup_ne (Or.inr (by decide))).trans ((kup_ne (Or.inr (by decide))).trans kup_self))))) fun h_21 => ?_)
  refine lv_aload hx hb dX1_init_92 (lv_at hl 4 rfl) ?_
  refine kp_get hx hb hts i_X2 hown hK hP hI (hF_9.ty (hF_7.ty (hF_5.ty (hF_3.ty (hF_1.ty h_pp))))) rfl rfl 0 (by decide) (by decide) (hts (.fieldLink RX1 37 "IslandSolver$Vec" "x" "F") (by decide +kernel)) (fun _ h9 => h9) dX1_init_94 (kq_F (cd := 1115684864) (by decide) fun x_22 h_23 => ?_)
  refine lv_aload hx hb dX1_init_97 (lv_at hl 4 rfl) ?_
  refine kp_get hx hb hts i_X2 hown hK hP hI (hF_9.ty (hF_7.ty (hF_5.ty (hF_3.ty (hF_1.ty h_pp))))) rfl rfl 1 (by decide) (by decide) (hts (.fieldLink RX1 41 "IslandSolver$Vec" "y" "F") (by decide +kernel)) (fun _ h9 => h9) dX1_init_99 (kq_F (cd := 1115684864) (by decide) fun x_24 h_25 => ?_)
  refine lv_aload hx hb dX1_init_102 (lv_at hl 4 rfl) ?_
  refine kp_get hx hb hts i_X2 hown hK hP hI (hF_9.ty (hF_7.ty (hF_5.ty (hF_3.ty (hF_1.ty h_pp))))) rfl rfl 2 (by decide) (by decide) (hts (.fieldLink RX1 44 "IslandSolver$Vec" "z" "F") (by decide +kernel)) (fun _ h9 => h9) dX1_init_104 (kq_F (cd := 1115684864) (by decide) fun x_26 h_27 => ?_)
  refine kd_callv (va_runV (As := [.float x_22, .float x_24, .float x_26]) (rest := []) ⟨hx, hb, hml, hown, hts⟩ (k_put4 l dC dI dA ad _ τ_9 (kup (kup (kup (kup (kup (kup (kup pv a 2 (.ref q_1)) a 3 (.ref q_3)) a 4 (.ref q_5)) a 15 (.ref q_7)) a 16 (.ref q_9)) a 0 (.ref qa)) a 1 (.ref qb)) _ _ hI q_3 (hF_9.ty (hF_7.ty (hF_5.ty tq_3))) x_22 h_23 x_24 h_25 x_26 h_27) (cwV 3 hts gX1_init_X2_put rfl rfl rfl (by decide +kernel) ⟨Nat.le_of_ble_eq_true rfl, Nat.le_of_ble_eq_true rfl⟩) (kd_preV hP hD hK hS hA hE hI (hF_9.ty (hF_7.ty (hF_5.ty tq_3))) rfl rfl) rfl rfl hl.1 rfl (lv_room (Nat.le_of_ble_eq_true rfl)) dX1_init_107 ⟨Nat.le_of_ble_eq_true rfl, Nat.le_of_ble_eq_true rfl⟩) hD hS hA (fun u_28 H locs hw hP hD hS => ?_)
  have hI := hw
  refine lv_aload_n hx hb dX1_init_110 rfl (lv_at hl 0 rfl) ?_
  refine kp_get hx hb hts i_X1 hown hK hP hI hh_a rfl rfl 4 (by decide) (by decide) (hts (.fieldLink RX1 21 "IslandSolver$Row" "q" "LIslandSolver$Vec;") (by decide +kernel)) (fun _ h9 => h9) dX1_init_111 (kq_P (v0 := .ref q_5) rfl ((kup_ne (Or.inr (by decide))).trans ((kup_ne (Or.inr (by decide))).trans ((kup_ne (Or.inr (by decide))).trans ((kup_ne (Or.inr (by decide))).trans kup_self)))) fun h_30 => ?_)
  refine lv_aload hx hb dX1_init_114 (lv_at hl 5 rfl) ?_
  refine kp_get hx hb hts i_X2 hown hK hP hI (hF_9.ty (hF_7.ty (hF_5.ty (hF_3.ty (hF_1.ty h_pq))))) rfl rfl 0 (by decide) (by decide) (hts (.fieldLink RX1 37 "IslandSolver$Vec" "x" "F") (by decide +kernel)) (fun _ h9 => h9) dX1_init_116 (kq_F (cd := 1115684864) (by decide) fun x_31 h_32 => ?_)
  refine lv_aload hx hb dX1_init_119 (lv_at hl 5 rfl) ?_
  refine kp_get hx hb hts i_X2 hown hK hP hI (hF_9.ty (hF_7.ty (hF_5.ty (hF_3.ty (hF_1.ty h_pq))))) rfl rfl 1 (by decide) (by decide) (hts (.fieldLink RX1 41 "IslandSolver$Vec" "y" "F") (by decide +kernel)) (fun _ h9 => h9) dX1_init_121 (kq_F (cd := 1115684864) (by decide) fun x_33 h_34 => ?_)
  refine lv_aload hx hb dX1_init_124 (lv_at hl 5 rfl) ?_
  refine kp_get hx hb hts i_X2 hown hK hP hI (hF_9.ty (hF_7.ty (hF_5.ty (hF_3.ty (hF_1.ty h_pq))))) rfl rfl 2 (by decide) (by decide) (hts (.fieldLink RX1 44 "IslandSolver$Vec" "z" "F") (by decide +kernel)) (fun _ h9 => h9) dX1_init_126 (kq_F (cd := 1115684864) (by decide) fun x_35 h_36 => ?_)
  refine kd_callv (va_runV (As := [.float x_31, .float x_33, .float x_35]) (rest := []) ⟨hx, hb, hml, hown, hts⟩ (k_put4 l dC dI dA ad _ τ_9 (kup (kup (kup (kup (kup (kup (kup pv a 2 (.ref q_1)) a 3 (.ref q_3)) a 4 (.ref q_5)) a 15 (.ref q_7)) a 16 (.ref q_9)) a 0 (.ref qa)) a 1 (.ref qb)) _ _ hI q_5 (hF_9.ty (hF_7.ty tq_5)) x_31 h_32 x_33 h_34 x_35 h_36) (cwV 3 hts gX1_init_X2_put rfl rfl rfl (by decide +kernel) ⟨Nat.le_of_ble_eq_true rfl, Nat.le_of_ble_eq_true rfl⟩) (kd_preV hP hD hK hS hA hE hI (hF_9.ty (hF_7.ty tq_5)) rfl rfl) rfl rfl hl.1 rfl (lv_room (Nat.le_of_ble_eq_true rfl)) dX1_init_129 ⟨Nat.le_of_ble_eq_true rfl, Nat.le_of_ble_eq_true rfl⟩) hD hS hA (fun u_37 H locs hw hP hD hS => ?_)
  have hI := hw
  refine W.widen (k := 5) (n := 15) (Nat.le_of_ble_eq_true rfl) (Nat.le_of_ble_eq_true rfl) ?_
  exact W.vret hx hb hr (fun t ht hW9 => ⟨⟨(u_37.1, u_37.2), rfl, ⟨_, _, hF, hh_a, ⟨q_1, q_3, q_5, q_7, q_9, 0, 0, ((kup_ne (Or.inr (by decide))).trans kup_self), (kup_self.trans (kRf_s rfl).symm), ((kup_ne (Or.inr (by decide))).trans ((kup_ne (Or.inr (by decide))).trans ((kup_ne (Or.inr (by decide))).trans ((kup_ne (Or.inr (by decide))).trans ((kup_ne (Or.inr (by decide))).trans ((kup_ne (Or.inr (by decide))).trans kup_self)))))), ((kup_ne (Or.inr (by decide))).trans ((kup_ne (Or.inr (by decide))).trans ((kup_ne (Or.inr (by decide))).trans ((kup_ne (Or.inr (by decide))).trans ((kup_ne (Or.inr (by decide))).trans kup_self))))), ((kup_ne (Or.inr (by decide))).trans ((kup_ne (Or.inr (by decide))).trans ((kup_ne (Or.inr (by decide))).trans ((kup_ne (Or.inr (by decide))).trans kup_self)))), ((kup_ne (Or.inr (by decide))).trans ((kup_ne (Or.inr (by decide))).trans ((kup_ne (Or.inr (by decide))).trans ((kup_ne (Or.inr (by decide))).trans ((kup_ne (Or.inr (by decide))).trans ((kup_ne (Or.inr (by decide))).trans ((kup_ne (Or.inr (by decide))).trans (hp 5)))))))), ((kup_ne (Or.inr (by decide))).trans ((kup_ne (Or.inr (by decide))).trans ((kup_ne (Or.inr (by decide))).trans ((kup_ne (Or.inr (by decide))).trans ((kup_ne (Or.inr (by decide))).trans ((kup_ne (Or.inr (by decide))).trans ((kup_ne (Or.inr (by decide))).trans (hp 6)))))))), ((kup_ne (Or.inr (by decide))).trans ((kup_ne (Or.inr (by decide))).trans ((kup_ne (Or.inr (by decide))).trans ((kup_ne (Or.inr (by decide))).trans ((kup_ne (Or.inr (by decide))).trans ((kup_ne (Or.inr (by decide))).trans ((kup_ne (Or.inr (by decide))).trans (hp 7)))))))), ((kup_ne (Or.inr (by decide))).trans ((kup_ne (Or.inr (by decide))).trans ((kup_ne (Or.inr (by decide))).trans ((kup_ne (Or.inr (by decide))).trans ((kup_ne (Or.inr (by decide))).trans ((kup_ne (Or.inr (by decide))).trans ((kup_ne (Or.inr (by decide))).trans (hp 8)))))))), ((kup_ne (Or.inr (by decide))).trans ((kup_ne (Or.inr (by decide))).trans ((kup_ne (Or.inr (by decide))).trans ((kup_ne (Or.inr (by decide))).trans ((kup_ne (Or.inr (by decide))).trans ((kup_ne (Or.inr (by decide))).trans ((kup_ne (Or.inr (by decide))).trans (hp 9)))))))), ((kup_ne (Or.inr (by decide))).trans ((kup_ne (Or.inr (by decide))).trans ((kup_ne (Or.inr (by decide))).trans ((kup_ne (Or.inr (by decide))).trans ((kup_ne (Or.inr (by decide))).trans ((kup_ne (Or.inr (by decide))).trans ((kup_ne (Or.inr (by decide))).trans (hp 10)))))))), ((kup_ne (Or.inr (by decide))).trans ((kup_ne (Or.inr (by decide))).trans ((kup_ne (Or.inr (by decide))).trans ((kup_ne (Or.inr (by decide))).trans ((kup_ne (Or.inr (by decide))).trans ((kup_ne (Or.inr (by decide))).trans ((kup_ne (Or.inr (by decide))).trans (hp 11)))))))), ((kup_ne (Or.inr (by decide))).trans ((kup_ne (Or.inr (by decide))).trans ((kup_ne (Or.inr (by decide))).trans ((kup_ne (Or.inr (by decide))).trans ((kup_ne (Or.inr (by decide))).trans ((kup_ne (Or.inr (by decide))).trans ((kup_ne (Or.inr (by decide))).trans (hp 12)))))))), ((kup_ne (Or.inr (by decide))).trans ((kup_ne (Or.inr (by decide))).trans ((kup_ne (Or.inr (by decide))).trans ((kup_ne (Or.inr (by decide))).trans ((kup_ne (Or.inr (by decide))).trans ((kup_ne (Or.inr (by decide))).trans ((kup_ne (Or.inr (by decide))).trans (hp 13)))))))), ((kup_ne (Or.inr (by decide))).trans ((kup_ne (Or.inr (by decide))).trans ((kup_ne (Or.inr (by decide))).trans ((kup_ne (Or.inr (by decide))).trans ((kup_ne (Or.inr (by decide))).trans ((kup_ne (Or.inr (by decide))).trans ((kup_ne (Or.inr (by decide))).trans (hp 14)))))))), ((kup_ne (Or.inr (by decide))).trans ((kup_ne (Or.inr (by decide))).trans ((kup_ne (Or.inr (by decide))).trans kup_self))), ((kup_ne (Or.inr (by decide))).trans ((kup_ne (Or.inr (by decide))).trans kup_self)), ((kup_ne (Or.inr (by decide))).trans ((kup_ne (Or.inr (by decide))).trans ((kup_ne (Or.inr (by decide))).trans ((kup_ne (Or.inr (by decide))).trans ((kup_ne (Or.inr (by decide))).trans ((kup_ne (Or.inr (by decide))).trans ((kup_ne (Or.inr (by decide))).trans (hp 17)))))))), (Nat.zero_le _), (hF_9.ty (hF_7.ty (hF_5.ty (hF_3.ty (hF_1.ty h_qa))))), (fun b hb => by cases hb; exact (hF_9.ty (hF_7.ty (hF_5.ty (hF_3.ty (hF_1.ty h_qb)))))), (hF_9.ty (hF_7.ty (hF_5.ty (hF_3.ty tq_1)))), (hF_9.ty (hF_7.ty (hF_5.ty tq_3))), (hF_9.ty (hF_7.ty tq_5)), (hF_9.ty tq_7), tq_9⟩, hI⟩, by rw [ht]; exact hP, va_K.moved hW9.alike hK, hD⟩, hS.F ht⟩) hS.2.2 dX1_init_132
