set_option maxHeartbeats 4000000 in
set_option maxRecDepth 100000 in
theorem c_grow1 (l : Launch) (dC : Nat → ClassId) (dI : Nat → Nat → Nat) (ad sz : Nat) (h : Nat) (mo : Int32) : Met l yJx4a65c_grow_92f84 wsJx4a65c_grow_92f84 ({ frames := 1, cells := 1, slots := 10, locals := 14 } : Room) (va_Pc [.ref h, .int 1] (kc_B (dC, dI) vwCl ad sz [(h, .inr (0, [.int mo, .ref ad, .int 0]))] [])) (va_Qr (fun _ => True) (fun (u : ClassId) ra => kc_R (S := Unit) (dC, dI) vwCl (va_A [(h, .inr (0, [.int mo, .ref ad, .int 0]))] sz) (fun _ => (fun u ra => [(h, .inr (0, [.int mo, .ref ra, .int 0])), (ra, .inl (u, 10, .inr (.inr (.inr (.inr (fun _ => none))))))]) u ra) (fun _ => (fun u => [(u, .object "java/lang/Object")]) u) ()) (va_A [(h, .inr (0, [.int mo, .ref ad, .int 0]))] sz)) 1 10 (va_A [(h, .inr (0, [.int mo, .ref ad, .int 0]))] sz) := by
  refine Met.ofW (cc := cJx4a65c_grow_92f84) (maxL := 4) (ret := (some (.array (.object "java/lang/Object")))) (by decide) rfl ?_
  intro p e s m args below meth c s₁ B hml hv
  obtain ⟨rfl, hsz, hP, hK, hD0, hE⟩ := hv
  have hx := B.exec
  have hb := B.bytes
  have hr := B.returns
  have hts := atoms_spec (ws := wsJx4a65c_grow_92f84) B.pre
  have hown : s.vm.findClass RJx4a65c = some m.cls := findClass_of_methodNamed B.named
  have hlocks := B.notSynchronized
  have i_Jx4a65c : ∀ w ∈ u_ws RJx4a65c TJx4a65c 3, w ∈ wsJx4a65c_grow_92f84 := (by decide +kernel)
  subst hsz
  have hD := hD0.self (sz := s.heap.size)
  generalize hAe : va_A [(h, .inr (0, [.int mo, .ref ad, .int 0]))] s.heap.size = A at hD hE ⊢
  have hA : ∀ q : Nat, s.heap.size ≤ q → A q := fun q h => by rw [← hAe]; exact Or.inr h
  have hS : va_S A s.heap s.heap [] := va_S.rf
  have hP : va_P (dC, dI) vwCl [(h, .inr (0, [.int mo, .ref ad, .int 0]))] s.heap := hP
  have hl := lv_entry ([.ref h, .int 1]) (n := 4) (Nat.le_of_ble_eq_true rfl)
  rw [lg_entry_eq]
  generalize (lg_sl ([.ref h, .int 1]) ++ List.replicate (4 - (lg_sl ([.ref h, .int 1])).length) Slot.unset).toArray = ls at hl ⊢
  have hl : lv_has ls 4 [(0, .ref h), (1, .int 1)] := hl
  refine lv_aload_n hx hb dJx4a65c_grow_92f84_0 rfl (lv_at hl 0 rfl) ?_
  refine va_get (D := (dC, dI)) (ci := 0) (v := .ref ad) (C := RJx4a65c) (T := TJx4a65c) (N := 3) hx hb hts i_Jx4a65c hown hK hP 0 rfl rfl 1 (by decide) (hts (.fieldLink RJx4a65c 9 "java/util/ArrayList" "elementData" "[Ljava/lang/Object;") (by decide +kernel)) (fun _ h9 => h9) rfl dJx4a65c_grow_92f84_1 ?_
  refine va_tlen (v := 0) hx hb hE.2.2.2.2.2.2.2.2.2 hS rfl dJx4a65c_grow_92f84_4 ?_
  refine lv_istore_n (lv' := [(2, .int 0), (0, .ref h), (1, .int 1)]) hx hb dJx4a65c_grow_92f84_5 rfl hl (by decide) rfl (fun ls hl => ?_)
  refine lv_iload_n hx hb dJx4a65c_grow_92f84_6 rfl (lv_at hl 0 rfl) ?_
  refine lv_if_gt (tgt := 20) hx hb dJx4a65c_grow_92f84_7 (by decide) (fun h9 => absurd h9 (by decide)) (fun _ => ?_)
  refine lv_aload_n hx hb dJx4a65c_grow_92f84_10 rfl (lv_at hl 1 rfl) ?_
  refine va_get (D := (dC, dI)) (ci := 0) (v := .ref ad) (C := RJx4a65c) (T := TJx4a65c) (N := 3) hx hb hts i_Jx4a65c hown hK hP 0 rfl rfl 1 (by decide) (hts (.fieldLink RJx4a65c 9 "java/util/ArrayList" "elementData" "[Ljava/lang/Object;") (by decide +kernel)) (fun _ h9 => h9) rfl dJx4a65c_grow_92f84_11 ?_
  refine va_gets (v := .ref ad) hx hb hE.2.2.2.2.2.2.2.2.1 hS hown (hts (.fieldLink RJx4a65c 39 "java/util/ArrayList" "DEFAULTCAPACITY_EMPTY_ELEMENTDATA" "[Ljava/lang/Object;") (by decide +kernel)) (fun _ h9 => h9) dJx4a65c_grow_92f84_14 ?_
  refine W.eq (g2 := F0 m 17 ls [va_rf (some ad), va_rf (some ad)]) rfl ?_
  refine lv_acmp_eq (rx := some ad) (ry := some ad) (tgt := 45) hx hb dJx4a65c_grow_92f84_17 (by decide) (fun _ => ?_) (fun h9 => absurd rfl h9)
  refine lv_aload_n hx hb dJx4a65c_grow_92f84_45 rfl (lv_at hl 1 rfl) ?_
  refine lv_bipush (v := 10) hx hb dJx4a65c_grow_92f84_46 (by decide) ?_
  refine lv_iload_n hx hb dJx4a65c_grow_92f84_48 rfl (lv_at hl 2 rfl) ?_
  refine va_mmax hx hb (hml.trans hl.1.symm) hown (hts (.methodLink RJx4a65c 79 Lib.Math.max.name) (by decide +kernel)) (hts (.static Lib.Math.max.name) (by decide +kernel)) (hts (.initialized "java/lang/Math") (by decide +kernel)) (hts (.code Lib.Math.max.name Lib.Math.max.code 2 (some .int)) (by decide +kernel)) (Nat.le_of_ble_eq_true rfl) (Nat.le_of_ble_eq_true rfl) (Nat.le_of_ble_eq_true rfl) (Nat.le_of_ble_eq_true rfl) dJx4a65c_grow_92f84_49 ?_
  refine lv_topi (fun x_1 ex_1 => ?_)
  obtain rfl : x_1 = 10 := by rw [ex_1]; decide
  refine va_newq (N' := 10) (C := "java/lang/Object") hx hb hown (hts (.classLink RJx4a65c 7 "java/lang/Object") (by decide +kernel)) (hE.2.2.2.2.2.1 "java/lang/Object" (by decide)) hK hP hD hS hA (by decide +kernel) (by decide +kernel) (Nat.le_of_ble_eq_true rfl) (Nat.le_of_ble_eq_true rfl) (Nat.le_of_ble_eq_true rfl) dJx4a65c_grow_92f84_52 (fun q_2 cA_3 H hK hP hD hS => ?_)
  have hP : va_P (dC, dI) vwCl [(h, .inr (0, [.int mo, .ref ad, .int 0])), (q_2, .inl (cA_3, 10, .inr (.inr (.inr (.inr (fun _ => none))))))] H := hP
  have hD : va_D A [(h, .inr (0, [.int mo, .ref ad, .int 0])), (q_2, .inl (cA_3, 10, .inr (.inr (.inr (.inr (fun _ => none))))))] := hD
  have hK : va_K (dC, dI) vwCl [(cA_3, .object "java/lang/Object")] s := hK
  refine W.widen (k := 1) (n := 10) (by omega) (by omega) ?_
  refine lv_dup_x1 hx hb dJx4a65c_grow_92f84_55 rfl rfl ?_
  refine va_put (D := (dC, dI)) (ci := 0) (v := .ref q_2) (ty := .array (.object "java/lang/Object")) (C := RJx4a65c) (T := TJx4a65c) (N := 3) hx hb hts i_Jx4a65c tyJx4a65c tyJx4a65c_ok nmJx4a65c hown hK hP hD hS 0 rfl rfl 1 (by decide) (hts (.fieldLink RJx4a65c 9 "java/util/ArrayList" "elementData" "[Ljava/lang/Object;") (by decide +kernel)) (fun _ h9 => h9) rfl (by decide +kernel) rfl rfl (Nat.le_of_ble_eq_true rfl) dJx4a65c_grow_92f84_56 (fun H locs hP hD hS => ?_)
  have hP : va_P (dC, dI) vwCl [(h, .inr (0, [.int mo, .ref q_2, .int 0])), (q_2, .inl (cA_3, 10, .inr (.inr (.inr (.inr (fun _ => none))))))] H := hP
  have hD : va_D A [(h, .inr (0, [.int mo, .ref q_2, .int 0])), (q_2, .inl (cA_3, 10, .inr (.inr (.inr (.inr (fun _ => none))))))] := hD
  refine W.widen (k := 1) (n := 10) (Nat.le_of_ble_eq_true rfl) (Nat.le_of_ble_eq_true rfl) ?_
  have hP9 := hP.sub (ws' := [(h, .inr (0, [.int mo, .ref q_2, .int 0])), (q_2, .inl (cA_3, 10, .inr (.inr (.inr (.inr (fun _ => none))))))]) [0, 1] rfl
  have hD9 := hD.sub (ws' := [(h, .inr (0, [.int mo, .ref q_2, .int 0])), (q_2, .inl (cA_3, 10, .inr (.inr (.inr (.inr (fun _ => none))))))]) [0, 1] (by decide) rfl
  have hK9 := hK.sub (tys' := [(cA_3, .object "java/lang/Object")]) [0] rfl
  exact W.aret (v := .ref q_2) hx hb hr (Or.inr ⟨_, rfl⟩) (Or.inr ⟨_, rfl⟩) (fun t ht hW => ⟨⟨cA_3, q_2, rfl, trivial, by rw [ht]; exact hP9, va_K.moved hW.alike hK9, hD9⟩, hS.F ht⟩) hS.2.2 dJx4a65c_grow_92f84_59
set_option maxHeartbeats 4000000 in
set_option maxRecDepth 100000 in
theorem c_grow (l : Launch) (dC : Nat → ClassId) (dI : Nat → Nat → Nat) (ad sz : Nat) (h : Nat) (mo : Int32) : Met l yJx4a65c_grow_d5877 wsJx4a65c_grow_d5877 ({ frames := 2, cells := 1, slots := 10, locals := 37 } : Room) (va_Pc [.ref h] (kc_B (dC, dI) vwCl ad sz [(h, .inr (0, [.int mo, .ref ad, .int 0]))] [])) (va_Qr (fun _ => True) (fun (u : ClassId) ra => kc_R (S := Unit) (dC, dI) vwCl (va_A [(h, .inr (0, [.int mo, .ref ad, .int 0]))] sz) (fun _ => (fun u ra => [(h, .inr (0, [.int mo, .ref ra, .int 0])), (ra, .inl (u, 10, .inr (.inr (.inr (.inr (fun _ => none))))))]) u ra) (fun _ => (fun u => [(u, .object "java/lang/Object")]) u) ()) (va_A [(h, .inr (0, [.int mo, .ref ad, .int 0]))] sz)) 1 10 (va_A [(h, .inr (0, [.int mo, .ref ad, .int 0]))] sz) := by
  refine Met.ofW (cc := cJx4a65c_grow_d5877) (maxL := 1) (ret := (some (.array (.object "java/lang/Object")))) (by decide) rfl ?_
  intro p e s m args below meth c s₁ B hml hv
  obtain ⟨rfl, hsz, hP, hK, hD0, hE⟩ := hv
  have hx := B.exec
  have hb := B.bytes
  have hr := B.returns
  have hts := atoms_spec (ws := wsJx4a65c_grow_d5877) B.pre
  have hown : s.vm.findClass RJx4a65c = some m.cls := findClass_of_methodNamed B.named
  have hlocks := B.notSynchronized
  have i_Jx4a65c : ∀ w ∈ u_ws RJx4a65c TJx4a65c 3, w ∈ wsJx4a65c_grow_d5877 := (by decide +kernel)
  subst hsz
  have hD := hD0.self (sz := s.heap.size)
  generalize hAe : va_A [(h, .inr (0, [.int mo, .ref ad, .int 0]))] s.heap.size = A at hD hE ⊢
  have hA : ∀ q : Nat, s.heap.size ≤ q → A q := fun q h => by rw [← hAe]; exact Or.inr h
  have hS : va_S A s.heap s.heap [] := va_S.rf
  have hP : va_P (dC, dI) vwCl [(h, .inr (0, [.int mo, .ref ad, .int 0]))] s.heap := hP
  have hl := lv_entry ([.ref h]) (n := 1) (Nat.le_of_ble_eq_true rfl)
  rw [lg_entry_eq]
  generalize (lg_sl ([.ref h]) ++ List.replicate (1 - (lg_sl ([.ref h])).length) Slot.unset).toArray = ls at hl ⊢
  have hl : lv_has ls 1 [(0, .ref h)] := hl
  refine lv_aload_n hx hb dJx4a65c_grow_d5877_0 rfl (lv_at hl 0 rfl) ?_
  refine lv_aload_n hx hb dJx4a65c_grow_d5877_1 rfl (lv_at hl 0 rfl) ?_
  refine va_get (D := (dC, dI)) (ci := 0) (v := .int 0) (C := RJx4a65c) (T := TJx4a65c) (N := 3) hx hb hts i_Jx4a65c hown hK hP 0 rfl rfl 2 (by decide) (hts (.fieldLink RJx4a65c 48 "java/util/ArrayList" "size" "I") (by decide +kernel)) (fun _ h9 => h9) rfl dJx4a65c_grow_d5877_2 ?_
  refine lv_iconst (v := 1) hx hb dJx4a65c_grow_d5877_5 (by decide) ?_
  refine lv_iadd hx hb dJx4a65c_grow_d5877_6 ?_
  refine lv_topi (fun x_1 ex_1 => ?_)
  obtain rfl : x_1 = 1 := by rw [ex_1]; decide
  refine kc_callr (wc := [(h, .inr (0, [.int mo, .ref ad, .int 0]))]) (wr := []) (tyr := []) (va_runV (As := [.int 1]) (rest := []) ⟨hx, hb, hml, hown, hts⟩ (c_grow1 l dC dI ad _ h mo) (cwV 1 hts gJx4a65c_grow_d5877_Jx4a65c_grow_92f84 rfl rfl rfl (by decide +kernel) ⟨Nat.le_of_ble_eq_true rfl, Nat.le_of_ble_eq_true rfl⟩) (kc_preV hP hD hK hS hA hE [0] rfl (by decide) [] rfl 0 rfl rfl) rfl rfl hl.1 rfl (lv_room (Nat.le_of_ble_eq_true rfl)) dJx4a65c_grow_d5877_7 ⟨Nat.le_of_ble_eq_true rfl, Nat.le_of_ble_eq_true rfl⟩) hP hD hK hS hA [0] [] rfl rfl (by decide) (by decide) [] rfl (fun u r_2 H locs hw hP hD hK hS => ?_)
  obtain ⟨cO_3, rfl⟩ : ∃ z, z = u := ⟨_, rfl⟩
  have hP : va_P (dC, dI) vwCl [(h, .inr (0, [.int mo, .ref r_2, .int 0])), (r_2, .inl (cO_3, 10, .inr (.inr (.inr (.inr (fun _ => none))))))] H := hP
  have hD : va_D A [(h, .inr (0, [.int mo, .ref r_2, .int 0])), (r_2, .inl (cO_3, 10, .inr (.inr (.inr (.inr (fun _ => none))))))] := hD
  have hK : va_K (dC, dI) vwCl [(cO_3, .object "java/lang/Object")] s := hK
  refine W.widen (k := 1) (n := 10) (Nat.le_of_ble_eq_true rfl) (Nat.le_of_ble_eq_true rfl) ?_
  refine W.widen (k := 1) (n := 10) (Nat.le_of_ble_eq_true rfl) (Nat.le_of_ble_eq_true rfl) ?_
  have hP9 := hP.sub (ws' := [(h, .inr (0, [.int mo, .ref r_2, .int 0])), (r_2, .inl (cO_3, 10, .inr (.inr (.inr (.inr (fun _ => none))))))]) [0, 1] rfl
  have hD9 := hD.sub (ws' := [(h, .inr (0, [.int mo, .ref r_2, .int 0])), (r_2, .inl (cO_3, 10, .inr (.inr (.inr (.inr (fun _ => none))))))]) [0, 1] (by decide) rfl
  have hK9 := hK.sub (tys' := [(cO_3, .object "java/lang/Object")]) [0] rfl
  exact W.aret (v := .ref r_2) hx hb hr (Or.inr ⟨_, rfl⟩) (Or.inr ⟨_, rfl⟩) (fun t ht hW => ⟨⟨cO_3, r_2, rfl, trivial, by rw [ht]; exact hP9, va_K.moved hW.alike hK9, hD9⟩, hS.F ht⟩) hS.2.2 dJx4a65c_grow_d5877_10
set_option maxHeartbeats 4000000 in
set_option maxRecDepth 100000 in
theorem c_add3 (l : Launch) (dC : Nat → ClassId) (dI : Nat → Nat → Nat) (ad sz : Nat) (h : Nat) (bb : Nat) (mo : Int32) (fs : List Value) : Met l yJx4a65c_add_72be8 wsJx4a65c_add_72be8 ({ frames := 3, cells := 1, slots := 10, locals := 57 } : Room) (va_Pc [.ref h, .ref bb, .ref ad, .int 0] (kc_B (dC, dI) vwCl ad sz [(h, .inr (0, [.int mo, .ref ad, .int 0])), (bb, .inr (1, fs))] [])) (va_Qv (fun _ => True) (kc_R (S := Unit) (dC, dI) vwCl (va_A [(h, .inr (0, [.int mo, .ref ad, .int 0])), (bb, .inr (1, fs))] sz) (fun _ => []) (fun _ => [])) (va_A [(h, .inr (0, [.int mo, .ref ad, .int 0])), (bb, .inr (1, fs))] sz)) 1 10 (va_A [(h, .inr (0, [.int mo, .ref ad, .int 0])), (bb, .inr (1, fs))] sz) := by
  refine Met.ofW (cc := cJx4a65c_add_72be8) (maxL := 4) (ret := none) (by decide) rfl ?_
  intro p e s m args below meth c s₁ B hml hv
  obtain ⟨rfl, hsz, hP, hK, hD0, hE⟩ := hv
  have hx := B.exec
  have hb := B.bytes
  have hr := B.returns
  have hts := atoms_spec (ws := wsJx4a65c_add_72be8) B.pre
  have hown : s.vm.findClass RJx4a65c = some m.cls := findClass_of_methodNamed B.named
  have hlocks := B.notSynchronized
  have i_Jx4a65c : ∀ w ∈ u_ws RJx4a65c TJx4a65c 3, w ∈ wsJx4a65c_add_72be8 := (by decide +kernel)
  subst hsz
  have hD := hD0.self (sz := s.heap.size)
  generalize hAe : va_A [(h, .inr (0, [.int mo, .ref ad, .int 0])), (bb, .inr (1, fs))] s.heap.size = A at hD hE ⊢
  have hA : ∀ q : Nat, s.heap.size ≤ q → A q := fun q h => by rw [← hAe]; exact Or.inr h
  have hS : va_S A s.heap s.heap [] := va_S.rf
  have hP : va_P (dC, dI) vwCl [(h, .inr (0, [.int mo, .ref ad, .int 0])), (bb, .inr (1, fs))] s.heap := hP
  have hl := lv_entry ([.ref h, .ref bb, .ref ad, .int 0]) (n := 4) (Nat.le_of_ble_eq_true rfl)
  rw [lg_entry_eq]
  generalize (lg_sl ([.ref h, .ref bb, .ref ad, .int 0]) ++ List.replicate (4 - (lg_sl ([.ref h, .ref bb, .ref ad, .int 0])).length) Slot.unset).toArray = ls at hl ⊢
  have hl : lv_has ls 4 [(0, .ref h), (1, .ref bb), (2, .ref ad), (3, .int 0)] := hl
  refine lv_iload_n hx hb dJx4a65c_add_72be8_0 rfl (lv_at hl 3 rfl) ?_
  refine lv_aload_n hx hb dJx4a65c_add_72be8_1 rfl (lv_at hl 2 rfl) ?_
  refine va_tlen (v := 0) hx hb hE.2.2.2.2.2.2.2.2.2 hS rfl dJx4a65c_add_72be8_2 ?_
  refine lv_icmp_ne (tgt := 11) hx hb dJx4a65c_add_72be8_3 (by decide) (fun h9 => absurd h9 (by decide)) (fun _ => ?_)
  refine lv_aload_n hx hb dJx4a65c_add_72be8_6 rfl (lv_at hl 0 rfl) ?_
  refine kc_callr (wc := [(h, .inr (0, [.int mo, .ref ad, .int 0]))]) (wr := [(bb, .inr (1, fs))]) (tyr := []) (va_runV (As := []) (rest := []) ⟨hx, hb, hml, hown, hts⟩ (c_grow l dC dI ad _ h mo) (cwV 0 hts gJx4a65c_add_72be8_Jx4a65c_grow_d5877 rfl rfl rfl (by decide +kernel) ⟨Nat.le_of_ble_eq_true rfl, Nat.le_of_ble_eq_true rfl⟩) (kc_preV hP hD hK hS hA hE [0] rfl (by decide) [] rfl 0 rfl rfl) rfl rfl hl.1 rfl (lv_room (Nat.le_of_ble_eq_true rfl)) dJx4a65c_add_72be8_7 ⟨Nat.le_of_ble_eq_true rfl, Nat.le_of_ble_eq_true rfl⟩) hP hD hK hS hA [0] [1] rfl rfl (by decide) (by decide) [] rfl (fun u r_1 H locs hw hP hD hK hS => ?_)
  obtain ⟨cO_2, rfl⟩ : ∃ z, z = u := ⟨_, rfl⟩
  have hP : va_P (dC, dI) vwCl [(bb, .inr (1, fs)), (h, .inr (0, [.int mo, .ref r_1, .int 0])), (r_1, .inl (cO_2, 10, .inr (.inr (.inr (.inr (fun _ => none))))))] H := hP
  have hD : va_D A [(bb, .inr (1, fs)), (h, .inr (0, [.int mo, .ref r_1, .int 0])), (r_1, .inl (cO_2, 10, .inr (.inr (.inr (.inr (fun _ => none))))))] := hD
  have hK : va_K (dC, dI) vwCl [(cO_2, .object "java/lang/Object")] s := hK
  refine W.widen (k := 1) (n := 10) (Nat.le_of_ble_eq_true rfl) (Nat.le_of_ble_eq_true rfl) ?_
  refine lv_astore_n (lv' := [(2, .ref r_1), (0, .ref h), (1, .ref bb), (3, .int 0)]) hx hb dJx4a65c_add_72be8_10 rfl hl (by decide) rfl (fun ls hl => ?_)
  refine lv_aload_n hx hb dJx4a65c_add_72be8_11 rfl (lv_at hl 0 rfl) ?_
  refine lv_iload_n hx hb dJx4a65c_add_72be8_12 rfl (lv_at hl 3 rfl) ?_
  refine lv_aload_n hx hb dJx4a65c_add_72be8_13 rfl (lv_at hl 2 rfl) ?_
  refine va_astqM (E := "java/lang/Object") hx hb hK hP hD hS 2 0 rfl rfl (i := 0) (va_rAny (q0 := 0) (ci := 1) hK hP rfl rfl (hE.asg "IslandSolver$Body" "java/lang/Object" (by decide +kernel))) (by unfold vp_in; decide) dJx4a65c_add_72be8_14 (fun H locs hP hD hS => ?_)
  have hP : va_P (dC, dI) vwCl [(bb, .inr (1, fs)), (h, .inr (0, [.int mo, .ref r_1, .int 0])), (r_1, .inl (cO_2, 10, .inr (.inr (.inr (.inr (va_up (fun _ => none) (0 : Int32).toNatClampNeg (some bb)))))))] H := hP
  have hD : va_D A [(bb, .inr (1, fs)), (h, .inr (0, [.int mo, .ref r_1, .int 0])), (r_1, .inl (cO_2, 10, .inr (.inr (.inr (.inr (va_up (fun _ => none) (0 : Int32).toNatClampNeg (some bb)))))))] := hD
  generalize hff_3 : va_up (fun _ => none) (0 : Int32).toNatClampNeg (some bb) = f_3 at hP hD
  refine lv_aload_n hx hb dJx4a65c_add_72be8_15 rfl (lv_at hl 1 rfl) ?_
  refine lv_iload_n hx hb dJx4a65c_add_72be8_16 rfl (lv_at hl 3 rfl) ?_
  refine lv_iconst (v := 1) hx hb dJx4a65c_add_72be8_17 (by decide) ?_
  refine lv_iadd hx hb dJx4a65c_add_72be8_18 ?_
  refine lv_topi (fun x_4 ex_4 => ?_)
  obtain rfl : x_4 = 1 := by rw [ex_4]; decide
  refine va_put (D := (dC, dI)) (ci := 0) (v := .int 1) (ty := .int) (C := RJx4a65c) (T := TJx4a65c) (N := 3) hx hb hts i_Jx4a65c tyJx4a65c tyJx4a65c_ok nmJx4a65c hown hK hP hD hS 1 rfl rfl 2 (by decide) (hts (.fieldLink RJx4a65c 48 "java/util/ArrayList" "size" "I") (by decide +kernel)) (fun _ h9 => h9) rfl (by decide +kernel) rfl rfl (Nat.le_of_ble_eq_true rfl) dJx4a65c_add_72be8_19 (fun H locs hP hD hS => ?_)
  have hP : va_P (dC, dI) vwCl [(bb, .inr (1, fs)), (h, .inr (0, [.int mo, .ref r_1, .int 1])), (r_1, .inl (cO_2, 10, .inr (.inr (.inr (.inr f_3)))))] H := hP
  have hD : va_D A [(bb, .inr (1, fs)), (h, .inr (0, [.int mo, .ref r_1, .int 1])), (r_1, .inl (cO_2, 10, .inr (.inr (.inr (.inr f_3)))))] := hD
  refine W.widen (k := 1) (n := 10) (Nat.le_of_ble_eq_true rfl) (Nat.le_of_ble_eq_true rfl) ?_
  have hP9 := hP.sub (ws' := []) [] rfl
  have hD9 := hD.sub (ws' := []) [] (by decide) rfl
  have hK9 := hK.sub (tys' := []) [] rfl
  exact W.vret hx hb hr (fun t ht hW => ⟨⟨(), rfl, trivial, by rw [ht]; exact hP9, va_K.moved hW.alike hK9, hD9⟩, hS.F ht⟩) hS.2.2 dJx4a65c_add_72be8_22
set_option maxHeartbeats 4000000 in
set_option maxRecDepth 100000 in
theorem c_add1 (l : Launch) (dC : Nat → ClassId) (dI : Nat → Nat → Nat) (ad sz : Nat) (h : Nat) (bb : Nat) (mo : Int32) (fs : List Value) : Met l yJx4a65c_add_9ea2d wsJx4a65c_add_9ea2d ({ frames := 4, cells := 1, slots := 10, locals := 80 } : Room) (va_Pc [.ref h, .ref bb] (kc_B (dC, dI) vwCl ad sz [(h, .inr (0, [.int mo, .ref ad, .int 0])), (bb, .inr (1, fs))] [])) (va_Qi (fun r _ => r = 1) (kc_R (S := Unit) (dC, dI) vwCl (va_A [(h, .inr (0, [.int mo, .ref ad, .int 0])), (bb, .inr (1, fs))] sz) (fun _ => []) (fun _ => [])) (va_A [(h, .inr (0, [.int mo, .ref ad, .int 0])), (bb, .inr (1, fs))] sz)) 1 10 (va_A [(h, .inr (0, [.int mo, .ref ad, .int 0])), (bb, .inr (1, fs))] sz) := by
  refine Met.ofW (cc := cJx4a65c_add_9ea2d) (maxL := 2) (ret := (some .boolean)) (by decide) rfl ?_
  intro p e s m args below meth c s₁ B hml hv
  obtain ⟨rfl, hsz, hP, hK, hD0, hE⟩ := hv
  have hx := B.exec
  have hb := B.bytes
  have hr := B.returns
  have hts := atoms_spec (ws := wsJx4a65c_add_9ea2d) B.pre
  have hown : s.vm.findClass RJx4a65c = some m.cls := findClass_of_methodNamed B.named
  have hlocks := B.notSynchronized
  have i_Jx4a65c : ∀ w ∈ u_ws RJx4a65c TJx4a65c 3, w ∈ wsJx4a65c_add_9ea2d := (by decide +kernel)
  subst hsz
  have hD := hD0.self (sz := s.heap.size)
  generalize hAe : va_A [(h, .inr (0, [.int mo, .ref ad, .int 0])), (bb, .inr (1, fs))] s.heap.size = A at hD hE ⊢
  have hA : ∀ q : Nat, s.heap.size ≤ q → A q := fun q h => by rw [← hAe]; exact Or.inr h
  have hS : va_S A s.heap s.heap [] := va_S.rf
  have hP : va_P (dC, dI) vwCl [(h, .inr (0, [.int mo, .ref ad, .int 0])), (bb, .inr (1, fs))] s.heap := hP
  have hl := lv_entry ([.ref h, .ref bb]) (n := 2) (Nat.le_of_ble_eq_true rfl)
  rw [lg_entry_eq]
  generalize (lg_sl ([.ref h, .ref bb]) ++ List.replicate (2 - (lg_sl ([.ref h, .ref bb])).length) Slot.unset).toArray = ls at hl ⊢
  have hl : lv_has ls 2 [(0, .ref h), (1, .ref bb)] := hl
  refine lv_aload_n hx hb dJx4a65c_add_9ea2d_0 rfl (lv_at hl 0 rfl) ?_
  refine lv_dup hx hb dJx4a65c_add_9ea2d_1 rfl ?_
  refine va_get (D := (dC, dI)) (ci := 0) (v := .int mo) (C := RJx4a65c) (T := TJx4a65c) (N := 3) hx hb hts i_Jx4a65c hown hK hP 0 rfl rfl 0 (by decide) (hts (.fieldLink RJx4a65c 63 "java/util/ArrayList" "modCount" "I") (by decide +kernel)) (fun _ h9 => u_same (hts (.sameField "java/util/ArrayList" "java/util/AbstractList" "modCount" "I") (by decide +kernel)) _ h9) rfl dJx4a65c_add_9ea2d_2 ?_
  refine lv_iconst (v := 1) hx hb dJx4a65c_add_9ea2d_5 (by decide) ?_
  refine lv_iadd hx hb dJx4a65c_add_9ea2d_6 ?_
  refine lv_topi (fun x_1 ex_1 => ?_)
  refine va_put (D := (dC, dI)) (ci := 0) (v := .int x_1) (ty := .int) (C := RJx4a65c) (T := TJx4a65c) (N := 3) hx hb hts i_Jx4a65c tyJx4a65c tyJx4a65c_ok nmJx4a65c hown hK hP hD hS 0 rfl rfl 0 (by decide) (hts (.fieldLink RJx4a65c 63 "java/util/ArrayList" "modCount" "I") (by decide +kernel)) (fun _ h9 => u_same (hts (.sameField "java/util/ArrayList" "java/util/AbstractList" "modCount" "I") (by decide +kernel)) _ h9) rfl (by decide +kernel) rfl rfl (Nat.le_of_ble_eq_true rfl) dJx4a65c_add_9ea2d_7 (fun H locs hP hD hS => ?_)
  have hP : va_P (dC, dI) vwCl [(h, .inr (0, [.int x_1, .ref ad, .int 0])), (bb, .inr (1, fs))] H := hP
  have hD : va_D A [(h, .inr (0, [.int x_1, .ref ad, .int 0])), (bb, .inr (1, fs))] := hD
  refine lv_aload_n hx hb dJx4a65c_add_9ea2d_10 rfl (lv_at hl 0 rfl) ?_
  refine lv_aload_n hx hb dJx4a65c_add_9ea2d_11 rfl (lv_at hl 1 rfl) ?_
  refine lv_aload_n hx hb dJx4a65c_add_9ea2d_12 rfl (lv_at hl 0 rfl) ?_
  refine va_get (D := (dC, dI)) (ci := 0) (v := .ref ad) (C := RJx4a65c) (T := TJx4a65c) (N := 3) hx hb hts i_Jx4a65c hown hK hP 0 rfl rfl 1 (by decide) (hts (.fieldLink RJx4a65c 9 "java/util/ArrayList" "elementData" "[Ljava/lang/Object;") (by decide +kernel)) (fun _ h9 => h9) rfl dJx4a65c_add_9ea2d_13 ?_
  refine lv_aload_n hx hb dJx4a65c_add_9ea2d_16 rfl (lv_at hl 0 rfl) ?_
  refine va_get (D := (dC, dI)) (ci := 0) (v := .int 0) (C := RJx4a65c) (T := TJx4a65c) (N := 3) hx hb hts i_Jx4a65c hown hK hP 0 rfl rfl 2 (by decide) (hts (.fieldLink RJx4a65c 48 "java/util/ArrayList" "size" "I") (by decide +kernel)) (fun _ h9 => h9) rfl dJx4a65c_add_9ea2d_17 ?_
  refine kc_callv (wc := [(h, .inr (0, [.int x_1, .ref ad, .int 0])), (bb, .inr (1, fs))]) (wr := []) (tyr := []) (va_runV (As := [.ref bb, .ref ad, .int 0]) (rest := []) ⟨hx, hb, hml, hown, hts⟩ (c_add3 l dC dI ad _ h bb x_1 fs) (cwV 3 hts gJx4a65c_add_9ea2d_Jx4a65c_add_72be8 rfl rfl rfl (by decide +kernel) ⟨Nat.le_of_ble_eq_true rfl, Nat.le_of_ble_eq_true rfl⟩) (kc_preV hP hD hK hS hA hE [0, 1] rfl (by decide) [] rfl 0 rfl rfl) rfl rfl hl.1 rfl (lv_room (Nat.le_of_ble_eq_true rfl)) dJx4a65c_add_9ea2d_20 ⟨Nat.le_of_ble_eq_true rfl, Nat.le_of_ble_eq_true rfl⟩) hP hD hK hS hA [0, 1] [] rfl rfl (by decide) (by decide) [] rfl (fun u H locs hw hP hD hK hS => ?_)
  have hP : va_P (dC, dI) vwCl [] H := hP
  have hD : va_D A [] := hD
  have hK : va_K (dC, dI) vwCl [] s := hK.sub [] rfl
  refine W.widen (k := 1) (n := 10) (Nat.le_of_ble_eq_true rfl) (Nat.le_of_ble_eq_true rfl) ?_
  refine lv_iconst (v := 1) hx hb dJx4a65c_add_9ea2d_23 (by decide) ?_
  refine W.widen (k := 1) (n := 10) (Nat.le_of_ble_eq_true rfl) (Nat.le_of_ble_eq_true rfl) ?_
  have hP9 := hP.sub (ws' := []) [] rfl
  have hD9 := hD.sub (ws' := []) [] (by decide) rfl
  have hK9 := hK.sub (tys' := []) [] rfl
  exact W.zret (ty := .boolean) (v := 1) hx hb hr rfl (fun t ht hW => ⟨⟨1, (), rfl, rfl, by rw [ht]; exact hP9, va_K.moved hW.alike hK9, hD9⟩, hS.F ht⟩) hS.2.2 dJx4a65c_add_9ea2d_24
set_option maxHeartbeats 4000000 in
set_option maxRecDepth 100000 in
theorem c_Body (l : Launch) (dC : Nat → ClassId) (dI : Nat → Nat → Nat) (ad sz : Nat) (bb : Nat) (i : Int32) (a : UInt32) (b : UInt32) (c3 : UInt32) (g4 : UInt32) (h1 : kz_fin a FP.fconst0 1098907648 = true) (h2 : kz_fin b FP.fconst0 1098907648 = true) (h3 : kz_fin c3 FP.fconst0 1098907648 = true) (h4 : kz_fin g4 FP.fconst0 1098907648 = true) : Met l yX0_init wsX0_init ({ frames := 2, cells := 2, slots := 6, locals := 32 } : Room) (va_Pc [.ref bb, .int i, .float a, .float b, .float c3, .float g4] (kc_B (dC, dI) vwCl ad sz [(bb, .inr (1, [.int 0, .int 0, .float 0, .float 0, .float 0, .float 0, .float 0, .float 0, .float 0, .null, .null, .int 0, .int 0, .int 0, .int 0, .null]))] [])) (va_Qv (fun _ => True) (kc_R (S := List Value) (dC, dI) vwCl (va_A [(bb, .inr (1, [.int 0, .int 0, .float 0, .float 0, .float 0, .float 0, .float 0, .float 0, .float 0, .null, .null, .int 0, .int 0, .int 0, .int 0, .null]))] sz) (fun fs => [(bb, .inr (1, fs))]) (fun _ => [])) (va_A [(bb, .inr (1, [.int 0, .int 0, .float 0, .float 0, .float 0, .float 0, .float 0, .float 0, .float 0, .null, .null, .int 0, .int 0, .int 0, .int 0, .null]))] sz)) 2 6 (va_A [(bb, .inr (1, [.int 0, .int 0, .float 0, .float 0, .float 0, .float 0, .float 0, .float 0, .float 0, .null, .null, .int 0, .int 0, .int 0, .int 0, .null]))] sz) := by
  refine Met.ofW (cc := cX0_init) (maxL := 6) (ret := none) (by decide) rfl ?_
  intro p e s m args below meth c s₁ B hml hv
  obtain ⟨rfl, hsz, hP, hK, hD0, hE⟩ := hv
  have hx := B.exec
  have hb := B.bytes
  have hr := B.returns
  have hts := atoms_spec (ws := wsX0_init) B.pre
  have hown : s.vm.findClass RX0 = some m.cls := findClass_of_methodNamed B.named
  have hlocks := B.notSynchronized
  have hin : meth.name = "<init>" := (name_of_methodNamed B.named B.method).1
  have i_X2 : ∀ w ∈ u_ws RX2 TX2 3, w ∈ wsX0_init := (by decide +kernel)
  have i_X0 : ∀ w ∈ u_ws RX0 TX0 16, w ∈ wsX0_init := (by decide +kernel)
  subst hsz
  have hD := hD0.self (sz := s.heap.size)
  generalize hAe : va_A [(bb, .inr (1, [.int 0, .int 0, .float 0, .float 0, .float 0, .float 0, .float 0, .float 0, .float 0, .null, .null, .int 0, .int 0, .int 0, .int 0, .null]))] s.heap.size = A at hD hE ⊢
  have hA : ∀ q : Nat, s.heap.size ≤ q → A q := fun q h => by rw [← hAe]; exact Or.inr h
  have hS : va_S A s.heap s.heap [] := va_S.rf
  have hP : va_P (dC, dI) vwCl [(bb, .inr (1, [.int 0, .int 0, .float 0, .float 0, .float 0, .float 0, .float 0, .float 0, .float 0, .null, .null, .int 0, .int 0, .int 0, .int 0, .null]))] s.heap := hP
  have hl := lv_entry ([.ref bb, .int i, .float a, .float b, .float c3, .float g4]) (n := 6) (Nat.le_of_ble_eq_true rfl)
  rw [lg_entry_eq]
  generalize (lg_sl ([.ref bb, .int i, .float a, .float b, .float c3, .float g4]) ++ List.replicate (6 - (lg_sl ([.ref bb, .int i, .float a, .float b, .float c3, .float g4])).length) Slot.unset).toArray = ls at hl ⊢
  have hl : lv_has ls 6 [(0, .ref bb), (1, .int i), (2, .float a), (3, .float b), (4, .float c3), (5, .float g4)] := hl
  refine lv_aload_n hx hb dX0_init_0 rfl (lv_at hl 0 rfl) ?_
  refine W.objInit hx hb hown (hts (.methodLink RX0 3 objectInit) (by decide +kernel)) (hts (.instanceMethod objectInit) (by decide +kernel)) (hts (.code objectInit ⟨#[0xb1]⟩ 1 none) (by decide +kernel)) rfl (by rw [hml]; exact hl.1) rfl dX0_init_1 (Nat.le_of_ble_eq_true rfl) (Nat.le_of_ble_eq_true rfl) ?_
  refine W.eq (g2 := F0 m 4 ls []) rfl ?_
  refine lv_aload_n hx hb dX0_init_4 rfl (lv_at hl 0 rfl) ?_
  refine va_new (ci := 3) (fs := [.float 0, .float 0, .float 0]) (C := RX2) (T := TX2) (N := 3) hx hb hts i_X2 tyX2 tyX2_ok hown (hts (.classLink RX0 9 RX2) (by decide +kernel)) (hts (.instantiable RX2 3) (by decide +kernel)) (hts (.initialized RX2) (by decide +kernel)) hK hP hD hS hA rfl (fun j hj => by rcases (show j = 0 ∨ j = 1 ∨ j = 2 by omega) with rfl | rfl | rfl <;> rfl) (Nat.le_of_ble_eq_true rfl) (Nat.le_of_ble_eq_true rfl) dX0_init_5 (fun q_1 H hP hD hS => ?_)
  have hP : va_P (dC, dI) vwCl [(bb, .inr (1, [.int 0, .int 0, .float 0, .float 0, .float 0, .float 0, .float 0, .float 0, .float 0, .null, .null, .int 0, .int 0, .int 0, .int 0, .null])), (q_1, .inr (3, [.float 0, .float 0, .float 0]))] H := hP
  have hD : va_D A [(bb, .inr (1, [.int 0, .int 0, .float 0, .float 0, .float 0, .float 0, .float 0, .float 0, .float 0, .null, .null, .int 0, .int 0, .int 0, .int 0, .null])), (q_1, .inr (3, [.float 0, .float 0, .float 0]))] := hD
  refine W.widen (k := 1) (n := 3) (by omega) (by omega) ?_
  refine lv_dup hx hb dX0_init_8 rfl ?_
  refine kc_callv (wc := [(q_1, .inr (3, [.float 0, .float 0, .float 0]))]) (wr := [(bb, .inr (1, [.int 0, .int 0, .float 0, .float 0, .float 0, .float 0, .float 0, .float 0, .float 0, .null, .null, .int 0, .int 0, .int 0, .int 0, .null]))]) (tyr := []) (va_runIN (host := RX3) (As := []) (rest := [.ref q_1, .ref bb]) ⟨hx, hb, hml, hown, hts⟩ (c_Vec l dC dI ad _ q_1 0 0 0) ⟨va_cnB 0 hts gX0_init_X2_init_n11 rfl rfl rfl (hE.nest RX0 11 yX2_init (by decide +kernel)) (hts (.initialized RX2) (by decide +kernel)) (by decide +kernel) ⟨Nat.le_of_ble_eq_true rfl, Nat.le_of_ble_eq_true rfl⟩, rfl, (hts (.instanceMethod yX2_init) (by decide +kernel))⟩ (kc_preS hP hD hK hS hA hE [1] rfl (by decide) [] rfl) rfl rfl hl.1 rfl (lv_room (Nat.le_of_ble_eq_true rfl)) dX0_init_9 ⟨Nat.le_of_ble_eq_true rfl, Nat.le_of_ble_eq_true rfl⟩) hP hD hK hS hA [1] [0] rfl rfl (by decide) (by decide) [] rfl (fun u H locs hw hP hD hK hS => ?_)
  have hP : va_P (dC, dI) vwCl [(bb, .inr (1, [.int 0, .int 0, .float 0, .float 0, .float 0, .float 0, .float 0, .float 0, .float 0, .null, .null, .int 0, .int 0, .int 0, .int 0, .null])), (q_1, .inr (3, [.float 0, .float 0, .float 0]))] H := hP
  have hD : va_D A [(bb, .inr (1, [.int 0, .int 0, .float 0, .float 0, .float 0, .float 0, .float 0, .float 0, .float 0, .null, .null, .int 0, .int 0, .int 0, .int 0, .null])), (q_1, .inr (3, [.float 0, .float 0, .float 0]))] := hD
  have hK : va_K (dC, dI) vwCl [] s := hK.sub [] rfl
  refine va_putF (D := (dC, dI)) (ci := 1) (v := .ref q_1) (ty := .object "IslandSolver$Vec") (C := RX0) (T := TX0) (N := 16) hx hb hts i_X0 tyX0 tyX0_ok nmX0 hown hK hP hD hS 0 rfl rfl 9 (by decide) (hts (.fieldLink RX0 12 "IslandSolver$Body" "v" "LIslandSolver$Vec;") (by decide +kernel)) (fun _ h9 => h9) rfl hin rfl (by decide +kernel) rfl rfl (Nat.le_of_ble_eq_true rfl) dX0_init_12 (fun H locs hP hD hS => ?_)
  have hP : va_P (dC, dI) vwCl [(bb, .inr (1, [.int 0, .int 0, .float 0, .float 0, .float 0, .float 0, .float 0, .float 0, .float 0, .ref q_1, .null, .int 0, .int 0, .int 0, .int 0, .null])), (q_1, .inr (3, [.float 0, .float 0, .float 0]))] H := hP
  have hD : va_D A [(bb, .inr (1, [.int 0, .int 0, .float 0, .float 0, .float 0, .float 0, .float 0, .float 0, .float 0, .ref q_1, .null, .int 0, .int 0, .int 0, .int 0, .null])), (q_1, .inr (3, [.float 0, .float 0, .float 0]))] := hD
  refine lv_aload_n hx hb dX0_init_15 rfl (lv_at hl 0 rfl) ?_
  refine va_new (ci := 3) (fs := [.float 0, .float 0, .float 0]) (C := RX2) (T := TX2) (N := 3) hx hb hts i_X2 tyX2 tyX2_ok hown (hts (.classLink RX0 9 RX2) (by decide +kernel)) (hts (.instantiable RX2 3) (by decide +kernel)) (hts (.initialized RX2) (by decide +kernel)) hK hP hD hS hA rfl (fun j hj => by rcases (show j = 0 ∨ j = 1 ∨ j = 2 by omega) with rfl | rfl | rfl <;> rfl) (Nat.le_of_ble_eq_true rfl) (Nat.le_of_ble_eq_true rfl) dX0_init_16 (fun q_2 H hP hD hS => ?_)
  have hP : va_P (dC, dI) vwCl [(bb, .inr (1, [.int 0, .int 0, .float 0, .float 0, .float 0, .float 0, .float 0, .float 0, .float 0, .ref q_1, .null, .int 0, .int 0, .int 0, .int 0, .null])), (q_1, .inr (3, [.float 0, .float 0, .float 0])), (q_2, .inr (3, [.float 0, .float 0, .float 0]))] H := hP
  have hD : va_D A [(bb, .inr (1, [.int 0, .int 0, .float 0, .float 0, .float 0, .float 0, .float 0, .float 0, .float 0, .ref q_1, .null, .int 0, .int 0, .int 0, .int 0, .null])), (q_1, .inr (3, [.float 0, .float 0, .float 0])), (q_2, .inr (3, [.float 0, .float 0, .float 0]))] := hD
  refine W.widen (k := 2) (n := 6) (by omega) (by omega) ?_
  refine lv_dup hx hb dX0_init_19 rfl ?_
  refine kc_callv (wc := [(q_2, .inr (3, [.float 0, .float 0, .float 0]))]) (wr := [(bb, .inr (1, [.int 0, .int 0, .float 0, .float 0, .float 0, .float 0, .float 0, .float 0, .float 0, .ref q_1, .null, .int 0, .int 0, .int 0, .int 0, .null])), (q_1, .inr (3, [.float 0, .float 0, .float 0]))]) (tyr := []) (va_runIN (host := RX3) (As := []) (rest := [.ref q_2, .ref bb]) ⟨hx, hb, hml, hown, hts⟩ (c_Vec l dC dI ad _ q_2 0 0 0) ⟨va_cnB 0 hts gX0_init_X2_init_n11 rfl rfl rfl (hE.nest RX0 11 yX2_init (by decide +kernel)) (hts (.initialized RX2) (by decide +kernel)) (by decide +kernel) ⟨Nat.le_of_ble_eq_true rfl, Nat.le_of_ble_eq_true rfl⟩, rfl, (hts (.instanceMethod yX2_init) (by decide +kernel))⟩ (kc_preS hP hD hK hS hA hE [2] rfl (by decide) [] rfl) rfl rfl hl.1 rfl (lv_room (Nat.le_of_ble_eq_true rfl)) dX0_init_20 ⟨Nat.le_of_ble_eq_true rfl, Nat.le_of_ble_eq_true rfl⟩) hP hD hK hS hA [2] [0, 1] rfl rfl (by decide) (by decide) [] rfl (fun u H locs hw hP hD hK hS => ?_)
  have hP : va_P (dC, dI) vwCl [(bb, .inr (1, [.int 0, .int 0, .float 0, .float 0, .float 0, .float 0, .float 0, .float 0, .float 0, .ref q_1, .null, .int 0, .int 0, .int 0, .int 0, .null])), (q_1, .inr (3, [.float 0, .float 0, .float 0])), (q_2, .inr (3, [.float 0, .float 0, .float 0]))] H := hP
  have hD : va_D A [(bb, .inr (1, [.int 0, .int 0, .float 0, .float 0, .float 0, .float 0, .float 0, .float 0, .float 0, .ref q_1, .null, .int 0, .int 0, .int 0, .int 0, .null])), (q_1, .inr (3, [.float 0, .float 0, .float 0])), (q_2, .inr (3, [.float 0, .float 0, .float 0]))] := hD
  have hK : va_K (dC, dI) vwCl [] s := hK.sub [] rfl
  refine va_putF (D := (dC, dI)) (ci := 1) (v := .ref q_2) (ty := .object "IslandSolver$Vec") (C := RX0) (T := TX0) (N := 16) hx hb hts i_X0 tyX0 tyX0_ok nmX0 hown hK hP hD hS 0 rfl rfl 10 (by decide) (hts (.fieldLink RX0 18 "IslandSolver$Body" "s" "LIslandSolver$Vec;") (by decide +kernel)) (fun _ h9 => h9) rfl hin rfl (by decide +kernel) rfl rfl (Nat.le_of_ble_eq_true rfl) dX0_init_23 (fun H locs hP hD hS => ?_)
  have hP : va_P (dC, dI) vwCl [(bb, .inr (1, [.int 0, .int 0, .float 0, .float 0, .float 0, .float 0, .float 0, .float 0, .float 0, .ref q_1, .ref q_2, .int 0, .int 0, .int 0, .int 0, .null])), (q_1, .inr (3, [.float 0, .float 0, .float 0])), (q_2, .inr (3, [.float 0, .float 0, .float 0]))] H := hP
  have hD : va_D A [(bb, .inr (1, [.int 0, .int 0, .float 0, .float 0, .float 0, .float 0, .float 0, .float 0, .float 0, .ref q_1, .ref q_2, .int 0, .int 0, .int 0, .int 0, .null])), (q_1, .inr (3, [.float 0, .float 0, .float 0])), (q_2, .inr (3, [.float 0, .float 0, .float 0]))] := hD
  refine lv_aload_n hx hb dX0_init_26 rfl (lv_at hl 0 rfl) ?_
  refine lv_iconst (v := (-1)) hx hb dX0_init_27 (by decide) ?_
  refine va_put (D := (dC, dI)) (ci := 1) (v := .int (-1)) (ty := .int) (C := RX0) (T := TX0) (N := 16) hx hb hts i_X0 tyX0 tyX0_ok nmX0 hown hK hP hD hS 0 rfl rfl 14 (by decide) (hts (.fieldLink RX0 21 "IslandSolver$Body" "island" "I") (by decide +kernel)) (fun _ h9 => h9) rfl (by decide +kernel) rfl rfl (Nat.le_of_ble_eq_true rfl) dX0_init_28 (fun H locs hP hD hS => ?_)
  have hP : va_P (dC, dI) vwCl [(bb, .inr (1, [.int 0, .int 0, .float 0, .float 0, .float 0, .float 0, .float 0, .float 0, .float 0, .ref q_1, .ref q_2, .int 0, .int 0, .int 0, .int (-1), .null])), (q_1, .inr (3, [.float 0, .float 0, .float 0])), (q_2, .inr (3, [.float 0, .float 0, .float 0]))] H := hP
  have hD : va_D A [(bb, .inr (1, [.int 0, .int 0, .float 0, .float 0, .float 0, .float 0, .float 0, .float 0, .float 0, .ref q_1, .ref q_2, .int 0, .int 0, .int 0, .int (-1), .null])), (q_1, .inr (3, [.float 0, .float 0, .float 0])), (q_2, .inr (3, [.float 0, .float 0, .float 0]))] := hD
  refine lv_aload_n hx hb dX0_init_31 rfl (lv_at hl 0 rfl) ?_
  refine lv_iload_n hx hb dX0_init_32 rfl (lv_at hl 1 rfl) ?_
  refine va_putF (D := (dC, dI)) (ci := 1) (v := .int i) (ty := .int) (C := RX0) (T := TX0) (N := 16) hx hb hts i_X0 tyX0 tyX0_ok nmX0 hown hK hP hD hS 0 rfl rfl 0 (by decide) (hts (.fieldLink RX0 25 "IslandSolver$Body" "number" "I") (by decide +kernel)) (fun _ h9 => h9) rfl hin rfl (by decide +kernel) rfl rfl (Nat.le_of_ble_eq_true rfl) dX0_init_33 (fun H locs hP hD hS => ?_)
  have hP : va_P (dC, dI) vwCl [(bb, .inr (1, [.int i, .int 0, .float 0, .float 0, .float 0, .float 0, .float 0, .float 0, .float 0, .ref q_1, .ref q_2, .int 0, .int 0, .int 0, .int (-1), .null])), (q_1, .inr (3, [.float 0, .float 0, .float 0])), (q_2, .inr (3, [.float 0, .float 0, .float 0]))] H := hP
  have hD : va_D A [(bb, .inr (1, [.int i, .int 0, .float 0, .float 0, .float 0, .float 0, .float 0, .float 0, .float 0, .ref q_1, .ref q_2, .int 0, .int 0, .int 0, .int (-1), .null])), (q_1, .inr (3, [.float 0, .float 0, .float 0])), (q_2, .inr (3, [.float 0, .float 0, .float 0]))] := hD
  refine lv_aload_n hx hb dX0_init_36 rfl (lv_at hl 0 rfl) ?_
  refine lv_fload_n hx hb dX0_init_37 rfl (lv_at hl 2 rfl) ?_
  refine va_putF (D := (dC, dI)) (ci := 1) (v := .float a) (ty := .float) (C := RX0) (T := TX0) (N := 16) hx hb hts i_X0 tyX0 tyX0_ok nmX0 hown hK hP hD hS 0 rfl rfl 2 (by decide) (hts (.fieldLink RX0 28 "IslandSolver$Body" "w" "F") (by decide +kernel)) (fun _ h9 => h9) rfl hin rfl (by decide +kernel) rfl rfl (Nat.le_of_ble_eq_true rfl) dX0_init_38 (fun H locs hP hD hS => ?_)
  have hP : va_P (dC, dI) vwCl [(bb, .inr (1, [.int i, .int 0, .float a, .float 0, .float 0, .float 0, .float 0, .float 0, .float 0, .ref q_1, .ref q_2, .int 0, .int 0, .int 0, .int (-1), .null])), (q_1, .inr (3, [.float 0, .float 0, .float 0])), (q_2, .inr (3, [.float 0, .float 0, .float 0]))] H := hP
  have hD : va_D A [(bb, .inr (1, [.int i, .int 0, .float a, .float 0, .float 0, .float 0, .float 0, .float 0, .float 0, .ref q_1, .ref q_2, .int 0, .int 0, .int 0, .int (-1), .null])), (q_1, .inr (3, [.float 0, .float 0, .float 0])), (q_2, .inr (3, [.float 0, .float 0, .float 0]))] := hD
  refine lv_aload_n hx hb dX0_init_41 rfl (lv_at hl 0 rfl) ?_
  refine lv_fload_n hx hb dX0_init_42 rfl (lv_at hl 3 rfl) ?_
  refine va_putF (D := (dC, dI)) (ci := 1) (v := .float b) (ty := .float) (C := RX0) (T := TX0) (N := 16) hx hb hts i_X0 tyX0 tyX0_ok nmX0 hown hK hP hD hS 0 rfl rfl 3 (by decide) (hts (.fieldLink RX0 32 "IslandSolver$Body" "xx" "F") (by decide +kernel)) (fun _ h9 => h9) rfl hin rfl (by decide +kernel) rfl rfl (Nat.le_of_ble_eq_true rfl) dX0_init_43 (fun H locs hP hD hS => ?_)
  have hP : va_P (dC, dI) vwCl [(bb, .inr (1, [.int i, .int 0, .float a, .float b, .float 0, .float 0, .float 0, .float 0, .float 0, .ref q_1, .ref q_2, .int 0, .int 0, .int 0, .int (-1), .null])), (q_1, .inr (3, [.float 0, .float 0, .float 0])), (q_2, .inr (3, [.float 0, .float 0, .float 0]))] H := hP
  have hD : va_D A [(bb, .inr (1, [.int i, .int 0, .float a, .float b, .float 0, .float 0, .float 0, .float 0, .float 0, .ref q_1, .ref q_2, .int 0, .int 0, .int 0, .int (-1), .null])), (q_1, .inr (3, [.float 0, .float 0, .float 0])), (q_2, .inr (3, [.float 0, .float 0, .float 0]))] := hD
  refine lv_aload_n hx hb dX0_init_46 rfl (lv_at hl 0 rfl) ?_
  refine lv_fload hx hb dX0_init_47 (lv_at hl 4 rfl) ?_
  refine va_putF (D := (dC, dI)) (ci := 1) (v := .float c3) (ty := .float) (C := RX0) (T := TX0) (N := 16) hx hb hts i_X0 tyX0 tyX0_ok nmX0 hown hK hP hD hS 0 rfl rfl 4 (by decide) (hts (.fieldLink RX0 35 "IslandSolver$Body" "yy" "F") (by decide +kernel)) (fun _ h9 => h9) rfl hin rfl (by decide +kernel) rfl rfl (Nat.le_of_ble_eq_true rfl) dX0_init_49 (fun H locs hP hD hS => ?_)
  have hP : va_P (dC, dI) vwCl [(bb, .inr (1, [.int i, .int 0, .float a, .float b, .float c3, .float 0, .float 0, .float 0, .float 0, .ref q_1, .ref q_2, .int 0, .int 0, .int 0, .int (-1), .null])), (q_1, .inr (3, [.float 0, .float 0, .float 0])), (q_2, .inr (3, [.float 0, .float 0, .float 0]))] H := hP
  have hD : va_D A [(bb, .inr (1, [.int i, .int 0, .float a, .float b, .float c3, .float 0, .float 0, .float 0, .float 0, .ref q_1, .ref q_2, .int 0, .int 0, .int 0, .int (-1), .null])), (q_1, .inr (3, [.float 0, .float 0, .float 0])), (q_2, .inr (3, [.float 0, .float 0, .float 0]))] := hD
  refine lv_aload_n hx hb dX0_init_52 rfl (lv_at hl 0 rfl) ?_
  refine lv_fload hx hb dX0_init_53 (lv_at hl 5 rfl) ?_
  refine va_putF (D := (dC, dI)) (ci := 1) (v := .float g4) (ty := .float) (C := RX0) (T := TX0) (N := 16) hx hb hts i_X0 tyX0 tyX0_ok nmX0 hown hK hP hD hS 0 rfl rfl 5 (by decide) (hts (.fieldLink RX0 38 "IslandSolver$Body" "zz" "F") (by decide +kernel)) (fun _ h9 => h9) rfl hin rfl (by decide +kernel) rfl rfl (Nat.le_of_ble_eq_true rfl) dX0_init_55 (fun H locs hP hD hS => ?_)
  have hP : va_P (dC, dI) vwCl [(bb, .inr (1, [.int i, .int 0, .float a, .float b, .float c3, .float g4, .float 0, .float 0, .float 0, .ref q_1, .ref q_2, .int 0, .int 0, .int 0, .int (-1), .null])), (q_1, .inr (3, [.float 0, .float 0, .float 0])), (q_2, .inr (3, [.float 0, .float 0, .float 0]))] H := hP
  have hD : va_D A [(bb, .inr (1, [.int i, .int 0, .float a, .float b, .float c3, .float g4, .float 0, .float 0, .float 0, .ref q_1, .ref q_2, .int 0, .int 0, .int 0, .int (-1), .null])), (q_1, .inr (3, [.float 0, .float 0, .float 0])), (q_2, .inr (3, [.float 0, .float 0, .float 0]))] := hD
  refine lv_aload_n hx hb dX0_init_58 rfl (lv_at hl 0 rfl) ?_
  refine lv_fload_n hx hb dX0_init_59 rfl (lv_at hl 2 rfl) ?_
  refine lv_fconst0 hx hb dX0_init_60 ?_
  refine lv_fcmp hx hb dX0_init_61 ?_
  refine lv_if_gt (tgt := 77) hx hb dX0_init_62 (by decide) (fun c_3 => ?_) (fun c_3 => ?_)
  · refine lv_iconst (v := 1) hx hb dX0_init_77 (by decide) ?_
    refine lv_goto (tgt := 82) hx hb dX0_init_78 (by decide) ?_
    refine va_putF (D := (dC, dI)) (ci := 1) (v := .int 1) (ty := .boolean) (C := RX0) (T := TX0) (N := 16) hx hb hts i_X0 tyX0 tyX0_ok nmX0 hown hK hP hD hS 0 rfl rfl 1 (by decide) (hts (.fieldLink RX0 41 "IslandSolver$Body" "movable" "Z") (by decide +kernel)) (fun _ h9 => h9) rfl hin rfl (by decide +kernel) rfl rfl (Nat.le_of_ble_eq_true rfl) dX0_init_82 (fun H locs hP hD hS => ?_)
    have hP : va_P (dC, dI) vwCl [(bb, .inr (1, [.int i, .int 1, .float a, .float b, .float c3, .float g4, .float 0, .float 0, .float 0, .ref q_1, .ref q_2, .int 0, .int 0, .int 0, .int (-1), .null])), (q_1, .inr (3, [.float 0, .float 0, .float 0])), (q_2, .inr (3, [.float 0, .float 0, .float 0]))] H := hP
    have hD : va_D A [(bb, .inr (1, [.int i, .int 1, .float a, .float b, .float c3, .float g4, .float 0, .float 0, .float 0, .ref q_1, .ref q_2, .int 0, .int 0, .int 0, .int (-1), .null])), (q_1, .inr (3, [.float 0, .float 0, .float 0])), (q_2, .inr (3, [.float 0, .float 0, .float 0]))] := hD
    refine W.widen (k := 2) (n := 6) (Nat.le_of_ble_eq_true rfl) (Nat.le_of_ble_eq_true rfl) ?_
    have hP9 := hP.sub (ws' := [(bb, .inr (1, [.int i, .int 1, .float a, .float b, .float c3, .float g4, .float 0, .float 0, .float 0, .ref q_1, .ref q_2, .int 0, .int 0, .int 0, .int (-1), .null]))]) [0] rfl
    have hD9 := hD.sub (ws' := [(bb, .inr (1, [.int i, .int 1, .float a, .float b, .float c3, .float g4, .float 0, .float 0, .float 0, .ref q_1, .ref q_2, .int 0, .int 0, .int 0, .int (-1), .null]))]) [0] (by decide) rfl
    have hK9 := hK.sub (tys' := []) [] rfl
    exact W.vret hx hb hr (fun t ht hW => ⟨⟨[.int i, .int 1, .float a, .float b, .float c3, .float g4, .float 0, .float 0, .float 0, .ref q_1, .ref q_2, .int 0, .int 0, .int 0, .int (-1), .null], rfl, trivial, by rw [ht]; exact hP9, va_K.moved hW.alike hK9, hD9⟩, hS.F ht⟩) hS.2.2 dX0_init_85
  · refine lv_fload_n hx hb dX0_init_65 rfl (lv_at hl 3 rfl) ?_
    refine lv_fload hx hb dX0_init_66 (lv_at hl 4 rfl) ?_
    refine lv_fadd hx hb dX0_init_68 (kf_16 h2 h3) ?_
    refine lv_topf (fun x_4 ex_4 => ?_)
    refine lv_fload hx hb dX0_init_69 (lv_at hl 5 rfl) ?_
    refine lv_fadd hx hb dX0_init_71 (by rw [ex_4]; exact kf_16b h2 h3 h4) ?_
    refine lv_topf (fun x_5 ex_5 => ?_)
    refine lv_fconst0 hx hb dX0_init_72 ?_
    refine lv_fcmp hx hb dX0_init_73 ?_
    refine lv_if_le (tgt := 81) hx hb dX0_init_74 (by decide) (fun c_6 => ?_) (fun c_6 => ?_)
    · refine lv_iconst (v := 0) hx hb dX0_init_81 (by decide) ?_
      refine va_putF (D := (dC, dI)) (ci := 1) (v := .int 0) (ty := .boolean) (C := RX0) (T := TX0) (N := 16) hx hb hts i_X0 tyX0 tyX0_ok nmX0 hown hK hP hD hS 0 rfl rfl 1 (by decide) (hts (.fieldLink RX0 41 "IslandSolver$Body" "movable" "Z") (by decide +kernel)) (fun _ h9 => h9) rfl hin rfl (by decide +kernel) rfl rfl (Nat.le_of_ble_eq_true rfl) dX0_init_82 (fun H locs hP hD hS => ?_)
      have hP : va_P (dC, dI) vwCl [(bb, .inr (1, [.int i, .int 0, .float a, .float b, .float c3, .float g4, .float 0, .float 0, .float 0, .ref q_1, .ref q_2, .int 0, .int 0, .int 0, .int (-1), .null])), (q_1, .inr (3, [.float 0, .float 0, .float 0])), (q_2, .inr (3, [.float 0, .float 0, .float 0]))] H := hP
      have hD : va_D A [(bb, .inr (1, [.int i, .int 0, .float a, .float b, .float c3, .float g4, .float 0, .float 0, .float 0, .ref q_1, .ref q_2, .int 0, .int 0, .int 0, .int (-1), .null])), (q_1, .inr (3, [.float 0, .float 0, .float 0])), (q_2, .inr (3, [.float 0, .float 0, .float 0]))] := hD
      refine W.widen (k := 2) (n := 6) (Nat.le_of_ble_eq_true rfl) (Nat.le_of_ble_eq_true rfl) ?_
      have hP9 := hP.sub (ws' := [(bb, .inr (1, [.int i, .int 0, .float a, .float b, .float c3, .float g4, .float 0, .float 0, .float 0, .ref q_1, .ref q_2, .int 0, .int 0, .int 0, .int (-1), .null]))]) [0] rfl
      have hD9 := hD.sub (ws' := [(bb, .inr (1, [.int i, .int 0, .float a, .float b, .float c3, .float g4, .float 0, .float 0, .float 0, .ref q_1, .ref q_2, .int 0, .int 0, .int 0, .int (-1), .null]))]) [0] (by decide) rfl
      have hK9 := hK.sub (tys' := []) [] rfl
      exact W.vret hx hb hr (fun t ht hW => ⟨⟨[.int i, .int 0, .float a, .float b, .float c3, .float g4, .float 0, .float 0, .float 0, .ref q_1, .ref q_2, .int 0, .int 0, .int 0, .int (-1), .null], rfl, trivial, by rw [ht]; exact hP9, va_K.moved hW.alike hK9, hD9⟩, hS.F ht⟩) hS.2.2 dX0_init_85
    · refine lv_iconst (v := 1) hx hb dX0_init_77 (by decide) ?_
      refine lv_goto (tgt := 82) hx hb dX0_init_78 (by decide) ?_
      refine va_putF (D := (dC, dI)) (ci := 1) (v := .int 1) (ty := .boolean) (C := RX0) (T := TX0) (N := 16) hx hb hts i_X0 tyX0 tyX0_ok nmX0 hown hK hP hD hS 0 rfl rfl 1 (by decide) (hts (.fieldLink RX0 41 "IslandSolver$Body" "movable" "Z") (by decide +kernel)) (fun _ h9 => h9) rfl hin rfl (by decide +kernel) rfl rfl (Nat.le_of_ble_eq_true rfl) dX0_init_82 (fun H locs hP hD hS => ?_)
      have hP : va_P (dC, dI) vwCl [(bb, .inr (1, [.int i, .int 1, .float a, .float b, .float c3, .float g4, .float 0, .float 0, .float 0, .ref q_1, .ref q_2, .int 0, .int 0, .int 0, .int (-1), .null])), (q_1, .inr (3, [.float 0, .float 0, .float 0])), (q_2, .inr (3, [.float 0, .float 0, .float 0]))] H := hP
      have hD : va_D A [(bb, .inr (1, [.int i, .int 1, .float a, .float b, .float c3, .float g4, .float 0, .float 0, .float 0, .ref q_1, .ref q_2, .int 0, .int 0, .int 0, .int (-1), .null])), (q_1, .inr (3, [.float 0, .float 0, .float 0])), (q_2, .inr (3, [.float 0, .float 0, .float 0]))] := hD
      refine W.widen (k := 2) (n := 6) (Nat.le_of_ble_eq_true rfl) (Nat.le_of_ble_eq_true rfl) ?_
      have hP9 := hP.sub (ws' := [(bb, .inr (1, [.int i, .int 1, .float a, .float b, .float c3, .float g4, .float 0, .float 0, .float 0, .ref q_1, .ref q_2, .int 0, .int 0, .int 0, .int (-1), .null]))]) [0] rfl
      have hD9 := hD.sub (ws' := [(bb, .inr (1, [.int i, .int 1, .float a, .float b, .float c3, .float g4, .float 0, .float 0, .float 0, .ref q_1, .ref q_2, .int 0, .int 0, .int 0, .int (-1), .null]))]) [0] (by decide) rfl
      have hK9 := hK.sub (tys' := []) [] rfl
      exact W.vret hx hb hr (fun t ht hW => ⟨⟨[.int i, .int 1, .float a, .float b, .float c3, .float g4, .float 0, .float 0, .float 0, .ref q_1, .ref q_2, .int 0, .int 0, .int 0, .int (-1), .null], rfl, trivial, by rw [ht]; exact hP9, va_K.moved hW.alike hK9, hD9⟩, hS.F ht⟩) hS.2.2 dX0_init_85
set_option maxHeartbeats 4000000 in
set_option maxRecDepth 100000 in
theorem c_body (l : Launch) (dC : Nat → ClassId) (dI : Nat → Nat → Nat) (ad sz : Nat) (x : Nat) (lb : Nat) (lr : Nat) (lk : Nat) (pn : Nat) (pp : Nat) (pq : Nat) (stp : Int32) (wo : Nat) (re : Nat) (fr : Nat) (a : UInt32) (b : UInt32) (c3 : UInt32) (g4 : UInt32) (hlt : l.stackTraces = false) : vx_Met l yX3_body wsX3_body ({ frames := 6, cells := 4, slots := 32, locals := 101 } : Room) (va_Pc [.ref x, .float a, .float b, .float c3, .float g4] (kc_B (dC, dI) vwCl ad sz [(x, .inr (4, [.ref lb, .ref lr, .ref lk, .ref pn, .ref pp, .ref pq, .int 8, .float FP.fconst1, .float 1031798784, .int 0, .int 1, .int stp, .int 0, .ref wo, .ref re, .ref fr])), (lb, .inr (0, [.int 0, .ref ad, .int 0]))] [])) (va_Qi (fun r _ => kc_body a b c3 g4 = 0 ∧ r = 0) (kc_R (S := Unit) (dC, dI) vwCl (va_A [(x, .inr (4, [.ref lb, .ref lr, .ref lk, .ref pn, .ref pp, .ref pq, .int 8, .float FP.fconst1, .float 1031798784, .int 0, .int 1, .int stp, .int 0, .ref wo, .ref re, .ref fr])), (lb, .inr (0, [.int 0, .ref ad, .int 0]))] sz) (fun _ => []) (fun _ => [])) (va_A [(x, .inr (4, [.ref lb, .ref lr, .ref lk, .ref pn, .ref pp, .ref pq, .int 8, .float FP.fconst1, .float 1031798784, .int 0, .int 1, .int stp, .int 0, .ref wo, .ref re, .ref fr])), (lb, .inr (0, [.int 0, .ref ad, .int 0]))] sz)) (kc_X (fun E => (E = "java/lang/IllegalArgumentException" ∧ kc_body a b c3 g4 = 1)) (va_A [(x, .inr (4, [.ref lb, .ref lr, .ref lk, .ref pn, .ref pp, .ref pq, .int 8, .float FP.fconst1, .float 1031798784, .int 0, .int 1, .int stp, .int 0, .ref wo, .ref re, .ref fr])), (lb, .inr (0, [.int 0, .ref ad, .int 0]))] sz)) 4 32 (va_A [(x, .inr (4, [.ref lb, .ref lr, .ref lk, .ref pn, .ref pp, .ref pq, .int 8, .float FP.fconst1, .float 1031798784, .int 0, .int 1, .int stp, .int 0, .ref wo, .ref re, .ref fr])), (lb, .inr (0, [.int 0, .ref ad, .int 0]))] sz) := by
  refine vx_ofW (cc := cX3_body) (maxL := 6) (ret := (some .int)) (by decide) rfl ?_
  intro p e s m args below meth c s₁ B hml ht hv
  obtain ⟨rfl, hsz, hP, hK, hD0, hE⟩ := hv
  have hx := B.exec
  have hb := B.bytes
  have hr := B.returns
  have hts := atoms_spec (ws := wsX3_body) B.pre
  have hown : s.vm.findClass RX3 = some m.cls := findClass_of_methodNamed B.named
  have hlocks := B.notSynchronized
  have i_X3 : ∀ w ∈ u_ws RX3 TX3 16, w ∈ wsX3_body := (by decide +kernel)
  have i_X0 : ∀ w ∈ u_ws RX0 TX0 16, w ∈ wsX3_body := (by decide +kernel)
  have a_82 : ∀ w ∈ (vx_atS RX3 82 "java/lang/IllegalArgumentException" ["java/lang/RuntimeException", "java/lang/Exception"]).filter goodWord, w ∈ wsX3_body := fun _ h => List.mem_cons_of_mem _ (List.mem_append_left _ (List.mem_append_right _ h))
  subst hsz
  have hD := hD0.self (sz := s.heap.size)
  generalize hAe : va_A [(x, .inr (4, [.ref lb, .ref lr, .ref lk, .ref pn, .ref pp, .ref pq, .int 8, .float FP.fconst1, .float 1031798784, .int 0, .int 1, .int stp, .int 0, .ref wo, .ref re, .ref fr])), (lb, .inr (0, [.int 0, .ref ad, .int 0]))] s.heap.size = A at hD hE ⊢
  have hA : ∀ q : Nat, s.heap.size ≤ q → A q := fun q h => by rw [← hAe]; exact Or.inr h
  have hS : va_S A s.heap s.heap [] := va_S.rf
  have hP : va_P (dC, dI) vwCl [(x, .inr (4, [.ref lb, .ref lr, .ref lk, .ref pn, .ref pp, .ref pq, .int 8, .float FP.fconst1, .float 1031798784, .int 0, .int 1, .int stp, .int 0, .ref wo, .ref re, .ref fr])), (lb, .inr (0, [.int 0, .ref ad, .int 0]))] s.heap := hP
  have hl := lv_entry ([.ref x, .float a, .float b, .float c3, .float g4]) (n := 6) (Nat.le_of_ble_eq_true rfl)
  rw [lg_entry_eq]
  generalize (lg_sl ([.ref x, .float a, .float b, .float c3, .float g4]) ++ List.replicate (6 - (lg_sl ([.ref x, .float a, .float b, .float c3, .float g4])).length) Slot.unset).toArray = ls at hl ⊢
  have hl : lv_has ls 6 [(0, .ref x), (1, .float a), (2, .float b), (3, .float c3), (4, .float g4)] := hl
  refine lv_fload_n hx hb dX3_body_0 rfl (lv_at hl 1 rfl) ?_
  refine lv_fconst0 hx hb dX3_body_1 ?_
  refine lv_ldcf (v := 1098907648) hx hb hown (hts (.constantFloat RX3 73 (1098907648)) (by decide +kernel)) dX3_body_2 ?_
  refine kc_calli (wc := []) (wr := [(x, .inr (4, [.ref lb, .ref lr, .ref lk, .ref pn, .ref pp, .ref pq, .int 8, .float FP.fconst1, .float 1031798784, .int 0, .int 1, .int stp, .int 0, .ref wo, .ref re, .ref fr])), (lb, .inr (0, [.int 0, .ref ad, .int 0]))]) (tyr := []) (va_runS (As := [.float a, .float FP.fconst0, .float 1098907648]) (rest := []) ⟨hx, hb, hml, hown, hts⟩ (c_outside l dC dI ad _ a FP.fconst0 1098907648) (va_cwS 3 hts gX3_body_X3_outside rfl rfl rfl (by decide +kernel) ⟨Nat.le_of_ble_eq_true rfl, Nat.le_of_ble_eq_true rfl⟩) (kc_preS hP hD hK hS hA hE [] rfl (by decide) [] rfl) rfl rfl hl.1 rfl (lv_room (Nat.le_of_ble_eq_true rfl)) dX3_body_4 ⟨Nat.le_of_ble_eq_true rfl, Nat.le_of_ble_eq_true rfl⟩) hP hD hK hS hA [] [0, 1] rfl rfl (by decide) (by decide) [] rfl (fun r_1 u H locs hw hP hD hK hS => ?_)
  have hP : va_P (dC, dI) vwCl [(x, .inr (4, [.ref lb, .ref lr, .ref lk, .ref pn, .ref pp, .ref pq, .int 8, .float FP.fconst1, .float 1031798784, .int 0, .int 1, .int stp, .int 0, .ref wo, .ref re, .ref fr])), (lb, .inr (0, [.int 0, .ref ad, .int 0]))] H := hP
  have hD : va_D A [(x, .inr (4, [.ref lb, .ref lr, .ref lk, .ref pn, .ref pp, .ref pq, .int 8, .float FP.fconst1, .float 1031798784, .int 0, .int 1, .int stp, .int 0, .ref wo, .ref re, .ref fr])), (lb, .inr (0, [.int 0, .ref ad, .int 0]))] := hD
  have hK : va_K (dC, dI) vwCl [] s := hK.sub [] rfl
  rcases hw with ⟨k_2, rfl⟩ | ⟨k_3, rfl⟩
  · refine lv_if_ne (tgt := 41) hx hb dX3_body_7 (by decide) (fun h9 => absurd h9 (by decide)) (fun _ => ?_)
    refine lv_fload_n hx hb dX3_body_10 rfl (lv_at hl 2 rfl) ?_
    refine lv_fconst0 hx hb dX3_body_11 ?_
    refine lv_ldcf (v := 1098907648) hx hb hown (hts (.constantFloat RX3 73 (1098907648)) (by decide +kernel)) dX3_body_12 ?_
    refine kc_calli (wc := []) (wr := [(x, .inr (4, [.ref lb, .ref lr, .ref lk, .ref pn, .ref pp, .ref pq, .int 8, .float FP.fconst1, .float 1031798784, .int 0, .int 1, .int stp, .int 0, .ref wo, .ref re, .ref fr])), (lb, .inr (0, [.int 0, .ref ad, .int 0]))]) (tyr := []) (va_runS (As := [.float b, .float FP.fconst0, .float 1098907648]) (rest := []) ⟨hx, hb, hml, hown, hts⟩ (c_outside l dC dI ad _ b FP.fconst0 1098907648) (va_cwS 3 hts gX3_body_X3_outside rfl rfl rfl (by decide +kernel) ⟨Nat.le_of_ble_eq_true rfl, Nat.le_of_ble_eq_true rfl⟩) (kc_preS hP hD hK hS hA hE [] rfl (by decide) [] rfl) rfl rfl hl.1 rfl (lv_room (Nat.le_of_ble_eq_true rfl)) dX3_body_14 ⟨Nat.le_of_ble_eq_true rfl, Nat.le_of_ble_eq_true rfl⟩) hP hD hK hS hA [] [0, 1] rfl rfl (by decide) (by decide) [] rfl (fun r_4 u H locs hw hP hD hK hS => ?_)
    have hP : va_P (dC, dI) vwCl [(x, .inr (4, [.ref lb, .ref lr, .ref lk, .ref pn, .ref pp, .ref pq, .int 8, .float FP.fconst1, .float 1031798784, .int 0, .int 1, .int stp, .int 0, .ref wo, .ref re, .ref fr])), (lb, .inr (0, [.int 0, .ref ad, .int 0]))] H := hP
    have hD : va_D A [(x, .inr (4, [.ref lb, .ref lr, .ref lk, .ref pn, .ref pp, .ref pq, .int 8, .float FP.fconst1, .float 1031798784, .int 0, .int 1, .int stp, .int 0, .ref wo, .ref re, .ref fr])), (lb, .inr (0, [.int 0, .ref ad, .int 0]))] := hD
    have hK : va_K (dC, dI) vwCl [] s := hK.sub [] rfl
    rcases hw with ⟨k_5, rfl⟩ | ⟨k_6, rfl⟩
    · refine lv_if_ne (tgt := 41) hx hb dX3_body_17 (by decide) (fun h9 => absurd h9 (by decide)) (fun _ => ?_)
      refine lv_fload_n hx hb dX3_body_20 rfl (lv_at hl 3 rfl) ?_
      refine lv_fconst0 hx hb dX3_body_21 ?_
      refine lv_ldcf (v := 1098907648) hx hb hown (hts (.constantFloat RX3 73 (1098907648)) (by decide +kernel)) dX3_body_22 ?_
      refine kc_calli (wc := []) (wr := [(x, .inr (4, [.ref lb, .ref lr, .ref lk, .ref pn, .ref pp, .ref pq, .int 8, .float FP.fconst1, .float 1031798784, .int 0, .int 1, .int stp, .int 0, .ref wo, .ref re, .ref fr])), (lb, .inr (0, [.int 0, .ref ad, .int 0]))]) (tyr := []) (va_runS (As := [.float c3, .float FP.fconst0, .float 1098907648]) (rest := []) ⟨hx, hb, hml, hown, hts⟩ (c_outside l dC dI ad _ c3 FP.fconst0 1098907648) (va_cwS 3 hts gX3_body_X3_outside rfl rfl rfl (by decide +kernel) ⟨Nat.le_of_ble_eq_true rfl, Nat.le_of_ble_eq_true rfl⟩) (kc_preS hP hD hK hS hA hE [] rfl (by decide) [] rfl) rfl rfl hl.1 rfl (lv_room (Nat.le_of_ble_eq_true rfl)) dX3_body_24 ⟨Nat.le_of_ble_eq_true rfl, Nat.le_of_ble_eq_true rfl⟩) hP hD hK hS hA [] [0, 1] rfl rfl (by decide) (by decide) [] rfl (fun r_7 u H locs hw hP hD hK hS => ?_)
      have hP : va_P (dC, dI) vwCl [(x, .inr (4, [.ref lb, .ref lr, .ref lk, .ref pn, .ref pp, .ref pq, .int 8, .float FP.fconst1, .float 1031798784, .int 0, .int 1, .int stp, .int 0, .ref wo, .ref re, .ref fr])), (lb, .inr (0, [.int 0, .ref ad, .int 0]))] H := hP
      have hD : va_D A [(x, .inr (4, [.ref lb, .ref lr, .ref lk, .ref pn, .ref pp, .ref pq, .int 8, .float FP.fconst1, .float 1031798784, .int 0, .int 1, .int stp, .int 0, .ref wo, .ref re, .ref fr])), (lb, .inr (0, [.int 0, .ref ad, .int 0]))] := hD
      have hK : va_K (dC, dI) vwCl [] s := hK.sub [] rfl
      rcases hw with ⟨k_8, rfl⟩ | ⟨k_9, rfl⟩
      · refine lv_if_ne (tgt := 41) hx hb dX3_body_27 (by decide) (fun h9 => absurd h9 (by decide)) (fun _ => ?_)
        refine lv_fload hx hb dX3_body_30 (lv_at hl 4 rfl) ?_
        refine lv_fconst0 hx hb dX3_body_32 ?_
        refine lv_ldcf (v := 1098907648) hx hb hown (hts (.constantFloat RX3 73 (1098907648)) (by decide +kernel)) dX3_body_33 ?_
        refine kc_calli (wc := []) (wr := [(x, .inr (4, [.ref lb, .ref lr, .ref lk, .ref pn, .ref pp, .ref pq, .int 8, .float FP.fconst1, .float 1031798784, .int 0, .int 1, .int stp, .int 0, .ref wo, .ref re, .ref fr])), (lb, .inr (0, [.int 0, .ref ad, .int 0]))]) (tyr := []) (va_runS (As := [.float g4, .float FP.fconst0, .float 1098907648]) (rest := []) ⟨hx, hb, hml, hown, hts⟩ (c_outside l dC dI ad _ g4 FP.fconst0 1098907648) (va_cwS 3 hts gX3_body_X3_outside rfl rfl rfl (by decide +kernel) ⟨Nat.le_of_ble_eq_true rfl, Nat.le_of_ble_eq_true rfl⟩) (kc_preS hP hD hK hS hA hE [] rfl (by decide) [] rfl) rfl rfl hl.1 rfl (lv_room (Nat.le_of_ble_eq_true rfl)) dX3_body_35 ⟨Nat.le_of_ble_eq_true rfl, Nat.le_of_ble_eq_true rfl⟩) hP hD hK hS hA [] [0, 1] rfl rfl (by decide) (by decide) [] rfl (fun r_10 u H locs hw hP hD hK hS => ?_)
        have hP : va_P (dC, dI) vwCl [(x, .inr (4, [.ref lb, .ref lr, .ref lk, .ref pn, .ref pp, .ref pq, .int 8, .float FP.fconst1, .float 1031798784, .int 0, .int 1, .int stp, .int 0, .ref wo, .ref re, .ref fr])), (lb, .inr (0, [.int 0, .ref ad, .int 0]))] H := hP
        have hD : va_D A [(x, .inr (4, [.ref lb, .ref lr, .ref lk, .ref pn, .ref pp, .ref pq, .int 8, .float FP.fconst1, .float 1031798784, .int 0, .int 1, .int stp, .int 0, .ref wo, .ref re, .ref fr])), (lb, .inr (0, [.int 0, .ref ad, .int 0]))] := hD
        have hK : va_K (dC, dI) vwCl [] s := hK.sub [] rfl
        rcases hw with ⟨k_11, rfl⟩ | ⟨k_12, rfl⟩
        · refine lv_if_eq (tgt := 51) hx hb dX3_body_38 (by decide) (fun _ => ?_) (fun h9 => absurd h9 (by decide))
          refine lv_aload_n hx hb dX3_body_51 rfl (lv_at hl 0 rfl) ?_
          refine va_get (D := (dC, dI)) (ci := 4) (v := .ref lb) (C := RX3) (T := TX3) (N := 16) hx hb hts i_X3 hown hK hP 0 rfl rfl 0 (by decide) (hts (.fieldLink RX3 10 "IslandSolver" "bodies" "Ljava/util/ArrayList;") (by decide +kernel)) (fun _ h9 => h9) rfl dX3_body_52 ?_
          refine kc_calli (wc := [(lb, .inr (0, [.int 0, .ref ad, .int 0]))]) (wr := [(x, .inr (4, [.ref lb, .ref lr, .ref lk, .ref pn, .ref pp, .ref pq, .int 8, .float FP.fconst1, .float 1031798784, .int 0, .int 1, .int stp, .int 0, .ref wo, .ref re, .ref fr]))]) (tyr := []) (va_runV (As := []) (rest := []) ⟨hx, hb, hml, hown, hts⟩ (c_size l dC dI ad _ lb 0 ad 0) (cwV 0 hts gX3_body_Jx4a65c_size_8abf5 rfl rfl rfl (by decide +kernel) ⟨Nat.le_of_ble_eq_true rfl, Nat.le_of_ble_eq_true rfl⟩) (kc_preV hP hD hK hS hA hE [1] rfl (by decide) [] rfl 1 rfl rfl) rfl rfl hl.1 rfl (lv_room (Nat.le_of_ble_eq_true rfl)) dX3_body_55 ⟨Nat.le_of_ble_eq_true rfl, Nat.le_of_ble_eq_true rfl⟩) hP hD hK hS hA [1] [0] rfl rfl (by decide) (by decide) [] rfl (fun r_13 u H locs hw hP hD hK hS => ?_)
          subst hw
          have hP : va_P (dC, dI) vwCl [(x, .inr (4, [.ref lb, .ref lr, .ref lk, .ref pn, .ref pp, .ref pq, .int 8, .float FP.fconst1, .float 1031798784, .int 0, .int 1, .int stp, .int 0, .ref wo, .ref re, .ref fr])), (lb, .inr (0, [.int 0, .ref ad, .int 0]))] H := hP
          have hD : va_D A [(x, .inr (4, [.ref lb, .ref lr, .ref lk, .ref pn, .ref pp, .ref pq, .int 8, .float FP.fconst1, .float 1031798784, .int 0, .int 1, .int stp, .int 0, .ref wo, .ref re, .ref fr])), (lb, .inr (0, [.int 0, .ref ad, .int 0]))] := hD
          have hK : va_K (dC, dI) vwCl [] s := hK.sub [] rfl
          refine lv_sipush (v := 256) hx hb dX3_body_58 (by decide) ?_
          refine lv_icmp_lt (tgt := 74) hx hb dX3_body_61 (by decide) (fun _ => ?_) (fun h9 => absurd h9 (by decide))
          refine lv_aload_n hx hb dX3_body_74 rfl (lv_at hl 0 rfl) ?_
          refine va_get (D := (dC, dI)) (ci := 4) (v := .ref lb) (C := RX3) (T := TX3) (N := 16) hx hb hts i_X3 hown hK hP 0 rfl rfl 0 (by decide) (hts (.fieldLink RX3 10 "IslandSolver" "bodies" "Ljava/util/ArrayList;") (by decide +kernel)) (fun _ h9 => h9) rfl dX3_body_75 ?_
          refine kc_calli (wc := [(lb, .inr (0, [.int 0, .ref ad, .int 0]))]) (wr := [(x, .inr (4, [.ref lb, .ref lr, .ref lk, .ref pn, .ref pp, .ref pq, .int 8, .float FP.fconst1, .float 1031798784, .int 0, .int 1, .int stp, .int 0, .ref wo, .ref re, .ref fr]))]) (tyr := []) (va_runV (As := []) (rest := []) ⟨hx, hb, hml, hown, hts⟩ (c_size l dC dI ad _ lb 0 ad 0) (cwV 0 hts gX3_body_Jx4a65c_size_8abf5 rfl rfl rfl (by decide +kernel) ⟨Nat.le_of_ble_eq_true rfl, Nat.le_of_ble_eq_true rfl⟩) (kc_preV hP hD hK hS hA hE [1] rfl (by decide) [] rfl 1 rfl rfl) rfl rfl hl.1 rfl (lv_room (Nat.le_of_ble_eq_true rfl)) dX3_body_78 ⟨Nat.le_of_ble_eq_true rfl, Nat.le_of_ble_eq_true rfl⟩) hP hD hK hS hA [1] [0] rfl rfl (by decide) (by decide) [] rfl (fun r_14 u H locs hw hP hD hK hS => ?_)
          subst hw
          have hP : va_P (dC, dI) vwCl [(x, .inr (4, [.ref lb, .ref lr, .ref lk, .ref pn, .ref pp, .ref pq, .int 8, .float FP.fconst1, .float 1031798784, .int 0, .int 1, .int stp, .int 0, .ref wo, .ref re, .ref fr])), (lb, .inr (0, [.int 0, .ref ad, .int 0]))] H := hP
          have hD : va_D A [(x, .inr (4, [.ref lb, .ref lr, .ref lk, .ref pn, .ref pp, .ref pq, .int 8, .float FP.fconst1, .float 1031798784, .int 0, .int 1, .int stp, .int 0, .ref wo, .ref re, .ref fr])), (lb, .inr (0, [.int 0, .ref ad, .int 0]))] := hD
          have hK : va_K (dC, dI) vwCl [] s := hK.sub [] rfl
          refine lv_istore (lv' := [(5, .int 0), (0, .ref x), (1, .float a), (2, .float b), (3, .float c3), (4, .float g4)]) hx hb dX3_body_81 hl (by decide) rfl (fun ls hl => ?_)
          refine lv_aload_n hx hb dX3_body_83 rfl (lv_at hl 1 rfl) ?_
          refine va_get (D := (dC, dI)) (ci := 4) (v := .ref lb) (C := RX3) (T := TX3) (N := 16) hx hb hts i_X3 hown hK hP 0 rfl rfl 0 (by decide) (hts (.fieldLink RX3 10 "IslandSolver" "bodies" "Ljava/util/ArrayList;") (by decide +kernel)) (fun _ h9 => h9) rfl dX3_body_84 ?_
          refine va_new (ci := 1) (fs := [.int 0, .int 0, .float 0, .float 0, .float 0, .float 0, .float 0, .float 0, .float 0, .null, .null, .int 0, .int 0, .int 0, .int 0, .null]) (C := RX0) (T := TX0) (N := 16) hx hb hts i_X0 tyX0 tyX0_ok hown (hts (.classLink RX3 94 "IslandSolver$Body") (by decide +kernel)) (hts (.instantiable RX0 16) (by decide +kernel)) (hts (.initialized RX0) (by decide +kernel)) hK hP hD hS hA rfl (fun j hj => by rcases (show j = 0 ∨ j = 1 ∨ j = 2 ∨ j = 3 ∨ j = 4 ∨ j = 5 ∨ j = 6 ∨ j = 7 ∨ j = 8 ∨ j = 9 ∨ j = 10 ∨ j = 11 ∨ j = 12 ∨ j = 13 ∨ j = 14 ∨ j = 15 by omega) with rfl | rfl | rfl | rfl | rfl | rfl | rfl | rfl | rfl | rfl | rfl | rfl | rfl | rfl | rfl | rfl <;> rfl) (Nat.le_of_ble_eq_true rfl) (Nat.le_of_ble_eq_true rfl) dX3_body_87 (fun q_15 H hP hD hS => ?_)
          have hP : va_P (dC, dI) vwCl [(x, .inr (4, [.ref lb, .ref lr, .ref lk, .ref pn, .ref pp, .ref pq, .int 8, .float FP.fconst1, .float 1031798784, .int 0, .int 1, .int stp, .int 0, .ref wo, .ref re, .ref fr])), (lb, .inr (0, [.int 0, .ref ad, .int 0])), (q_15, .inr (1, [.int 0, .int 0, .float 0, .float 0, .float 0, .float 0, .float 0, .float 0, .float 0, .null, .null, .int 0, .int 0, .int 0, .int 0, .null]))] H := hP
          have hD : va_D A [(x, .inr (4, [.ref lb, .ref lr, .ref lk, .ref pn, .ref pp, .ref pq, .int 8, .float FP.fconst1, .float 1031798784, .int 0, .int 1, .int stp, .int 0, .ref wo, .ref re, .ref fr])), (lb, .inr (0, [.int 0, .ref ad, .int 0])), (q_15, .inr (1, [.int 0, .int 0, .float 0, .float 0, .float 0, .float 0, .float 0, .float 0, .float 0, .null, .null, .int 0, .int 0, .int 0, .int 0, .null]))] := hD
          refine W.widen (k := 1) (n := 16) (by omega) (by omega) ?_
          refine lv_dup hx hb dX3_body_90 rfl ?_
          refine lv_iload hx hb dX3_body_91 (lv_at hl 0 rfl) ?_
          refine lv_fload_n hx hb dX3_body_93 rfl (lv_at hl 2 rfl) ?_
          refine lv_fload_n hx hb dX3_body_94 rfl (lv_at hl 3 rfl) ?_
          refine lv_fload_n hx hb dX3_body_95 rfl (lv_at hl 4 rfl) ?_
          refine lv_fload hx hb dX3_body_96 (lv_at hl 5 rfl) ?_
          refine kc_callv (wc := [(q_15, .inr (1, [.int 0, .int 0, .float 0, .float 0, .float 0, .float 0, .float 0, .float 0, .float 0, .null, .null, .int 0, .int 0, .int 0, .int 0, .null]))]) (wr := [(x, .inr (4, [.ref lb, .ref lr, .ref lk, .ref pn, .ref pp, .ref pq, .int 8, .float FP.fconst1, .float 1031798784, .int 0, .int 1, .int stp, .int 0, .ref wo, .ref re, .ref fr])), (lb, .inr (0, [.int 0, .ref ad, .int 0]))]) (tyr := []) (va_runI (As := [.int 0, .float a, .float b, .float c3, .float g4]) (rest := [.ref q_15, .ref lb]) ⟨hx, hb, hml, hown, hts⟩ (c_Body l dC dI ad _ q_15 0 a b c3 g4 k_2 k_5 k_8 k_11) (cwI 5 hts gX3_body_X0_init rfl rfl rfl (hts (.initialized RX0) (by decide +kernel)) (hts (.methodLink RX3 96 yX0_init) (by decide +kernel)) (hts (.instanceMethod yX0_init) (by decide +kernel)) rfl (by decide +kernel) ⟨Nat.le_of_ble_eq_true rfl, Nat.le_of_ble_eq_true rfl⟩) (kc_preS hP hD hK hS hA hE [2] rfl (by decide) [] rfl) rfl rfl hl.1 rfl (lv_room (Nat.le_of_ble_eq_true rfl)) dX3_body_98 ⟨Nat.le_of_ble_eq_true rfl, Nat.le_of_ble_eq_true rfl⟩) hP hD hK hS hA [2] [0, 1] rfl rfl (by decide) (by decide) [] rfl (fun u H locs hw hP hD hK hS => ?_)
          obtain ⟨fs_16, rfl⟩ : ∃ z, z = u := ⟨_, rfl⟩
          have hP : va_P (dC, dI) vwCl [(x, .inr (4, [.ref lb, .ref lr, .ref lk, .ref pn, .ref pp, .ref pq, .int 8, .float FP.fconst1, .float 1031798784, .int 0, .int 1, .int stp, .int 0, .ref wo, .ref re, .ref fr])), (lb, .inr (0, [.int 0, .ref ad, .int 0])), (q_15, .inr (1, fs_16))] H := hP
          have hD : va_D A [(x, .inr (4, [.ref lb, .ref lr, .ref lk, .ref pn, .ref pp, .ref pq, .int 8, .float FP.fconst1, .float 1031798784, .int 0, .int 1, .int stp, .int 0, .ref wo, .ref re, .ref fr])), (lb, .inr (0, [.int 0, .ref ad, .int 0])), (q_15, .inr (1, fs_16))] := hD
          have hK : va_K (dC, dI) vwCl [] s := hK.sub [] rfl
          refine W.widen (k := 3) (n := 22) (Nat.le_of_ble_eq_true rfl) (Nat.le_of_ble_eq_true rfl) ?_
          refine kc_calli (wc := [(lb, .inr (0, [.int 0, .ref ad, .int 0])), (q_15, .inr (1, fs_16))]) (wr := [(x, .inr (4, [.ref lb, .ref lr, .ref lk, .ref pn, .ref pp, .ref pq, .int 8, .float FP.fconst1, .float 1031798784, .int 0, .int 1, .int stp, .int 0, .ref wo, .ref re, .ref fr]))]) (tyr := []) (va_runV (As := [.ref q_15]) (rest := []) ⟨hx, hb, hml, hown, hts⟩ (c_add1 l dC dI ad _ lb q_15 0 fs_16) (cwV 1 hts gX3_body_Jx4a65c_add_9ea2d rfl rfl rfl (by decide +kernel) ⟨Nat.le_of_ble_eq_true rfl, Nat.le_of_ble_eq_true rfl⟩) (kc_preV hP hD hK hS hA hE [1, 2] rfl (by decide) [] rfl 1 rfl rfl) rfl rfl hl.1 rfl (lv_room (Nat.le_of_ble_eq_true rfl)) dX3_body_101 ⟨Nat.le_of_ble_eq_true rfl, Nat.le_of_ble_eq_true rfl⟩) hP hD hK hS hA [1, 2] [0] rfl rfl (by decide) (by decide) [] rfl (fun r_17 u H locs hw hP hD hK hS => ?_)
          subst hw
          have hP : va_P (dC, dI) vwCl [(x, .inr (4, [.ref lb, .ref lr, .ref lk, .ref pn, .ref pp, .ref pq, .int 8, .float FP.fconst1, .float 1031798784, .int 0, .int 1, .int stp, .int 0, .ref wo, .ref re, .ref fr]))] H := hP
          have hD : va_D A [(x, .inr (4, [.ref lb, .ref lr, .ref lk, .ref pn, .ref pp, .ref pq, .int 8, .float FP.fconst1, .float 1031798784, .int 0, .int 1, .int stp, .int 0, .ref wo, .ref re, .ref fr]))] := hD
          have hK : va_K (dC, dI) vwCl [] s := hK.sub [] rfl
          refine W.widen (k := 4) (n := 32) (Nat.le_of_ble_eq_true rfl) (Nat.le_of_ble_eq_true rfl) ?_
          refine lv_pop hx hb dX3_body_104 rfl ?_
          refine lv_iload hx hb dX3_body_105 (lv_at hl 0 rfl) ?_
          refine vx_ret ?_
          refine W.widen (k := 4) (n := 32) (Nat.le_of_ble_eq_true rfl) (Nat.le_of_ble_eq_true rfl) ?_
          have hP9 := hP.sub (ws' := []) [] rfl
          have hD9 := hD.sub (ws' := []) [] (by decide) rfl
          have hK9 := hK.sub (tys' := []) [] rfl
          exact W.iret (v := 0) hx hb hr (fun t ht hW => ⟨⟨0, (), rfl, ⟨by simp only [kc_body, k_2, k_5, k_8, k_11, decide_true, decide_false, Bool.not_true, Bool.not_false, Bool.and_true, Bool.true_and, Bool.and_false, Bool.false_and, Bool.and_self, Bool.false_eq_true, if_true, if_false, ite_true, ite_false, reduceIte] <;> decide, rfl⟩, by rw [ht]; exact hP9, va_K.moved hW.alike hK9, hD9⟩, hS.F ht⟩) hS.2.2 dX3_body_107
        · refine lv_if_eq (tgt := 51) hx hb dX3_body_38 (by decide) (fun h9 => absurd h9 (by decide)) (fun _ => ?_)
          obtain ⟨sa_18, hsa_18⟩ := hE.str 80 "inverse mass or inertia is not 0 .. 16" (by decide +kernel)
          have hat : ∀ w ∈ (vx_atS RX3 82 "java/lang/IllegalArgumentException" ["java/lang/RuntimeException", "java/lang/Exception"]), w.before _ s = true := vx_hat (B := kx_non "java/lang/IllegalArgumentException") (fun w h => hts w (a_82 w h)) (by decide +kernel) (hE.non "java/lang/IllegalArgumentException" (by decide +kernel))
          refine W.widen (k := 3) (n := 26) (Nat.le_of_ble_eq_true rfl) (Nat.le_of_ble_eq_true rfl) ?_
          exact vx_throwS (A := A) (rest := []) hx hb hlt hown (by decide +kernel) (by decide +kernel) (hts (.classLink RX3 78 "java/lang/IllegalArgumentException") (by decide +kernel)) (hts (.initialized "java/lang/IllegalArgumentException") (by decide +kernel)) hsa_18 hat (by decide +kernel) hE.2.2.2.2.2.2.1 hE.2.2.2.2.2.2.2.1 hS (hl.1.trans hml.symm) dX3_body_41 dX3_body_44 dX3_body_45 dX3_body_47 dX3_body_50 (fun x h => (ht x h).elim) (Nat.le_of_ble_eq_true rfl) (Nat.le_of_ble_eq_true rfl) (Nat.le_of_ble_eq_true rfl) (Nat.le_of_ble_eq_true rfl) hlocks (fun t hvm hz hk => ⟨(), trivial, ⟨rfl, by simp only [kc_body, k_2, k_5, k_8, k_12, decide_true, decide_false, Bool.not_true, Bool.not_false, Bool.and_true, Bool.true_and, Bool.and_false, Bool.false_and, Bool.and_self, Bool.false_eq_true, if_true, if_false, ite_true, ite_false, reduceIte] <;> decide⟩, Nat.le_trans hS.1 hz, fun q h1 h2 => (hk q (Nat.lt_of_lt_of_le h1 hS.1)).trans (hS.2.1 q h1 h2)⟩) hS.2.2 (Nat.le_of_ble_eq_true rfl) (Nat.le_of_ble_eq_true rfl)
      · refine lv_if_ne (tgt := 41) hx hb dX3_body_27 (by decide) (fun _ => ?_) (fun h9 => absurd h9 (by decide))
        obtain ⟨sa_19, hsa_19⟩ := hE.str 80 "inverse mass or inertia is not 0 .. 16" (by decide +kernel)
        have hat : ∀ w ∈ (vx_atS RX3 82 "java/lang/IllegalArgumentException" ["java/lang/RuntimeException", "java/lang/Exception"]), w.before _ s = true := vx_hat (B := kx_non "java/lang/IllegalArgumentException") (fun w h => hts w (a_82 w h)) (by decide +kernel) (hE.non "java/lang/IllegalArgumentException" (by decide +kernel))
        refine W.widen (k := 3) (n := 26) (Nat.le_of_ble_eq_true rfl) (Nat.le_of_ble_eq_true rfl) ?_
        exact vx_throwS (A := A) (rest := []) hx hb hlt hown (by decide +kernel) (by decide +kernel) (hts (.classLink RX3 78 "java/lang/IllegalArgumentException") (by decide +kernel)) (hts (.initialized "java/lang/IllegalArgumentException") (by decide +kernel)) hsa_19 hat (by decide +kernel) hE.2.2.2.2.2.2.1 hE.2.2.2.2.2.2.2.1 hS (hl.1.trans hml.symm) dX3_body_41 dX3_body_44 dX3_body_45 dX3_body_47 dX3_body_50 (fun x h => (ht x h).elim) (Nat.le_of_ble_eq_true rfl) (Nat.le_of_ble_eq_true rfl) (Nat.le_of_ble_eq_true rfl) (Nat.le_of_ble_eq_true rfl) hlocks (fun t hvm hz hk => ⟨(), trivial, ⟨rfl, by simp only [kc_body, k_2, k_5, k_9, decide_true, decide_false, Bool.not_true, Bool.not_false, Bool.and_true, Bool.true_and, Bool.and_false, Bool.false_and, Bool.and_self, Bool.false_eq_true, if_true, if_false, ite_true, ite_false, reduceIte] <;> decide⟩, Nat.le_trans hS.1 hz, fun q h1 h2 => (hk q (Nat.lt_of_lt_of_le h1 hS.1)).trans (hS.2.1 q h1 h2)⟩) hS.2.2 (Nat.le_of_ble_eq_true rfl) (Nat.le_of_ble_eq_true rfl)
    · refine lv_if_ne (tgt := 41) hx hb dX3_body_17 (by decide) (fun _ => ?_) (fun h9 => absurd h9 (by decide))
      obtain ⟨sa_20, hsa_20⟩ := hE.str 80 "inverse mass or inertia is not 0 .. 16" (by decide +kernel)
      have hat : ∀ w ∈ (vx_atS RX3 82 "java/lang/IllegalArgumentException" ["java/lang/RuntimeException", "java/lang/Exception"]), w.before _ s = true := vx_hat (B := kx_non "java/lang/IllegalArgumentException") (fun w h => hts w (a_82 w h)) (by decide +kernel) (hE.non "java/lang/IllegalArgumentException" (by decide +kernel))
      refine W.widen (k := 3) (n := 26) (Nat.le_of_ble_eq_true rfl) (Nat.le_of_ble_eq_true rfl) ?_
      exact vx_throwS (A := A) (rest := []) hx hb hlt hown (by decide +kernel) (by decide +kernel) (hts (.classLink RX3 78 "java/lang/IllegalArgumentException") (by decide +kernel)) (hts (.initialized "java/lang/IllegalArgumentException") (by decide +kernel)) hsa_20 hat (by decide +kernel) hE.2.2.2.2.2.2.1 hE.2.2.2.2.2.2.2.1 hS (hl.1.trans hml.symm) dX3_body_41 dX3_body_44 dX3_body_45 dX3_body_47 dX3_body_50 (fun x h => (ht x h).elim) (Nat.le_of_ble_eq_true rfl) (Nat.le_of_ble_eq_true rfl) (Nat.le_of_ble_eq_true rfl) (Nat.le_of_ble_eq_true rfl) hlocks (fun t hvm hz hk => ⟨(), trivial, ⟨rfl, by simp only [kc_body, k_2, k_6, decide_true, decide_false, Bool.not_true, Bool.not_false, Bool.and_true, Bool.true_and, Bool.and_false, Bool.false_and, Bool.and_self, Bool.false_eq_true, if_true, if_false, ite_true, ite_false, reduceIte] <;> decide⟩, Nat.le_trans hS.1 hz, fun q h1 h2 => (hk q (Nat.lt_of_lt_of_le h1 hS.1)).trans (hS.2.1 q h1 h2)⟩) hS.2.2 (Nat.le_of_ble_eq_true rfl) (Nat.le_of_ble_eq_true rfl)
  · refine lv_if_ne (tgt := 41) hx hb dX3_body_7 (by decide) (fun _ => ?_) (fun h9 => absurd h9 (by decide))
    obtain ⟨sa_21, hsa_21⟩ := hE.str 80 "inverse mass or inertia is not 0 .. 16" (by decide +kernel)
    have hat : ∀ w ∈ (vx_atS RX3 82 "java/lang/IllegalArgumentException" ["java/lang/RuntimeException", "java/lang/Exception"]), w.before _ s = true := vx_hat (B := kx_non "java/lang/IllegalArgumentException") (fun w h => hts w (a_82 w h)) (by decide +kernel) (hE.non "java/lang/IllegalArgumentException" (by decide +kernel))
    refine W.widen (k := 3) (n := 26) (Nat.le_of_ble_eq_true rfl) (Nat.le_of_ble_eq_true rfl) ?_
    exact vx_throwS (A := A) (rest := []) hx hb hlt hown (by decide +kernel) (by decide +kernel) (hts (.classLink RX3 78 "java/lang/IllegalArgumentException") (by decide +kernel)) (hts (.initialized "java/lang/IllegalArgumentException") (by decide +kernel)) hsa_21 hat (by decide +kernel) hE.2.2.2.2.2.2.1 hE.2.2.2.2.2.2.2.1 hS (hl.1.trans hml.symm) dX3_body_41 dX3_body_44 dX3_body_45 dX3_body_47 dX3_body_50 (fun x h => (ht x h).elim) (Nat.le_of_ble_eq_true rfl) (Nat.le_of_ble_eq_true rfl) (Nat.le_of_ble_eq_true rfl) (Nat.le_of_ble_eq_true rfl) hlocks (fun t hvm hz hk => ⟨(), trivial, ⟨rfl, by simp only [kc_body, k_3, decide_true, decide_false, Bool.not_true, Bool.not_false, Bool.and_true, Bool.true_and, Bool.and_false, Bool.false_and, Bool.and_self, Bool.false_eq_true, if_true, if_false, ite_true, ite_false, reduceIte] <;> decide⟩, Nat.le_trans hS.1 hz, fun q h1 h2 => (hk q (Nat.lt_of_lt_of_le h1 hS.1)).trans (hS.2.1 q h1 h2)⟩) hS.2.2 (Nat.le_of_ble_eq_true rfl) (Nat.le_of_ble_eq_true rfl)
set_option maxHeartbeats 4000000 in
set_option maxRecDepth 100000 in
theorem w_body (l : Launch) (dC : Nat → ClassId) (dI : Nat → Nat → Nat) (ad sz : Nat) (x : Nat) (lb : Nat) (lr : Nat) (lk : Nat) (pn : Nat) (pp : Nat) (pq : Nat) (stp : Int32) (wo : Nat) (re : Nat) (fr : Nat) (a : UInt32) (b : UInt32) (c3 : UInt32) (g4 : UInt32) (o : Nat) (cJ : ClassId) (f : Nat → Int64) (hlt : l.stackTraces = false) : Met l yL_body wsL_body ({ frames := 7, cells := 4, slots := 32, locals := 126 } : Room) (va_Pc [.ref x, .float a, .float b, .float c3, .float g4, .ref o] (kc_B (dC, dI) vwCl ad sz [(x, .inr (4, [.ref lb, .ref lr, .ref lk, .ref pn, .ref pp, .ref pq, .int 8, .float FP.fconst1, .float 1031798784, .int 0, .int 1, .int stp, .int 0, .ref wo, .ref re, .ref fr])), (lb, .inr (0, [.int 0, .ref ad, .int 0])), (o, .inl (cJ, 1, .inr (.inl f)))] [(cJ, .long)])) (va_Qi (fun r u => (kc_body a b c3 g4 = 0 ∧ r = 0 ∧ u 0 = 0) ∨ (kc_body a b c3 g4 = 1 ∧ r = 1)) (kc_R (S := Nat → Int64) (dC, dI) vwCl (va_A [(x, .inr (4, [.ref lb, .ref lr, .ref lk, .ref pn, .ref pp, .ref pq, .int 8, .float FP.fconst1, .float 1031798784, .int 0, .int 1, .int stp, .int 0, .ref wo, .ref re, .ref fr])), (lb, .inr (0, [.int 0, .ref ad, .int 0])), (o, .inl (cJ, 1, .inr (.inl f)))] sz) (fun u => [(o, .inl (cJ, 1, .inr (.inl u)))]) (fun _ => [(cJ, .long)])) (va_A [(x, .inr (4, [.ref lb, .ref lr, .ref lk, .ref pn, .ref pp, .ref pq, .int 8, .float FP.fconst1, .float 1031798784, .int 0, .int 1, .int stp, .int 0, .ref wo, .ref re, .ref fr])), (lb, .inr (0, [.int 0, .ref ad, .int 0])), (o, .inl (cJ, 1, .inr (.inl f)))] sz)) 4 32 (va_A [(x, .inr (4, [.ref lb, .ref lr, .ref lk, .ref pn, .ref pp, .ref pq, .int 8, .float FP.fconst1, .float 1031798784, .int 0, .int 1, .int stp, .int 0, .ref wo, .ref re, .ref fr])), (lb, .inr (0, [.int 0, .ref ad, .int 0])), (o, .inl (cJ, 1, .inr (.inl f)))] sz) := by
  refine va_MetW (cc := cL_body) (maxL := 7) (ret := (some .int)) (by decide) rfl ?_
  intro p e s m args below meth c s₁ B hml hv
  obtain ⟨rfl, hsz, hP, hK, hD0, hE⟩ := hv
  have hx := B.exec
  have hb := B.bytes
  have hr := B.returns
  have hts := atoms_spec (ws := wsL_body) B.pre
  have hown : s.vm.findClass RL = some m.cls := findClass_of_methodNamed B.named
  have hlocks := B.notSynchronized
  have htab : c.exceptionTable.toList = tableOf [(0, 14, 17, 13), (0, 14, 21, 15)] := vx_table (x := yL_body) B (hts _ List.mem_cons_self)
  subst hsz
  have hD := hD0.self (sz := s.heap.size)
  generalize hAe : va_A [(x, .inr (4, [.ref lb, .ref lr, .ref lk, .ref pn, .ref pp, .ref pq, .int 8, .float FP.fconst1, .float 1031798784, .int 0, .int 1, .int stp, .int 0, .ref wo, .ref re, .ref fr])), (lb, .inr (0, [.int 0, .ref ad, .int 0])), (o, .inl (cJ, 1, .inr (.inl f)))] s.heap.size = A at hD hE ⊢
  have hA : ∀ q : Nat, s.heap.size ≤ q → A q := fun q h => by rw [← hAe]; exact Or.inr h
  have hS : va_S A s.heap s.heap [] := va_S.rf
  have hP : va_P (dC, dI) vwCl [(x, .inr (4, [.ref lb, .ref lr, .ref lk, .ref pn, .ref pp, .ref pq, .int 8, .float FP.fconst1, .float 1031798784, .int 0, .int 1, .int stp, .int 0, .ref wo, .ref re, .ref fr])), (lb, .inr (0, [.int 0, .ref ad, .int 0])), (o, .inl (cJ, 1, .inr (.inl f)))] s.heap := hP
  have hl := lv_entry ([.ref x, .float a, .float b, .float c3, .float g4, .ref o]) (n := 7) (Nat.le_of_ble_eq_true rfl)
  rw [lg_entry_eq]
  generalize (lg_sl ([.ref x, .float a, .float b, .float c3, .float g4, .ref o]) ++ List.replicate (7 - (lg_sl ([.ref x, .float a, .float b, .float c3, .float g4, .ref o])).length) Slot.unset).toArray = ls at hl ⊢
  have hl : lv_has ls 7 [(0, .ref x), (1, .float a), (2, .float b), (3, .float c3), (4, .float g4), (5, .ref o)] := hl
  refine lv_aload hx hb dL_body_0 (lv_at hl 5 rfl) ?_
  refine lv_iconst (v := 0) hx hb dL_body_2 (by decide) ?_
  refine lv_aload_n hx hb dL_body_3 rfl (lv_at hl 0 rfl) ?_
  refine lv_fload_n hx hb dL_body_4 rfl (lv_at hl 1 rfl) ?_
  refine lv_fload_n hx hb dL_body_5 rfl (lv_at hl 2 rfl) ?_
  refine lv_fload_n hx hb dL_body_6 rfl (lv_at hl 3 rfl) ?_
  refine lv_fload hx hb dL_body_7 (lv_at hl 4 rfl) ?_
  refine kc_xi (wc := [(x, .inr (4, [.ref lb, .ref lr, .ref lk, .ref pn, .ref pp, .ref pq, .int 8, .float FP.fconst1, .float 1031798784, .int 0, .int 1, .int stp, .int 0, .ref wo, .ref re, .ref fr])), (lb, .inr (0, [.int 0, .ref ad, .int 0]))]) (wr := [(o, .inl (cJ, 1, .inr (.inl f)))]) (tyr := [(cJ, .long)]) (vx_runV (As := [.float a, .float b, .float c3, .float g4]) (rest := [.int 0, .ref o]) ⟨hx, hb, hml, hown, hts⟩ (c_body l dC dI ad _ x lb lr lk pn pp pq stp wo re fr a b c3 g4 hlt) (cwV 4 hts gL_body_X3_body rfl rfl rfl (by decide +kernel) ⟨Nat.le_of_ble_eq_true rfl, Nat.le_of_ble_eq_true rfl⟩) (kc_preV hP hD hK hS hA hE [0, 1] rfl (by decide) [] rfl 0 rfl rfl) rfl rfl hl.1 rfl (lv_room (Nat.le_of_ble_eq_true rfl)) dL_body_9 ⟨Nat.le_of_ble_eq_true rfl, Nat.le_of_ble_eq_true rfl⟩) hP hD hK hS hA [0, 1] [2] rfl rfl (by decide) (by decide) [0] rfl (fun E ce q9 H locs hEX hP hD hS hce hcv hcl => ?_) (fun r_1 u H locs hw hP hD hK hS => ?_)
  · obtain ⟨rfl, k_3⟩ := hEX
    refine vx_catch (name := "java/lang/IllegalArgumentException") hown [] ⟨0, 14, 17, 13⟩ [⟨0, 14, 21, 15⟩] (by rw [htab]; rfl) (fun z hz => by cases hz) (by decide) (by decide) (hts (.classLink RL 13 "java/lang/IllegalArgumentException") (by decide +kernel)) (hE.cast "java/lang/IllegalArgumentException" (by decide +kernel)) hce hcv hcl ?_
    refine W.eq (g2 := F0 m 17 ls [.ref q9]) rfl ?_
    refine lv_astore (lv' := [(6, .ref q9), (0, .ref x), (1, .float a), (2, .float b), (3, .float c3), (4, .float g4), (5, .ref o)]) hx hb dL_body_17 hl (by decide) rfl (fun ls hl => ?_)
    refine lv_iconst (v := 1) hx hb dL_body_19 (by decide) ?_
    refine W.widen (k := 4) (n := 32) (Nat.le_of_ble_eq_true rfl) (Nat.le_of_ble_eq_true rfl) ?_
    have hP9 := hP.sub (ws' := [(o, .inl (cJ, 1, .inr (.inl f)))]) [0] rfl
    have hD9 := hD.sub (ws' := [(o, .inl (cJ, 1, .inr (.inl f)))]) [0] (by decide) rfl
    have hK9 := hK.sub (tys' := [(cJ, .long)]) [0] rfl
    exact W.iret (v := 1) hx hb hr (fun t ht hW => ⟨⟨1, f, rfl, Or.inr (⟨k_3, rfl⟩), by rw [ht]; exact hP9, va_K.moved hW.alike hK9, hD9⟩, hS.F ht⟩) hS.2.2 dL_body_20
  · have hP : va_P (dC, dI) vwCl [(o, .inl (cJ, 1, .inr (.inl f)))] H := hP
    have hD : va_D A [(o, .inl (cJ, 1, .inr (.inl f)))] := hD
    have hK : va_K (dC, dI) vwCl [(cJ, .long)] s := hK.sub [0] rfl
    obtain ⟨k_4, rfl⟩ := hw
    refine lv_i2l (v := 0) hx hb dL_body_12 (by decide) ?_
    refine va_last hx hb hK hP hD hS 0 0 rfl rfl (i := 0) (x := 0) (by unfold vp_in; decide) dL_body_13 (fun H locs hP hD hS => ?_)
    have hP : va_P (dC, dI) vwCl [(o, .inl (cJ, 1, .inr (.inl (vp_updL f (0 : Int32).toNatClampNeg 0))))] H := hP
    have hD : va_D A [(o, .inl (cJ, 1, .inr (.inl (vp_updL f (0 : Int32).toNatClampNeg 0))))] := hD
    generalize hff_6 : vp_updL f (0 : Int32).toNatClampNeg 0 = f_6 at hP hD
    refine lv_goto (tgt := 25) hx hb dL_body_14 (by decide) ?_
    refine lv_iconst (v := 0) hx hb dL_body_25 (by decide) ?_
    refine W.widen (k := 4) (n := 32) (Nat.le_of_ble_eq_true rfl) (Nat.le_of_ble_eq_true rfl) ?_
    have hP9 := hP.sub (ws' := [(o, .inl (cJ, 1, .inr (.inl f_6)))]) [0] rfl
    have hD9 := hD.sub (ws' := [(o, .inl (cJ, 1, .inr (.inl f_6)))]) [0] (by decide) rfl
    have hK9 := hK.sub (tys' := [(cJ, .long)]) [0] rfl
    exact W.iret (v := 0) hx hb hr (fun t ht hW => ⟨⟨0, f_6, rfl, Or.inl ⟨k_4, rfl, by first | rfl | (rw [← hff_6]; rfl)⟩, by rw [ht]; exact hP9, va_K.moved hW.alike hK9, hD9⟩, hS.F ht⟩) hS.2.2 dL_body_26
