set_option maxHeartbeats 4000000 in
set_option maxRecDepth 100000 in
theorem k_put3 (l : Launch) (dC : Nat → ClassId) (dI : Nat → Nat → Nat) (dA : Nat → ClassId) (ad sz : Nat) (τ : Nat → Nat → Nat) (pv : Nat → Nat → Value) (L : List Nat) (f : Nat → va_E) (hI : kI dA τ pv L f) (a : Nat) (hh_a : τ 0 a = 3) (x : UInt32) (hh_x : fb 1535115264 x) (y : UInt32) (hh_y : fb 1535115264 y) (z : UInt32) (hh_z : fb 1535115264 z) : Met l yX2_put wsX2_put ({ frames := 0, cells := 0, slots := 0, locals := 0 } : Room) (va_Pc [.ref a, .float x, .float y, .float z] (kB dC dI dA ad sz L f)) (va_Qv (fun u => kI dA τ pv u.1 u.2) (kR dC dI dA (va_A (va_pl L f) sz)) (va_A (va_pl L f) sz)) 0 0 (va_A (va_pl L f) sz) := by
  refine Met.ofW (cc := cX2_put) (maxL := 4) (ret := none) (by decide) rfl ?_
  intro p e s m args below meth c s₁ B hml hv
  obtain ⟨rfl, hsz, hP, hK, hD0, hE⟩ := hv
  have hx := B.exec
  have hb := B.bytes
  have hr := B.returns
  have hts := atoms_spec (ws := wsX2_put) B.pre
  have hown : s.vm.findClass RX2 = some m.cls := findClass_of_methodNamed B.named
  have hlocks := B.notSynchronized
  have i_X2 : ∀ w ∈ u_ws RX2 TX2 3, w ∈ wsX2_put := by decide +kernel
  subst hsz
  have hD := hD0.self (sz := s.heap.size)
  generalize hAe : va_A (va_pl L f) s.heap.size = A at hD hE ⊢
  have hA : ∀ q : Nat, s.heap.size ≤ q → A q := fun q h => by rw [← hAe]; exact Or.inr h
  have hS : va_S A s.heap s.heap [] := va_S.rf
  have hP : va_P (dC, dI) vwCl (va_pl L f) s.heap := hP
  have hK : va_K (dC, dI) vwCl (tyA dA) s := hK
  have hl := lv_entry ([.ref a, .float x, .float y, .float z]) (n := 4) (Nat.le_of_ble_eq_true rfl)
  rw [lg_entry_eq]
  generalize (lg_sl ([.ref a, .float x, .float y, .float z]) ++ List.replicate (4 - (lg_sl ([.ref a, .float x, .float y, .float z])).length) Slot.unset).toArray = ls at hl ⊢
  have hl : lv_has ls 4 [(0, .ref a), (1, .float x), (2, .float y), (3, .float z)] := hl
  refine lv_aload_n hx hb dX2_put_0 rfl (lv_at hl 0 rfl) ?_
  refine lv_fload_n hx hb dX2_put_1 rfl (lv_at hl 1 rfl) ?_
  refine kp_put (v := .float x) (ty := .float) hx hb hts i_X2 tyX2 tyX2_ok nmX2 hown hK hP hD hS hI hh_a rfl rfl 0 (by decide) (by decide) (hts (.fieldLink RX2 7 "IslandSolver$Vec" "x" "F") (by decide +kernel)) (fun _ h9 => h9) rfl (by decide +kernel) rfl rfl rfl (by decide) (kv_F (by decide) hh_x) dX2_put_2 (fun f H locs hI hP hD hS => ?_)
  refine lv_aload_n hx hb dX2_put_5 rfl (lv_at hl 0 rfl) ?_
  refine lv_fload_n hx hb dX2_put_6 rfl (lv_at hl 2 rfl) ?_
  refine kp_put (v := .float y) (ty := .float) hx hb hts i_X2 tyX2 tyX2_ok nmX2 hown hK hP hD hS hI hh_a rfl rfl 1 (by decide) (by decide) (hts (.fieldLink RX2 13 "IslandSolver$Vec" "y" "F") (by decide +kernel)) (fun _ h9 => h9) rfl (by decide +kernel) rfl rfl rfl (by decide) (kv_F (by decide) hh_y) dX2_put_7 (fun f H locs hI hP hD hS => ?_)
  refine lv_aload_n hx hb dX2_put_10 rfl (lv_at hl 0 rfl) ?_
  refine lv_fload_n hx hb dX2_put_11 rfl (lv_at hl 3 rfl) ?_
  refine kp_put (v := .float z) (ty := .float) hx hb hts i_X2 tyX2 tyX2_ok nmX2 hown hK hP hD hS hI hh_a rfl rfl 2 (by decide) (by decide) (hts (.fieldLink RX2 16 "IslandSolver$Vec" "z" "F") (by decide +kernel)) (fun _ h9 => h9) rfl (by decide +kernel) rfl rfl rfl (by decide) (kv_F (by decide) hh_z) dX2_put_12 (fun f H locs hI hP hD hS => ?_)
  refine W.widen (k := 0) (n := 0) (Nat.le_of_ble_eq_true rfl) (Nat.le_of_ble_eq_true rfl) ?_
  exact W.vret hx hb hr (fun t ht hW9 => ⟨⟨(L, f), rfl, hI, by rw [ht]; exact hP, va_K.moved hW9.alike hK, hD⟩, hS.F ht⟩) hS.2.2 dX2_put_15
set_option maxHeartbeats 4000000 in
set_option maxRecDepth 100000 in
theorem k_put4 (l : Launch) (dC : Nat → ClassId) (dI : Nat → Nat → Nat) (dA : Nat → ClassId) (ad sz : Nat) (τ : Nat → Nat → Nat) (pv : Nat → Nat → Value) (L : List Nat) (f : Nat → va_E) (hI : kI dA τ pv L f) (a : Nat) (hh_a : τ 0 a = 4) (x : UInt32) (hh_x : fb 1115684864 x) (y : UInt32) (hh_y : fb 1115684864 y) (z : UInt32) (hh_z : fb 1115684864 z) : Met l yX2_put wsX2_put ({ frames := 0, cells := 0, slots := 0, locals := 0 } : Room) (va_Pc [.ref a, .float x, .float y, .float z] (kB dC dI dA ad sz L f)) (va_Qv (fun u => kI dA τ pv u.1 u.2) (kR dC dI dA (va_A (va_pl L f) sz)) (va_A (va_pl L f) sz)) 0 0 (va_A (va_pl L f) sz) := by
  refine Met.ofW (cc := cX2_put) (maxL := 4) (ret := none) (by decide) rfl ?_
  intro p e s m args below meth c s₁ B hml hv
  obtain ⟨rfl, hsz, hP, hK, hD0, hE⟩ := hv
  have hx := B.exec
  have hb := B.bytes
  have hr := B.returns
  have hts := atoms_spec (ws := wsX2_put) B.pre
  have hown : s.vm.findClass RX2 = some m.cls := findClass_of_methodNamed B.named
  have hlocks := B.notSynchronized
  have i_X2 : ∀ w ∈ u_ws RX2 TX2 3, w ∈ wsX2_put := by decide +kernel
  subst hsz
  have hD := hD0.self (sz := s.heap.size)
  generalize hAe : va_A (va_pl L f) s.heap.size = A at hD hE ⊢
  have hA : ∀ q : Nat, s.heap.size ≤ q → A q := fun q h => by rw [← hAe]; exact Or.inr h
  have hS : va_S A s.heap s.heap [] := va_S.rf
  have hP : va_P (dC, dI) vwCl (va_pl L f) s.heap := hP
  have hK : va_K (dC, dI) vwCl (tyA dA) s := hK
  have hl := lv_entry ([.ref a, .float x, .float y, .float z]) (n := 4) (Nat.le_of_ble_eq_true rfl)
  rw [lg_entry_eq]
  generalize (lg_sl ([.ref a, .float x, .float y, .float z]) ++ List.replicate (4 - (lg_sl ([.ref a, .float x, .float y, .float z])).length) Slot.unset).toArray = ls at hl ⊢
  have hl : lv_has ls 4 [(0, .ref a), (1, .float x), (2, .float y), (3, .float z)] := hl
  refine lv_aload_n hx hb dX2_put_0 rfl (lv_at hl 0 rfl) ?_
  refine lv_fload_n hx hb dX2_put_1 rfl (lv_at hl 1 rfl) ?_
  refine kp_put (v := .float x) (ty := .float) hx hb hts i_X2 tyX2 tyX2_ok nmX2 hown hK hP hD hS hI hh_a rfl rfl 0 (by decide) (by decide) (hts (.fieldLink RX2 7 "IslandSolver$Vec" "x" "F") (by decide +kernel)) (fun _ h9 => h9) rfl (by decide +kernel) rfl rfl rfl (by decide) (kv_F (by decide) hh_x) dX2_put_2 (fun f H locs hI hP hD hS => ?_)
  refine lv_aload_n hx hb dX2_put_5 rfl (lv_at hl 0 rfl) ?_
  refine lv_fload_n hx hb dX2_put_6 rfl (lv_at hl 2 rfl) ?_
  refine kp_put (v := .float y) (ty := .float) hx hb hts i_X2 tyX2 tyX2_ok nmX2 hown hK hP hD hS hI hh_a rfl rfl 1 (by decide) (by decide) (hts (.fieldLink RX2 13 "IslandSolver$Vec" "y" "F") (by decide +kernel)) (fun _ h9 => h9) rfl (by decide +kernel) rfl rfl rfl (by decide) (kv_F (by decide) hh_y) dX2_put_7 (fun f H locs hI hP hD hS => ?_)
  refine lv_aload_n hx hb dX2_put_10 rfl (lv_at hl 0 rfl) ?_
  refine lv_fload_n hx hb dX2_put_11 rfl (lv_at hl 3 rfl) ?_
  refine kp_put (v := .float z) (ty := .float) hx hb hts i_X2 tyX2 tyX2_ok nmX2 hown hK hP hD hS hI hh_a rfl rfl 2 (by decide) (by decide) (hts (.fieldLink RX2 16 "IslandSolver$Vec" "z" "F") (by decide +kernel)) (fun _ h9 => h9) rfl (by decide +kernel) rfl rfl rfl (by decide) (kv_F (by decide) hh_z) dX2_put_12 (fun f H locs hI hP hD hS => ?_)
  refine W.widen (k := 0) (n := 0) (Nat.le_of_ble_eq_true rfl) (Nat.le_of_ble_eq_true rfl) ?_
  exact W.vret hx hb hr (fun t ht hW9 => ⟨⟨(L, f), rfl, hI, by rw [ht]; exact hP, va_K.moved hW9.alike hK, hD⟩, hS.F ht⟩) hS.2.2 dX2_put_15
set_option maxHeartbeats 4000000 in
set_option maxRecDepth 100000 in
theorem k_put5 (l : Launch) (dC : Nat → ClassId) (dI : Nat → Nat → Nat) (dA : Nat → ClassId) (ad sz : Nat) (τ : Nat → Nat → Nat) (pv : Nat → Nat → Value) (L : List Nat) (f : Nat → va_E) (hI : kI dA τ pv L f) (a : Nat) (hh_a : τ 0 a = 5) (x : UInt32) (hh_x : fb 1161822208 x) (y : UInt32) (hh_y : fb 1161822208 y) (z : UInt32) (hh_z : fb 1161822208 z) : Met l yX2_put wsX2_put ({ frames := 0, cells := 0, slots := 0, locals := 0 } : Room) (va_Pc [.ref a, .float x, .float y, .float z] (kB dC dI dA ad sz L f)) (va_Qv (fun u => kI dA τ pv u.1 u.2) (kR dC dI dA (va_A (va_pl L f) sz)) (va_A (va_pl L f) sz)) 0 0 (va_A (va_pl L f) sz) := by
  refine Met.ofW (cc := cX2_put) (maxL := 4) (ret := none) (by decide) rfl ?_
  intro p e s m args below meth c s₁ B hml hv
  obtain ⟨rfl, hsz, hP, hK, hD0, hE⟩ := hv
  have hx := B.exec
  have hb := B.bytes
  have hr := B.returns
  have hts := atoms_spec (ws := wsX2_put) B.pre
  have hown : s.vm.findClass RX2 = some m.cls := findClass_of_methodNamed B.named
  have hlocks := B.notSynchronized
  have i_X2 : ∀ w ∈ u_ws RX2 TX2 3, w ∈ wsX2_put := by decide +kernel
  subst hsz
  have hD := hD0.self (sz := s.heap.size)
  generalize hAe : va_A (va_pl L f) s.heap.size = A at hD hE ⊢
  have hA : ∀ q : Nat, s.heap.size ≤ q → A q := fun q h => by rw [← hAe]; exact Or.inr h
  have hS : va_S A s.heap s.heap [] := va_S.rf
  have hP : va_P (dC, dI) vwCl (va_pl L f) s.heap := hP
  have hK : va_K (dC, dI) vwCl (tyA dA) s := hK
  have hl := lv_entry ([.ref a, .float x, .float y, .float z]) (n := 4) (Nat.le_of_ble_eq_true rfl)
  rw [lg_entry_eq]
  generalize (lg_sl ([.ref a, .float x, .float y, .float z]) ++ List.replicate (4 - (lg_sl ([.ref a, .float x, .float y, .float z])).length) Slot.unset).toArray = ls at hl ⊢
  have hl : lv_has ls 4 [(0, .ref a), (1, .float x), (2, .float y), (3, .float z)] := hl
  refine lv_aload_n hx hb dX2_put_0 rfl (lv_at hl 0 rfl) ?_
  refine lv_fload_n hx hb dX2_put_1 rfl (lv_at hl 1 rfl) ?_
  refine kp_put (v := .float x) (ty := .float) hx hb hts i_X2 tyX2 tyX2_ok nmX2 hown hK hP hD hS hI hh_a rfl rfl 0 (by decide) (by decide) (hts (.fieldLink RX2 7 "IslandSolver$Vec" "x" "F") (by decide +kernel)) (fun _ h9 => h9) rfl (by decide +kernel) rfl rfl rfl (by decide) (kv_F (by decide) hh_x) dX2_put_2 (fun f H locs hI hP hD hS => ?_)
  refine lv_aload_n hx hb dX2_put_5 rfl (lv_at hl 0 rfl) ?_
  refine lv_fload_n hx hb dX2_put_6 rfl (lv_at hl 2 rfl) ?_
  refine kp_put (v := .float y) (ty := .float) hx hb hts i_X2 tyX2 tyX2_ok nmX2 hown hK hP hD hS hI hh_a rfl rfl 1 (by decide) (by decide) (hts (.fieldLink RX2 13 "IslandSolver$Vec" "y" "F") (by decide +kernel)) (fun _ h9 => h9) rfl (by decide +kernel) rfl rfl rfl (by decide) (kv_F (by decide) hh_y) dX2_put_7 (fun f H locs hI hP hD hS => ?_)
  refine lv_aload_n hx hb dX2_put_10 rfl (lv_at hl 0 rfl) ?_
  refine lv_fload_n hx hb dX2_put_11 rfl (lv_at hl 3 rfl) ?_
  refine kp_put (v := .float z) (ty := .float) hx hb hts i_X2 tyX2 tyX2_ok nmX2 hown hK hP hD hS hI hh_a rfl rfl 2 (by decide) (by decide) (hts (.fieldLink RX2 16 "IslandSolver$Vec" "z" "F") (by decide +kernel)) (fun _ h9 => h9) rfl (by decide +kernel) rfl rfl rfl (by decide) (kv_F (by decide) hh_z) dX2_put_12 (fun f H locs hI hP hD hS => ?_)
  refine W.widen (k := 0) (n := 0) (Nat.le_of_ble_eq_true rfl) (Nat.le_of_ble_eq_true rfl) ?_
  exact W.vret hx hb hr (fun t ht hW9 => ⟨⟨(L, f), rfl, hI, by rw [ht]; exact hP, va_K.moved hW9.alike hK, hD⟩, hS.F ht⟩) hS.2.2 dX2_put_15
set_option maxHeartbeats 4000000 in
set_option maxRecDepth 100000 in
theorem k_dotself (l : Launch) (dC : Nat → ClassId) (dI : Nat → Nat → Nat) (dA : Nat → ClassId) (ad sz : Nat) (τ : Nat → Nat → Nat) (pv : Nat → Nat → Value) (L : List Nat) (f : Nat → va_E) (hI : kI dA τ pv L f) (a : Nat) (hh_a : τ 0 a = 3) : Met l yX2_dot wsX2_dot ({ frames := 0, cells := 0, slots := 0, locals := 0 } : Room) (va_Pc [.ref a, .ref a] (kB dC dI dA ad sz L f)) (va_Qf (fun r u => fb 2017460224 r ∧ nn r ∧ kI dA τ pv u.1 u.2) (kR dC dI dA (va_A (va_pl L f) sz)) (va_A (va_pl L f) sz)) 0 0 (va_A (va_pl L f) sz) := by
  refine Met.ofW (cc := cX2_dot) (maxL := 2) (ret := (some .float)) (by decide) rfl ?_
  intro p e s m args below meth c s₁ B hml hv
  obtain ⟨rfl, hsz, hP, hK, hD0, hE⟩ := hv
  have hx := B.exec
  have hb := B.bytes
  have hr := B.returns
  have hts := atoms_spec (ws := wsX2_dot) B.pre
  have hown : s.vm.findClass RX2 = some m.cls := findClass_of_methodNamed B.named
  have hlocks := B.notSynchronized
  have i_X2 : ∀ w ∈ u_ws RX2 TX2 3, w ∈ wsX2_dot := by decide +kernel
  subst hsz
  have hD := hD0.self (sz := s.heap.size)
  generalize hAe : va_A (va_pl L f) s.heap.size = A at hD hE ⊢
  have hA : ∀ q : Nat, s.heap.size ≤ q → A q := fun q h => by rw [← hAe]; exact Or.inr h
  have hS : va_S A s.heap s.heap [] := va_S.rf
  have hP : va_P (dC, dI) vwCl (va_pl L f) s.heap := hP
  have hK : va_K (dC, dI) vwCl (tyA dA) s := hK
  have hl := lv_entry ([.ref a, .ref a]) (n := 2) (Nat.le_of_ble_eq_true rfl)
  rw [lg_entry_eq]
  generalize (lg_sl ([.ref a, .ref a]) ++ List.replicate (2 - (lg_sl ([.ref a, .ref a])).length) Slot.unset).toArray = ls at hl ⊢
  have hl : lv_has ls 2 [(0, .ref a), (1, .ref a)] := hl
  refine lv_aload_n hx hb dX2_dot_0 rfl (lv_at hl 0 rfl) ?_
  refine kp_get hx hb hts i_X2 hown hK hP hI hh_a rfl rfl 0 (by decide) (by decide) (hts (.fieldLink RX2 7 "IslandSolver$Vec" "x" "F") (by decide +kernel)) (fun _ h9 => h9) dX2_dot_1 (kq_FE (cd := 1535115264) (by decide) fun x_1 h_2_e h_2 => ?_)
  refine lv_aload_n hx hb dX2_dot_4 rfl (lv_at hl 1 rfl) ?_
  refine kp_get hx hb hts i_X2 hown hK hP hI hh_a rfl rfl 0 (by decide) (by decide) (hts (.fieldLink RX2 7 "IslandSolver$Vec" "x" "F") (by decide +kernel)) (fun _ h9 => h9) dX2_dot_5 (kq_E h_2_e ?_)
  refine kw_sq (M := 2004877312) hx hb dX2_dot_8 h_2 (by decide) (by decide +kernel) (by decide) (fun z_5 hz_6 hz_6_2 => ?_)
  refine lv_aload_n hx hb dX2_dot_9 rfl (lv_at hl 0 rfl) ?_
  refine kp_get hx hb hts i_X2 hown hK hP hI hh_a rfl rfl 1 (by decide) (by decide) (hts (.fieldLink RX2 13 "IslandSolver$Vec" "y" "F") (by decide +kernel)) (fun _ h9 => h9) dX2_dot_10 (kq_FE (cd := 1535115264) (by decide) fun x_7 h_8_e h_8 => ?_)
  refine lv_aload_n hx hb dX2_dot_13 rfl (lv_at hl 1 rfl) ?_
  refine kp_get hx hb hts i_X2 hown hK hP hI hh_a rfl rfl 1 (by decide) (by decide) (hts (.fieldLink RX2 13 "IslandSolver$Vec" "y" "F") (by decide +kernel)) (fun _ h9 => h9) dX2_dot_14 (kq_E h_8_e ?_)
  refine kw_sq (M := 2004877312) hx hb dX2_dot_17 h_8 (by decide) (by decide +kernel) (by decide) (fun z_11 hz_12 hz_12_2 => ?_)
  refine kw_nnB (M := 2013265920) hx hb dX2_dot_18 hz_6 hz_12 (by decide) (by decide) (by decide +kernel) (by decide) hz_6_2 hz_12_2 (fun z_13 hz_14 hz_14_2 => ?_)
  refine lv_aload_n hx hb dX2_dot_19 rfl (lv_at hl 0 rfl) ?_
  refine kp_get hx hb hts i_X2 hown hK hP hI hh_a rfl rfl 2 (by decide) (by decide) (hts (.fieldLink RX2 16 "IslandSolver$Vec" "z" "F") (by decide +kernel)) (fun _ h9 => h9) dX2_dot_20 (kq_FE (cd := 1535115264) (by decide) fun x_15 h_16_e h_16 => ?_)
  refine lv_aload_n hx hb dX2_dot_23 rfl (lv_at hl 1 rfl) ?_
  refine kp_get hx hb hts i_X2 hown hK hP hI hh_a rfl rfl 2 (by decide) (by decide) (hts (.fieldLink RX2 16 "IslandSolver$Vec" "z" "F") (by decide +kernel)) (fun _ h9 => h9) dX2_dot_24 (kq_E h_16_e ?_)
  refine kw_sq (M := 2004877312) hx hb dX2_dot_27 h_16 (by decide) (by decide +kernel) (by decide) (fun z_19 hz_20 hz_20_2 => ?_)
  refine kw_nnB (M := 2017460224) hx hb dX2_dot_28 hz_14 hz_20 (by decide) (by decide) (by decide +kernel) (by decide) hz_14_2 hz_20_2 (fun z_21 hz_22 hz_22_2 => ?_)
  refine W.widen (k := 0) (n := 0) (Nat.le_of_ble_eq_true rfl) (Nat.le_of_ble_eq_true rfl) ?_
  exact W.fret (v := z_21) hx hb hr (fun t ht hW9 => ⟨⟨z_21, (L, f), rfl, ⟨hz_22, hz_22_2, hI⟩, by rw [ht]; exact hP, va_K.moved hW9.alike hK, hD⟩, hS.F ht⟩) hS.2.2 dX2_dot_29
set_option maxHeartbeats 4000000 in
set_option maxRecDepth 100000 in
theorem k_dot44 (l : Launch) (dC : Nat → ClassId) (dI : Nat → Nat → Nat) (dA : Nat → ClassId) (ad sz : Nat) (τ : Nat → Nat → Nat) (pv : Nat → Nat → Value) (L : List Nat) (f : Nat → va_E) (hI : kI dA τ pv L f) (a : Nat) (hh_a : τ 0 a = 4) (b : Nat) (hh_b : τ 0 b = 4) : Met l yX2_dot wsX2_dot ({ frames := 0, cells := 0, slots := 0, locals := 0 } : Room) (va_Pc [.ref a, .ref b] (kB dC dI dA ad sz L f)) (va_Qf (fun r u => fb 1178599424 r ∧ kI dA τ pv u.1 u.2) (kR dC dI dA (va_A (va_pl L f) sz)) (va_A (va_pl L f) sz)) 0 0 (va_A (va_pl L f) sz) := by
  refine Met.ofW (cc := cX2_dot) (maxL := 2) (ret := (some .float)) (by decide) rfl ?_
  intro p e s m args below meth c s₁ B hml hv
  obtain ⟨rfl, hsz, hP, hK, hD0, hE⟩ := hv
  have hx := B.exec
  have hb := B.bytes
  have hr := B.returns
  have hts := atoms_spec (ws := wsX2_dot) B.pre
  have hown : s.vm.findClass RX2 = some m.cls := findClass_of_methodNamed B.named
  have hlocks := B.notSynchronized
  have i_X2 : ∀ w ∈ u_ws RX2 TX2 3, w ∈ wsX2_dot := by decide +kernel
  subst hsz
  have hD := hD0.self (sz := s.heap.size)
  generalize hAe : va_A (va_pl L f) s.heap.size = A at hD hE ⊢
  have hA : ∀ q : Nat, s.heap.size ≤ q → A q := fun q h => by rw [← hAe]; exact Or.inr h
  have hS : va_S A s.heap s.heap [] := va_S.rf
  have hP : va_P (dC, dI) vwCl (va_pl L f) s.heap := hP
  have hK : va_K (dC, dI) vwCl (tyA dA) s := hK
  have hl := lv_entry ([.ref a, .ref b]) (n := 2) (Nat.le_of_ble_eq_true rfl)
  rw [lg_entry_eq]
  generalize (lg_sl ([.ref a, .ref b]) ++ List.replicate (2 - (lg_sl ([.ref a, .ref b])).length) Slot.unset).toArray = ls at hl ⊢
  have hl : lv_has ls 2 [(0, .ref a), (1, .ref b)] := hl
  refine lv_aload_n hx hb dX2_dot_0 rfl (lv_at hl 0 rfl) ?_
  refine kp_get hx hb hts i_X2 hown hK hP hI hh_a rfl rfl 0 (by decide) (by decide) (hts (.fieldLink RX2 7 "IslandSolver$Vec" "x" "F") (by decide +kernel)) (fun _ h9 => h9) dX2_dot_1 (kq_F (cd := 1115684864) (by decide) fun x_1 h_2 => ?_)
  refine lv_aload_n hx hb dX2_dot_4 rfl (lv_at hl 1 rfl) ?_
  refine kp_get hx hb hts i_X2 hown hK hP hI hh_b rfl rfl 0 (by decide) (by decide) (hts (.fieldLink RX2 7 "IslandSolver$Vec" "x" "F") (by decide +kernel)) (fun _ h9 => h9) dX2_dot_5 (kq_F (cd := 1115684864) (by decide) fun x_3 h_4 => ?_)
  refine kw_fmul (M := 1166016512) hx hb dX2_dot_8 h_2 h_4 (by decide) (by decide) (by decide +kernel) (by decide) (fun z_5 hz_6 => ?_)
  refine lv_aload_n hx hb dX2_dot_9 rfl (lv_at hl 0 rfl) ?_
  refine kp_get hx hb hts i_X2 hown hK hP hI hh_a rfl rfl 1 (by decide) (by decide) (hts (.fieldLink RX2 13 "IslandSolver$Vec" "y" "F") (by decide +kernel)) (fun _ h9 => h9) dX2_dot_10 (kq_F (cd := 1115684864) (by decide) fun x_7 h_8 => ?_)
  refine lv_aload_n hx hb dX2_dot_13 rfl (lv_at hl 1 rfl) ?_
  refine kp_get hx hb hts i_X2 hown hK hP hI hh_b rfl rfl 1 (by decide) (by decide) (hts (.fieldLink RX2 13 "IslandSolver$Vec" "y" "F") (by decide +kernel)) (fun _ h9 => h9) dX2_dot_14 (kq_F (cd := 1115684864) (by decide) fun x_9 h_10 => ?_)
  refine kw_fmul (M := 1166016512) hx hb dX2_dot_17 h_8 h_10 (by decide) (by decide) (by decide +kernel) (by decide) (fun z_11 hz_12 => ?_)
  refine kw_fadd (M := 1174405120) hx hb dX2_dot_18 hz_6 hz_12 (by decide) (by decide) (by decide +kernel) (by decide) (fun z_13 hz_14 => ?_)
  refine lv_aload_n hx hb dX2_dot_19 rfl (lv_at hl 0 rfl) ?_
  refine kp_get hx hb hts i_X2 hown hK hP hI hh_a rfl rfl 2 (by decide) (by decide) (hts (.fieldLink RX2 16 "IslandSolver$Vec" "z" "F") (by decide +kernel)) (fun _ h9 => h9) dX2_dot_20 (kq_F (cd := 1115684864) (by decide) fun x_15 h_16 => ?_)
  refine lv_aload_n hx hb dX2_dot_23 rfl (lv_at hl 1 rfl) ?_
  refine kp_get hx hb hts i_X2 hown hK hP hI hh_b rfl rfl 2 (by decide) (by decide) (hts (.fieldLink RX2 16 "IslandSolver$Vec" "z" "F") (by decide +kernel)) (fun _ h9 => h9) dX2_dot_24 (kq_F (cd := 1115684864) (by decide) fun x_17 h_18 => ?_)
  refine kw_fmul (M := 1166016512) hx hb dX2_dot_27 h_16 h_18 (by decide) (by decide) (by decide +kernel) (by decide) (fun z_19 hz_20 => ?_)
  refine kw_fadd (M := 1178599424) hx hb dX2_dot_28 hz_14 hz_20 (by decide) (by decide) (by decide +kernel) (by decide) (fun z_21 hz_22 => ?_)
  refine W.widen (k := 0) (n := 0) (Nat.le_of_ble_eq_true rfl) (Nat.le_of_ble_eq_true rfl) ?_
  exact W.fret (v := z_21) hx hb hr (fun t ht hW9 => ⟨⟨z_21, (L, f), rfl, ⟨hz_22, hI⟩, by rw [ht]; exact hP, va_K.moved hW9.alike hK, hD⟩, hS.F ht⟩) hS.2.2 dX2_dot_29
set_option maxHeartbeats 4000000 in
set_option maxRecDepth 100000 in
theorem k_dot45 (l : Launch) (dC : Nat → ClassId) (dI : Nat → Nat → Nat) (dA : Nat → ClassId) (ad sz : Nat) (τ : Nat → Nat → Nat) (pv : Nat → Nat → Value) (L : List Nat) (f : Nat → va_E) (hI : kI dA τ pv L f) (a : Nat) (hh_a : τ 0 a = 4) (b : Nat) (hh_b : τ 0 b = 5) : Met l yX2_dot wsX2_dot ({ frames := 0, cells := 0, slots := 0, locals := 0 } : Room) (va_Pc [.ref a, .ref b] (kB dC dI dA ad sz L f)) (va_Qf (fun r u => fb 1225785344 r ∧ kI dA τ pv u.1 u.2) (kR dC dI dA (va_A (va_pl L f) sz)) (va_A (va_pl L f) sz)) 0 0 (va_A (va_pl L f) sz) := by
  refine Met.ofW (cc := cX2_dot) (maxL := 2) (ret := (some .float)) (by decide) rfl ?_
  intro p e s m args below meth c s₁ B hml hv
  obtain ⟨rfl, hsz, hP, hK, hD0, hE⟩ := hv
  have hx := B.exec
  have hb := B.bytes
  have hr := B.returns
  have hts := atoms_spec (ws := wsX2_dot) B.pre
  have hown : s.vm.findClass RX2 = some m.cls := findClass_of_methodNamed B.named
  have hlocks := B.notSynchronized
  have i_X2 : ∀ w ∈ u_ws RX2 TX2 3, w ∈ wsX2_dot := by decide +kernel
  subst hsz
  have hD := hD0.self (sz := s.heap.size)
  generalize hAe : va_A (va_pl L f) s.heap.size = A at hD hE ⊢
  have hA : ∀ q : Nat, s.heap.size ≤ q → A q := fun q h => by rw [← hAe]; exact Or.inr h
  have hS : va_S A s.heap s.heap [] := va_S.rf
  have hP : va_P (dC, dI) vwCl (va_pl L f) s.heap := hP
  have hK : va_K (dC, dI) vwCl (tyA dA) s := hK
  have hl := lv_entry ([.ref a, .ref b]) (n := 2) (Nat.le_of_ble_eq_true rfl)
  rw [lg_entry_eq]
  generalize (lg_sl ([.ref a, .ref b]) ++ List.replicate (2 - (lg_sl ([.ref a, .ref b])).length) Slot.unset).toArray = ls at hl ⊢
  have hl : lv_has ls 2 [(0, .ref a), (1, .ref b)] := hl
  refine lv_aload_n hx hb dX2_dot_0 rfl (lv_at hl 0 rfl) ?_
  refine kp_get hx hb hts i_X2 hown hK hP hI hh_a rfl rfl 0 (by decide) (by decide) (hts (.fieldLink RX2 7 "IslandSolver$Vec" "x" "F") (by decide +kernel)) (fun _ h9 => h9) dX2_dot_1 (kq_F (cd := 1115684864) (by decide) fun x_1 h_2 => ?_)
  refine lv_aload_n hx hb dX2_dot_4 rfl (lv_at hl 1 rfl) ?_
  refine kp_get hx hb hts i_X2 hown hK hP hI hh_b rfl rfl 0 (by decide) (by decide) (hts (.fieldLink RX2 7 "IslandSolver$Vec" "x" "F") (by decide +kernel)) (fun _ h9 => h9) dX2_dot_5 (kq_F (cd := 1161822208) (by decide) fun x_3 h_4 => ?_)
  refine kw_fmul (M := 1212153856) hx hb dX2_dot_8 h_2 h_4 (by decide) (by decide) (by decide +kernel) (by decide) (fun z_5 hz_6 => ?_)
  refine lv_aload_n hx hb dX2_dot_9 rfl (lv_at hl 0 rfl) ?_
  refine kp_get hx hb hts i_X2 hown hK hP hI hh_a rfl rfl 1 (by decide) (by decide) (hts (.fieldLink RX2 13 "IslandSolver$Vec" "y" "F") (by decide +kernel)) (fun _ h9 => h9) dX2_dot_10 (kq_F (cd := 1115684864) (by decide) fun x_7 h_8 => ?_)
  refine lv_aload_n hx hb dX2_dot_13 rfl (lv_at hl 1 rfl) ?_
  refine kp_get hx hb hts i_X2 hown hK hP hI hh_b rfl rfl 1 (by decide) (by decide) (hts (.fieldLink RX2 13 "IslandSolver$Vec" "y" "F") (by decide +kernel)) (fun _ h9 => h9) dX2_dot_14 (kq_F (cd := 1161822208) (by decide) fun x_9 h_10 => ?_)
  refine kw_fmul (M := 1212153856) hx hb dX2_dot_17 h_8 h_10 (by decide) (by decide) (by decide +kernel) (by decide) (fun z_11 hz_12 => ?_)
  refine kw_fadd (M := 1220542464) hx hb dX2_dot_18 hz_6 hz_12 (by decide) (by decide) (by decide +kernel) (by decide) (fun z_13 hz_14 => ?_)
  refine lv_aload_n hx hb dX2_dot_19 rfl (lv_at hl 0 rfl) ?_
  refine kp_get hx hb hts i_X2 hown hK hP hI hh_a rfl rfl 2 (by decide) (by decide) (hts (.fieldLink RX2 16 "IslandSolver$Vec" "z" "F") (by decide +kernel)) (fun _ h9 => h9) dX2_dot_20 (kq_F (cd := 1115684864) (by decide) fun x_15 h_16 => ?_)
  refine lv_aload_n hx hb dX2_dot_23 rfl (lv_at hl 1 rfl) ?_
  refine kp_get hx hb hts i_X2 hown hK hP hI hh_b rfl rfl 2 (by decide) (by decide) (hts (.fieldLink RX2 16 "IslandSolver$Vec" "z" "F") (by decide +kernel)) (fun _ h9 => h9) dX2_dot_24 (kq_F (cd := 1161822208) (by decide) fun x_17 h_18 => ?_)
  refine kw_fmul (M := 1212153856) hx hb dX2_dot_27 h_16 h_18 (by decide) (by decide) (by decide +kernel) (by decide) (fun z_19 hz_20 => ?_)
  refine kw_fadd (M := 1225785344) hx hb dX2_dot_28 hz_14 hz_20 (by decide) (by decide) (by decide +kernel) (by decide) (fun z_21 hz_22 => ?_)
  refine W.widen (k := 0) (n := 0) (Nat.le_of_ble_eq_true rfl) (Nat.le_of_ble_eq_true rfl) ?_
  exact W.fret (v := z_21) hx hb hr (fun t ht hW9 => ⟨⟨z_21, (L, f), rfl, ⟨hz_22, hI⟩, by rw [ht]; exact hP, va_K.moved hW9.alike hK, hD⟩, hS.F ht⟩) hS.2.2 dX2_dot_29
set_option maxHeartbeats 4000000 in
set_option maxRecDepth 100000 in
theorem k_dot43 (l : Launch) (dC : Nat → ClassId) (dI : Nat → Nat → Nat) (dA : Nat → ClassId) (ad sz : Nat) (τ : Nat → Nat → Nat) (pv : Nat → Nat → Value) (L : List Nat) (f : Nat → va_E) (hI : kI dA τ pv L f) (a : Nat) (hh_a : τ 0 a = 4) (b : Nat) (hh_b : τ 0 b = 3) : Met l yX2_dot wsX2_dot ({ frames := 0, cells := 0, slots := 0, locals := 0 } : Room) (va_Pc [.ref a, .ref b] (kB dC dI dA ad sz L f)) (va_Qf (fun r u => fb 1598029824 r ∧ kI dA τ pv u.1 u.2) (kR dC dI dA (va_A (va_pl L f) sz)) (va_A (va_pl L f) sz)) 0 0 (va_A (va_pl L f) sz) := by
  refine Met.ofW (cc := cX2_dot) (maxL := 2) (ret := (some .float)) (by decide) rfl ?_
  intro p e s m args below meth c s₁ B hml hv
  obtain ⟨rfl, hsz, hP, hK, hD0, hE⟩ := hv
  have hx := B.exec
  have hb := B.bytes
  have hr := B.returns
  have hts := atoms_spec (ws := wsX2_dot) B.pre
  have hown : s.vm.findClass RX2 = some m.cls := findClass_of_methodNamed B.named
  have hlocks := B.notSynchronized
  have i_X2 : ∀ w ∈ u_ws RX2 TX2 3, w ∈ wsX2_dot := by decide +kernel
  subst hsz
  have hD := hD0.self (sz := s.heap.size)
  generalize hAe : va_A (va_pl L f) s.heap.size = A at hD hE ⊢
  have hA : ∀ q : Nat, s.heap.size ≤ q → A q := fun q h => by rw [← hAe]; exact Or.inr h
  have hS : va_S A s.heap s.heap [] := va_S.rf
  have hP : va_P (dC, dI) vwCl (va_pl L f) s.heap := hP
  have hK : va_K (dC, dI) vwCl (tyA dA) s := hK
  have hl := lv_entry ([.ref a, .ref b]) (n := 2) (Nat.le_of_ble_eq_true rfl)
  rw [lg_entry_eq]
  generalize (lg_sl ([.ref a, .ref b]) ++ List.replicate (2 - (lg_sl ([.ref a, .ref b])).length) Slot.unset).toArray = ls at hl ⊢
  have hl : lv_has ls 2 [(0, .ref a), (1, .ref b)] := hl
  refine lv_aload_n hx hb dX2_dot_0 rfl (lv_at hl 0 rfl) ?_
  refine kp_get hx hb hts i_X2 hown hK hP hI hh_a rfl rfl 0 (by decide) (by decide) (hts (.fieldLink RX2 7 "IslandSolver$Vec" "x" "F") (by decide +kernel)) (fun _ h9 => h9) dX2_dot_1 (kq_F (cd := 1115684864) (by decide) fun x_1 h_2 => ?_)
  refine lv_aload_n hx hb dX2_dot_4 rfl (lv_at hl 1 rfl) ?_
  refine kp_get hx hb hts i_X2 hown hK hP hI hh_b rfl rfl 0 (by decide) (by decide) (hts (.fieldLink RX2 7 "IslandSolver$Vec" "x" "F") (by decide +kernel)) (fun _ h9 => h9) dX2_dot_5 (kq_F (cd := 1535115264) (by decide) fun x_3 h_4 => ?_)
  refine kw_fmul (M := 1585446912) hx hb dX2_dot_8 h_2 h_4 (by decide) (by decide) (by decide +kernel) (by decide) (fun z_5 hz_6 => ?_)
  refine lv_aload_n hx hb dX2_dot_9 rfl (lv_at hl 0 rfl) ?_
  refine kp_get hx hb hts i_X2 hown hK hP hI hh_a rfl rfl 1 (by decide) (by decide) (hts (.fieldLink RX2 13 "IslandSolver$Vec" "y" "F") (by decide +kernel)) (fun _ h9 => h9) dX2_dot_10 (kq_F (cd := 1115684864) (by decide) fun x_7 h_8 => ?_)
  refine lv_aload_n hx hb dX2_dot_13 rfl (lv_at hl 1 rfl) ?_
  refine kp_get hx hb hts i_X2 hown hK hP hI hh_b rfl rfl 1 (by decide) (by decide) (hts (.fieldLink RX2 13 "IslandSolver$Vec" "y" "F") (by decide +kernel)) (fun _ h9 => h9) dX2_dot_14 (kq_F (cd := 1535115264) (by decide) fun x_9 h_10 => ?_)
  refine kw_fmul (M := 1585446912) hx hb dX2_dot_17 h_8 h_10 (by decide) (by decide) (by decide +kernel) (by decide) (fun z_11 hz_12 => ?_)
  refine kw_fadd (M := 1593835520) hx hb dX2_dot_18 hz_6 hz_12 (by decide) (by decide) (by decide +kernel) (by decide) (fun z_13 hz_14 => ?_)
  refine lv_aload_n hx hb dX2_dot_19 rfl (lv_at hl 0 rfl) ?_
  refine kp_get hx hb hts i_X2 hown hK hP hI hh_a rfl rfl 2 (by decide) (by decide) (hts (.fieldLink RX2 16 "IslandSolver$Vec" "z" "F") (by decide +kernel)) (fun _ h9 => h9) dX2_dot_20 (kq_F (cd := 1115684864) (by decide) fun x_15 h_16 => ?_)
  refine lv_aload_n hx hb dX2_dot_23 rfl (lv_at hl 1 rfl) ?_
  refine kp_get hx hb hts i_X2 hown hK hP hI hh_b rfl rfl 2 (by decide) (by decide) (hts (.fieldLink RX2 16 "IslandSolver$Vec" "z" "F") (by decide +kernel)) (fun _ h9 => h9) dX2_dot_24 (kq_F (cd := 1535115264) (by decide) fun x_17 h_18 => ?_)
  refine kw_fmul (M := 1585446912) hx hb dX2_dot_27 h_16 h_18 (by decide) (by decide) (by decide +kernel) (by decide) (fun z_19 hz_20 => ?_)
  refine kw_fadd (M := 1598029824) hx hb dX2_dot_28 hz_14 hz_20 (by decide) (by decide) (by decide +kernel) (by decide) (fun z_21 hz_22 => ?_)
  refine W.widen (k := 0) (n := 0) (Nat.le_of_ble_eq_true rfl) (Nat.le_of_ble_eq_true rfl) ?_
  exact W.fret (v := z_21) hx hb hr (fun t ht hW9 => ⟨⟨z_21, (L, f), rfl, ⟨hz_22, hI⟩, by rw [ht]; exact hP, va_K.moved hW9.alike hK, hD⟩, hS.F ht⟩) hS.2.2 dX2_dot_29
set_option maxHeartbeats 4000000 in
set_option maxRecDepth 100000 in
theorem k_dot33 (l : Launch) (dC : Nat → ClassId) (dI : Nat → Nat → Nat) (dA : Nat → ClassId) (ad sz : Nat) (τ : Nat → Nat → Nat) (pv : Nat → Nat → Value) (L : List Nat) (f : Nat → va_E) (hI : kI dA τ pv L f) (a : Nat) (hh_a : τ 0 a = 3) (b : Nat) (hh_b : τ 0 b = 3) : Met l yX2_dot wsX2_dot ({ frames := 0, cells := 0, slots := 0, locals := 0 } : Room) (va_Pc [.ref a, .ref b] (kB dC dI dA ad sz L f)) (va_Qf (fun r u => fb 2017460224 r ∧ kI dA τ pv u.1 u.2) (kR dC dI dA (va_A (va_pl L f) sz)) (va_A (va_pl L f) sz)) 0 0 (va_A (va_pl L f) sz) := by
  refine Met.ofW (cc := cX2_dot) (maxL := 2) (ret := (some .float)) (by decide) rfl ?_
  intro p e s m args below meth c s₁ B hml hv
  obtain ⟨rfl, hsz, hP, hK, hD0, hE⟩ := hv
  have hx := B.exec
  have hb := B.bytes
  have hr := B.returns
  have hts := atoms_spec (ws := wsX2_dot) B.pre
  have hown : s.vm.findClass RX2 = some m.cls := findClass_of_methodNamed B.named
  have hlocks := B.notSynchronized
  have i_X2 : ∀ w ∈ u_ws RX2 TX2 3, w ∈ wsX2_dot := by decide +kernel
  subst hsz
  have hD := hD0.self (sz := s.heap.size)
  generalize hAe : va_A (va_pl L f) s.heap.size = A at hD hE ⊢
  have hA : ∀ q : Nat, s.heap.size ≤ q → A q := fun q h => by rw [← hAe]; exact Or.inr h
  have hS : va_S A s.heap s.heap [] := va_S.rf
  have hP : va_P (dC, dI) vwCl (va_pl L f) s.heap := hP
  have hK : va_K (dC, dI) vwCl (tyA dA) s := hK
  have hl := lv_entry ([.ref a, .ref b]) (n := 2) (Nat.le_of_ble_eq_true rfl)
  rw [lg_entry_eq]
  generalize (lg_sl ([.ref a, .ref b]) ++ List.replicate (2 - (lg_sl ([.ref a, .ref b])).length) Slot.unset).toArray = ls at hl ⊢
  have hl : lv_has ls 2 [(0, .ref a), (1, .ref b)] := hl
  refine lv_aload_n hx hb dX2_dot_0 rfl (lv_at hl 0 rfl) ?_
  refine kp_get hx hb hts i_X2 hown hK hP hI hh_a rfl rfl 0 (by decide) (by decide) (hts (.fieldLink RX2 7 "IslandSolver$Vec" "x" "F") (by decide +kernel)) (fun _ h9 => h9) dX2_dot_1 (kq_F (cd := 1535115264) (by decide) fun x_1 h_2 => ?_)
  refine lv_aload_n hx hb dX2_dot_4 rfl (lv_at hl 1 rfl) ?_
  refine kp_get hx hb hts i_X2 hown hK hP hI hh_b rfl rfl 0 (by decide) (by decide) (hts (.fieldLink RX2 7 "IslandSolver$Vec" "x" "F") (by decide +kernel)) (fun _ h9 => h9) dX2_dot_5 (kq_F (cd := 1535115264) (by decide) fun x_3 h_4 => ?_)
  refine kw_fmul (M := 2004877312) hx hb dX2_dot_8 h_2 h_4 (by decide) (by decide) (by decide +kernel) (by decide) (fun z_5 hz_6 => ?_)
  refine lv_aload_n hx hb dX2_dot_9 rfl (lv_at hl 0 rfl) ?_
  refine kp_get hx hb hts i_X2 hown hK hP hI hh_a rfl rfl 1 (by decide) (by decide) (hts (.fieldLink RX2 13 "IslandSolver$Vec" "y" "F") (by decide +kernel)) (fun _ h9 => h9) dX2_dot_10 (kq_F (cd := 1535115264) (by decide) fun x_7 h_8 => ?_)
  refine lv_aload_n hx hb dX2_dot_13 rfl (lv_at hl 1 rfl) ?_
  refine kp_get hx hb hts i_X2 hown hK hP hI hh_b rfl rfl 1 (by decide) (by decide) (hts (.fieldLink RX2 13 "IslandSolver$Vec" "y" "F") (by decide +kernel)) (fun _ h9 => h9) dX2_dot_14 (kq_F (cd := 1535115264) (by decide) fun x_9 h_10 => ?_)
  refine kw_fmul (M := 2004877312) hx hb dX2_dot_17 h_8 h_10 (by decide) (by decide) (by decide +kernel) (by decide) (fun z_11 hz_12 => ?_)
  refine kw_fadd (M := 2013265920) hx hb dX2_dot_18 hz_6 hz_12 (by decide) (by decide) (by decide +kernel) (by decide) (fun z_13 hz_14 => ?_)
  refine lv_aload_n hx hb dX2_dot_19 rfl (lv_at hl 0 rfl) ?_
  refine kp_get hx hb hts i_X2 hown hK hP hI hh_a rfl rfl 2 (by decide) (by decide) (hts (.fieldLink RX2 16 "IslandSolver$Vec" "z" "F") (by decide +kernel)) (fun _ h9 => h9) dX2_dot_20 (kq_F (cd := 1535115264) (by decide) fun x_15 h_16 => ?_)
  refine lv_aload_n hx hb dX2_dot_23 rfl (lv_at hl 1 rfl) ?_
  refine kp_get hx hb hts i_X2 hown hK hP hI hh_b rfl rfl 2 (by decide) (by decide) (hts (.fieldLink RX2 16 "IslandSolver$Vec" "z" "F") (by decide +kernel)) (fun _ h9 => h9) dX2_dot_24 (kq_F (cd := 1535115264) (by decide) fun x_17 h_18 => ?_)
  refine kw_fmul (M := 2004877312) hx hb dX2_dot_27 h_16 h_18 (by decide) (by decide) (by decide +kernel) (by decide) (fun z_19 hz_20 => ?_)
  refine kw_fadd (M := 2017460224) hx hb dX2_dot_28 hz_14 hz_20 (by decide) (by decide) (by decide +kernel) (by decide) (fun z_21 hz_22 => ?_)
  refine W.widen (k := 0) (n := 0) (Nat.le_of_ble_eq_true rfl) (Nat.le_of_ble_eq_true rfl) ?_
  exact W.fret (v := z_21) hx hb hr (fun t ht hW9 => ⟨⟨z_21, (L, f), rfl, ⟨hz_22, hI⟩, by rw [ht]; exact hP, va_K.moved hW9.alike hK, hD⟩, hS.F ht⟩) hS.2.2 dX2_dot_29
set_option maxHeartbeats 4000000 in
set_option maxRecDepth 100000 in
theorem k_add4 (l : Launch) (dC : Nat → ClassId) (dI : Nat → Nat → Nat) (dA : Nat → ClassId) (ad sz : Nat) (τ : Nat → Nat → Nat) (pv : Nat → Nat → Value) (L : List Nat) (f : Nat → va_E) (hI : kI dA τ pv L f) (a : Nat) (hh_a : τ 0 a = 3) (b : Nat) (hh_b : τ 0 b = 4) (x : UInt32) (hh_x : fb 1266679808 x) : Met l yX2_add wsX2_add ({ frames := 0, cells := 0, slots := 0, locals := 0 } : Room) (va_Pc [.ref a, .ref b, .float x] (kB dC dI dA ad sz L f)) (va_Qv (fun u => kI dA τ pv u.1 u.2) (kR dC dI dA (va_A (va_pl L f) sz)) (va_A (va_pl L f) sz)) 0 0 (va_A (va_pl L f) sz) := by
  refine Met.ofW (cc := cX2_add) (maxL := 3) (ret := none) (by decide) rfl ?_
  intro p e s m args below meth c s₁ B hml hv
  obtain ⟨rfl, hsz, hP, hK, hD0, hE⟩ := hv
  have hx := B.exec
  have hb := B.bytes
  have hr := B.returns
  have hts := atoms_spec (ws := wsX2_add) B.pre
  have hown : s.vm.findClass RX2 = some m.cls := findClass_of_methodNamed B.named
  have hlocks := B.notSynchronized
  have i_X2 : ∀ w ∈ u_ws RX2 TX2 3, w ∈ wsX2_add := by decide +kernel
  subst hsz
  have hD := hD0.self (sz := s.heap.size)
  generalize hAe : va_A (va_pl L f) s.heap.size = A at hD hE ⊢
  have hA : ∀ q : Nat, s.heap.size ≤ q → A q := fun q h => by rw [← hAe]; exact Or.inr h
  have hS : va_S A s.heap s.heap [] := va_S.rf
  have hP : va_P (dC, dI) vwCl (va_pl L f) s.heap := hP
  have hK : va_K (dC, dI) vwCl (tyA dA) s := hK
  have hl := lv_entry ([.ref a, .ref b, .float x]) (n := 3) (Nat.le_of_ble_eq_true rfl)
  rw [lg_entry_eq]
  generalize (lg_sl ([.ref a, .ref b, .float x]) ++ List.replicate (3 - (lg_sl ([.ref a, .ref b, .float x])).length) Slot.unset).toArray = ls at hl ⊢
  have hl : lv_has ls 3 [(0, .ref a), (1, .ref b), (2, .float x)] := hl
  refine lv_aload_n hx hb dX2_add_0 rfl (lv_at hl 0 rfl) ?_
  refine lv_aload_n hx hb dX2_add_1 rfl (lv_at hl 0 rfl) ?_
  refine kp_get hx hb hts i_X2 hown hK hP hI hh_a rfl rfl 0 (by decide) (by decide) (hts (.fieldLink RX2 7 "IslandSolver$Vec" "x" "F") (by decide +kernel)) (fun _ h9 => h9) dX2_add_2 (kq_F (cd := 1535115264) (by decide) fun x_1 h_2 => ?_)
  refine lv_aload_n hx hb dX2_add_5 rfl (lv_at hl 1 rfl) ?_
  refine kp_get hx hb hts i_X2 hown hK hP hI hh_b rfl rfl 0 (by decide) (by decide) (hts (.fieldLink RX2 7 "IslandSolver$Vec" "x" "F") (by decide +kernel)) (fun _ h9 => h9) dX2_add_6 (kq_F (cd := 1115684864) (by decide) fun x_3 h_4 => ?_)
  refine lv_fload_n hx hb dX2_add_9 rfl (lv_at hl 2 rfl) ?_
  refine kw_fmul (M := 1317011456) hx hb dX2_add_10 h_4 hh_x (by decide) (by decide) (by decide +kernel) (by decide) (fun z_5 hz_6 => ?_)
  refine kw_satA (M := 1535115264) hx hb dX2_add_11 h_2 hz_6 (by decide) (by decide) (by decide +kernel) (fun z_7 hz_8 => ?_)
  refine kp_put (v := .float z_7) (ty := .float) hx hb hts i_X2 tyX2 tyX2_ok nmX2 hown hK hP hD hS hI hh_a rfl rfl 0 (by decide) (by decide) (hts (.fieldLink RX2 7 "IslandSolver$Vec" "x" "F") (by decide +kernel)) (fun _ h9 => h9) rfl (by decide +kernel) rfl rfl rfl (by decide) (kv_F (by decide) hz_8) dX2_add_12 (fun f H locs hI hP hD hS => ?_)
  refine lv_aload_n hx hb dX2_add_15 rfl (lv_at hl 0 rfl) ?_
  refine lv_aload_n hx hb dX2_add_16 rfl (lv_at hl 0 rfl) ?_
  refine kp_get hx hb hts i_X2 hown hK hP hI hh_a rfl rfl 1 (by decide) (by decide) (hts (.fieldLink RX2 13 "IslandSolver$Vec" "y" "F") (by decide +kernel)) (fun _ h9 => h9) dX2_add_17 (kq_F (cd := 1535115264) (by decide) fun x_9 h_10 => ?_)
  refine lv_aload_n hx hb dX2_add_20 rfl (lv_at hl 1 rfl) ?_
  refine kp_get hx hb hts i_X2 hown hK hP hI hh_b rfl rfl 1 (by decide) (by decide) (hts (.fieldLink RX2 13 "IslandSolver$Vec" "y" "F") (by decide +kernel)) (fun _ h9 => h9) dX2_add_21 (kq_F (cd := 1115684864) (by decide) fun x_11 h_12 => ?_)
  refine lv_fload_n hx hb dX2_add_24 rfl (lv_at hl 2 rfl) ?_
  refine kw_fmul (M := 1317011456) hx hb dX2_add_25 h_12 hh_x (by decide) (by decide) (by decide +kernel) (by decide) (fun z_13 hz_14 => ?_)
  refine kw_satA (M := 1535115264) hx hb dX2_add_26 h_10 hz_14 (by decide) (by decide) (by decide +kernel) (fun z_15 hz_16 => ?_)
  refine kp_put (v := .float z_15) (ty := .float) hx hb hts i_X2 tyX2 tyX2_ok nmX2 hown hK hP hD hS hI hh_a rfl rfl 1 (by decide) (by decide) (hts (.fieldLink RX2 13 "IslandSolver$Vec" "y" "F") (by decide +kernel)) (fun _ h9 => h9) rfl (by decide +kernel) rfl rfl rfl (by decide) (kv_F (by decide) hz_16) dX2_add_27 (fun f H locs hI hP hD hS => ?_)
  refine lv_aload_n hx hb dX2_add_30 rfl (lv_at hl 0 rfl) ?_
  refine lv_aload_n hx hb dX2_add_31 rfl (lv_at hl 0 rfl) ?_
  refine kp_get hx hb hts i_X2 hown hK hP hI hh_a rfl rfl 2 (by decide) (by decide) (hts (.fieldLink RX2 16 "IslandSolver$Vec" "z" "F") (by decide +kernel)) (fun _ h9 => h9) dX2_add_32 (kq_F (cd := 1535115264) (by decide) fun x_17 h_18 => ?_)
  refine lv_aload_n hx hb dX2_add_35 rfl (lv_at hl 1 rfl) ?_
  refine kp_get hx hb hts i_X2 hown hK hP hI hh_b rfl rfl 2 (by decide) (by decide) (hts (.fieldLink RX2 16 "IslandSolver$Vec" "z" "F") (by decide +kernel)) (fun _ h9 => h9) dX2_add_36 (kq_F (cd := 1115684864) (by decide) fun x_19 h_20 => ?_)
  refine lv_fload_n hx hb dX2_add_39 rfl (lv_at hl 2 rfl) ?_
  refine kw_fmul (M := 1317011456) hx hb dX2_add_40 h_20 hh_x (by decide) (by decide) (by decide +kernel) (by decide) (fun z_21 hz_22 => ?_)
  refine kw_satA (M := 1535115264) hx hb dX2_add_41 h_18 hz_22 (by decide) (by decide) (by decide +kernel) (fun z_23 hz_24 => ?_)
  refine kp_put (v := .float z_23) (ty := .float) hx hb hts i_X2 tyX2 tyX2_ok nmX2 hown hK hP hD hS hI hh_a rfl rfl 2 (by decide) (by decide) (hts (.fieldLink RX2 16 "IslandSolver$Vec" "z" "F") (by decide +kernel)) (fun _ h9 => h9) rfl (by decide +kernel) rfl rfl rfl (by decide) (kv_F (by decide) hz_24) dX2_add_42 (fun f H locs hI hP hD hS => ?_)
  refine W.widen (k := 0) (n := 0) (Nat.le_of_ble_eq_true rfl) (Nat.le_of_ble_eq_true rfl) ?_
  exact W.vret hx hb hr (fun t ht hW9 => ⟨⟨(L, f), rfl, hI, by rw [ht]; exact hP, va_K.moved hW9.alike hK, hD⟩, hS.F ht⟩) hS.2.2 dX2_add_45
set_option maxHeartbeats 4000000 in
set_option maxRecDepth 100000 in
theorem k_add5 (l : Launch) (dC : Nat → ClassId) (dI : Nat → Nat → Nat) (dA : Nat → ClassId) (ad sz : Nat) (τ : Nat → Nat → Nat) (pv : Nat → Nat → Value) (L : List Nat) (f : Nat → va_E) (hI : kI dA τ pv L f) (a : Nat) (hh_a : τ 0 a = 3) (b : Nat) (hh_b : τ 0 b = 5) (x : UInt32) (hh_x : fb 1233125376 x) : Met l yX2_add wsX2_add ({ frames := 0, cells := 0, slots := 0, locals := 0 } : Room) (va_Pc [.ref a, .ref b, .float x] (kB dC dI dA ad sz L f)) (va_Qv (fun u => kI dA τ pv u.1 u.2) (kR dC dI dA (va_A (va_pl L f) sz)) (va_A (va_pl L f) sz)) 0 0 (va_A (va_pl L f) sz) := by
  refine Met.ofW (cc := cX2_add) (maxL := 3) (ret := none) (by decide) rfl ?_
  intro p e s m args below meth c s₁ B hml hv
  obtain ⟨rfl, hsz, hP, hK, hD0, hE⟩ := hv
  have hx := B.exec
  have hb := B.bytes
  have hr := B.returns
  have hts := atoms_spec (ws := wsX2_add) B.pre
  have hown : s.vm.findClass RX2 = some m.cls := findClass_of_methodNamed B.named
  have hlocks := B.notSynchronized
  have i_X2 : ∀ w ∈ u_ws RX2 TX2 3, w ∈ wsX2_add := by decide +kernel
  subst hsz
  have hD := hD0.self (sz := s.heap.size)
  generalize hAe : va_A (va_pl L f) s.heap.size = A at hD hE ⊢
  have hA : ∀ q : Nat, s.heap.size ≤ q → A q := fun q h => by rw [← hAe]; exact Or.inr h
  have hS : va_S A s.heap s.heap [] := va_S.rf
  have hP : va_P (dC, dI) vwCl (va_pl L f) s.heap := hP
  have hK : va_K (dC, dI) vwCl (tyA dA) s := hK
  have hl := lv_entry ([.ref a, .ref b, .float x]) (n := 3) (Nat.le_of_ble_eq_true rfl)
  rw [lg_entry_eq]
  generalize (lg_sl ([.ref a, .ref b, .float x]) ++ List.replicate (3 - (lg_sl ([.ref a, .ref b, .float x])).length) Slot.unset).toArray = ls at hl ⊢
  have hl : lv_has ls 3 [(0, .ref a), (1, .ref b), (2, .float x)] := hl
  refine lv_aload_n hx hb dX2_add_0 rfl (lv_at hl 0 rfl) ?_
  refine lv_aload_n hx hb dX2_add_1 rfl (lv_at hl 0 rfl) ?_
  refine kp_get hx hb hts i_X2 hown hK hP hI hh_a rfl rfl 0 (by decide) (by decide) (hts (.fieldLink RX2 7 "IslandSolver$Vec" "x" "F") (by decide +kernel)) (fun _ h9 => h9) dX2_add_2 (kq_F (cd := 1535115264) (by decide) fun x_1 h_2 => ?_)
  refine lv_aload_n hx hb dX2_add_5 rfl (lv_at hl 1 rfl) ?_
  refine kp_get hx hb hts i_X2 hown hK hP hI hh_b rfl rfl 0 (by decide) (by decide) (hts (.fieldLink RX2 7 "IslandSolver$Vec" "x" "F") (by decide +kernel)) (fun _ h9 => h9) dX2_add_6 (kq_F (cd := 1161822208) (by decide) fun x_3 h_4 => ?_)
  refine lv_fload_n hx hb dX2_add_9 rfl (lv_at hl 2 rfl) ?_
  refine kw_fmul (M := 1329594368) hx hb dX2_add_10 h_4 hh_x (by decide) (by decide) (by decide +kernel) (by decide) (fun z_5 hz_6 => ?_)
  refine kw_satA (M := 1535115264) hx hb dX2_add_11 h_2 hz_6 (by decide) (by decide) (by decide +kernel) (fun z_7 hz_8 => ?_)
  refine kp_put (v := .float z_7) (ty := .float) hx hb hts i_X2 tyX2 tyX2_ok nmX2 hown hK hP hD hS hI hh_a rfl rfl 0 (by decide) (by decide) (hts (.fieldLink RX2 7 "IslandSolver$Vec" "x" "F") (by decide +kernel)) (fun _ h9 => h9) rfl (by decide +kernel) rfl rfl rfl (by decide) (kv_F (by decide) hz_8) dX2_add_12 (fun f H locs hI hP hD hS => ?_)
  refine lv_aload_n hx hb dX2_add_15 rfl (lv_at hl 0 rfl) ?_
  refine lv_aload_n hx hb dX2_add_16 rfl (lv_at hl 0 rfl) ?_
  refine kp_get hx hb hts i_X2 hown hK hP hI hh_a rfl rfl 1 (by decide) (by decide) (hts (.fieldLink RX2 13 "IslandSolver$Vec" "y" "F") (by decide +kernel)) (fun _ h9 => h9) dX2_add_17 (kq_F (cd := 1535115264) (by decide) fun x_9 h_10 => ?_)
  refine lv_aload_n hx hb dX2_add_20 rfl (lv_at hl 1 rfl) ?_
  refine kp_get hx hb hts i_X2 hown hK hP hI hh_b rfl rfl 1 (by decide) (by decide) (hts (.fieldLink RX2 13 "IslandSolver$Vec" "y" "F") (by decide +kernel)) (fun _ h9 => h9) dX2_add_21 (kq_F (cd := 1161822208) (by decide) fun x_11 h_12 => ?_)
  refine lv_fload_n hx hb dX2_add_24 rfl (lv_at hl 2 rfl) ?_
  refine kw_fmul (M := 1329594368) hx hb dX2_add_25 h_12 hh_x (by decide) (by decide) (by decide +kernel) (by decide) (fun z_13 hz_14 => ?_)
  refine kw_satA (M := 1535115264) hx hb dX2_add_26 h_10 hz_14 (by decide) (by decide) (by decide +kernel) (fun z_15 hz_16 => ?_)
  refine kp_put (v := .float z_15) (ty := .float) hx hb hts i_X2 tyX2 tyX2_ok nmX2 hown hK hP hD hS hI hh_a rfl rfl 1 (by decide) (by decide) (hts (.fieldLink RX2 13 "IslandSolver$Vec" "y" "F") (by decide +kernel)) (fun _ h9 => h9) rfl (by decide +kernel) rfl rfl rfl (by decide) (kv_F (by decide) hz_16) dX2_add_27 (fun f H locs hI hP hD hS => ?_)
  refine lv_aload_n hx hb dX2_add_30 rfl (lv_at hl 0 rfl) ?_
  refine lv_aload_n hx hb dX2_add_31 rfl (lv_at hl 0 rfl) ?_
  refine kp_get hx hb hts i_X2 hown hK hP hI hh_a rfl rfl 2 (by decide) (by decide) (hts (.fieldLink RX2 16 "IslandSolver$Vec" "z" "F") (by decide +kernel)) (fun _ h9 => h9) dX2_add_32 (kq_F (cd := 1535115264) (by decide) fun x_17 h_18 => ?_)
  refine lv_aload_n hx hb dX2_add_35 rfl (lv_at hl 1 rfl) ?_
  refine kp_get hx hb hts i_X2 hown hK hP hI hh_b rfl rfl 2 (by decide) (by decide) (hts (.fieldLink RX2 16 "IslandSolver$Vec" "z" "F") (by decide +kernel)) (fun _ h9 => h9) dX2_add_36 (kq_F (cd := 1161822208) (by decide) fun x_19 h_20 => ?_)
  refine lv_fload_n hx hb dX2_add_39 rfl (lv_at hl 2 rfl) ?_
  refine kw_fmul (M := 1329594368) hx hb dX2_add_40 h_20 hh_x (by decide) (by decide) (by decide +kernel) (by decide) (fun z_21 hz_22 => ?_)
  refine kw_satA (M := 1535115264) hx hb dX2_add_41 h_18 hz_22 (by decide) (by decide) (by decide +kernel) (fun z_23 hz_24 => ?_)
  refine kp_put (v := .float z_23) (ty := .float) hx hb hts i_X2 tyX2 tyX2_ok nmX2 hown hK hP hD hS hI hh_a rfl rfl 2 (by decide) (by decide) (hts (.fieldLink RX2 16 "IslandSolver$Vec" "z" "F") (by decide +kernel)) (fun _ h9 => h9) rfl (by decide +kernel) rfl rfl rfl (by decide) (kv_F (by decide) hz_24) dX2_add_42 (fun f H locs hI hP hD hS => ?_)
  refine W.widen (k := 0) (n := 0) (Nat.le_of_ble_eq_true rfl) (Nat.le_of_ble_eq_true rfl) ?_
  exact W.vret hx hb hr (fun t ht hW9 => ⟨⟨(L, f), rfl, hI, by rw [ht]; exact hP, va_K.moved hW9.alike hK, hD⟩, hS.F ht⟩) hS.2.2 dX2_add_45
set_option maxHeartbeats 4000000 in
set_option maxRecDepth 100000 in
theorem k_subtract4 (l : Launch) (dC : Nat → ClassId) (dI : Nat → Nat → Nat) (dA : Nat → ClassId) (ad sz : Nat) (τ : Nat → Nat → Nat) (pv : Nat → Nat → Value) (L : List Nat) (f : Nat → va_E) (hI : kI dA τ pv L f) (a : Nat) (hh_a : τ 0 a = 3) (b : Nat) (hh_b : τ 0 b = 4) (x : UInt32) (hh_x : fb 1266679808 x) : Met l yX2_subtract wsX2_subtract ({ frames := 0, cells := 0, slots := 0, locals := 0 } : Room) (va_Pc [.ref a, .ref b, .float x] (kB dC dI dA ad sz L f)) (va_Qv (fun u => kI dA τ pv u.1 u.2) (kR dC dI dA (va_A (va_pl L f) sz)) (va_A (va_pl L f) sz)) 0 0 (va_A (va_pl L f) sz) := by
  refine Met.ofW (cc := cX2_subtract) (maxL := 3) (ret := none) (by decide) rfl ?_
  intro p e s m args below meth c s₁ B hml hv
  obtain ⟨rfl, hsz, hP, hK, hD0, hE⟩ := hv
  have hx := B.exec
  have hb := B.bytes
  have hr := B.returns
  have hts := atoms_spec (ws := wsX2_subtract) B.pre
  have hown : s.vm.findClass RX2 = some m.cls := findClass_of_methodNamed B.named
  have hlocks := B.notSynchronized
  have i_X2 : ∀ w ∈ u_ws RX2 TX2 3, w ∈ wsX2_subtract := by decide +kernel
  subst hsz
  have hD := hD0.self (sz := s.heap.size)
  generalize hAe : va_A (va_pl L f) s.heap.size = A at hD hE ⊢
  have hA : ∀ q : Nat, s.heap.size ≤ q → A q := fun q h => by rw [← hAe]; exact Or.inr h
  have hS : va_S A s.heap s.heap [] := va_S.rf
  have hP : va_P (dC, dI) vwCl (va_pl L f) s.heap := hP
  have hK : va_K (dC, dI) vwCl (tyA dA) s := hK
  have hl := lv_entry ([.ref a, .ref b, .float x]) (n := 3) (Nat.le_of_ble_eq_true rfl)
  rw [lg_entry_eq]
  generalize (lg_sl ([.ref a, .ref b, .float x]) ++ List.replicate (3 - (lg_sl ([.ref a, .ref b, .float x])).length) Slot.unset).toArray = ls at hl ⊢
  have hl : lv_has ls 3 [(0, .ref a), (1, .ref b), (2, .float x)] := hl
  refine lv_aload_n hx hb dX2_subtract_0 rfl (lv_at hl 0 rfl) ?_
  refine lv_aload_n hx hb dX2_subtract_1 rfl (lv_at hl 0 rfl) ?_
  refine kp_get hx hb hts i_X2 hown hK hP hI hh_a rfl rfl 0 (by decide) (by decide) (hts (.fieldLink RX2 7 "IslandSolver$Vec" "x" "F") (by decide +kernel)) (fun _ h9 => h9) dX2_subtract_2 (kq_F (cd := 1535115264) (by decide) fun x_1 h_2 => ?_)
  refine lv_aload_n hx hb dX2_subtract_5 rfl (lv_at hl 1 rfl) ?_
  refine kp_get hx hb hts i_X2 hown hK hP hI hh_b rfl rfl 0 (by decide) (by decide) (hts (.fieldLink RX2 7 "IslandSolver$Vec" "x" "F") (by decide +kernel)) (fun _ h9 => h9) dX2_subtract_6 (kq_F (cd := 1115684864) (by decide) fun x_3 h_4 => ?_)
  refine lv_fload_n hx hb dX2_subtract_9 rfl (lv_at hl 2 rfl) ?_
  refine kw_fmul (M := 1317011456) hx hb dX2_subtract_10 h_4 hh_x (by decide) (by decide) (by decide +kernel) (by decide) (fun z_5 hz_6 => ?_)
  refine kw_satS (M := 1535115264) hx hb dX2_subtract_11 h_2 hz_6 (by decide) (by decide) (by decide +kernel) (fun z_7 hz_8 => ?_)
  refine kp_put (v := .float z_7) (ty := .float) hx hb hts i_X2 tyX2 tyX2_ok nmX2 hown hK hP hD hS hI hh_a rfl rfl 0 (by decide) (by decide) (hts (.fieldLink RX2 7 "IslandSolver$Vec" "x" "F") (by decide +kernel)) (fun _ h9 => h9) rfl (by decide +kernel) rfl rfl rfl (by decide) (kv_F (by decide) hz_8) dX2_subtract_12 (fun f H locs hI hP hD hS => ?_)
  refine lv_aload_n hx hb dX2_subtract_15 rfl (lv_at hl 0 rfl) ?_
  refine lv_aload_n hx hb dX2_subtract_16 rfl (lv_at hl 0 rfl) ?_
  refine kp_get hx hb hts i_X2 hown hK hP hI hh_a rfl rfl 1 (by decide) (by decide) (hts (.fieldLink RX2 13 "IslandSolver$Vec" "y" "F") (by decide +kernel)) (fun _ h9 => h9) dX2_subtract_17 (kq_F (cd := 1535115264) (by decide) fun x_9 h_10 => ?_)
  refine lv_aload_n hx hb dX2_subtract_20 rfl (lv_at hl 1 rfl) ?_
  refine kp_get hx hb hts i_X2 hown hK hP hI hh_b rfl rfl 1 (by decide) (by decide) (hts (.fieldLink RX2 13 "IslandSolver$Vec" "y" "F") (by decide +kernel)) (fun _ h9 => h9) dX2_subtract_21 (kq_F (cd := 1115684864) (by decide) fun x_11 h_12 => ?_)
  refine lv_fload_n hx hb dX2_subtract_24 rfl (lv_at hl 2 rfl) ?_
  refine kw_fmul (M := 1317011456) hx hb dX2_subtract_25 h_12 hh_x (by decide) (by decide) (by decide +kernel) (by decide) (fun z_13 hz_14 => ?_)
  refine kw_satS (M := 1535115264) hx hb dX2_subtract_26 h_10 hz_14 (by decide) (by decide) (by decide +kernel) (fun z_15 hz_16 => ?_)
  refine kp_put (v := .float z_15) (ty := .float) hx hb hts i_X2 tyX2 tyX2_ok nmX2 hown hK hP hD hS hI hh_a rfl rfl 1 (by decide) (by decide) (hts (.fieldLink RX2 13 "IslandSolver$Vec" "y" "F") (by decide +kernel)) (fun _ h9 => h9) rfl (by decide +kernel) rfl rfl rfl (by decide) (kv_F (by decide) hz_16) dX2_subtract_27 (fun f H locs hI hP hD hS => ?_)
  refine lv_aload_n hx hb dX2_subtract_30 rfl (lv_at hl 0 rfl) ?_
  refine lv_aload_n hx hb dX2_subtract_31 rfl (lv_at hl 0 rfl) ?_
  refine kp_get hx hb hts i_X2 hown hK hP hI hh_a rfl rfl 2 (by decide) (by decide) (hts (.fieldLink RX2 16 "IslandSolver$Vec" "z" "F") (by decide +kernel)) (fun _ h9 => h9) dX2_subtract_32 (kq_F (cd := 1535115264) (by decide) fun x_17 h_18 => ?_)
  refine lv_aload_n hx hb dX2_subtract_35 rfl (lv_at hl 1 rfl) ?_
  refine kp_get hx hb hts i_X2 hown hK hP hI hh_b rfl rfl 2 (by decide) (by decide) (hts (.fieldLink RX2 16 "IslandSolver$Vec" "z" "F") (by decide +kernel)) (fun _ h9 => h9) dX2_subtract_36 (kq_F (cd := 1115684864) (by decide) fun x_19 h_20 => ?_)
  refine lv_fload_n hx hb dX2_subtract_39 rfl (lv_at hl 2 rfl) ?_
  refine kw_fmul (M := 1317011456) hx hb dX2_subtract_40 h_20 hh_x (by decide) (by decide) (by decide +kernel) (by decide) (fun z_21 hz_22 => ?_)
  refine kw_satS (M := 1535115264) hx hb dX2_subtract_41 h_18 hz_22 (by decide) (by decide) (by decide +kernel) (fun z_23 hz_24 => ?_)
  refine kp_put (v := .float z_23) (ty := .float) hx hb hts i_X2 tyX2 tyX2_ok nmX2 hown hK hP hD hS hI hh_a rfl rfl 2 (by decide) (by decide) (hts (.fieldLink RX2 16 "IslandSolver$Vec" "z" "F") (by decide +kernel)) (fun _ h9 => h9) rfl (by decide +kernel) rfl rfl rfl (by decide) (kv_F (by decide) hz_24) dX2_subtract_42 (fun f H locs hI hP hD hS => ?_)
  refine W.widen (k := 0) (n := 0) (Nat.le_of_ble_eq_true rfl) (Nat.le_of_ble_eq_true rfl) ?_
  exact W.vret hx hb hr (fun t ht hW9 => ⟨⟨(L, f), rfl, hI, by rw [ht]; exact hP, va_K.moved hW9.alike hK, hD⟩, hS.F ht⟩) hS.2.2 dX2_subtract_45
set_option maxHeartbeats 4000000 in
set_option maxRecDepth 100000 in
theorem k_subtract5 (l : Launch) (dC : Nat → ClassId) (dI : Nat → Nat → Nat) (dA : Nat → ClassId) (ad sz : Nat) (τ : Nat → Nat → Nat) (pv : Nat → Nat → Value) (L : List Nat) (f : Nat → va_E) (hI : kI dA τ pv L f) (a : Nat) (hh_a : τ 0 a = 3) (b : Nat) (hh_b : τ 0 b = 5) (x : UInt32) (hh_x : fb 1233125376 x) : Met l yX2_subtract wsX2_subtract ({ frames := 0, cells := 0, slots := 0, locals := 0 } : Room) (va_Pc [.ref a, .ref b, .float x] (kB dC dI dA ad sz L f)) (va_Qv (fun u => kI dA τ pv u.1 u.2) (kR dC dI dA (va_A (va_pl L f) sz)) (va_A (va_pl L f) sz)) 0 0 (va_A (va_pl L f) sz) := by
  refine Met.ofW (cc := cX2_subtract) (maxL := 3) (ret := none) (by decide) rfl ?_
  intro p e s m args below meth c s₁ B hml hv
  obtain ⟨rfl, hsz, hP, hK, hD0, hE⟩ := hv
  have hx := B.exec
  have hb := B.bytes
  have hr := B.returns
  have hts := atoms_spec (ws := wsX2_subtract) B.pre
  have hown : s.vm.findClass RX2 = some m.cls := findClass_of_methodNamed B.named
  have hlocks := B.notSynchronized
  have i_X2 : ∀ w ∈ u_ws RX2 TX2 3, w ∈ wsX2_subtract := by decide +kernel
  subst hsz
  have hD := hD0.self (sz := s.heap.size)
  generalize hAe : va_A (va_pl L f) s.heap.size = A at hD hE ⊢
  have hA : ∀ q : Nat, s.heap.size ≤ q → A q := fun q h => by rw [← hAe]; exact Or.inr h
  have hS : va_S A s.heap s.heap [] := va_S.rf
  have hP : va_P (dC, dI) vwCl (va_pl L f) s.heap := hP
  have hK : va_K (dC, dI) vwCl (tyA dA) s := hK
  have hl := lv_entry ([.ref a, .ref b, .float x]) (n := 3) (Nat.le_of_ble_eq_true rfl)
  rw [lg_entry_eq]
  generalize (lg_sl ([.ref a, .ref b, .float x]) ++ List.replicate (3 - (lg_sl ([.ref a, .ref b, .float x])).length) Slot.unset).toArray = ls at hl ⊢
  have hl : lv_has ls 3 [(0, .ref a), (1, .ref b), (2, .float x)] := hl
  refine lv_aload_n hx hb dX2_subtract_0 rfl (lv_at hl 0 rfl) ?_
  refine lv_aload_n hx hb dX2_subtract_1 rfl (lv_at hl 0 rfl) ?_
  refine kp_get hx hb hts i_X2 hown hK hP hI hh_a rfl rfl 0 (by decide) (by decide) (hts (.fieldLink RX2 7 "IslandSolver$Vec" "x" "F") (by decide +kernel)) (fun _ h9 => h9) dX2_subtract_2 (kq_F (cd := 1535115264) (by decide) fun x_1 h_2 => ?_)
  refine lv_aload_n hx hb dX2_subtract_5 rfl (lv_at hl 1 rfl) ?_
  refine kp_get hx hb hts i_X2 hown hK hP hI hh_b rfl rfl 0 (by decide) (by decide) (hts (.fieldLink RX2 7 "IslandSolver$Vec" "x" "F") (by decide +kernel)) (fun _ h9 => h9) dX2_subtract_6 (kq_F (cd := 1161822208) (by decide) fun x_3 h_4 => ?_)
  refine lv_fload_n hx hb dX2_subtract_9 rfl (lv_at hl 2 rfl) ?_
  refine kw_fmul (M := 1329594368) hx hb dX2_subtract_10 h_4 hh_x (by decide) (by decide) (by decide +kernel) (by decide) (fun z_5 hz_6 => ?_)
  refine kw_satS (M := 1535115264) hx hb dX2_subtract_11 h_2 hz_6 (by decide) (by decide) (by decide +kernel) (fun z_7 hz_8 => ?_)
  refine kp_put (v := .float z_7) (ty := .float) hx hb hts i_X2 tyX2 tyX2_ok nmX2 hown hK hP hD hS hI hh_a rfl rfl 0 (by decide) (by decide) (hts (.fieldLink RX2 7 "IslandSolver$Vec" "x" "F") (by decide +kernel)) (fun _ h9 => h9) rfl (by decide +kernel) rfl rfl rfl (by decide) (kv_F (by decide) hz_8) dX2_subtract_12 (fun f H locs hI hP hD hS => ?_)
  refine lv_aload_n hx hb dX2_subtract_15 rfl (lv_at hl 0 rfl) ?_
  refine lv_aload_n hx hb dX2_subtract_16 rfl (lv_at hl 0 rfl) ?_
  refine kp_get hx hb hts i_X2 hown hK hP hI hh_a rfl rfl 1 (by decide) (by decide) (hts (.fieldLink RX2 13 "IslandSolver$Vec" "y" "F") (by decide +kernel)) (fun _ h9 => h9) dX2_subtract_17 (kq_F (cd := 1535115264) (by decide) fun x_9 h_10 => ?_)
  refine lv_aload_n hx hb dX2_subtract_20 rfl (lv_at hl 1 rfl) ?_
  refine kp_get hx hb hts i_X2 hown hK hP hI hh_b rfl rfl 1 (by decide) (by decide) (hts (.fieldLink RX2 13 "IslandSolver$Vec" "y" "F") (by decide +kernel)) (fun _ h9 => h9) dX2_subtract_21 (kq_F (cd := 1161822208) (by decide) fun x_11 h_12 => ?_)
  refine lv_fload_n hx hb dX2_subtract_24 rfl (lv_at hl 2 rfl) ?_
  refine kw_fmul (M := 1329594368) hx hb dX2_subtract_25 h_12 hh_x (by decide) (by decide) (by decide +kernel) (by decide) (fun z_13 hz_14 => ?_)
  refine kw_satS (M := 1535115264) hx hb dX2_subtract_26 h_10 hz_14 (by decide) (by decide) (by decide +kernel) (fun z_15 hz_16 => ?_)
  refine kp_put (v := .float z_15) (ty := .float) hx hb hts i_X2 tyX2 tyX2_ok nmX2 hown hK hP hD hS hI hh_a rfl rfl 1 (by decide) (by decide) (hts (.fieldLink RX2 13 "IslandSolver$Vec" "y" "F") (by decide +kernel)) (fun _ h9 => h9) rfl (by decide +kernel) rfl rfl rfl (by decide) (kv_F (by decide) hz_16) dX2_subtract_27 (fun f H locs hI hP hD hS => ?_)
  refine lv_aload_n hx hb dX2_subtract_30 rfl (lv_at hl 0 rfl) ?_
  refine lv_aload_n hx hb dX2_subtract_31 rfl (lv_at hl 0 rfl) ?_
  refine kp_get hx hb hts i_X2 hown hK hP hI hh_a rfl rfl 2 (by decide) (by decide) (hts (.fieldLink RX2 16 "IslandSolver$Vec" "z" "F") (by decide +kernel)) (fun _ h9 => h9) dX2_subtract_32 (kq_F (cd := 1535115264) (by decide) fun x_17 h_18 => ?_)
  refine lv_aload_n hx hb dX2_subtract_35 rfl (lv_at hl 1 rfl) ?_
  refine kp_get hx hb hts i_X2 hown hK hP hI hh_b rfl rfl 2 (by decide) (by decide) (hts (.fieldLink RX2 16 "IslandSolver$Vec" "z" "F") (by decide +kernel)) (fun _ h9 => h9) dX2_subtract_36 (kq_F (cd := 1161822208) (by decide) fun x_19 h_20 => ?_)
  refine lv_fload_n hx hb dX2_subtract_39 rfl (lv_at hl 2 rfl) ?_
  refine kw_fmul (M := 1329594368) hx hb dX2_subtract_40 h_20 hh_x (by decide) (by decide) (by decide +kernel) (by decide) (fun z_21 hz_22 => ?_)
  refine kw_satS (M := 1535115264) hx hb dX2_subtract_41 h_18 hz_22 (by decide) (by decide) (by decide +kernel) (fun z_23 hz_24 => ?_)
  refine kp_put (v := .float z_23) (ty := .float) hx hb hts i_X2 tyX2 tyX2_ok nmX2 hown hK hP hD hS hI hh_a rfl rfl 2 (by decide) (by decide) (hts (.fieldLink RX2 16 "IslandSolver$Vec" "z" "F") (by decide +kernel)) (fun _ h9 => h9) rfl (by decide +kernel) rfl rfl rfl (by decide) (kv_F (by decide) hz_24) dX2_subtract_42 (fun f H locs hI hP hD hS => ?_)
  refine W.widen (k := 0) (n := 0) (Nat.le_of_ble_eq_true rfl) (Nat.le_of_ble_eq_true rfl) ?_
  exact W.vret hx hb hr (fun t ht hW9 => ⟨⟨(L, f), rfl, hI, by rw [ht]; exact hP, va_K.moved hW9.alike hK, hD⟩, hS.F ht⟩) hS.2.2 dX2_subtract_45
set_option maxHeartbeats 4000000 in
set_option maxRecDepth 100000 in
theorem k_hold (l : Launch) (dC : Nat → ClassId) (dI : Nat → Nat → Nat) (dA : Nat → ClassId) (ad sz : Nat) (τ : Nat → Nat → Nat) (pv : Nat → Nat → Value) (L : List Nat) (f : Nat → va_E) (hI : kI dA τ pv L f) (A0 B0 : Nat) (x lo hi : UInt32) (hx0 : fb A0 x) (hlo : fb B0 lo) (hhi : fb B0 hi) (hA0 : A0 < 2139095040) (hB0 : B0 < 2139095040) : Met l yX3_hold wsX3_hold ({ frames := 0, cells := 0, slots := 0, locals := 0 } : Room) (va_Pc [.float x, .float lo, .float hi] (kB dC dI dA ad sz L f)) (va_Qf (fun r u => fb B0 r ∧ kI dA τ pv u.1 u.2) (kR dC dI dA (va_A (va_pl L f) sz)) (va_A (va_pl L f) sz)) 0 0 (va_A (va_pl L f) sz) := by
  refine Met.ofW (cc := cX3_hold) (maxL := 3) (ret := (some .float)) (by decide) rfl ?_
  intro p e s m args below meth c s₁ B hml hv
  obtain ⟨rfl, hsz, hP, hK, hD0, hE⟩ := hv
  have hx := B.exec
  have hb := B.bytes
  have hr := B.returns
  have hts := atoms_spec (ws := wsX3_hold) B.pre
  have hown : s.vm.findClass RX3 = some m.cls := findClass_of_methodNamed B.named
  have hlocks := B.notSynchronized
  subst hsz
  have hD := hD0.self (sz := s.heap.size)
  generalize hAe : va_A (va_pl L f) s.heap.size = A at hD hE ⊢
  have hA : ∀ q : Nat, s.heap.size ≤ q → A q := fun q h => by rw [← hAe]; exact Or.inr h
  have hS : va_S A s.heap s.heap [] := va_S.rf
  have hP : va_P (dC, dI) vwCl (va_pl L f) s.heap := hP
  have hK : va_K (dC, dI) vwCl (tyA dA) s := hK
  have hl := lv_entry ([.float x, .float lo, .float hi]) (n := 3) (Nat.le_of_ble_eq_true rfl)
  rw [lg_entry_eq]
  generalize (lg_sl ([.float x, .float lo, .float hi]) ++ List.replicate (3 - (lg_sl ([.float x, .float lo, .float hi])).length) Slot.unset).toArray = ls at hl ⊢
  have hl : lv_has ls 3 [(0, .float x), (1, .float lo), (2, .float hi)] := hl
  refine lv_fload_n hx hb dX3_hold_0 rfl (lv_at hl 0 rfl) ?_
  refine lv_fload_n hx hb dX3_hold_1 rfl (lv_at hl 1 rfl) ?_
  refine lv_fcmp hx hb dX3_hold_2 ?_
  refine lv_if_ge (tgt := 10) hx hb dX3_hold_3 (by decide) (fun c_1 => ?_) (fun c_1 => ?_)
  · refine lv_fload_n hx hb dX3_hold_10 rfl (lv_at hl 0 rfl) ?_
    refine lv_fload_n hx hb dX3_hold_11 rfl (lv_at hl 2 rfl) ?_
    refine lv_fcmp hx hb dX3_hold_12 ?_
    refine lv_if_le (tgt := 20) hx hb dX3_hold_13 (by decide) (fun c_2 => ?_) (fun c_2 => ?_)
    · refine lv_fload_n hx hb dX3_hold_20 rfl (lv_at hl 0 rfl) ?_
      refine W.widen (k := 0) (n := 0) (Nat.le_of_ble_eq_true rfl) (Nat.le_of_ble_eq_true rfl) ?_
      exact W.fret (v := x) hx hb hr (fun t ht hW9 => ⟨⟨x, (L, f), rfl, ⟨kf_hold hx0 hlo hhi hA0 hB0 c_1 c_2, hI⟩, by rw [ht]; exact hP, va_K.moved hW9.alike hK, hD⟩, hS.F ht⟩) hS.2.2 dX3_hold_21
    · refine lv_fload_n hx hb dX3_hold_16 rfl (lv_at hl 2 rfl) ?_
      refine lv_goto (tgt := 21) hx hb dX3_hold_17 (by decide) ?_
      refine W.widen (k := 0) (n := 0) (Nat.le_of_ble_eq_true rfl) (Nat.le_of_ble_eq_true rfl) ?_
      exact W.fret (v := hi) hx hb hr (fun t ht hW9 => ⟨⟨hi, (L, f), rfl, ⟨hhi, hI⟩, by rw [ht]; exact hP, va_K.moved hW9.alike hK, hD⟩, hS.F ht⟩) hS.2.2 dX3_hold_21
  · refine lv_fload_n hx hb dX3_hold_6 rfl (lv_at hl 1 rfl) ?_
    refine lv_goto (tgt := 21) hx hb dX3_hold_7 (by decide) ?_
    refine W.widen (k := 0) (n := 0) (Nat.le_of_ble_eq_true rfl) (Nat.le_of_ble_eq_true rfl) ?_
    exact W.fret (v := lo) hx hb hr (fun t ht hW9 => ⟨⟨lo, (L, f), rfl, ⟨hlo, hI⟩, by rw [ht]; exact hP, va_K.moved hW9.alike hK, hD⟩, hS.F ht⟩) hS.2.2 dX3_hold_21
set_option maxHeartbeats 4000000 in
set_option maxRecDepth 100000 in
theorem k_holdWithin (l : Launch) (dC : Nat → ClassId) (dI : Nat → Nat → Nat) (dA : Nat → ClassId) (ad sz : Nat) (τ : Nat → Nat → Nat) (pv : Nat → Nat → Value) (L : List Nat) (f : Nat → va_E) (hI : kI dA τ pv L f) (a : Nat) (hh_a : τ 0 a = 3) (x : UInt32) (hh_x : fb 1166016512 x) : Met l yX2_holdWithin wsX2_holdWithin ({ frames := 1, cells := 0, slots := 0, locals := 22 } : Room) (va_Pc [.ref a, .float x] (kB dC dI dA ad sz L f)) (va_Qv (fun u => kI dA τ pv u.1 u.2) (kR dC dI dA (va_A (va_pl L f) sz)) (va_A (va_pl L f) sz)) 0 0 (va_A (va_pl L f) sz) := by
  refine Met.ofW (cc := cX2_holdWithin) (maxL := 2) (ret := none) (by decide) rfl ?_
  intro p e s m args below meth c s₁ B hml hv
  obtain ⟨rfl, hsz, hP, hK, hD0, hE⟩ := hv
  have hx := B.exec
  have hb := B.bytes
  have hr := B.returns
  have hts := atoms_spec (ws := wsX2_holdWithin) B.pre
  have hown : s.vm.findClass RX2 = some m.cls := findClass_of_methodNamed B.named
  have hlocks := B.notSynchronized
  have i_X2 : ∀ w ∈ u_ws RX2 TX2 3, w ∈ wsX2_holdWithin := by decide +kernel
  subst hsz
  have hD := hD0.self (sz := s.heap.size)
  generalize hAe : va_A (va_pl L f) s.heap.size = A at hD hE ⊢
  have hA : ∀ q : Nat, s.heap.size ≤ q → A q := fun q h => by rw [← hAe]; exact Or.inr h
  have hS : va_S A s.heap s.heap [] := va_S.rf
  have hP : va_P (dC, dI) vwCl (va_pl L f) s.heap := hP
  have hK : va_K (dC, dI) vwCl (tyA dA) s := hK
  have hl := lv_entry ([.ref a, .float x]) (n := 2) (Nat.le_of_ble_eq_true rfl)
  rw [lg_entry_eq]
  generalize (lg_sl ([.ref a, .float x]) ++ List.replicate (2 - (lg_sl ([.ref a, .float x])).length) Slot.unset).toArray = ls at hl ⊢
  have hl : lv_has ls 2 [(0, .ref a), (1, .float x)] := hl
  refine lv_aload_n hx hb dX2_holdWithin_0 rfl (lv_at hl 0 rfl) ?_
  refine lv_aload_n hx hb dX2_holdWithin_1 rfl (lv_at hl 0 rfl) ?_
  refine kp_get hx hb hts i_X2 hown hK hP hI hh_a rfl rfl 0 (by decide) (by decide) (hts (.fieldLink RX2 7 "IslandSolver$Vec" "x" "F") (by decide +kernel)) (fun _ h9 => h9) dX2_holdWithin_2 (kq_F (cd := 1535115264) (by decide) fun x_1 h_2 => ?_)
  refine lv_fload_n hx hb dX2_holdWithin_5 rfl (lv_at hl 1 rfl) ?_
  refine lv_fneg hx hb dX2_holdWithin_6 ?_
  refine lv_fload_n hx hb dX2_holdWithin_7 rfl (lv_at hl 1 rfl) ?_
  refine kd_callf (va_runSN (host := RX3) (As := [.float x_1, .float (FP.fneg x), .float x]) (rest := [.ref a]) ⟨hx, hb, hml, hown, hts⟩ (k_hold l dC dI dA ad _ τ pv _ _ hI 1535115264 1166016512 x_1 (FP.fneg x) x h_2 (fb_neg hh_x) hh_x (by decide) (by decide)) ⟨va_cnB 3 hts gX2_holdWithin_X3_hold_n19 rfl rfl rfl (hE.nest RX2 19 yX3_hold (by decide +kernel)) (hts (.initialized RX3) (by decide +kernel)) (by decide +kernel) ⟨Nat.le_of_ble_eq_true rfl, Nat.le_of_ble_eq_true rfl⟩, (hts (.static yX3_hold) (by decide +kernel)), trivial⟩ (kd_preS hP hD hK hS hA hE) rfl rfl hl.1 rfl (lv_room (Nat.le_of_ble_eq_true rfl)) dX2_holdWithin_8 ⟨Nat.le_of_ble_eq_true rfl, Nat.le_of_ble_eq_true rfl⟩) hD hS hA (fun r_4 u_3 H locs hw hP hD hS => ?_)
  obtain ⟨hr_4, hI⟩ := hw
  refine kp_put (v := .float r_4) (ty := .float) hx hb hts i_X2 tyX2 tyX2_ok nmX2 hown hK hP hD hS hI hh_a rfl rfl 0 (by decide) (by decide) (hts (.fieldLink RX2 7 "IslandSolver$Vec" "x" "F") (by decide +kernel)) (fun _ h9 => h9) rfl (by decide +kernel) rfl rfl rfl (by decide) (kv_F (by decide) (fb_le hr_4 (by decide))) dX2_holdWithin_11 (fun f H locs hI hP hD hS => ?_)
  refine lv_aload_n hx hb dX2_holdWithin_14 rfl (lv_at hl 0 rfl) ?_
  refine lv_aload_n hx hb dX2_holdWithin_15 rfl (lv_at hl 0 rfl) ?_
  refine kp_get hx hb hts i_X2 hown hK hP hI hh_a rfl rfl 1 (by decide) (by decide) (hts (.fieldLink RX2 13 "IslandSolver$Vec" "y" "F") (by decide +kernel)) (fun _ h9 => h9) dX2_holdWithin_16 (kq_F (cd := 1535115264) (by decide) fun x_5 h_6 => ?_)
  refine lv_fload_n hx hb dX2_holdWithin_19 rfl (lv_at hl 1 rfl) ?_
  refine lv_fneg hx hb dX2_holdWithin_20 ?_
  refine lv_fload_n hx hb dX2_holdWithin_21 rfl (lv_at hl 1 rfl) ?_
  refine kd_callf (va_runSN (host := RX3) (As := [.float x_5, .float (FP.fneg x), .float x]) (rest := [.ref a]) ⟨hx, hb, hml, hown, hts⟩ (k_hold l dC dI dA ad _ τ pv _ _ hI 1535115264 1166016512 x_5 (FP.fneg x) x h_6 (fb_neg hh_x) hh_x (by decide) (by decide)) ⟨va_cnB 3 hts gX2_holdWithin_X3_hold_n19 rfl rfl rfl (hE.nest RX2 19 yX3_hold (by decide +kernel)) (hts (.initialized RX3) (by decide +kernel)) (by decide +kernel) ⟨Nat.le_of_ble_eq_true rfl, Nat.le_of_ble_eq_true rfl⟩, (hts (.static yX3_hold) (by decide +kernel)), trivial⟩ (kd_preS hP hD hK hS hA hE) rfl rfl hl.1 rfl (lv_room (Nat.le_of_ble_eq_true rfl)) dX2_holdWithin_22 ⟨Nat.le_of_ble_eq_true rfl, Nat.le_of_ble_eq_true rfl⟩) hD hS hA (fun r_8 u_7 H locs hw hP hD hS => ?_)
  obtain ⟨hr_8, hI⟩ := hw
  refine kp_put (v := .float r_8) (ty := .float) hx hb hts i_X2 tyX2 tyX2_ok nmX2 hown hK hP hD hS hI hh_a rfl rfl 1 (by decide) (by decide) (hts (.fieldLink RX2 13 "IslandSolver$Vec" "y" "F") (by decide +kernel)) (fun _ h9 => h9) rfl (by decide +kernel) rfl rfl rfl (by decide) (kv_F (by decide) (fb_le hr_8 (by decide))) dX2_holdWithin_25 (fun f H locs hI hP hD hS => ?_)
  refine lv_aload_n hx hb dX2_holdWithin_28 rfl (lv_at hl 0 rfl) ?_
  refine lv_aload_n hx hb dX2_holdWithin_29 rfl (lv_at hl 0 rfl) ?_
  refine kp_get hx hb hts i_X2 hown hK hP hI hh_a rfl rfl 2 (by decide) (by decide) (hts (.fieldLink RX2 16 "IslandSolver$Vec" "z" "F") (by decide +kernel)) (fun _ h9 => h9) dX2_holdWithin_30 (kq_F (cd := 1535115264) (by decide) fun x_9 h_10 => ?_)
  refine lv_fload_n hx hb dX2_holdWithin_33 rfl (lv_at hl 1 rfl) ?_
  refine lv_fneg hx hb dX2_holdWithin_34 ?_
  refine lv_fload_n hx hb dX2_holdWithin_35 rfl (lv_at hl 1 rfl) ?_
  refine kd_callf (va_runSN (host := RX3) (As := [.float x_9, .float (FP.fneg x), .float x]) (rest := [.ref a]) ⟨hx, hb, hml, hown, hts⟩ (k_hold l dC dI dA ad _ τ pv _ _ hI 1535115264 1166016512 x_9 (FP.fneg x) x h_10 (fb_neg hh_x) hh_x (by decide) (by decide)) ⟨va_cnB 3 hts gX2_holdWithin_X3_hold_n19 rfl rfl rfl (hE.nest RX2 19 yX3_hold (by decide +kernel)) (hts (.initialized RX3) (by decide +kernel)) (by decide +kernel) ⟨Nat.le_of_ble_eq_true rfl, Nat.le_of_ble_eq_true rfl⟩, (hts (.static yX3_hold) (by decide +kernel)), trivial⟩ (kd_preS hP hD hK hS hA hE) rfl rfl hl.1 rfl (lv_room (Nat.le_of_ble_eq_true rfl)) dX2_holdWithin_36 ⟨Nat.le_of_ble_eq_true rfl, Nat.le_of_ble_eq_true rfl⟩) hD hS hA (fun r_12 u_11 H locs hw hP hD hS => ?_)
  obtain ⟨hr_12, hI⟩ := hw
  refine kp_put (v := .float r_12) (ty := .float) hx hb hts i_X2 tyX2 tyX2_ok nmX2 hown hK hP hD hS hI hh_a rfl rfl 2 (by decide) (by decide) (hts (.fieldLink RX2 16 "IslandSolver$Vec" "z" "F") (by decide +kernel)) (fun _ h9 => h9) rfl (by decide +kernel) rfl rfl rfl (by decide) (kv_F (by decide) (fb_le hr_12 (by decide))) dX2_holdWithin_39 (fun f H locs hI hP hD hS => ?_)
  refine W.widen (k := 0) (n := 0) (Nat.le_of_ble_eq_true rfl) (Nat.le_of_ble_eq_true rfl) ?_
  exact W.vret hx hb hr (fun t ht hW9 => ⟨⟨(u_11.1, f), rfl, hI, by rw [ht]; exact hP, va_K.moved hW9.alike hK, hD⟩, hS.F ht⟩) hS.2.2 dX2_holdWithin_42
