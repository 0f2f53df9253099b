set_option maxHeartbeats 4000000 in
set_option maxRecDepth 100000 in
theorem k_enterBodies (l : Launch) (dC : Nat → ClassId) (dI : Nat → Nat → Nat) (dA : Nat → ClassId) (ad sz : Nat) (τ : Nat → Nat → Nat) (pv : Nat → Nat → Value) (L : List Nat) (f : Nat → va_E) (hI : kI dA τ pv L f) (a : Nat) (hh_a : τ 0 a = 2) : Met l yX1_enterBodies wsX1_enterBodies ({ frames := 2, cells := 0, slots := 0, locals := 44 } : Room) (va_Pc [.ref a] (kB dC dI dA ad sz L f)) (va_Qv (fun u => kI dA τ pv u.1 u.2) (kR dC dI dA (va_A (va_pl L f) sz)) (va_A (va_pl L f) sz)) 0 0 (va_A (va_pl L f) sz) := by
  refine Met.ofW (cc := cX1_enterBodies) (maxL := 1) (ret := none) (by decide) rfl ?_
  intro p e s m args below meth c s₁ B hml hv
  obtain ⟨rfl, hsz, hP, hK, hD0, hE⟩ := hv
  have hx := B.exec
  have hb := B.bytes
  have hr := B.returns
  have hts := atoms_spec (ws := wsX1_enterBodies) B.pre
  have hown : s.vm.findClass RX1 = some m.cls := findClass_of_methodNamed B.named
  have hlocks := B.notSynchronized
  have i_X1 : ∀ w ∈ u_ws RX1 TX1 18, w ∈ wsX1_enterBodies := by decide +kernel
  have i_X0 : ∀ w ∈ u_ws RX0 TX0 16, w ∈ wsX1_enterBodies := by decide +kernel
  subst hsz
  have hD := hD0.self (sz := s.heap.size)
  generalize hAe : va_A (va_pl L f) s.heap.size = A at hD hE ⊢
  have hA : ∀ q : Nat, s.heap.size ≤ q → A q := fun q h => by rw [← hAe]; exact Or.inr h
  have hS : va_S A s.heap s.heap [] := va_S.rf
  have hP : va_P (dC, dI) vwCl (va_pl L f) s.heap := hP
  have hK : va_K (dC, dI) vwCl (tyA dA) s := hK
  have hl := lv_entry ([.ref a]) (n := 1) (Nat.le_of_ble_eq_true rfl)
  rw [lg_entry_eq]
  generalize (lg_sl ([.ref a]) ++ List.replicate (1 - (lg_sl ([.ref a])).length) Slot.unset).toArray = ls at hl ⊢
  have hl : lv_has ls 1 [(0, .ref a)] := hl
  refine lv_aload_n hx hb dX1_enterBodies_0 rfl (lv_at hl 0 rfl) ?_
  refine kp_get hx hb hts i_X1 hown hK hP hI hh_a rfl rfl 0 (by decide) (by decide) (hts (.fieldLink RX1 30 "IslandSolver$Row" "a" "LIslandSolver$Body;") (by decide +kernel)) (fun _ h9 => h9) dX1_enterBodies_1 (kq_C (by decide) fun x_1 h_2 => ?_)
  obtain ⟨rfl, h_2⟩ := h_2
  refine lv_dup hx hb dX1_enterBodies_4 rfl ?_
  refine kp_get hx hb hts i_X0 hown hK hP hI h_2 rfl rfl 13 (by decide) (by decide) (hts (.fieldLink RX1 51 "IslandSolver$Body" "rowCount" "I") (by decide +kernel)) (fun _ h9 => h9) dX1_enterBodies_5 (kq_I fun x_3 => ?_)
  refine lv_iconst (v := 1) hx hb dX1_enterBodies_8 (by decide) ?_
  refine lv_iadd hx hb dX1_enterBodies_9 ?_
  refine lv_topi (fun x_5 ex_5 => ?_)
  refine kp_put (v := .int x_5) (ty := .int) hx hb hts i_X0 tyX0 tyX0_ok nmX0 hown hK hP hD hS hI h_2 rfl rfl 13 (by decide) (by decide) (hts (.fieldLink RX1 51 "IslandSolver$Body" "rowCount" "I") (by decide +kernel)) (fun _ h9 => h9) rfl (by decide +kernel) rfl rfl rfl (by decide) (kv_I _) dX1_enterBodies_10 (fun f H locs hI hP hD hS => ?_)
  refine lv_aload_n hx hb dX1_enterBodies_13 rfl (lv_at hl 0 rfl) ?_
  refine kp_get hx hb hts i_X1 hown hK hP hI hh_a rfl rfl 1 (by decide) (by decide) (hts (.fieldLink RX1 34 "IslandSolver$Row" "b" "LIslandSolver$Body;") (by decide +kernel)) (fun _ h9 => h9) dX1_enterBodies_14 (kq_54 (fun hq_9 => ?_) (fun q_8 hq_9 ht_10 => ?_))
  · refine lv_ifnonnullN hx hb dX1_enterBodies_17 ?_
    refine W.widen (k := 0) (n := 0) (Nat.le_of_ble_eq_true rfl) (Nat.le_of_ble_eq_true rfl) ?_
    exact W.vret hx hb hr (fun t ht hW9 => ⟨⟨(L, f), rfl, hI, by rw [ht]; exact hP, va_K.moved hW9.alike hK, hD⟩, hS.F ht⟩) hS.2.2 dX1_enterBodies_20
  · refine lv_ifnonnull (tgt := 21) hx hb dX1_enterBodies_17 (by decide) ?_
    refine lv_aload_n hx hb dX1_enterBodies_21 rfl (lv_at hl 0 rfl) ?_
    refine kp_get hx hb hts i_X1 hown hK hP hI hh_a rfl rfl 1 (by decide) (by decide) (hts (.fieldLink RX1 34 "IslandSolver$Row" "b" "LIslandSolver$Body;") (by decide +kernel)) (fun _ h9 => h9) dX1_enterBodies_22 (kq_54s hq_9 fun h_12 => ?_)
    refine lv_dup hx hb dX1_enterBodies_25 rfl ?_
    refine kp_get hx hb hts i_X0 hown hK hP hI h_12 rfl rfl 13 (by decide) (by decide) (hts (.fieldLink RX1 51 "IslandSolver$Body" "rowCount" "I") (by decide +kernel)) (fun _ h9 => h9) dX1_enterBodies_26 (kq_I fun x_13 => ?_)
    refine lv_iconst (v := 1) hx hb dX1_enterBodies_29 (by decide) ?_
    refine lv_iadd hx hb dX1_enterBodies_30 ?_
    refine lv_topi (fun x_15 ex_15 => ?_)
    refine kp_put (v := .int x_15) (ty := .int) hx hb hts i_X0 tyX0 tyX0_ok nmX0 hown hK hP hD hS hI h_12 rfl rfl 13 (by decide) (by decide) (hts (.fieldLink RX1 51 "IslandSolver$Body" "rowCount" "I") (by decide +kernel)) (fun _ h9 => h9) rfl (by decide +kernel) rfl rfl rfl (by decide) (kv_I _) dX1_enterBodies_31 (fun f H locs hI hP hD hS => ?_)
    refine lv_aload_n hx hb dX1_enterBodies_34 rfl (lv_at hl 0 rfl) ?_
    refine kp_get hx hb hts i_X1 hown hK hP hI hh_a rfl rfl 0 (by decide) (by decide) (hts (.fieldLink RX1 30 "IslandSolver$Row" "a" "LIslandSolver$Body;") (by decide +kernel)) (fun _ h9 => h9) dX1_enterBodies_35 (kq_C (by decide) fun x_16 h_17 => ?_)
    obtain ⟨rfl, h_17⟩ := h_17
    refine kp_get hx hb hts i_X0 hown hK hP hI h_17 rfl rfl 1 (by decide) (by decide) (hts (.fieldLink RX1 57 "IslandSolver$Body" "movable" "Z") (by decide +kernel)) (fun _ h9 => h9) dX1_enterBodies_38 (kq_51 fun h_19 => ?_)
    refine lv_if_eq (tgt := 65) hx hb dX1_enterBodies_41 (by decide) (fun c_20 => ?_) (fun c_20 => ?_)
    · have n_21 : (τ 4 (τ 5 a)) = 0 := (nI_eq (by omega) (by omega)).mp (show nI (τ 4 (τ 5 a)) = nI 0 from c_20)
      refine W.widen (k := 0) (n := 0) (Nat.le_of_ble_eq_true rfl) (Nat.le_of_ble_eq_true rfl) ?_
      exact W.vret hx hb hr (fun t ht hW9 => ⟨⟨(L, f), rfl, hI, by rw [ht]; exact hP, va_K.moved hW9.alike hK, hD⟩, hS.F ht⟩) hS.2.2 dX1_enterBodies_65
    · have n_22 : ¬ (τ 4 (τ 5 a)) = 0 := fun h9 => (show ¬ nI (τ 4 (τ 5 a)) = nI 0 from c_20) ((nI_eq (by omega) (by omega)).mpr h9)
      refine lv_aload_n hx hb dX1_enterBodies_44 rfl (lv_at hl 0 rfl) ?_
      refine kp_get hx hb hts i_X1 hown hK hP hI hh_a rfl rfl 1 (by decide) (by decide) (hts (.fieldLink RX1 34 "IslandSolver$Row" "b" "LIslandSolver$Body;") (by decide +kernel)) (fun _ h9 => h9) dX1_enterBodies_45 (kq_54s hq_9 fun h_24 => ?_)
      refine kp_get hx hb hts i_X0 hown hK hP hI h_24 rfl rfl 1 (by decide) (by decide) (hts (.fieldLink RX1 57 "IslandSolver$Body" "movable" "Z") (by decide +kernel)) (fun _ h9 => h9) dX1_enterBodies_48 (kq_51 fun h_26 => ?_)
      refine lv_if_eq (tgt := 65) hx hb dX1_enterBodies_51 (by decide) (fun c_27 => ?_) (fun c_27 => ?_)
      · have n_28 : (τ 4 q_8) = 0 := (nI_eq (by omega) (by omega)).mp (show nI (τ 4 q_8) = nI 0 from c_27)
        refine W.widen (k := 0) (n := 0) (Nat.le_of_ble_eq_true rfl) (Nat.le_of_ble_eq_true rfl) ?_
        exact W.vret hx hb hr (fun t ht hW9 => ⟨⟨(L, f), rfl, hI, by rw [ht]; exact hP, va_K.moved hW9.alike hK, hD⟩, hS.F ht⟩) hS.2.2 dX1_enterBodies_65
      · have n_29 : ¬ (τ 4 q_8) = 0 := fun h9 => (show ¬ nI (τ 4 q_8) = nI 0 from c_27) ((nI_eq (by omega) (by omega)).mpr h9)
        refine lv_aload_n hx hb dX1_enterBodies_54 rfl (lv_at hl 0 rfl) ?_
        refine kp_get hx hb hts i_X1 hown hK hP hI hh_a rfl rfl 0 (by decide) (by decide) (hts (.fieldLink RX1 30 "IslandSolver$Row" "a" "LIslandSolver$Body;") (by decide +kernel)) (fun _ h9 => h9) dX1_enterBodies_55 (kq_C (by decide) fun x_30 h_31 => ?_)
        obtain ⟨rfl, h_31⟩ := h_31
        refine lv_aload_n hx hb dX1_enterBodies_58 rfl (lv_at hl 0 rfl) ?_
        refine kp_get hx hb hts i_X1 hown hK hP hI hh_a rfl rfl 1 (by decide) (by decide) (hts (.fieldLink RX1 34 "IslandSolver$Row" "b" "LIslandSolver$Body;") (by decide +kernel)) (fun _ h9 => h9) dX1_enterBodies_59 (kq_54s hq_9 fun h_33 => ?_)
        refine kd_callv (va_runV (As := [.ref q_8]) (rest := []) ⟨hx, hb, hml, hown, hts⟩ (k_join l dC dI dA ad _ τ pv _ _ hI (τ 5 a) h_31 q_8 h_33) (cwV 1 hts gX1_enterBodies_X0_join rfl rfl rfl (by decide +kernel) ⟨Nat.le_of_ble_eq_true rfl, Nat.le_of_ble_eq_true rfl⟩) (kd_preV hP hD hK hS hA hE hI h_31 rfl rfl) rfl rfl hl.1 rfl (lv_room (Nat.le_of_ble_eq_true rfl)) dX1_enterBodies_62 ⟨Nat.le_of_ble_eq_true rfl, Nat.le_of_ble_eq_true rfl⟩) hD hS hA (fun u_34 H locs hw hP hD hS => ?_)
        have hI := hw
        refine W.widen (k := 0) (n := 0) (Nat.le_of_ble_eq_true rfl) (Nat.le_of_ble_eq_true rfl) ?_
        exact W.vret hx hb hr (fun t ht hW9 => ⟨⟨(u_34.1, u_34.2), rfl, hI, by rw [ht]; exact hP, va_K.moved hW9.alike hK, hD⟩, hS.F ht⟩) hS.2.2 dX1_enterBodies_65
set_option maxHeartbeats 4000000 in
set_option maxRecDepth 100000 in
theorem k_rowIsland (l : Launch) (dC : Nat → ClassId) (dI : Nat → Nat → Nat) (dA : Nat → ClassId) (ad sz : Nat) (τ : Nat → Nat → Nat) (pv : Nat → Nat → Value) (L : List Nat) (f : Nat → va_E) (hI : kI dA τ pv L f) (a : Nat) (hh_a : τ 0 a = 2) : Met l yX1_island wsX1_island ({ frames := 0, cells := 0, slots := 0, locals := 0 } : Room) (va_Pc [.ref a] (kB dC dI dA ad sz L f)) (va_Qi (fun r u => kI dA τ pv u.1 u.2) (kR dC dI dA (va_A (va_pl L f) sz)) (va_A (va_pl L f) sz)) 0 0 (va_A (va_pl L f) sz) := by
  refine Met.ofW (cc := cX1_island) (maxL := 1) (ret := (some .int)) (by decide) rfl ?_
  intro p e s m args below meth c s₁ B hml hv
  obtain ⟨rfl, hsz, hP, hK, hD0, hE⟩ := hv
  have hx := B.exec
  have hb := B.bytes
  have hr := B.returns
  have hts := atoms_spec (ws := wsX1_island) B.pre
  have hown : s.vm.findClass RX1 = some m.cls := findClass_of_methodNamed B.named
  have hlocks := B.notSynchronized
  have i_X1 : ∀ w ∈ u_ws RX1 TX1 18, w ∈ wsX1_island := by decide +kernel
  have i_X0 : ∀ w ∈ u_ws RX0 TX0 16, w ∈ wsX1_island := by decide +kernel
  subst hsz
  have hD := hD0.self (sz := s.heap.size)
  generalize hAe : va_A (va_pl L f) s.heap.size = A at hD hE ⊢
  have hA : ∀ q : Nat, s.heap.size ≤ q → A q := fun q h => by rw [← hAe]; exact Or.inr h
  have hS : va_S A s.heap s.heap [] := va_S.rf
  have hP : va_P (dC, dI) vwCl (va_pl L f) s.heap := hP
  have hK : va_K (dC, dI) vwCl (tyA dA) s := hK
  have hl := lv_entry ([.ref a]) (n := 1) (Nat.le_of_ble_eq_true rfl)
  rw [lg_entry_eq]
  generalize (lg_sl ([.ref a]) ++ List.replicate (1 - (lg_sl ([.ref a])).length) Slot.unset).toArray = ls at hl ⊢
  have hl : lv_has ls 1 [(0, .ref a)] := hl
  refine lv_aload_n hx hb dX1_island_0 rfl (lv_at hl 0 rfl) ?_
  refine kp_get hx hb hts i_X1 hown hK hP hI hh_a rfl rfl 0 (by decide) (by decide) (hts (.fieldLink RX1 30 "IslandSolver$Row" "a" "LIslandSolver$Body;") (by decide +kernel)) (fun _ h9 => h9) dX1_island_1 (kq_C (by decide) fun x_1 h_2 => ?_)
  obtain ⟨rfl, h_2⟩ := h_2
  refine kp_get hx hb hts i_X0 hown hK hP hI h_2 rfl rfl 1 (by decide) (by decide) (hts (.fieldLink RX1 57 "IslandSolver$Body" "movable" "Z") (by decide +kernel)) (fun _ h9 => h9) dX1_island_4 (kq_51 fun h_4 => ?_)
  refine lv_if_eq (tgt := 18) hx hb dX1_island_7 (by decide) (fun c_5 => ?_) (fun c_5 => ?_)
  · have n_6 : (τ 4 (τ 5 a)) = 0 := (nI_eq (by omega) (by omega)).mp (show nI (τ 4 (τ 5 a)) = nI 0 from c_5)
    refine lv_aload_n hx hb dX1_island_18 rfl (lv_at hl 0 rfl) ?_
    refine kp_get hx hb hts i_X1 hown hK hP hI hh_a rfl rfl 1 (by decide) (by decide) (hts (.fieldLink RX1 34 "IslandSolver$Row" "b" "LIslandSolver$Body;") (by decide +kernel)) (fun _ h9 => h9) dX1_island_19 (kq_54 (fun hq_10 => ?_) (fun q_9 hq_10 ht_11 => ?_))
    · refine lv_ifnullN (tgt := 45) hx hb dX1_island_22 (by decide) ?_
      refine lv_iconst (v := (-1)) hx hb dX1_island_45 (by decide) ?_
      refine W.widen (k := 0) (n := 0) (Nat.le_of_ble_eq_true rfl) (Nat.le_of_ble_eq_true rfl) ?_
      exact W.iret (v := (-1)) hx hb hr (fun t ht hW9 => ⟨⟨(-1), (L, f), rfl, hI, by rw [ht]; exact hP, va_K.moved hW9.alike hK, hD⟩, hS.F ht⟩) hS.2.2 dX1_island_46
    · refine lv_ifnull hx hb dX1_island_22 ?_
      refine lv_aload_n hx hb dX1_island_25 rfl (lv_at hl 0 rfl) ?_
      refine kp_get hx hb hts i_X1 hown hK hP hI hh_a rfl rfl 1 (by decide) (by decide) (hts (.fieldLink RX1 34 "IslandSolver$Row" "b" "LIslandSolver$Body;") (by decide +kernel)) (fun _ h9 => h9) dX1_island_26 (kq_54s hq_10 fun h_13 => ?_)
      refine kp_get hx hb hts i_X0 hown hK hP hI h_13 rfl rfl 1 (by decide) (by decide) (hts (.fieldLink RX1 57 "IslandSolver$Body" "movable" "Z") (by decide +kernel)) (fun _ h9 => h9) dX1_island_29 (kq_51 fun h_15 => ?_)
      refine lv_if_eq (tgt := 45) hx hb dX1_island_32 (by decide) (fun c_16 => ?_) (fun c_16 => ?_)
      · have n_17 : (τ 4 q_9) = 0 := (nI_eq (by omega) (by omega)).mp (show nI (τ 4 q_9) = nI 0 from c_16)
        refine lv_iconst (v := (-1)) hx hb dX1_island_45 (by decide) ?_
        refine W.widen (k := 0) (n := 0) (Nat.le_of_ble_eq_true rfl) (Nat.le_of_ble_eq_true rfl) ?_
        exact W.iret (v := (-1)) hx hb hr (fun t ht hW9 => ⟨⟨(-1), (L, f), rfl, hI, by rw [ht]; exact hP, va_K.moved hW9.alike hK, hD⟩, hS.F ht⟩) hS.2.2 dX1_island_46
      · have n_18 : ¬ (τ 4 q_9) = 0 := fun h9 => (show ¬ nI (τ 4 q_9) = nI 0 from c_16) ((nI_eq (by omega) (by omega)).mpr h9)
        refine lv_aload_n hx hb dX1_island_35 rfl (lv_at hl 0 rfl) ?_
        refine kp_get hx hb hts i_X1 hown hK hP hI hh_a rfl rfl 1 (by decide) (by decide) (hts (.fieldLink RX1 34 "IslandSolver$Row" "b" "LIslandSolver$Body;") (by decide +kernel)) (fun _ h9 => h9) dX1_island_36 (kq_54s hq_10 fun h_20 => ?_)
        refine kp_get hx hb hts i_X0 hown hK hP hI h_20 rfl rfl 14 (by decide) (by decide) (hts (.fieldLink RX1 65 "IslandSolver$Body" "island" "I") (by decide +kernel)) (fun _ h9 => h9) dX1_island_39 (kq_L0 rfl fun x_21 w_23 => ?_)
        refine lv_goto (tgt := 46) hx hb dX1_island_42 (by decide) ?_
        refine W.widen (k := 0) (n := 0) (Nat.le_of_ble_eq_true rfl) (Nat.le_of_ble_eq_true rfl) ?_
        exact W.iret (v := x_21) hx hb hr (fun t ht hW9 => ⟨⟨x_21, (L, f), rfl, hI, by rw [ht]; exact hP, va_K.moved hW9.alike hK, hD⟩, hS.F ht⟩) hS.2.2 dX1_island_46
  · have n_24 : ¬ (τ 4 (τ 5 a)) = 0 := fun h9 => (show ¬ nI (τ 4 (τ 5 a)) = nI 0 from c_5) ((nI_eq (by omega) (by omega)).mpr h9)
    refine lv_aload_n hx hb dX1_island_10 rfl (lv_at hl 0 rfl) ?_
    refine kp_get hx hb hts i_X1 hown hK hP hI hh_a rfl rfl 0 (by decide) (by decide) (hts (.fieldLink RX1 30 "IslandSolver$Row" "a" "LIslandSolver$Body;") (by decide +kernel)) (fun _ h9 => h9) dX1_island_11 (kq_C (by decide) fun x_25 h_26 => ?_)
    obtain ⟨rfl, h_26⟩ := h_26
    refine kp_get hx hb hts i_X0 hown hK hP hI h_26 rfl rfl 14 (by decide) (by decide) (hts (.fieldLink RX1 65 "IslandSolver$Body" "island" "I") (by decide +kernel)) (fun _ h9 => h9) dX1_island_14 (kq_L0 rfl fun x_27 w_29 => ?_)
    refine W.widen (k := 0) (n := 0) (Nat.le_of_ble_eq_true rfl) (Nat.le_of_ble_eq_true rfl) ?_
    exact W.iret (v := x_27) hx hb hr (fun t ht hW9 => ⟨⟨x_27, (L, f), rfl, hI, by rw [ht]; exact hP, va_K.moved hW9.alike hK, hD⟩, hS.F ht⟩) hS.2.2 dX1_island_17
set_option maxHeartbeats 4000000 in
set_option maxRecDepth 100000 in
theorem k_speed (l : Launch) (dC : Nat → ClassId) (dI : Nat → Nat → Nat) (dA : Nat → ClassId) (ad sz : Nat) (τ : Nat → Nat → Nat) (pv : Nat → Nat → Value) (L : List Nat) (f : Nat → va_E) (hI : kI dA τ pv L f) (a : Nat) (hh_a : τ 0 a = 2) : Met l yX1_speed wsX1_speed ({ frames := 1, cells := 0, slots := 0, locals := 21 } : Room) (va_Pc [.ref a] (kB dC dI dA ad sz L f)) (va_Qf (fun r u => fb 1614807040 r ∧ kI dA τ pv u.1 u.2) (kR dC dI dA (va_A (va_pl L f) sz)) (va_A (va_pl L f) sz)) 0 0 (va_A (va_pl L f) sz) := by
  refine Met.ofW (cc := cX1_speed) (maxL := 3) (ret := (some .float)) (by decide) rfl ?_
  intro p e s m args below meth c s₁ B hml hv
  obtain ⟨rfl, hsz, hP, hK, hD0, hE⟩ := hv
  have hx := B.exec
  have hb := B.bytes
  have hr := B.returns
  have hts := atoms_spec (ws := wsX1_speed) B.pre
  have hown : s.vm.findClass RX1 = some m.cls := findClass_of_methodNamed B.named
  have hlocks := B.notSynchronized
  have i_X1 : ∀ w ∈ u_ws RX1 TX1 18, w ∈ wsX1_speed := by decide +kernel
  have i_X0 : ∀ w ∈ u_ws RX0 TX0 16, w ∈ wsX1_speed := by decide +kernel
  subst hsz
  have hD := hD0.self (sz := s.heap.size)
  generalize hAe : va_A (va_pl L f) s.heap.size = A at hD hE ⊢
  have hA : ∀ q : Nat, s.heap.size ≤ q → A q := fun q h => by rw [← hAe]; exact Or.inr h
  have hS : va_S A s.heap s.heap [] := va_S.rf
  have hP : va_P (dC, dI) vwCl (va_pl L f) s.heap := hP
  have hK : va_K (dC, dI) vwCl (tyA dA) s := hK
  have hl := lv_entry ([.ref a]) (n := 3) (Nat.le_of_ble_eq_true rfl)
  rw [lg_entry_eq]
  generalize (lg_sl ([.ref a]) ++ List.replicate (3 - (lg_sl ([.ref a])).length) Slot.unset).toArray = ls at hl ⊢
  have hl : lv_has ls 3 [(0, .ref a)] := hl
  refine lv_aload_n hx hb dX1_speed_0 rfl (lv_at hl 0 rfl) ?_
  refine kp_get hx hb hts i_X1 hown hK hP hI hh_a rfl rfl 1 (by decide) (by decide) (hts (.fieldLink RX1 34 "IslandSolver$Row" "b" "LIslandSolver$Body;") (by decide +kernel)) (fun _ h9 => h9) dX1_speed_1 (kq_54 (fun hq_4 => ?_) (fun q_3 hq_4 ht_5 => ?_))
  · refine lv_ifnonnullN hx hb dX1_speed_4 ?_
    refine lv_fconst0 hx hb dX1_speed_7 ?_
    refine lv_goto (tgt := 25) hx hb dX1_speed_8 (by decide) ?_
    refine lv_fstore_n (lv' := [(1, .float FP.fconst0), (0, .ref a)]) hx hb dX1_speed_25 rfl hl (by decide) rfl (fun ls hl => ?_)
    refine lv_aload_n hx hb dX1_speed_26 rfl (lv_at hl 1 rfl) ?_
    refine kp_get hx hb hts i_X1 hown hK hP hI hh_a rfl rfl 1 (by decide) (by decide) (hts (.fieldLink RX1 34 "IslandSolver$Row" "b" "LIslandSolver$Body;") (by decide +kernel)) (fun _ h9 => h9) dX1_speed_27 (kq_54n hq_4 ?_)
    refine lv_ifnonnullN hx hb dX1_speed_30 ?_
    refine lv_fconst0 hx hb dX1_speed_33 ?_
    refine lv_goto (tgt := 51) hx hb dX1_speed_34 (by decide) ?_
    refine lv_fstore_n (lv' := [(2, .float FP.fconst0), (1, .float FP.fconst0), (0, .ref a)]) hx hb dX1_speed_51 rfl hl (by decide) rfl (fun ls hl => ?_)
    refine lv_aload_n hx hb dX1_speed_52 rfl (lv_at hl 2 rfl) ?_
    refine kp_get hx hb hts i_X1 hown hK hP hI hh_a rfl rfl 2 (by decide) (by decide) (hts (.fieldLink RX1 12 "IslandSolver$Row" "n" "LIslandSolver$Vec;") (by decide +kernel)) (fun _ h9 => h9) dX1_speed_53 (kq_R 4 (by decide) fun x_8 h_9 => ?_)
    refine lv_aload_n hx hb dX1_speed_56 rfl (lv_at hl 2 rfl) ?_
    refine kp_get hx hb hts i_X1 hown hK hP hI hh_a rfl rfl 0 (by decide) (by decide) (hts (.fieldLink RX1 30 "IslandSolver$Row" "a" "LIslandSolver$Body;") (by decide +kernel)) (fun _ h9 => h9) dX1_speed_57 (kq_C (by decide) fun x_10 h_11 => ?_)
    obtain ⟨rfl, h_11⟩ := h_11
    refine kp_get hx hb hts i_X0 hown hK hP hI h_11 rfl rfl 9 (by decide) (by decide) (hts (.fieldLink RX1 68 "IslandSolver$Body" "v" "LIslandSolver$Vec;") (by decide +kernel)) (fun _ h9 => h9) dX1_speed_60 (kq_R 3 (by decide) fun x_12 h_13 => ?_)
    refine kd_callf (va_runV (As := [.ref x_12]) (rest := []) ⟨hx, hb, hml, hown, hts⟩ (k_dot43 l dC dI dA ad _ τ pv _ _ hI x_8 h_9 x_12 h_13) (cwV 1 hts gX1_speed_X2_dot rfl rfl rfl (by decide +kernel) ⟨Nat.le_of_ble_eq_true rfl, Nat.le_of_ble_eq_true rfl⟩) (kd_preV hP hD hK hS hA hE hI h_9 rfl rfl) rfl rfl hl.1 rfl (lv_room (Nat.le_of_ble_eq_true rfl)) dX1_speed_63 ⟨Nat.le_of_ble_eq_true rfl, Nat.le_of_ble_eq_true rfl⟩) hD hS hA (fun r_15 u_14 H locs hw hP hD hS => ?_)
    obtain ⟨hr_15, hI⟩ := hw
    refine lv_aload_n hx hb dX1_speed_66 rfl (lv_at hl 2 rfl) ?_
    refine kp_get hx hb hts i_X1 hown hK hP hI hh_a rfl rfl 3 (by decide) (by decide) (hts (.fieldLink RX1 18 "IslandSolver$Row" "p" "LIslandSolver$Vec;") (by decide +kernel)) (fun _ h9 => h9) dX1_speed_67 (kq_R 4 (by decide) fun x_16 h_17 => ?_)
    refine lv_aload_n hx hb dX1_speed_70 rfl (lv_at hl 2 rfl) ?_
    refine kp_get hx hb hts i_X1 hown hK hP hI hh_a rfl rfl 0 (by decide) (by decide) (hts (.fieldLink RX1 30 "IslandSolver$Row" "a" "LIslandSolver$Body;") (by decide +kernel)) (fun _ h9 => h9) dX1_speed_71 (kq_C (by decide) fun x_18 h_19 => ?_)
    obtain ⟨rfl, h_19⟩ := h_19
    refine kp_get hx hb hts i_X0 hown hK hP hI h_19 rfl rfl 10 (by decide) (by decide) (hts (.fieldLink RX1 75 "IslandSolver$Body" "s" "LIslandSolver$Vec;") (by decide +kernel)) (fun _ h9 => h9) dX1_speed_74 (kq_R 3 (by decide) fun x_20 h_21 => ?_)
    refine kd_callf (va_runV (As := [.ref x_20]) (rest := [.float r_15]) ⟨hx, hb, hml, hown, hts⟩ (k_dot43 l dC dI dA ad _ τ pv _ _ hI x_16 h_17 x_20 h_21) (cwV 1 hts gX1_speed_X2_dot rfl rfl rfl (by decide +kernel) ⟨Nat.le_of_ble_eq_true rfl, Nat.le_of_ble_eq_true rfl⟩) (kd_preV hP hD hK hS hA hE hI h_17 rfl rfl) rfl rfl hl.1 rfl (lv_room (Nat.le_of_ble_eq_true rfl)) dX1_speed_77 ⟨Nat.le_of_ble_eq_true rfl, Nat.le_of_ble_eq_true rfl⟩) hD hS hA (fun r_23 u_22 H locs hw hP hD hS => ?_)
    obtain ⟨hr_23, hI⟩ := hw
    refine kw_fadd (M := 1606418432) hx hb dX1_speed_80 hr_15 hr_23 (by decide) (by decide) (by decide +kernel) (by decide) (fun z_24 hz_25 => ?_)
    refine lv_fload_n hx hb dX1_speed_81 rfl (lv_at hl 1 rfl) ?_
    refine kw_fsub (M := 1606418432) hx hb dX1_speed_82 hz_25 kc_0 (by decide) (by decide) (by decide +kernel) (by decide) (fun z_26 hz_27 => ?_)
    refine lv_fload_n hx hb dX1_speed_83 rfl (lv_at hl 0 rfl) ?_
    refine kw_fsub (M := 1606418432) hx hb dX1_speed_84 hz_27 kc_0 (by decide) (by decide) (by decide +kernel) (by decide) (fun z_28 hz_29 => ?_)
    refine W.widen (k := 0) (n := 0) (Nat.le_of_ble_eq_true rfl) (Nat.le_of_ble_eq_true rfl) ?_
    exact W.fret (v := z_28) hx hb hr (fun t ht hW9 => ⟨⟨z_28, (u_22.1, u_22.2), rfl, ⟨(fb_le hz_29 (by decide)), hI⟩, by rw [ht]; exact hP, va_K.moved hW9.alike hK, hD⟩, hS.F ht⟩) hS.2.2 dX1_speed_85
  · refine lv_ifnonnull (tgt := 11) hx hb dX1_speed_4 (by decide) ?_
    refine lv_aload_n hx hb dX1_speed_11 rfl (lv_at hl 0 rfl) ?_
    refine kp_get hx hb hts i_X1 hown hK hP hI hh_a rfl rfl 2 (by decide) (by decide) (hts (.fieldLink RX1 12 "IslandSolver$Row" "n" "LIslandSolver$Vec;") (by decide +kernel)) (fun _ h9 => h9) dX1_speed_12 (kq_R 4 (by decide) fun x_30 h_31 => ?_)
    refine lv_aload_n hx hb dX1_speed_15 rfl (lv_at hl 0 rfl) ?_
    refine kp_get hx hb hts i_X1 hown hK hP hI hh_a rfl rfl 1 (by decide) (by decide) (hts (.fieldLink RX1 34 "IslandSolver$Row" "b" "LIslandSolver$Body;") (by decide +kernel)) (fun _ h9 => h9) dX1_speed_16 (kq_54s hq_4 fun h_33 => ?_)
    refine kp_get hx hb hts i_X0 hown hK hP hI h_33 rfl rfl 9 (by decide) (by decide) (hts (.fieldLink RX1 68 "IslandSolver$Body" "v" "LIslandSolver$Vec;") (by decide +kernel)) (fun _ h9 => h9) dX1_speed_19 (kq_R 3 (by decide) fun x_34 h_35 => ?_)
    refine kd_callf (va_runV (As := [.ref x_34]) (rest := []) ⟨hx, hb, hml, hown, hts⟩ (k_dot43 l dC dI dA ad _ τ pv _ _ hI x_30 h_31 x_34 h_35) (cwV 1 hts gX1_speed_X2_dot rfl rfl rfl (by decide +kernel) ⟨Nat.le_of_ble_eq_true rfl, Nat.le_of_ble_eq_true rfl⟩) (kd_preV hP hD hK hS hA hE hI h_31 rfl rfl) rfl rfl hl.1 rfl (lv_room (Nat.le_of_ble_eq_true rfl)) dX1_speed_22 ⟨Nat.le_of_ble_eq_true rfl, Nat.le_of_ble_eq_true rfl⟩) hD hS hA (fun r_37 u_36 H locs hw hP hD hS => ?_)
    obtain ⟨hr_37, hI⟩ := hw
    refine lv_fstore_n (lv' := [(1, .float r_37), (0, .ref a)]) hx hb dX1_speed_25 rfl hl (by decide) rfl (fun ls hl => ?_)
    refine lv_aload_n hx hb dX1_speed_26 rfl (lv_at hl 1 rfl) ?_
    refine kp_get hx hb hts i_X1 hown hK hP hI hh_a rfl rfl 1 (by decide) (by decide) (hts (.fieldLink RX1 34 "IslandSolver$Row" "b" "LIslandSolver$Body;") (by decide +kernel)) (fun _ h9 => h9) dX1_speed_27 (kq_54s hq_4 fun h_39 => ?_)
    refine lv_ifnonnull (tgt := 37) hx hb dX1_speed_30 (by decide) ?_
    refine lv_aload_n hx hb dX1_speed_37 rfl (lv_at hl 1 rfl) ?_
    refine kp_get hx hb hts i_X1 hown hK hP hI hh_a rfl rfl 4 (by decide) (by decide) (hts (.fieldLink RX1 21 "IslandSolver$Row" "q" "LIslandSolver$Vec;") (by decide +kernel)) (fun _ h9 => h9) dX1_speed_38 (kq_R 4 (by decide) fun x_40 h_41 => ?_)
    refine lv_aload_n hx hb dX1_speed_41 rfl (lv_at hl 1 rfl) ?_
    refine kp_get hx hb hts i_X1 hown hK hP hI hh_a rfl rfl 1 (by decide) (by decide) (hts (.fieldLink RX1 34 "IslandSolver$Row" "b" "LIslandSolver$Body;") (by decide +kernel)) (fun _ h9 => h9) dX1_speed_42 (kq_54s hq_4 fun h_43 => ?_)
    refine kp_get hx hb hts i_X0 hown hK hP hI h_43 rfl rfl 10 (by decide) (by decide) (hts (.fieldLink RX1 75 "IslandSolver$Body" "s" "LIslandSolver$Vec;") (by decide +kernel)) (fun _ h9 => h9) dX1_speed_45 (kq_R 3 (by decide) fun x_44 h_45 => ?_)
    refine kd_callf (va_runV (As := [.ref x_44]) (rest := []) ⟨hx, hb, hml, hown, hts⟩ (k_dot43 l dC dI dA ad _ τ pv _ _ hI x_40 h_41 x_44 h_45) (cwV 1 hts gX1_speed_X2_dot rfl rfl rfl (by decide +kernel) ⟨Nat.le_of_ble_eq_true rfl, Nat.le_of_ble_eq_true rfl⟩) (kd_preV hP hD hK hS hA hE hI h_41 rfl rfl) rfl rfl hl.1 rfl (lv_room (Nat.le_of_ble_eq_true rfl)) dX1_speed_48 ⟨Nat.le_of_ble_eq_true rfl, Nat.le_of_ble_eq_true rfl⟩) hD hS hA (fun r_47 u_46 H locs hw hP hD hS => ?_)
    obtain ⟨hr_47, hI⟩ := hw
    refine lv_fstore_n (lv' := [(2, .float r_47), (1, .float r_37), (0, .ref a)]) hx hb dX1_speed_51 rfl hl (by decide) rfl (fun ls hl => ?_)
    refine lv_aload_n hx hb dX1_speed_52 rfl (lv_at hl 2 rfl) ?_
    refine kp_get hx hb hts i_X1 hown hK hP hI hh_a rfl rfl 2 (by decide) (by decide) (hts (.fieldLink RX1 12 "IslandSolver$Row" "n" "LIslandSolver$Vec;") (by decide +kernel)) (fun _ h9 => h9) dX1_speed_53 (kq_R 4 (by decide) fun x_48 h_49 => ?_)
    refine lv_aload_n hx hb dX1_speed_56 rfl (lv_at hl 2 rfl) ?_
    refine kp_get hx hb hts i_X1 hown hK hP hI hh_a rfl rfl 0 (by decide) (by decide) (hts (.fieldLink RX1 30 "IslandSolver$Row" "a" "LIslandSolver$Body;") (by decide +kernel)) (fun _ h9 => h9) dX1_speed_57 (kq_C (by decide) fun x_50 h_51 => ?_)
    obtain ⟨rfl, h_51⟩ := h_51
    refine kp_get hx hb hts i_X0 hown hK hP hI h_51 rfl rfl 9 (by decide) (by decide) (hts (.fieldLink RX1 68 "IslandSolver$Body" "v" "LIslandSolver$Vec;") (by decide +kernel)) (fun _ h9 => h9) dX1_speed_60 (kq_R 3 (by decide) fun x_52 h_53 => ?_)
    refine kd_callf (va_runV (As := [.ref x_52]) (rest := []) ⟨hx, hb, hml, hown, hts⟩ (k_dot43 l dC dI dA ad _ τ pv _ _ hI x_48 h_49 x_52 h_53) (cwV 1 hts gX1_speed_X2_dot rfl rfl rfl (by decide +kernel) ⟨Nat.le_of_ble_eq_true rfl, Nat.le_of_ble_eq_true rfl⟩) (kd_preV hP hD hK hS hA hE hI h_49 rfl rfl) rfl rfl hl.1 rfl (lv_room (Nat.le_of_ble_eq_true rfl)) dX1_speed_63 ⟨Nat.le_of_ble_eq_true rfl, Nat.le_of_ble_eq_true rfl⟩) hD hS hA (fun r_55 u_54 H locs hw hP hD hS => ?_)
    obtain ⟨hr_55, hI⟩ := hw
    refine lv_aload_n hx hb dX1_speed_66 rfl (lv_at hl 2 rfl) ?_
    refine kp_get hx hb hts i_X1 hown hK hP hI hh_a rfl rfl 3 (by decide) (by decide) (hts (.fieldLink RX1 18 "IslandSolver$Row" "p" "LIslandSolver$Vec;") (by decide +kernel)) (fun _ h9 => h9) dX1_speed_67 (kq_R 4 (by decide) fun x_56 h_57 => ?_)
    refine lv_aload_n hx hb dX1_speed_70 rfl (lv_at hl 2 rfl) ?_
    refine kp_get hx hb hts i_X1 hown hK hP hI hh_a rfl rfl 0 (by decide) (by decide) (hts (.fieldLink RX1 30 "IslandSolver$Row" "a" "LIslandSolver$Body;") (by decide +kernel)) (fun _ h9 => h9) dX1_speed_71 (kq_C (by decide) fun x_58 h_59 => ?_)
    obtain ⟨rfl, h_59⟩ := h_59
    refine kp_get hx hb hts i_X0 hown hK hP hI h_59 rfl rfl 10 (by decide) (by decide) (hts (.fieldLink RX1 75 "IslandSolver$Body" "s" "LIslandSolver$Vec;") (by decide +kernel)) (fun _ h9 => h9) dX1_speed_74 (kq_R 3 (by decide) fun x_60 h_61 => ?_)
    refine kd_callf (va_runV (As := [.ref x_60]) (rest := [.float r_55]) ⟨hx, hb, hml, hown, hts⟩ (k_dot43 l dC dI dA ad _ τ pv _ _ hI x_56 h_57 x_60 h_61) (cwV 1 hts gX1_speed_X2_dot rfl rfl rfl (by decide +kernel) ⟨Nat.le_of_ble_eq_true rfl, Nat.le_of_ble_eq_true rfl⟩) (kd_preV hP hD hK hS hA hE hI h_57 rfl rfl) rfl rfl hl.1 rfl (lv_room (Nat.le_of_ble_eq_true rfl)) dX1_speed_77 ⟨Nat.le_of_ble_eq_true rfl, Nat.le_of_ble_eq_true rfl⟩) hD hS hA (fun r_63 u_62 H locs hw hP hD hS => ?_)
    obtain ⟨hr_63, hI⟩ := hw
    refine kw_fadd (M := 1606418432) hx hb dX1_speed_80 hr_55 hr_63 (by decide) (by decide) (by decide +kernel) (by decide) (fun z_64 hz_65 => ?_)
    refine lv_fload_n hx hb dX1_speed_81 rfl (lv_at hl 1 rfl) ?_
    refine kw_fsub (M := 1611661312) hx hb dX1_speed_82 hz_65 hr_37 (by decide) (by decide) (by decide +kernel) (by decide) (fun z_66 hz_67 => ?_)
    refine lv_fload_n hx hb dX1_speed_83 rfl (lv_at hl 0 rfl) ?_
    refine kw_fsub (M := 1614807040) hx hb dX1_speed_84 hz_67 hr_47 (by decide) (by decide) (by decide +kernel) (by decide) (fun z_68 hz_69 => ?_)
    refine W.widen (k := 0) (n := 0) (Nat.le_of_ble_eq_true rfl) (Nat.le_of_ble_eq_true rfl) ?_
    exact W.fret (v := z_68) hx hb hr (fun t ht hW9 => ⟨⟨z_68, (u_62.1, u_62.2), rfl, ⟨hz_69, hI⟩, by rw [ht]; exact hP, va_K.moved hW9.alike hK, hD⟩, hS.F ht⟩) hS.2.2 dX1_speed_85
set_option maxHeartbeats 4000000 in
set_option maxRecDepth 100000 in
theorem k_measure (l : Launch) (dC : Nat → ClassId) (dI : Nat → Nat → Nat) (dA : Nat → ClassId) (ad sz : Nat) (τ : Nat → Nat → Nat) (pv : Nat → Nat → Value) (L : List Nat) (f : Nat → va_E) (hI : kI dA τ pv L f) (a : Nat) (hh_a : τ 0 a = 2) : Met l yX1_measure wsX1_measure ({ frames := 2, cells := 0, slots := 0, locals := 45 } : Room) (va_Pc [.ref a] (kB dC dI dA ad sz L f)) (va_Qv (fun u => ∃ (x : UInt32) (d : Int32), (d = 0 → 107 * 2 ^ 23 ≤ x.toNat % 2 ^ 31) ∧ kI dA τ (kup (kup pv a 13 (.float x)) a 14 (.int d)) u.1 u.2) (kR dC dI dA (va_A (va_pl L f) sz)) (va_A (va_pl L f) sz)) 0 0 (va_A (va_pl L f) sz) := by
  refine Met.ofW (cc := cX1_measure) (maxL := 4) (ret := none) (by decide) rfl ?_
  intro p e s m args below meth c s₁ B hml hv
  obtain ⟨rfl, hsz, hP, hK, hD0, hE⟩ := hv
  have hx := B.exec
  have hb := B.bytes
  have hr := B.returns
  have hts := atoms_spec (ws := wsX1_measure) B.pre
  have hown : s.vm.findClass RX1 = some m.cls := findClass_of_methodNamed B.named
  have hlocks := B.notSynchronized
  have i_X1 : ∀ w ∈ u_ws RX1 TX1 18, w ∈ wsX1_measure := by decide +kernel
  have i_X0 : ∀ w ∈ u_ws RX0 TX0 16, w ∈ wsX1_measure := by decide +kernel
  subst hsz
  have hD := hD0.self (sz := s.heap.size)
  generalize hAe : va_A (va_pl L f) s.heap.size = A at hD hE ⊢
  have hA : ∀ q : Nat, s.heap.size ≤ q → A q := fun q h => by rw [← hAe]; exact Or.inr h
  have hS : va_S A s.heap s.heap [] := va_S.rf
  have hP : va_P (dC, dI) vwCl (va_pl L f) s.heap := hP
  have hK : va_K (dC, dI) vwCl (tyA dA) s := hK
  have hl := lv_entry ([.ref a]) (n := 4) (Nat.le_of_ble_eq_true rfl)
  rw [lg_entry_eq]
  generalize (lg_sl ([.ref a]) ++ List.replicate (4 - (lg_sl ([.ref a])).length) Slot.unset).toArray = ls at hl ⊢
  have hl : lv_has ls 4 [(0, .ref a)] := hl
  refine lv_fconst0 hx hb dX1_measure_0 ?_
  refine lv_fstore_n (lv' := [(1, .float FP.fconst0), (0, .ref a)]) hx hb dX1_measure_1 rfl hl (by decide) rfl (fun ls hl => ?_)
  refine lv_aload_n hx hb dX1_measure_2 rfl (lv_at hl 1 rfl) ?_
  refine kp_get hx hb hts i_X1 hown hK hP hI hh_a rfl rfl 0 (by decide) (by decide) (hts (.fieldLink RX1 30 "IslandSolver$Row" "a" "LIslandSolver$Body;") (by decide +kernel)) (fun _ h9 => h9) dX1_measure_3 (kq_C (by decide) fun x_1 h_2 => ?_)
  obtain ⟨rfl, h_2⟩ := h_2
  refine lv_aload_n hx hb dX1_measure_6 rfl (lv_at hl 1 rfl) ?_
  refine kp_get hx hb hts i_X1 hown hK hP hI hh_a rfl rfl 3 (by decide) (by decide) (hts (.fieldLink RX1 18 "IslandSolver$Row" "p" "LIslandSolver$Vec;") (by decide +kernel)) (fun _ h9 => h9) dX1_measure_7 (kq_R 4 (by decide) fun x_3 h_4 => ?_)
  refine lv_aload_n hx hb dX1_measure_10 rfl (lv_at hl 1 rfl) ?_
  refine kp_get hx hb hts i_X1 hown hK hP hI hh_a rfl rfl 15 (by decide) (by decide) (hts (.fieldLink RX1 24 "IslandSolver$Row" "turnA" "LIslandSolver$Vec;") (by decide +kernel)) (fun _ h9 => h9) dX1_measure_11 (kq_R 5 (by decide) fun x_5 h_6 => ?_)
  refine kd_callv (va_runV (As := [.ref x_3, .ref x_5]) (rest := []) ⟨hx, hb, hml, hown, hts⟩ (k_turn l dC dI dA ad _ τ pv _ _ hI (τ 5 a) h_2 x_3 h_4 x_5 h_6) (cwV 2 hts gX1_measure_X0_turn rfl rfl rfl (by decide +kernel) ⟨Nat.le_of_ble_eq_true rfl, Nat.le_of_ble_eq_true rfl⟩) (kd_preV hP hD hK hS hA hE hI h_2 rfl rfl) rfl rfl hl.1 rfl (lv_room (Nat.le_of_ble_eq_true rfl)) dX1_measure_14 ⟨Nat.le_of_ble_eq_true rfl, Nat.le_of_ble_eq_true rfl⟩) hD hS hA (fun u_7 H locs hw hP hD hS => ?_)
  have hI := hw
  refine lv_aload_n hx hb dX1_measure_17 rfl (lv_at hl 1 rfl) ?_
  refine kp_get hx hb hts i_X1 hown hK hP hI hh_a rfl rfl 1 (by decide) (by decide) (hts (.fieldLink RX1 34 "IslandSolver$Row" "b" "LIslandSolver$Body;") (by decide +kernel)) (fun _ h9 => h9) dX1_measure_18 (kq_54 (fun hq_11 => ?_) (fun q_10 hq_11 ht_12 => ?_))
  · refine lv_ifnullN (tgt := 47) hx hb dX1_measure_21 (by decide) ?_
    refine lv_aload_n hx hb dX1_measure_47 rfl (lv_at hl 1 rfl) ?_
    refine kp_get hx hb hts i_X1 hown hK hP hI hh_a rfl rfl 2 (by decide) (by decide) (hts (.fieldLink RX1 12 "IslandSolver$Row" "n" "LIslandSolver$Vec;") (by decide +kernel)) (fun _ h9 => h9) dX1_measure_48 (kq_R 4 (by decide) fun x_13 h_14 => ?_)
    refine lv_aload_n hx hb dX1_measure_51 rfl (lv_at hl 1 rfl) ?_
    refine kp_get hx hb hts i_X1 hown hK hP hI hh_a rfl rfl 2 (by decide) (by decide) (hts (.fieldLink RX1 12 "IslandSolver$Row" "n" "LIslandSolver$Vec;") (by decide +kernel)) (fun _ h9 => h9) dX1_measure_52 (kq_R 4 (by decide) fun x_15 h_16 => ?_)
    refine kd_callf (va_runV (As := [.ref x_15]) (rest := []) ⟨hx, hb, hml, hown, hts⟩ (k_dot44 l dC dI dA ad _ τ pv _ _ hI x_13 h_14 x_15 h_16) (cwV 1 hts gX1_measure_X2_dot rfl rfl rfl (by decide +kernel) ⟨Nat.le_of_ble_eq_true rfl, Nat.le_of_ble_eq_true rfl⟩) (kd_preV hP hD hK hS hA hE hI h_14 rfl rfl) rfl rfl hl.1 rfl (lv_room (Nat.le_of_ble_eq_true rfl)) dX1_measure_55 ⟨Nat.le_of_ble_eq_true rfl, Nat.le_of_ble_eq_true rfl⟩) hD hS hA (fun r_18 u_17 H locs hw hP hD hS => ?_)
    obtain ⟨hr_18, hI⟩ := hw
    refine lv_fstore_n (lv' := [(2, .float r_18), (1, .float FP.fconst0), (0, .ref a)]) hx hb dX1_measure_58 rfl hl (by decide) rfl (fun ls hl => ?_)
    refine lv_aload_n hx hb dX1_measure_59 rfl (lv_at hl 2 rfl) ?_
    refine lv_aload_n hx hb dX1_measure_60 rfl (lv_at hl 2 rfl) ?_
    refine kp_get hx hb hts i_X1 hown hK hP hI hh_a rfl rfl 0 (by decide) (by decide) (hts (.fieldLink RX1 30 "IslandSolver$Row" "a" "LIslandSolver$Body;") (by decide +kernel)) (fun _ h9 => h9) dX1_measure_61 (kq_C (by decide) fun x_19 h_20 => ?_)
    obtain ⟨rfl, h_20⟩ := h_20
    refine kd_callf (va_runV (As := []) (rest := [.ref a]) ⟨hx, hb, hml, hown, hts⟩ (k_rowMass l dC dI dA ad _ τ pv _ _ hI (τ 5 a) h_20) (cwV 0 hts gX1_measure_X0_rowMass rfl rfl rfl (by decide +kernel) ⟨Nat.le_of_ble_eq_true rfl, Nat.le_of_ble_eq_true rfl⟩) (kd_preV hP hD hK hS hA hE hI h_20 rfl rfl) rfl rfl hl.1 rfl (lv_room (Nat.le_of_ble_eq_true rfl)) dX1_measure_64 ⟨Nat.le_of_ble_eq_true rfl, Nat.le_of_ble_eq_true rfl⟩) hD hS hA (fun r_22 u_21 H locs hw hP hD hS => ?_)
    obtain ⟨hr_22, hI⟩ := hw
    refine lv_fload_n hx hb dX1_measure_67 rfl (lv_at hl 0 rfl) ?_
    refine kw_fmul (M := 1212153856) hx hb dX1_measure_68 hr_22 hr_18 (by decide) (by decide) (by decide +kernel) (by decide) (fun z_23 hz_24 => ?_)
    refine lv_aload_n hx hb dX1_measure_69 rfl (lv_at hl 2 rfl) ?_
    refine kp_get hx hb hts i_X1 hown hK hP hI hh_a rfl rfl 3 (by decide) (by decide) (hts (.fieldLink RX1 18 "IslandSolver$Row" "p" "LIslandSolver$Vec;") (by decide +kernel)) (fun _ h9 => h9) dX1_measure_70 (kq_R 4 (by decide) fun x_25 h_26 => ?_)
    refine lv_aload_n hx hb dX1_measure_73 rfl (lv_at hl 2 rfl) ?_
    refine kp_get hx hb hts i_X1 hown hK hP hI hh_a rfl rfl 15 (by decide) (by decide) (hts (.fieldLink RX1 24 "IslandSolver$Row" "turnA" "LIslandSolver$Vec;") (by decide +kernel)) (fun _ h9 => h9) dX1_measure_74 (kq_R 5 (by decide) fun x_27 h_28 => ?_)
    refine kd_callf (va_runV (As := [.ref x_27]) (rest := [.float z_23, .ref a]) ⟨hx, hb, hml, hown, hts⟩ (k_dot45 l dC dI dA ad _ τ pv _ _ hI x_25 h_26 x_27 h_28) (cwV 1 hts gX1_measure_X2_dot rfl rfl rfl (by decide +kernel) ⟨Nat.le_of_ble_eq_true rfl, Nat.le_of_ble_eq_true rfl⟩) (kd_preV hP hD hK hS hA hE hI h_26 rfl rfl) rfl rfl hl.1 rfl (lv_room (Nat.le_of_ble_eq_true rfl)) dX1_measure_77 ⟨Nat.le_of_ble_eq_true rfl, Nat.le_of_ble_eq_true rfl⟩) hD hS hA (fun r_30 u_29 H locs hw hP hD hS => ?_)
    obtain ⟨hr_30, hI⟩ := hw
    refine kw_fadd (M := 1228931072) hx hb dX1_measure_80 hz_24 hr_30 (by decide) (by decide) (by decide +kernel) (by decide) (fun z_31 hz_32 => ?_)
    refine lv_fload_n hx hb dX1_measure_81 rfl (lv_at hl 1 rfl) ?_
    refine lv_fload_n hx hb dX1_measure_82 rfl (lv_at hl 0 rfl) ?_
    refine kw_fmul (M := 0) hx hb dX1_measure_83 kc_0 hr_18 (by decide) (by decide) (by decide +kernel) (by decide) (fun z_33 hz_34 => ?_)
    refine kw_fadd (M := 1228931072) hx hb dX1_measure_84 hz_32 hz_34 (by decide) (by decide) (by decide +kernel) (by decide) (fun z_35 hz_36 => ?_)
    refine lv_aload_n hx hb dX1_measure_85 rfl (lv_at hl 2 rfl) ?_
    refine kp_get hx hb hts i_X1 hown hK hP hI hh_a rfl rfl 4 (by decide) (by decide) (hts (.fieldLink RX1 21 "IslandSolver$Row" "q" "LIslandSolver$Vec;") (by decide +kernel)) (fun _ h9 => h9) dX1_measure_86 (kq_R 4 (by decide) fun x_37 h_38 => ?_)
    refine lv_aload_n hx hb dX1_measure_89 rfl (lv_at hl 2 rfl) ?_
    refine kp_get hx hb hts i_X1 hown hK hP hI hh_a rfl rfl 16 (by decide) (by decide) (hts (.fieldLink RX1 27 "IslandSolver$Row" "turnB" "LIslandSolver$Vec;") (by decide +kernel)) (fun _ h9 => h9) dX1_measure_90 (kq_R 5 (by decide) fun x_39 h_40 => ?_)
    refine kd_callf (va_runV (As := [.ref x_39]) (rest := [.float z_35, .ref a]) ⟨hx, hb, hml, hown, hts⟩ (k_dot45 l dC dI dA ad _ τ pv _ _ hI x_37 h_38 x_39 h_40) (cwV 1 hts gX1_measure_X2_dot rfl rfl rfl (by decide +kernel) ⟨Nat.le_of_ble_eq_true rfl, Nat.le_of_ble_eq_true rfl⟩) (kd_preV hP hD hK hS hA hE hI h_38 rfl rfl) rfl rfl hl.1 rfl (lv_room (Nat.le_of_ble_eq_true rfl)) dX1_measure_93 ⟨Nat.le_of_ble_eq_true rfl, Nat.le_of_ble_eq_true rfl⟩) hD hS hA (fun r_42 u_41 H locs hw hP hD hS => ?_)
    obtain ⟨hr_42, hI⟩ := hw
    refine kw_fadd (M := 1235746816) hx hb dX1_measure_96 hz_36 hr_42 (by decide) (by decide) (by decide +kernel) (by decide) (fun z_43 hz_44 => ?_)
    refine lv_aload_n hx hb dX1_measure_97 rfl (lv_at hl 2 rfl) ?_
    refine kp_get hx hb hts i_X1 hown hK hP hI hh_a rfl rfl 6 (by decide) (by decide) (hts (.fieldLink RX1 86 "IslandSolver$Row" "soft" "F") (by decide +kernel)) (fun _ h9 => h9) dX1_measure_98 (kq_F (cd := 1115684864) (by decide) fun x_45 h_46 => ?_)
    refine kw_fadd (M := 1235747328) hx hb dX1_measure_101 hz_44 h_46 (by decide) (by decide) (by decide +kernel) (by decide) (fun z_47 hz_48 => ?_)
    refine kp_putP (v := .float z_47) (ty := .float) hx hb hts i_X1 tyX1 tyX1_ok nmX1 hown hK hP hD hS hI hh_a rfl rfl 13 (by decide) (by decide) (hts (.fieldLink RX1 89 "IslandSolver$Row" "stiffness" "F") (by decide +kernel)) (fun _ h9 => h9) rfl (by decide +kernel) rfl rfl rfl (kv_F (by decide) (fb_le hz_48 (by decide))) dX1_measure_102 (fun f H locs hI hP hD hS => ?_)
    refine lv_aload_n hx hb dX1_measure_105 rfl (lv_at hl 2 rfl) ?_
    refine kp_get hx hb hts i_X1 hown hK hP hI hh_a rfl rfl 0 (by decide) (by decide) (hts (.fieldLink RX1 30 "IslandSolver$Row" "a" "LIslandSolver$Body;") (by decide +kernel)) (fun _ h9 => h9) dX1_measure_106 (kq_C (by decide) fun x_49 h_50 => ?_)
    obtain ⟨rfl, h_50⟩ := h_50
    refine kp_get hx hb hts i_X0 hown hK hP hI h_50 rfl rfl 1 (by decide) (by decide) (hts (.fieldLink RX1 57 "IslandSolver$Body" "movable" "Z") (by decide +kernel)) (fun _ h9 => h9) dX1_measure_109 (kq_51 fun h_52 => ?_)
    refine lv_if_ne (tgt := 136) hx hb dX1_measure_112 (by decide) (fun c_53 => ?_) (fun c_53 => ?_)
    · have n_54 : ¬ (τ 4 (τ 5 a)) = 0 := fun h9 => (show ¬ nI (τ 4 (τ 5 a)) = nI 0 from c_53) ((nI_eq (by omega) (by omega)).mpr h9)
      refine lv_iconst (v := 0) hx hb dX1_measure_136 (by decide) ?_
      refine lv_istore_n (lv' := [(3, .int 0), (2, .float r_18), (1, .float FP.fconst0), (0, .ref a)]) hx hb dX1_measure_137 rfl hl (by decide) rfl (fun ls hl => ?_)
      refine lv_aload_n hx hb dX1_measure_138 rfl (lv_at hl 3 rfl) ?_
      refine lv_aload_n hx hb dX1_measure_139 rfl (lv_at hl 3 rfl) ?_
      refine kp_get hx hb hts i_X1 hown hK hP hI hh_a rfl rfl 13 (by decide) (by decide) (hts (.fieldLink RX1 89 "IslandSolver$Row" "stiffness" "F") (by decide +kernel)) (fun _ h9 => h9) dX1_measure_140 (kq_P (v0 := .float z_47) rfl kup_self fun h_56 => ?_)
      refine lv_ldcf (v := 897581056) hx hb hown (hts (.constantFloat RX1 92 (897581056)) (by decide +kernel)) dX1_measure_143 ?_
      have hc_57 : fb 897581056 897581056 := by unfold fb; decide +kernel
      refine lv_fcmp hx hb dX1_measure_145 ?_
      refine lv_if_lt (tgt := 153) hx hb dX1_measure_146 (by decide) (fun c_58 => ?_) (fun c_58 => ?_)
      · refine lv_iconst (v := 1) hx hb dX1_measure_153 (by decide) ?_
        refine lv_goto (tgt := 158) hx hb dX1_measure_154 (by decide) ?_
        refine kp_putP (v := .int 1) (ty := .boolean) hx hb hts i_X1 tyX1 tyX1_ok nmX1 hown hK hP hD hS hI hh_a rfl rfl 14 (by decide) (by decide) (hts (.fieldLink RX1 93 "IslandSolver$Row" "dead" "Z") (by decide +kernel)) (fun _ h9 => h9) rfl (by decide +kernel) rfl rfl rfl (kv_Z (Or.inr rfl)) dX1_measure_158 (fun f H locs hI hP hD hS => ?_)
        refine W.widen (k := 0) (n := 0) (Nat.le_of_ble_eq_true rfl) (Nat.le_of_ble_eq_true rfl) ?_
        exact W.vret hx hb hr (fun t ht hW9 => ⟨⟨(u_41.1, f), rfl, ⟨z_47, 1, (fun h9 => absurd h9 (by decide)), hI⟩, by rw [ht]; exact hP, va_K.moved hW9.alike hK, hD⟩, hS.F ht⟩) hS.2.2 dX1_measure_161
      · refine lv_iload_n hx hb dX1_measure_149 rfl (lv_at hl 0 rfl) ?_
        refine lv_if_eq (tgt := 157) hx hb dX1_measure_150 (by decide) (fun _ => ?_) (fun h9 => by first | exact absurd h9 (by decide) | exact absurd (by decide) h9)
        refine lv_iconst (v := 0) hx hb dX1_measure_157 (by decide) ?_
        refine kp_putP (v := .int 0) (ty := .boolean) hx hb hts i_X1 tyX1 tyX1_ok nmX1 hown hK hP hD hS hI hh_a rfl rfl 14 (by decide) (by decide) (hts (.fieldLink RX1 93 "IslandSolver$Row" "dead" "Z") (by decide +kernel)) (fun _ h9 => h9) rfl (by decide +kernel) rfl rfl rfl (kv_Z (Or.inl rfl)) dX1_measure_158 (fun f H locs hI hP hD hS => ?_)
        refine W.widen (k := 0) (n := 0) (Nat.le_of_ble_eq_true rfl) (Nat.le_of_ble_eq_true rfl) ?_
        exact W.vret hx hb hr (fun t ht hW9 => ⟨⟨(u_41.1, f), rfl, ⟨z_47, 0, (fun _ => kf_least hz_48 (by decide) (Int32.not_lt.mp c_58)), hI⟩, by rw [ht]; exact hP, va_K.moved hW9.alike hK, hD⟩, hS.F ht⟩) hS.2.2 dX1_measure_161
    · have n_59 : (τ 4 (τ 5 a)) = 0 := (nI_eq (by omega) (by omega)).mp (show nI (τ 4 (τ 5 a)) = nI 0 from c_53)
      refine lv_aload_n hx hb dX1_measure_115 rfl (lv_at hl 2 rfl) ?_
      refine kp_get hx hb hts i_X1 hown hK hP hI hh_a rfl rfl 1 (by decide) (by decide) (hts (.fieldLink RX1 34 "IslandSolver$Row" "b" "LIslandSolver$Body;") (by decide +kernel)) (fun _ h9 => h9) dX1_measure_116 (kq_54n hq_11 ?_)
      refine lv_ifnullN (tgt := 132) hx hb dX1_measure_119 (by decide) ?_
      refine lv_iconst (v := 1) hx hb dX1_measure_132 (by decide) ?_
      refine lv_goto (tgt := 137) hx hb dX1_measure_133 (by decide) ?_
      refine lv_istore_n (lv' := [(3, .int 1), (2, .float r_18), (1, .float FP.fconst0), (0, .ref a)]) hx hb dX1_measure_137 rfl hl (by decide) rfl (fun ls hl => ?_)
      refine lv_aload_n hx hb dX1_measure_138 rfl (lv_at hl 3 rfl) ?_
      refine lv_aload_n hx hb dX1_measure_139 rfl (lv_at hl 3 rfl) ?_
      refine kp_get hx hb hts i_X1 hown hK hP hI hh_a rfl rfl 13 (by decide) (by decide) (hts (.fieldLink RX1 89 "IslandSolver$Row" "stiffness" "F") (by decide +kernel)) (fun _ h9 => h9) dX1_measure_140 (kq_P (v0 := .float z_47) rfl kup_self fun h_63 => ?_)
      refine lv_ldcf (v := 897581056) hx hb hown (hts (.constantFloat RX1 92 (897581056)) (by decide +kernel)) dX1_measure_143 ?_
      have hc_64 : fb 897581056 897581056 := by unfold fb; decide +kernel
      refine lv_fcmp hx hb dX1_measure_145 ?_
      refine lv_if_lt (tgt := 153) hx hb dX1_measure_146 (by decide) (fun c_65 => ?_) (fun c_65 => ?_)
      · refine lv_iconst (v := 1) hx hb dX1_measure_153 (by decide) ?_
        refine lv_goto (tgt := 158) hx hb dX1_measure_154 (by decide) ?_
        refine kp_putP (v := .int 1) (ty := .boolean) hx hb hts i_X1 tyX1 tyX1_ok nmX1 hown hK hP hD hS hI hh_a rfl rfl 14 (by decide) (by decide) (hts (.fieldLink RX1 93 "IslandSolver$Row" "dead" "Z") (by decide +kernel)) (fun _ h9 => h9) rfl (by decide +kernel) rfl rfl rfl (kv_Z (Or.inr rfl)) dX1_measure_158 (fun f H locs hI hP hD hS => ?_)
        refine W.widen (k := 0) (n := 0) (Nat.le_of_ble_eq_true rfl) (Nat.le_of_ble_eq_true rfl) ?_
        exact W.vret hx hb hr (fun t ht hW9 => ⟨⟨(u_41.1, f), rfl, ⟨z_47, 1, (fun h9 => absurd h9 (by decide)), hI⟩, by rw [ht]; exact hP, va_K.moved hW9.alike hK, hD⟩, hS.F ht⟩) hS.2.2 dX1_measure_161
      · refine lv_iload_n hx hb dX1_measure_149 rfl (lv_at hl 0 rfl) ?_
        refine lv_if_eq (tgt := 157) hx hb dX1_measure_150 (by decide) (fun h9 => by first | exact absurd h9 (by decide) | exact absurd (by decide) h9) (fun _ => ?_)
        refine lv_iconst (v := 1) hx hb dX1_measure_153 (by decide) ?_
        refine lv_goto (tgt := 158) hx hb dX1_measure_154 (by decide) ?_
        refine kp_putP (v := .int 1) (ty := .boolean) hx hb hts i_X1 tyX1 tyX1_ok nmX1 hown hK hP hD hS hI hh_a rfl rfl 14 (by decide) (by decide) (hts (.fieldLink RX1 93 "IslandSolver$Row" "dead" "Z") (by decide +kernel)) (fun _ h9 => h9) rfl (by decide +kernel) rfl rfl rfl (kv_Z (Or.inr rfl)) dX1_measure_158 (fun f H locs hI hP hD hS => ?_)
        refine W.widen (k := 0) (n := 0) (Nat.le_of_ble_eq_true rfl) (Nat.le_of_ble_eq_true rfl) ?_
        exact W.vret hx hb hr (fun t ht hW9 => ⟨⟨(u_41.1, f), rfl, ⟨z_47, 1, (fun h9 => absurd h9 (by decide)), hI⟩, by rw [ht]; exact hP, va_K.moved hW9.alike hK, hD⟩, hS.F ht⟩) hS.2.2 dX1_measure_161
  · refine lv_ifnull hx hb dX1_measure_21 ?_
    refine lv_aload_n hx hb dX1_measure_24 rfl (lv_at hl 1 rfl) ?_
    refine kp_get hx hb hts i_X1 hown hK hP hI hh_a rfl rfl 1 (by decide) (by decide) (hts (.fieldLink RX1 34 "IslandSolver$Row" "b" "LIslandSolver$Body;") (by decide +kernel)) (fun _ h9 => h9) dX1_measure_25 (kq_54s hq_11 fun h_67 => ?_)
    refine lv_aload_n hx hb dX1_measure_28 rfl (lv_at hl 1 rfl) ?_
    refine kp_get hx hb hts i_X1 hown hK hP hI hh_a rfl rfl 4 (by decide) (by decide) (hts (.fieldLink RX1 21 "IslandSolver$Row" "q" "LIslandSolver$Vec;") (by decide +kernel)) (fun _ h9 => h9) dX1_measure_29 (kq_R 4 (by decide) fun x_68 h_69 => ?_)
    refine lv_aload_n hx hb dX1_measure_32 rfl (lv_at hl 1 rfl) ?_
    refine kp_get hx hb hts i_X1 hown hK hP hI hh_a rfl rfl 16 (by decide) (by decide) (hts (.fieldLink RX1 27 "IslandSolver$Row" "turnB" "LIslandSolver$Vec;") (by decide +kernel)) (fun _ h9 => h9) dX1_measure_33 (kq_R 5 (by decide) fun x_70 h_71 => ?_)
    refine kd_callv (va_runV (As := [.ref x_68, .ref x_70]) (rest := []) ⟨hx, hb, hml, hown, hts⟩ (k_turn l dC dI dA ad _ τ pv _ _ hI q_10 h_67 x_68 h_69 x_70 h_71) (cwV 2 hts gX1_measure_X0_turn rfl rfl rfl (by decide +kernel) ⟨Nat.le_of_ble_eq_true rfl, Nat.le_of_ble_eq_true rfl⟩) (kd_preV hP hD hK hS hA hE hI h_67 rfl rfl) rfl rfl hl.1 rfl (lv_room (Nat.le_of_ble_eq_true rfl)) dX1_measure_36 ⟨Nat.le_of_ble_eq_true rfl, Nat.le_of_ble_eq_true rfl⟩) hD hS hA (fun u_72 H locs hw hP hD hS => ?_)
    have hI := hw
    refine lv_aload_n hx hb dX1_measure_39 rfl (lv_at hl 1 rfl) ?_
    refine kp_get hx hb hts i_X1 hown hK hP hI hh_a rfl rfl 1 (by decide) (by decide) (hts (.fieldLink RX1 34 "IslandSolver$Row" "b" "LIslandSolver$Body;") (by decide +kernel)) (fun _ h9 => h9) dX1_measure_40 (kq_54s hq_11 fun h_74 => ?_)
    refine kd_callf (va_runV (As := []) (rest := []) ⟨hx, hb, hml, hown, hts⟩ (k_rowMass l dC dI dA ad _ τ pv _ _ hI q_10 h_74) (cwV 0 hts gX1_measure_X0_rowMass rfl rfl rfl (by decide +kernel) ⟨Nat.le_of_ble_eq_true rfl, Nat.le_of_ble_eq_true rfl⟩) (kd_preV hP hD hK hS hA hE hI h_74 rfl rfl) rfl rfl hl.1 rfl (lv_room (Nat.le_of_ble_eq_true rfl)) dX1_measure_43 ⟨Nat.le_of_ble_eq_true rfl, Nat.le_of_ble_eq_true rfl⟩) hD hS hA (fun r_76 u_75 H locs hw hP hD hS => ?_)
    obtain ⟨hr_76, hI⟩ := hw
    refine lv_fstore_n (lv' := [(1, .float r_76), (0, .ref a)]) hx hb dX1_measure_46 rfl hl (by decide) rfl (fun ls hl => ?_)
    refine lv_aload_n hx hb dX1_measure_47 rfl (lv_at hl 1 rfl) ?_
    refine kp_get hx hb hts i_X1 hown hK hP hI hh_a rfl rfl 2 (by decide) (by decide) (hts (.fieldLink RX1 12 "IslandSolver$Row" "n" "LIslandSolver$Vec;") (by decide +kernel)) (fun _ h9 => h9) dX1_measure_48 (kq_R 4 (by decide) fun x_77 h_78 => ?_)
    refine lv_aload_n hx hb dX1_measure_51 rfl (lv_at hl 1 rfl) ?_
    refine kp_get hx hb hts i_X1 hown hK hP hI hh_a rfl rfl 2 (by decide) (by decide) (hts (.fieldLink RX1 12 "IslandSolver$Row" "n" "LIslandSolver$Vec;") (by decide +kernel)) (fun _ h9 => h9) dX1_measure_52 (kq_R 4 (by decide) fun x_79 h_80 => ?_)
    refine kd_callf (va_runV (As := [.ref x_79]) (rest := []) ⟨hx, hb, hml, hown, hts⟩ (k_dot44 l dC dI dA ad _ τ pv _ _ hI x_77 h_78 x_79 h_80) (cwV 1 hts gX1_measure_X2_dot rfl rfl rfl (by decide +kernel) ⟨Nat.le_of_ble_eq_true rfl, Nat.le_of_ble_eq_true rfl⟩) (kd_preV hP hD hK hS hA hE hI h_78 rfl rfl) rfl rfl hl.1 rfl (lv_room (Nat.le_of_ble_eq_true rfl)) dX1_measure_55 ⟨Nat.le_of_ble_eq_true rfl, Nat.le_of_ble_eq_true rfl⟩) hD hS hA (fun r_82 u_81 H locs hw hP hD hS => ?_)
    obtain ⟨hr_82, hI⟩ := hw
    refine lv_fstore_n (lv' := [(2, .float r_82), (1, .float r_76), (0, .ref a)]) hx hb dX1_measure_58 rfl hl (by decide) rfl (fun ls hl => ?_)
    refine lv_aload_n hx hb dX1_measure_59 rfl (lv_at hl 2 rfl) ?_
    refine lv_aload_n hx hb dX1_measure_60 rfl (lv_at hl 2 rfl) ?_
    refine kp_get hx hb hts i_X1 hown hK hP hI hh_a rfl rfl 0 (by decide) (by decide) (hts (.fieldLink RX1 30 "IslandSolver$Row" "a" "LIslandSolver$Body;") (by decide +kernel)) (fun _ h9 => h9) dX1_measure_61 (kq_C (by decide) fun x_83 h_84 => ?_)
    obtain ⟨rfl, h_84⟩ := h_84
    refine kd_callf (va_runV (As := []) (rest := [.ref a]) ⟨hx, hb, hml, hown, hts⟩ (k_rowMass l dC dI dA ad _ τ pv _ _ hI (τ 5 a) h_84) (cwV 0 hts gX1_measure_X0_rowMass rfl rfl rfl (by decide +kernel) ⟨Nat.le_of_ble_eq_true rfl, Nat.le_of_ble_eq_true rfl⟩) (kd_preV hP hD hK hS hA hE hI h_84 rfl rfl) rfl rfl hl.1 rfl (lv_room (Nat.le_of_ble_eq_true rfl)) dX1_measure_64 ⟨Nat.le_of_ble_eq_true rfl, Nat.le_of_ble_eq_true rfl⟩) hD hS hA (fun r_86 u_85 H locs hw hP hD hS => ?_)
    obtain ⟨hr_86, hI⟩ := hw
    refine lv_fload_n hx hb dX1_measure_67 rfl (lv_at hl 0 rfl) ?_
    refine kw_fmul (M := 1212153856) hx hb dX1_measure_68 hr_86 hr_82 (by decide) (by decide) (by decide +kernel) (by decide) (fun z_87 hz_88 => ?_)
    refine lv_aload_n hx hb dX1_measure_69 rfl (lv_at hl 2 rfl) ?_
    refine kp_get hx hb hts i_X1 hown hK hP hI hh_a rfl rfl 3 (by decide) (by decide) (hts (.fieldLink RX1 18 "IslandSolver$Row" "p" "LIslandSolver$Vec;") (by decide +kernel)) (fun _ h9 => h9) dX1_measure_70 (kq_R 4 (by decide) fun x_89 h_90 => ?_)
    refine lv_aload_n hx hb dX1_measure_73 rfl (lv_at hl 2 rfl) ?_
    refine kp_get hx hb hts i_X1 hown hK hP hI hh_a rfl rfl 15 (by decide) (by decide) (hts (.fieldLink RX1 24 "IslandSolver$Row" "turnA" "LIslandSolver$Vec;") (by decide +kernel)) (fun _ h9 => h9) dX1_measure_74 (kq_R 5 (by decide) fun x_91 h_92 => ?_)
    refine kd_callf (va_runV (As := [.ref x_91]) (rest := [.float z_87, .ref a]) ⟨hx, hb, hml, hown, hts⟩ (k_dot45 l dC dI dA ad _ τ pv _ _ hI x_89 h_90 x_91 h_92) (cwV 1 hts gX1_measure_X2_dot rfl rfl rfl (by decide +kernel) ⟨Nat.le_of_ble_eq_true rfl, Nat.le_of_ble_eq_true rfl⟩) (kd_preV hP hD hK hS hA hE hI h_90 rfl rfl) rfl rfl hl.1 rfl (lv_room (Nat.le_of_ble_eq_true rfl)) dX1_measure_77 ⟨Nat.le_of_ble_eq_true rfl, Nat.le_of_ble_eq_true rfl⟩) hD hS hA (fun r_94 u_93 H locs hw hP hD hS => ?_)
    obtain ⟨hr_94, hI⟩ := hw
    refine kw_fadd (M := 1228931072) hx hb dX1_measure_80 hz_88 hr_94 (by decide) (by decide) (by decide +kernel) (by decide) (fun z_95 hz_96 => ?_)
    refine lv_fload_n hx hb dX1_measure_81 rfl (lv_at hl 1 rfl) ?_
    refine lv_fload_n hx hb dX1_measure_82 rfl (lv_at hl 0 rfl) ?_
    refine kw_fmul (M := 1212153856) hx hb dX1_measure_83 hr_76 hr_82 (by decide) (by decide) (by decide +kernel) (by decide) (fun z_97 hz_98 => ?_)
    refine kw_fadd (M := 1232076800) hx hb dX1_measure_84 hz_96 hz_98 (by decide) (by decide) (by decide +kernel) (by decide) (fun z_99 hz_100 => ?_)
    refine lv_aload_n hx hb dX1_measure_85 rfl (lv_at hl 2 rfl) ?_
    refine kp_get hx hb hts i_X1 hown hK hP hI hh_a rfl rfl 4 (by decide) (by decide) (hts (.fieldLink RX1 21 "IslandSolver$Row" "q" "LIslandSolver$Vec;") (by decide +kernel)) (fun _ h9 => h9) dX1_measure_86 (kq_R 4 (by decide) fun x_101 h_102 => ?_)
    refine lv_aload_n hx hb dX1_measure_89 rfl (lv_at hl 2 rfl) ?_
    refine kp_get hx hb hts i_X1 hown hK hP hI hh_a rfl rfl 16 (by decide) (by decide) (hts (.fieldLink RX1 27 "IslandSolver$Row" "turnB" "LIslandSolver$Vec;") (by decide +kernel)) (fun _ h9 => h9) dX1_measure_90 (kq_R 5 (by decide) fun x_103 h_104 => ?_)
    refine kd_callf (va_runV (As := [.ref x_103]) (rest := [.float z_99, .ref a]) ⟨hx, hb, hml, hown, hts⟩ (k_dot45 l dC dI dA ad _ τ pv _ _ hI x_101 h_102 x_103 h_104) (cwV 1 hts gX1_measure_X2_dot rfl rfl rfl (by decide +kernel) ⟨Nat.le_of_ble_eq_true rfl, Nat.le_of_ble_eq_true rfl⟩) (kd_preV hP hD hK hS hA hE hI h_102 rfl rfl) rfl rfl hl.1 rfl (lv_room (Nat.le_of_ble_eq_true rfl)) dX1_measure_93 ⟨Nat.le_of_ble_eq_true rfl, Nat.le_of_ble_eq_true rfl⟩) hD hS hA (fun r_106 u_105 H locs hw hP hD hS => ?_)
    obtain ⟨hr_106, hI⟩ := hw
    refine kw_fadd (M := 1237319680) hx hb dX1_measure_96 hz_100 hr_106 (by decide) (by decide) (by decide +kernel) (by decide) (fun z_107 hz_108 => ?_)
    refine lv_aload_n hx hb dX1_measure_97 rfl (lv_at hl 2 rfl) ?_
    refine kp_get hx hb hts i_X1 hown hK hP hI hh_a rfl rfl 6 (by decide) (by decide) (hts (.fieldLink RX1 86 "IslandSolver$Row" "soft" "F") (by decide +kernel)) (fun _ h9 => h9) dX1_measure_98 (kq_F (cd := 1115684864) (by decide) fun x_109 h_110 => ?_)
    refine kw_fadd (M := 1237320192) hx hb dX1_measure_101 hz_108 h_110 (by decide) (by decide) (by decide +kernel) (by decide) (fun z_111 hz_112 => ?_)
    refine kp_putP (v := .float z_111) (ty := .float) hx hb hts i_X1 tyX1 tyX1_ok nmX1 hown hK hP hD hS hI hh_a rfl rfl 13 (by decide) (by decide) (hts (.fieldLink RX1 89 "IslandSolver$Row" "stiffness" "F") (by decide +kernel)) (fun _ h9 => h9) rfl (by decide +kernel) rfl rfl rfl (kv_F (by decide) (fb_le hz_112 (by decide))) dX1_measure_102 (fun f H locs hI hP hD hS => ?_)
    refine lv_aload_n hx hb dX1_measure_105 rfl (lv_at hl 2 rfl) ?_
    refine kp_get hx hb hts i_X1 hown hK hP hI hh_a rfl rfl 0 (by decide) (by decide) (hts (.fieldLink RX1 30 "IslandSolver$Row" "a" "LIslandSolver$Body;") (by decide +kernel)) (fun _ h9 => h9) dX1_measure_106 (kq_C (by decide) fun x_113 h_114 => ?_)
    obtain ⟨rfl, h_114⟩ := h_114
    refine kp_get hx hb hts i_X0 hown hK hP hI h_114 rfl rfl 1 (by decide) (by decide) (hts (.fieldLink RX1 57 "IslandSolver$Body" "movable" "Z") (by decide +kernel)) (fun _ h9 => h9) dX1_measure_109 (kq_51 fun h_116 => ?_)
    refine lv_if_ne (tgt := 136) hx hb dX1_measure_112 (by decide) (fun c_117 => ?_) (fun c_117 => ?_)
    · have n_118 : ¬ (τ 4 (τ 5 a)) = 0 := fun h9 => (show ¬ nI (τ 4 (τ 5 a)) = nI 0 from c_117) ((nI_eq (by omega) (by omega)).mpr h9)
      refine lv_iconst (v := 0) hx hb dX1_measure_136 (by decide) ?_
      refine lv_istore_n (lv' := [(3, .int 0), (2, .float r_82), (1, .float r_76), (0, .ref a)]) hx hb dX1_measure_137 rfl hl (by decide) rfl (fun ls hl => ?_)
      refine lv_aload_n hx hb dX1_measure_138 rfl (lv_at hl 3 rfl) ?_
      refine lv_aload_n hx hb dX1_measure_139 rfl (lv_at hl 3 rfl) ?_
      refine kp_get hx hb hts i_X1 hown hK hP hI hh_a rfl rfl 13 (by decide) (by decide) (hts (.fieldLink RX1 89 "IslandSolver$Row" "stiffness" "F") (by decide +kernel)) (fun _ h9 => h9) dX1_measure_140 (kq_P (v0 := .float z_111) rfl kup_self fun h_120 => ?_)
      refine lv_ldcf (v := 897581056) hx hb hown (hts (.constantFloat RX1 92 (897581056)) (by decide +kernel)) dX1_measure_143 ?_
      have hc_121 : fb 897581056 897581056 := by unfold fb; decide +kernel
      refine lv_fcmp hx hb dX1_measure_145 ?_
      refine lv_if_lt (tgt := 153) hx hb dX1_measure_146 (by decide) (fun c_122 => ?_) (fun c_122 => ?_)
      · refine lv_iconst (v := 1) hx hb dX1_measure_153 (by decide) ?_
        refine lv_goto (tgt := 158) hx hb dX1_measure_154 (by decide) ?_
        refine kp_putP (v := .int 1) (ty := .boolean) hx hb hts i_X1 tyX1 tyX1_ok nmX1 hown hK hP hD hS hI hh_a rfl rfl 14 (by decide) (by decide) (hts (.fieldLink RX1 93 "IslandSolver$Row" "dead" "Z") (by decide +kernel)) (fun _ h9 => h9) rfl (by decide +kernel) rfl rfl rfl (kv_Z (Or.inr rfl)) dX1_measure_158 (fun f H locs hI hP hD hS => ?_)
        refine W.widen (k := 0) (n := 0) (Nat.le_of_ble_eq_true rfl) (Nat.le_of_ble_eq_true rfl) ?_
        exact W.vret hx hb hr (fun t ht hW9 => ⟨⟨(u_105.1, f), rfl, ⟨z_111, 1, (fun h9 => absurd h9 (by decide)), hI⟩, by rw [ht]; exact hP, va_K.moved hW9.alike hK, hD⟩, hS.F ht⟩) hS.2.2 dX1_measure_161
      · refine lv_iload_n hx hb dX1_measure_149 rfl (lv_at hl 0 rfl) ?_
        refine lv_if_eq (tgt := 157) hx hb dX1_measure_150 (by decide) (fun _ => ?_) (fun h9 => by first | exact absurd h9 (by decide) | exact absurd (by decide) h9)
        refine lv_iconst (v := 0) hx hb dX1_measure_157 (by decide) ?_
        refine kp_putP (v := .int 0) (ty := .boolean) hx hb hts i_X1 tyX1 tyX1_ok nmX1 hown hK hP hD hS hI hh_a rfl rfl 14 (by decide) (by decide) (hts (.fieldLink RX1 93 "IslandSolver$Row" "dead" "Z") (by decide +kernel)) (fun _ h9 => h9) rfl (by decide +kernel) rfl rfl rfl (kv_Z (Or.inl rfl)) dX1_measure_158 (fun f H locs hI hP hD hS => ?_)
        refine W.widen (k := 0) (n := 0) (Nat.le_of_ble_eq_true rfl) (Nat.le_of_ble_eq_true rfl) ?_
        exact W.vret hx hb hr (fun t ht hW9 => ⟨⟨(u_105.1, f), rfl, ⟨z_111, 0, (fun _ => kf_least hz_112 (by decide) (Int32.not_lt.mp c_122)), hI⟩, by rw [ht]; exact hP, va_K.moved hW9.alike hK, hD⟩, hS.F ht⟩) hS.2.2 dX1_measure_161
    · have n_123 : (τ 4 (τ 5 a)) = 0 := (nI_eq (by omega) (by omega)).mp (show nI (τ 4 (τ 5 a)) = nI 0 from c_117)
      refine lv_aload_n hx hb dX1_measure_115 rfl (lv_at hl 2 rfl) ?_
      refine kp_get hx hb hts i_X1 hown hK hP hI hh_a rfl rfl 1 (by decide) (by decide) (hts (.fieldLink RX1 34 "IslandSolver$Row" "b" "LIslandSolver$Body;") (by decide +kernel)) (fun _ h9 => h9) dX1_measure_116 (kq_54s hq_11 fun h_125 => ?_)
      refine lv_ifnull hx hb dX1_measure_119 ?_
      refine lv_aload_n hx hb dX1_measure_122 rfl (lv_at hl 2 rfl) ?_
      refine kp_get hx hb hts i_X1 hown hK hP hI hh_a rfl rfl 1 (by decide) (by decide) (hts (.fieldLink RX1 34 "IslandSolver$Row" "b" "LIslandSolver$Body;") (by decide +kernel)) (fun _ h9 => h9) dX1_measure_123 (kq_54s hq_11 fun h_127 => ?_)
      refine kp_get hx hb hts i_X0 hown hK hP hI h_127 rfl rfl 1 (by decide) (by decide) (hts (.fieldLink RX1 57 "IslandSolver$Body" "movable" "Z") (by decide +kernel)) (fun _ h9 => h9) dX1_measure_126 (kq_51 fun h_129 => ?_)
      refine lv_if_ne (tgt := 136) hx hb dX1_measure_129 (by decide) (fun c_130 => ?_) (fun c_130 => ?_)
      · have n_131 : ¬ (τ 4 q_10) = 0 := fun h9 => (show ¬ nI (τ 4 q_10) = nI 0 from c_130) ((nI_eq (by omega) (by omega)).mpr h9)
        refine lv_iconst (v := 0) hx hb dX1_measure_136 (by decide) ?_
        refine lv_istore_n (lv' := [(3, .int 0), (2, .float r_82), (1, .float r_76), (0, .ref a)]) hx hb dX1_measure_137 rfl hl (by decide) rfl (fun ls hl => ?_)
        refine lv_aload_n hx hb dX1_measure_138 rfl (lv_at hl 3 rfl) ?_
        refine lv_aload_n hx hb dX1_measure_139 rfl (lv_at hl 3 rfl) ?_
        refine kp_get hx hb hts i_X1 hown hK hP hI hh_a rfl rfl 13 (by decide) (by decide) (hts (.fieldLink RX1 89 "IslandSolver$Row" "stiffness" "F") (by decide +kernel)) (fun _ h9 => h9) dX1_measure_140 (kq_P (v0 := .float z_111) rfl kup_self fun h_133 => ?_)
        refine lv_ldcf (v := 897581056) hx hb hown (hts (.constantFloat RX1 92 (897581056)) (by decide +kernel)) dX1_measure_143 ?_
        have hc_134 : fb 897581056 897581056 := by unfold fb; decide +kernel
        refine lv_fcmp hx hb dX1_measure_145 ?_
        refine lv_if_lt (tgt := 153) hx hb dX1_measure_146 (by decide) (fun c_135 => ?_) (fun c_135 => ?_)
        · refine lv_iconst (v := 1) hx hb dX1_measure_153 (by decide) ?_
          refine lv_goto (tgt := 158) hx hb dX1_measure_154 (by decide) ?_
          refine kp_putP (v := .int 1) (ty := .boolean) hx hb hts i_X1 tyX1 tyX1_ok nmX1 hown hK hP hD hS hI hh_a rfl rfl 14 (by decide) (by decide) (hts (.fieldLink RX1 93 "IslandSolver$Row" "dead" "Z") (by decide +kernel)) (fun _ h9 => h9) rfl (by decide +kernel) rfl rfl rfl (kv_Z (Or.inr rfl)) dX1_measure_158 (fun f H locs hI hP hD hS => ?_)
          refine W.widen (k := 0) (n := 0) (Nat.le_of_ble_eq_true rfl) (Nat.le_of_ble_eq_true rfl) ?_
          exact W.vret hx hb hr (fun t ht hW9 => ⟨⟨(u_105.1, f), rfl, ⟨z_111, 1, (fun h9 => absurd h9 (by decide)), hI⟩, by rw [ht]; exact hP, va_K.moved hW9.alike hK, hD⟩, hS.F ht⟩) hS.2.2 dX1_measure_161
        · refine lv_iload_n hx hb dX1_measure_149 rfl (lv_at hl 0 rfl) ?_
          refine lv_if_eq (tgt := 157) hx hb dX1_measure_150 (by decide) (fun _ => ?_) (fun h9 => by first | exact absurd h9 (by decide) | exact absurd (by decide) h9)
          refine lv_iconst (v := 0) hx hb dX1_measure_157 (by decide) ?_
          refine kp_putP (v := .int 0) (ty := .boolean) hx hb hts i_X1 tyX1 tyX1_ok nmX1 hown hK hP hD hS hI hh_a rfl rfl 14 (by decide) (by decide) (hts (.fieldLink RX1 93 "IslandSolver$Row" "dead" "Z") (by decide +kernel)) (fun _ h9 => h9) rfl (by decide +kernel) rfl rfl rfl (kv_Z (Or.inl rfl)) dX1_measure_158 (fun f H locs hI hP hD hS => ?_)
          refine W.widen (k := 0) (n := 0) (Nat.le_of_ble_eq_true rfl) (Nat.le_of_ble_eq_true rfl) ?_
          exact W.vret hx hb hr (fun t ht hW9 => ⟨⟨(u_105.1, f), rfl, ⟨z_111, 0, (fun _ => kf_least hz_112 (by decide) (Int32.not_lt.mp c_135)), hI⟩, by rw [ht]; exact hP, va_K.moved hW9.alike hK, hD⟩, hS.F ht⟩) hS.2.2 dX1_measure_161
      · have n_136 : (τ 4 q_10) = 0 := (nI_eq (by omega) (by omega)).mp (show nI (τ 4 q_10) = nI 0 from c_130)
        refine lv_iconst (v := 1) hx hb dX1_measure_132 (by decide) ?_
        refine lv_goto (tgt := 137) hx hb dX1_measure_133 (by decide) ?_
        refine lv_istore_n (lv' := [(3, .int 1), (2, .float r_82), (1, .float r_76), (0, .ref a)]) hx hb dX1_measure_137 rfl hl (by decide) rfl (fun ls hl => ?_)
        refine lv_aload_n hx hb dX1_measure_138 rfl (lv_at hl 3 rfl) ?_
        refine lv_aload_n hx hb dX1_measure_139 rfl (lv_at hl 3 rfl) ?_
        refine kp_get hx hb hts i_X1 hown hK hP hI hh_a rfl rfl 13 (by decide) (by decide) (hts (.fieldLink RX1 89 "IslandSolver$Row" "stiffness" "F") (by decide +kernel)) (fun _ h9 => h9) dX1_measure_140 (kq_P (v0 := .float z_111) rfl kup_self fun h_138 => ?_)
        refine lv_ldcf (v := 897581056) hx hb hown (hts (.constantFloat RX1 92 (897581056)) (by decide +kernel)) dX1_measure_143 ?_
        have hc_139 : fb 897581056 897581056 := by unfold fb; decide +kernel
        refine lv_fcmp hx hb dX1_measure_145 ?_
        refine lv_if_lt (tgt := 153) hx hb dX1_measure_146 (by decide) (fun c_140 => ?_) (fun c_140 => ?_)
        · refine lv_iconst (v := 1) hx hb dX1_measure_153 (by decide) ?_
          refine lv_goto (tgt := 158) hx hb dX1_measure_154 (by decide) ?_
          refine kp_putP (v := .int 1) (ty := .boolean) hx hb hts i_X1 tyX1 tyX1_ok nmX1 hown hK hP hD hS hI hh_a rfl rfl 14 (by decide) (by decide) (hts (.fieldLink RX1 93 "IslandSolver$Row" "dead" "Z") (by decide +kernel)) (fun _ h9 => h9) rfl (by decide +kernel) rfl rfl rfl (kv_Z (Or.inr rfl)) dX1_measure_158 (fun f H locs hI hP hD hS => ?_)
          refine W.widen (k := 0) (n := 0) (Nat.le_of_ble_eq_true rfl) (Nat.le_of_ble_eq_true rfl) ?_
          exact W.vret hx hb hr (fun t ht hW9 => ⟨⟨(u_105.1, f), rfl, ⟨z_111, 1, (fun h9 => absurd h9 (by decide)), hI⟩, by rw [ht]; exact hP, va_K.moved hW9.alike hK, hD⟩, hS.F ht⟩) hS.2.2 dX1_measure_161
        · refine lv_iload_n hx hb dX1_measure_149 rfl (lv_at hl 0 rfl) ?_
          refine lv_if_eq (tgt := 157) hx hb dX1_measure_150 (by decide) (fun h9 => by first | exact absurd h9 (by decide) | exact absurd (by decide) h9) (fun _ => ?_)
          refine lv_iconst (v := 1) hx hb dX1_measure_153 (by decide) ?_
          refine lv_goto (tgt := 158) hx hb dX1_measure_154 (by decide) ?_
          refine kp_putP (v := .int 1) (ty := .boolean) hx hb hts i_X1 tyX1 tyX1_ok nmX1 hown hK hP hD hS hI hh_a rfl rfl 14 (by decide) (by decide) (hts (.fieldLink RX1 93 "IslandSolver$Row" "dead" "Z") (by decide +kernel)) (fun _ h9 => h9) rfl (by decide +kernel) rfl rfl rfl (kv_Z (Or.inr rfl)) dX1_measure_158 (fun f H locs hI hP hD hS => ?_)
          refine W.widen (k := 0) (n := 0) (Nat.le_of_ble_eq_true rfl) (Nat.le_of_ble_eq_true rfl) ?_
          exact W.vret hx hb hr (fun t ht hW9 => ⟨⟨(u_105.1, f), rfl, ⟨z_111, 1, (fun h9 => absurd h9 (by decide)), hI⟩, by rw [ht]; exact hP, va_K.moved hW9.alike hK, hD⟩, hS.F ht⟩) hS.2.2 dX1_measure_161
set_option maxHeartbeats 4000000 in
set_option maxRecDepth 100000 in
theorem k_held (l : Launch) (dC : Nat → ClassId) (dI : Nat → Nat → Nat) (dA : Nat → ClassId) (ad sz : Nat) (τ : Nat → Nat → Nat) (pv : Nat → Nat → Value) (L : List Nat) (f : Nat → va_E) (hI : kI dA τ pv L f) (a : Nat) (hh_a : τ 0 a = 2) (A0 : Nat) (x : UInt32) (hx0 : fb A0 x) (hA0 : A0 < 2139095040) : Met l yX1_held wsX1_held ({ frames := 1, cells := 0, slots := 0, locals := 22 } : Room) (va_Pc [.ref a, .float x] (kB dC dI dA ad sz L f)) (va_Qf (fun r u => fb 1224736768 r ∧ (τ 2 a = 0 → fb 1199570944 r) ∧ kI dA τ pv u.1 u.2) (kR dC dI dA (va_A (va_pl L f) sz)) (va_A (va_pl L f) sz)) 0 0 (va_A (va_pl L f) sz) := by
  refine Met.ofW (cc := cX1_held) (maxL := 3) (ret := (some .float)) (by decide) rfl ?_
  intro p e s m args below meth c s₁ B hml hv
  obtain ⟨rfl, hsz, hP, hK, hD0, hE⟩ := hv
  have hx := B.exec
  have hb := B.bytes
  have hr := B.returns
  have hts := atoms_spec (ws := wsX1_held) B.pre
  have hown : s.vm.findClass RX1 = some m.cls := findClass_of_methodNamed B.named
  have hlocks := B.notSynchronized
  have i_X1 : ∀ w ∈ u_ws RX1 TX1 18, w ∈ wsX1_held := by decide +kernel
  subst hsz
  have hD := hD0.self (sz := s.heap.size)
  generalize hAe : va_A (va_pl L f) s.heap.size = A at hD hE ⊢
  have hA : ∀ q : Nat, s.heap.size ≤ q → A q := fun q h => by rw [← hAe]; exact Or.inr h
  have hS : va_S A s.heap s.heap [] := va_S.rf
  have hP : va_P (dC, dI) vwCl (va_pl L f) s.heap := hP
  have hK : va_K (dC, dI) vwCl (tyA dA) s := hK
  have hl := lv_entry ([.ref a, .float x]) (n := 3) (Nat.le_of_ble_eq_true rfl)
  rw [lg_entry_eq]
  generalize (lg_sl ([.ref a, .float x]) ++ List.replicate (3 - (lg_sl ([.ref a, .float x])).length) Slot.unset).toArray = ls at hl ⊢
  have hl : lv_has ls 3 [(0, .ref a), (1, .float x)] := hl
  refine lv_aload_n hx hb dX1_held_0 rfl (lv_at hl 0 rfl) ?_
  refine kp_get hx hb hts i_X1 hown hK hP hI hh_a rfl rfl 9 (by decide) (by decide) (hts (.fieldLink RX1 96 "IslandSolver$Row" "at" "LIslandSolver$Row;") (by decide +kernel)) (fun _ h9 => h9) dX1_held_1 (kq_55 (fun hq_4 => ?_) (fun q_3 hq_4 ht_5 ht_5_2 ht_5_3 => ?_))
  · refine lv_ifnonnullN hx hb dX1_held_4 ?_
    refine lv_fload_n hx hb dX1_held_7 rfl (lv_at hl 1 rfl) ?_
    refine lv_aload_n hx hb dX1_held_8 rfl (lv_at hl 0 rfl) ?_
    refine kp_get hx hb hts i_X1 hown hK hP hI hh_a rfl rfl 7 (by decide) (by decide) (hts (.fieldLink RX1 100 "IslandSolver$Row" "low" "F") (by decide +kernel)) (fun _ h9 => h9) dX1_held_9 (kq_F (cd := 1199570944) (by decide) fun x_6 h_7 => ?_)
    refine lv_aload_n hx hb dX1_held_12 rfl (lv_at hl 0 rfl) ?_
    refine kp_get hx hb hts i_X1 hown hK hP hI hh_a rfl rfl 8 (by decide) (by decide) (hts (.fieldLink RX1 103 "IslandSolver$Row" "high" "F") (by decide +kernel)) (fun _ h9 => h9) dX1_held_13 (kq_F (cd := 1199570944) (by decide) fun x_8 h_9 => ?_)
    refine kd_callf (va_runSN (host := RX3) (As := [.float x, .float x_6, .float x_8]) (rest := []) ⟨hx, hb, hml, hown, hts⟩ (k_hold l dC dI dA ad _ τ pv _ _ hI A0 1199570944 x x_6 x_8 hx0 h_7 h_9 hA0 (by decide)) ⟨va_cnB 3 hts gX1_held_X3_hold_n106 rfl rfl rfl (hE.nest RX1 106 yX3_hold (by decide +kernel)) (hts (.initialized RX3) (by decide +kernel)) (by decide +kernel) ⟨Nat.le_of_ble_eq_true rfl, Nat.le_of_ble_eq_true rfl⟩, (hts (.static yX3_hold) (by decide +kernel)), trivial⟩ (kd_preS hP hD hK hS hA hE) rfl rfl hl.1 rfl (lv_room (Nat.le_of_ble_eq_true rfl)) dX1_held_16 ⟨Nat.le_of_ble_eq_true rfl, Nat.le_of_ble_eq_true rfl⟩) hD hS hA (fun r_11 u_10 H locs hw hP hD hS => ?_)
    obtain ⟨hr_11, hI⟩ := hw
    refine W.widen (k := 0) (n := 0) (Nat.le_of_ble_eq_true rfl) (Nat.le_of_ble_eq_true rfl) ?_
    exact W.fret (v := r_11) hx hb hr (fun t ht hW9 => ⟨⟨r_11, (u_10.1, u_10.2), rfl, ⟨(fb_le hr_11 (by decide)), fun _ => hr_11, hI⟩, by rw [ht]; exact hP, va_K.moved hW9.alike hK, hD⟩, hS.F ht⟩) hS.2.2 dX1_held_19
  · refine lv_ifnonnull (tgt := 20) hx hb dX1_held_4 (by decide) ?_
    refine lv_aload_n hx hb dX1_held_20 rfl (lv_at hl 0 rfl) ?_
    refine kp_get hx hb hts i_X1 hown hK hP hI hh_a rfl rfl 10 (by decide) (by decide) (hts (.fieldLink RX1 110 "IslandSolver$Row" "friction" "F") (by decide +kernel)) (fun _ h9 => h9) dX1_held_21 (kq_F (cd := 1090519040) (by decide) fun x_12 h_13 => ?_)
    refine lv_aload_n hx hb dX1_held_24 rfl (lv_at hl 0 rfl) ?_
    refine kp_get hx hb hts i_X1 hown hK hP hI hh_a rfl rfl 9 (by decide) (by decide) (hts (.fieldLink RX1 96 "IslandSolver$Row" "at" "LIslandSolver$Row;") (by decide +kernel)) (fun _ h9 => h9) dX1_held_25 (kq_55s hq_4 fun h_15 => ?_)
    refine kp_get hx hb hts i_X1 hown hK hP hI h_15.1 rfl rfl 12 (by decide) (by decide) (hts (.fieldLink RX1 113 "IslandSolver$Row" "impulse" "F") (by decide +kernel)) (fun _ h9 => h9) dX1_held_28 (kq_56 fun x_16 h_17 h_17_2 => ?_)
    refine kw_fmul (M := 1224736768) hx hb dX1_held_31 h_13 (h_17_2 ht_5_2) (by decide) (by decide) (by decide +kernel) (by decide) (fun z_18 hz_19 => ?_)
    refine lv_fstore_n (lv' := [(2, .float z_18), (0, .ref a), (1, .float x)]) hx hb dX1_held_32 rfl hl (by decide) rfl (fun ls hl => ?_)
    refine lv_fload_n hx hb dX1_held_33 rfl (lv_at hl 0 rfl) ?_
    refine lv_fconst0 hx hb dX1_held_34 ?_
    refine lv_fcmp hx hb dX1_held_35 ?_
    refine lv_if_ge (tgt := 41) hx hb dX1_held_36 (by decide) (fun c_20 => ?_) (fun c_20 => ?_)
    · refine lv_fload_n hx hb dX1_held_41 rfl (lv_at hl 2 rfl) ?_
      refine lv_fconst0 hx hb dX1_held_42 ?_
      refine lv_fload_n hx hb dX1_held_43 rfl (lv_at hl 0 rfl) ?_
      refine kw_fsub (M := 1224736768) hx hb dX1_held_44 kc_0 hz_19 (by decide) (by decide) (by decide +kernel) (by decide) (fun z_21 hz_22 => ?_)
      refine lv_fload_n hx hb dX1_held_45 rfl (lv_at hl 0 rfl) ?_
      refine kd_callf (va_runSN (host := RX3) (As := [.float x, .float z_21, .float z_18]) (rest := []) ⟨hx, hb, hml, hown, hts⟩ (k_hold l dC dI dA ad _ τ pv _ _ hI A0 1224736768 x z_21 z_18 hx0 hz_22 hz_19 hA0 (by decide)) ⟨va_cnB 3 hts gX1_held_X3_hold_n106 rfl rfl rfl (hE.nest RX1 106 yX3_hold (by decide +kernel)) (hts (.initialized RX3) (by decide +kernel)) (by decide +kernel) ⟨Nat.le_of_ble_eq_true rfl, Nat.le_of_ble_eq_true rfl⟩, (hts (.static yX3_hold) (by decide +kernel)), trivial⟩ (kd_preS hP hD hK hS hA hE) rfl rfl hl.1 rfl (lv_room (Nat.le_of_ble_eq_true rfl)) dX1_held_46 ⟨Nat.le_of_ble_eq_true rfl, Nat.le_of_ble_eq_true rfl⟩) hD hS hA (fun r_24 u_23 H locs hw hP hD hS => ?_)
      obtain ⟨hr_24, hI⟩ := hw
      refine W.widen (k := 0) (n := 0) (Nat.le_of_ble_eq_true rfl) (Nat.le_of_ble_eq_true rfl) ?_
      exact W.fret (v := r_24) hx hb hr (fun t ht hW9 => ⟨⟨r_24, (u_23.1, u_23.2), rfl, ⟨hr_24, fun h9 => absurd (hq_4.symm.trans h9) (Nat.succ_ne_zero _), hI⟩, by rw [ht]; exact hP, va_K.moved hW9.alike hK, hD⟩, hS.F ht⟩) hS.2.2 dX1_held_49
    · refine lv_fconst0 hx hb dX1_held_39 ?_
      refine lv_fstore_n (lv' := [(2, .float FP.fconst0), (0, .ref a), (1, .float x)]) hx hb dX1_held_40 rfl hl (by decide) rfl (fun ls hl => ?_)
      refine lv_fload_n hx hb dX1_held_41 rfl (lv_at hl 2 rfl) ?_
      refine lv_fconst0 hx hb dX1_held_42 ?_
      refine lv_fload_n hx hb dX1_held_43 rfl (lv_at hl 0 rfl) ?_
      refine kw_fsub (M := 0) hx hb dX1_held_44 kc_0 kc_0 (by decide) (by decide) (by decide +kernel) (by decide) (fun z_25 hz_26 => ?_)
      refine lv_fload_n hx hb dX1_held_45 rfl (lv_at hl 0 rfl) ?_
      refine kd_callf (va_runSN (host := RX3) (As := [.float x, .float z_25, .float FP.fconst0]) (rest := []) ⟨hx, hb, hml, hown, hts⟩ (k_hold l dC dI dA ad _ τ pv _ _ hI A0 0 x z_25 FP.fconst0 hx0 hz_26 kc_0 hA0 (by decide)) ⟨va_cnB 3 hts gX1_held_X3_hold_n106 rfl rfl rfl (hE.nest RX1 106 yX3_hold (by decide +kernel)) (hts (.initialized RX3) (by decide +kernel)) (by decide +kernel) ⟨Nat.le_of_ble_eq_true rfl, Nat.le_of_ble_eq_true rfl⟩, (hts (.static yX3_hold) (by decide +kernel)), trivial⟩ (kd_preS hP hD hK hS hA hE) rfl rfl hl.1 rfl (lv_room (Nat.le_of_ble_eq_true rfl)) dX1_held_46 ⟨Nat.le_of_ble_eq_true rfl, Nat.le_of_ble_eq_true rfl⟩) hD hS hA (fun r_28 u_27 H locs hw hP hD hS => ?_)
      obtain ⟨hr_28, hI⟩ := hw
      refine W.widen (k := 0) (n := 0) (Nat.le_of_ble_eq_true rfl) (Nat.le_of_ble_eq_true rfl) ?_
      exact W.fret (v := r_28) hx hb hr (fun t ht hW9 => ⟨⟨r_28, (u_27.1, u_27.2), rfl, ⟨(fb_le hr_28 (by decide)), fun h9 => absurd (hq_4.symm.trans h9) (Nat.succ_ne_zero _), hI⟩, by rw [ht]; exact hP, va_K.moved hW9.alike hK, hD⟩, hS.F ht⟩) hS.2.2 dX1_held_49
set_option maxHeartbeats 4000000 in
set_option maxRecDepth 100000 in
theorem k_push (l : Launch) (dC : Nat → ClassId) (dI : Nat → Nat → Nat) (dA : Nat → ClassId) (ad sz : Nat) (τ : Nat → Nat → Nat) (pv : Nat → Nat → Value) (L : List Nat) (f : Nat → va_E) (hI : kI dA τ pv L f) (a : Nat) (hh_a : τ 0 a = 2) (x : UInt32) (hh_x : fb 1233125376 x) : Met l yX1_push wsX1_push ({ frames := 1, cells := 0, slots := 0, locals := 22 } : Room) (va_Pc [.ref a, .float x] (kB dC dI dA ad sz L f)) (va_Qv (fun u => kI dA τ pv u.1 u.2) (kR dC dI dA (va_A (va_pl L f) sz)) (va_A (va_pl L f) sz)) 0 0 (va_A (va_pl L f) sz) := by
  refine Met.ofW (cc := cX1_push) (maxL := 2) (ret := none) (by decide) rfl ?_
  intro p e s m args below meth c s₁ B hml hv
  obtain ⟨rfl, hsz, hP, hK, hD0, hE⟩ := hv
  have hx := B.exec
  have hb := B.bytes
  have hr := B.returns
  have hts := atoms_spec (ws := wsX1_push) B.pre
  have hown : s.vm.findClass RX1 = some m.cls := findClass_of_methodNamed B.named
  have hlocks := B.notSynchronized
  have i_X1 : ∀ w ∈ u_ws RX1 TX1 18, w ∈ wsX1_push := by decide +kernel
  have i_X0 : ∀ w ∈ u_ws RX0 TX0 16, w ∈ wsX1_push := by decide +kernel
  subst hsz
  have hD := hD0.self (sz := s.heap.size)
  generalize hAe : va_A (va_pl L f) s.heap.size = A at hD hE ⊢
  have hA : ∀ q : Nat, s.heap.size ≤ q → A q := fun q h => by rw [← hAe]; exact Or.inr h
  have hS : va_S A s.heap s.heap [] := va_S.rf
  have hP : va_P (dC, dI) vwCl (va_pl L f) s.heap := hP
  have hK : va_K (dC, dI) vwCl (tyA dA) s := hK
  have hl := lv_entry ([.ref a, .float x]) (n := 2) (Nat.le_of_ble_eq_true rfl)
  rw [lg_entry_eq]
  generalize (lg_sl ([.ref a, .float x]) ++ List.replicate (2 - (lg_sl ([.ref a, .float x])).length) Slot.unset).toArray = ls at hl ⊢
  have hl : lv_has ls 2 [(0, .ref a), (1, .float x)] := hl
  refine lv_aload_n hx hb dX1_push_0 rfl (lv_at hl 0 rfl) ?_
  refine kp_get hx hb hts i_X1 hown hK hP hI hh_a rfl rfl 0 (by decide) (by decide) (hts (.fieldLink RX1 30 "IslandSolver$Row" "a" "LIslandSolver$Body;") (by decide +kernel)) (fun _ h9 => h9) dX1_push_1 (kq_C (by decide) fun x_1 h_2 => ?_)
  obtain ⟨rfl, h_2⟩ := h_2
  refine kp_get hx hb hts i_X0 hown hK hP hI h_2 rfl rfl 1 (by decide) (by decide) (hts (.fieldLink RX1 57 "IslandSolver$Body" "movable" "Z") (by decide +kernel)) (fun _ h9 => h9) dX1_push_4 (kq_51 fun h_4 => ?_)
  refine lv_if_eq (tgt := 48) hx hb dX1_push_7 (by decide) (fun c_5 => ?_) (fun c_5 => ?_)
  · have n_6 : (τ 4 (τ 5 a)) = 0 := (nI_eq (by omega) (by omega)).mp (show nI (τ 4 (τ 5 a)) = nI 0 from c_5)
    refine lv_aload_n hx hb dX1_push_48 rfl (lv_at hl 0 rfl) ?_
    refine kp_get hx hb hts i_X1 hown hK hP hI hh_a rfl rfl 1 (by decide) (by decide) (hts (.fieldLink RX1 34 "IslandSolver$Row" "b" "LIslandSolver$Body;") (by decide +kernel)) (fun _ h9 => h9) dX1_push_49 (kq_54 (fun hq_10 => ?_) (fun q_9 hq_10 ht_11 => ?_))
    · refine lv_ifnullN (tgt := 103) hx hb dX1_push_52 (by decide) ?_
      refine W.widen (k := 0) (n := 0) (Nat.le_of_ble_eq_true rfl) (Nat.le_of_ble_eq_true rfl) ?_
      exact W.vret hx hb hr (fun t ht hW9 => ⟨⟨(L, f), rfl, hI, by rw [ht]; exact hP, va_K.moved hW9.alike hK, hD⟩, hS.F ht⟩) hS.2.2 dX1_push_103
    · refine lv_ifnull hx hb dX1_push_52 ?_
      refine lv_aload_n hx hb dX1_push_55 rfl (lv_at hl 0 rfl) ?_
      refine kp_get hx hb hts i_X1 hown hK hP hI hh_a rfl rfl 1 (by decide) (by decide) (hts (.fieldLink RX1 34 "IslandSolver$Row" "b" "LIslandSolver$Body;") (by decide +kernel)) (fun _ h9 => h9) dX1_push_56 (kq_54s hq_10 fun h_13 => ?_)
      refine kp_get hx hb hts i_X0 hown hK hP hI h_13 rfl rfl 1 (by decide) (by decide) (hts (.fieldLink RX1 57 "IslandSolver$Body" "movable" "Z") (by decide +kernel)) (fun _ h9 => h9) dX1_push_59 (kq_51 fun h_15 => ?_)
      refine lv_if_eq (tgt := 103) hx hb dX1_push_62 (by decide) (fun c_16 => ?_) (fun c_16 => ?_)
      · have n_17 : (τ 4 q_9) = 0 := (nI_eq (by omega) (by omega)).mp (show nI (τ 4 q_9) = nI 0 from c_16)
        refine W.widen (k := 0) (n := 0) (Nat.le_of_ble_eq_true rfl) (Nat.le_of_ble_eq_true rfl) ?_
        exact W.vret hx hb hr (fun t ht hW9 => ⟨⟨(L, f), rfl, hI, by rw [ht]; exact hP, va_K.moved hW9.alike hK, hD⟩, hS.F ht⟩) hS.2.2 dX1_push_103
      · have n_18 : ¬ (τ 4 q_9) = 0 := fun h9 => (show ¬ nI (τ 4 q_9) = nI 0 from c_16) ((nI_eq (by omega) (by omega)).mpr h9)
        refine lv_aload_n hx hb dX1_push_65 rfl (lv_at hl 0 rfl) ?_
        refine kp_get hx hb hts i_X1 hown hK hP hI hh_a rfl rfl 1 (by decide) (by decide) (hts (.fieldLink RX1 34 "IslandSolver$Row" "b" "LIslandSolver$Body;") (by decide +kernel)) (fun _ h9 => h9) dX1_push_66 (kq_54s hq_10 fun h_20 => ?_)
        refine kp_get hx hb hts i_X0 hown hK hP hI h_20 rfl rfl 9 (by decide) (by decide) (hts (.fieldLink RX1 68 "IslandSolver$Body" "v" "LIslandSolver$Vec;") (by decide +kernel)) (fun _ h9 => h9) dX1_push_69 (kq_R 3 (by decide) fun x_21 h_22 => ?_)
        refine lv_aload_n hx hb dX1_push_72 rfl (lv_at hl 0 rfl) ?_
        refine kp_get hx hb hts i_X1 hown hK hP hI hh_a rfl rfl 2 (by decide) (by decide) (hts (.fieldLink RX1 12 "IslandSolver$Row" "n" "LIslandSolver$Vec;") (by decide +kernel)) (fun _ h9 => h9) dX1_push_73 (kq_R 4 (by decide) fun x_23 h_24 => ?_)
        refine lv_aload_n hx hb dX1_push_76 rfl (lv_at hl 0 rfl) ?_
        refine kp_get hx hb hts i_X1 hown hK hP hI hh_a rfl rfl 1 (by decide) (by decide) (hts (.fieldLink RX1 34 "IslandSolver$Row" "b" "LIslandSolver$Body;") (by decide +kernel)) (fun _ h9 => h9) dX1_push_77 (kq_54s hq_10 fun h_26 => ?_)
        refine kp_get hx hb hts i_X0 hown hK hP hI h_26 rfl rfl 2 (by decide) (by decide) (hts (.fieldLink RX1 130 "IslandSolver$Body" "w" "F") (by decide +kernel)) (fun _ h9 => h9) dX1_push_80 (kq_F (cd := 1098907648) (by decide) fun x_27 h_28 => ?_)
        refine lv_fload_n hx hb dX1_push_83 rfl (lv_at hl 1 rfl) ?_
        refine kw_fmul (M := 1266679808) hx hb dX1_push_84 h_28 hh_x (by decide) (by decide) (by decide +kernel) (by decide) (fun z_29 hz_30 => ?_)
        refine kd_callv (va_runV (As := [.ref x_23, .float z_29]) (rest := []) ⟨hx, hb, hml, hown, hts⟩ (k_subtract4 l dC dI dA ad _ τ pv _ _ hI x_21 h_22 x_23 h_24 z_29 hz_30) (cwV 2 hts gX1_push_X2_subtract rfl rfl rfl (by decide +kernel) ⟨Nat.le_of_ble_eq_true rfl, Nat.le_of_ble_eq_true rfl⟩) (kd_preV hP hD hK hS hA hE hI h_22 rfl rfl) rfl rfl hl.1 rfl (lv_room (Nat.le_of_ble_eq_true rfl)) dX1_push_85 ⟨Nat.le_of_ble_eq_true rfl, Nat.le_of_ble_eq_true rfl⟩) hD hS hA (fun u_31 H locs hw hP hD hS => ?_)
        have hI := hw
        refine lv_aload_n hx hb dX1_push_88 rfl (lv_at hl 0 rfl) ?_
        refine kp_get hx hb hts i_X1 hown hK hP hI hh_a rfl rfl 1 (by decide) (by decide) (hts (.fieldLink RX1 34 "IslandSolver$Row" "b" "LIslandSolver$Body;") (by decide +kernel)) (fun _ h9 => h9) dX1_push_89 (kq_54s hq_10 fun h_33 => ?_)
        refine kp_get hx hb hts i_X0 hown hK hP hI h_33 rfl rfl 10 (by decide) (by decide) (hts (.fieldLink RX1 75 "IslandSolver$Body" "s" "LIslandSolver$Vec;") (by decide +kernel)) (fun _ h9 => h9) dX1_push_92 (kq_R 3 (by decide) fun x_34 h_35 => ?_)
        refine lv_aload_n hx hb dX1_push_95 rfl (lv_at hl 0 rfl) ?_
        refine kp_get hx hb hts i_X1 hown hK hP hI hh_a rfl rfl 16 (by decide) (by decide) (hts (.fieldLink RX1 27 "IslandSolver$Row" "turnB" "LIslandSolver$Vec;") (by decide +kernel)) (fun _ h9 => h9) dX1_push_96 (kq_R 5 (by decide) fun x_36 h_37 => ?_)
        refine lv_fload_n hx hb dX1_push_99 rfl (lv_at hl 1 rfl) ?_
        refine kd_callv (va_runV (As := [.ref x_36, .float x]) (rest := []) ⟨hx, hb, hml, hown, hts⟩ (k_subtract5 l dC dI dA ad _ τ pv _ _ hI x_34 h_35 x_36 h_37 x hh_x) (cwV 2 hts gX1_push_X2_subtract rfl rfl rfl (by decide +kernel) ⟨Nat.le_of_ble_eq_true rfl, Nat.le_of_ble_eq_true rfl⟩) (kd_preV hP hD hK hS hA hE hI h_35 rfl rfl) rfl rfl hl.1 rfl (lv_room (Nat.le_of_ble_eq_true rfl)) dX1_push_100 ⟨Nat.le_of_ble_eq_true rfl, Nat.le_of_ble_eq_true rfl⟩) hD hS hA (fun u_38 H locs hw hP hD hS => ?_)
        have hI := hw
        refine W.widen (k := 0) (n := 0) (Nat.le_of_ble_eq_true rfl) (Nat.le_of_ble_eq_true rfl) ?_
        exact W.vret hx hb hr (fun t ht hW9 => ⟨⟨(u_38.1, u_38.2), rfl, hI, by rw [ht]; exact hP, va_K.moved hW9.alike hK, hD⟩, hS.F ht⟩) hS.2.2 dX1_push_103
  · have n_39 : ¬ (τ 4 (τ 5 a)) = 0 := fun h9 => (show ¬ nI (τ 4 (τ 5 a)) = nI 0 from c_5) ((nI_eq (by omega) (by omega)).mpr h9)
    refine lv_aload_n hx hb dX1_push_10 rfl (lv_at hl 0 rfl) ?_
    refine kp_get hx hb hts i_X1 hown hK hP hI hh_a rfl rfl 0 (by decide) (by decide) (hts (.fieldLink RX1 30 "IslandSolver$Row" "a" "LIslandSolver$Body;") (by decide +kernel)) (fun _ h9 => h9) dX1_push_11 (kq_C (by decide) fun x_40 h_41 => ?_)
    obtain ⟨rfl, h_41⟩ := h_41
    refine kp_get hx hb hts i_X0 hown hK hP hI h_41 rfl rfl 9 (by decide) (by decide) (hts (.fieldLink RX1 68 "IslandSolver$Body" "v" "LIslandSolver$Vec;") (by decide +kernel)) (fun _ h9 => h9) dX1_push_14 (kq_R 3 (by decide) fun x_42 h_43 => ?_)
    refine lv_aload_n hx hb dX1_push_17 rfl (lv_at hl 0 rfl) ?_
    refine kp_get hx hb hts i_X1 hown hK hP hI hh_a rfl rfl 2 (by decide) (by decide) (hts (.fieldLink RX1 12 "IslandSolver$Row" "n" "LIslandSolver$Vec;") (by decide +kernel)) (fun _ h9 => h9) dX1_push_18 (kq_R 4 (by decide) fun x_44 h_45 => ?_)
    refine lv_aload_n hx hb dX1_push_21 rfl (lv_at hl 0 rfl) ?_
    refine kp_get hx hb hts i_X1 hown hK hP hI hh_a rfl rfl 0 (by decide) (by decide) (hts (.fieldLink RX1 30 "IslandSolver$Row" "a" "LIslandSolver$Body;") (by decide +kernel)) (fun _ h9 => h9) dX1_push_22 (kq_C (by decide) fun x_46 h_47 => ?_)
    obtain ⟨rfl, h_47⟩ := h_47
    refine kp_get hx hb hts i_X0 hown hK hP hI h_47 rfl rfl 2 (by decide) (by decide) (hts (.fieldLink RX1 130 "IslandSolver$Body" "w" "F") (by decide +kernel)) (fun _ h9 => h9) dX1_push_25 (kq_F (cd := 1098907648) (by decide) fun x_48 h_49 => ?_)
    refine lv_fload_n hx hb dX1_push_28 rfl (lv_at hl 1 rfl) ?_
    refine kw_fmul (M := 1266679808) hx hb dX1_push_29 h_49 hh_x (by decide) (by decide) (by decide +kernel) (by decide) (fun z_50 hz_51 => ?_)
    refine kd_callv (va_runV (As := [.ref x_44, .float z_50]) (rest := []) ⟨hx, hb, hml, hown, hts⟩ (k_add4 l dC dI dA ad _ τ pv _ _ hI x_42 h_43 x_44 h_45 z_50 hz_51) (cwV 2 hts gX1_push_X2_add rfl rfl rfl (by decide +kernel) ⟨Nat.le_of_ble_eq_true rfl, Nat.le_of_ble_eq_true rfl⟩) (kd_preV hP hD hK hS hA hE hI h_43 rfl rfl) rfl rfl hl.1 rfl (lv_room (Nat.le_of_ble_eq_true rfl)) dX1_push_30 ⟨Nat.le_of_ble_eq_true rfl, Nat.le_of_ble_eq_true rfl⟩) hD hS hA (fun u_52 H locs hw hP hD hS => ?_)
    have hI := hw
    refine lv_aload_n hx hb dX1_push_33 rfl (lv_at hl 0 rfl) ?_
    refine kp_get hx hb hts i_X1 hown hK hP hI hh_a rfl rfl 0 (by decide) (by decide) (hts (.fieldLink RX1 30 "IslandSolver$Row" "a" "LIslandSolver$Body;") (by decide +kernel)) (fun _ h9 => h9) dX1_push_34 (kq_C (by decide) fun x_53 h_54 => ?_)
    obtain ⟨rfl, h_54⟩ := h_54
    refine kp_get hx hb hts i_X0 hown hK hP hI h_54 rfl rfl 10 (by decide) (by decide) (hts (.fieldLink RX1 75 "IslandSolver$Body" "s" "LIslandSolver$Vec;") (by decide +kernel)) (fun _ h9 => h9) dX1_push_37 (kq_R 3 (by decide) fun x_55 h_56 => ?_)
    refine lv_aload_n hx hb dX1_push_40 rfl (lv_at hl 0 rfl) ?_
    refine kp_get hx hb hts i_X1 hown hK hP hI hh_a rfl rfl 15 (by decide) (by decide) (hts (.fieldLink RX1 24 "IslandSolver$Row" "turnA" "LIslandSolver$Vec;") (by decide +kernel)) (fun _ h9 => h9) dX1_push_41 (kq_R 5 (by decide) fun x_57 h_58 => ?_)
    refine lv_fload_n hx hb dX1_push_44 rfl (lv_at hl 1 rfl) ?_
    refine kd_callv (va_runV (As := [.ref x_57, .float x]) (rest := []) ⟨hx, hb, hml, hown, hts⟩ (k_add5 l dC dI dA ad _ τ pv _ _ hI x_55 h_56 x_57 h_58 x hh_x) (cwV 2 hts gX1_push_X2_add rfl rfl rfl (by decide +kernel) ⟨Nat.le_of_ble_eq_true rfl, Nat.le_of_ble_eq_true rfl⟩) (kd_preV hP hD hK hS hA hE hI h_56 rfl rfl) rfl rfl hl.1 rfl (lv_room (Nat.le_of_ble_eq_true rfl)) dX1_push_45 ⟨Nat.le_of_ble_eq_true rfl, Nat.le_of_ble_eq_true rfl⟩) hD hS hA (fun u_59 H locs hw hP hD hS => ?_)
    have hI := hw
    refine lv_aload_n hx hb dX1_push_48 rfl (lv_at hl 0 rfl) ?_
    refine kp_get hx hb hts i_X1 hown hK hP hI hh_a rfl rfl 1 (by decide) (by decide) (hts (.fieldLink RX1 34 "IslandSolver$Row" "b" "LIslandSolver$Body;") (by decide +kernel)) (fun _ h9 => h9) dX1_push_49 (kq_54 (fun hq_63 => ?_) (fun q_62 hq_63 ht_64 => ?_))
    · refine lv_ifnullN (tgt := 103) hx hb dX1_push_52 (by decide) ?_
      refine W.widen (k := 0) (n := 0) (Nat.le_of_ble_eq_true rfl) (Nat.le_of_ble_eq_true rfl) ?_
      exact W.vret hx hb hr (fun t ht hW9 => ⟨⟨(u_59.1, u_59.2), rfl, hI, by rw [ht]; exact hP, va_K.moved hW9.alike hK, hD⟩, hS.F ht⟩) hS.2.2 dX1_push_103
    · refine lv_ifnull hx hb dX1_push_52 ?_
      refine lv_aload_n hx hb dX1_push_55 rfl (lv_at hl 0 rfl) ?_
      refine kp_get hx hb hts i_X1 hown hK hP hI hh_a rfl rfl 1 (by decide) (by decide) (hts (.fieldLink RX1 34 "IslandSolver$Row" "b" "LIslandSolver$Body;") (by decide +kernel)) (fun _ h9 => h9) dX1_push_56 (kq_54s hq_63 fun h_66 => ?_)
      refine kp_get hx hb hts i_X0 hown hK hP hI h_66 rfl rfl 1 (by decide) (by decide) (hts (.fieldLink RX1 57 "IslandSolver$Body" "movable" "Z") (by decide +kernel)) (fun _ h9 => h9) dX1_push_59 (kq_51 fun h_68 => ?_)
      refine lv_if_eq (tgt := 103) hx hb dX1_push_62 (by decide) (fun c_69 => ?_) (fun c_69 => ?_)
      · have n_70 : (τ 4 q_62) = 0 := (nI_eq (by omega) (by omega)).mp (show nI (τ 4 q_62) = nI 0 from c_69)
        refine W.widen (k := 0) (n := 0) (Nat.le_of_ble_eq_true rfl) (Nat.le_of_ble_eq_true rfl) ?_
        exact W.vret hx hb hr (fun t ht hW9 => ⟨⟨(u_59.1, u_59.2), rfl, hI, by rw [ht]; exact hP, va_K.moved hW9.alike hK, hD⟩, hS.F ht⟩) hS.2.2 dX1_push_103
      · have n_71 : ¬ (τ 4 q_62) = 0 := fun h9 => (show ¬ nI (τ 4 q_62) = nI 0 from c_69) ((nI_eq (by omega) (by omega)).mpr h9)
        refine lv_aload_n hx hb dX1_push_65 rfl (lv_at hl 0 rfl) ?_
        refine kp_get hx hb hts i_X1 hown hK hP hI hh_a rfl rfl 1 (by decide) (by decide) (hts (.fieldLink RX1 34 "IslandSolver$Row" "b" "LIslandSolver$Body;") (by decide +kernel)) (fun _ h9 => h9) dX1_push_66 (kq_54s hq_63 fun h_73 => ?_)
        refine kp_get hx hb hts i_X0 hown hK hP hI h_73 rfl rfl 9 (by decide) (by decide) (hts (.fieldLink RX1 68 "IslandSolver$Body" "v" "LIslandSolver$Vec;") (by decide +kernel)) (fun _ h9 => h9) dX1_push_69 (kq_R 3 (by decide) fun x_74 h_75 => ?_)
        refine lv_aload_n hx hb dX1_push_72 rfl (lv_at hl 0 rfl) ?_
        refine kp_get hx hb hts i_X1 hown hK hP hI hh_a rfl rfl 2 (by decide) (by decide) (hts (.fieldLink RX1 12 "IslandSolver$Row" "n" "LIslandSolver$Vec;") (by decide +kernel)) (fun _ h9 => h9) dX1_push_73 (kq_R 4 (by decide) fun x_76 h_77 => ?_)
        refine lv_aload_n hx hb dX1_push_76 rfl (lv_at hl 0 rfl) ?_
        refine kp_get hx hb hts i_X1 hown hK hP hI hh_a rfl rfl 1 (by decide) (by decide) (hts (.fieldLink RX1 34 "IslandSolver$Row" "b" "LIslandSolver$Body;") (by decide +kernel)) (fun _ h9 => h9) dX1_push_77 (kq_54s hq_63 fun h_79 => ?_)
        refine kp_get hx hb hts i_X0 hown hK hP hI h_79 rfl rfl 2 (by decide) (by decide) (hts (.fieldLink RX1 130 "IslandSolver$Body" "w" "F") (by decide +kernel)) (fun _ h9 => h9) dX1_push_80 (kq_F (cd := 1098907648) (by decide) fun x_80 h_81 => ?_)
        refine lv_fload_n hx hb dX1_push_83 rfl (lv_at hl 1 rfl) ?_
        refine kw_fmul (M := 1266679808) hx hb dX1_push_84 h_81 hh_x (by decide) (by decide) (by decide +kernel) (by decide) (fun z_82 hz_83 => ?_)
        refine kd_callv (va_runV (As := [.ref x_76, .float z_82]) (rest := []) ⟨hx, hb, hml, hown, hts⟩ (k_subtract4 l dC dI dA ad _ τ pv _ _ hI x_74 h_75 x_76 h_77 z_82 hz_83) (cwV 2 hts gX1_push_X2_subtract rfl rfl rfl (by decide +kernel) ⟨Nat.le_of_ble_eq_true rfl, Nat.le_of_ble_eq_true rfl⟩) (kd_preV hP hD hK hS hA hE hI h_75 rfl rfl) rfl rfl hl.1 rfl (lv_room (Nat.le_of_ble_eq_true rfl)) dX1_push_85 ⟨Nat.le_of_ble_eq_true rfl, Nat.le_of_ble_eq_true rfl⟩) hD hS hA (fun u_84 H locs hw hP hD hS => ?_)
        have hI := hw
        refine lv_aload_n hx hb dX1_push_88 rfl (lv_at hl 0 rfl) ?_
        refine kp_get hx hb hts i_X1 hown hK hP hI hh_a rfl rfl 1 (by decide) (by decide) (hts (.fieldLink RX1 34 "IslandSolver$Row" "b" "LIslandSolver$Body;") (by decide +kernel)) (fun _ h9 => h9) dX1_push_89 (kq_54s hq_63 fun h_86 => ?_)
        refine kp_get hx hb hts i_X0 hown hK hP hI h_86 rfl rfl 10 (by decide) (by decide) (hts (.fieldLink RX1 75 "IslandSolver$Body" "s" "LIslandSolver$Vec;") (by decide +kernel)) (fun _ h9 => h9) dX1_push_92 (kq_R 3 (by decide) fun x_87 h_88 => ?_)
        refine lv_aload_n hx hb dX1_push_95 rfl (lv_at hl 0 rfl) ?_
        refine kp_get hx hb hts i_X1 hown hK hP hI hh_a rfl rfl 16 (by decide) (by decide) (hts (.fieldLink RX1 27 "IslandSolver$Row" "turnB" "LIslandSolver$Vec;") (by decide +kernel)) (fun _ h9 => h9) dX1_push_96 (kq_R 5 (by decide) fun x_89 h_90 => ?_)
        refine lv_fload_n hx hb dX1_push_99 rfl (lv_at hl 1 rfl) ?_
        refine kd_callv (va_runV (As := [.ref x_89, .float x]) (rest := []) ⟨hx, hb, hml, hown, hts⟩ (k_subtract5 l dC dI dA ad _ τ pv _ _ hI x_87 h_88 x_89 h_90 x hh_x) (cwV 2 hts gX1_push_X2_subtract rfl rfl rfl (by decide +kernel) ⟨Nat.le_of_ble_eq_true rfl, Nat.le_of_ble_eq_true rfl⟩) (kd_preV hP hD hK hS hA hE hI h_88 rfl rfl) rfl rfl hl.1 rfl (lv_room (Nat.le_of_ble_eq_true rfl)) dX1_push_100 ⟨Nat.le_of_ble_eq_true rfl, Nat.le_of_ble_eq_true rfl⟩) hD hS hA (fun u_91 H locs hw hP hD hS => ?_)
        have hI := hw
        refine W.widen (k := 0) (n := 0) (Nat.le_of_ble_eq_true rfl) (Nat.le_of_ble_eq_true rfl) ?_
        exact W.vret hx hb hr (fun t ht hW9 => ⟨⟨(u_91.1, u_91.2), rfl, hI, by rw [ht]; exact hP, va_K.moved hW9.alike hK, hD⟩, hS.F ht⟩) hS.2.2 dX1_push_103
set_option maxHeartbeats 4000000 in
set_option maxRecDepth 100000 in
theorem k_begin (l : Launch) (dC : Nat → ClassId) (dI : Nat → Nat → Nat) (dA : Nat → ClassId) (ad sz : Nat) (τ : Nat → Nat → Nat) (pv : Nat → Nat → Value) (L : List Nat) (f : Nat → va_E) (hI : kI dA τ pv L f) (a : Nat) (hh_a : τ 0 a = 2) (x : UInt32) (hh_x : fb 1065353216 x) : Met l yX1_begin wsX1_begin ({ frames := 2, cells := 0, slots := 0, locals := 44 } : Room) (va_Pc [.ref a, .float x] (kB dC dI dA ad sz L f)) (va_Qv (fun u => kI dA τ pv u.1 u.2) (kR dC dI dA (va_A (va_pl L f) sz)) (va_A (va_pl L f) sz)) 0 0 (va_A (va_pl L f) sz) := by
  refine Met.ofW (cc := cX1_begin) (maxL := 2) (ret := none) (by decide) rfl ?_
  intro p e s m args below meth c s₁ B hml hv
  obtain ⟨rfl, hsz, hP, hK, hD0, hE⟩ := hv
  have hx := B.exec
  have hb := B.bytes
  have hr := B.returns
  have hts := atoms_spec (ws := wsX1_begin) B.pre
  have hown : s.vm.findClass RX1 = some m.cls := findClass_of_methodNamed B.named
  have hlocks := B.notSynchronized
  have i_X1 : ∀ w ∈ u_ws RX1 TX1 18, w ∈ wsX1_begin := by decide +kernel
  subst hsz
  have hD := hD0.self (sz := s.heap.size)
  generalize hAe : va_A (va_pl L f) s.heap.size = A at hD hE ⊢
  have hA : ∀ q : Nat, s.heap.size ≤ q → A q := fun q h => by rw [← hAe]; exact Or.inr h
  have hS : va_S A s.heap s.heap [] := va_S.rf
  have hP : va_P (dC, dI) vwCl (va_pl L f) s.heap := hP
  have hK : va_K (dC, dI) vwCl (tyA dA) s := hK
  have hl := lv_entry ([.ref a, .float x]) (n := 2) (Nat.le_of_ble_eq_true rfl)
  rw [lg_entry_eq]
  generalize (lg_sl ([.ref a, .float x]) ++ List.replicate (2 - (lg_sl ([.ref a, .float x])).length) Slot.unset).toArray = ls at hl ⊢
  have hl : lv_has ls 2 [(0, .ref a), (1, .float x)] := hl
  refine lv_aload_n hx hb dX1_begin_0 rfl (lv_at hl 0 rfl) ?_
  refine kp_get hx hb hts i_X1 hown hK hP hI hh_a rfl rfl 14 (by decide) (by decide) (hts (.fieldLink RX1 93 "IslandSolver$Row" "dead" "Z") (by decide +kernel)) (fun _ h9 => h9) dX1_begin_1 (kq_L1 rfl fun x_1 w_3 h_2 => ?_)
  refine lv_if_eq (tgt := 13) hx hb dX1_begin_4 (by decide) (fun c_4 => ?_) (fun c_4 => ?_)
  · subst c_4
    refine lv_aload_n hx hb dX1_begin_13 rfl (lv_at hl 0 rfl) ?_
    refine lv_aload_n hx hb dX1_begin_14 rfl (lv_at hl 0 rfl) ?_
    refine lv_aload_n hx hb dX1_begin_15 rfl (lv_at hl 0 rfl) ?_
    refine kp_get hx hb hts i_X1 hown hK hP hI hh_a rfl rfl 12 (by decide) (by decide) (hts (.fieldLink RX1 113 "IslandSolver$Row" "impulse" "F") (by decide +kernel)) (fun _ h9 => h9) dX1_begin_16 (kq_56 fun x_5 h_6 h_6_2 => ?_)
    refine lv_fload_n hx hb dX1_begin_19 rfl (lv_at hl 1 rfl) ?_
    refine kw_fmul (M := 1224736768) hx hb dX1_begin_20 h_6 hh_x (by decide) (by decide) (by decide +kernel) (by decide) (fun z_7 hz_8 => ?_)
    refine kd_callf (va_runV (As := [.float z_7]) (rest := [.ref a]) ⟨hx, hb, hml, hown, hts⟩ (k_held l dC dI dA ad _ τ pv _ _ hI a hh_a 1224736768 z_7 hz_8 (by decide)) (cwV 1 hts gX1_begin_X1_held rfl rfl rfl (by decide +kernel) ⟨Nat.le_of_ble_eq_true rfl, Nat.le_of_ble_eq_true rfl⟩) (kd_preV hP hD hK hS hA hE hI hh_a rfl rfl) rfl rfl hl.1 rfl (lv_room (Nat.le_of_ble_eq_true rfl)) dX1_begin_21 ⟨Nat.le_of_ble_eq_true rfl, Nat.le_of_ble_eq_true rfl⟩) hD hS hA (fun r_10 u_9 H locs hw hP hD hS => ?_)
    obtain ⟨hr_10, gr_10, hI⟩ := hw
    refine kp_put (v := .float r_10) (ty := .float) hx hb hts i_X1 tyX1 tyX1_ok nmX1 hown hK hP hD hS hI hh_a rfl rfl 12 (by decide) (by decide) (hts (.fieldLink RX1 113 "IslandSolver$Row" "impulse" "F") (by decide +kernel)) (fun _ h9 => h9) rfl (by decide +kernel) rfl rfl rfl (by decide) (kv_S (by decide) ⟨_, rfl, hr_10, gr_10⟩) dX1_begin_24 (fun f H locs hI hP hD hS => ?_)
    refine lv_aload_n hx hb dX1_begin_27 rfl (lv_at hl 0 rfl) ?_
    refine lv_aload_n hx hb dX1_begin_28 rfl (lv_at hl 0 rfl) ?_
    refine kp_get hx hb hts i_X1 hown hK hP hI hh_a rfl rfl 12 (by decide) (by decide) (hts (.fieldLink RX1 113 "IslandSolver$Row" "impulse" "F") (by decide +kernel)) (fun _ h9 => h9) dX1_begin_29 (kq_56 fun x_11 h_12 h_12_2 => ?_)
    refine kd_callv (va_runV (As := [.float x_11]) (rest := []) ⟨hx, hb, hml, hown, hts⟩ (k_push l dC dI dA ad _ τ pv _ _ hI a hh_a x_11 (fb_le h_12 (by decide))) (cwV 1 hts gX1_begin_X1_push rfl rfl rfl (by decide +kernel) ⟨Nat.le_of_ble_eq_true rfl, Nat.le_of_ble_eq_true rfl⟩) (kd_preV hP hD hK hS hA hE hI hh_a rfl rfl) rfl rfl hl.1 rfl (lv_room (Nat.le_of_ble_eq_true rfl)) dX1_begin_32 ⟨Nat.le_of_ble_eq_true rfl, Nat.le_of_ble_eq_true rfl⟩) hD hS hA (fun u_13 H locs hw hP hD hS => ?_)
    have hI := hw
    refine W.widen (k := 0) (n := 0) (Nat.le_of_ble_eq_true rfl) (Nat.le_of_ble_eq_true rfl) ?_
    exact W.vret hx hb hr (fun t ht hW9 => ⟨⟨(u_13.1, u_13.2), rfl, hI, by rw [ht]; exact hP, va_K.moved hW9.alike hK, hD⟩, hS.F ht⟩) hS.2.2 dX1_begin_35
  · obtain rfl : x_1 = 1 := (h_2).resolve_left c_4
    refine lv_aload_n hx hb dX1_begin_7 rfl (lv_at hl 0 rfl) ?_
    refine lv_fconst0 hx hb dX1_begin_8 ?_
    refine kp_put (v := .float FP.fconst0) (ty := .float) hx hb hts i_X1 tyX1 tyX1_ok nmX1 hown hK hP hD hS hI hh_a rfl rfl 12 (by decide) (by decide) (hts (.fieldLink RX1 113 "IslandSolver$Row" "impulse" "F") (by decide +kernel)) (fun _ h9 => h9) rfl (by decide +kernel) rfl rfl rfl (by decide) (kv_S (by decide) ⟨_, rfl, (fb_le kc_0 (by decide)), fun _ => (fb_le kc_0 (by decide))⟩) dX1_begin_9 (fun f H locs hI hP hD hS => ?_)
    refine W.widen (k := 0) (n := 0) (Nat.le_of_ble_eq_true rfl) (Nat.le_of_ble_eq_true rfl) ?_
    exact W.vret hx hb hr (fun t ht hW9 => ⟨⟨(L, f), rfl, hI, by rw [ht]; exact hP, va_K.moved hW9.alike hK, hD⟩, hS.F ht⟩) hS.2.2 dX1_begin_12
set_option maxHeartbeats 4000000 in
set_option maxRecDepth 100000 in
theorem k_solve (l : Launch) (dC : Nat → ClassId) (dI : Nat → Nat → Nat) (dA : Nat → ClassId) (ad sz : Nat) (τ : Nat → Nat → Nat) (pv : Nat → Nat → Value) (L : List Nat) (f : Nat → va_E) (hI : kI dA τ pv L f) (a : Nat) (hh_a : τ 0 a = 2) (sx : UInt32) (dd : Int32) (h13 : pv a 13 = .float sx) (h14 : pv a 14 = .int dd) (hms : dd = 0 → 107 * 2 ^ 23 ≤ sx.toNat % 2 ^ 31) : Met l yX1_solve wsX1_solve ({ frames := 2, cells := 0, slots := 0, locals := 44 } : Room) (va_Pc [.ref a] (kB dC dI dA ad sz L f)) (va_Qv (fun u => kI dA τ pv u.1 u.2) (kR dC dI dA (va_A (va_pl L f) sz)) (va_A (va_pl L f) sz)) 0 0 (va_A (va_pl L f) sz) := by
  refine Met.ofW (cc := cX1_solve) (maxL := 3) (ret := none) (by decide) rfl ?_
  intro p e s m args below meth c s₁ B hml hv
  obtain ⟨rfl, hsz, hP, hK, hD0, hE⟩ := hv
  have hx := B.exec
  have hb := B.bytes
  have hr := B.returns
  have hts := atoms_spec (ws := wsX1_solve) B.pre
  have hown : s.vm.findClass RX1 = some m.cls := findClass_of_methodNamed B.named
  have hlocks := B.notSynchronized
  have i_X1 : ∀ w ∈ u_ws RX1 TX1 18, w ∈ wsX1_solve := by decide +kernel
  subst hsz
  have hD := hD0.self (sz := s.heap.size)
  generalize hAe : va_A (va_pl L f) s.heap.size = A at hD hE ⊢
  have hA : ∀ q : Nat, s.heap.size ≤ q → A q := fun q h => by rw [← hAe]; exact Or.inr h
  have hS : va_S A s.heap s.heap [] := va_S.rf
  have hP : va_P (dC, dI) vwCl (va_pl L f) s.heap := hP
  have hK : va_K (dC, dI) vwCl (tyA dA) s := hK
  have hl := lv_entry ([.ref a]) (n := 3) (Nat.le_of_ble_eq_true rfl)
  rw [lg_entry_eq]
  generalize (lg_sl ([.ref a]) ++ List.replicate (3 - (lg_sl ([.ref a])).length) Slot.unset).toArray = ls at hl ⊢
  have hl : lv_has ls 3 [(0, .ref a)] := hl
  refine lv_aload_n hx hb dX1_solve_0 rfl (lv_at hl 0 rfl) ?_
  refine kp_get hx hb hts i_X1 hown hK hP hI hh_a rfl rfl 14 (by decide) (by decide) (hts (.fieldLink RX1 93 "IslandSolver$Row" "dead" "Z") (by decide +kernel)) (fun _ h9 => h9) dX1_solve_1 (kq_P (v0 := .int dd) rfl h14 fun h_2 => ?_)
  have h_2 := kz_of1 h_2
  refine lv_if_eq (tgt := 8) hx hb dX1_solve_4 (by decide) (fun c_3 => ?_) (fun c_3 => ?_)
  · subst c_3
    refine lv_aload_n hx hb dX1_solve_8 rfl (lv_at hl 0 rfl) ?_
    refine lv_aload_n hx hb dX1_solve_9 rfl (lv_at hl 0 rfl) ?_
    refine kp_get hx hb hts i_X1 hown hK hP hI hh_a rfl rfl 12 (by decide) (by decide) (hts (.fieldLink RX1 113 "IslandSolver$Row" "impulse" "F") (by decide +kernel)) (fun _ h9 => h9) dX1_solve_10 (kq_56 fun x_4 h_5 h_5_2 => ?_)
    refine lv_aload_n hx hb dX1_solve_13 rfl (lv_at hl 0 rfl) ?_
    refine kp_get hx hb hts i_X1 hown hK hP hI hh_a rfl rfl 5 (by decide) (by decide) (hts (.fieldLink RX1 124 "IslandSolver$Row" "target" "F") (by decide +kernel)) (fun _ h9 => h9) dX1_solve_14 (kq_F (cd := 1149239296) (by decide) fun x_6 h_7 => ?_)
    refine lv_aload_n hx hb dX1_solve_17 rfl (lv_at hl 0 rfl) ?_
    refine kd_callf (va_runV (As := []) (rest := [.float x_6, .float x_4, .ref a]) ⟨hx, hb, hml, hown, hts⟩ (k_speed l dC dI dA ad _ τ pv _ _ hI a hh_a) (cwV 0 hts gX1_solve_X1_speed rfl rfl rfl (by decide +kernel) ⟨Nat.le_of_ble_eq_true rfl, Nat.le_of_ble_eq_true rfl⟩) (kd_preV hP hD hK hS hA hE hI hh_a rfl rfl) rfl rfl hl.1 rfl (lv_room (Nat.le_of_ble_eq_true rfl)) dX1_solve_18 ⟨Nat.le_of_ble_eq_true rfl, Nat.le_of_ble_eq_true rfl⟩) hD hS hA (fun r_9 u_8 H locs hw hP hD hS => ?_)
    obtain ⟨hr_9, hI⟩ := hw
    refine kw_fsub (M := 1614807041) hx hb dX1_solve_21 h_7 hr_9 (by decide) (by decide) (by decide +kernel) (by decide) (fun z_10 hz_11 => ?_)
    refine lv_aload_n hx hb dX1_solve_22 rfl (lv_at hl 0 rfl) ?_
    refine kp_get hx hb hts i_X1 hown hK hP hI hh_a rfl rfl 6 (by decide) (by decide) (hts (.fieldLink RX1 86 "IslandSolver$Row" "soft" "F") (by decide +kernel)) (fun _ h9 => h9) dX1_solve_23 (kq_F (cd := 1115684864) (by decide) fun x_12 h_13 => ?_)
    refine lv_aload_n hx hb dX1_solve_26 rfl (lv_at hl 0 rfl) ?_
    refine kp_get hx hb hts i_X1 hown hK hP hI hh_a rfl rfl 12 (by decide) (by decide) (hts (.fieldLink RX1 113 "IslandSolver$Row" "impulse" "F") (by decide +kernel)) (fun _ h9 => h9) dX1_solve_27 (kq_56 fun x_14 h_15 h_15_2 => ?_)
    refine kw_fmul (M := 1275068416) hx hb dX1_solve_30 h_13 h_15 (by decide) (by decide) (by decide +kernel) (by decide) (fun z_16 hz_17 => ?_)
    refine kw_fsub (M := 1614807042) hx hb dX1_solve_31 hz_11 hz_17 (by decide) (by decide) (by decide +kernel) (by decide) (fun z_18 hz_19 => ?_)
    refine lv_aload_n hx hb dX1_solve_32 rfl (lv_at hl 0 rfl) ?_
    refine kp_get hx hb hts i_X1 hown hK hP hI hh_a rfl rfl 13 (by decide) (by decide) (hts (.fieldLink RX1 89 "IslandSolver$Row" "stiffness" "F") (by decide +kernel)) (fun _ h9 => h9) dX1_solve_33 (kq_P (v0 := .float sx) rfl h13 fun h_21 => ?_)
    have h_21 := kz_ofF (by decide) h_21
    refine kw_fdiv (K := 193) (Lb := 107) (M := 1795162112) hx hb dX1_solve_36 hz_19 h_21 (hms rfl) (by decide) (by decide) (by decide) (by decide) (by decide) (by decide) (fun z_22 hz_23 => ?_)
    refine kw_fadd (M := 1795162113) hx hb dX1_solve_37 h_5 hz_23 (by decide) (by decide) (by decide +kernel) (by decide) (fun z_24 hz_25 => ?_)
    refine kd_callf (va_runV (As := [.float z_24]) (rest := []) ⟨hx, hb, hml, hown, hts⟩ (k_held l dC dI dA ad _ τ pv _ _ hI a hh_a 1795162113 z_24 hz_25 (by decide)) (cwV 1 hts gX1_solve_X1_held rfl rfl rfl (by decide +kernel) ⟨Nat.le_of_ble_eq_true rfl, Nat.le_of_ble_eq_true rfl⟩) (kd_preV hP hD hK hS hA hE hI hh_a rfl rfl) rfl rfl hl.1 rfl (lv_room (Nat.le_of_ble_eq_true rfl)) dX1_solve_38 ⟨Nat.le_of_ble_eq_true rfl, Nat.le_of_ble_eq_true rfl⟩) hD hS hA (fun r_27 u_26 H locs hw hP hD hS => ?_)
    obtain ⟨hr_27, gr_27, hI⟩ := hw
    refine lv_fstore_n (lv' := [(1, .float r_27), (0, .ref a)]) hx hb dX1_solve_41 rfl hl (by decide) rfl (fun ls hl => ?_)
    refine lv_fload_n hx hb dX1_solve_42 rfl (lv_at hl 0 rfl) ?_
    refine lv_aload_n hx hb dX1_solve_43 rfl (lv_at hl 1 rfl) ?_
    refine kp_get hx hb hts i_X1 hown hK hP hI hh_a rfl rfl 12 (by decide) (by decide) (hts (.fieldLink RX1 113 "IslandSolver$Row" "impulse" "F") (by decide +kernel)) (fun _ h9 => h9) dX1_solve_44 (kq_56 fun x_28 h_29 h_29_2 => ?_)
    refine kw_fsub (M := 1233125376) hx hb dX1_solve_47 hr_27 h_29 (by decide) (by decide) (by decide +kernel) (by decide) (fun z_30 hz_31 => ?_)
    refine lv_fstore_n (lv' := [(2, .float z_30), (1, .float r_27), (0, .ref a)]) hx hb dX1_solve_48 rfl hl (by decide) rfl (fun ls hl => ?_)
    refine lv_aload_n hx hb dX1_solve_49 rfl (lv_at hl 2 rfl) ?_
    refine lv_fload_n hx hb dX1_solve_50 rfl (lv_at hl 1 rfl) ?_
    refine kp_put (v := .float r_27) (ty := .float) hx hb hts i_X1 tyX1 tyX1_ok nmX1 hown hK hP hD hS hI hh_a rfl rfl 12 (by decide) (by decide) (hts (.fieldLink RX1 113 "IslandSolver$Row" "impulse" "F") (by decide +kernel)) (fun _ h9 => h9) rfl (by decide +kernel) rfl rfl rfl (by decide) (kv_S (by decide) ⟨_, rfl, hr_27, gr_27⟩) dX1_solve_51 (fun f H locs hI hP hD hS => ?_)
    refine lv_aload_n hx hb dX1_solve_54 rfl (lv_at hl 2 rfl) ?_
    refine lv_fload_n hx hb dX1_solve_55 rfl (lv_at hl 0 rfl) ?_
    refine kd_callv (va_runV (As := [.float z_30]) (rest := []) ⟨hx, hb, hml, hown, hts⟩ (k_push l dC dI dA ad _ τ pv _ _ hI a hh_a z_30 hz_31) (cwV 1 hts gX1_solve_X1_push rfl rfl rfl (by decide +kernel) ⟨Nat.le_of_ble_eq_true rfl, Nat.le_of_ble_eq_true rfl⟩) (kd_preV hP hD hK hS hA hE hI hh_a rfl rfl) rfl rfl hl.1 rfl (lv_room (Nat.le_of_ble_eq_true rfl)) dX1_solve_56 ⟨Nat.le_of_ble_eq_true rfl, Nat.le_of_ble_eq_true rfl⟩) hD hS hA (fun u_32 H locs hw hP hD hS => ?_)
    have hI := hw
    refine W.widen (k := 0) (n := 0) (Nat.le_of_ble_eq_true rfl) (Nat.le_of_ble_eq_true rfl) ?_
    exact W.vret hx hb hr (fun t ht hW9 => ⟨⟨(u_32.1, u_32.2), rfl, hI, by rw [ht]; exact hP, va_K.moved hW9.alike hK, hD⟩, hS.F ht⟩) hS.2.2 dX1_solve_59
  · obtain rfl : dd = 1 := (h_2).resolve_left c_3
    refine W.widen (k := 0) (n := 0) (Nat.le_of_ble_eq_true rfl) (Nat.le_of_ble_eq_true rfl) ?_
    exact W.vret hx hb hr (fun t ht hW9 => ⟨⟨(L, f), rfl, hI, by rw [ht]; exact hP, va_K.moved hW9.alike hK, hD⟩, hS.F ht⟩) hS.2.2 dX1_solve_7
