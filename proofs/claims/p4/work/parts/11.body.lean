set_option maxHeartbeats 4000000 in
set_option maxRecDepth 100000 in
theorem k_lowest (l : Launch) (dC : Nat → ClassId) (dI : Nat → Nat → Nat) (dA : Nat → ClassId) (ad sz : Nat) (τ : Nat → Nat → Nat) (pv : Nat → Nat → Value) (L : List Nat) (f : Nat → va_E) (hI : kI dA τ pv L f) (a : Nat) (hh_a : τ 0 a = 1) : Met l yX0_lowest wsX0_lowest ({ frames := 0, cells := 0, slots := 0, locals := 0 } : Room) (va_Pc [.ref a] (kB dC dI dA ad sz L f)) (va_Qq (fun r u => ∃ q, r = some q ∧ τ 0 q = 1 ∧ τ 1 q ≤ τ 1 a ∧ kI dA τ pv u.1 u.2) (kR dC dI dA (va_A (va_pl L f) sz)) (va_A (va_pl L f) sz)) 0 0 (va_A (va_pl L f) sz) := by
  refine Met.ofW (cc := cX0_lowest) (maxL := 2) (ret := (some (.object "IslandSolver$Body"))) (by decide) rfl ?_
  intro p e s m args below meth c s₁ B hml hv
  obtain ⟨rfl, hsz, hP, hK, hD0, hE⟩ := hv
  have hx := B.exec
  have hb := B.bytes
  have hr := B.returns
  have hts := atoms_spec (ws := wsX0_lowest) B.pre
  have hown : s.vm.findClass RX0 = some m.cls := findClass_of_methodNamed B.named
  have hlocks := B.notSynchronized
  have i_X0 : ∀ w ∈ u_ws RX0 TX0 16, w ∈ wsX0_lowest := by decide +kernel
  subst hsz
  have hD := hD0.self (sz := s.heap.size)
  generalize hAe : va_A (va_pl L f) s.heap.size = A at hD hE ⊢
  have hA : ∀ q : Nat, s.heap.size ≤ q → A q := fun q h => by rw [← hAe]; exact Or.inr h
  have hS : va_S A s.heap s.heap [] := va_S.rf
  have hP : va_P (dC, dI) vwCl (va_pl L f) s.heap := hP
  have hK : va_K (dC, dI) vwCl (tyA dA) s := hK
  have hl := lv_entry ([.ref a]) (n := 2) (Nat.le_of_ble_eq_true rfl)
  rw [lg_entry_eq]
  generalize (lg_sl ([.ref a]) ++ List.replicate (2 - (lg_sl ([.ref a])).length) Slot.unset).toArray = ls at hl ⊢
  have hl : lv_has ls 2 [(0, .ref a)] := hl
  refine lv_aload_n hx hb dX0_lowest_0 rfl (lv_at hl 0 rfl) ?_
  refine lv_astore_n (lv' := [(1, .ref a), (0, .ref a)]) hx hb dX0_lowest_1 rfl hl (by decide) rfl (fun ls hl => ?_)
  have hl : lv_has ls 2 [(0, .ref a), (1, .ref a)] := lv_sub hl [1, 0] rfl
  refine kl_loop (Inv := fun n2 _ L f H locs ls => ∃ (q : Nat), τ 1 q < n2 ∧ kI dA τ pv L f ∧ va_P (dC, dI) vwCl (va_pl L f) H ∧ va_D A (va_pl L f) ∧ va_S A s.heap H locs ∧ lv_has ls 2 [(0, .ref a), (1, .ref q)] ∧ τ 0 q = 1 ∧ (q = a ∨ τ 1 q < τ 1 a)) (fun _ _ _ _ _ _ h9 => by obtain ⟨_, hn, _⟩ := h9; exact Nat.not_lt_zero _ hn) (fun n2 ih2 _ L f H locs ls h9 => ?_) (τ 1 a + 1) (fun _ _ => .null) _ _ _ _ _ ⟨a, Nat.lt_succ_self _, hI, hP, hD, hS, hl, hh_a, Or.inl rfl⟩
  obtain ⟨q, hn2, hI, hP, hD, hS, hl, hq, hqa⟩ := h9
  refine lv_aload_n hx hb dX0_lowest_2 rfl (lv_at hl 1 rfl) ?_
  refine kp_get hx hb hts i_X0 hown hK hP hI hq rfl rfl 15 (by decide) (by decide) (hts (.fieldLink RX0 45 "IslandSolver$Body" "lower" "LIslandSolver$Body;") (by decide +kernel)) (fun _ h9 => h9) dX0_lowest_3 (kq_52E (fun he_6 => ?_) (fun q_3 he_6 ht_4 hl_5 => ?_))
  · refine lv_ifnullN (tgt := 17) hx hb dX0_lowest_6 (by decide) ?_
    have hle9 : τ 1 q ≤ τ 1 a := by rcases hqa with h8 | h8 <;> first | (subst h8; omega) | omega
    refine lv_aload_n hx hb dX0_lowest_17 rfl (lv_at hl 1 rfl) ?_
    refine lv_aload_n hx hb dX0_lowest_18 rfl (lv_at hl 0 rfl) ?_
    refine W.eq (g2 := F0 m 19 ls [va_rf (some a), va_rf (some q)]) rfl ?_
    refine lv_acmp_eq (rx := (some q)) (ry := (some a)) (tgt := 27) hx hb dX0_lowest_19 (by decide) (fun c_7 => ?_) (fun c_7 => ?_)
    · have e_c_7 : q = a := Option.some.inj c_7
      refine lv_aload_n hx hb dX0_lowest_27 rfl (lv_at hl 1 rfl) ?_
      refine W.widen (k := 0) (n := 0) (Nat.le_of_ble_eq_true rfl) (Nat.le_of_ble_eq_true rfl) ?_
      exact W.aret (v := .ref q) hx hb hr (Or.inl ⟨_, rfl⟩) (Or.inr ⟨_, rfl⟩) (fun t ht hW9 => ⟨⟨(some q), (L, f), rfl, ⟨q, rfl, hq, (by omega), hI⟩, by rw [ht]; exact hP, va_K.moved hW9.alike hK, hD⟩, hS.F ht⟩) hS.2.2 dX0_lowest_28
    · have e_c_7 : q ≠ a := fun h9 => c_7 (congrArg some h9)
      have hlt9 : τ 1 q < τ 1 a := by rcases hqa with h8 | h8 <;> first | exact absurd h8 e_c_7 | exact h8
      refine lv_aload_n hx hb dX0_lowest_22 rfl (lv_at hl 0 rfl) ?_
      refine lv_aload_n hx hb dX0_lowest_23 rfl (lv_at hl 1 rfl) ?_
      refine kp_put (v := .ref q) (ty := .object "IslandSolver$Body") hx hb hts i_X0 tyX0 tyX0_ok nmX0 hown hK hP hD hS hI hh_a rfl rfl 15 (by decide) (by decide) (hts (.fieldLink RX0 45 "IslandSolver$Body" "lower" "LIslandSolver$Body;") (by decide +kernel)) (fun _ h9 => h9) rfl (by decide +kernel) rfl rfl rfl (by decide) (kv_S (by decide) (Or.inr ⟨_, rfl, hq, by omega⟩)) dX0_lowest_24 (fun f H locs hI hP hD hS => ?_)
      refine lv_aload_n hx hb dX0_lowest_27 rfl (lv_at hl 1 rfl) ?_
      refine W.widen (k := 0) (n := 0) (Nat.le_of_ble_eq_true rfl) (Nat.le_of_ble_eq_true rfl) ?_
      exact W.aret (v := .ref q) hx hb hr (Or.inl ⟨_, rfl⟩) (Or.inr ⟨_, rfl⟩) (fun t ht hW9 => ⟨⟨(some q), (L, f), rfl, ⟨q, rfl, hq, (by omega), hI⟩, by rw [ht]; exact hP, va_K.moved hW9.alike hK, hD⟩, hS.F ht⟩) hS.2.2 dX0_lowest_28
  · refine lv_ifnull hx hb dX0_lowest_6 ?_
    refine lv_aload_n hx hb dX0_lowest_9 rfl (lv_at hl 1 rfl) ?_
    refine kp_get hx hb hts i_X0 hown hK hP hI hq rfl rfl 15 (by decide) (by decide) (hts (.fieldLink RX0 45 "IslandSolver$Body" "lower" "LIslandSolver$Body;") (by decide +kernel)) (fun _ h9 => h9) dX0_lowest_10 (kq_E he_6 ?_)
    refine lv_astore_n (lv' := [(1, .ref q_3), (0, .ref a)]) hx hb dX0_lowest_13 rfl hl (by decide) rfl (fun ls hl => ?_)
    refine lv_goto (tgt := 2) hx hb dX0_lowest_14 (by decide) ?_
    have hl : lv_has ls 2 [(0, .ref a), (1, .ref q_3)] := lv_sub hl [1, 0] rfl
    exact ih2 (fun _ _ => .null) _ _ _ _ _ ⟨q_3, by omega, hI, hP, hD, hS, hl, ht_4, Or.inr (by rcases hqa with h8 | h8 <;> first | (subst h8; omega) | omega)⟩
set_option maxHeartbeats 4000000 in
set_option maxRecDepth 100000 in
theorem k_join (l : Launch) (dC : Nat → ClassId) (dI : Nat → Nat → Nat) (dA : Nat → ClassId) (ad sz : Nat) (τ : Nat → Nat → Nat) (pv : Nat → Nat → Value) (L : List Nat) (f : Nat → va_E) (hI : kI dA τ pv L f) (a : Nat) (hh_a : τ 0 a = 1) (b : Nat) (hh_b : τ 0 b = 1) : Met l yX0_join wsX0_join ({ frames := 1, cells := 0, slots := 0, locals := 21 } : Room) (va_Pc [.ref a, .ref b] (kB dC dI dA ad sz L f)) (va_Qv (fun u => kI dA τ pv u.1 u.2) (kR dC dI dA (va_A (va_pl L f) sz)) (va_A (va_pl L f) sz)) 0 0 (va_A (va_pl L f) sz) := by
  refine Met.ofW (cc := cX0_join) (maxL := 4) (ret := none) (by decide) rfl ?_
  intro p e s m args below meth c s₁ B hml hv
  obtain ⟨rfl, hsz, hP, hK, hD0, hE⟩ := hv
  have hx := B.exec
  have hb := B.bytes
  have hr := B.returns
  have hts := atoms_spec (ws := wsX0_join) B.pre
  have hown : s.vm.findClass RX0 = some m.cls := findClass_of_methodNamed B.named
  have hlocks := B.notSynchronized
  have i_X0 : ∀ w ∈ u_ws RX0 TX0 16, w ∈ wsX0_join := by decide +kernel
  subst hsz
  have hD := hD0.self (sz := s.heap.size)
  generalize hAe : va_A (va_pl L f) s.heap.size = A at hD hE ⊢
  have hA : ∀ q : Nat, s.heap.size ≤ q → A q := fun q h => by rw [← hAe]; exact Or.inr h
  have hS : va_S A s.heap s.heap [] := va_S.rf
  have hP : va_P (dC, dI) vwCl (va_pl L f) s.heap := hP
  have hK : va_K (dC, dI) vwCl (tyA dA) s := hK
  have hl := lv_entry ([.ref a, .ref b]) (n := 4) (Nat.le_of_ble_eq_true rfl)
  rw [lg_entry_eq]
  generalize (lg_sl ([.ref a, .ref b]) ++ List.replicate (4 - (lg_sl ([.ref a, .ref b])).length) Slot.unset).toArray = ls at hl ⊢
  have hl : lv_has ls 4 [(0, .ref a), (1, .ref b)] := hl
  refine lv_aload_n hx hb dX0_join_0 rfl (lv_at hl 0 rfl) ?_
  refine kd_callq (va_runV (As := []) (rest := []) ⟨hx, hb, hml, hown, hts⟩ (k_lowest l dC dI dA ad _ τ pv _ _ hI a hh_a) (cwV 0 hts gX0_join_X0_lowest rfl rfl rfl (by decide +kernel) ⟨Nat.le_of_ble_eq_true rfl, Nat.le_of_ble_eq_true rfl⟩) (kd_preV hP hD hK hS hA hE hI hh_a rfl rfl) rfl rfl hl.1 rfl (lv_room (Nat.le_of_ble_eq_true rfl)) dX0_join_1 ⟨Nat.le_of_ble_eq_true rfl, Nat.le_of_ble_eq_true rfl⟩) hD hS hA (fun r_2 u_1 H locs hw hP hD hS => ?_)
  obtain ⟨q_3, rfl, hq_3, nq_3, hI⟩ := hw
  refine W.eq (g2 := F0 m 4 ls [.ref q_3]) rfl ?_
  refine lv_astore_n (lv' := [(2, .ref q_3), (0, .ref a), (1, .ref b)]) hx hb dX0_join_4 rfl hl (by decide) rfl (fun ls hl => ?_)
  refine lv_aload_n hx hb dX0_join_5 rfl (lv_at hl 2 rfl) ?_
  refine kd_callq (va_runV (As := []) (rest := []) ⟨hx, hb, hml, hown, hts⟩ (k_lowest l dC dI dA ad _ τ pv _ _ hI b hh_b) (cwV 0 hts gX0_join_X0_lowest rfl rfl rfl (by decide +kernel) ⟨Nat.le_of_ble_eq_true rfl, Nat.le_of_ble_eq_true rfl⟩) (kd_preV hP hD hK hS hA hE hI hh_b rfl rfl) rfl rfl hl.1 rfl (lv_room (Nat.le_of_ble_eq_true rfl)) dX0_join_6 ⟨Nat.le_of_ble_eq_true rfl, Nat.le_of_ble_eq_true rfl⟩) hD hS hA (fun r_5 u_4 H locs hw hP hD hS => ?_)
  obtain ⟨q_6, rfl, hq_6, nq_6, hI⟩ := hw
  refine W.eq (g2 := F0 m 9 ls [.ref q_6]) rfl ?_
  refine lv_astore_n (lv' := [(3, .ref q_6), (2, .ref q_3), (0, .ref a), (1, .ref b)]) hx hb dX0_join_9 rfl hl (by decide) rfl (fun ls hl => ?_)
  refine lv_aload_n hx hb dX0_join_10 rfl (lv_at hl 1 rfl) ?_
  refine kp_get hx hb hts i_X0 hown hK hP hI hq_3 rfl rfl 0 (by decide) (by decide) (hts (.fieldLink RX0 25 "IslandSolver$Body" "number" "I") (by decide +kernel)) (fun _ h9 => h9) dX0_join_11 (kq_C (by decide) fun x_7 h_8 => ?_)
  obtain ⟨rfl, h_8⟩ := h_8
  refine lv_aload_n hx hb dX0_join_14 rfl (lv_at hl 0 rfl) ?_
  refine kp_get hx hb hts i_X0 hown hK hP hI hq_6 rfl rfl 0 (by decide) (by decide) (hts (.fieldLink RX0 25 "IslandSolver$Body" "number" "I") (by decide +kernel)) (fun _ h9 => h9) dX0_join_15 (kq_C (by decide) fun x_9 h_10 => ?_)
  obtain ⟨rfl, h_10⟩ := h_10
  refine lv_icmp_ge (tgt := 29) hx hb dX0_join_18 (by decide) (fun c_11 => ?_) (fun c_11 => ?_)
  · have n_12 : (τ 1 q_6) ≤ (τ 1 q_3) := (nI_leI (by omega) (by omega)).mp (show nI (τ 1 q_6) ≤ nI (τ 1 q_3) from c_11)
    refine lv_aload_n hx hb dX0_join_29 rfl (lv_at hl 0 rfl) ?_
    refine kp_get hx hb hts i_X0 hown hK hP hI hq_6 rfl rfl 0 (by decide) (by decide) (hts (.fieldLink RX0 25 "IslandSolver$Body" "number" "I") (by decide +kernel)) (fun _ h9 => h9) dX0_join_30 (kq_C (by decide) fun x_13 h_14 => ?_)
    obtain ⟨rfl, h_14⟩ := h_14
    refine lv_aload_n hx hb dX0_join_33 rfl (lv_at hl 1 rfl) ?_
    refine kp_get hx hb hts i_X0 hown hK hP hI hq_3 rfl rfl 0 (by decide) (by decide) (hts (.fieldLink RX0 25 "IslandSolver$Body" "number" "I") (by decide +kernel)) (fun _ h9 => h9) dX0_join_34 (kq_C (by decide) fun x_15 h_16 => ?_)
    obtain ⟨rfl, h_16⟩ := h_16
    refine lv_icmp_ge (tgt := 45) hx hb dX0_join_37 (by decide) (fun c_17 => ?_) (fun c_17 => ?_)
    · have n_18 : (τ 1 q_3) ≤ (τ 1 q_6) := (nI_leI (by omega) (by omega)).mp (show nI (τ 1 q_3) ≤ nI (τ 1 q_6) from c_17)
      refine W.widen (k := 0) (n := 0) (Nat.le_of_ble_eq_true rfl) (Nat.le_of_ble_eq_true rfl) ?_
      exact W.vret hx hb hr (fun t ht hW9 => ⟨⟨(u_4.1, u_4.2), rfl, hI, by rw [ht]; exact hP, va_K.moved hW9.alike hK, hD⟩, hS.F ht⟩) hS.2.2 dX0_join_45
    · have n_19 : ¬ (τ 1 q_3) ≤ (τ 1 q_6) := fun h9 => (show ¬ nI (τ 1 q_3) ≤ nI (τ 1 q_6) from c_17) ((nI_leI (by omega) (by omega)).mpr h9)
      refine lv_aload_n hx hb dX0_join_40 rfl (lv_at hl 1 rfl) ?_
      refine lv_aload_n hx hb dX0_join_41 rfl (lv_at hl 0 rfl) ?_
      refine kp_put (v := .ref q_6) (ty := .object "IslandSolver$Body") hx hb hts i_X0 tyX0 tyX0_ok nmX0 hown hK hP hD hS hI hq_3 rfl rfl 15 (by decide) (by decide) (hts (.fieldLink RX0 45 "IslandSolver$Body" "lower" "LIslandSolver$Body;") (by decide +kernel)) (fun _ h9 => h9) rfl (by decide +kernel) rfl rfl rfl (by decide) (kv_S (by decide) (Or.inr ⟨_, rfl, hq_6, by omega⟩)) dX0_join_42 (fun f H locs hI hP hD hS => ?_)
      refine W.widen (k := 0) (n := 0) (Nat.le_of_ble_eq_true rfl) (Nat.le_of_ble_eq_true rfl) ?_
      exact W.vret hx hb hr (fun t ht hW9 => ⟨⟨(u_4.1, f), rfl, hI, by rw [ht]; exact hP, va_K.moved hW9.alike hK, hD⟩, hS.F ht⟩) hS.2.2 dX0_join_45
  · have n_20 : ¬ (τ 1 q_6) ≤ (τ 1 q_3) := fun h9 => (show ¬ nI (τ 1 q_6) ≤ nI (τ 1 q_3) from c_11) ((nI_leI (by omega) (by omega)).mpr h9)
    refine lv_aload_n hx hb dX0_join_21 rfl (lv_at hl 0 rfl) ?_
    refine lv_aload_n hx hb dX0_join_22 rfl (lv_at hl 1 rfl) ?_
    refine kp_put (v := .ref q_3) (ty := .object "IslandSolver$Body") hx hb hts i_X0 tyX0 tyX0_ok nmX0 hown hK hP hD hS hI hq_6 rfl rfl 15 (by decide) (by decide) (hts (.fieldLink RX0 45 "IslandSolver$Body" "lower" "LIslandSolver$Body;") (by decide +kernel)) (fun _ h9 => h9) rfl (by decide +kernel) rfl rfl rfl (by decide) (kv_S (by decide) (Or.inr ⟨_, rfl, hq_3, by omega⟩)) dX0_join_23 (fun f H locs hI hP hD hS => ?_)
    refine lv_goto (tgt := 45) hx hb dX0_join_26 (by decide) ?_
    refine W.widen (k := 0) (n := 0) (Nat.le_of_ble_eq_true rfl) (Nat.le_of_ble_eq_true rfl) ?_
    exact W.vret hx hb hr (fun t ht hW9 => ⟨⟨(u_4.1, f), rfl, hI, by rw [ht]; exact hP, va_K.moved hW9.alike hK, hD⟩, hS.F ht⟩) hS.2.2 dX0_join_45
set_option maxHeartbeats 4000000 in
set_option maxRecDepth 100000 in
theorem k_leaveRows (l : Launch) (dC : Nat → ClassId) (dI : Nat → Nat → Nat) (dA : Nat → ClassId) (ad sz : Nat) (τ : Nat → Nat → Nat) (pv : Nat → Nat → Value) (L : List Nat) (f : Nat → va_E) (hI : kI dA τ pv L f) (a : Nat) (hh_a : τ 0 a = 1) : Met l yX0_leaveRows wsX0_leaveRows ({ frames := 0, cells := 0, slots := 0, locals := 0 } : Room) (va_Pc [.ref a] (kB dC dI dA ad sz L f)) (va_Qv (fun u => kI dA τ pv u.1 u.2) (kR dC dI dA (va_A (va_pl L f) sz)) (va_A (va_pl L f) sz)) 0 0 (va_A (va_pl L f) sz) := by
  refine Met.ofW (cc := cX0_leaveRows) (maxL := 1) (ret := none) (by decide) rfl ?_
  intro p e s m args below meth c s₁ B hml hv
  obtain ⟨rfl, hsz, hP, hK, hD0, hE⟩ := hv
  have hx := B.exec
  have hb := B.bytes
  have hr := B.returns
  have hts := atoms_spec (ws := wsX0_leaveRows) B.pre
  have hown : s.vm.findClass RX0 = some m.cls := findClass_of_methodNamed B.named
  have hlocks := B.notSynchronized
  have i_X0 : ∀ w ∈ u_ws RX0 TX0 16, w ∈ wsX0_leaveRows := by decide +kernel
  subst hsz
  have hD := hD0.self (sz := s.heap.size)
  generalize hAe : va_A (va_pl L f) s.heap.size = A at hD hE ⊢
  have hA : ∀ q : Nat, s.heap.size ≤ q → A q := fun q h => by rw [← hAe]; exact Or.inr h
  have hS : va_S A s.heap s.heap [] := va_S.rf
  have hP : va_P (dC, dI) vwCl (va_pl L f) s.heap := hP
  have hK : va_K (dC, dI) vwCl (tyA dA) s := hK
  have hl := lv_entry ([.ref a]) (n := 1) (Nat.le_of_ble_eq_true rfl)
  rw [lg_entry_eq]
  generalize (lg_sl ([.ref a]) ++ List.replicate (1 - (lg_sl ([.ref a])).length) Slot.unset).toArray = ls at hl ⊢
  have hl : lv_has ls 1 [(0, .ref a)] := hl
  refine lv_aload_n hx hb dX0_leaveRows_0 rfl (lv_at hl 0 rfl) ?_
  refine lv_null hx hb dX0_leaveRows_1 ?_
  refine kp_put (v := .null) (ty := .object "IslandSolver$Body") hx hb hts i_X0 tyX0 tyX0_ok nmX0 hown hK hP hD hS hI hh_a rfl rfl 15 (by decide) (by decide) (hts (.fieldLink RX0 45 "IslandSolver$Body" "lower" "LIslandSolver$Body;") (by decide +kernel)) (fun _ h9 => h9) rfl (by decide +kernel) rfl rfl rfl (by decide) (kv_S (by decide) (Or.inl rfl)) dX0_leaveRows_2 (fun f H locs hI hP hD hS => ?_)
  refine lv_aload_n hx hb dX0_leaveRows_5 rfl (lv_at hl 0 rfl) ?_
  refine lv_iconst (v := 0) hx hb dX0_leaveRows_6 (by decide) ?_
  refine kp_put (v := .int 0) (ty := .int) hx hb hts i_X0 tyX0 tyX0_ok nmX0 hown hK hP hD hS hI hh_a rfl rfl 13 (by decide) (by decide) (hts (.fieldLink RX0 53 "IslandSolver$Body" "rowCount" "I") (by decide +kernel)) (fun _ h9 => h9) rfl (by decide +kernel) rfl rfl rfl (by decide) (kv_I _) dX0_leaveRows_7 (fun f H locs hI hP hD hS => ?_)
  refine W.widen (k := 0) (n := 0) (Nat.le_of_ble_eq_true rfl) (Nat.le_of_ble_eq_true rfl) ?_
  exact W.vret hx hb hr (fun t ht hW9 => ⟨⟨(L, f), rfl, hI, by rw [ht]; exact hP, va_K.moved hW9.alike hK, hD⟩, hS.F ht⟩) hS.2.2 dX0_leaveRows_10
set_option maxHeartbeats 4000000 in
set_option maxRecDepth 100000 in
theorem k_rouse (l : Launch) (dC : Nat → ClassId) (dI : Nat → Nat → Nat) (dA : Nat → ClassId) (ad sz : Nat) (τ : Nat → Nat → Nat) (pv : Nat → Nat → Value) (L : List Nat) (f : Nat → va_E) (hI : kI dA τ pv L f) (a : Nat) (hh_a : τ 0 a = 1) : Met l yX0_rouse wsX0_rouse ({ frames := 0, cells := 0, slots := 0, locals := 0 } : Room) (va_Pc [.ref a] (kB dC dI dA ad sz L f)) (va_Qv (fun u => kI dA τ pv u.1 u.2) (kR dC dI dA (va_A (va_pl L f) sz)) (va_A (va_pl L f) sz)) 0 0 (va_A (va_pl L f) sz) := by
  refine Met.ofW (cc := cX0_rouse) (maxL := 1) (ret := none) (by decide) rfl ?_
  intro p e s m args below meth c s₁ B hml hv
  obtain ⟨rfl, hsz, hP, hK, hD0, hE⟩ := hv
  have hx := B.exec
  have hb := B.bytes
  have hr := B.returns
  have hts := atoms_spec (ws := wsX0_rouse) B.pre
  have hown : s.vm.findClass RX0 = some m.cls := findClass_of_methodNamed B.named
  have hlocks := B.notSynchronized
  have i_X0 : ∀ w ∈ u_ws RX0 TX0 16, w ∈ wsX0_rouse := by decide +kernel
  subst hsz
  have hD := hD0.self (sz := s.heap.size)
  generalize hAe : va_A (va_pl L f) s.heap.size = A at hD hE ⊢
  have hA : ∀ q : Nat, s.heap.size ≤ q → A q := fun q h => by rw [← hAe]; exact Or.inr h
  have hS : va_S A s.heap s.heap [] := va_S.rf
  have hP : va_P (dC, dI) vwCl (va_pl L f) s.heap := hP
  have hK : va_K (dC, dI) vwCl (tyA dA) s := hK
  have hl := lv_entry ([.ref a]) (n := 1) (Nat.le_of_ble_eq_true rfl)
  rw [lg_entry_eq]
  generalize (lg_sl ([.ref a]) ++ List.replicate (1 - (lg_sl ([.ref a])).length) Slot.unset).toArray = ls at hl ⊢
  have hl : lv_has ls 1 [(0, .ref a)] := hl
  refine lv_aload_n hx hb dX0_rouse_0 rfl (lv_at hl 0 rfl) ?_
  refine lv_iconst (v := 0) hx hb dX0_rouse_1 (by decide) ?_
  refine kp_put (v := .int 0) (ty := .boolean) hx hb hts i_X0 tyX0 tyX0_ok nmX0 hown hK hP hD hS hI hh_a rfl rfl 11 (by decide) (by decide) (hts (.fieldLink RX0 56 "IslandSolver$Body" "asleep" "Z") (by decide +kernel)) (fun _ h9 => h9) rfl (by decide +kernel) rfl rfl rfl (by decide) (kv_Z (Or.inl rfl)) dX0_rouse_2 (fun f H locs hI hP hD hS => ?_)
  refine lv_aload_n hx hb dX0_rouse_5 rfl (lv_at hl 0 rfl) ?_
  refine lv_iconst (v := 0) hx hb dX0_rouse_6 (by decide) ?_
  refine kp_put (v := .int 0) (ty := .int) hx hb hts i_X0 tyX0 tyX0_ok nmX0 hown hK hP hD hS hI hh_a rfl rfl 12 (by decide) (by decide) (hts (.fieldLink RX0 59 "IslandSolver$Body" "quiet" "I") (by decide +kernel)) (fun _ h9 => h9) rfl (by decide +kernel) rfl rfl rfl (by decide) (kv_I _) dX0_rouse_7 (fun f H locs hI hP hD hS => ?_)
  refine W.widen (k := 0) (n := 0) (Nat.le_of_ble_eq_true rfl) (Nat.le_of_ble_eq_true rfl) ?_
  exact W.vret hx hb hr (fun t ht hW9 => ⟨⟨(L, f), rfl, hI, by rw [ht]; exact hP, va_K.moved hW9.alike hK, hD⟩, hS.F ht⟩) hS.2.2 dX0_rouse_10
set_option maxHeartbeats 4000000 in
set_option maxRecDepth 100000 in
theorem k_fallAsleep (l : Launch) (dC : Nat → ClassId) (dI : Nat → Nat → Nat) (dA : Nat → ClassId) (ad sz : Nat) (τ : Nat → Nat → Nat) (pv : Nat → Nat → Value) (L : List Nat) (f : Nat → va_E) (hI : kI dA τ pv L f) (a : Nat) (hh_a : τ 0 a = 1) : Met l yX0_fallAsleep wsX0_fallAsleep ({ frames := 1, cells := 0, slots := 0, locals := 23 } : Room) (va_Pc [.ref a] (kB dC dI dA ad sz L f)) (va_Qv (fun u => kI dA τ pv u.1 u.2) (kR dC dI dA (va_A (va_pl L f) sz)) (va_A (va_pl L f) sz)) 0 0 (va_A (va_pl L f) sz) := by
  refine Met.ofW (cc := cX0_fallAsleep) (maxL := 1) (ret := none) (by decide) rfl ?_
  intro p e s m args below meth c s₁ B hml hv
  obtain ⟨rfl, hsz, hP, hK, hD0, hE⟩ := hv
  have hx := B.exec
  have hb := B.bytes
  have hr := B.returns
  have hts := atoms_spec (ws := wsX0_fallAsleep) B.pre
  have hown : s.vm.findClass RX0 = some m.cls := findClass_of_methodNamed B.named
  have hlocks := B.notSynchronized
  have i_X0 : ∀ w ∈ u_ws RX0 TX0 16, w ∈ wsX0_fallAsleep := by decide +kernel
  subst hsz
  have hD := hD0.self (sz := s.heap.size)
  generalize hAe : va_A (va_pl L f) s.heap.size = A at hD hE ⊢
  have hA : ∀ q : Nat, s.heap.size ≤ q → A q := fun q h => by rw [← hAe]; exact Or.inr h
  have hS : va_S A s.heap s.heap [] := va_S.rf
  have hP : va_P (dC, dI) vwCl (va_pl L f) s.heap := hP
  have hK : va_K (dC, dI) vwCl (tyA dA) s := hK
  have hl := lv_entry ([.ref a]) (n := 1) (Nat.le_of_ble_eq_true rfl)
  rw [lg_entry_eq]
  generalize (lg_sl ([.ref a]) ++ List.replicate (1 - (lg_sl ([.ref a])).length) Slot.unset).toArray = ls at hl ⊢
  have hl : lv_has ls 1 [(0, .ref a)] := hl
  refine lv_aload_n hx hb dX0_fallAsleep_0 rfl (lv_at hl 0 rfl) ?_
  refine lv_iconst (v := 1) hx hb dX0_fallAsleep_1 (by decide) ?_
  refine kp_put (v := .int 1) (ty := .boolean) hx hb hts i_X0 tyX0 tyX0_ok nmX0 hown hK hP hD hS hI hh_a rfl rfl 11 (by decide) (by decide) (hts (.fieldLink RX0 56 "IslandSolver$Body" "asleep" "Z") (by decide +kernel)) (fun _ h9 => h9) rfl (by decide +kernel) rfl rfl rfl (by decide) (kv_Z (Or.inr rfl)) dX0_fallAsleep_2 (fun f H locs hI hP hD hS => ?_)
  refine lv_aload_n hx hb dX0_fallAsleep_5 rfl (lv_at hl 0 rfl) ?_
  refine kp_get hx hb hts i_X0 hown hK hP hI hh_a rfl rfl 9 (by decide) (by decide) (hts (.fieldLink RX0 12 "IslandSolver$Body" "v" "LIslandSolver$Vec;") (by decide +kernel)) (fun _ h9 => h9) dX0_fallAsleep_6 (kq_R 3 (by decide) fun x_1 h_2 => ?_)
  refine lv_fconst0 hx hb dX0_fallAsleep_9 ?_
  refine lv_fconst0 hx hb dX0_fallAsleep_10 ?_
  refine lv_fconst0 hx hb dX0_fallAsleep_11 ?_
  refine kd_callv (va_runV (As := [.float FP.fconst0, .float FP.fconst0, .float FP.fconst0]) (rest := []) ⟨hx, hb, hml, hown, hts⟩ (k_put3 l dC dI dA ad _ τ pv _ _ hI x_1 h_2 FP.fconst0 (fb_le kc_0 (by decide)) FP.fconst0 (fb_le kc_0 (by decide)) FP.fconst0 (fb_le kc_0 (by decide))) (cwV 3 hts gX0_fallAsleep_X2_put rfl rfl rfl (by decide +kernel) ⟨Nat.le_of_ble_eq_true rfl, Nat.le_of_ble_eq_true rfl⟩) (kd_preV hP hD hK hS hA hE hI h_2 rfl rfl) rfl rfl hl.1 rfl (lv_room (Nat.le_of_ble_eq_true rfl)) dX0_fallAsleep_12 ⟨Nat.le_of_ble_eq_true rfl, Nat.le_of_ble_eq_true rfl⟩) hD hS hA (fun u_3 H locs hw hP hD hS => ?_)
  have hI := hw
  refine lv_aload_n hx hb dX0_fallAsleep_15 rfl (lv_at hl 0 rfl) ?_
  refine kp_get hx hb hts i_X0 hown hK hP hI hh_a rfl rfl 10 (by decide) (by decide) (hts (.fieldLink RX0 18 "IslandSolver$Body" "s" "LIslandSolver$Vec;") (by decide +kernel)) (fun _ h9 => h9) dX0_fallAsleep_16 (kq_R 3 (by decide) fun x_4 h_5 => ?_)
  refine lv_fconst0 hx hb dX0_fallAsleep_19 ?_
  refine lv_fconst0 hx hb dX0_fallAsleep_20 ?_
  refine lv_fconst0 hx hb dX0_fallAsleep_21 ?_
  refine kd_callv (va_runV (As := [.float FP.fconst0, .float FP.fconst0, .float FP.fconst0]) (rest := []) ⟨hx, hb, hml, hown, hts⟩ (k_put3 l dC dI dA ad _ τ pv _ _ hI x_4 h_5 FP.fconst0 (fb_le kc_0 (by decide)) FP.fconst0 (fb_le kc_0 (by decide)) FP.fconst0 (fb_le kc_0 (by decide))) (cwV 3 hts gX0_fallAsleep_X2_put rfl rfl rfl (by decide +kernel) ⟨Nat.le_of_ble_eq_true rfl, Nat.le_of_ble_eq_true rfl⟩) (kd_preV hP hD hK hS hA hE hI h_5 rfl rfl) rfl rfl hl.1 rfl (lv_room (Nat.le_of_ble_eq_true rfl)) dX0_fallAsleep_22 ⟨Nat.le_of_ble_eq_true rfl, Nat.le_of_ble_eq_true rfl⟩) hD hS hA (fun u_6 H locs hw hP hD hS => ?_)
  have hI := hw
  refine W.widen (k := 0) (n := 0) (Nat.le_of_ble_eq_true rfl) (Nat.le_of_ble_eq_true rfl) ?_
  exact W.vret hx hb hr (fun t ht hW9 => ⟨⟨(u_6.1, u_6.2), rfl, hI, by rw [ht]; exact hP, va_K.moved hW9.alike hK, hD⟩, hS.F ht⟩) hS.2.2 dX0_fallAsleep_25
set_option maxHeartbeats 4000000 in
set_option maxRecDepth 100000 in
theorem k_energy (l : Launch) (dC : Nat → ClassId) (dI : Nat → Nat → Nat) (dA : Nat → ClassId) (ad sz : Nat) (τ : Nat → Nat → Nat) (pv : Nat → Nat → Value) (L : List Nat) (f : Nat → va_E) (hI : kI dA τ pv L f) (a : Nat) (hh_a : τ 0 a = 1) : Met l yX0_energy wsX0_energy ({ frames := 1, cells := 0, slots := 0, locals := 21 } : Room) (va_Pc [.ref a] (kB dC dI dA ad sz L f)) (va_Qf (fun r u => fb 2030043136 r ∧ nn r ∧ kI dA τ pv u.1 u.2) (kR dC dI dA (va_A (va_pl L f) sz)) (va_A (va_pl L f) sz)) 0 0 (va_A (va_pl L f) sz) := by
  refine Met.ofW (cc := cX0_energy) (maxL := 1) (ret := (some .float)) (by decide) rfl ?_
  intro p e s m args below meth c s₁ B hml hv
  obtain ⟨rfl, hsz, hP, hK, hD0, hE⟩ := hv
  have hx := B.exec
  have hb := B.bytes
  have hr := B.returns
  have hts := atoms_spec (ws := wsX0_energy) B.pre
  have hown : s.vm.findClass RX0 = some m.cls := findClass_of_methodNamed B.named
  have hlocks := B.notSynchronized
  have i_X0 : ∀ w ∈ u_ws RX0 TX0 16, w ∈ wsX0_energy := by decide +kernel
  subst hsz
  have hD := hD0.self (sz := s.heap.size)
  generalize hAe : va_A (va_pl L f) s.heap.size = A at hD hE ⊢
  have hA : ∀ q : Nat, s.heap.size ≤ q → A q := fun q h => by rw [← hAe]; exact Or.inr h
  have hS : va_S A s.heap s.heap [] := va_S.rf
  have hP : va_P (dC, dI) vwCl (va_pl L f) s.heap := hP
  have hK : va_K (dC, dI) vwCl (tyA dA) s := hK
  have hl := lv_entry ([.ref a]) (n := 1) (Nat.le_of_ble_eq_true rfl)
  rw [lg_entry_eq]
  generalize (lg_sl ([.ref a]) ++ List.replicate (1 - (lg_sl ([.ref a])).length) Slot.unset).toArray = ls at hl ⊢
  have hl : lv_has ls 1 [(0, .ref a)] := hl
  refine lv_aload_n hx hb dX0_energy_0 rfl (lv_at hl 0 rfl) ?_
  refine kp_get hx hb hts i_X0 hown hK hP hI hh_a rfl rfl 9 (by decide) (by decide) (hts (.fieldLink RX0 12 "IslandSolver$Body" "v" "LIslandSolver$Vec;") (by decide +kernel)) (fun _ h9 => h9) dX0_energy_1 (kq_RE 3 (by decide) fun x_1 h_2_e h_2 => ?_)
  refine lv_aload_n hx hb dX0_energy_4 rfl (lv_at hl 0 rfl) ?_
  refine kp_get hx hb hts i_X0 hown hK hP hI hh_a rfl rfl 9 (by decide) (by decide) (hts (.fieldLink RX0 12 "IslandSolver$Body" "v" "LIslandSolver$Vec;") (by decide +kernel)) (fun _ h9 => h9) dX0_energy_5 (kq_E h_2_e ?_)
  refine kd_callf (va_runV (As := [.ref x_1]) (rest := []) ⟨hx, hb, hml, hown, hts⟩ (k_dotself l dC dI dA ad _ τ pv _ _ hI x_1 h_2) (cwV 1 hts gX0_energy_X2_dot rfl rfl rfl (by decide +kernel) ⟨Nat.le_of_ble_eq_true rfl, Nat.le_of_ble_eq_true rfl⟩) (kd_preV hP hD hK hS hA hE hI h_2 rfl rfl) rfl rfl hl.1 rfl (lv_room (Nat.le_of_ble_eq_true rfl)) dX0_energy_8 ⟨Nat.le_of_ble_eq_true rfl, Nat.le_of_ble_eq_true rfl⟩) hD hS hA (fun r_6 u_5 H locs hw hP hD hS => ?_)
  obtain ⟨hr_6, nr_6, hI⟩ := hw
  refine lv_aload_n hx hb dX0_energy_11 rfl (lv_at hl 0 rfl) ?_
  refine kp_get hx hb hts i_X0 hown hK hP hI hh_a rfl rfl 10 (by decide) (by decide) (hts (.fieldLink RX0 18 "IslandSolver$Body" "s" "LIslandSolver$Vec;") (by decide +kernel)) (fun _ h9 => h9) dX0_energy_12 (kq_RE 3 (by decide) fun x_7 h_8_e h_8 => ?_)
  refine lv_aload_n hx hb dX0_energy_15 rfl (lv_at hl 0 rfl) ?_
  refine kp_get hx hb hts i_X0 hown hK hP hI hh_a rfl rfl 10 (by decide) (by decide) (hts (.fieldLink RX0 18 "IslandSolver$Body" "s" "LIslandSolver$Vec;") (by decide +kernel)) (fun _ h9 => h9) dX0_energy_16 (kq_E h_8_e ?_)
  refine kd_callf (va_runV (As := [.ref x_7]) (rest := [.float r_6]) ⟨hx, hb, hml, hown, hts⟩ (k_dotself l dC dI dA ad _ τ pv _ _ hI x_7 h_8) (cwV 1 hts gX0_energy_X2_dot rfl rfl rfl (by decide +kernel) ⟨Nat.le_of_ble_eq_true rfl, Nat.le_of_ble_eq_true rfl⟩) (kd_preV hP hD hK hS hA hE hI h_8 rfl rfl) rfl rfl hl.1 rfl (lv_room (Nat.le_of_ble_eq_true rfl)) dX0_energy_19 ⟨Nat.le_of_ble_eq_true rfl, Nat.le_of_ble_eq_true rfl⟩) hD hS hA (fun r_12 u_11 H locs hw hP hD hS => ?_)
  obtain ⟨hr_12, nr_12, hI⟩ := hw
  refine kw_nnB (M := 2025848832) hx hb dX0_energy_22 hr_6 hr_12 (by decide) (by decide) (by decide +kernel) (by decide) nr_6 nr_12 (fun z_13 hz_14 hz_14_2 => ?_)
  refine W.widen (k := 0) (n := 0) (Nat.le_of_ble_eq_true rfl) (Nat.le_of_ble_eq_true rfl) ?_
  exact W.fret (v := z_13) hx hb hr (fun t ht hW9 => ⟨⟨z_13, (u_11.1, u_11.2), rfl, ⟨(fb_le hz_14 (by decide)), hz_14_2, hI⟩, by rw [ht]; exact hP, va_K.moved hW9.alike hK, hD⟩, hS.F ht⟩) hS.2.2 dX0_energy_23
set_option maxHeartbeats 4000000 in
set_option maxRecDepth 100000 in
theorem k_settle (l : Launch) (dC : Nat → ClassId) (dI : Nat → Nat → Nat) (dA : Nat → ClassId) (ad sz : Nat) (τ : Nat → Nat → Nat) (pv : Nat → Nat → Value) (L : List Nat) (f : Nat → va_E) (hI : kI dA τ pv L f) (a : Nat) (hh_a : τ 0 a = 1) (x : UInt32) : Met l yX0_settle wsX0_settle ({ frames := 2, cells := 0, slots := 0, locals := 43 } : Room) (va_Pc [.ref a, .float x] (kB dC dI dA ad sz L f)) (va_Qv (fun u => kI dA τ pv u.1 u.2) (kR dC dI dA (va_A (va_pl L f) sz)) (va_A (va_pl L f) sz)) 0 0 (va_A (va_pl L f) sz) := by
  refine Met.ofW (cc := cX0_settle) (maxL := 2) (ret := none) (by decide) rfl ?_
  intro p e s m args below meth c s₁ B hml hv
  obtain ⟨rfl, hsz, hP, hK, hD0, hE⟩ := hv
  have hx := B.exec
  have hb := B.bytes
  have hr := B.returns
  have hts := atoms_spec (ws := wsX0_settle) B.pre
  have hown : s.vm.findClass RX0 = some m.cls := findClass_of_methodNamed B.named
  have hlocks := B.notSynchronized
  have i_X0 : ∀ w ∈ u_ws RX0 TX0 16, w ∈ wsX0_settle := by decide +kernel
  subst hsz
  have hD := hD0.self (sz := s.heap.size)
  generalize hAe : va_A (va_pl L f) s.heap.size = A at hD hE ⊢
  have hA : ∀ q : Nat, s.heap.size ≤ q → A q := fun q h => by rw [← hAe]; exact Or.inr h
  have hS : va_S A s.heap s.heap [] := va_S.rf
  have hP : va_P (dC, dI) vwCl (va_pl L f) s.heap := hP
  have hK : va_K (dC, dI) vwCl (tyA dA) s := hK
  have hl := lv_entry ([.ref a, .float x]) (n := 2) (Nat.le_of_ble_eq_true rfl)
  rw [lg_entry_eq]
  generalize (lg_sl ([.ref a, .float x]) ++ List.replicate (2 - (lg_sl ([.ref a, .float x])).length) Slot.unset).toArray = ls at hl ⊢
  have hl : lv_has ls 2 [(0, .ref a), (1, .float x)] := hl
  refine lv_aload_n hx hb dX0_settle_0 rfl (lv_at hl 0 rfl) ?_
  refine kp_get hx hb hts i_X0 hown hK hP hI hh_a rfl rfl 9 (by decide) (by decide) (hts (.fieldLink RX0 12 "IslandSolver$Body" "v" "LIslandSolver$Vec;") (by decide +kernel)) (fun _ h9 => h9) dX0_settle_1 (kq_R 3 (by decide) fun x_1 h_2 => ?_)
  refine lv_ldcf (v := 1166016512) hx hb hown (hts (.constantFloat RX0 70 (1166016512)) (by decide +kernel)) dX0_settle_4 ?_
  have hc_3 : fb 1166016512 1166016512 := by unfold fb; decide +kernel
  refine kd_callv (va_runV (As := [.float 1166016512]) (rest := []) ⟨hx, hb, hml, hown, hts⟩ (k_holdWithin l dC dI dA ad _ τ pv _ _ hI x_1 h_2 1166016512 hc_3) (cwV 1 hts gX0_settle_X2_holdWithin rfl rfl rfl (by decide +kernel) ⟨Nat.le_of_ble_eq_true rfl, Nat.le_of_ble_eq_true rfl⟩) (kd_preV hP hD hK hS hA hE hI h_2 rfl rfl) rfl rfl hl.1 rfl (lv_room (Nat.le_of_ble_eq_true rfl)) dX0_settle_6 ⟨Nat.le_of_ble_eq_true rfl, Nat.le_of_ble_eq_true rfl⟩) hD hS hA (fun u_4 H locs hw hP hD hS => ?_)
  have hI := hw
  refine lv_aload_n hx hb dX0_settle_9 rfl (lv_at hl 0 rfl) ?_
  refine kp_get hx hb hts i_X0 hown hK hP hI hh_a rfl rfl 10 (by decide) (by decide) (hts (.fieldLink RX0 18 "IslandSolver$Body" "s" "LIslandSolver$Vec;") (by decide +kernel)) (fun _ h9 => h9) dX0_settle_10 (kq_R 3 (by decide) fun x_5 h_6 => ?_)
  refine lv_ldcf (v := 1166016512) hx hb hown (hts (.constantFloat RX0 70 (1166016512)) (by decide +kernel)) dX0_settle_13 ?_
  have hc_7 : fb 1166016512 1166016512 := by unfold fb; decide +kernel
  refine kd_callv (va_runV (As := [.float 1166016512]) (rest := []) ⟨hx, hb, hml, hown, hts⟩ (k_holdWithin l dC dI dA ad _ τ pv _ _ hI x_5 h_6 1166016512 hc_7) (cwV 1 hts gX0_settle_X2_holdWithin rfl rfl rfl (by decide +kernel) ⟨Nat.le_of_ble_eq_true rfl, Nat.le_of_ble_eq_true rfl⟩) (kd_preV hP hD hK hS hA hE hI h_6 rfl rfl) rfl rfl hl.1 rfl (lv_room (Nat.le_of_ble_eq_true rfl)) dX0_settle_15 ⟨Nat.le_of_ble_eq_true rfl, Nat.le_of_ble_eq_true rfl⟩) hD hS hA (fun u_8 H locs hw hP hD hS => ?_)
  have hI := hw
  refine lv_aload_n hx hb dX0_settle_18 rfl (lv_at hl 0 rfl) ?_
  refine lv_aload_n hx hb dX0_settle_19 rfl (lv_at hl 0 rfl) ?_
  refine kd_callf (va_runV (As := []) (rest := [.ref a]) ⟨hx, hb, hml, hown, hts⟩ (k_energy l dC dI dA ad _ τ pv _ _ hI a hh_a) (cwV 0 hts gX0_settle_X0_energy rfl rfl rfl (by decide +kernel) ⟨Nat.le_of_ble_eq_true rfl, Nat.le_of_ble_eq_true rfl⟩) (kd_preV hP hD hK hS hA hE hI hh_a rfl rfl) rfl rfl hl.1 rfl (lv_room (Nat.le_of_ble_eq_true rfl)) dX0_settle_20 ⟨Nat.le_of_ble_eq_true rfl, Nat.le_of_ble_eq_true rfl⟩) hD hS hA (fun r_10 u_9 H locs hw hP hD hS => ?_)
  obtain ⟨hr_10, nr_10, hI⟩ := hw
  refine lv_fload_n hx hb dX0_settle_23 rfl (lv_at hl 1 rfl) ?_
  refine lv_fcmp hx hb dX0_settle_24 ?_
  refine lv_if_ge (tgt := 37) hx hb dX0_settle_25 (by decide) (fun c_11 => ?_) (fun c_11 => ?_)
  · refine lv_iconst (v := 0) hx hb dX0_settle_37 (by decide) ?_
    refine kp_put (v := .int 0) (ty := .int) hx hb hts i_X0 tyX0 tyX0_ok nmX0 hown hK hP hD hS hI hh_a rfl rfl 12 (by decide) (by decide) (hts (.fieldLink RX0 59 "IslandSolver$Body" "quiet" "I") (by decide +kernel)) (fun _ h9 => h9) rfl (by decide +kernel) rfl rfl rfl (by decide) (kv_I _) dX0_settle_38 (fun f H locs hI hP hD hS => ?_)
    refine W.widen (k := 0) (n := 0) (Nat.le_of_ble_eq_true rfl) (Nat.le_of_ble_eq_true rfl) ?_
    exact W.vret hx hb hr (fun t ht hW9 => ⟨⟨(u_9.1, f), rfl, hI, by rw [ht]; exact hP, va_K.moved hW9.alike hK, hD⟩, hS.F ht⟩) hS.2.2 dX0_settle_41
  · refine lv_aload_n hx hb dX0_settle_28 rfl (lv_at hl 0 rfl) ?_
    refine kp_get hx hb hts i_X0 hown hK hP hI hh_a rfl rfl 12 (by decide) (by decide) (hts (.fieldLink RX0 59 "IslandSolver$Body" "quiet" "I") (by decide +kernel)) (fun _ h9 => h9) dX0_settle_29 (kq_I fun x_12 => ?_)
    refine lv_iconst (v := 1) hx hb dX0_settle_32 (by decide) ?_
    refine lv_iadd hx hb dX0_settle_33 ?_
    refine lv_topi (fun x_14 ex_14 => ?_)
    refine lv_goto (tgt := 38) hx hb dX0_settle_34 (by decide) ?_
    refine kp_put (v := .int x_14) (ty := .int) hx hb hts i_X0 tyX0 tyX0_ok nmX0 hown hK hP hD hS hI hh_a rfl rfl 12 (by decide) (by decide) (hts (.fieldLink RX0 59 "IslandSolver$Body" "quiet" "I") (by decide +kernel)) (fun _ h9 => h9) rfl (by decide +kernel) rfl rfl rfl (by decide) (kv_I _) dX0_settle_38 (fun f H locs hI hP hD hS => ?_)
    refine W.widen (k := 0) (n := 0) (Nat.le_of_ble_eq_true rfl) (Nat.le_of_ble_eq_true rfl) ?_
    exact W.vret hx hb hr (fun t ht hW9 => ⟨⟨(u_9.1, f), rfl, hI, by rw [ht]; exact hP, va_K.moved hW9.alike hK, hD⟩, hS.F ht⟩) hS.2.2 dX0_settle_41
set_option maxHeartbeats 4000000 in
set_option maxRecDepth 100000 in
theorem k_rowMass (l : Launch) (dC : Nat → ClassId) (dI : Nat → Nat → Nat) (dA : Nat → ClassId) (ad sz : Nat) (τ : Nat → Nat → Nat) (pv : Nat → Nat → Value) (L : List Nat) (f : Nat → va_E) (hI : kI dA τ pv L f) (a : Nat) (hh_a : τ 0 a = 1) : Met l yX0_rowMass wsX0_rowMass ({ frames := 0, cells := 0, slots := 0, locals := 0 } : Room) (va_Pc [.ref a] (kB dC dI dA ad sz L f)) (va_Qf (fun r u => fb 1098907648 r ∧ kI dA τ pv u.1 u.2) (kR dC dI dA (va_A (va_pl L f) sz)) (va_A (va_pl L f) sz)) 0 0 (va_A (va_pl L f) sz) := by
  refine Met.ofW (cc := cX0_rowMass) (maxL := 1) (ret := (some .float)) (by decide) rfl ?_
  intro p e s m args below meth c s₁ B hml hv
  obtain ⟨rfl, hsz, hP, hK, hD0, hE⟩ := hv
  have hx := B.exec
  have hb := B.bytes
  have hr := B.returns
  have hts := atoms_spec (ws := wsX0_rowMass) B.pre
  have hown : s.vm.findClass RX0 = some m.cls := findClass_of_methodNamed B.named
  have hlocks := B.notSynchronized
  have i_X0 : ∀ w ∈ u_ws RX0 TX0 16, w ∈ wsX0_rowMass := by decide +kernel
  subst hsz
  have hD := hD0.self (sz := s.heap.size)
  generalize hAe : va_A (va_pl L f) s.heap.size = A at hD hE ⊢
  have hA : ∀ q : Nat, s.heap.size ≤ q → A q := fun q h => by rw [← hAe]; exact Or.inr h
  have hS : va_S A s.heap s.heap [] := va_S.rf
  have hP : va_P (dC, dI) vwCl (va_pl L f) s.heap := hP
  have hK : va_K (dC, dI) vwCl (tyA dA) s := hK
  have hl := lv_entry ([.ref a]) (n := 1) (Nat.le_of_ble_eq_true rfl)
  rw [lg_entry_eq]
  generalize (lg_sl ([.ref a]) ++ List.replicate (1 - (lg_sl ([.ref a])).length) Slot.unset).toArray = ls at hl ⊢
  have hl : lv_has ls 1 [(0, .ref a)] := hl
  refine lv_aload_n hx hb dX0_rowMass_0 rfl (lv_at hl 0 rfl) ?_
  refine kp_get hx hb hts i_X0 hown hK hP hI hh_a rfl rfl 1 (by decide) (by decide) (hts (.fieldLink RX0 41 "IslandSolver$Body" "movable" "Z") (by decide +kernel)) (fun _ h9 => h9) dX0_rowMass_1 (kq_51 fun h_2 => ?_)
  refine lv_if_eq (tgt := 14) hx hb dX0_rowMass_4 (by decide) (fun c_3 => ?_) (fun c_3 => ?_)
  · have n_4 : (τ 4 a) = 0 := (nI_eq (by omega) (by omega)).mp (show nI (τ 4 a) = nI 0 from c_3)
    refine lv_fconst0 hx hb dX0_rowMass_14 ?_
    refine W.widen (k := 0) (n := 0) (Nat.le_of_ble_eq_true rfl) (Nat.le_of_ble_eq_true rfl) ?_
    exact W.fret (v := FP.fconst0) hx hb hr (fun t ht hW9 => ⟨⟨FP.fconst0, (L, f), rfl, ⟨(fb_le kc_0 (by decide)), hI⟩, by rw [ht]; exact hP, va_K.moved hW9.alike hK, hD⟩, hS.F ht⟩) hS.2.2 dX0_rowMass_15
  · have n_5 : ¬ (τ 4 a) = 0 := fun h9 => (show ¬ nI (τ 4 a) = nI 0 from c_3) ((nI_eq (by omega) (by omega)).mpr h9)
    refine lv_aload_n hx hb dX0_rowMass_7 rfl (lv_at hl 0 rfl) ?_
    refine kp_get hx hb hts i_X0 hown hK hP hI hh_a rfl rfl 2 (by decide) (by decide) (hts (.fieldLink RX0 28 "IslandSolver$Body" "w" "F") (by decide +kernel)) (fun _ h9 => h9) dX0_rowMass_8 (kq_F (cd := 1098907648) (by decide) fun x_6 h_7 => ?_)
    refine lv_goto (tgt := 15) hx hb dX0_rowMass_11 (by decide) ?_
    refine W.widen (k := 0) (n := 0) (Nat.le_of_ble_eq_true rfl) (Nat.le_of_ble_eq_true rfl) ?_
    exact W.fret (v := x_6) hx hb hr (fun t ht hW9 => ⟨⟨x_6, (L, f), rfl, ⟨h_7, hI⟩, by rw [ht]; exact hP, va_K.moved hW9.alike hK, hD⟩, hS.F ht⟩) hS.2.2 dX0_rowMass_15
set_option maxHeartbeats 4000000 in
set_option maxRecDepth 100000 in
theorem k_turn (l : Launch) (dC : Nat → ClassId) (dI : Nat → Nat → Nat) (dA : Nat → ClassId) (ad sz : Nat) (τ : Nat → Nat → Nat) (pv : Nat → Nat → Value) (L : List Nat) (f : Nat → va_E) (hI : kI dA τ pv L f) (a : Nat) (hh_a : τ 0 a = 1) (b : Nat) (hh_b : τ 0 b = 4) (c9 : Nat) (hh_c9 : τ 0 c9 = 5) : Met l yX0_turn wsX0_turn ({ frames := 1, cells := 0, slots := 0, locals := 23 } : Room) (va_Pc [.ref a, .ref b, .ref c9] (kB dC dI dA ad sz L f)) (va_Qv (fun u => kI dA τ pv u.1 u.2) (kR dC dI dA (va_A (va_pl L f) sz)) (va_A (va_pl L f) sz)) 0 0 (va_A (va_pl L f) sz) := by
  refine Met.ofW (cc := cX0_turn) (maxL := 3) (ret := none) (by decide) rfl ?_
  intro p e s m args below meth c s₁ B hml hv
  obtain ⟨rfl, hsz, hP, hK, hD0, hE⟩ := hv
  have hx := B.exec
  have hb := B.bytes
  have hr := B.returns
  have hts := atoms_spec (ws := wsX0_turn) B.pre
  have hown : s.vm.findClass RX0 = some m.cls := findClass_of_methodNamed B.named
  have hlocks := B.notSynchronized
  have i_X0 : ∀ w ∈ u_ws RX0 TX0 16, w ∈ wsX0_turn := by decide +kernel
  have i_X2 : ∀ w ∈ u_ws RX2 TX2 3, w ∈ wsX0_turn := by decide +kernel
  subst hsz
  have hD := hD0.self (sz := s.heap.size)
  generalize hAe : va_A (va_pl L f) s.heap.size = A at hD hE ⊢
  have hA : ∀ q : Nat, s.heap.size ≤ q → A q := fun q h => by rw [← hAe]; exact Or.inr h
  have hS : va_S A s.heap s.heap [] := va_S.rf
  have hP : va_P (dC, dI) vwCl (va_pl L f) s.heap := hP
  have hK : va_K (dC, dI) vwCl (tyA dA) s := hK
  have hl := lv_entry ([.ref a, .ref b, .ref c9]) (n := 3) (Nat.le_of_ble_eq_true rfl)
  rw [lg_entry_eq]
  generalize (lg_sl ([.ref a, .ref b, .ref c9]) ++ List.replicate (3 - (lg_sl ([.ref a, .ref b, .ref c9])).length) Slot.unset).toArray = ls at hl ⊢
  have hl : lv_has ls 3 [(0, .ref a), (1, .ref b), (2, .ref c9)] := hl
  refine lv_aload_n hx hb dX0_turn_0 rfl (lv_at hl 0 rfl) ?_
  refine kp_get hx hb hts i_X0 hown hK hP hI hh_a rfl rfl 1 (by decide) (by decide) (hts (.fieldLink RX0 41 "IslandSolver$Body" "movable" "Z") (by decide +kernel)) (fun _ h9 => h9) dX0_turn_1 (kq_51 fun h_2 => ?_)
  refine lv_if_ne (tgt := 15) hx hb dX0_turn_4 (by decide) (fun c_3 => ?_) (fun c_3 => ?_)
  · have n_4 : ¬ (τ 4 a) = 0 := fun h9 => (show ¬ nI (τ 4 a) = nI 0 from c_3) ((nI_eq (by omega) (by omega)).mpr h9)
    refine lv_aload_n hx hb dX0_turn_15 rfl (lv_at hl 2 rfl) ?_
    refine lv_aload_n hx hb dX0_turn_16 rfl (lv_at hl 0 rfl) ?_
    refine kp_get hx hb hts i_X0 hown hK hP hI hh_a rfl rfl 3 (by decide) (by decide) (hts (.fieldLink RX0 32 "IslandSolver$Body" "xx" "F") (by decide +kernel)) (fun _ h9 => h9) dX0_turn_17 (kq_F (cd := 1098907648) (by decide) fun x_5 h_6 => ?_)
    refine lv_aload_n hx hb dX0_turn_20 rfl (lv_at hl 1 rfl) ?_
    refine kp_get hx hb hts i_X2 hown hK hP hI hh_b rfl rfl 0 (by decide) (by decide) (hts (.fieldLink RX0 79 "IslandSolver$Vec" "x" "F") (by decide +kernel)) (fun _ h9 => h9) dX0_turn_21 (kq_F (cd := 1115684864) (by decide) fun x_7 h_8 => ?_)
    refine kw_fmul (M := 1149239296) hx hb dX0_turn_24 h_6 h_8 (by decide) (by decide) (by decide +kernel) (by decide) (fun z_9 hz_10 => ?_)
    refine lv_aload_n hx hb dX0_turn_25 rfl (lv_at hl 0 rfl) ?_
    refine kp_get hx hb hts i_X0 hown hK hP hI hh_a rfl rfl 6 (by decide) (by decide) (hts (.fieldLink RX0 82 "IslandSolver$Body" "xy" "F") (by decide +kernel)) (fun _ h9 => h9) dX0_turn_26 (kq_F (cd := 1098907648) (by decide) fun x_11 h_12 => ?_)
    refine lv_aload_n hx hb dX0_turn_29 rfl (lv_at hl 1 rfl) ?_
    refine kp_get hx hb hts i_X2 hown hK hP hI hh_b rfl rfl 1 (by decide) (by decide) (hts (.fieldLink RX0 85 "IslandSolver$Vec" "y" "F") (by decide +kernel)) (fun _ h9 => h9) dX0_turn_30 (kq_F (cd := 1115684864) (by decide) fun x_13 h_14 => ?_)
    refine kw_fmul (M := 1149239296) hx hb dX0_turn_33 h_12 h_14 (by decide) (by decide) (by decide +kernel) (by decide) (fun z_15 hz_16 => ?_)
    refine kw_fadd (M := 1157627904) hx hb dX0_turn_34 hz_10 hz_16 (by decide) (by decide) (by decide +kernel) (by decide) (fun z_17 hz_18 => ?_)
    refine lv_aload_n hx hb dX0_turn_35 rfl (lv_at hl 0 rfl) ?_
    refine kp_get hx hb hts i_X0 hown hK hP hI hh_a rfl rfl 8 (by decide) (by decide) (hts (.fieldLink RX0 88 "IslandSolver$Body" "zx" "F") (by decide +kernel)) (fun _ h9 => h9) dX0_turn_36 (kq_F (cd := 1098907648) (by decide) fun x_19 h_20 => ?_)
    refine lv_aload_n hx hb dX0_turn_39 rfl (lv_at hl 1 rfl) ?_
    refine kp_get hx hb hts i_X2 hown hK hP hI hh_b rfl rfl 2 (by decide) (by decide) (hts (.fieldLink RX0 91 "IslandSolver$Vec" "z" "F") (by decide +kernel)) (fun _ h9 => h9) dX0_turn_40 (kq_F (cd := 1115684864) (by decide) fun x_21 h_22 => ?_)
    refine kw_fmul (M := 1149239296) hx hb dX0_turn_43 h_20 h_22 (by decide) (by decide) (by decide +kernel) (by decide) (fun z_23 hz_24 => ?_)
    refine kw_fadd (M := 1161822208) hx hb dX0_turn_44 hz_18 hz_24 (by decide) (by decide) (by decide +kernel) (by decide) (fun z_25 hz_26 => ?_)
    refine lv_aload_n hx hb dX0_turn_45 rfl (lv_at hl 0 rfl) ?_
    refine kp_get hx hb hts i_X0 hown hK hP hI hh_a rfl rfl 6 (by decide) (by decide) (hts (.fieldLink RX0 82 "IslandSolver$Body" "xy" "F") (by decide +kernel)) (fun _ h9 => h9) dX0_turn_46 (kq_F (cd := 1098907648) (by decide) fun x_27 h_28 => ?_)
    refine lv_aload_n hx hb dX0_turn_49 rfl (lv_at hl 1 rfl) ?_
    refine kp_get hx hb hts i_X2 hown hK hP hI hh_b rfl rfl 0 (by decide) (by decide) (hts (.fieldLink RX0 79 "IslandSolver$Vec" "x" "F") (by decide +kernel)) (fun _ h9 => h9) dX0_turn_50 (kq_F (cd := 1115684864) (by decide) fun x_29 h_30 => ?_)
    refine kw_fmul (M := 1149239296) hx hb dX0_turn_53 h_28 h_30 (by decide) (by decide) (by decide +kernel) (by decide) (fun z_31 hz_32 => ?_)
    refine lv_aload_n hx hb dX0_turn_54 rfl (lv_at hl 0 rfl) ?_
    refine kp_get hx hb hts i_X0 hown hK hP hI hh_a rfl rfl 4 (by decide) (by decide) (hts (.fieldLink RX0 35 "IslandSolver$Body" "yy" "F") (by decide +kernel)) (fun _ h9 => h9) dX0_turn_55 (kq_F (cd := 1098907648) (by decide) fun x_33 h_34 => ?_)
    refine lv_aload_n hx hb dX0_turn_58 rfl (lv_at hl 1 rfl) ?_
    refine kp_get hx hb hts i_X2 hown hK hP hI hh_b rfl rfl 1 (by decide) (by decide) (hts (.fieldLink RX0 85 "IslandSolver$Vec" "y" "F") (by decide +kernel)) (fun _ h9 => h9) dX0_turn_59 (kq_F (cd := 1115684864) (by decide) fun x_35 h_36 => ?_)
    refine kw_fmul (M := 1149239296) hx hb dX0_turn_62 h_34 h_36 (by decide) (by decide) (by decide +kernel) (by decide) (fun z_37 hz_38 => ?_)
    refine kw_fadd (M := 1157627904) hx hb dX0_turn_63 hz_32 hz_38 (by decide) (by decide) (by decide +kernel) (by decide) (fun z_39 hz_40 => ?_)
    refine lv_aload_n hx hb dX0_turn_64 rfl (lv_at hl 0 rfl) ?_
    refine kp_get hx hb hts i_X0 hown hK hP hI hh_a rfl rfl 7 (by decide) (by decide) (hts (.fieldLink RX0 94 "IslandSolver$Body" "yz" "F") (by decide +kernel)) (fun _ h9 => h9) dX0_turn_65 (kq_F (cd := 1098907648) (by decide) fun x_41 h_42 => ?_)
    refine lv_aload_n hx hb dX0_turn_68 rfl (lv_at hl 1 rfl) ?_
    refine kp_get hx hb hts i_X2 hown hK hP hI hh_b rfl rfl 2 (by decide) (by decide) (hts (.fieldLink RX0 91 "IslandSolver$Vec" "z" "F") (by decide +kernel)) (fun _ h9 => h9) dX0_turn_69 (kq_F (cd := 1115684864) (by decide) fun x_43 h_44 => ?_)
    refine kw_fmul (M := 1149239296) hx hb dX0_turn_72 h_42 h_44 (by decide) (by decide) (by decide +kernel) (by decide) (fun z_45 hz_46 => ?_)
    refine kw_fadd (M := 1161822208) hx hb dX0_turn_73 hz_40 hz_46 (by decide) (by decide) (by decide +kernel) (by decide) (fun z_47 hz_48 => ?_)
    refine lv_aload_n hx hb dX0_turn_74 rfl (lv_at hl 0 rfl) ?_
    refine kp_get hx hb hts i_X0 hown hK hP hI hh_a rfl rfl 8 (by decide) (by decide) (hts (.fieldLink RX0 88 "IslandSolver$Body" "zx" "F") (by decide +kernel)) (fun _ h9 => h9) dX0_turn_75 (kq_F (cd := 1098907648) (by decide) fun x_49 h_50 => ?_)
    refine lv_aload_n hx hb dX0_turn_78 rfl (lv_at hl 1 rfl) ?_
    refine kp_get hx hb hts i_X2 hown hK hP hI hh_b rfl rfl 0 (by decide) (by decide) (hts (.fieldLink RX0 79 "IslandSolver$Vec" "x" "F") (by decide +kernel)) (fun _ h9 => h9) dX0_turn_79 (kq_F (cd := 1115684864) (by decide) fun x_51 h_52 => ?_)
    refine kw_fmul (M := 1149239296) hx hb dX0_turn_82 h_50 h_52 (by decide) (by decide) (by decide +kernel) (by decide) (fun z_53 hz_54 => ?_)
    refine lv_aload_n hx hb dX0_turn_83 rfl (lv_at hl 0 rfl) ?_
    refine kp_get hx hb hts i_X0 hown hK hP hI hh_a rfl rfl 7 (by decide) (by decide) (hts (.fieldLink RX0 94 "IslandSolver$Body" "yz" "F") (by decide +kernel)) (fun _ h9 => h9) dX0_turn_84 (kq_F (cd := 1098907648) (by decide) fun x_55 h_56 => ?_)
    refine lv_aload_n hx hb dX0_turn_87 rfl (lv_at hl 1 rfl) ?_
    refine kp_get hx hb hts i_X2 hown hK hP hI hh_b rfl rfl 1 (by decide) (by decide) (hts (.fieldLink RX0 85 "IslandSolver$Vec" "y" "F") (by decide +kernel)) (fun _ h9 => h9) dX0_turn_88 (kq_F (cd := 1115684864) (by decide) fun x_57 h_58 => ?_)
    refine kw_fmul (M := 1149239296) hx hb dX0_turn_91 h_56 h_58 (by decide) (by decide) (by decide +kernel) (by decide) (fun z_59 hz_60 => ?_)
    refine kw_fadd (M := 1157627904) hx hb dX0_turn_92 hz_54 hz_60 (by decide) (by decide) (by decide +kernel) (by decide) (fun z_61 hz_62 => ?_)
    refine lv_aload_n hx hb dX0_turn_93 rfl (lv_at hl 0 rfl) ?_
    refine kp_get hx hb hts i_X0 hown hK hP hI hh_a rfl rfl 5 (by decide) (by decide) (hts (.fieldLink RX0 38 "IslandSolver$Body" "zz" "F") (by decide +kernel)) (fun _ h9 => h9) dX0_turn_94 (kq_F (cd := 1098907648) (by decide) fun x_63 h_64 => ?_)
    refine lv_aload_n hx hb dX0_turn_97 rfl (lv_at hl 1 rfl) ?_
    refine kp_get hx hb hts i_X2 hown hK hP hI hh_b rfl rfl 2 (by decide) (by decide) (hts (.fieldLink RX0 91 "IslandSolver$Vec" "z" "F") (by decide +kernel)) (fun _ h9 => h9) dX0_turn_98 (kq_F (cd := 1115684864) (by decide) fun x_65 h_66 => ?_)
    refine kw_fmul (M := 1149239296) hx hb dX0_turn_101 h_64 h_66 (by decide) (by decide) (by decide +kernel) (by decide) (fun z_67 hz_68 => ?_)
    refine kw_fadd (M := 1161822208) hx hb dX0_turn_102 hz_62 hz_68 (by decide) (by decide) (by decide +kernel) (by decide) (fun z_69 hz_70 => ?_)
    refine kd_callv (va_runV (As := [.float z_25, .float z_47, .float z_69]) (rest := []) ⟨hx, hb, hml, hown, hts⟩ (k_put5 l dC dI dA ad _ τ pv _ _ hI c9 hh_c9 z_25 hz_26 z_47 hz_48 z_69 hz_70) (cwV 3 hts gX0_turn_X2_put rfl rfl rfl (by decide +kernel) ⟨Nat.le_of_ble_eq_true rfl, Nat.le_of_ble_eq_true rfl⟩) (kd_preV hP hD hK hS hA hE hI hh_c9 rfl rfl) rfl rfl hl.1 rfl (lv_room (Nat.le_of_ble_eq_true rfl)) dX0_turn_103 ⟨Nat.le_of_ble_eq_true rfl, Nat.le_of_ble_eq_true rfl⟩) hD hS hA (fun u_71 H locs hw hP hD hS => ?_)
    have hI := hw
    refine W.widen (k := 0) (n := 0) (Nat.le_of_ble_eq_true rfl) (Nat.le_of_ble_eq_true rfl) ?_
    exact W.vret hx hb hr (fun t ht hW9 => ⟨⟨(u_71.1, u_71.2), rfl, hI, by rw [ht]; exact hP, va_K.moved hW9.alike hK, hD⟩, hS.F ht⟩) hS.2.2 dX0_turn_106
  · have n_72 : (τ 4 a) = 0 := (nI_eq (by omega) (by omega)).mp (show nI (τ 4 a) = nI 0 from c_3)
    refine lv_aload_n hx hb dX0_turn_7 rfl (lv_at hl 2 rfl) ?_
    refine lv_fconst0 hx hb dX0_turn_8 ?_
    refine lv_fconst0 hx hb dX0_turn_9 ?_
    refine lv_fconst0 hx hb dX0_turn_10 ?_
    refine kd_callv (va_runV (As := [.float FP.fconst0, .float FP.fconst0, .float FP.fconst0]) (rest := []) ⟨hx, hb, hml, hown, hts⟩ (k_put5 l dC dI dA ad _ τ pv _ _ hI c9 hh_c9 FP.fconst0 (fb_le kc_0 (by decide)) FP.fconst0 (fb_le kc_0 (by decide)) FP.fconst0 (fb_le kc_0 (by decide))) (cwV 3 hts gX0_turn_X2_put rfl rfl rfl (by decide +kernel) ⟨Nat.le_of_ble_eq_true rfl, Nat.le_of_ble_eq_true rfl⟩) (kd_preV hP hD hK hS hA hE hI hh_c9 rfl rfl) rfl rfl hl.1 rfl (lv_room (Nat.le_of_ble_eq_true rfl)) dX0_turn_11 ⟨Nat.le_of_ble_eq_true rfl, Nat.le_of_ble_eq_true rfl⟩) hD hS hA (fun u_73 H locs hw hP hD hS => ?_)
    have hI := hw
    refine W.widen (k := 0) (n := 0) (Nat.le_of_ble_eq_true rfl) (Nat.le_of_ble_eq_true rfl) ?_
    exact W.vret hx hb hr (fun t ht hW9 => ⟨⟨(u_73.1, u_73.2), rfl, hI, by rw [ht]; exact hP, va_K.moved hW9.alike hK, hD⟩, hS.F ht⟩) hS.2.2 dX0_turn_14
