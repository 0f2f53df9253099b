set_option maxHeartbeats 4000000 in
set_option maxRecDepth 100000 in
theorem k_rouseAwake (l : Launch) (dC : Nat → ClassId) (dI : Nat → Nat → Nat) (dA : Nat → ClassId) (ad sz : Nat) (τ : Nat → Nat → Nat) (pv : Nat → Nat → Value) (L : List Nat) (f : Nat → va_E) (hI : kI dA τ pv L f) (x bl rl kl ba ra ka fr nb nr nk : Nat) (hW : kW τ pv ad x bl rl kl ba ra ka fr nb nr nk)  : Met l yX3_rouseAwakeIslands wsX3_rouseAwakeIslands ({ frames := 3, cells := 0, slots := 0, locals := 64 } : Room) (va_Pc [.ref x] (kB dC dI dA ad sz L f)) (va_Qv (fun u => kI dA τ pv u.1 u.2) (kR dC dI dA (va_A (va_pl L f) sz)) (va_A (va_pl L f) sz)) 0 0 (va_A (va_pl L f) sz) := by
  refine Met.ofW (cc := cX3_rouseAwakeIslands) (maxL := 3) (ret := none) (by decide) rfl ?_
  intro p e s m args below meth c s₁ B hml hv
  obtain ⟨rfl, hsz, hP, hK, hD0, hE⟩ := hv
  have hx := B.exec
  have hb := B.bytes
  have hr := B.returns
  have hts := atoms_spec (ws := wsX3_rouseAwakeIslands) B.pre
  have hown : s.vm.findClass RX3 = some m.cls := findClass_of_methodNamed B.named
  have hlocks := B.notSynchronized
  have i_X3 : ∀ w ∈ u_ws RX3 TX3 16, w ∈ wsX3_rouseAwakeIslands := by decide +kernel
  have i_X0 : ∀ w ∈ u_ws RX0 TX0 16, w ∈ wsX3_rouseAwakeIslands := by decide +kernel
  subst hsz
  have hD := hD0.self (sz := s.heap.size)
  generalize hAe : va_A (va_pl L f) s.heap.size = A at hD hE ⊢
  have hA : ∀ q : Nat, s.heap.size ≤ q → A q := fun q h => by rw [← hAe]; exact Or.inr h
  have hS : va_S A s.heap s.heap [] := va_S.rf
  have hP : va_P (dC, dI) vwCl (va_pl L f) s.heap := hP
  have hK : va_K (dC, dI) vwCl (tyA dA) s := hK
  have hl := lv_entry ([.ref x]) (n := 3) (Nat.le_of_ble_eq_true rfl)
  rw [lg_entry_eq]
  generalize (lg_sl ([.ref x]) ++ List.replicate (3 - (lg_sl ([.ref x])).length) Slot.unset).toArray = ls at hl ⊢
  have hl : lv_has ls 3 [(0, .ref x)] := hl
  have hnb := hW.lnb
  have hnr := hW.lnr
  have hnk := hW.lnk
  refine lv_iconst (v := 0) hx hb dX3_rouseAwakeIslands_0 (by decide) ?_
  refine lv_istore_n (lv' := [(1, .int 0), (0, .ref x)]) hx hb dX3_rouseAwakeIslands_1 rfl hl (by decide) rfl (fun ls hl => ?_)
  have hl : lv_has ls 3 [(0, .ref x), (1, .int 0)] := lv_sub hl [1, 0] rfl
  refine kl_loop (Inv := fun n2 _ L f H locs ls => ∃ (i : Nat), nb - i < n2 ∧ kI dA τ pv L f ∧ va_P (dC, dI) vwCl (va_pl L f) H ∧ va_D A (va_pl L f) ∧ va_S A s.heap H locs ∧ lv_has ls 3 [(0, .ref x), (1, .int (nI i))] ∧ i ≤ nb) (fun _ _ _ _ _ _ h9 => by obtain ⟨_, hn, _⟩ := h9; exact Nat.not_lt_zero _ hn) (fun n2 ih2 _ L f H locs ls h9 => ?_) (nb - 0 + 1) (fun _ _ => .null) _ _ _ _ _ ⟨0, Nat.lt_succ_self _, hI, hP, hD, hS, hl, Nat.zero_le _⟩
  obtain ⟨i, hn2, hI, hP, hD, hS, hl, hib⟩ := h9
  refine lv_iload_n hx hb dX3_rouseAwakeIslands_2 rfl (lv_at hl 1 rfl) ?_
  refine lv_aload_n hx hb dX3_rouseAwakeIslands_3 rfl (lv_at hl 0 rfl) ?_
  refine kp_get hx hb hts i_X3 hown hK hP hI hW.tx rfl rfl 0 (by decide) (by decide) (hts (.fieldLink RX3 10 "IslandSolver" "bodies" "Ljava/util/ArrayList;") (by decide +kernel)) (fun _ h9 => h9) dX3_rouseAwakeIslands_4 (kq_P (v0 := .ref bl) rfl hW.p0 fun h_2 => ?_)
  refine kd_calli (va_runV (As := []) (rest := [.int (nI i)]) ⟨hx, hb, hml, hown, hts⟩ (k_size7 l dC dI dA ad _ τ pv _ _ hI bl nb hW.lb.1 hW.lb.2.2.1) (cwV 0 hts gX3_rouseAwakeIslands_Jx4a65c_size_8abf5 rfl rfl rfl (by decide +kernel) ⟨Nat.le_of_ble_eq_true rfl, Nat.le_of_ble_eq_true rfl⟩) (kd_preV hP hD hK hS hA hE hI hW.lb.1 rfl rfl) rfl rfl hl.1 rfl (lv_room (Nat.le_of_ble_eq_true rfl)) dX3_rouseAwakeIslands_7 ⟨Nat.le_of_ble_eq_true rfl, Nat.le_of_ble_eq_true rfl⟩) hD hS hA (fun r_4 u_3 H locs hw hP hD hS => ?_)
  obtain ⟨rfl, hI⟩ := hw
  refine lv_icmp_ge (tgt := 54) hx hb dX3_rouseAwakeIslands_10 (by decide) (fun c_5 => ?_) (fun c_5 => ?_)
  · have n_6 : nb ≤ i := (nI_leI (by omega) (by omega)).mp (show nI nb ≤ nI i from c_5)
    refine W.widen (k := 0) (n := 0) (Nat.le_of_ble_eq_true rfl) (Nat.le_of_ble_eq_true rfl) ?_
    exact W.vret hx hb hr (fun t ht hW9 => ⟨⟨(u_3.1, u_3.2), rfl, hI, by rw [ht]; exact hP, va_K.moved hW9.alike hK, hD⟩, hS.F ht⟩) hS.2.2 dX3_rouseAwakeIslands_54
  · have n_7 : ¬ nb ≤ i := fun h9 => (show ¬ nI nb ≤ nI i from c_5) ((nI_leI (by omega) (by omega)).mpr h9)
    refine lv_aload_n hx hb dX3_rouseAwakeIslands_13 rfl (lv_at hl 0 rfl) ?_
    refine kp_get hx hb hts i_X3 hown hK hP hI hW.tx rfl rfl 0 (by decide) (by decide) (hts (.fieldLink RX3 10 "IslandSolver" "bodies" "Ljava/util/ArrayList;") (by decide +kernel)) (fun _ h9 => h9) dX3_rouseAwakeIslands_14 (kq_P (v0 := .ref bl) rfl hW.p0 fun h_9 => ?_)
    refine lv_iload_n hx hb dX3_rouseAwakeIslands_17 rfl (lv_at hl 1 rfl) ?_
    obtain ⟨q_10, g_11, g_12, g_13, g_14⟩ := hW.lb.at (i := i) (by omega)
    have g_15 := hW.xb (i := i) (by omega) g_13
    refine kd_callq (va_runV (As := [.int (nI i)]) (rest := []) ⟨hx, hb, hml, hown, hts⟩ (k_get7 l dC dI dA ad _ τ pv _ _ hI bl ba nb i q_10 hW.lb.1 hW.lb.2.1 hW.lb.2.2.1 g_11 g_12 (by omega) (by omega) g_13) (cwV 1 hts gX3_rouseAwakeIslands_Jx4a65c_get_915e3 rfl rfl rfl (by decide +kernel) ⟨Nat.le_of_ble_eq_true rfl, Nat.le_of_ble_eq_true rfl⟩) (kd_preV hP hD hK hS hA hE hI hW.lb.1 rfl rfl) rfl rfl hl.1 rfl (lv_room (Nat.le_of_ble_eq_true rfl)) dX3_rouseAwakeIslands_18 ⟨Nat.le_of_ble_eq_true rfl, Nat.le_of_ble_eq_true rfl⟩) hD hS hA (fun r_17 u_16 H locs hw hP hD hS => ?_)
    obtain ⟨rfl, hI⟩ := hw
    refine W.eq (g2 := F0 m 21 ls [.ref q_10]) rfl ?_
    refine va_castY hx hb hown (hts (.classLink RX3 94 "IslandSolver$Body") (by decide +kernel)) (kz_cast (hE.cast2 "IslandSolver$Body" "IslandSolver$Body" (by decide +kernel))) (kd_recv hK hP hI g_14 rfl rfl) dX3_rouseAwakeIslands_21 ?_
    refine lv_astore_n (lv' := [(2, .ref q_10), (0, .ref x), (1, .int (nI i))]) hx hb dX3_rouseAwakeIslands_24 rfl hl (by decide) rfl (fun ls hl => ?_)
    refine lv_aload_n hx hb dX3_rouseAwakeIslands_25 rfl (lv_at hl 0 rfl) ?_
    refine kp_get hx hb hts i_X0 hown hK hP hI g_14 rfl rfl 11 (by decide) (by decide) (hts (.fieldLink RX3 169 "IslandSolver$Body" "asleep" "Z") (by decide +kernel)) (fun _ h9 => h9) dX3_rouseAwakeIslands_26 (kq_Z fun x_18 h_19 => ?_)
    refine lv_if_eq (tgt := 48) hx hb dX3_rouseAwakeIslands_29 (by decide) (fun c_20 => ?_) (fun c_20 => ?_)
    · subst c_20
      refine lv_iinc (v := nI (i + 1)) (lv' := [(1, .int (nI (i + 1))), (2, .ref q_10), (0, .ref x)]) hx hb dX3_rouseAwakeIslands_48 hl (k := 2) rfl (nI_add i 1) (by decide) rfl (fun ls hl => ?_)
      refine lv_goto (tgt := 2) hx hb dX3_rouseAwakeIslands_51 (by decide) ?_
      have hl : lv_has ls 3 [(0, .ref x), (1, .int (nI (i + 1)))] := lv_sub hl [2, 0] rfl
      exact ih2 (fun _ _ => .null) _ _ _ _ _ ⟨(i + 1), by omega, hI, hP, hD, hS, hl, by omega⟩
    · obtain rfl : x_18 = 1 := (h_19).resolve_left c_20
      refine lv_aload_n hx hb dX3_rouseAwakeIslands_32 rfl (lv_at hl 1 rfl) ?_
      refine lv_aload_n hx hb dX3_rouseAwakeIslands_33 rfl (lv_at hl 0 rfl) ?_
      refine kp_get hx hb hts i_X0 hown hK hP hI g_14 rfl rfl 14 (by decide) (by decide) (hts (.fieldLink RX3 270 "IslandSolver$Body" "island" "I") (by decide +kernel)) (fun _ h9 => h9) dX3_rouseAwakeIslands_34 (kq_L0 rfl fun x_21 w_23 => ?_)
      refine kd_calli (va_runV (As := [.int x_21]) (rest := []) ⟨hx, hb, hml, hown, hts⟩ (k_workerOn l dC dI dA ad _ τ pv _ _ hI x bl rl kl ba ra ka fr nb nr nk hW x_21) (cwV 1 hts gX3_rouseAwakeIslands_X3_workerOn rfl rfl rfl (by decide +kernel) ⟨Nat.le_of_ble_eq_true rfl, Nat.le_of_ble_eq_true rfl⟩) (kd_preV hP hD hK hS hA hE hI hW.tx rfl rfl) rfl rfl hl.1 rfl (lv_room (Nat.le_of_ble_eq_true rfl)) dX3_rouseAwakeIslands_37 ⟨Nat.le_of_ble_eq_true rfl, Nat.le_of_ble_eq_true rfl⟩) hD hS hA (fun r_25 u_24 H locs hw hP hD hS => ?_)
      obtain ⟨⟨hr_25, hr_25_2⟩, hI⟩ := hw
      refine lv_iconst (v := (-1)) hx hb dX3_rouseAwakeIslands_40 (by decide) ?_
      refine lv_icmp_eq (tgt := 48) hx hb dX3_rouseAwakeIslands_41 (by decide) (fun c_26 => ?_) (fun c_26 => ?_)
      · refine lv_iinc (v := nI (i + 1)) (lv' := [(1, .int (nI (i + 1))), (2, .ref q_10), (0, .ref x)]) hx hb dX3_rouseAwakeIslands_48 hl (k := 2) rfl (nI_add i 1) (by decide) rfl (fun ls hl => ?_)
        refine lv_goto (tgt := 2) hx hb dX3_rouseAwakeIslands_51 (by decide) ?_
        have hl : lv_has ls 3 [(0, .ref x), (1, .int (nI (i + 1)))] := lv_sub hl [2, 0] rfl
        exact ih2 (fun _ _ => .null) _ _ _ _ _ ⟨(i + 1), by omega, hI, hP, hD, hS, hl, by omega⟩
      · refine lv_aload_n hx hb dX3_rouseAwakeIslands_44 rfl (lv_at hl 0 rfl) ?_
        refine kd_callv (va_runV (As := []) (rest := []) ⟨hx, hb, hml, hown, hts⟩ (k_rouse l dC dI dA ad _ τ pv _ _ hI q_10 g_14) (cwV 0 hts gX3_rouseAwakeIslands_X0_rouse rfl rfl rfl (by decide +kernel) ⟨Nat.le_of_ble_eq_true rfl, Nat.le_of_ble_eq_true rfl⟩) (kd_preV hP hD hK hS hA hE hI g_14 rfl rfl) rfl rfl hl.1 rfl (lv_room (Nat.le_of_ble_eq_true rfl)) dX3_rouseAwakeIslands_45 ⟨Nat.le_of_ble_eq_true rfl, Nat.le_of_ble_eq_true rfl⟩) hD hS hA (fun u_27 H locs hw hP hD hS => ?_)
        have hI := hw
        refine lv_iinc (v := nI (i + 1)) (lv' := [(1, .int (nI (i + 1))), (2, .ref q_10), (0, .ref x)]) hx hb dX3_rouseAwakeIslands_48 hl (k := 2) rfl (nI_add i 1) (by decide) rfl (fun ls hl => ?_)
        refine lv_goto (tgt := 2) hx hb dX3_rouseAwakeIslands_51 (by decide) ?_
        have hl : lv_has ls 3 [(0, .ref x), (1, .int (nI (i + 1)))] := lv_sub hl [2, 0] rfl
        exact ih2 (fun _ _ => .null) _ _ _ _ _ ⟨(i + 1), by omega, hI, hP, hD, hS, hl, by omega⟩
set_option maxHeartbeats 4000000 in
set_option maxRecDepth 100000 in
theorem k_dealIsl (l : Launch) (dC : Nat → ClassId) (dI : Nat → Nat → Nat) (dA : Nat → ClassId) (ad sz : Nat) (τ : Nat → Nat → Nat) (pv : Nat → Nat → Value) (L : List Nat) (f : Nat → va_E) (hI : kI dA τ pv L f) (x bl rl kl ba ra ka fr nb nr nk : Nat) (hW : kW τ pv ad x bl rl kl ba ra ka fr nb nr nk)  : Met l yX3_dealOutIslands wsX3_dealOutIslands ({ frames := 0, cells := 0, slots := 0, locals := 0 } : Room) (va_Pc [.ref x] (kB dC dI dA ad sz L f)) (va_Qv (fun u => kI dA τ pv u.1 u.2) (kR dC dI dA (va_A (va_pl L f) sz)) (va_A (va_pl L f) sz)) 0 0 (va_A (va_pl L f) sz) := by
  refine Met.ofW (cc := cX3_dealOutIslands) (maxL := 3) (ret := none) (by decide) rfl ?_
  intro p e s m args below meth c s₁ B hml hv
  obtain ⟨rfl, hsz, hP, hK, hD0, hE⟩ := hv
  have hx := B.exec
  have hb := B.bytes
  have hr := B.returns
  have hts := atoms_spec (ws := wsX3_dealOutIslands) B.pre
  have hown : s.vm.findClass RX3 = some m.cls := findClass_of_methodNamed B.named
  have hlocks := B.notSynchronized
  have i_X3 : ∀ w ∈ u_ws RX3 TX3 16, w ∈ wsX3_dealOutIslands := by decide +kernel
  subst hsz
  have hD := hD0.self (sz := s.heap.size)
  generalize hAe : va_A (va_pl L f) s.heap.size = A at hD hE ⊢
  have hA : ∀ q : Nat, s.heap.size ≤ q → A q := fun q h => by rw [← hAe]; exact Or.inr h
  have hS : va_S A s.heap s.heap [] := va_S.rf
  have hP : va_P (dC, dI) vwCl (va_pl L f) s.heap := hP
  have hK : va_K (dC, dI) vwCl (tyA dA) s := hK
  have hl := lv_entry ([.ref x]) (n := 3) (Nat.le_of_ble_eq_true rfl)
  rw [lg_entry_eq]
  generalize (lg_sl ([.ref x]) ++ List.replicate (3 - (lg_sl ([.ref x])).length) Slot.unset).toArray = ls at hl ⊢
  have hl : lv_has ls 3 [(0, .ref x)] := hl
  have hnb := hW.lnb
  have hnr := hW.lnr
  have hnk := hW.lnk
  refine lv_iconst (v := 0) hx hb dX3_dealOutIslands_0 (by decide) ?_
  refine lv_istore_n (lv' := [(1, .int 0), (0, .ref x)]) hx hb dX3_dealOutIslands_1 rfl hl (by decide) rfl (fun ls hl => ?_)
  refine lv_iconst (v := 0) hx hb dX3_dealOutIslands_2 (by decide) ?_
  refine lv_istore_n (lv' := [(2, .int 0), (1, .int 0), (0, .ref x)]) hx hb dX3_dealOutIslands_3 rfl hl (by decide) rfl (fun ls hl => ?_)
  have hl : lv_has ls 3 [(0, .ref x), (1, .int 0), (2, .int 0)] := lv_sub hl [2, 1, 0] rfl
  refine kl_loop (Inv := fun n4 _ L f H locs ls => ∃ (i : Nat) (n9 : Nat), 256 - i < n4 ∧ kI dA τ pv L f ∧ va_P (dC, dI) vwCl (va_pl L f) H ∧ va_D A (va_pl L f) ∧ va_S A s.heap H locs ∧ lv_has ls 3 [(0, .ref x), (1, .int (nI n9)), (2, .int (nI i))] ∧ n9 < 8 ∧ i ≤ 256) (fun _ _ _ _ _ _ h9 => by obtain ⟨_, _, hn, _⟩ := h9; exact Nat.not_lt_zero _ hn) (fun n4 ih4 _ L f H locs ls h9 => ?_) (256 - 0 + 1) (fun _ _ => .null) _ _ _ _ _ ⟨0, 0, Nat.lt_succ_self _, hI, hP, hD, hS, hl, by decide, by decide⟩
  obtain ⟨i, n9, hn4, hI, hP, hD, hS, hl, hn8, hib⟩ := h9
  refine lv_iload_n hx hb dX3_dealOutIslands_4 rfl (lv_at hl 2 rfl) ?_
  refine lv_aload_n hx hb dX3_dealOutIslands_5 rfl (lv_at hl 0 rfl) ?_
  refine kp_get hx hb hts i_X3 hown hK hP hI hW.tx rfl rfl 12 (by decide) (by decide) (hts (.fieldLink RX3 56 "IslandSolver" "islandCount" "I") (by decide +kernel)) (fun _ h9 => h9) dX3_dealOutIslands_6 (kq_L6 rfl fun x_1 w_3 h_2 => ?_)
  refine lv_icmp_ge (tgt := 53) hx hb dX3_dealOutIslands_9 (by decide) (fun c_4 => ?_) (fun c_4 => ?_)
  · have n_5 : x_1 ≤ i := (nI_leI (by omega) (by omega)).mp (show nI x_1 ≤ nI i from c_4)
    refine W.widen (k := 0) (n := 0) (Nat.le_of_ble_eq_true rfl) (Nat.le_of_ble_eq_true rfl) ?_
    exact W.vret hx hb hr (fun t ht hW9 => ⟨⟨(L, f), rfl, hI, by rw [ht]; exact hP, va_K.moved hW9.alike hK, hD⟩, hS.F ht⟩) hS.2.2 dX3_dealOutIslands_53
  · have n_6 : ¬ x_1 ≤ i := fun h9 => (show ¬ nI x_1 ≤ nI i from c_4) ((nI_leI (by omega) (by omega)).mpr h9)
    refine lv_aload_n hx hb dX3_dealOutIslands_12 rfl (lv_at hl 0 rfl) ?_
    refine kp_get hx hb hts i_X3 hown hK hP hI hW.tx rfl rfl 13 (by decide) (by decide) (hts (.fieldLink RX3 59 "IslandSolver" "workerOf" "[I") (by decide +kernel)) (fun _ h9 => h9) dX3_dealOutIslands_13 (kq_R 11 (by decide) fun x_7 h_8 => ?_)
    refine lv_iload_n hx hb dX3_dealOutIslands_16 rfl (lv_at hl 2 rfl) ?_
    have hj_9 : i < τ 3 x_7 := by rw [show τ 3 x_7 = 256 from (hI.arr h_8 rfl).2.1]; omega
    refine W.eq (g2 := F0 m 17 ls (.int (nI (i)) :: .ref x_7 :: [])) rfl ?_
    refine kp_iald (j := i) hx hb hK hP hI h_8 rfl hj_9 dX3_dealOutIslands_17 (ka_4 fun x_10 h_11 h_11_2 => ?_)
    refine lv_iconst (v := (-1)) hx hb dX3_dealOutIslands_18 (by decide) ?_
    refine lv_icmp_eq (tgt := 47) hx hb dX3_dealOutIslands_19 (by decide) (fun c_12 => ?_) (fun c_12 => ?_)
    · refine lv_iinc (v := nI (i + 1)) (lv' := [(2, .int (nI (i + 1))), (0, .ref x), (1, .int (nI n9))]) hx hb dX3_dealOutIslands_47 hl (k := 2) rfl (nI_add i 1) (by decide) rfl (fun ls hl => ?_)
      refine lv_goto (tgt := 4) hx hb dX3_dealOutIslands_50 (by decide) ?_
      have hl : lv_has ls 3 [(0, .ref x), (1, .int (nI n9)), (2, .int (nI (i + 1)))] := lv_sub hl [1, 2, 0] rfl
      exact ih4 (fun _ _ => .null) _ _ _ _ _ ⟨(i + 1), (n9), by omega, hI, hP, hD, hS, hl, by omega, by omega⟩
    · refine lv_aload_n hx hb dX3_dealOutIslands_22 rfl (lv_at hl 0 rfl) ?_
      refine kp_get hx hb hts i_X3 hown hK hP hI hW.tx rfl rfl 13 (by decide) (by decide) (hts (.fieldLink RX3 59 "IslandSolver" "workerOf" "[I") (by decide +kernel)) (fun _ h9 => h9) dX3_dealOutIslands_23 (kq_R 11 (by decide) fun x_13 h_14 => ?_)
      refine lv_iload_n hx hb dX3_dealOutIslands_26 rfl (lv_at hl 2 rfl) ?_
      refine lv_iload_n hx hb dX3_dealOutIslands_27 rfl (lv_at hl 1 rfl) ?_
      have hj_15 : i < τ 3 x_13 := by rw [show τ 3 x_13 = 256 from (hI.arr h_14 rfl).2.1]; omega
      refine W.eq (g2 := F0 m 28 ls (.int (nI n9) :: .int (nI (i)) :: .ref x_13 :: [])) rfl ?_
      refine kp_iastX (pv' := pv) (j := i) hx hb hK hP hD hS hI h_14 rfl hj_15 (fun _ _ _ => rfl) (show kPr _ 4 _ _ from (kv_S (by decide) (kz_w8 (by omega)))) (kPn_not rfl (by decide)) dX3_dealOutIslands_28 (fun f H locs hI hP hD hS => ?_)
      refine lv_iload_n hx hb dX3_dealOutIslands_29 rfl (lv_at hl 1 rfl) ?_
      refine lv_iconst (v := 1) hx hb dX3_dealOutIslands_30 (by decide) ?_
      refine lv_iadd hx hb dX3_dealOutIslands_31 ?_
      refine lv_topi (nm_r (show (nI n9) + 1 = nI (n9 + 1) from nI_add n9 1) ?_)
      refine lv_aload_n hx hb dX3_dealOutIslands_32 rfl (lv_at hl 0 rfl) ?_
      refine kp_get hx hb hts i_X3 hown hK hP hI hW.tx rfl rfl 10 (by decide) (by decide) (hts (.fieldLink RX3 50 "IslandSolver" "workerCount" "I") (by decide +kernel)) (fun _ h9 => h9) dX3_dealOutIslands_33 (kq_L5 rfl fun x_16 w_18 h_17 h_17_2 => ?_)
      refine lv_icmp_ge (tgt := 45) hx hb dX3_dealOutIslands_36 (by decide) (fun c_19 => ?_) (fun c_19 => ?_)
      · have n_20 : x_16 ≤ n9 + 1 := (nI_leI (by omega) (by omega)).mp (show nI x_16 ≤ nI (n9 + 1) from c_19)
        refine lv_iconst (v := 0) hx hb dX3_dealOutIslands_45 (by decide) ?_
        refine lv_istore_n (lv' := [(1, .int 0), (0, .ref x), (2, .int (nI i))]) hx hb dX3_dealOutIslands_46 rfl hl (by decide) rfl (fun ls hl => ?_)
        refine lv_iinc (v := nI (i + 1)) (lv' := [(2, .int (nI (i + 1))), (1, .int 0), (0, .ref x)]) hx hb dX3_dealOutIslands_47 hl (k := 2) rfl (nI_add i 1) (by decide) rfl (fun ls hl => ?_)
        refine lv_goto (tgt := 4) hx hb dX3_dealOutIslands_50 (by decide) ?_
        have hl : lv_has ls 3 [(0, .ref x), (1, .int 0), (2, .int (nI (i + 1)))] := lv_sub hl [2, 1, 0] rfl
        exact ih4 (fun _ _ => .null) _ _ _ _ _ ⟨(i + 1), (0), by omega, hI, hP, hD, hS, hl, by omega, by omega⟩
      · have n_21 : ¬ x_16 ≤ n9 + 1 := fun h9 => (show ¬ nI x_16 ≤ nI (n9 + 1) from c_19) ((nI_leI (by omega) (by omega)).mpr h9)
        refine lv_iload_n hx hb dX3_dealOutIslands_39 rfl (lv_at hl 1 rfl) ?_
        refine lv_iconst (v := 1) hx hb dX3_dealOutIslands_40 (by decide) ?_
        refine lv_iadd hx hb dX3_dealOutIslands_41 ?_
        refine lv_topi (nm_r (show (nI n9) + 1 = nI (n9 + 1) from nI_add n9 1) ?_)
        refine lv_goto (tgt := 46) hx hb dX3_dealOutIslands_42 (by decide) ?_
        refine lv_istore_n (lv' := [(1, .int (nI (n9 + 1))), (0, .ref x), (2, .int (nI i))]) hx hb dX3_dealOutIslands_46 rfl hl (by decide) rfl (fun ls hl => ?_)
        refine lv_iinc (v := nI (i + 1)) (lv' := [(2, .int (nI (i + 1))), (1, .int (nI (n9 + 1))), (0, .ref x)]) hx hb dX3_dealOutIslands_47 hl (k := 2) rfl (nI_add i 1) (by decide) rfl (fun ls hl => ?_)
        refine lv_goto (tgt := 4) hx hb dX3_dealOutIslands_50 (by decide) ?_
        have hl : lv_has ls 3 [(0, .ref x), (1, .int (nI (n9 + 1))), (2, .int (nI (i + 1)))] := lv_sub hl [2, 1, 0] rfl
        exact ih4 (fun _ _ => .null) _ _ _ _ _ ⟨(i + 1), (n9 + 1), by omega, hI, hP, hD, hS, hl, by omega, by omega⟩
set_option maxHeartbeats 4000000 in
set_option maxRecDepth 100000 in
theorem k_settleBodies (l : Launch) (dC : Nat → ClassId) (dI : Nat → Nat → Nat) (dA : Nat → ClassId) (ad sz : Nat) (τ : Nat → Nat → Nat) (pv : Nat → Nat → Value) (L : List Nat) (f : Nat → va_E) (hI : kI dA τ pv L f) (x bl rl kl ba ra ka fr nb nr nk : Nat) (hW : kW τ pv ad x bl rl kl ba ra ka fr nb nr nk)  : Met l yX3_settleBodies wsX3_settleBodies ({ frames := 3, cells := 0, slots := 0, locals := 64 } : Room) (va_Pc [.ref x] (kB dC dI dA ad sz L f)) (va_Qv (fun u => kI dA τ pv u.1 u.2) (kR dC dI dA (va_A (va_pl L f) sz)) (va_A (va_pl L f) sz)) 0 0 (va_A (va_pl L f) sz) := by
  refine Met.ofW (cc := cX3_settleBodies) (maxL := 3) (ret := none) (by decide) rfl ?_
  intro p e s m args below meth c s₁ B hml hv
  obtain ⟨rfl, hsz, hP, hK, hD0, hE⟩ := hv
  have hx := B.exec
  have hb := B.bytes
  have hr := B.returns
  have hts := atoms_spec (ws := wsX3_settleBodies) B.pre
  have hown : s.vm.findClass RX3 = some m.cls := findClass_of_methodNamed B.named
  have hlocks := B.notSynchronized
  have i_X3 : ∀ w ∈ u_ws RX3 TX3 16, w ∈ wsX3_settleBodies := by decide +kernel
  have i_X0 : ∀ w ∈ u_ws RX0 TX0 16, w ∈ wsX3_settleBodies := by decide +kernel
  subst hsz
  have hD := hD0.self (sz := s.heap.size)
  generalize hAe : va_A (va_pl L f) s.heap.size = A at hD hE ⊢
  have hA : ∀ q : Nat, s.heap.size ≤ q → A q := fun q h => by rw [← hAe]; exact Or.inr h
  have hS : va_S A s.heap s.heap [] := va_S.rf
  have hP : va_P (dC, dI) vwCl (va_pl L f) s.heap := hP
  have hK : va_K (dC, dI) vwCl (tyA dA) s := hK
  have hl := lv_entry ([.ref x]) (n := 3) (Nat.le_of_ble_eq_true rfl)
  rw [lg_entry_eq]
  generalize (lg_sl ([.ref x]) ++ List.replicate (3 - (lg_sl ([.ref x])).length) Slot.unset).toArray = ls at hl ⊢
  have hl : lv_has ls 3 [(0, .ref x)] := hl
  have hnb := hW.lnb
  have hnr := hW.lnr
  have hnk := hW.lnk
  refine lv_iconst (v := 0) hx hb dX3_settleBodies_0 (by decide) ?_
  refine lv_istore_n (lv' := [(1, .int 0), (0, .ref x)]) hx hb dX3_settleBodies_1 rfl hl (by decide) rfl (fun ls hl => ?_)
  have hl : lv_has ls 3 [(0, .ref x), (1, .int 0)] := lv_sub hl [1, 0] rfl
  refine kl_loop (Inv := fun n2 _ L f H locs ls => ∃ (i : Nat), nb - i < n2 ∧ kI dA τ pv L f ∧ va_P (dC, dI) vwCl (va_pl L f) H ∧ va_D A (va_pl L f) ∧ va_S A s.heap H locs ∧ lv_has ls 3 [(0, .ref x), (1, .int (nI i))] ∧ i ≤ nb) (fun _ _ _ _ _ _ h9 => by obtain ⟨_, hn, _⟩ := h9; exact Nat.not_lt_zero _ hn) (fun n2 ih2 _ L f H locs ls h9 => ?_) (nb - 0 + 1) (fun _ _ => .null) _ _ _ _ _ ⟨0, Nat.lt_succ_self _, hI, hP, hD, hS, hl, Nat.zero_le _⟩
  obtain ⟨i, hn2, hI, hP, hD, hS, hl, hib⟩ := h9
  refine lv_iload_n hx hb dX3_settleBodies_2 rfl (lv_at hl 1 rfl) ?_
  refine lv_aload_n hx hb dX3_settleBodies_3 rfl (lv_at hl 0 rfl) ?_
  refine kp_get hx hb hts i_X3 hown hK hP hI hW.tx rfl rfl 0 (by decide) (by decide) (hts (.fieldLink RX3 10 "IslandSolver" "bodies" "Ljava/util/ArrayList;") (by decide +kernel)) (fun _ h9 => h9) dX3_settleBodies_4 (kq_P (v0 := .ref bl) rfl hW.p0 fun h_2 => ?_)
  refine kd_calli (va_runV (As := []) (rest := [.int (nI i)]) ⟨hx, hb, hml, hown, hts⟩ (k_size7 l dC dI dA ad _ τ pv _ _ hI bl nb hW.lb.1 hW.lb.2.2.1) (cwV 0 hts gX3_settleBodies_Jx4a65c_size_8abf5 rfl rfl rfl (by decide +kernel) ⟨Nat.le_of_ble_eq_true rfl, Nat.le_of_ble_eq_true rfl⟩) (kd_preV hP hD hK hS hA hE hI hW.lb.1 rfl rfl) rfl rfl hl.1 rfl (lv_room (Nat.le_of_ble_eq_true rfl)) dX3_settleBodies_7 ⟨Nat.le_of_ble_eq_true rfl, Nat.le_of_ble_eq_true rfl⟩) hD hS hA (fun r_4 u_3 H locs hw hP hD hS => ?_)
  obtain ⟨rfl, hI⟩ := hw
  refine lv_icmp_ge (tgt := 51) hx hb dX3_settleBodies_10 (by decide) (fun c_5 => ?_) (fun c_5 => ?_)
  · have n_6 : nb ≤ i := (nI_leI (by omega) (by omega)).mp (show nI nb ≤ nI i from c_5)
    refine W.widen (k := 0) (n := 0) (Nat.le_of_ble_eq_true rfl) (Nat.le_of_ble_eq_true rfl) ?_
    exact W.vret hx hb hr (fun t ht hW9 => ⟨⟨(u_3.1, u_3.2), rfl, hI, by rw [ht]; exact hP, va_K.moved hW9.alike hK, hD⟩, hS.F ht⟩) hS.2.2 dX3_settleBodies_51
  · have n_7 : ¬ nb ≤ i := fun h9 => (show ¬ nI nb ≤ nI i from c_5) ((nI_leI (by omega) (by omega)).mpr h9)
    refine lv_aload_n hx hb dX3_settleBodies_13 rfl (lv_at hl 0 rfl) ?_
    refine kp_get hx hb hts i_X3 hown hK hP hI hW.tx rfl rfl 0 (by decide) (by decide) (hts (.fieldLink RX3 10 "IslandSolver" "bodies" "Ljava/util/ArrayList;") (by decide +kernel)) (fun _ h9 => h9) dX3_settleBodies_14 (kq_P (v0 := .ref bl) rfl hW.p0 fun h_9 => ?_)
    refine lv_iload_n hx hb dX3_settleBodies_17 rfl (lv_at hl 1 rfl) ?_
    obtain ⟨q_10, g_11, g_12, g_13, g_14⟩ := hW.lb.at (i := i) (by omega)
    have g_15 := hW.xb (i := i) (by omega) g_13
    refine kd_callq (va_runV (As := [.int (nI i)]) (rest := []) ⟨hx, hb, hml, hown, hts⟩ (k_get7 l dC dI dA ad _ τ pv _ _ hI bl ba nb i q_10 hW.lb.1 hW.lb.2.1 hW.lb.2.2.1 g_11 g_12 (by omega) (by omega) g_13) (cwV 1 hts gX3_settleBodies_Jx4a65c_get_915e3 rfl rfl rfl (by decide +kernel) ⟨Nat.le_of_ble_eq_true rfl, Nat.le_of_ble_eq_true rfl⟩) (kd_preV hP hD hK hS hA hE hI hW.lb.1 rfl rfl) rfl rfl hl.1 rfl (lv_room (Nat.le_of_ble_eq_true rfl)) dX3_settleBodies_18 ⟨Nat.le_of_ble_eq_true rfl, Nat.le_of_ble_eq_true rfl⟩) hD hS hA (fun r_17 u_16 H locs hw hP hD hS => ?_)
    obtain ⟨rfl, hI⟩ := hw
    refine W.eq (g2 := F0 m 21 ls [.ref q_10]) rfl ?_
    refine va_castY hx hb hown (hts (.classLink RX3 94 "IslandSolver$Body") (by decide +kernel)) (kz_cast (hE.cast2 "IslandSolver$Body" "IslandSolver$Body" (by decide +kernel))) (kd_recv hK hP hI g_14 rfl rfl) dX3_settleBodies_21 ?_
    refine lv_astore_n (lv' := [(2, .ref q_10), (0, .ref x), (1, .int (nI i))]) hx hb dX3_settleBodies_24 rfl hl (by decide) rfl (fun ls hl => ?_)
    refine lv_aload_n hx hb dX3_settleBodies_25 rfl (lv_at hl 1 rfl) ?_
    refine lv_aload_n hx hb dX3_settleBodies_26 rfl (lv_at hl 0 rfl) ?_
    refine kp_get hx hb hts i_X0 hown hK hP hI g_14 rfl rfl 14 (by decide) (by decide) (hts (.fieldLink RX3 270 "IslandSolver$Body" "island" "I") (by decide +kernel)) (fun _ h9 => h9) dX3_settleBodies_27 (kq_L0 rfl fun x_18 w_20 => ?_)
    refine kd_calli (va_runV (As := [.int x_18]) (rest := []) ⟨hx, hb, hml, hown, hts⟩ (k_workerOn l dC dI dA ad _ τ pv _ _ hI x bl rl kl ba ra ka fr nb nr nk hW x_18) (cwV 1 hts gX3_settleBodies_X3_workerOn rfl rfl rfl (by decide +kernel) ⟨Nat.le_of_ble_eq_true rfl, Nat.le_of_ble_eq_true rfl⟩) (kd_preV hP hD hK hS hA hE hI hW.tx rfl rfl) rfl rfl hl.1 rfl (lv_room (Nat.le_of_ble_eq_true rfl)) dX3_settleBodies_30 ⟨Nat.le_of_ble_eq_true rfl, Nat.le_of_ble_eq_true rfl⟩) hD hS hA (fun r_22 u_21 H locs hw hP hD hS => ?_)
    obtain ⟨⟨hr_22, hr_22_2⟩, hI⟩ := hw
    refine lv_iconst (v := (-1)) hx hb dX3_settleBodies_33 (by decide) ?_
    refine lv_icmp_eq (tgt := 45) hx hb dX3_settleBodies_34 (by decide) (fun c_23 => ?_) (fun c_23 => ?_)
    · refine lv_iinc (v := nI (i + 1)) (lv' := [(1, .int (nI (i + 1))), (2, .ref q_10), (0, .ref x)]) hx hb dX3_settleBodies_45 hl (k := 2) rfl (nI_add i 1) (by decide) rfl (fun ls hl => ?_)
      refine lv_goto (tgt := 2) hx hb dX3_settleBodies_48 (by decide) ?_
      have hl : lv_has ls 3 [(0, .ref x), (1, .int (nI (i + 1)))] := lv_sub hl [2, 0] rfl
      exact ih2 (fun _ _ => .null) _ _ _ _ _ ⟨(i + 1), by omega, hI, hP, hD, hS, hl, by omega⟩
    · refine lv_aload_n hx hb dX3_settleBodies_37 rfl (lv_at hl 0 rfl) ?_
      refine lv_aload_n hx hb dX3_settleBodies_38 rfl (lv_at hl 1 rfl) ?_
      refine kp_get hx hb hts i_X3 hown hK hP hI hW.tx rfl rfl 8 (by decide) (by decide) (hts (.fieldLink RX3 44 "IslandSolver" "calm" "F") (by decide +kernel)) (fun _ h9 => h9) dX3_settleBodies_39 (kq_G fun x_24 => ?_)
      refine kd_callv (va_runV (As := [.float x_24]) (rest := []) ⟨hx, hb, hml, hown, hts⟩ (k_settle l dC dI dA ad _ τ pv _ _ hI q_10 g_14 x_24) (cwV 1 hts gX3_settleBodies_X0_settle rfl rfl rfl (by decide +kernel) ⟨Nat.le_of_ble_eq_true rfl, Nat.le_of_ble_eq_true rfl⟩) (kd_preV hP hD hK hS hA hE hI g_14 rfl rfl) rfl rfl hl.1 rfl (lv_room (Nat.le_of_ble_eq_true rfl)) dX3_settleBodies_42 ⟨Nat.le_of_ble_eq_true rfl, Nat.le_of_ble_eq_true rfl⟩) hD hS hA (fun u_26 H locs hw hP hD hS => ?_)
      have hI := hw
      refine lv_iinc (v := nI (i + 1)) (lv' := [(1, .int (nI (i + 1))), (2, .ref q_10), (0, .ref x)]) hx hb dX3_settleBodies_45 hl (k := 2) rfl (nI_add i 1) (by decide) rfl (fun ls hl => ?_)
      refine lv_goto (tgt := 2) hx hb dX3_settleBodies_48 (by decide) ?_
      have hl : lv_has ls 3 [(0, .ref x), (1, .int (nI (i + 1)))] := lv_sub hl [2, 0] rfl
      exact ih2 (fun _ _ => .null) _ _ _ _ _ ⟨(i + 1), by omega, hI, hP, hD, hS, hl, by omega⟩
set_option maxHeartbeats 4000000 in
set_option maxRecDepth 100000 in
theorem k_markRestless (l : Launch) (dC : Nat → ClassId) (dI : Nat → Nat → Nat) (dA : Nat → ClassId) (ad sz : Nat) (τ : Nat → Nat → Nat) (pv : Nat → Nat → Value) (L : List Nat) (f : Nat → va_E) (hI : kI dA τ pv L f) (x bl rl kl ba ra ka fr nb nr nk : Nat) (hW : kW τ pv ad x bl rl kl ba ra ka fr nb nr nk)  : Met l yX3_markRestless wsX3_markRestless ({ frames := 3, cells := 0, slots := 0, locals := 64 } : Room) (va_Pc [.ref x] (kB dC dI dA ad sz L f)) (va_Qv (fun u => kI dA τ pv u.1 u.2) (kR dC dI dA (va_A (va_pl L f) sz)) (va_A (va_pl L f) sz)) 0 0 (va_A (va_pl L f) sz) := by
  refine Met.ofW (cc := cX3_markRestless) (maxL := 3) (ret := none) (by decide) rfl ?_
  intro p e s m args below meth c s₁ B hml hv
  obtain ⟨rfl, hsz, hP, hK, hD0, hE⟩ := hv
  have hx := B.exec
  have hb := B.bytes
  have hr := B.returns
  have hts := atoms_spec (ws := wsX3_markRestless) B.pre
  have hown : s.vm.findClass RX3 = some m.cls := findClass_of_methodNamed B.named
  have hlocks := B.notSynchronized
  have i_X3 : ∀ w ∈ u_ws RX3 TX3 16, w ∈ wsX3_markRestless := by decide +kernel
  have i_X0 : ∀ w ∈ u_ws RX0 TX0 16, w ∈ wsX3_markRestless := by decide +kernel
  subst hsz
  have hD := hD0.self (sz := s.heap.size)
  generalize hAe : va_A (va_pl L f) s.heap.size = A at hD hE ⊢
  have hA : ∀ q : Nat, s.heap.size ≤ q → A q := fun q h => by rw [← hAe]; exact Or.inr h
  have hS : va_S A s.heap s.heap [] := va_S.rf
  have hP : va_P (dC, dI) vwCl (va_pl L f) s.heap := hP
  have hK : va_K (dC, dI) vwCl (tyA dA) s := hK
  have hl := lv_entry ([.ref x]) (n := 3) (Nat.le_of_ble_eq_true rfl)
  rw [lg_entry_eq]
  generalize (lg_sl ([.ref x]) ++ List.replicate (3 - (lg_sl ([.ref x])).length) Slot.unset).toArray = ls at hl ⊢
  have hl : lv_has ls 3 [(0, .ref x)] := hl
  have hnb := hW.lnb
  have hnr := hW.lnr
  have hnk := hW.lnk
  refine lv_iconst (v := 0) hx hb dX3_markRestless_0 (by decide) ?_
  refine lv_istore_n (lv' := [(1, .int 0), (0, .ref x)]) hx hb dX3_markRestless_1 rfl hl (by decide) rfl (fun ls hl => ?_)
  have hl : lv_has ls 3 [(0, .ref x), (1, .int 0)] := lv_sub hl [1, 0] rfl
  refine kl_loop (Inv := fun n2 _ L f H locs ls => ∃ (i : Nat), 256 - i < n2 ∧ kI dA τ pv L f ∧ va_P (dC, dI) vwCl (va_pl L f) H ∧ va_D A (va_pl L f) ∧ va_S A s.heap H locs ∧ lv_has ls 3 [(0, .ref x), (1, .int (nI i))] ∧ i ≤ 256) (fun _ _ _ _ _ _ h9 => by obtain ⟨_, hn, _⟩ := h9; exact Nat.not_lt_zero _ hn) (fun n2 ih2 _ L f H locs ls h9 => ?_) (256 - 0 + 1) (fun _ _ => .null) _ _ _ _ _ ⟨0, Nat.lt_succ_self _, hI, hP, hD, hS, hl, Nat.zero_le _⟩
  obtain ⟨i, hn2, hI, hP, hD, hS, hl, hib⟩ := h9
  refine lv_iload_n hx hb dX3_markRestless_2 rfl (lv_at hl 1 rfl) ?_
  refine lv_aload_n hx hb dX3_markRestless_3 rfl (lv_at hl 0 rfl) ?_
  refine kp_get hx hb hts i_X3 hown hK hP hI hW.tx rfl rfl 12 (by decide) (by decide) (hts (.fieldLink RX3 56 "IslandSolver" "islandCount" "I") (by decide +kernel)) (fun _ h9 => h9) dX3_markRestless_4 (kq_L6 rfl fun x_1 w_3 h_2 => ?_)
  refine lv_icmp_ge (tgt := 37) hx hb dX3_markRestless_7 (by decide) (fun c_4 => ?_) (fun c_4 => ?_)
  · have n_5 : x_1 ≤ i := (nI_leI (by omega) (by omega)).mp (show nI x_1 ≤ nI i from c_4)
    refine lv_iconst (v := 0) hx hb dX3_markRestless_37 (by decide) ?_
    refine lv_istore_n (lv' := [(1, .int 0), (0, .ref x)]) hx hb dX3_markRestless_38 rfl hl (by decide) rfl (fun ls hl => ?_)
    have hl : lv_has ls 3 [(0, .ref x), (1, .int 0)] := lv_sub hl [1, 0] rfl
    refine kl_loop (Inv := fun n39 _ L f H locs ls => ∃ (i : Nat), nb - i < n39 ∧ kI dA τ pv L f ∧ va_P (dC, dI) vwCl (va_pl L f) H ∧ va_D A (va_pl L f) ∧ va_S A s.heap H locs ∧ lv_has ls 3 [(0, .ref x), (1, .int (nI i))] ∧ i ≤ nb) (fun _ _ _ _ _ _ h9 => by obtain ⟨_, hn, _⟩ := h9; exact Nat.not_lt_zero _ hn) (fun n39 ih39 _ L f H locs ls h9 => ?_) (nb - 0 + 1) (fun _ _ => .null) _ _ _ _ _ ⟨0, Nat.lt_succ_self _, hI, hP, hD, hS, hl, Nat.zero_le _⟩
    obtain ⟨i, hn39, hI, hP, hD, hS, hl, hib⟩ := h9
    refine lv_iload_n hx hb dX3_markRestless_39 rfl (lv_at hl 1 rfl) ?_
    refine lv_aload_n hx hb dX3_markRestless_40 rfl (lv_at hl 0 rfl) ?_
    refine kp_get hx hb hts i_X3 hown hK hP hI hW.tx rfl rfl 0 (by decide) (by decide) (hts (.fieldLink RX3 10 "IslandSolver" "bodies" "Ljava/util/ArrayList;") (by decide +kernel)) (fun _ h9 => h9) dX3_markRestless_41 (kq_P (v0 := .ref bl) rfl hW.p0 fun h_7 => ?_)
    refine kd_calli (va_runV (As := []) (rest := [.int (nI i)]) ⟨hx, hb, hml, hown, hts⟩ (k_size7 l dC dI dA ad _ τ pv _ _ hI bl nb hW.lb.1 hW.lb.2.2.1) (cwV 0 hts gX3_markRestless_Jx4a65c_size_8abf5 rfl rfl rfl (by decide +kernel) ⟨Nat.le_of_ble_eq_true rfl, Nat.le_of_ble_eq_true rfl⟩) (kd_preV hP hD hK hS hA hE hI hW.lb.1 rfl rfl) rfl rfl hl.1 rfl (lv_room (Nat.le_of_ble_eq_true rfl)) dX3_markRestless_44 ⟨Nat.le_of_ble_eq_true rfl, Nat.le_of_ble_eq_true rfl⟩) hD hS hA (fun r_9 u_8 H locs hw hP hD hS => ?_)
    obtain ⟨rfl, hI⟩ := hw
    refine lv_icmp_ge (tgt := 100) hx hb dX3_markRestless_47 (by decide) (fun c_10 => ?_) (fun c_10 => ?_)
    · have n_11 : nb ≤ i := (nI_leI (by omega) (by omega)).mp (show nI nb ≤ nI i from c_10)
      refine W.widen (k := 0) (n := 0) (Nat.le_of_ble_eq_true rfl) (Nat.le_of_ble_eq_true rfl) ?_
      exact W.vret hx hb hr (fun t ht hW9 => ⟨⟨(u_8.1, u_8.2), rfl, hI, by rw [ht]; exact hP, va_K.moved hW9.alike hK, hD⟩, hS.F ht⟩) hS.2.2 dX3_markRestless_100
    · have n_12 : ¬ nb ≤ i := fun h9 => (show ¬ nI nb ≤ nI i from c_10) ((nI_leI (by omega) (by omega)).mpr h9)
      refine lv_aload_n hx hb dX3_markRestless_50 rfl (lv_at hl 0 rfl) ?_
      refine kp_get hx hb hts i_X3 hown hK hP hI hW.tx rfl rfl 0 (by decide) (by decide) (hts (.fieldLink RX3 10 "IslandSolver" "bodies" "Ljava/util/ArrayList;") (by decide +kernel)) (fun _ h9 => h9) dX3_markRestless_51 (kq_P (v0 := .ref bl) rfl hW.p0 fun h_14 => ?_)
      refine lv_iload_n hx hb dX3_markRestless_54 rfl (lv_at hl 1 rfl) ?_
      obtain ⟨q_15, g_16, g_17, g_18, g_19⟩ := hW.lb.at (i := i) (by omega)
      have g_20 := hW.xb (i := i) (by omega) g_18
      refine kd_callq (va_runV (As := [.int (nI i)]) (rest := []) ⟨hx, hb, hml, hown, hts⟩ (k_get7 l dC dI dA ad _ τ pv _ _ hI bl ba nb i q_15 hW.lb.1 hW.lb.2.1 hW.lb.2.2.1 g_16 g_17 (by omega) (by omega) g_18) (cwV 1 hts gX3_markRestless_Jx4a65c_get_915e3 rfl rfl rfl (by decide +kernel) ⟨Nat.le_of_ble_eq_true rfl, Nat.le_of_ble_eq_true rfl⟩) (kd_preV hP hD hK hS hA hE hI hW.lb.1 rfl rfl) rfl rfl hl.1 rfl (lv_room (Nat.le_of_ble_eq_true rfl)) dX3_markRestless_55 ⟨Nat.le_of_ble_eq_true rfl, Nat.le_of_ble_eq_true rfl⟩) hD hS hA (fun r_22 u_21 H locs hw hP hD hS => ?_)
      obtain ⟨rfl, hI⟩ := hw
      refine W.eq (g2 := F0 m 58 ls [.ref q_15]) rfl ?_
      refine va_castY hx hb hown (hts (.classLink RX3 94 "IslandSolver$Body") (by decide +kernel)) (kz_cast (hE.cast2 "IslandSolver$Body" "IslandSolver$Body" (by decide +kernel))) (kd_recv hK hP hI g_19 rfl rfl) dX3_markRestless_58 ?_
      refine lv_astore_n (lv' := [(2, .ref q_15), (0, .ref x), (1, .int (nI i))]) hx hb dX3_markRestless_61 rfl hl (by decide) rfl (fun ls hl => ?_)
      refine lv_aload_n hx hb dX3_markRestless_62 rfl (lv_at hl 1 rfl) ?_
      refine lv_aload_n hx hb dX3_markRestless_63 rfl (lv_at hl 0 rfl) ?_
      refine kp_get hx hb hts i_X0 hown hK hP hI g_19 rfl rfl 14 (by decide) (by decide) (hts (.fieldLink RX3 270 "IslandSolver$Body" "island" "I") (by decide +kernel)) (fun _ h9 => h9) dX3_markRestless_64 (kq_L0 rfl fun x_23 w_25 => ?_)
      refine kd_calli (va_runV (As := [.int x_23]) (rest := []) ⟨hx, hb, hml, hown, hts⟩ (k_isIsland l dC dI dA ad _ τ pv _ _ hI x bl rl kl ba ra ka fr nb nr nk hW x_23) (cwV 1 hts gX3_markRestless_X3_isIsland rfl rfl rfl (by decide +kernel) ⟨Nat.le_of_ble_eq_true rfl, Nat.le_of_ble_eq_true rfl⟩) (kd_preV hP hD hK hS hA hE hI hW.tx rfl rfl) rfl rfl hl.1 rfl (lv_room (Nat.le_of_ble_eq_true rfl)) dX3_markRestless_67 ⟨Nat.le_of_ble_eq_true rfl, Nat.le_of_ble_eq_true rfl⟩) hD hS hA (fun r_27 u_26 H locs hw hP hD hS => ?_)
      obtain ⟨⟨rfl, ⟨j_28, hj_28, rfl⟩⟩ | rfl, hI⟩ := hw
      · refine lv_if_eq (tgt := 94) hx hb dX3_markRestless_70 (by decide) (fun h9 => by first | exact absurd h9 (by decide) | exact absurd (by decide) h9) (fun _ => ?_)
        refine lv_aload_n hx hb dX3_markRestless_73 rfl (lv_at hl 0 rfl) ?_
        refine kp_get hx hb hts i_X0 hown hK hP hI g_19 rfl rfl 12 (by decide) (by decide) (hts (.fieldLink RX3 273 "IslandSolver$Body" "quiet" "I") (by decide +kernel)) (fun _ h9 => h9) dX3_markRestless_74 (kq_I fun x_29 => ?_)
        refine lv_aload_n hx hb dX3_markRestless_77 rfl (lv_at hl 1 rfl) ?_
        refine kp_get hx hb hts i_X3 hown hK hP hI hW.tx rfl rfl 9 (by decide) (by decide) (hts (.fieldLink RX3 47 "IslandSolver" "still" "I") (by decide +kernel)) (fun _ h9 => h9) dX3_markRestless_78 (kq_I fun x_31 => ?_)
        refine lv_icmp_ge (tgt := 94) hx hb dX3_markRestless_81 (by decide) (fun c_33 => ?_) (fun c_33 => ?_)
        · refine lv_iinc (v := nI (i + 1)) (lv' := [(1, .int (nI (i + 1))), (2, .ref q_15), (0, .ref x)]) hx hb dX3_markRestless_94 hl (k := 2) rfl (nI_add i 1) (by decide) rfl (fun ls hl => ?_)
          refine lv_goto (tgt := 39) hx hb dX3_markRestless_97 (by decide) ?_
          have hl : lv_has ls 3 [(0, .ref x), (1, .int (nI (i + 1)))] := lv_sub hl [2, 0] rfl
          exact ih39 (fun _ _ => .null) _ _ _ _ _ ⟨(i + 1), by omega, hI, hP, hD, hS, hl, by omega⟩
        · refine lv_aload_n hx hb dX3_markRestless_84 rfl (lv_at hl 1 rfl) ?_
          refine kp_get hx hb hts i_X3 hown hK hP hI hW.tx rfl rfl 14 (by decide) (by decide) (hts (.fieldLink RX3 63 "IslandSolver" "restless" "[Z") (by decide +kernel)) (fun _ h9 => h9) dX3_markRestless_85 (kq_R 12 (by decide) fun x_34 h_35 => ?_)
          refine lv_aload_n hx hb dX3_markRestless_88 rfl (lv_at hl 0 rfl) ?_
          refine kp_get hx hb hts i_X0 hown hK hP hI g_19 rfl rfl 14 (by decide) (by decide) (hts (.fieldLink RX3 270 "IslandSolver$Body" "island" "I") (by decide +kernel)) (fun _ h9 => h9) dX3_markRestless_89 (kq_P (v0 := .int (nI j_28)) rfl w_25 fun h_37 => ?_)
          refine lv_iconst (v := 1) hx hb dX3_markRestless_92 (by decide) ?_
          have hj_38 : j_28 < τ 3 x_34 := by rw [show τ 3 x_34 = 256 from (hI.arr h_35 rfl).2.1]; omega
          refine W.eq (g2 := F0 m 93 ls (.int 1 :: .int (nI (j_28)) :: .ref x_34 :: [])) rfl ?_
          refine kp_zastX (pv' := pv) (j := j_28) hx hb hK hP hD hS hI h_35 rfl hj_38 (Or.inr rfl) (fun _ _ _ => rfl) (show kPr _ 1 _ _ from (kv_Z (Or.inr rfl))) (kPn_not rfl (by decide)) dX3_markRestless_93 (fun f H locs hI hP hD hS => ?_)
          refine lv_iinc (v := nI (i + 1)) (lv' := [(1, .int (nI (i + 1))), (2, .ref q_15), (0, .ref x)]) hx hb dX3_markRestless_94 hl (k := 2) rfl (nI_add i 1) (by decide) rfl (fun ls hl => ?_)
          refine lv_goto (tgt := 39) hx hb dX3_markRestless_97 (by decide) ?_
          have hl : lv_has ls 3 [(0, .ref x), (1, .int (nI (i + 1)))] := lv_sub hl [2, 0] rfl
          exact ih39 (fun _ _ => .null) _ _ _ _ _ ⟨(i + 1), by omega, hI, hP, hD, hS, hl, by omega⟩
      · refine lv_if_eq (tgt := 94) hx hb dX3_markRestless_70 (by decide) (fun _ => ?_) (fun h9 => by first | exact absurd h9 (by decide) | exact absurd (by decide) h9)
        refine lv_iinc (v := nI (i + 1)) (lv' := [(1, .int (nI (i + 1))), (2, .ref q_15), (0, .ref x)]) hx hb dX3_markRestless_94 hl (k := 2) rfl (nI_add i 1) (by decide) rfl (fun ls hl => ?_)
        refine lv_goto (tgt := 39) hx hb dX3_markRestless_97 (by decide) ?_
        have hl : lv_has ls 3 [(0, .ref x), (1, .int (nI (i + 1)))] := lv_sub hl [2, 0] rfl
        exact ih39 (fun _ _ => .null) _ _ _ _ _ ⟨(i + 1), by omega, hI, hP, hD, hS, hl, by omega⟩
  · have n_39 : ¬ x_1 ≤ i := fun h9 => (show ¬ nI x_1 ≤ nI i from c_4) ((nI_leI (by omega) (by omega)).mpr h9)
    refine lv_aload_n hx hb dX3_markRestless_10 rfl (lv_at hl 0 rfl) ?_
    refine kp_get hx hb hts i_X3 hown hK hP hI hW.tx rfl rfl 14 (by decide) (by decide) (hts (.fieldLink RX3 63 "IslandSolver" "restless" "[Z") (by decide +kernel)) (fun _ h9 => h9) dX3_markRestless_11 (kq_R 12 (by decide) fun x_40 h_41 => ?_)
    refine lv_iload_n hx hb dX3_markRestless_14 rfl (lv_at hl 1 rfl) ?_
    refine lv_aload_n hx hb dX3_markRestless_15 rfl (lv_at hl 0 rfl) ?_
    refine kp_get hx hb hts i_X3 hown hK hP hI hW.tx rfl rfl 13 (by decide) (by decide) (hts (.fieldLink RX3 59 "IslandSolver" "workerOf" "[I") (by decide +kernel)) (fun _ h9 => h9) dX3_markRestless_16 (kq_R 11 (by decide) fun x_42 h_43 => ?_)
    refine lv_iload_n hx hb dX3_markRestless_19 rfl (lv_at hl 1 rfl) ?_
    have hj_44 : i < τ 3 x_42 := by rw [show τ 3 x_42 = 256 from (hI.arr h_43 rfl).2.1]; omega
    refine W.eq (g2 := F0 m 20 ls (.int (nI (i)) :: .ref x_42 :: [.int (nI i), .ref x_40])) rfl ?_
    refine kp_iald (j := i) hx hb hK hP hI h_43 rfl hj_44 dX3_markRestless_20 (ka_4 fun x_45 h_46 h_46_2 => ?_)
    refine lv_iconst (v := (-1)) hx hb dX3_markRestless_21 (by decide) ?_
    refine lv_icmp_ne (tgt := 29) hx hb dX3_markRestless_22 (by decide) (fun c_47 => ?_) (fun c_47 => ?_)
    · refine lv_iconst (v := 0) hx hb dX3_markRestless_29 (by decide) ?_
      have hj_48 : i < τ 3 x_40 := by rw [show τ 3 x_40 = 256 from (hI.arr h_41 rfl).2.1]; omega
      refine W.eq (g2 := F0 m 30 ls (.int 0 :: .int (nI (i)) :: .ref x_40 :: [])) rfl ?_
      refine kp_zastX (pv' := pv) (j := i) hx hb hK hP hD hS hI h_41 rfl hj_48 (Or.inl rfl) (fun _ _ _ => rfl) (show kPr _ 1 _ _ from (kv_Z (Or.inl rfl))) (kPn_not rfl (by decide)) dX3_markRestless_30 (fun f H locs hI hP hD hS => ?_)
      refine lv_iinc (v := nI (i + 1)) (lv' := [(1, .int (nI (i + 1))), (0, .ref x)]) hx hb dX3_markRestless_31 hl (k := 1) rfl (nI_add i 1) (by decide) rfl (fun ls hl => ?_)
      refine lv_goto (tgt := 2) hx hb dX3_markRestless_34 (by decide) ?_
      have hl : lv_has ls 3 [(0, .ref x), (1, .int (nI (i + 1)))] := lv_sub hl [1, 0] rfl
      exact ih2 (fun _ _ => .null) _ _ _ _ _ ⟨(i + 1), by omega, hI, hP, hD, hS, hl, by omega⟩
    · refine lv_iconst (v := 1) hx hb dX3_markRestless_25 (by decide) ?_
      refine lv_goto (tgt := 30) hx hb dX3_markRestless_26 (by decide) ?_
      have hj_49 : i < τ 3 x_40 := by rw [show τ 3 x_40 = 256 from (hI.arr h_41 rfl).2.1]; omega
      refine W.eq (g2 := F0 m 30 ls (.int 1 :: .int (nI (i)) :: .ref x_40 :: [])) rfl ?_
      refine kp_zastX (pv' := pv) (j := i) hx hb hK hP hD hS hI h_41 rfl hj_49 (Or.inr rfl) (fun _ _ _ => rfl) (show kPr _ 1 _ _ from (kv_Z (Or.inr rfl))) (kPn_not rfl (by decide)) dX3_markRestless_30 (fun f H locs hI hP hD hS => ?_)
      refine lv_iinc (v := nI (i + 1)) (lv' := [(1, .int (nI (i + 1))), (0, .ref x)]) hx hb dX3_markRestless_31 hl (k := 1) rfl (nI_add i 1) (by decide) rfl (fun ls hl => ?_)
      refine lv_goto (tgt := 2) hx hb dX3_markRestless_34 (by decide) ?_
      have hl : lv_has ls 3 [(0, .ref x), (1, .int (nI (i + 1)))] := lv_sub hl [1, 0] rfl
      exact ih2 (fun _ _ => .null) _ _ _ _ _ ⟨(i + 1), by omega, hI, hP, hD, hS, hl, by omega⟩
set_option maxHeartbeats 4000000 in
set_option maxRecDepth 100000 in
theorem k_layToSleep (l : Launch) (dC : Nat → ClassId) (dI : Nat → Nat → Nat) (dA : Nat → ClassId) (ad sz : Nat) (τ : Nat → Nat → Nat) (pv : Nat → Nat → Value) (L : List Nat) (f : Nat → va_E) (hI : kI dA τ pv L f) (x bl rl kl ba ra ka fr nb nr nk : Nat) (hW : kW τ pv ad x bl rl kl ba ra ka fr nb nr nk)  : Met l yX3_layToSleep wsX3_layToSleep ({ frames := 3, cells := 0, slots := 0, locals := 64 } : Room) (va_Pc [.ref x] (kB dC dI dA ad sz L f)) (va_Qv (fun u => kI dA τ pv u.1 u.2) (kR dC dI dA (va_A (va_pl L f) sz)) (va_A (va_pl L f) sz)) 0 0 (va_A (va_pl L f) sz) := by
  refine Met.ofW (cc := cX3_layToSleep) (maxL := 3) (ret := none) (by decide) rfl ?_
  intro p e s m args below meth c s₁ B hml hv
  obtain ⟨rfl, hsz, hP, hK, hD0, hE⟩ := hv
  have hx := B.exec
  have hb := B.bytes
  have hr := B.returns
  have hts := atoms_spec (ws := wsX3_layToSleep) B.pre
  have hown : s.vm.findClass RX3 = some m.cls := findClass_of_methodNamed B.named
  have hlocks := B.notSynchronized
  have i_X3 : ∀ w ∈ u_ws RX3 TX3 16, w ∈ wsX3_layToSleep := by decide +kernel
  have i_X0 : ∀ w ∈ u_ws RX0 TX0 16, w ∈ wsX3_layToSleep := by decide +kernel
  subst hsz
  have hD := hD0.self (sz := s.heap.size)
  generalize hAe : va_A (va_pl L f) s.heap.size = A at hD hE ⊢
  have hA : ∀ q : Nat, s.heap.size ≤ q → A q := fun q h => by rw [← hAe]; exact Or.inr h
  have hS : va_S A s.heap s.heap [] := va_S.rf
  have hP : va_P (dC, dI) vwCl (va_pl L f) s.heap := hP
  have hK : va_K (dC, dI) vwCl (tyA dA) s := hK
  have hl := lv_entry ([.ref x]) (n := 3) (Nat.le_of_ble_eq_true rfl)
  rw [lg_entry_eq]
  generalize (lg_sl ([.ref x]) ++ List.replicate (3 - (lg_sl ([.ref x])).length) Slot.unset).toArray = ls at hl ⊢
  have hl : lv_has ls 3 [(0, .ref x)] := hl
  have hnb := hW.lnb
  have hnr := hW.lnr
  have hnk := hW.lnk
  refine lv_iconst (v := 0) hx hb dX3_layToSleep_0 (by decide) ?_
  refine lv_istore_n (lv' := [(1, .int 0), (0, .ref x)]) hx hb dX3_layToSleep_1 rfl hl (by decide) rfl (fun ls hl => ?_)
  have hl : lv_has ls 3 [(0, .ref x), (1, .int 0)] := lv_sub hl [1, 0] rfl
  refine kl_loop (Inv := fun n2 _ L f H locs ls => ∃ (i : Nat), nb - i < n2 ∧ kI dA τ pv L f ∧ va_P (dC, dI) vwCl (va_pl L f) H ∧ va_D A (va_pl L f) ∧ va_S A s.heap H locs ∧ lv_has ls 3 [(0, .ref x), (1, .int (nI i))] ∧ i ≤ nb) (fun _ _ _ _ _ _ h9 => by obtain ⟨_, hn, _⟩ := h9; exact Nat.not_lt_zero _ hn) (fun n2 ih2 _ L f H locs ls h9 => ?_) (nb - 0 + 1) (fun _ _ => .null) _ _ _ _ _ ⟨0, Nat.lt_succ_self _, hI, hP, hD, hS, hl, Nat.zero_le _⟩
  obtain ⟨i, hn2, hI, hP, hD, hS, hl, hib⟩ := h9
  refine lv_iload_n hx hb dX3_layToSleep_2 rfl (lv_at hl 1 rfl) ?_
  refine lv_aload_n hx hb dX3_layToSleep_3 rfl (lv_at hl 0 rfl) ?_
  refine kp_get hx hb hts i_X3 hown hK hP hI hW.tx rfl rfl 0 (by decide) (by decide) (hts (.fieldLink RX3 10 "IslandSolver" "bodies" "Ljava/util/ArrayList;") (by decide +kernel)) (fun _ h9 => h9) dX3_layToSleep_4 (kq_P (v0 := .ref bl) rfl hW.p0 fun h_2 => ?_)
  refine kd_calli (va_runV (As := []) (rest := [.int (nI i)]) ⟨hx, hb, hml, hown, hts⟩ (k_size7 l dC dI dA ad _ τ pv _ _ hI bl nb hW.lb.1 hW.lb.2.2.1) (cwV 0 hts gX3_layToSleep_Jx4a65c_size_8abf5 rfl rfl rfl (by decide +kernel) ⟨Nat.le_of_ble_eq_true rfl, Nat.le_of_ble_eq_true rfl⟩) (kd_preV hP hD hK hS hA hE hI hW.lb.1 rfl rfl) rfl rfl hl.1 rfl (lv_room (Nat.le_of_ble_eq_true rfl)) dX3_layToSleep_7 ⟨Nat.le_of_ble_eq_true rfl, Nat.le_of_ble_eq_true rfl⟩) hD hS hA (fun r_4 u_3 H locs hw hP hD hS => ?_)
  obtain ⟨rfl, hI⟩ := hw
  refine lv_icmp_ge (tgt := 58) hx hb dX3_layToSleep_10 (by decide) (fun c_5 => ?_) (fun c_5 => ?_)
  · have n_6 : nb ≤ i := (nI_leI (by omega) (by omega)).mp (show nI nb ≤ nI i from c_5)
    refine W.widen (k := 0) (n := 0) (Nat.le_of_ble_eq_true rfl) (Nat.le_of_ble_eq_true rfl) ?_
    exact W.vret hx hb hr (fun t ht hW9 => ⟨⟨(u_3.1, u_3.2), rfl, hI, by rw [ht]; exact hP, va_K.moved hW9.alike hK, hD⟩, hS.F ht⟩) hS.2.2 dX3_layToSleep_58
  · have n_7 : ¬ nb ≤ i := fun h9 => (show ¬ nI nb ≤ nI i from c_5) ((nI_leI (by omega) (by omega)).mpr h9)
    refine lv_aload_n hx hb dX3_layToSleep_13 rfl (lv_at hl 0 rfl) ?_
    refine kp_get hx hb hts i_X3 hown hK hP hI hW.tx rfl rfl 0 (by decide) (by decide) (hts (.fieldLink RX3 10 "IslandSolver" "bodies" "Ljava/util/ArrayList;") (by decide +kernel)) (fun _ h9 => h9) dX3_layToSleep_14 (kq_P (v0 := .ref bl) rfl hW.p0 fun h_9 => ?_)
    refine lv_iload_n hx hb dX3_layToSleep_17 rfl (lv_at hl 1 rfl) ?_
    obtain ⟨q_10, g_11, g_12, g_13, g_14⟩ := hW.lb.at (i := i) (by omega)
    have g_15 := hW.xb (i := i) (by omega) g_13
    refine kd_callq (va_runV (As := [.int (nI i)]) (rest := []) ⟨hx, hb, hml, hown, hts⟩ (k_get7 l dC dI dA ad _ τ pv _ _ hI bl ba nb i q_10 hW.lb.1 hW.lb.2.1 hW.lb.2.2.1 g_11 g_12 (by omega) (by omega) g_13) (cwV 1 hts gX3_layToSleep_Jx4a65c_get_915e3 rfl rfl rfl (by decide +kernel) ⟨Nat.le_of_ble_eq_true rfl, Nat.le_of_ble_eq_true rfl⟩) (kd_preV hP hD hK hS hA hE hI hW.lb.1 rfl rfl) rfl rfl hl.1 rfl (lv_room (Nat.le_of_ble_eq_true rfl)) dX3_layToSleep_18 ⟨Nat.le_of_ble_eq_true rfl, Nat.le_of_ble_eq_true rfl⟩) hD hS hA (fun r_17 u_16 H locs hw hP hD hS => ?_)
    obtain ⟨rfl, hI⟩ := hw
    refine W.eq (g2 := F0 m 21 ls [.ref q_10]) rfl ?_
    refine va_castY hx hb hown (hts (.classLink RX3 94 "IslandSolver$Body") (by decide +kernel)) (kz_cast (hE.cast2 "IslandSolver$Body" "IslandSolver$Body" (by decide +kernel))) (kd_recv hK hP hI g_14 rfl rfl) dX3_layToSleep_21 ?_
    refine lv_astore_n (lv' := [(2, .ref q_10), (0, .ref x), (1, .int (nI i))]) hx hb dX3_layToSleep_24 rfl hl (by decide) rfl (fun ls hl => ?_)
    refine lv_aload_n hx hb dX3_layToSleep_25 rfl (lv_at hl 1 rfl) ?_
    refine lv_aload_n hx hb dX3_layToSleep_26 rfl (lv_at hl 0 rfl) ?_
    refine kp_get hx hb hts i_X0 hown hK hP hI g_14 rfl rfl 14 (by decide) (by decide) (hts (.fieldLink RX3 270 "IslandSolver$Body" "island" "I") (by decide +kernel)) (fun _ h9 => h9) dX3_layToSleep_27 (kq_L0 rfl fun x_18 w_20 => ?_)
    refine kd_calli (va_runV (As := [.int x_18]) (rest := []) ⟨hx, hb, hml, hown, hts⟩ (k_isIsland l dC dI dA ad _ τ pv _ _ hI x bl rl kl ba ra ka fr nb nr nk hW x_18) (cwV 1 hts gX3_layToSleep_X3_isIsland rfl rfl rfl (by decide +kernel) ⟨Nat.le_of_ble_eq_true rfl, Nat.le_of_ble_eq_true rfl⟩) (kd_preV hP hD hK hS hA hE hI hW.tx rfl rfl) rfl rfl hl.1 rfl (lv_room (Nat.le_of_ble_eq_true rfl)) dX3_layToSleep_30 ⟨Nat.le_of_ble_eq_true rfl, Nat.le_of_ble_eq_true rfl⟩) hD hS hA (fun r_22 u_21 H locs hw hP hD hS => ?_)
    obtain ⟨⟨rfl, ⟨j_23, hj_23, rfl⟩⟩ | rfl, hI⟩ := hw
    · refine lv_if_eq (tgt := 52) hx hb dX3_layToSleep_33 (by decide) (fun h9 => by first | exact absurd h9 (by decide) | exact absurd (by decide) h9) (fun _ => ?_)
      refine lv_aload_n hx hb dX3_layToSleep_36 rfl (lv_at hl 1 rfl) ?_
      refine kp_get hx hb hts i_X3 hown hK hP hI hW.tx rfl rfl 14 (by decide) (by decide) (hts (.fieldLink RX3 63 "IslandSolver" "restless" "[Z") (by decide +kernel)) (fun _ h9 => h9) dX3_layToSleep_37 (kq_R 12 (by decide) fun x_24 h_25 => ?_)
      refine lv_aload_n hx hb dX3_layToSleep_40 rfl (lv_at hl 0 rfl) ?_
      refine kp_get hx hb hts i_X0 hown hK hP hI g_14 rfl rfl 14 (by decide) (by decide) (hts (.fieldLink RX3 270 "IslandSolver$Body" "island" "I") (by decide +kernel)) (fun _ h9 => h9) dX3_layToSleep_41 (kq_P (v0 := .int (nI j_23)) rfl w_20 fun h_27 => ?_)
      have hj_28 : j_23 < τ 3 x_24 := by rw [show τ 3 x_24 = 256 from (hI.arr h_25 rfl).2.1]; omega
      refine W.eq (g2 := F0 m 44 ls (.int (nI (j_23)) :: .ref x_24 :: [])) rfl ?_
      refine kp_zald (j := j_23) hx hb hK hP hI h_25 rfl hj_28 dX3_layToSleep_44 (ka_Z fun x_29 h_30 => ?_)
      refine lv_if_ne (tgt := 52) hx hb dX3_layToSleep_45 (by decide) (fun c_31 => ?_) (fun c_31 => ?_)
      · obtain rfl : x_29 = 1 := (h_30).resolve_left c_31
        refine lv_iinc (v := nI (i + 1)) (lv' := [(1, .int (nI (i + 1))), (2, .ref q_10), (0, .ref x)]) hx hb dX3_layToSleep_52 hl (k := 2) rfl (nI_add i 1) (by decide) rfl (fun ls hl => ?_)
        refine lv_goto (tgt := 2) hx hb dX3_layToSleep_55 (by decide) ?_
        have hl : lv_has ls 3 [(0, .ref x), (1, .int (nI (i + 1)))] := lv_sub hl [2, 0] rfl
        exact ih2 (fun _ _ => .null) _ _ _ _ _ ⟨(i + 1), by omega, hI, hP, hD, hS, hl, by omega⟩
      · subst c_31
        refine lv_aload_n hx hb dX3_layToSleep_48 rfl (lv_at hl 0 rfl) ?_
        refine kd_callv (va_runV (As := []) (rest := []) ⟨hx, hb, hml, hown, hts⟩ (k_fallAsleep l dC dI dA ad _ τ pv _ _ hI q_10 g_14) (cwV 0 hts gX3_layToSleep_X0_fallAsleep rfl rfl rfl (by decide +kernel) ⟨Nat.le_of_ble_eq_true rfl, Nat.le_of_ble_eq_true rfl⟩) (kd_preV hP hD hK hS hA hE hI g_14 rfl rfl) rfl rfl hl.1 rfl (lv_room (Nat.le_of_ble_eq_true rfl)) dX3_layToSleep_49 ⟨Nat.le_of_ble_eq_true rfl, Nat.le_of_ble_eq_true rfl⟩) hD hS hA (fun u_32 H locs hw hP hD hS => ?_)
        have hI := hw
        refine lv_iinc (v := nI (i + 1)) (lv' := [(1, .int (nI (i + 1))), (2, .ref q_10), (0, .ref x)]) hx hb dX3_layToSleep_52 hl (k := 2) rfl (nI_add i 1) (by decide) rfl (fun ls hl => ?_)
        refine lv_goto (tgt := 2) hx hb dX3_layToSleep_55 (by decide) ?_
        have hl : lv_has ls 3 [(0, .ref x), (1, .int (nI (i + 1)))] := lv_sub hl [2, 0] rfl
        exact ih2 (fun _ _ => .null) _ _ _ _ _ ⟨(i + 1), by omega, hI, hP, hD, hS, hl, by omega⟩
    · refine lv_if_eq (tgt := 52) hx hb dX3_layToSleep_33 (by decide) (fun _ => ?_) (fun h9 => by first | exact absurd h9 (by decide) | exact absurd (by decide) h9)
      refine lv_iinc (v := nI (i + 1)) (lv' := [(1, .int (nI (i + 1))), (2, .ref q_10), (0, .ref x)]) hx hb dX3_layToSleep_52 hl (k := 2) rfl (nI_add i 1) (by decide) rfl (fun ls hl => ?_)
      refine lv_goto (tgt := 2) hx hb dX3_layToSleep_55 (by decide) ?_
      have hl : lv_has ls 3 [(0, .ref x), (1, .int (nI (i + 1)))] := lv_sub hl [2, 0] rfl
      exact ih2 (fun _ _ => .null) _ _ _ _ _ ⟨(i + 1), by omega, hI, hP, hD, hS, hl, by omega⟩
