set_option maxHeartbeats 4000000 in
set_option maxRecDepth 100000 in
theorem k_isIsland (l : Launch) (dC : Nat → ClassId) (dI : Nat → Nat → Nat) (dA : Nat → ClassId) (ad sz : Nat) (τ : Nat → Nat → Nat) (pv : Nat → Nat → Value) (L : List Nat) (f : Nat → va_E) (hI : kI dA τ pv L f) (x bl rl kl ba ra ka fr nb nr nk : Nat) (hW : kW τ pv ad x bl rl kl ba ra ka fr nb nr nk) (n : Int32) : Met l yX3_isIsland wsX3_isIsland ({ frames := 0, cells := 0, slots := 0, locals := 0 } : Room) (va_Pc [.ref x, .int n] (kB dC dI dA ad sz L f)) (va_Qi (fun r u => ((r = 1 ∧ ∃ j, j < 256 ∧ n = nI j) ∨ r = 0) ∧ kI dA τ pv u.1 u.2) (kR dC dI dA (va_A (va_pl L f) sz)) (va_A (va_pl L f) sz)) 0 0 (va_A (va_pl L f) sz) := by
  refine Met.ofW (cc := cX3_isIsland) (maxL := 2) (ret := (some .boolean)) (by decide) rfl ?_
  intro p e s m args below meth c s₁ B hml hv
  obtain ⟨rfl, hsz, hP, hK, hD0, hE⟩ := hv
  have hx := B.exec
  have hb := B.bytes
  have hr := B.returns
  have hts := atoms_spec (ws := wsX3_isIsland) B.pre
  have hown : s.vm.findClass RX3 = some m.cls := findClass_of_methodNamed B.named
  have hlocks := B.notSynchronized
  have i_X3 : ∀ w ∈ u_ws RX3 TX3 16, w ∈ wsX3_isIsland := by decide +kernel
  subst hsz
  have hD := hD0.self (sz := s.heap.size)
  generalize hAe : va_A (va_pl L f) s.heap.size = A at hD hE ⊢
  have hA : ∀ q : Nat, s.heap.size ≤ q → A q := fun q h => by rw [← hAe]; exact Or.inr h
  have hS : va_S A s.heap s.heap [] := va_S.rf
  have hP : va_P (dC, dI) vwCl (va_pl L f) s.heap := hP
  have hK : va_K (dC, dI) vwCl (tyA dA) s := hK
  have hl := lv_entry ([.ref x, .int n]) (n := 2) (Nat.le_of_ble_eq_true rfl)
  rw [lg_entry_eq]
  generalize (lg_sl ([.ref x, .int n]) ++ List.replicate (2 - (lg_sl ([.ref x, .int n])).length) Slot.unset).toArray = ls at hl ⊢
  have hl : lv_has ls 2 [(0, .ref x), (1, .int n)] := hl
  have hnb := hW.lnb
  have hnr := hW.lnr
  have hnk := hW.lnk
  refine lv_iload_n hx hb dX3_isIsland_0 rfl (lv_at hl 1 rfl) ?_
  refine lv_if_lt (tgt := 16) hx hb dX3_isIsland_1 (by decide) (fun c_1 => ?_) (fun c_1 => ?_)
  · refine lv_iconst (v := 0) hx hb dX3_isIsland_16 (by decide) ?_
    refine W.widen (k := 0) (n := 0) (Nat.le_of_ble_eq_true rfl) (Nat.le_of_ble_eq_true rfl) ?_
    exact W.zret (ty := .boolean) (v := 0) hx hb hr rfl (fun t ht hW9 => ⟨⟨0, (L, f), rfl, ⟨Or.inr rfl, hI⟩, by rw [ht]; exact hP, va_K.moved hW9.alike hK, hD⟩, hS.F ht⟩) hS.2.2 dX3_isIsland_17
  · refine lv_iload_n hx hb dX3_isIsland_4 rfl (lv_at hl 1 rfl) ?_
    refine lv_aload_n hx hb dX3_isIsland_5 rfl (lv_at hl 0 rfl) ?_
    refine kp_get hx hb hts i_X3 hown hK hP hI hW.tx rfl rfl 12 (by decide) (by decide) (hts (.fieldLink RX3 56 "IslandSolver" "islandCount" "I") (by decide +kernel)) (fun _ h9 => h9) dX3_isIsland_6 (kq_L6 rfl fun x_2 w_4 h_3 => ?_)
    refine lv_icmp_ge (tgt := 16) hx hb dX3_isIsland_9 (by decide) (fun c_5 => ?_) (fun c_5 => ?_)
    · refine lv_iconst (v := 0) hx hb dX3_isIsland_16 (by decide) ?_
      refine W.widen (k := 0) (n := 0) (Nat.le_of_ble_eq_true rfl) (Nat.le_of_ble_eq_true rfl) ?_
      exact W.zret (ty := .boolean) (v := 0) hx hb hr rfl (fun t ht hW9 => ⟨⟨0, (L, f), rfl, ⟨Or.inr rfl, hI⟩, by rw [ht]; exact hP, va_K.moved hW9.alike hK, hD⟩, hS.F ht⟩) hS.2.2 dX3_isIsland_17
    · refine lv_iconst (v := 1) hx hb dX3_isIsland_12 (by decide) ?_
      refine lv_goto (tgt := 17) hx hb dX3_isIsland_13 (by decide) ?_
      refine W.widen (k := 0) (n := 0) (Nat.le_of_ble_eq_true rfl) (Nat.le_of_ble_eq_true rfl) ?_
      exact W.zret (ty := .boolean) (v := 1) hx hb hr rfl (fun t ht hW9 => ⟨⟨1, (L, f), rfl, ⟨Or.inl ⟨rfl, by obtain ⟨j9, h1, h2⟩ := kz_is c_1 c_5 (by omega); exact ⟨j9, by omega, h2⟩⟩, hI⟩, by rw [ht]; exact hP, va_K.moved hW9.alike hK, hD⟩, hS.F ht⟩) hS.2.2 dX3_isIsland_17
set_option maxHeartbeats 4000000 in
set_option maxRecDepth 100000 in
theorem k_workerOn (l : Launch) (dC : Nat → ClassId) (dI : Nat → Nat → Nat) (dA : Nat → ClassId) (ad sz : Nat) (τ : Nat → Nat → Nat) (pv : Nat → Nat → Value) (L : List Nat) (f : Nat → va_E) (hI : kI dA τ pv L f) (x bl rl kl ba ra ka fr nb nr nk : Nat) (hW : kW τ pv ad x bl rl kl ba ra ka fr nb nr nk) (n : Int32) : Met l yX3_workerOn wsX3_workerOn ({ frames := 1, cells := 0, slots := 0, locals := 21 } : Room) (va_Pc [.ref x, .int n] (kB dC dI dA ad sz L f)) (va_Qi (fun r u => (-1 ≤ r.toInt ∧ r.toInt < 8) ∧ kI dA τ pv u.1 u.2) (kR dC dI dA (va_A (va_pl L f) sz)) (va_A (va_pl L f) sz)) 0 0 (va_A (va_pl L f) sz) := by
  refine Met.ofW (cc := cX3_workerOn) (maxL := 2) (ret := (some .int)) (by decide) rfl ?_
  intro p e s m args below meth c s₁ B hml hv
  obtain ⟨rfl, hsz, hP, hK, hD0, hE⟩ := hv
  have hx := B.exec
  have hb := B.bytes
  have hr := B.returns
  have hts := atoms_spec (ws := wsX3_workerOn) B.pre
  have hown : s.vm.findClass RX3 = some m.cls := findClass_of_methodNamed B.named
  have hlocks := B.notSynchronized
  have i_X3 : ∀ w ∈ u_ws RX3 TX3 16, w ∈ wsX3_workerOn := by decide +kernel
  subst hsz
  have hD := hD0.self (sz := s.heap.size)
  generalize hAe : va_A (va_pl L f) s.heap.size = A at hD hE ⊢
  have hA : ∀ q : Nat, s.heap.size ≤ q → A q := fun q h => by rw [← hAe]; exact Or.inr h
  have hS : va_S A s.heap s.heap [] := va_S.rf
  have hP : va_P (dC, dI) vwCl (va_pl L f) s.heap := hP
  have hK : va_K (dC, dI) vwCl (tyA dA) s := hK
  have hl := lv_entry ([.ref x, .int n]) (n := 2) (Nat.le_of_ble_eq_true rfl)
  rw [lg_entry_eq]
  generalize (lg_sl ([.ref x, .int n]) ++ List.replicate (2 - (lg_sl ([.ref x, .int n])).length) Slot.unset).toArray = ls at hl ⊢
  have hl : lv_has ls 2 [(0, .ref x), (1, .int n)] := hl
  have hnb := hW.lnb
  have hnr := hW.lnr
  have hnk := hW.lnk
  refine lv_aload_n hx hb dX3_workerOn_0 rfl (lv_at hl 0 rfl) ?_
  refine lv_iload_n hx hb dX3_workerOn_1 rfl (lv_at hl 1 rfl) ?_
  refine kd_calli (va_runV (As := [.int n]) (rest := []) ⟨hx, hb, hml, hown, hts⟩ (k_isIsland l dC dI dA ad _ τ pv _ _ hI x bl rl kl ba ra ka fr nb nr nk hW n) (cwV 1 hts gX3_workerOn_X3_isIsland rfl rfl rfl (by decide +kernel) ⟨Nat.le_of_ble_eq_true rfl, Nat.le_of_ble_eq_true rfl⟩) (kd_preV hP hD hK hS hA hE hI hW.tx rfl rfl) rfl rfl hl.1 rfl (lv_room (Nat.le_of_ble_eq_true rfl)) dX3_workerOn_2 ⟨Nat.le_of_ble_eq_true rfl, Nat.le_of_ble_eq_true rfl⟩) hD hS hA (fun r_2 u_1 H locs hw hP hD hS => ?_)
  obtain ⟨⟨rfl, ⟨j_3, hj_3, rfl⟩⟩ | rfl, hI⟩ := hw
  · refine lv_if_eq (tgt := 17) hx hb dX3_workerOn_5 (by decide) (fun h9 => by first | exact absurd h9 (by decide) | exact absurd (by decide) h9) (fun _ => ?_)
    refine lv_aload_n hx hb dX3_workerOn_8 rfl (lv_at hl 0 rfl) ?_
    refine kp_get hx hb hts i_X3 hown hK hP hI hW.tx rfl rfl 13 (by decide) (by decide) (hts (.fieldLink RX3 59 "IslandSolver" "workerOf" "[I") (by decide +kernel)) (fun _ h9 => h9) dX3_workerOn_9 (kq_R 11 (by decide) fun x_4 h_5 => ?_)
    refine lv_iload_n hx hb dX3_workerOn_12 rfl (lv_at hl 1 rfl) ?_
    have hj_6 : j_3 < τ 3 x_4 := by rw [show τ 3 x_4 = 256 from (hI.arr h_5 rfl).2.1]; omega
    refine W.eq (g2 := F0 m 13 ls (.int (nI (j_3)) :: .ref x_4 :: [])) rfl ?_
    refine kp_iald (j := j_3) hx hb hK hP hI h_5 rfl hj_6 dX3_workerOn_13 (ka_4 fun x_7 h_8 h_8_2 => ?_)
    refine lv_goto (tgt := 18) hx hb dX3_workerOn_14 (by decide) ?_
    refine W.widen (k := 0) (n := 0) (Nat.le_of_ble_eq_true rfl) (Nat.le_of_ble_eq_true rfl) ?_
    exact W.iret (v := x_7) hx hb hr (fun t ht hW9 => ⟨⟨x_7, (u_1.1, u_1.2), rfl, ⟨⟨h_8, h_8_2⟩, hI⟩, by rw [ht]; exact hP, va_K.moved hW9.alike hK, hD⟩, hS.F ht⟩) hS.2.2 dX3_workerOn_18
  · refine lv_if_eq (tgt := 17) hx hb dX3_workerOn_5 (by decide) (fun _ => ?_) (fun h9 => by first | exact absurd h9 (by decide) | exact absurd (by decide) h9)
    refine lv_iconst (v := (-1)) hx hb dX3_workerOn_17 (by decide) ?_
    refine W.widen (k := 0) (n := 0) (Nat.le_of_ble_eq_true rfl) (Nat.le_of_ble_eq_true rfl) ?_
    exact W.iret (v := (-1)) hx hb hr (fun t ht hW9 => ⟨⟨(-1), (u_1.1, u_1.2), rfl, ⟨⟨by decide, by decide⟩, hI⟩, by rw [ht]; exact hP, va_K.moved hW9.alike hK, hD⟩, hS.F ht⟩) hS.2.2 dX3_workerOn_18
set_option maxHeartbeats 4000000 in
set_option maxRecDepth 100000 in
theorem k_markAwake (l : Launch) (dC : Nat → ClassId) (dI : Nat → Nat → Nat) (dA : Nat → ClassId) (ad sz : Nat) (τ : Nat → Nat → Nat) (pv : Nat → Nat → Value) (L : List Nat) (f : Nat → va_E) (hI : kI dA τ pv L f) (x bl rl kl ba ra ka fr nb nr nk : Nat) (hW : kW τ pv ad x bl rl kl ba ra ka fr nb nr nk)  : Met l yX3_markAwake wsX3_markAwake ({ frames := 3, cells := 0, slots := 0, locals := 64 } : Room) (va_Pc [.ref x] (kB dC dI dA ad sz L f)) (va_Qv (fun u => kI dA τ pv u.1 u.2) (kR dC dI dA (va_A (va_pl L f) sz)) (va_A (va_pl L f) sz)) 0 0 (va_A (va_pl L f) sz) := by
  refine Met.ofW (cc := cX3_markAwake) (maxL := 3) (ret := none) (by decide) rfl ?_
  intro p e s m args below meth c s₁ B hml hv
  obtain ⟨rfl, hsz, hP, hK, hD0, hE⟩ := hv
  have hx := B.exec
  have hb := B.bytes
  have hr := B.returns
  have hts := atoms_spec (ws := wsX3_markAwake) B.pre
  have hown : s.vm.findClass RX3 = some m.cls := findClass_of_methodNamed B.named
  have hlocks := B.notSynchronized
  have i_X3 : ∀ w ∈ u_ws RX3 TX3 16, w ∈ wsX3_markAwake := by decide +kernel
  have i_X0 : ∀ w ∈ u_ws RX0 TX0 16, w ∈ wsX3_markAwake := by decide +kernel
  subst hsz
  have hD := hD0.self (sz := s.heap.size)
  generalize hAe : va_A (va_pl L f) s.heap.size = A at hD hE ⊢
  have hA : ∀ q : Nat, s.heap.size ≤ q → A q := fun q h => by rw [← hAe]; exact Or.inr h
  have hS : va_S A s.heap s.heap [] := va_S.rf
  have hP : va_P (dC, dI) vwCl (va_pl L f) s.heap := hP
  have hK : va_K (dC, dI) vwCl (tyA dA) s := hK
  have hl := lv_entry ([.ref x]) (n := 3) (Nat.le_of_ble_eq_true rfl)
  rw [lg_entry_eq]
  generalize (lg_sl ([.ref x]) ++ List.replicate (3 - (lg_sl ([.ref x])).length) Slot.unset).toArray = ls at hl ⊢
  have hl : lv_has ls 3 [(0, .ref x)] := hl
  have hnb := hW.lnb
  have hnr := hW.lnr
  have hnk := hW.lnk
  refine lv_iconst (v := 0) hx hb dX3_markAwake_0 (by decide) ?_
  refine lv_istore_n (lv' := [(1, .int 0), (0, .ref x)]) hx hb dX3_markAwake_1 rfl hl (by decide) rfl (fun ls hl => ?_)
  have hl : lv_has ls 3 [(0, .ref x), (1, .int 0)] := lv_sub hl [1, 0] rfl
  refine kl_loop (Inv := fun n2 _ L f H locs ls => ∃ (i : Nat), 256 - i < n2 ∧ kI dA τ pv L f ∧ va_P (dC, dI) vwCl (va_pl L f) H ∧ va_D A (va_pl L f) ∧ va_S A s.heap H locs ∧ lv_has ls 3 [(0, .ref x), (1, .int (nI i))] ∧ i ≤ 256) (fun _ _ _ _ _ _ h9 => by obtain ⟨_, hn, _⟩ := h9; exact Nat.not_lt_zero _ hn) (fun n2 ih2 _ L f H locs ls h9 => ?_) (256 - 0 + 1) (fun _ _ => .null) _ _ _ _ _ ⟨0, Nat.lt_succ_self _, hI, hP, hD, hS, hl, Nat.zero_le _⟩
  obtain ⟨i, hn2, hI, hP, hD, hS, hl, hib⟩ := h9
  refine lv_iload_n hx hb dX3_markAwake_2 rfl (lv_at hl 1 rfl) ?_
  refine lv_aload_n hx hb dX3_markAwake_3 rfl (lv_at hl 0 rfl) ?_
  refine kp_get hx hb hts i_X3 hown hK hP hI hW.tx rfl rfl 12 (by decide) (by decide) (hts (.fieldLink RX3 56 "IslandSolver" "islandCount" "I") (by decide +kernel)) (fun _ h9 => h9) dX3_markAwake_4 (kq_L6 rfl fun x_1 w_3 h_2 => ?_)
  refine lv_icmp_ge (tgt := 23) hx hb dX3_markAwake_7 (by decide) (fun c_4 => ?_) (fun c_4 => ?_)
  · have n_5 : x_1 ≤ i := (nI_leI (by omega) (by omega)).mp (show nI x_1 ≤ nI i from c_4)
    refine lv_iconst (v := 0) hx hb dX3_markAwake_23 (by decide) ?_
    refine lv_istore_n (lv' := [(1, .int 0), (0, .ref x)]) hx hb dX3_markAwake_24 rfl hl (by decide) rfl (fun ls hl => ?_)
    have hl : lv_has ls 3 [(0, .ref x), (1, .int 0)] := lv_sub hl [1, 0] rfl
    refine kl_loop (Inv := fun n25 _ L f H locs ls => ∃ (i : Nat), nb - i < n25 ∧ kI dA τ pv L f ∧ va_P (dC, dI) vwCl (va_pl L f) H ∧ va_D A (va_pl L f) ∧ va_S A s.heap H locs ∧ lv_has ls 3 [(0, .ref x), (1, .int (nI i))] ∧ i ≤ nb) (fun _ _ _ _ _ _ h9 => by obtain ⟨_, hn, _⟩ := h9; exact Nat.not_lt_zero _ hn) (fun n25 ih25 _ L f H locs ls h9 => ?_) (nb - 0 + 1) (fun _ _ => .null) _ _ _ _ _ ⟨0, Nat.lt_succ_self _, hI, hP, hD, hS, hl, Nat.zero_le _⟩
    obtain ⟨i, hn25, hI, hP, hD, hS, hl, hib⟩ := h9
    refine lv_iload_n hx hb dX3_markAwake_25 rfl (lv_at hl 1 rfl) ?_
    refine lv_aload_n hx hb dX3_markAwake_26 rfl (lv_at hl 0 rfl) ?_
    refine kp_get hx hb hts i_X3 hown hK hP hI hW.tx rfl rfl 0 (by decide) (by decide) (hts (.fieldLink RX3 10 "IslandSolver" "bodies" "Ljava/util/ArrayList;") (by decide +kernel)) (fun _ h9 => h9) dX3_markAwake_27 (kq_P (v0 := .ref bl) rfl hW.p0 fun h_7 => ?_)
    refine kd_calli (va_runV (As := []) (rest := [.int (nI i)]) ⟨hx, hb, hml, hown, hts⟩ (k_size7 l dC dI dA ad _ τ pv _ _ hI bl nb hW.lb.1 hW.lb.2.2.1) (cwV 0 hts gX3_markAwake_Jx4a65c_size_8abf5 rfl rfl rfl (by decide +kernel) ⟨Nat.le_of_ble_eq_true rfl, Nat.le_of_ble_eq_true rfl⟩) (kd_preV hP hD hK hS hA hE hI hW.lb.1 rfl rfl) rfl rfl hl.1 rfl (lv_room (Nat.le_of_ble_eq_true rfl)) dX3_markAwake_30 ⟨Nat.le_of_ble_eq_true rfl, Nat.le_of_ble_eq_true rfl⟩) hD hS hA (fun r_9 u_8 H locs hw hP hD hS => ?_)
    obtain ⟨rfl, hI⟩ := hw
    refine lv_icmp_ge (tgt := 82) hx hb dX3_markAwake_33 (by decide) (fun c_10 => ?_) (fun c_10 => ?_)
    · have n_11 : nb ≤ i := (nI_leI (by omega) (by omega)).mp (show nI nb ≤ nI i from c_10)
      refine W.widen (k := 0) (n := 0) (Nat.le_of_ble_eq_true rfl) (Nat.le_of_ble_eq_true rfl) ?_
      exact W.vret hx hb hr (fun t ht hW9 => ⟨⟨(u_8.1, u_8.2), rfl, hI, by rw [ht]; exact hP, va_K.moved hW9.alike hK, hD⟩, hS.F ht⟩) hS.2.2 dX3_markAwake_82
    · have n_12 : ¬ nb ≤ i := fun h9 => (show ¬ nI nb ≤ nI i from c_10) ((nI_leI (by omega) (by omega)).mpr h9)
      refine lv_aload_n hx hb dX3_markAwake_36 rfl (lv_at hl 0 rfl) ?_
      refine kp_get hx hb hts i_X3 hown hK hP hI hW.tx rfl rfl 0 (by decide) (by decide) (hts (.fieldLink RX3 10 "IslandSolver" "bodies" "Ljava/util/ArrayList;") (by decide +kernel)) (fun _ h9 => h9) dX3_markAwake_37 (kq_P (v0 := .ref bl) rfl hW.p0 fun h_14 => ?_)
      refine lv_iload_n hx hb dX3_markAwake_40 rfl (lv_at hl 1 rfl) ?_
      obtain ⟨q_15, g_16, g_17, g_18, g_19⟩ := hW.lb.at (i := i) (by omega)
      have g_20 := hW.xb (i := i) (by omega) g_18
      refine kd_callq (va_runV (As := [.int (nI i)]) (rest := []) ⟨hx, hb, hml, hown, hts⟩ (k_get7 l dC dI dA ad _ τ pv _ _ hI bl ba nb i q_15 hW.lb.1 hW.lb.2.1 hW.lb.2.2.1 g_16 g_17 (by omega) (by omega) g_18) (cwV 1 hts gX3_markAwake_Jx4a65c_get_915e3 rfl rfl rfl (by decide +kernel) ⟨Nat.le_of_ble_eq_true rfl, Nat.le_of_ble_eq_true rfl⟩) (kd_preV hP hD hK hS hA hE hI hW.lb.1 rfl rfl) rfl rfl hl.1 rfl (lv_room (Nat.le_of_ble_eq_true rfl)) dX3_markAwake_41 ⟨Nat.le_of_ble_eq_true rfl, Nat.le_of_ble_eq_true rfl⟩) hD hS hA (fun r_22 u_21 H locs hw hP hD hS => ?_)
      obtain ⟨rfl, hI⟩ := hw
      refine W.eq (g2 := F0 m 44 ls [.ref q_15]) rfl ?_
      refine va_castY hx hb hown (hts (.classLink RX3 94 "IslandSolver$Body") (by decide +kernel)) (kz_cast (hE.cast2 "IslandSolver$Body" "IslandSolver$Body" (by decide +kernel))) (kd_recv hK hP hI g_19 rfl rfl) dX3_markAwake_44 ?_
      refine lv_astore_n (lv' := [(2, .ref q_15), (0, .ref x), (1, .int (nI i))]) hx hb dX3_markAwake_47 rfl hl (by decide) rfl (fun ls hl => ?_)
      refine lv_aload_n hx hb dX3_markAwake_48 rfl (lv_at hl 1 rfl) ?_
      refine lv_aload_n hx hb dX3_markAwake_49 rfl (lv_at hl 0 rfl) ?_
      refine kp_get hx hb hts i_X0 hown hK hP hI g_19 rfl rfl 14 (by decide) (by decide) (hts (.fieldLink RX3 270 "IslandSolver$Body" "island" "I") (by decide +kernel)) (fun _ h9 => h9) dX3_markAwake_50 (kq_L0 rfl fun x_23 w_25 => ?_)
      refine kd_calli (va_runV (As := [.int x_23]) (rest := []) ⟨hx, hb, hml, hown, hts⟩ (k_isIsland l dC dI dA ad _ τ pv _ _ hI x bl rl kl ba ra ka fr nb nr nk hW x_23) (cwV 1 hts gX3_markAwake_X3_isIsland rfl rfl rfl (by decide +kernel) ⟨Nat.le_of_ble_eq_true rfl, Nat.le_of_ble_eq_true rfl⟩) (kd_preV hP hD hK hS hA hE hI hW.tx rfl rfl) rfl rfl hl.1 rfl (lv_room (Nat.le_of_ble_eq_true rfl)) dX3_markAwake_53 ⟨Nat.le_of_ble_eq_true rfl, Nat.le_of_ble_eq_true rfl⟩) hD hS hA (fun r_27 u_26 H locs hw hP hD hS => ?_)
      obtain ⟨⟨rfl, ⟨j_28, hj_28, rfl⟩⟩ | rfl, hI⟩ := hw
      · refine lv_if_eq (tgt := 76) hx hb dX3_markAwake_56 (by decide) (fun h9 => by first | exact absurd h9 (by decide) | exact absurd (by decide) h9) (fun _ => ?_)
        refine lv_aload_n hx hb dX3_markAwake_59 rfl (lv_at hl 0 rfl) ?_
        refine kp_get hx hb hts i_X0 hown hK hP hI g_19 rfl rfl 11 (by decide) (by decide) (hts (.fieldLink RX3 169 "IslandSolver$Body" "asleep" "Z") (by decide +kernel)) (fun _ h9 => h9) dX3_markAwake_60 (kq_Z fun x_29 h_30 => ?_)
        refine lv_if_ne (tgt := 76) hx hb dX3_markAwake_63 (by decide) (fun c_31 => ?_) (fun c_31 => ?_)
        · obtain rfl : x_29 = 1 := (h_30).resolve_left c_31
          refine lv_iinc (v := nI (i + 1)) (lv' := [(1, .int (nI (i + 1))), (2, .ref q_15), (0, .ref x)]) hx hb dX3_markAwake_76 hl (k := 2) rfl (nI_add i 1) (by decide) rfl (fun ls hl => ?_)
          refine lv_goto (tgt := 25) hx hb dX3_markAwake_79 (by decide) ?_
          have hl : lv_has ls 3 [(0, .ref x), (1, .int (nI (i + 1)))] := lv_sub hl [2, 0] rfl
          exact ih25 (fun _ _ => .null) _ _ _ _ _ ⟨(i + 1), by omega, hI, hP, hD, hS, hl, by omega⟩
        · subst c_31
          refine lv_aload_n hx hb dX3_markAwake_66 rfl (lv_at hl 1 rfl) ?_
          refine kp_get hx hb hts i_X3 hown hK hP hI hW.tx rfl rfl 13 (by decide) (by decide) (hts (.fieldLink RX3 59 "IslandSolver" "workerOf" "[I") (by decide +kernel)) (fun _ h9 => h9) dX3_markAwake_67 (kq_R 11 (by decide) fun x_32 h_33 => ?_)
          refine lv_aload_n hx hb dX3_markAwake_70 rfl (lv_at hl 0 rfl) ?_
          refine kp_get hx hb hts i_X0 hown hK hP hI g_19 rfl rfl 14 (by decide) (by decide) (hts (.fieldLink RX3 270 "IslandSolver$Body" "island" "I") (by decide +kernel)) (fun _ h9 => h9) dX3_markAwake_71 (kq_P (v0 := .int (nI j_28)) rfl w_25 fun h_35 => ?_)
          refine lv_iconst (v := 0) hx hb dX3_markAwake_74 (by decide) ?_
          have hj_36 : j_28 < τ 3 x_32 := by rw [show τ 3 x_32 = 256 from (hI.arr h_33 rfl).2.1]; omega
          refine W.eq (g2 := F0 m 75 ls (.int 0 :: .int (nI (j_28)) :: .ref x_32 :: [])) rfl ?_
          refine kp_iastX (pv' := pv) (j := j_28) hx hb hK hP hD hS hI h_33 rfl hj_36 (fun _ _ _ => rfl) (show kPr _ 4 _ _ from (kv_S (by decide) ⟨_, rfl, by decide, by decide⟩)) (kPn_not rfl (by decide)) dX3_markAwake_75 (fun f H locs hI hP hD hS => ?_)
          refine lv_iinc (v := nI (i + 1)) (lv' := [(1, .int (nI (i + 1))), (2, .ref q_15), (0, .ref x)]) hx hb dX3_markAwake_76 hl (k := 2) rfl (nI_add i 1) (by decide) rfl (fun ls hl => ?_)
          refine lv_goto (tgt := 25) hx hb dX3_markAwake_79 (by decide) ?_
          have hl : lv_has ls 3 [(0, .ref x), (1, .int (nI (i + 1)))] := lv_sub hl [2, 0] rfl
          exact ih25 (fun _ _ => .null) _ _ _ _ _ ⟨(i + 1), by omega, hI, hP, hD, hS, hl, by omega⟩
      · refine lv_if_eq (tgt := 76) hx hb dX3_markAwake_56 (by decide) (fun _ => ?_) (fun h9 => by first | exact absurd h9 (by decide) | exact absurd (by decide) h9)
        refine lv_iinc (v := nI (i + 1)) (lv' := [(1, .int (nI (i + 1))), (2, .ref q_15), (0, .ref x)]) hx hb dX3_markAwake_76 hl (k := 2) rfl (nI_add i 1) (by decide) rfl (fun ls hl => ?_)
        refine lv_goto (tgt := 25) hx hb dX3_markAwake_79 (by decide) ?_
        have hl : lv_has ls 3 [(0, .ref x), (1, .int (nI (i + 1)))] := lv_sub hl [2, 0] rfl
        exact ih25 (fun _ _ => .null) _ _ _ _ _ ⟨(i + 1), by omega, hI, hP, hD, hS, hl, by omega⟩
  · have n_37 : ¬ x_1 ≤ i := fun h9 => (show ¬ nI x_1 ≤ nI i from c_4) ((nI_leI (by omega) (by omega)).mpr h9)
    refine lv_aload_n hx hb dX3_markAwake_10 rfl (lv_at hl 0 rfl) ?_
    refine kp_get hx hb hts i_X3 hown hK hP hI hW.tx rfl rfl 13 (by decide) (by decide) (hts (.fieldLink RX3 59 "IslandSolver" "workerOf" "[I") (by decide +kernel)) (fun _ h9 => h9) dX3_markAwake_11 (kq_R 11 (by decide) fun x_38 h_39 => ?_)
    refine lv_iload_n hx hb dX3_markAwake_14 rfl (lv_at hl 1 rfl) ?_
    refine lv_iconst (v := (-1)) hx hb dX3_markAwake_15 (by decide) ?_
    have hj_40 : i < τ 3 x_38 := by rw [show τ 3 x_38 = 256 from (hI.arr h_39 rfl).2.1]; omega
    refine W.eq (g2 := F0 m 16 ls (.int (-1) :: .int (nI (i)) :: .ref x_38 :: [])) rfl ?_
    refine kp_iastX (pv' := pv) (j := i) hx hb hK hP hD hS hI h_39 rfl hj_40 (fun _ _ _ => rfl) (show kPr _ 4 _ _ from (kv_S (by decide) ⟨_, rfl, by decide, by decide⟩)) (kPn_not rfl (by decide)) dX3_markAwake_16 (fun f H locs hI hP hD hS => ?_)
    refine lv_iinc (v := nI (i + 1)) (lv' := [(1, .int (nI (i + 1))), (0, .ref x)]) hx hb dX3_markAwake_17 hl (k := 1) rfl (nI_add i 1) (by decide) rfl (fun ls hl => ?_)
    refine lv_goto (tgt := 2) hx hb dX3_markAwake_20 (by decide) ?_
    have hl : lv_has ls 3 [(0, .ref x), (1, .int (nI (i + 1)))] := lv_sub hl [1, 0] rfl
    exact ih2 (fun _ _ => .null) _ _ _ _ _ ⟨(i + 1), by omega, hI, hP, hD, hS, hl, by omega⟩
set_option maxHeartbeats 4000000 in
set_option maxRecDepth 100000 in
theorem k_awakeIslands (l : Launch) (dC : Nat → ClassId) (dI : Nat → Nat → Nat) (dA : Nat → ClassId) (ad sz : Nat) (τ : Nat → Nat → Nat) (pv : Nat → Nat → Value) (L : List Nat) (f : Nat → va_E) (hI : kI dA τ pv L f) (x bl rl kl ba ra ka fr nb nr nk : Nat) (hW : kW τ pv ad x bl rl kl ba ra ka fr nb nr nk)  : Met l yX3_awakeIslands wsX3_awakeIslands ({ frames := 0, cells := 0, slots := 0, locals := 0 } : Room) (va_Pc [.ref x] (kB dC dI dA ad sz L f)) (va_Qi (fun r u => kI dA τ pv u.1 u.2) (kR dC dI dA (va_A (va_pl L f) sz)) (va_A (va_pl L f) sz)) 0 0 (va_A (va_pl L f) sz) := by
  refine Met.ofW (cc := cX3_awakeIslands) (maxL := 3) (ret := (some .int)) (by decide) rfl ?_
  intro p e s m args below meth c s₁ B hml hv
  obtain ⟨rfl, hsz, hP, hK, hD0, hE⟩ := hv
  have hx := B.exec
  have hb := B.bytes
  have hr := B.returns
  have hts := atoms_spec (ws := wsX3_awakeIslands) B.pre
  have hown : s.vm.findClass RX3 = some m.cls := findClass_of_methodNamed B.named
  have hlocks := B.notSynchronized
  have i_X3 : ∀ w ∈ u_ws RX3 TX3 16, w ∈ wsX3_awakeIslands := by decide +kernel
  subst hsz
  have hD := hD0.self (sz := s.heap.size)
  generalize hAe : va_A (va_pl L f) s.heap.size = A at hD hE ⊢
  have hA : ∀ q : Nat, s.heap.size ≤ q → A q := fun q h => by rw [← hAe]; exact Or.inr h
  have hS : va_S A s.heap s.heap [] := va_S.rf
  have hP : va_P (dC, dI) vwCl (va_pl L f) s.heap := hP
  have hK : va_K (dC, dI) vwCl (tyA dA) s := hK
  have hl := lv_entry ([.ref x]) (n := 3) (Nat.le_of_ble_eq_true rfl)
  rw [lg_entry_eq]
  generalize (lg_sl ([.ref x]) ++ List.replicate (3 - (lg_sl ([.ref x])).length) Slot.unset).toArray = ls at hl ⊢
  have hl : lv_has ls 3 [(0, .ref x)] := hl
  have hnb := hW.lnb
  have hnr := hW.lnr
  have hnk := hW.lnk
  refine lv_iconst (v := 0) hx hb dX3_awakeIslands_0 (by decide) ?_
  refine lv_istore_n (lv' := [(1, .int 0), (0, .ref x)]) hx hb dX3_awakeIslands_1 rfl hl (by decide) rfl (fun ls hl => ?_)
  refine lv_iconst (v := 0) hx hb dX3_awakeIslands_2 (by decide) ?_
  refine lv_istore_n (lv' := [(2, .int 0), (1, .int 0), (0, .ref x)]) hx hb dX3_awakeIslands_3 rfl hl (by decide) rfl (fun ls hl => ?_)
  have hl : lv_has ls 3 [(0, .ref x), (1, .int 0), (2, .int 0)] := lv_sub hl [2, 1, 0] rfl
  refine kl_loop (Inv := fun n4 _ L f H locs ls => ∃ (i : Nat) (c9 : Int32), 256 - i < n4 ∧ kI dA τ pv L f ∧ va_P (dC, dI) vwCl (va_pl L f) H ∧ va_D A (va_pl L f) ∧ va_S A s.heap H locs ∧ lv_has ls 3 [(0, .ref x), (1, .int c9), (2, .int (nI i))] ∧ i ≤ 256) (fun _ _ _ _ _ _ h9 => by obtain ⟨_, _, hn, _⟩ := h9; exact Nat.not_lt_zero _ hn) (fun n4 ih4 _ L f H locs ls h9 => ?_) (256 - 0 + 1) (fun _ _ => .null) _ _ _ _ _ ⟨0, 0, Nat.lt_succ_self _, hI, hP, hD, hS, hl, Nat.zero_le _⟩
  obtain ⟨i, c9, hn4, hI, hP, hD, hS, hl, hib⟩ := h9
  refine lv_iload_n hx hb dX3_awakeIslands_4 rfl (lv_at hl 2 rfl) ?_
  refine lv_aload_n hx hb dX3_awakeIslands_5 rfl (lv_at hl 0 rfl) ?_
  refine kp_get hx hb hts i_X3 hown hK hP hI hW.tx rfl rfl 12 (by decide) (by decide) (hts (.fieldLink RX3 56 "IslandSolver" "islandCount" "I") (by decide +kernel)) (fun _ h9 => h9) dX3_awakeIslands_6 (kq_L6 rfl fun x_1 w_3 h_2 => ?_)
  refine lv_icmp_ge (tgt := 31) hx hb dX3_awakeIslands_9 (by decide) (fun c_4 => ?_) (fun c_4 => ?_)
  · have n_5 : x_1 ≤ i := (nI_leI (by omega) (by omega)).mp (show nI x_1 ≤ nI i from c_4)
    refine lv_iload_n hx hb dX3_awakeIslands_31 rfl (lv_at hl 1 rfl) ?_
    refine W.widen (k := 0) (n := 0) (Nat.le_of_ble_eq_true rfl) (Nat.le_of_ble_eq_true rfl) ?_
    exact W.iret (v := c9) hx hb hr (fun t ht hW9 => ⟨⟨c9, (L, f), rfl, hI, by rw [ht]; exact hP, va_K.moved hW9.alike hK, hD⟩, hS.F ht⟩) hS.2.2 dX3_awakeIslands_32
  · have n_6 : ¬ x_1 ≤ i := fun h9 => (show ¬ nI x_1 ≤ nI i from c_4) ((nI_leI (by omega) (by omega)).mpr h9)
    refine lv_aload_n hx hb dX3_awakeIslands_12 rfl (lv_at hl 0 rfl) ?_
    refine kp_get hx hb hts i_X3 hown hK hP hI hW.tx rfl rfl 13 (by decide) (by decide) (hts (.fieldLink RX3 59 "IslandSolver" "workerOf" "[I") (by decide +kernel)) (fun _ h9 => h9) dX3_awakeIslands_13 (kq_R 11 (by decide) fun x_7 h_8 => ?_)
    refine lv_iload_n hx hb dX3_awakeIslands_16 rfl (lv_at hl 2 rfl) ?_
    have hj_9 : i < τ 3 x_7 := by rw [show τ 3 x_7 = 256 from (hI.arr h_8 rfl).2.1]; omega
    refine W.eq (g2 := F0 m 17 ls (.int (nI (i)) :: .ref x_7 :: [])) rfl ?_
    refine kp_iald (j := i) hx hb hK hP hI h_8 rfl hj_9 dX3_awakeIslands_17 (ka_4 fun x_10 h_11 h_11_2 => ?_)
    refine lv_iconst (v := (-1)) hx hb dX3_awakeIslands_18 (by decide) ?_
    refine lv_icmp_eq (tgt := 25) hx hb dX3_awakeIslands_19 (by decide) (fun c_12 => ?_) (fun c_12 => ?_)
    · refine lv_iinc (v := nI (i + 1)) (lv' := [(2, .int (nI (i + 1))), (0, .ref x), (1, .int c9)]) hx hb dX3_awakeIslands_25 hl (k := 2) rfl (nI_add i 1) (by decide) rfl (fun ls hl => ?_)
      refine lv_goto (tgt := 4) hx hb dX3_awakeIslands_28 (by decide) ?_
      have hl : lv_has ls 3 [(0, .ref x), (1, .int c9), (2, .int (nI (i + 1)))] := lv_sub hl [1, 2, 0] rfl
      exact ih4 (fun _ _ => .null) _ _ _ _ _ ⟨(i + 1), c9, by omega, hI, hP, hD, hS, hl, by omega⟩
    · refine lv_iinc (v := (c9 + 1)) (lv' := [(1, .int (c9 + 1)), (0, .ref x), (2, .int (nI i))]) hx hb dX3_awakeIslands_22 hl (k := 1) rfl rfl (by decide) rfl (fun ls hl => ?_)
      refine lv_iinc (v := nI (i + 1)) (lv' := [(2, .int (nI (i + 1))), (1, .int (c9 + 1)), (0, .ref x)]) hx hb dX3_awakeIslands_25 hl (k := 2) rfl (nI_add i 1) (by decide) rfl (fun ls hl => ?_)
      refine lv_goto (tgt := 4) hx hb dX3_awakeIslands_28 (by decide) ?_
      have hl : lv_has ls 3 [(0, .ref x), (1, .int (c9 + 1)), (2, .int (nI (i + 1)))] := lv_sub hl [2, 1, 0] rfl
      exact ih4 (fun _ _ => .null) _ _ _ _ _ ⟨(i + 1), (c9 + 1), by omega, hI, hP, hD, hS, hl, by omega⟩
set_option maxHeartbeats 4000000 in
set_option maxRecDepth 100000 in
theorem k_sleepers (l : Launch) (dC : Nat → ClassId) (dI : Nat → Nat → Nat) (dA : Nat → ClassId) (ad sz : Nat) (τ : Nat → Nat → Nat) (pv : Nat → Nat → Value) (L : List Nat) (f : Nat → va_E) (hI : kI dA τ pv L f) (x bl rl kl ba ra ka fr nb nr nk : Nat) (hW : kW τ pv ad x bl rl kl ba ra ka fr nb nr nk)  : Met l yX3_sleepers wsX3_sleepers ({ frames := 3, cells := 0, slots := 0, locals := 64 } : Room) (va_Pc [.ref x] (kB dC dI dA ad sz L f)) (va_Qi (fun r u => kI dA τ pv u.1 u.2) (kR dC dI dA (va_A (va_pl L f) sz)) (va_A (va_pl L f) sz)) 0 0 (va_A (va_pl L f) sz) := by
  refine Met.ofW (cc := cX3_sleepers) (maxL := 3) (ret := (some .int)) (by decide) rfl ?_
  intro p e s m args below meth c s₁ B hml hv
  obtain ⟨rfl, hsz, hP, hK, hD0, hE⟩ := hv
  have hx := B.exec
  have hb := B.bytes
  have hr := B.returns
  have hts := atoms_spec (ws := wsX3_sleepers) B.pre
  have hown : s.vm.findClass RX3 = some m.cls := findClass_of_methodNamed B.named
  have hlocks := B.notSynchronized
  have i_X3 : ∀ w ∈ u_ws RX3 TX3 16, w ∈ wsX3_sleepers := by decide +kernel
  have i_X0 : ∀ w ∈ u_ws RX0 TX0 16, w ∈ wsX3_sleepers := by decide +kernel
  subst hsz
  have hD := hD0.self (sz := s.heap.size)
  generalize hAe : va_A (va_pl L f) s.heap.size = A at hD hE ⊢
  have hA : ∀ q : Nat, s.heap.size ≤ q → A q := fun q h => by rw [← hAe]; exact Or.inr h
  have hS : va_S A s.heap s.heap [] := va_S.rf
  have hP : va_P (dC, dI) vwCl (va_pl L f) s.heap := hP
  have hK : va_K (dC, dI) vwCl (tyA dA) s := hK
  have hl := lv_entry ([.ref x]) (n := 3) (Nat.le_of_ble_eq_true rfl)
  rw [lg_entry_eq]
  generalize (lg_sl ([.ref x]) ++ List.replicate (3 - (lg_sl ([.ref x])).length) Slot.unset).toArray = ls at hl ⊢
  have hl : lv_has ls 3 [(0, .ref x)] := hl
  have hnb := hW.lnb
  have hnr := hW.lnr
  have hnk := hW.lnk
  refine lv_iconst (v := 0) hx hb dX3_sleepers_0 (by decide) ?_
  refine lv_istore_n (lv' := [(1, .int 0), (0, .ref x)]) hx hb dX3_sleepers_1 rfl hl (by decide) rfl (fun ls hl => ?_)
  refine lv_iconst (v := 0) hx hb dX3_sleepers_2 (by decide) ?_
  refine lv_istore_n (lv' := [(2, .int 0), (1, .int 0), (0, .ref x)]) hx hb dX3_sleepers_3 rfl hl (by decide) rfl (fun ls hl => ?_)
  have hl : lv_has ls 3 [(0, .ref x), (1, .int 0), (2, .int 0)] := lv_sub hl [2, 1, 0] rfl
  refine kl_loop (Inv := fun n4 _ L f H locs ls => ∃ (i : Nat) (c9 : Int32), nb - i < n4 ∧ kI dA τ pv L f ∧ va_P (dC, dI) vwCl (va_pl L f) H ∧ va_D A (va_pl L f) ∧ va_S A s.heap H locs ∧ lv_has ls 3 [(0, .ref x), (1, .int c9), (2, .int (nI i))] ∧ i ≤ nb) (fun _ _ _ _ _ _ h9 => by obtain ⟨_, _, hn, _⟩ := h9; exact Nat.not_lt_zero _ hn) (fun n4 ih4 _ L f H locs ls h9 => ?_) (nb - 0 + 1) (fun _ _ => .null) _ _ _ _ _ ⟨0, 0, Nat.lt_succ_self _, hI, hP, hD, hS, hl, Nat.zero_le _⟩
  obtain ⟨i, c9, hn4, hI, hP, hD, hS, hl, hib⟩ := h9
  refine lv_iload_n hx hb dX3_sleepers_4 rfl (lv_at hl 2 rfl) ?_
  refine lv_aload_n hx hb dX3_sleepers_5 rfl (lv_at hl 0 rfl) ?_
  refine kp_get hx hb hts i_X3 hown hK hP hI hW.tx rfl rfl 0 (by decide) (by decide) (hts (.fieldLink RX3 10 "IslandSolver" "bodies" "Ljava/util/ArrayList;") (by decide +kernel)) (fun _ h9 => h9) dX3_sleepers_6 (kq_P (v0 := .ref bl) rfl hW.p0 fun h_2 => ?_)
  refine kd_calli (va_runV (As := []) (rest := [.int (nI i)]) ⟨hx, hb, hml, hown, hts⟩ (k_size7 l dC dI dA ad _ τ pv _ _ hI bl nb hW.lb.1 hW.lb.2.2.1) (cwV 0 hts gX3_sleepers_Jx4a65c_size_8abf5 rfl rfl rfl (by decide +kernel) ⟨Nat.le_of_ble_eq_true rfl, Nat.le_of_ble_eq_true rfl⟩) (kd_preV hP hD hK hS hA hE hI hW.lb.1 rfl rfl) rfl rfl hl.1 rfl (lv_room (Nat.le_of_ble_eq_true rfl)) dX3_sleepers_9 ⟨Nat.le_of_ble_eq_true rfl, Nat.le_of_ble_eq_true rfl⟩) hD hS hA (fun r_4 u_3 H locs hw hP hD hS => ?_)
  obtain ⟨rfl, hI⟩ := hw
  refine lv_icmp_ge (tgt := 41) hx hb dX3_sleepers_12 (by decide) (fun c_5 => ?_) (fun c_5 => ?_)
  · have n_6 : nb ≤ i := (nI_leI (by omega) (by omega)).mp (show nI nb ≤ nI i from c_5)
    refine lv_iload_n hx hb dX3_sleepers_41 rfl (lv_at hl 1 rfl) ?_
    refine W.widen (k := 0) (n := 0) (Nat.le_of_ble_eq_true rfl) (Nat.le_of_ble_eq_true rfl) ?_
    exact W.iret (v := c9) hx hb hr (fun t ht hW9 => ⟨⟨c9, (u_3.1, u_3.2), rfl, hI, by rw [ht]; exact hP, va_K.moved hW9.alike hK, hD⟩, hS.F ht⟩) hS.2.2 dX3_sleepers_42
  · have n_7 : ¬ nb ≤ i := fun h9 => (show ¬ nI nb ≤ nI i from c_5) ((nI_leI (by omega) (by omega)).mpr h9)
    refine lv_aload_n hx hb dX3_sleepers_15 rfl (lv_at hl 0 rfl) ?_
    refine kp_get hx hb hts i_X3 hown hK hP hI hW.tx rfl rfl 0 (by decide) (by decide) (hts (.fieldLink RX3 10 "IslandSolver" "bodies" "Ljava/util/ArrayList;") (by decide +kernel)) (fun _ h9 => h9) dX3_sleepers_16 (kq_P (v0 := .ref bl) rfl hW.p0 fun h_9 => ?_)
    refine lv_iload_n hx hb dX3_sleepers_19 rfl (lv_at hl 2 rfl) ?_
    obtain ⟨q_10, g_11, g_12, g_13, g_14⟩ := hW.lb.at (i := i) (by omega)
    have g_15 := hW.xb (i := i) (by omega) g_13
    refine kd_callq (va_runV (As := [.int (nI i)]) (rest := []) ⟨hx, hb, hml, hown, hts⟩ (k_get7 l dC dI dA ad _ τ pv _ _ hI bl ba nb i q_10 hW.lb.1 hW.lb.2.1 hW.lb.2.2.1 g_11 g_12 (by omega) (by omega) g_13) (cwV 1 hts gX3_sleepers_Jx4a65c_get_915e3 rfl rfl rfl (by decide +kernel) ⟨Nat.le_of_ble_eq_true rfl, Nat.le_of_ble_eq_true rfl⟩) (kd_preV hP hD hK hS hA hE hI hW.lb.1 rfl rfl) rfl rfl hl.1 rfl (lv_room (Nat.le_of_ble_eq_true rfl)) dX3_sleepers_20 ⟨Nat.le_of_ble_eq_true rfl, Nat.le_of_ble_eq_true rfl⟩) hD hS hA (fun r_17 u_16 H locs hw hP hD hS => ?_)
    obtain ⟨rfl, hI⟩ := hw
    refine W.eq (g2 := F0 m 23 ls [.ref q_10]) rfl ?_
    refine va_castY hx hb hown (hts (.classLink RX3 94 "IslandSolver$Body") (by decide +kernel)) (kz_cast (hE.cast2 "IslandSolver$Body" "IslandSolver$Body" (by decide +kernel))) (kd_recv hK hP hI g_14 rfl rfl) dX3_sleepers_23 ?_
    refine kp_get hx hb hts i_X0 hown hK hP hI g_14 rfl rfl 11 (by decide) (by decide) (hts (.fieldLink RX3 169 "IslandSolver$Body" "asleep" "Z") (by decide +kernel)) (fun _ h9 => h9) dX3_sleepers_26 (kq_Z fun x_18 h_19 => ?_)
    refine lv_if_eq (tgt := 35) hx hb dX3_sleepers_29 (by decide) (fun c_20 => ?_) (fun c_20 => ?_)
    · subst c_20
      refine lv_iinc (v := nI (i + 1)) (lv' := [(2, .int (nI (i + 1))), (0, .ref x), (1, .int c9)]) hx hb dX3_sleepers_35 hl (k := 2) rfl (nI_add i 1) (by decide) rfl (fun ls hl => ?_)
      refine lv_goto (tgt := 4) hx hb dX3_sleepers_38 (by decide) ?_
      have hl : lv_has ls 3 [(0, .ref x), (1, .int c9), (2, .int (nI (i + 1)))] := lv_sub hl [1, 2, 0] rfl
      exact ih4 (fun _ _ => .null) _ _ _ _ _ ⟨(i + 1), c9, by omega, hI, hP, hD, hS, hl, by omega⟩
    · obtain rfl : x_18 = 1 := (h_19).resolve_left c_20
      refine lv_iinc (v := (c9 + 1)) (lv' := [(1, .int (c9 + 1)), (0, .ref x), (2, .int (nI i))]) hx hb dX3_sleepers_32 hl (k := 1) rfl rfl (by decide) rfl (fun ls hl => ?_)
      refine lv_iinc (v := nI (i + 1)) (lv' := [(2, .int (nI (i + 1))), (1, .int (c9 + 1)), (0, .ref x)]) hx hb dX3_sleepers_35 hl (k := 2) rfl (nI_add i 1) (by decide) rfl (fun ls hl => ?_)
      refine lv_goto (tgt := 4) hx hb dX3_sleepers_38 (by decide) ?_
      have hl : lv_has ls 3 [(0, .ref x), (1, .int (c9 + 1)), (2, .int (nI (i + 1)))] := lv_sub hl [2, 1, 0] rfl
      exact ih4 (fun _ _ => .null) _ _ _ _ _ ⟨(i + 1), (c9 + 1), by omega, hI, hP, hD, hS, hl, by omega⟩
