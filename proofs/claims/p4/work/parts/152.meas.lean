set_option maxHeartbeats 4000000 in
set_option maxRecDepth 100000 in
theorem k_numberIsl (l : Launch) (dC : Nat → ClassId) (dI : Nat → Nat → Nat) (dA : Nat → ClassId) (ad sz : Nat) (τ : Nat → Nat → Nat) (pv0 : Nat → Nat → Value) (L : List Nat) (f : Nat → va_E) (hI : kI dA τ pv0 L f) (x bl rl kl ba ra ka fr nb nr nk : Nat) (hW : kW τ pv0 ad x bl rl kl ba ra ka fr nb nr nk)  : Met l yX3_numberIslands wsX3_numberIslands ({ frames := 3, cells := 0, slots := 0, locals := 64 } : Room) (va_Pc [.ref x] (kB dC dI dA ad sz L f)) (va_Qv (fun u => ∃ pv2, kFr kPk τ pv0 τ pv2 ∧ kI dA τ pv2 u.1 u.2) (kR dC dI dA (va_A (va_pl L f) sz)) (va_A (va_pl L f) sz)) 0 0 (va_A (va_pl L f) sz) := by
  refine Met.ofW (cc := cX3_numberIslands) (maxL := 4) (ret := none) (by decide) rfl ?_
  intro p e s m args below meth c s₁ B hml hv
  obtain ⟨rfl, hsz, hP, hK, hD0, hE⟩ := hv
  have hx := B.exec
  have hb := B.bytes
  have hr := B.returns
  have hts := atoms_spec (ws := wsX3_numberIslands) B.pre
  have hown : s.vm.findClass RX3 = some m.cls := findClass_of_methodNamed B.named
  have hlocks := B.notSynchronized
  have i_X3 : ∀ w ∈ u_ws RX3 TX3 16, w ∈ wsX3_numberIslands := by decide +kernel
  have i_X0 : ∀ w ∈ u_ws RX0 TX0 16, w ∈ wsX3_numberIslands := by decide +kernel
  subst hsz
  have hD := hD0.self (sz := s.heap.size)
  generalize hAe : va_A (va_pl L f) s.heap.size = A at hD hE ⊢
  have hA : ∀ q : Nat, s.heap.size ≤ q → A q := fun q h => by rw [← hAe]; exact Or.inr h
  have hS : va_S A s.heap s.heap [] := va_S.rf
  have hP : va_P (dC, dI) vwCl (va_pl L f) s.heap := hP
  have hK : va_K (dC, dI) vwCl (tyA dA) s := hK
  have hl := lv_entry ([.ref x]) (n := 4) (Nat.le_of_ble_eq_true rfl)
  rw [lg_entry_eq]
  generalize (lg_sl ([.ref x]) ++ List.replicate (4 - (lg_sl ([.ref x])).length) Slot.unset).toArray = ls at hl ⊢
  have hl : lv_has ls 4 [(0, .ref x)] := hl
  have hnb := hW.lnb
  have hnr := hW.lnr
  have hnk := hW.lnk
  have hF : kFr kPk τ pv0 τ pv0 := kFr.rf
  refine lv_aload_n hx hb dX3_numberIslands_0 rfl (lv_at hl 0 rfl) ?_
  refine lv_iconst (v := 0) hx hb dX3_numberIslands_1 (by decide) ?_
  refine kp_putP (v := .int 0) (ty := .int) hx hb hts i_X3 tyX3 tyX3_ok nmX3 hown hK hP hD hS hI hW.tx rfl rfl 12 (by decide) (by decide) (hts (.fieldLink RX3 56 "IslandSolver" "islandCount" "I") (by decide +kernel)) (fun _ h9 => h9) rfl (by decide +kernel) rfl rfl rfl (kv_S (by decide) ⟨0, rfl, by omega⟩) dX3_numberIslands_2 (fun f H locs hI hP hD hS => ?_)
  have hF := hF.trans (kFr.up (P := kPk) (w := .int 0) (k := 12) hW.tx rfl)
  have hW := hW.frw (kFr.up (P := kPw) (w := .int 0) (k := 12) hW.tx rfl)
  refine lv_iconst (v := 0) hx hb dX3_numberIslands_5 (by decide) ?_
  refine lv_istore_n (lv' := [(1, .int 0), (0, .ref x)]) hx hb dX3_numberIslands_6 rfl hl (by decide) rfl (fun ls hl => ?_)
  have hl : lv_has ls 4 [(0, .ref x), (1, .int 0)] := lv_sub hl [1, 0] rfl
  refine kl_loop (Inv := fun n7 pv L f H locs ls => ∃ (i : Nat) (c9 : Nat), nb - i < n7 ∧ kI dA τ pv L f ∧ va_P (dC, dI) vwCl (va_pl L f) H ∧ va_D A (va_pl L f) ∧ va_S A s.heap H locs ∧ lv_has ls 4 [(0, .ref x), (1, .int (nI i))] ∧ kFr kPk τ pv0 τ pv ∧ kW τ pv ad x bl rl kl ba ra ka fr nb nr nk ∧ pv x 12 = .int (nI c9) ∧ c9 ≤ i ∧ i ≤ nb) (fun _ _ _ _ _ _ h9 => by obtain ⟨_, _, hn, _⟩ := h9; exact Nat.not_lt_zero _ hn) (fun n7 ih7 pv L f H locs ls h9 => ?_) (nb - 0 + 1) ((kup pv0 x 12 (.int 0))) _ _ _ _ _ ⟨0, 0, Nat.lt_succ_self _, hI, hP, hD, hS, hl, hF, hW, kup_self, by decide, Nat.zero_le _⟩
  obtain ⟨i, c9, hn7, hI, hP, hD, hS, hl, hF, hW, hc9, hci, hib⟩ := h9
  refine lv_iload_n hx hb dX3_numberIslands_7 rfl (lv_at hl 1 rfl) ?_
  refine lv_aload_n hx hb dX3_numberIslands_8 rfl (lv_at hl 0 rfl) ?_
  refine kp_get hx hb hts i_X3 hown hK hP hI hW.tx rfl rfl 0 (by decide) (by decide) (hts (.fieldLink RX3 10 "IslandSolver" "bodies" "Ljava/util/ArrayList;") (by decide +kernel)) (fun _ h9 => h9) dX3_numberIslands_9 (kq_P (v0 := .ref bl) rfl hW.p0 fun h_2 => ?_)
  refine kd_calli (va_runV (As := []) (rest := [.int (nI i)]) ⟨hx, hb, hml, hown, hts⟩ (k_size7 l dC dI dA ad _ τ pv _ _ hI bl nb hW.lb.1 hW.lb.2.2.1) (cwV 0 hts gX3_numberIslands_Jx4a65c_size_8abf5 rfl rfl rfl (by decide +kernel) ⟨Nat.le_of_ble_eq_true rfl, Nat.le_of_ble_eq_true rfl⟩) (kd_preV hP hD hK hS hA hE hI hW.lb.1 rfl rfl) rfl rfl hl.1 rfl (lv_room (Nat.le_of_ble_eq_true rfl)) dX3_numberIslands_12 ⟨Nat.le_of_ble_eq_true rfl, Nat.le_of_ble_eq_true rfl⟩) hD hS hA (fun r_4 u_3 H locs hw hP hD hS => ?_)
  obtain ⟨rfl, hI⟩ := hw
  refine lv_icmp_ge (tgt := 82) hx hb dX3_numberIslands_15 (by decide) (fun c_5 => ?_) (fun c_5 => ?_)
  · have n_6 : nb ≤ i := (nI_leI (by omega) (by omega)).mp (show nI nb ≤ nI i from c_5)
    refine W.widen (k := 0) (n := 0) (Nat.le_of_ble_eq_true rfl) (Nat.le_of_ble_eq_true rfl) ?_
    exact W.vret hx hb hr (fun t ht hW9 => ⟨⟨(u_3.1, u_3.2), rfl, ⟨_, hF, hI⟩, by rw [ht]; exact hP, va_K.moved hW9.alike hK, hD⟩, hS.F ht⟩) hS.2.2 dX3_numberIslands_82
  · have n_7 : ¬ nb ≤ i := fun h9 => (show ¬ nI nb ≤ nI i from c_5) ((nI_leI (by omega) (by omega)).mpr h9)
    refine lv_aload_n hx hb dX3_numberIslands_18 rfl (lv_at hl 0 rfl) ?_
    refine kp_get hx hb hts i_X3 hown hK hP hI hW.tx rfl rfl 0 (by decide) (by decide) (hts (.fieldLink RX3 10 "IslandSolver" "bodies" "Ljava/util/ArrayList;") (by decide +kernel)) (fun _ h9 => h9) dX3_numberIslands_19 (kq_P (v0 := .ref bl) rfl hW.p0 fun h_9 => ?_)
    refine lv_iload_n hx hb dX3_numberIslands_22 rfl (lv_at hl 1 rfl) ?_
    obtain ⟨q_10, g_11, g_12, g_13, g_14⟩ := hW.lb.at (i := i) (by omega)
    have g_15 := hW.xb (i := i) (by omega) g_13
    refine kd_callq (va_runV (As := [.int (nI i)]) (rest := []) ⟨hx, hb, hml, hown, hts⟩ (k_get7 l dC dI dA ad _ τ pv _ _ hI bl ba nb i q_10 hW.lb.1 hW.lb.2.1 hW.lb.2.2.1 g_11 g_12 (by omega) (by omega) g_13) (cwV 1 hts gX3_numberIslands_Jx4a65c_get_915e3 rfl rfl rfl (by decide +kernel) ⟨Nat.le_of_ble_eq_true rfl, Nat.le_of_ble_eq_true rfl⟩) (kd_preV hP hD hK hS hA hE hI hW.lb.1 rfl rfl) rfl rfl hl.1 rfl (lv_room (Nat.le_of_ble_eq_true rfl)) dX3_numberIslands_23 ⟨Nat.le_of_ble_eq_true rfl, Nat.le_of_ble_eq_true rfl⟩) hD hS hA (fun r_17 u_16 H locs hw hP hD hS => ?_)
    obtain ⟨rfl, hI⟩ := hw
    refine W.eq (g2 := F0 m 26 ls [.ref q_10]) rfl ?_
    refine va_castY hx hb hown (hts (.classLink RX3 94 "IslandSolver$Body") (by decide +kernel)) (kz_cast (hE.cast2 "IslandSolver$Body" "IslandSolver$Body" (by decide +kernel))) (kd_recv hK hP hI g_14 rfl rfl) dX3_numberIslands_26 ?_
    refine lv_astore_n (lv' := [(2, .ref q_10), (0, .ref x), (1, .int (nI i))]) hx hb dX3_numberIslands_29 rfl hl (by decide) rfl (fun ls hl => ?_)
    refine lv_aload_n hx hb dX3_numberIslands_30 rfl (lv_at hl 0 rfl) ?_
    refine kp_get hx hb hts i_X0 hown hK hP hI g_14 rfl rfl 1 (by decide) (by decide) (hts (.fieldLink RX3 156 "IslandSolver$Body" "movable" "Z") (by decide +kernel)) (fun _ h9 => h9) dX3_numberIslands_31 (kq_51 fun h_19 => ?_)
    refine lv_if_eq (tgt := 76) hx hb dX3_numberIslands_34 (by decide) (fun c_20 => ?_) (fun c_20 => ?_)
    · have n_21 : (τ 4 q_10) = 0 := (nI_eq (by omega) (by omega)).mp (show nI (τ 4 q_10) = nI 0 from c_20)
      refine lv_iinc (v := nI (i + 1)) (lv' := [(1, .int (nI (i + 1))), (2, .ref q_10), (0, .ref x)]) hx hb dX3_numberIslands_76 hl (k := 2) rfl (nI_add i 1) (by decide) rfl (fun ls hl => ?_)
      refine lv_goto (tgt := 7) hx hb dX3_numberIslands_79 (by decide) ?_
      have hl : lv_has ls 4 [(0, .ref x), (1, .int (nI (i + 1)))] := lv_sub hl [2, 0] rfl
      exact ih7 (pv) _ _ _ _ _ ⟨(i + 1), (c9), by omega, hI, hP, hD, hS, hl, hF, hW, hc9, by omega, by omega⟩
    · have n_22 : ¬ (τ 4 q_10) = 0 := fun h9 => (show ¬ nI (τ 4 q_10) = nI 0 from c_20) ((nI_eq (by omega) (by omega)).mpr h9)
      refine lv_aload_n hx hb dX3_numberIslands_37 rfl (lv_at hl 0 rfl) ?_
      refine kd_callq (va_runV (As := []) (rest := []) ⟨hx, hb, hml, hown, hts⟩ (k_lowest l dC dI dA ad _ τ pv _ _ hI q_10 g_14) (cwV 0 hts gX3_numberIslands_X0_lowest rfl rfl rfl (by decide +kernel) ⟨Nat.le_of_ble_eq_true rfl, Nat.le_of_ble_eq_true rfl⟩) (kd_preV hP hD hK hS hA hE hI g_14 rfl rfl) rfl rfl hl.1 rfl (lv_room (Nat.le_of_ble_eq_true rfl)) dX3_numberIslands_38 ⟨Nat.le_of_ble_eq_true rfl, Nat.le_of_ble_eq_true rfl⟩) hD hS hA (fun r_24 u_23 H locs hw hP hD hS => ?_)
      obtain ⟨q_25, rfl, hq_25, nq_25, hI⟩ := hw
      refine W.eq (g2 := F0 m 41 ls [.ref q_25]) rfl ?_
      refine lv_astore_n (lv' := [(3, .ref q_25), (2, .ref q_10), (0, .ref x), (1, .int (nI i))]) hx hb dX3_numberIslands_41 rfl hl (by decide) rfl (fun ls hl => ?_)
      refine lv_aload_n hx hb dX3_numberIslands_42 rfl (lv_at hl 0 rfl) ?_
      refine lv_aload_n hx hb dX3_numberIslands_43 rfl (lv_at hl 1 rfl) ?_
      refine W.eq (g2 := F0 m 44 ls [va_rf (some q_10), va_rf (some q_25)]) rfl ?_
      refine lv_acmp_ne (rx := (some q_25)) (ry := (some q_10)) (tgt := 68) hx hb dX3_numberIslands_44 (by decide) (fun c_26 => ?_) (fun c_26 => ?_)
      · have e_c_26 : q_25 ≠ q_10 := fun h9 => c_26 (congrArg some h9)
        refine lv_aload_n hx hb dX3_numberIslands_68 rfl (lv_at hl 1 rfl) ?_
        refine lv_aload_n hx hb dX3_numberIslands_69 rfl (lv_at hl 0 rfl) ?_
        refine kp_get hx hb hts i_X0 hown hK hP hI hq_25 rfl rfl 14 (by decide) (by decide) (hts (.fieldLink RX3 270 "IslandSolver$Body" "island" "I") (by decide +kernel)) (fun _ h9 => h9) dX3_numberIslands_70 (kq_L0 rfl fun x_27 w_29 => ?_)
        refine kp_putP (v := .int x_27) (ty := .int) hx hb hts i_X0 tyX0 tyX0_ok nmX0 hown hK hP hD hS hI g_14 rfl rfl 14 (by decide) (by decide) (hts (.fieldLink RX3 270 "IslandSolver$Body" "island" "I") (by decide +kernel)) (fun _ h9 => h9) rfl (by decide +kernel) rfl rfl rfl (kv_I _) dX3_numberIslands_73 (fun f H locs hI hP hD hS => ?_)
        have hF := hF.trans (kFr.up (P := kPk) (w := .int x_27) (k := 14) g_14 rfl)
        have hW := hW.frw (kFr.up (P := kPw) (w := .int x_27) (k := 14) g_14 rfl)
        refine lv_iinc (v := nI (i + 1)) (lv' := [(1, .int (nI (i + 1))), (3, .ref q_25), (2, .ref q_10), (0, .ref x)]) hx hb dX3_numberIslands_76 hl (k := 3) rfl (nI_add i 1) (by decide) rfl (fun ls hl => ?_)
        refine lv_goto (tgt := 7) hx hb dX3_numberIslands_79 (by decide) ?_
        have hl : lv_has ls 4 [(0, .ref x), (1, .int (nI (i + 1)))] := lv_sub hl [3, 0] rfl
        exact ih7 ((kup pv q_10 14 (.int x_27))) _ _ _ _ _ ⟨(i + 1), (c9), by omega, hI, hP, hD, hS, hl, hF, hW, ((kup_ne (Or.inr (by decide))).trans hc9), by omega, by omega⟩
      · have e_c_26 : q_25 = q_10 := Option.some.inj c_26
        refine lv_aload_n hx hb dX3_numberIslands_47 rfl (lv_at hl 1 rfl) ?_
        refine lv_aload_n hx hb dX3_numberIslands_48 rfl (lv_at hl 2 rfl) ?_
        refine kp_get hx hb hts i_X3 hown hK hP hI hW.tx rfl rfl 12 (by decide) (by decide) (hts (.fieldLink RX3 56 "IslandSolver" "islandCount" "I") (by decide +kernel)) (fun _ h9 => h9) dX3_numberIslands_49 (kq_P (v0 := .int (nI c9)) rfl hc9 fun h_31 => ?_)
        refine kp_putP (v := .int (nI c9)) (ty := .int) hx hb hts i_X0 tyX0 tyX0_ok nmX0 hown hK hP hD hS hI g_14 rfl rfl 14 (by decide) (by decide) (hts (.fieldLink RX3 270 "IslandSolver$Body" "island" "I") (by decide +kernel)) (fun _ h9 => h9) rfl (by decide +kernel) rfl rfl rfl (kv_I _) dX3_numberIslands_52 (fun f H locs hI hP hD hS => ?_)
        have hF := hF.trans (kFr.up (P := kPk) (w := .int (nI c9)) (k := 14) g_14 rfl)
        have hW := hW.frw (kFr.up (P := kPw) (w := .int (nI c9)) (k := 14) g_14 rfl)
        refine lv_aload_n hx hb dX3_numberIslands_55 rfl (lv_at hl 2 rfl) ?_
        refine lv_dup hx hb dX3_numberIslands_56 rfl ?_
        refine kp_get hx hb hts i_X3 hown hK hP hI hW.tx rfl rfl 12 (by decide) (by decide) (hts (.fieldLink RX3 56 "IslandSolver" "islandCount" "I") (by decide +kernel)) (fun _ h9 => h9) dX3_numberIslands_57 (kq_P (v0 := .int (nI c9)) rfl ((kup_ne (Or.inr (by decide))).trans hc9) fun h_33 => ?_)
        refine lv_iconst (v := 1) hx hb dX3_numberIslands_60 (by decide) ?_
        refine lv_iadd hx hb dX3_numberIslands_61 ?_
        refine lv_topi (nm_r (show (nI c9) + 1 = nI (c9 + 1) from nI_add c9 1) ?_)
        refine kp_putP (v := .int (nI (c9 + 1))) (ty := .int) hx hb hts i_X3 tyX3 tyX3_ok nmX3 hown hK hP hD hS hI hW.tx rfl rfl 12 (by decide) (by decide) (hts (.fieldLink RX3 56 "IslandSolver" "islandCount" "I") (by decide +kernel)) (fun _ h9 => h9) rfl (by decide +kernel) rfl rfl rfl (kv_S (by decide) ⟨c9 + 1, rfl, by omega⟩) dX3_numberIslands_62 (fun f H locs hI hP hD hS => ?_)
        have hF := hF.trans (kFr.up (P := kPk) (w := .int (nI (c9 + 1))) (k := 12) hW.tx rfl)
        have hW := hW.frw (kFr.up (P := kPw) (w := .int (nI (c9 + 1))) (k := 12) hW.tx rfl)
        refine lv_goto (tgt := 76) hx hb dX3_numberIslands_65 (by decide) ?_
        refine lv_iinc (v := nI (i + 1)) (lv' := [(1, .int (nI (i + 1))), (3, .ref q_25), (2, .ref q_10), (0, .ref x)]) hx hb dX3_numberIslands_76 hl (k := 3) rfl (nI_add i 1) (by decide) rfl (fun ls hl => ?_)
        refine lv_goto (tgt := 7) hx hb dX3_numberIslands_79 (by decide) ?_
        have hl : lv_has ls 4 [(0, .ref x), (1, .int (nI (i + 1)))] := lv_sub hl [3, 0] rfl
        exact ih7 ((kup (kup pv q_10 14 (.int (nI c9))) x 12 (.int (nI (c9 + 1))))) _ _ _ _ _ ⟨(i + 1), (c9 + 1), by omega, hI, hP, hD, hS, hl, hF, hW, kup_self, by omega, by omega⟩
set_option maxHeartbeats 4000000 in
set_option maxRecDepth 100000 in
theorem k_measureRows (l : Launch) (dC : Nat → ClassId) (dI : Nat → Nat → Nat) (dA : Nat → ClassId) (ad sz : Nat) (τ : Nat → Nat → Nat) (pv0 : Nat → Nat → Value) (L : List Nat) (f : Nat → va_E) (hI : kI dA τ pv0 L f) (x bl rl kl ba ra ka fr nb nr nk : Nat) (hW : kW τ pv0 ad x bl rl kl ba ra ka fr nb nr nk)  : Met l yX3_measureRows wsX3_measureRows ({ frames := 3, cells := 0, slots := 0, locals := 68 } : Room) (va_Pc [.ref x] (kB dC dI dA ad sz L f)) (va_Qv (fun u => ∃ pv2, kFr kPk τ pv0 τ pv2 ∧ kMs pv2 ra nr ∧ kI dA τ pv2 u.1 u.2) (kR dC dI dA (va_A (va_pl L f) sz)) (va_A (va_pl L f) sz)) 0 0 (va_A (va_pl L f) sz) := by
  refine Met.ofW (cc := cX3_measureRows) (maxL := 2) (ret := none) (by decide) rfl ?_
  intro p e s m args below meth c s₁ B hml hv
  obtain ⟨rfl, hsz, hP, hK, hD0, hE⟩ := hv
  have hx := B.exec
  have hb := B.bytes
  have hr := B.returns
  have hts := atoms_spec (ws := wsX3_measureRows) B.pre
  have hown : s.vm.findClass RX3 = some m.cls := findClass_of_methodNamed B.named
  have hlocks := B.notSynchronized
  have i_X3 : ∀ w ∈ u_ws RX3 TX3 16, w ∈ wsX3_measureRows := by decide +kernel
  subst hsz
  have hD := hD0.self (sz := s.heap.size)
  generalize hAe : va_A (va_pl L f) s.heap.size = A at hD hE ⊢
  have hA : ∀ q : Nat, s.heap.size ≤ q → A q := fun q h => by rw [← hAe]; exact Or.inr h
  have hS : va_S A s.heap s.heap [] := va_S.rf
  have hP : va_P (dC, dI) vwCl (va_pl L f) s.heap := hP
  have hK : va_K (dC, dI) vwCl (tyA dA) s := hK
  have hl := lv_entry ([.ref x]) (n := 2) (Nat.le_of_ble_eq_true rfl)
  rw [lg_entry_eq]
  generalize (lg_sl ([.ref x]) ++ List.replicate (2 - (lg_sl ([.ref x])).length) Slot.unset).toArray = ls at hl ⊢
  have hl : lv_has ls 2 [(0, .ref x)] := hl
  have hnb := hW.lnb
  have hnr := hW.lnr
  have hnk := hW.lnk
  have hF : kFr kPk τ pv0 τ pv0 := kFr.rf
  refine lv_iconst (v := 0) hx hb dX3_measureRows_0 (by decide) ?_
  refine lv_istore_n (lv' := [(1, .int 0), (0, .ref x)]) hx hb dX3_measureRows_1 rfl hl (by decide) rfl (fun ls hl => ?_)
  have hl : lv_has ls 2 [(0, .ref x), (1, .int 0)] := lv_sub hl [1, 0] rfl
  refine kl_loop (Inv := fun n2 pv L f H locs ls => ∃ (i : Nat), nr - i < n2 ∧ kI dA τ pv L f ∧ va_P (dC, dI) vwCl (va_pl L f) H ∧ va_D A (va_pl L f) ∧ va_S A s.heap H locs ∧ lv_has ls 2 [(0, .ref x), (1, .int (nI i))] ∧ kFr kPk τ pv0 τ pv ∧ kW τ pv ad x bl rl kl ba ra ka fr nb nr nk ∧ (∀ j9 q9, j9 < i → pv ra j9 = .ref q9 → kMz pv q9) ∧ i ≤ nr) (fun _ _ _ _ _ _ h9 => by obtain ⟨_, hn, _⟩ := h9; exact Nat.not_lt_zero _ hn) (fun n2 ih2 pv L f H locs ls h9 => ?_) (nr - 0 + 1) (pv0) _ _ _ _ _ ⟨0, Nat.lt_succ_self _, hI, hP, hD, hS, hl, hF, hW, fun j9 q9 h8 _ => absurd h8 (Nat.not_lt_zero _), Nat.zero_le _⟩
  obtain ⟨i, hn2, hI, hP, hD, hS, hl, hF, hW, hM, hib⟩ := h9
  refine lv_iload_n hx hb dX3_measureRows_2 rfl (lv_at hl 1 rfl) ?_
  refine lv_aload_n hx hb dX3_measureRows_3 rfl (lv_at hl 0 rfl) ?_
  refine kp_get hx hb hts i_X3 hown hK hP hI hW.tx rfl rfl 1 (by decide) (by decide) (hts (.fieldLink RX3 16 "IslandSolver" "rows" "Ljava/util/ArrayList;") (by decide +kernel)) (fun _ h9 => h9) dX3_measureRows_4 (kq_P (v0 := .ref rl) rfl hW.p1 fun h_2 => ?_)
  refine kd_calli (va_runV (As := []) (rest := [.int (nI i)]) ⟨hx, hb, hml, hown, hts⟩ (k_size8 l dC dI dA ad _ τ pv _ _ hI rl nr hW.lr.1 hW.lr.2.2.1) (cwV 0 hts gX3_measureRows_Jx4a65c_size_8abf5 rfl rfl rfl (by decide +kernel) ⟨Nat.le_of_ble_eq_true rfl, Nat.le_of_ble_eq_true rfl⟩) (kd_preV hP hD hK hS hA hE hI hW.lr.1 rfl rfl) rfl rfl hl.1 rfl (lv_room (Nat.le_of_ble_eq_true rfl)) dX3_measureRows_7 ⟨Nat.le_of_ble_eq_true rfl, Nat.le_of_ble_eq_true rfl⟩) hD hS hA (fun r_4 u_3 H locs hw hP hD hS => ?_)
  obtain ⟨rfl, hI⟩ := hw
  refine lv_icmp_ge (tgt := 33) hx hb dX3_measureRows_10 (by decide) (fun c_5 => ?_) (fun c_5 => ?_)
  · have n_6 : nr ≤ i := (nI_leI (by omega) (by omega)).mp (show nI nr ≤ nI i from c_5)
    refine W.widen (k := 0) (n := 0) (Nat.le_of_ble_eq_true rfl) (Nat.le_of_ble_eq_true rfl) ?_
    exact W.vret hx hb hr (fun t ht hW9 => ⟨⟨(u_3.1, u_3.2), rfl, ⟨_, hF, fun j9 q9 h8 h9 => hM j9 q9 (by omega) h9, hI⟩, by rw [ht]; exact hP, va_K.moved hW9.alike hK, hD⟩, hS.F ht⟩) hS.2.2 dX3_measureRows_33
  · have n_7 : ¬ nr ≤ i := fun h9 => (show ¬ nI nr ≤ nI i from c_5) ((nI_leI (by omega) (by omega)).mpr h9)
    refine lv_aload_n hx hb dX3_measureRows_13 rfl (lv_at hl 0 rfl) ?_
    refine kp_get hx hb hts i_X3 hown hK hP hI hW.tx rfl rfl 1 (by decide) (by decide) (hts (.fieldLink RX3 16 "IslandSolver" "rows" "Ljava/util/ArrayList;") (by decide +kernel)) (fun _ h9 => h9) dX3_measureRows_14 (kq_P (v0 := .ref rl) rfl hW.p1 fun h_9 => ?_)
    refine lv_iload_n hx hb dX3_measureRows_17 rfl (lv_at hl 1 rfl) ?_
    obtain ⟨q_10, g_11, g_12, g_13, g_14⟩ := hW.lr.at (i := i) (by omega)
    have g_15 := (hW.xr (i := i) (by omega) g_13).1
    refine kd_callq (va_runV (As := [.int (nI i)]) (rest := []) ⟨hx, hb, hml, hown, hts⟩ (k_get8 l dC dI dA ad _ τ pv _ _ hI rl ra nr i q_10 hW.lr.1 hW.lr.2.1 hW.lr.2.2.1 g_11 g_12 (by omega) (by omega) g_13) (cwV 1 hts gX3_measureRows_Jx4a65c_get_915e3 rfl rfl rfl (by decide +kernel) ⟨Nat.le_of_ble_eq_true rfl, Nat.le_of_ble_eq_true rfl⟩) (kd_preV hP hD hK hS hA hE hI hW.lr.1 rfl rfl) rfl rfl hl.1 rfl (lv_room (Nat.le_of_ble_eq_true rfl)) dX3_measureRows_18 ⟨Nat.le_of_ble_eq_true rfl, Nat.le_of_ble_eq_true rfl⟩) hD hS hA (fun r_17 u_16 H locs hw hP hD hS => ?_)
    obtain ⟨rfl, hI⟩ := hw
    refine W.eq (g2 := F0 m 21 ls [.ref q_10]) rfl ?_
    refine va_castY hx hb hown (hts (.classLink RX3 67 "IslandSolver$Row") (by decide +kernel)) (kz_cast (hE.cast2 "IslandSolver$Row" "IslandSolver$Row" (by decide +kernel))) (kd_recv hK hP hI g_14 rfl rfl) dX3_measureRows_21 ?_
    refine kd_callv (va_runV (As := []) (rest := []) ⟨hx, hb, hml, hown, hts⟩ (k_measure l dC dI dA ad _ τ pv _ _ hI q_10 g_14) (cwV 0 hts gX3_measureRows_X1_measure rfl rfl rfl (by decide +kernel) ⟨Nat.le_of_ble_eq_true rfl, Nat.le_of_ble_eq_true rfl⟩) (kd_preV hP hD hK hS hA hE hI g_14 rfl rfl) rfl rfl hl.1 rfl (lv_room (Nat.le_of_ble_eq_true rfl)) dX3_measureRows_24 ⟨Nat.le_of_ble_eq_true rfl, Nat.le_of_ble_eq_true rfl⟩) hD hS hA (fun u_18 H locs hw hP hD hS => ?_)
    obtain ⟨sx_19, sd_20, hm_21, hI⟩ := hw
    have hF := hF.trans (kFr.ms (P := kPk) (x := .float sx_19) (d := .int sd_20) g_14 rfl rfl)
    have hM : ∀ j9 q9, j9 < i + 1 → (kup (kup pv q_10 13 (.float sx_19)) q_10 14 (.int sd_20)) ra j9 = .ref q9 → kMz (kup (kup pv q_10 13 (.float sx_19)) q_10 14 (.int sd_20)) q9 := by
      intro j9 q9 hj9 hq9
      refine kMz.up hm_21 (fun hne => ?_)
      have t9 : τ 0 ra = 10 := (hW.row (by omega) g_13).2
      have e9 : pv ra j9 = .ref q9 := ((kFr.ms (P := kPk) (x := .float sx_19) (d := .int sd_20) g_14 rfl rfl).pn t9 rfl).symm.trans hq9
      rcases Nat.lt_or_ge j9 i with h9 | h9
      · exact hM j9 q9 h9 e9
      · have h8 : j9 = i := by omega
        rw [h8] at e9
        cases g_13.symm.trans e9
        exact absurd rfl hne
    have hW := hW.frk (kFr.ms (P := kPk) (x := .float sx_19) (d := .int sd_20) g_14 rfl rfl)
    refine lv_iinc (v := nI (i + 1)) (lv' := [(1, .int (nI (i + 1))), (0, .ref x)]) hx hb dX3_measureRows_27 hl (k := 1) rfl (nI_add i 1) (by decide) rfl (fun ls hl => ?_)
    refine lv_goto (tgt := 2) hx hb dX3_measureRows_30 (by decide) ?_
    have hl : lv_has ls 2 [(0, .ref x), (1, .int (nI (i + 1)))] := lv_sub hl [1, 0] rfl
    exact ih2 ((kup (kup pv q_10 13 (.float sx_19)) q_10 14 (.int sd_20))) _ _ _ _ _ ⟨(i + 1), by omega, hI, hP, hD, hS, hl, hF, hW, hM, by omega⟩
set_option maxHeartbeats 4000000 in
set_option maxRecDepth 100000 in
theorem k_deadRows (l : Launch) (dC : Nat → ClassId) (dI : Nat → Nat → Nat) (dA : Nat → ClassId) (ad sz : Nat) (τ : Nat → Nat → Nat) (pv0 : Nat → Nat → Value) (L : List Nat) (f : Nat → va_E) (hI : kI dA τ pv0 L f) (x bl rl kl ba ra ka fr nb nr nk : Nat) (hW : kW τ pv0 ad x bl rl kl ba ra ka fr nb nr nk)  : Met l yX3_deadRows wsX3_deadRows ({ frames := 4, cells := 0, slots := 0, locals := 89 } : Room) (va_Pc [.ref x] (kB dC dI dA ad sz L f)) (va_Qi (fun r u => ∃ pv2, kFr kPk τ pv0 τ pv2 ∧ kI dA τ pv2 u.1 u.2) (kR dC dI dA (va_A (va_pl L f) sz)) (va_A (va_pl L f) sz)) 0 0 (va_A (va_pl L f) sz) := by
  refine Met.ofW (cc := cX3_deadRows) (maxL := 3) (ret := (some .int)) (by decide) rfl ?_
  intro p e s m args below meth c s₁ B hml hv
  obtain ⟨rfl, hsz, hP, hK, hD0, hE⟩ := hv
  have hx := B.exec
  have hb := B.bytes
  have hr := B.returns
  have hts := atoms_spec (ws := wsX3_deadRows) B.pre
  have hown : s.vm.findClass RX3 = some m.cls := findClass_of_methodNamed B.named
  have hlocks := B.notSynchronized
  have i_X3 : ∀ w ∈ u_ws RX3 TX3 16, w ∈ wsX3_deadRows := by decide +kernel
  have i_X1 : ∀ w ∈ u_ws RX1 TX1 18, w ∈ wsX3_deadRows := by decide +kernel
  subst hsz
  have hD := hD0.self (sz := s.heap.size)
  generalize hAe : va_A (va_pl L f) s.heap.size = A at hD hE ⊢
  have hA : ∀ q : Nat, s.heap.size ≤ q → A q := fun q h => by rw [← hAe]; exact Or.inr h
  have hS : va_S A s.heap s.heap [] := va_S.rf
  have hP : va_P (dC, dI) vwCl (va_pl L f) s.heap := hP
  have hK : va_K (dC, dI) vwCl (tyA dA) s := hK
  have hl := lv_entry ([.ref x]) (n := 3) (Nat.le_of_ble_eq_true rfl)
  rw [lg_entry_eq]
  generalize (lg_sl ([.ref x]) ++ List.replicate (3 - (lg_sl ([.ref x])).length) Slot.unset).toArray = ls at hl ⊢
  have hl : lv_has ls 3 [(0, .ref x)] := hl
  have hnb := hW.lnb
  have hnr := hW.lnr
  have hnk := hW.lnk
  have hF : kFr kPk τ pv0 τ pv0 := kFr.rf
  refine lv_aload_n hx hb dX3_deadRows_0 rfl (lv_at hl 0 rfl) ?_
  refine kd_callv (va_runV (As := []) (rest := []) ⟨hx, hb, hml, hown, hts⟩ (k_measureRows l dC dI dA ad _ τ pv0 _ _ hI x bl rl kl ba ra ka fr nb nr nk hW ) (cwV 0 hts gX3_deadRows_X3_measureRows rfl rfl rfl (by decide +kernel) ⟨Nat.le_of_ble_eq_true rfl, Nat.le_of_ble_eq_true rfl⟩) (kd_preV hP hD hK hS hA hE hI hW.tx rfl rfl) rfl rfl hl.1 rfl (lv_room (Nat.le_of_ble_eq_true rfl)) dX3_deadRows_1 ⟨Nat.le_of_ble_eq_true rfl, Nat.le_of_ble_eq_true rfl⟩) hD hS hA (fun u_1 H locs hw hP hD hS => ?_)
  obtain ⟨pv, hF9, hM, hI⟩ := hw
  have hF := hF.trans (hF9)
  have hW := hW.frk hF9
  refine lv_iconst (v := 0) hx hb dX3_deadRows_4 (by decide) ?_
  refine lv_istore_n (lv' := [(1, .int 0), (0, .ref x)]) hx hb dX3_deadRows_5 rfl hl (by decide) rfl (fun ls hl => ?_)
  refine lv_iconst (v := 0) hx hb dX3_deadRows_6 (by decide) ?_
  refine lv_istore_n (lv' := [(2, .int 0), (1, .int 0), (0, .ref x)]) hx hb dX3_deadRows_7 rfl hl (by decide) rfl (fun ls hl => ?_)
  have hl : lv_has ls 3 [(0, .ref x), (1, .int 0), (2, .int 0)] := lv_sub hl [2, 1, 0] rfl
  refine kl_loop (Inv := fun n8 _ L f H locs ls => ∃ (i : Nat) (c9 : Int32), nr - i < n8 ∧ kI dA τ pv L f ∧ va_P (dC, dI) vwCl (va_pl L f) H ∧ va_D A (va_pl L f) ∧ va_S A s.heap H locs ∧ lv_has ls 3 [(0, .ref x), (1, .int c9), (2, .int (nI i))] ∧ i ≤ nr) (fun _ _ _ _ _ _ h9 => by obtain ⟨_, _, hn, _⟩ := h9; exact Nat.not_lt_zero _ hn) (fun n8 ih8 _ L f H locs ls h9 => ?_) (nr - 0 + 1) (fun _ _ => .null) _ _ _ _ _ ⟨0, 0, Nat.lt_succ_self _, hI, hP, hD, hS, hl, Nat.zero_le _⟩
  obtain ⟨i, c9, hn8, hI, hP, hD, hS, hl, hib⟩ := h9
  refine lv_iload_n hx hb dX3_deadRows_8 rfl (lv_at hl 2 rfl) ?_
  refine lv_aload_n hx hb dX3_deadRows_9 rfl (lv_at hl 0 rfl) ?_
  refine kp_get hx hb hts i_X3 hown hK hP hI hW.tx rfl rfl 1 (by decide) (by decide) (hts (.fieldLink RX3 16 "IslandSolver" "rows" "Ljava/util/ArrayList;") (by decide +kernel)) (fun _ h9 => h9) dX3_deadRows_10 (kq_P (v0 := .ref rl) rfl hW.p1 fun h_3 => ?_)
  refine kd_calli (va_runV (As := []) (rest := [.int (nI i)]) ⟨hx, hb, hml, hown, hts⟩ (k_size8 l dC dI dA ad _ τ pv _ _ hI rl nr hW.lr.1 hW.lr.2.2.1) (cwV 0 hts gX3_deadRows_Jx4a65c_size_8abf5 rfl rfl rfl (by decide +kernel) ⟨Nat.le_of_ble_eq_true rfl, Nat.le_of_ble_eq_true rfl⟩) (kd_preV hP hD hK hS hA hE hI hW.lr.1 rfl rfl) rfl rfl hl.1 rfl (lv_room (Nat.le_of_ble_eq_true rfl)) dX3_deadRows_13 ⟨Nat.le_of_ble_eq_true rfl, Nat.le_of_ble_eq_true rfl⟩) hD hS hA (fun r_5 u_4 H locs hw hP hD hS => ?_)
  obtain ⟨rfl, hI⟩ := hw
  refine lv_icmp_ge (tgt := 45) hx hb dX3_deadRows_16 (by decide) (fun c_6 => ?_) (fun c_6 => ?_)
  · have n_7 : nr ≤ i := (nI_leI (by omega) (by omega)).mp (show nI nr ≤ nI i from c_6)
    refine lv_iload_n hx hb dX3_deadRows_45 rfl (lv_at hl 1 rfl) ?_
    refine W.widen (k := 0) (n := 0) (Nat.le_of_ble_eq_true rfl) (Nat.le_of_ble_eq_true rfl) ?_
    exact W.iret (v := c9) hx hb hr (fun t ht hW9 => ⟨⟨c9, (u_4.1, u_4.2), rfl, ⟨_, hF, hI⟩, by rw [ht]; exact hP, va_K.moved hW9.alike hK, hD⟩, hS.F ht⟩) hS.2.2 dX3_deadRows_46
  · have n_8 : ¬ nr ≤ i := fun h9 => (show ¬ nI nr ≤ nI i from c_6) ((nI_leI (by omega) (by omega)).mpr h9)
    refine lv_aload_n hx hb dX3_deadRows_19 rfl (lv_at hl 0 rfl) ?_
    refine kp_get hx hb hts i_X3 hown hK hP hI hW.tx rfl rfl 1 (by decide) (by decide) (hts (.fieldLink RX3 16 "IslandSolver" "rows" "Ljava/util/ArrayList;") (by decide +kernel)) (fun _ h9 => h9) dX3_deadRows_20 (kq_P (v0 := .ref rl) rfl hW.p1 fun h_10 => ?_)
    refine lv_iload_n hx hb dX3_deadRows_23 rfl (lv_at hl 2 rfl) ?_
    obtain ⟨q_11, g_12, g_13, g_14, g_15⟩ := hW.lr.at (i := i) (by omega)
    have g_16 := (hW.xr (i := i) (by omega) g_14).1
    refine kd_callq (va_runV (As := [.int (nI i)]) (rest := []) ⟨hx, hb, hml, hown, hts⟩ (k_get8 l dC dI dA ad _ τ pv _ _ hI rl ra nr i q_11 hW.lr.1 hW.lr.2.1 hW.lr.2.2.1 g_12 g_13 (by omega) (by omega) g_14) (cwV 1 hts gX3_deadRows_Jx4a65c_get_915e3 rfl rfl rfl (by decide +kernel) ⟨Nat.le_of_ble_eq_true rfl, Nat.le_of_ble_eq_true rfl⟩) (kd_preV hP hD hK hS hA hE hI hW.lr.1 rfl rfl) rfl rfl hl.1 rfl (lv_room (Nat.le_of_ble_eq_true rfl)) dX3_deadRows_24 ⟨Nat.le_of_ble_eq_true rfl, Nat.le_of_ble_eq_true rfl⟩) hD hS hA (fun r_18 u_17 H locs hw hP hD hS => ?_)
    obtain ⟨rfl, hI⟩ := hw
    refine W.eq (g2 := F0 m 27 ls [.ref q_11]) rfl ?_
    refine va_castY hx hb hown (hts (.classLink RX3 67 "IslandSolver$Row") (by decide +kernel)) (kz_cast (hE.cast2 "IslandSolver$Row" "IslandSolver$Row" (by decide +kernel))) (kd_recv hK hP hI g_15 rfl rfl) dX3_deadRows_27 ?_
    refine kp_get hx hb hts i_X1 hown hK hP hI g_15 rfl rfl 14 (by decide) (by decide) (hts (.fieldLink RX3 341 "IslandSolver$Row" "dead" "Z") (by decide +kernel)) (fun _ h9 => h9) dX3_deadRows_30 (kq_L1 rfl fun x_19 w_21 h_20 => ?_)
    refine lv_if_eq (tgt := 39) hx hb dX3_deadRows_33 (by decide) (fun c_22 => ?_) (fun c_22 => ?_)
    · subst c_22
      refine lv_iinc (v := nI (i + 1)) (lv' := [(2, .int (nI (i + 1))), (0, .ref x), (1, .int c9)]) hx hb dX3_deadRows_39 hl (k := 2) rfl (nI_add i 1) (by decide) rfl (fun ls hl => ?_)
      refine lv_goto (tgt := 8) hx hb dX3_deadRows_42 (by decide) ?_
      have hl : lv_has ls 3 [(0, .ref x), (1, .int c9), (2, .int (nI (i + 1)))] := lv_sub hl [1, 2, 0] rfl
      exact ih8 (fun _ _ => .null) _ _ _ _ _ ⟨(i + 1), c9, by omega, hI, hP, hD, hS, hl, by omega⟩
    · obtain rfl : x_19 = 1 := (h_20).resolve_left c_22
      refine lv_iinc (v := (c9 + 1)) (lv' := [(1, .int (c9 + 1)), (0, .ref x), (2, .int (nI i))]) hx hb dX3_deadRows_36 hl (k := 1) rfl rfl (by decide) rfl (fun ls hl => ?_)
      refine lv_iinc (v := nI (i + 1)) (lv' := [(2, .int (nI (i + 1))), (1, .int (c9 + 1)), (0, .ref x)]) hx hb dX3_deadRows_39 hl (k := 2) rfl (nI_add i 1) (by decide) rfl (fun ls hl => ?_)
      refine lv_goto (tgt := 8) hx hb dX3_deadRows_42 (by decide) ?_
      have hl : lv_has ls 3 [(0, .ref x), (1, .int (c9 + 1)), (2, .int (nI (i + 1)))] := lv_sub hl [2, 1, 0] rfl
      exact ih8 (fun _ _ => .null) _ _ _ _ _ ⟨(i + 1), (c9 + 1), by omega, hI, hP, hD, hS, hl, by omega⟩
