set_option maxHeartbeats 4000000 in
set_option maxRecDepth 100000 in
theorem k_stepOnce (l : Launch) (dC : Nat → ClassId) (dI : Nat → Nat → Nat) (dA : Nat → ClassId) (ad sz : Nat) (τ : Nat → Nat → Nat) (pv0 : Nat → Nat → Value) (L : List Nat) (f : Nat → va_E) (hI : kI dA τ pv0 L f) (x bl rl kl ba ra ka fr nb nr nk : Nat) (hW : kW τ pv0 ad x bl rl kl ba ra ka fr nb nr nk) (hM : kMs pv0 ra nr) : Met l yX3_stepOnce wsX3_stepOnce ({ frames := 4, cells := 0, slots := 0, locals := 89 } : Room) (va_Pc [.ref x] (kB dC dI dA ad sz L f)) (va_Qv (fun u => ∃ pv2, kFr kPd τ pv0 τ pv2 ∧ kW τ pv2 ad x bl rl kl ba ra ka fr nb nr nk ∧ kMs pv2 ra nr ∧ kI dA τ pv2 u.1 u.2) (kR dC dI dA (va_A (va_pl L f) sz)) (va_A (va_pl L f) sz)) 0 0 (va_A (va_pl L f) sz) := by
  refine Met.ofW (cc := cX3_stepOnce) (maxL := 2) (ret := none) (by decide) rfl ?_
  intro p e s m args below meth c s₁ B hml hv
  obtain ⟨rfl, hsz, hP, hK, hD0, hE⟩ := hv
  have hx := B.exec
  have hb := B.bytes
  have hr := B.returns
  have hts := atoms_spec (ws := wsX3_stepOnce) B.pre
  have hown : s.vm.findClass RX3 = some m.cls := findClass_of_methodNamed B.named
  have hlocks := B.notSynchronized
  have i_X3 : ∀ w ∈ u_ws RX3 TX3 16, w ∈ wsX3_stepOnce := by decide +kernel
  subst hsz
  have hD := hD0.self (sz := s.heap.size)
  generalize hAe : va_A (va_pl L f) s.heap.size = A at hD hE ⊢
  have hA : ∀ q : Nat, s.heap.size ≤ q → A q := fun q h => by rw [← hAe]; exact Or.inr h
  have hS : va_S A s.heap s.heap [] := va_S.rf
  have hP : va_P (dC, dI) vwCl (va_pl L f) s.heap := hP
  have hK : va_K (dC, dI) vwCl (tyA dA) s := hK
  have hl := lv_entry ([.ref x]) (n := 2) (Nat.le_of_ble_eq_true rfl)
  rw [lg_entry_eq]
  generalize (lg_sl ([.ref x]) ++ List.replicate (2 - (lg_sl ([.ref x])).length) Slot.unset).toArray = ls at hl ⊢
  have hl : lv_has ls 2 [(0, .ref x)] := hl
  have hnb := hW.lnb
  have hnr := hW.lnr
  have hnk := hW.lnk
  have hF : kFr kPd τ pv0 τ pv0 := kFr.rf
  refine lv_aload_n hx hb dX3_stepOnce_0 rfl (lv_at hl 0 rfl) ?_
  refine kd_callv (va_runV (As := []) (rest := []) ⟨hx, hb, hml, hown, hts⟩ (k_markAwake l dC dI dA ad _ τ pv0 _ _ hI x bl rl kl ba ra ka fr nb nr nk hW ) (cwV 0 hts gX3_stepOnce_X3_markAwake rfl rfl rfl (by decide +kernel) ⟨Nat.le_of_ble_eq_true rfl, Nat.le_of_ble_eq_true rfl⟩) (kd_preV hP hD hK hS hA hE hI hW.tx rfl rfl) rfl rfl hl.1 rfl (lv_room (Nat.le_of_ble_eq_true rfl)) dX3_stepOnce_1 ⟨Nat.le_of_ble_eq_true rfl, Nat.le_of_ble_eq_true rfl⟩) hD hS hA (fun u_1 H locs hw hP hD hS => ?_)
  have hI := hw
  refine lv_aload_n hx hb dX3_stepOnce_4 rfl (lv_at hl 0 rfl) ?_
  refine kd_callv (va_runV (As := []) (rest := []) ⟨hx, hb, hml, hown, hts⟩ (k_rouseAwake l dC dI dA ad _ τ pv0 _ _ hI x bl rl kl ba ra ka fr nb nr nk hW ) (cwV 0 hts gX3_stepOnce_X3_rouseAwakeIslands rfl rfl rfl (by decide +kernel) ⟨Nat.le_of_ble_eq_true rfl, Nat.le_of_ble_eq_true rfl⟩) (kd_preV hP hD hK hS hA hE hI hW.tx rfl rfl) rfl rfl hl.1 rfl (lv_room (Nat.le_of_ble_eq_true rfl)) dX3_stepOnce_5 ⟨Nat.le_of_ble_eq_true rfl, Nat.le_of_ble_eq_true rfl⟩) hD hS hA (fun u_2 H locs hw hP hD hS => ?_)
  have hI := hw
  refine lv_aload_n hx hb dX3_stepOnce_8 rfl (lv_at hl 0 rfl) ?_
  refine kd_callv (va_runV (As := []) (rest := []) ⟨hx, hb, hml, hown, hts⟩ (k_dealIsl l dC dI dA ad _ τ pv0 _ _ hI x bl rl kl ba ra ka fr nb nr nk hW ) (cwV 0 hts gX3_stepOnce_X3_dealOutIslands rfl rfl rfl (by decide +kernel) ⟨Nat.le_of_ble_eq_true rfl, Nat.le_of_ble_eq_true rfl⟩) (kd_preV hP hD hK hS hA hE hI hW.tx rfl rfl) rfl rfl hl.1 rfl (lv_room (Nat.le_of_ble_eq_true rfl)) dX3_stepOnce_9 ⟨Nat.le_of_ble_eq_true rfl, Nat.le_of_ble_eq_true rfl⟩) hD hS hA (fun u_3 H locs hw hP hD hS => ?_)
  have hI := hw
  refine lv_aload_n hx hb dX3_stepOnce_12 rfl (lv_at hl 0 rfl) ?_
  refine kd_callv (va_runV (As := []) (rest := []) ⟨hx, hb, hml, hown, hts⟩ (k_dealRows l dC dI dA ad _ τ pv0 _ _ hI x bl rl kl ba ra ka fr nb nr nk hW ) (cwV 0 hts gX3_stepOnce_X3_dealOutRows rfl rfl rfl (by decide +kernel) ⟨Nat.le_of_ble_eq_true rfl, Nat.le_of_ble_eq_true rfl⟩) (kd_preV hP hD hK hS hA hE hI hW.tx rfl rfl) rfl rfl hl.1 rfl (lv_room (Nat.le_of_ble_eq_true rfl)) dX3_stepOnce_13 ⟨Nat.le_of_ble_eq_true rfl, Nat.le_of_ble_eq_true rfl⟩) hD hS hA (fun u_4 H locs hw hP hD hS => ?_)
  have hW0 := hW
  obtain ⟨pv, hF9, hW, hN, hI⟩ := hw
  have hF := hF.trans (hF9)
  have hM := hM.fr hW0 hF9
  refine lv_aload_n hx hb dX3_stepOnce_16 rfl (lv_at hl 0 rfl) ?_
  refine kp_get hx hb hts i_X3 hown hK hP hI hW.tx rfl rfl 10 (by decide) (by decide) (hts (.fieldLink RX3 50 "IslandSolver" "workerCount" "I") (by decide +kernel)) (fun _ h9 => h9) dX3_stepOnce_17 (kq_L5 rfl fun x_5 w_7 h_6 h_6_2 => ?_)
  refine lv_iconst (v := 1) hx hb dX3_stepOnce_20 (by decide) ?_
  refine lv_isub hx hb dX3_stepOnce_21 ?_
  refine lv_topi (nm_r (show nI x_5 - 1 = kmi x_5 from kmi_sub x_5) ?_)
  refine lv_istore_n (lv' := [(1, .int (kmi x_5)), (0, .ref x)]) hx hb dX3_stepOnce_22 rfl hl (by decide) rfl (fun ls hl => ?_)
  have hl : lv_has ls 2 [(0, .ref x), (1, .int (kmi x_5))] := lv_sub hl [1, 0] rfl
  refine kl_loop (Inv := fun n23 _ L f H locs ls => ∃ (k9 : Nat), k9 < n23 ∧ kI dA τ pv L f ∧ va_P (dC, dI) vwCl (va_pl L f) H ∧ va_D A (va_pl L f) ∧ va_S A s.heap H locs ∧ lv_has ls 2 [(0, .ref x), (1, .int (kmi k9))] ∧ k9 ≤ 8) (fun _ _ _ _ _ _ h9 => by obtain ⟨_, hn, _⟩ := h9; exact Nat.not_lt_zero _ hn) (fun n23 ih23 _ L f H locs ls h9 => ?_) (x_5 + 1) (fun _ _ => .null) _ _ _ _ _ ⟨x_5, Nat.lt_succ_self _, hI, hP, hD, hS, hl, by omega⟩
  obtain ⟨k9, hn23, hI, hP, hD, hS, hl, hk9⟩ := h9
  rcases k9 with _ | j
  · have hl : lv_has ls 2 [(0, .ref x), (1, .int (-1))] := hl
    refine lv_iload_n hx hb dX3_stepOnce_23 rfl (lv_at hl 1 rfl) ?_
    refine lv_if_lt (tgt := 38) hx hb dX3_stepOnce_24 (by decide) (fun _ => ?_) (fun h9 => by first | exact absurd h9 (by decide) | exact absurd (by decide) h9)
    refine lv_aload_n hx hb dX3_stepOnce_38 rfl (lv_at hl 0 rfl) ?_
    refine kd_callv (va_runV (As := []) (rest := []) ⟨hx, hb, hml, hown, hts⟩ (k_settleBodies l dC dI dA ad _ τ pv _ _ hI x bl rl kl ba ra ka fr nb nr nk hW ) (cwV 0 hts gX3_stepOnce_X3_settleBodies rfl rfl rfl (by decide +kernel) ⟨Nat.le_of_ble_eq_true rfl, Nat.le_of_ble_eq_true rfl⟩) (kd_preV hP hD hK hS hA hE hI hW.tx rfl rfl) rfl rfl hl.1 rfl (lv_room (Nat.le_of_ble_eq_true rfl)) dX3_stepOnce_39 ⟨Nat.le_of_ble_eq_true rfl, Nat.le_of_ble_eq_true rfl⟩) hD hS hA (fun u_8 H locs hw hP hD hS => ?_)
    have hI := hw
    refine lv_aload_n hx hb dX3_stepOnce_42 rfl (lv_at hl 0 rfl) ?_
    refine kp_get hx hb hts i_X3 hown hK hP hI hW.tx rfl rfl 9 (by decide) (by decide) (hts (.fieldLink RX3 47 "IslandSolver" "still" "I") (by decide +kernel)) (fun _ h9 => h9) dX3_stepOnce_43 (kq_I fun x_9 => ?_)
    refine lv_if_le (tgt := 57) hx hb dX3_stepOnce_46 (by decide) (fun c_11 => ?_) (fun c_11 => ?_)
    · refine lv_aload_n hx hb dX3_stepOnce_57 rfl (lv_at hl 0 rfl) ?_
      refine lv_dup hx hb dX3_stepOnce_58 rfl ?_
      refine kp_get hx hb hts i_X3 hown hK hP hI hW.tx rfl rfl 11 (by decide) (by decide) (hts (.fieldLink RX3 53 "IslandSolver" "steps" "I") (by decide +kernel)) (fun _ h9 => h9) dX3_stepOnce_59 (kq_I fun x_12 => ?_)
      refine lv_iconst (v := 1) hx hb dX3_stepOnce_62 (by decide) ?_
      refine lv_iadd hx hb dX3_stepOnce_63 ?_
      refine lv_topi (fun x_14 ex_14 => ?_)
      refine kp_put (v := .int x_14) (ty := .int) hx hb hts i_X3 tyX3 tyX3_ok nmX3 hown hK hP hD hS hI hW.tx rfl rfl 11 (by decide) (by decide) (hts (.fieldLink RX3 53 "IslandSolver" "steps" "I") (by decide +kernel)) (fun _ h9 => h9) rfl (by decide +kernel) rfl rfl rfl (by decide) (kv_I _) dX3_stepOnce_64 (fun f H locs hI hP hD hS => ?_)
      refine W.widen (k := 0) (n := 0) (Nat.le_of_ble_eq_true rfl) (Nat.le_of_ble_eq_true rfl) ?_
      exact W.vret hx hb hr (fun t ht hW9 => ⟨⟨(u_8.1, f), rfl, ⟨_, hF, hW, hM, hI⟩, by rw [ht]; exact hP, va_K.moved hW9.alike hK, hD⟩, hS.F ht⟩) hS.2.2 dX3_stepOnce_67
    · refine lv_aload_n hx hb dX3_stepOnce_49 rfl (lv_at hl 0 rfl) ?_
      refine kd_callv (va_runV (As := []) (rest := []) ⟨hx, hb, hml, hown, hts⟩ (k_markRestless l dC dI dA ad _ τ pv _ _ hI x bl rl kl ba ra ka fr nb nr nk hW ) (cwV 0 hts gX3_stepOnce_X3_markRestless rfl rfl rfl (by decide +kernel) ⟨Nat.le_of_ble_eq_true rfl, Nat.le_of_ble_eq_true rfl⟩) (kd_preV hP hD hK hS hA hE hI hW.tx rfl rfl) rfl rfl hl.1 rfl (lv_room (Nat.le_of_ble_eq_true rfl)) dX3_stepOnce_50 ⟨Nat.le_of_ble_eq_true rfl, Nat.le_of_ble_eq_true rfl⟩) hD hS hA (fun u_15 H locs hw hP hD hS => ?_)
      have hI := hw
      refine lv_aload_n hx hb dX3_stepOnce_53 rfl (lv_at hl 0 rfl) ?_
      refine kd_callv (va_runV (As := []) (rest := []) ⟨hx, hb, hml, hown, hts⟩ (k_layToSleep l dC dI dA ad _ τ pv _ _ hI x bl rl kl ba ra ka fr nb nr nk hW ) (cwV 0 hts gX3_stepOnce_X3_layToSleep rfl rfl rfl (by decide +kernel) ⟨Nat.le_of_ble_eq_true rfl, Nat.le_of_ble_eq_true rfl⟩) (kd_preV hP hD hK hS hA hE hI hW.tx rfl rfl) rfl rfl hl.1 rfl (lv_room (Nat.le_of_ble_eq_true rfl)) dX3_stepOnce_54 ⟨Nat.le_of_ble_eq_true rfl, Nat.le_of_ble_eq_true rfl⟩) hD hS hA (fun u_16 H locs hw hP hD hS => ?_)
      have hI := hw
      refine lv_aload_n hx hb dX3_stepOnce_57 rfl (lv_at hl 0 rfl) ?_
      refine lv_dup hx hb dX3_stepOnce_58 rfl ?_
      refine kp_get hx hb hts i_X3 hown hK hP hI hW.tx rfl rfl 11 (by decide) (by decide) (hts (.fieldLink RX3 53 "IslandSolver" "steps" "I") (by decide +kernel)) (fun _ h9 => h9) dX3_stepOnce_59 (kq_I fun x_17 => ?_)
      refine lv_iconst (v := 1) hx hb dX3_stepOnce_62 (by decide) ?_
      refine lv_iadd hx hb dX3_stepOnce_63 ?_
      refine lv_topi (fun x_19 ex_19 => ?_)
      refine kp_put (v := .int x_19) (ty := .int) hx hb hts i_X3 tyX3 tyX3_ok nmX3 hown hK hP hD hS hI hW.tx rfl rfl 11 (by decide) (by decide) (hts (.fieldLink RX3 53 "IslandSolver" "steps" "I") (by decide +kernel)) (fun _ h9 => h9) rfl (by decide +kernel) rfl rfl rfl (by decide) (kv_I _) dX3_stepOnce_64 (fun f H locs hI hP hD hS => ?_)
      refine W.widen (k := 0) (n := 0) (Nat.le_of_ble_eq_true rfl) (Nat.le_of_ble_eq_true rfl) ?_
      exact W.vret hx hb hr (fun t ht hW9 => ⟨⟨(u_16.1, f), rfl, ⟨_, hF, hW, hM, hI⟩, by rw [ht]; exact hP, va_K.moved hW9.alike hK, hD⟩, hS.F ht⟩) hS.2.2 dX3_stepOnce_67
  · have hl : lv_has ls 2 [(0, .ref x), (1, .int (nI j))] := hl
    refine lv_iload_n hx hb dX3_stepOnce_23 rfl (lv_at hl 1 rfl) ?_
    refine lv_if_lt (tgt := 38) hx hb dX3_stepOnce_24 (by decide) (fun h9 => absurd h9 (nI_pos (n := j) (by omega))) (fun _ => ?_)
    refine lv_aload_n hx hb dX3_stepOnce_27 rfl (lv_at hl 0 rfl) ?_
    refine lv_iload_n hx hb dX3_stepOnce_28 rfl (lv_at hl 1 rfl) ?_
    refine kd_callv (va_runV (As := [.int (nI j)]) (rest := []) ⟨hx, hb, hml, hown, hts⟩ (k_solveRows l dC dI dA ad _ τ pv _ _ hI x bl rl kl ba ra ka fr nb nr nk hW j (by omega) hN hM) (cwV 1 hts gX3_stepOnce_X3_solveRowsOf rfl rfl rfl (by decide +kernel) ⟨Nat.le_of_ble_eq_true rfl, Nat.le_of_ble_eq_true rfl⟩) (kd_preV hP hD hK hS hA hE hI hW.tx rfl rfl) rfl rfl hl.1 rfl (lv_room (Nat.le_of_ble_eq_true rfl)) dX3_stepOnce_29 ⟨Nat.le_of_ble_eq_true rfl, Nat.le_of_ble_eq_true rfl⟩) hD hS hA (fun u_20 H locs hw hP hD hS => ?_)
    have hI := hw
    refine lv_iinc (v := kmi j) (lv' := [(1, .int (kmi j)), (0, .ref x)]) hx hb dX3_stepOnce_32 hl (k := 1) rfl (kmi_dec j) (by decide) rfl (fun ls hl => ?_)
    refine lv_goto (tgt := 23) hx hb dX3_stepOnce_35 (by decide) ?_
    have hl : lv_has ls 2 [(0, .ref x), (1, .int (kmi j))] := lv_sub hl [1, 0] rfl
    exact ih23 (fun _ _ => .null) _ _ _ _ _ ⟨j, by omega, hI, hP, hD, hS, hl, by omega⟩
