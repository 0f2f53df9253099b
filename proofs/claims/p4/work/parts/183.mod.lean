set_option maxHeartbeats 4000000 in
set_option maxRecDepth 100000 in
theorem k_stiff4 (l : Launch) (dC : Nat → ClassId) (dI : Nat → Nat → Nat) (dA : Nat → ClassId) (ad sz : Nat) (τ : Nat → Nat → Nat) (pv : Nat → Nat → Value) (L : List Nat) (f : Nat → va_E) (hI : kI dA τ pv L f) (mm fa sa aa ia sf mb mr mk mi : Nat) (hW : kMd τ pv mm fa sa aa ia sf mb mr mk mi) (r : Nat) (hr : r < mr) : Met l yX4_stiffness wsX4_stiffness ({ frames := 2, cells := 0, slots := 0, locals := 50 } : Room) (va_Pc [.ref mm, .int (nI r)] (kB dC dI dA ad sz L f)) (va_Qf (fun z u => fb 1241513984 z ∧ kI dA τ pv u.1 u.2) (kR dC dI dA (va_A (va_pl L f) sz)) (va_A (va_pl L f) sz)) 0 0 (va_A (va_pl L f) sz) := by
  refine Met.ofW (cc := cX4_stiffness) (maxL := 6) (ret := (some .float)) (by decide) rfl ?_
  intro p e s m args below meth c s₁ B hml hv
  obtain ⟨rfl, hsz, hP, hK, hD0, hE⟩ := hv
  have hx := B.exec
  have hb := B.bytes
  have hr := B.returns
  have hts := atoms_spec (ws := wsX4_stiffness) B.pre
  have hown : s.vm.findClass RX4 = some m.cls := findClass_of_methodNamed B.named
  have hlocks := B.notSynchronized
  have i_X4 : ∀ w ∈ u_ws RX4 TX4 35, w ∈ wsX4_stiffness := by decide +kernel
  subst hsz
  have hD := hD0.self (sz := s.heap.size)
  generalize hAe : va_A (va_pl L f) s.heap.size = A at hD hE ⊢
  have hA : ∀ q : Nat, s.heap.size ≤ q → A q := fun q h => by rw [← hAe]; exact Or.inr h
  have hS : va_S A s.heap s.heap [] := va_S.rf
  have hP : va_P (dC, dI) vwCl (va_pl L f) s.heap := hP
  have hK : va_K (dC, dI) vwCl (tyA dA) s := hK
  have hl := lv_entry ([.ref mm, .int (nI r)]) (n := 6) (Nat.le_of_ble_eq_true rfl)
  rw [lg_entry_eq]
  generalize (lg_sl ([.ref mm, .int (nI r)]) ++ List.replicate (6 - (lg_sl ([.ref mm, .int (nI r)])).length) Slot.unset).toArray = ls at hl ⊢
  have hl : lv_has ls 6 [(0, .ref mm), (1, .int (nI r))] := hl
  have hnb := hW.lb
  have hnr := hW.lr
  have hnk := hW.lk
  have hni := hW.li
  refine lv_bipush (v := 9) hx hb dX4_stiffness_0 (by decide) ?_
  refine lv_iload_n hx hb dX4_stiffness_2 rfl (lv_at hl 1 rfl) ?_
  refine lv_imul hx hb dX4_stiffness_3 ?_
  refine lv_topi (nm_r (show (9 : Int32) * (nI r) = nI (9 * r) from pk_mul 9 r) ?_)
  refine lv_istore_n (lv' := [(2, .int (nI (9 * r))), (0, .ref mm), (1, .int (nI r))]) hx hb dX4_stiffness_4 rfl hl (by decide) rfl (fun ls hl => ?_)
  refine lv_aload_n hx hb dX4_stiffness_5 rfl (lv_at hl 1 rfl) ?_
  refine kp_get hx hb hts i_X4 hown hK hP hI hW.tm rfl rfl 9 (by decide) (by decide) (hts (.fieldLink RX4 30 "IslandSolverModel" "ways" "[F") (by decide +kernel)) (fun _ h9 => h9) dX4_stiffness_6 (kq_RE 21 (by decide) fun x_1 h_2_e h_2 => ?_)
  refine lv_iload_n hx hb dX4_stiffness_9 rfl (lv_at hl 0 rfl) ?_
  have hj_3 : 9 * r < τ 3 x_1 := by rw [show τ 3 x_1 = 9216 from (hI.arr h_2 rfl).2.1]; omega
  refine W.eq (g2 := F0 m 10 ls (.int (nI (9 * r)) :: .ref x_1 :: [])) rfl ?_
  refine kp_fald (j := 9 * r) hx hb hK hP hI h_2 rfl hj_3 dX4_stiffness_10 (ka_F (cd := 1115684864) rfl (by decide) fun x_4 h_5 => ?_)
  refine lv_aload_n hx hb dX4_stiffness_11 rfl (lv_at hl 1 rfl) ?_
  refine kp_get hx hb hts i_X4 hown hK hP hI hW.tm rfl rfl 9 (by decide) (by decide) (hts (.fieldLink RX4 30 "IslandSolverModel" "ways" "[F") (by decide +kernel)) (fun _ h9 => h9) dX4_stiffness_12 (kq_E h_2_e ?_)
  refine lv_iload_n hx hb dX4_stiffness_15 rfl (lv_at hl 0 rfl) ?_
  have hj_8 : 9 * r < τ 3 x_1 := by rw [show τ 3 x_1 = 9216 from (hI.arr h_2 rfl).2.1]; omega
  refine W.eq (g2 := F0 m 16 ls (.int (nI (9 * r)) :: .ref x_1 :: [.float x_4])) rfl ?_
  refine kp_fald (j := 9 * r) hx hb hK hP hI h_2 rfl hj_8 dX4_stiffness_16 (ka_F (cd := 1115684864) rfl (by decide) fun x_9 h_10 => ?_)
  refine kw_fmul (M := 1166016512) hx hb dX4_stiffness_17 h_5 h_10 (by decide) (by decide) (by decide +kernel) (by decide) (fun z_11 hz_12 => ?_)
  refine lv_aload_n hx hb dX4_stiffness_18 rfl (lv_at hl 1 rfl) ?_
  refine kp_get hx hb hts i_X4 hown hK hP hI hW.tm rfl rfl 9 (by decide) (by decide) (hts (.fieldLink RX4 30 "IslandSolverModel" "ways" "[F") (by decide +kernel)) (fun _ h9 => h9) dX4_stiffness_19 (kq_E h_2_e ?_)
  refine lv_iload_n hx hb dX4_stiffness_22 rfl (lv_at hl 0 rfl) ?_
  refine lv_iconst (v := 1) hx hb dX4_stiffness_23 (by decide) ?_
  refine lv_iadd hx hb dX4_stiffness_24 ?_
  refine lv_topi (nm_r (show (nI (9 * r)) + 1 = nI (9 * r + 1) from nI_add (9 * r) 1) ?_)
  have hj_15 : 9 * r + 1 < τ 3 x_1 := by rw [show τ 3 x_1 = 9216 from (hI.arr h_2 rfl).2.1]; omega
  refine W.eq (g2 := F0 m 25 ls (.int (nI (9 * r + 1)) :: .ref x_1 :: [.float z_11])) rfl ?_
  refine kp_fald (j := 9 * r + 1) hx hb hK hP hI h_2 rfl hj_15 dX4_stiffness_25 (ka_F (cd := 1115684864) rfl (by decide) fun x_16 h_17 => ?_)
  refine lv_aload_n hx hb dX4_stiffness_26 rfl (lv_at hl 1 rfl) ?_
  refine kp_get hx hb hts i_X4 hown hK hP hI hW.tm rfl rfl 9 (by decide) (by decide) (hts (.fieldLink RX4 30 "IslandSolverModel" "ways" "[F") (by decide +kernel)) (fun _ h9 => h9) dX4_stiffness_27 (kq_E h_2_e ?_)
  refine lv_iload_n hx hb dX4_stiffness_30 rfl (lv_at hl 0 rfl) ?_
  refine lv_iconst (v := 1) hx hb dX4_stiffness_31 (by decide) ?_
  refine lv_iadd hx hb dX4_stiffness_32 ?_
  refine lv_topi (nm_r (show (nI (9 * r)) + 1 = nI (9 * r + 1) from nI_add (9 * r) 1) ?_)
  have hj_20 : 9 * r + 1 < τ 3 x_1 := by rw [show τ 3 x_1 = 9216 from (hI.arr h_2 rfl).2.1]; omega
  refine W.eq (g2 := F0 m 33 ls (.int (nI (9 * r + 1)) :: .ref x_1 :: [.float x_16, .float z_11])) rfl ?_
  refine kp_fald (j := 9 * r + 1) hx hb hK hP hI h_2 rfl hj_20 dX4_stiffness_33 (ka_F (cd := 1115684864) rfl (by decide) fun x_21 h_22 => ?_)
  refine kw_fmul (M := 1166016512) hx hb dX4_stiffness_34 h_17 h_22 (by decide) (by decide) (by decide +kernel) (by decide) (fun z_23 hz_24 => ?_)
  refine kw_fadd (M := 1174405120) hx hb dX4_stiffness_35 hz_12 hz_24 (by decide) (by decide) (by decide +kernel) (by decide) (fun z_25 hz_26 => ?_)
  refine lv_aload_n hx hb dX4_stiffness_36 rfl (lv_at hl 1 rfl) ?_
  refine kp_get hx hb hts i_X4 hown hK hP hI hW.tm rfl rfl 9 (by decide) (by decide) (hts (.fieldLink RX4 30 "IslandSolverModel" "ways" "[F") (by decide +kernel)) (fun _ h9 => h9) dX4_stiffness_37 (kq_E h_2_e ?_)
  refine lv_iload_n hx hb dX4_stiffness_40 rfl (lv_at hl 0 rfl) ?_
  refine lv_iconst (v := 2) hx hb dX4_stiffness_41 (by decide) ?_
  refine lv_iadd hx hb dX4_stiffness_42 ?_
  refine lv_topi (nm_r (show (nI (9 * r)) + 2 = nI (9 * r + 2) from nI_add (9 * r) 2) ?_)
  have hj_29 : 9 * r + 2 < τ 3 x_1 := by rw [show τ 3 x_1 = 9216 from (hI.arr h_2 rfl).2.1]; omega
  refine W.eq (g2 := F0 m 43 ls (.int (nI (9 * r + 2)) :: .ref x_1 :: [.float z_25])) rfl ?_
  refine kp_fald (j := 9 * r + 2) hx hb hK hP hI h_2 rfl hj_29 dX4_stiffness_43 (ka_F (cd := 1115684864) rfl (by decide) fun x_30 h_31 => ?_)
  refine lv_aload_n hx hb dX4_stiffness_44 rfl (lv_at hl 1 rfl) ?_
  refine kp_get hx hb hts i_X4 hown hK hP hI hW.tm rfl rfl 9 (by decide) (by decide) (hts (.fieldLink RX4 30 "IslandSolverModel" "ways" "[F") (by decide +kernel)) (fun _ h9 => h9) dX4_stiffness_45 (kq_E h_2_e ?_)
  refine lv_iload_n hx hb dX4_stiffness_48 rfl (lv_at hl 0 rfl) ?_
  refine lv_iconst (v := 2) hx hb dX4_stiffness_49 (by decide) ?_
  refine lv_iadd hx hb dX4_stiffness_50 ?_
  refine lv_topi (nm_r (show (nI (9 * r)) + 2 = nI (9 * r + 2) from nI_add (9 * r) 2) ?_)
  have hj_34 : 9 * r + 2 < τ 3 x_1 := by rw [show τ 3 x_1 = 9216 from (hI.arr h_2 rfl).2.1]; omega
  refine W.eq (g2 := F0 m 51 ls (.int (nI (9 * r + 2)) :: .ref x_1 :: [.float x_30, .float z_25])) rfl ?_
  refine kp_fald (j := 9 * r + 2) hx hb hK hP hI h_2 rfl hj_34 dX4_stiffness_51 (ka_F (cd := 1115684864) rfl (by decide) fun x_35 h_36 => ?_)
  refine kw_fmul (M := 1166016512) hx hb dX4_stiffness_52 h_31 h_36 (by decide) (by decide) (by decide +kernel) (by decide) (fun z_37 hz_38 => ?_)
  refine kw_fadd (M := 1178599424) hx hb dX4_stiffness_53 hz_26 hz_38 (by decide) (by decide) (by decide +kernel) (by decide) (fun z_39 hz_40 => ?_)
  refine lv_fstore_n (lv' := [(3, .float z_39), (2, .int (nI (9 * r))), (0, .ref mm), (1, .int (nI r))]) hx hb dX4_stiffness_54 rfl hl (by decide) rfl (fun ls hl => ?_)
  refine lv_aload_n hx hb dX4_stiffness_55 rfl (lv_at hl 2 rfl) ?_
  refine lv_iload_n hx hb dX4_stiffness_56 rfl (lv_at hl 3 rfl) ?_
  refine lv_iconst (v := 3) hx hb dX4_stiffness_57 (by decide) ?_
  refine lv_aload_n hx hb dX4_stiffness_58 rfl (lv_at hl 2 rfl) ?_
  refine kp_get hx hb hts i_X4 hown hK hP hI hW.tm rfl rfl 7 (by decide) (by decide) (hts (.fieldLink RX4 24 "IslandSolverModel" "firsts" "[I") (by decide +kernel)) (fun _ h9 => h9) dX4_stiffness_59 (kq_P (v0 := .ref fa) rfl hW.p7 fun h_42 => ?_)
  refine lv_iload_n hx hb dX4_stiffness_62 rfl (lv_at hl 3 rfl) ?_
  have hj_43 : r < τ 3 fa := by rw [show τ 3 fa = 1024 from (hI.arr hW.tf rfl).2.1]; omega
  refine W.eq (g2 := F0 m 63 ls (.int (nI (r)) :: .ref fa :: [.int 3, .int (nI r), .ref mm])) rfl ?_
  obtain ⟨ra46, rb46, rt46, ja46, la46, jb46, lb46, jt46, lt46, kt46⟩ := hW.rw (r := r) (by omega)
  refine kp_iald (j := r) hx hb hK hP hI hW.tf rfl hj_43 dX4_stiffness_63 (ka_P (x0 := nI ra46) rfl ja46 ?_)
  refine kd_callv (va_runV (As := [.int (nI r), .int 3, .int (nI ra46)]) (rest := []) ⟨hx, hb, hml, hown, hts⟩ (k_turnN3 l dC dI dA ad _ τ pv _ _ hI mm fa sa aa ia sf mb mr mk mi hW r ra46 (by omega) (by omega)) (cwV 3 hts gX4_stiffness_X4_turn rfl rfl rfl (by decide +kernel) ⟨Nat.le_of_ble_eq_true rfl, Nat.le_of_ble_eq_true rfl⟩) (kd_preV hP hD hK hS hA hE hI hW.tm rfl rfl) rfl rfl hl.1 rfl (lv_room (Nat.le_of_ble_eq_true rfl)) dX4_stiffness_64 ⟨Nat.le_of_ble_eq_true rfl, Nat.le_of_ble_eq_true rfl⟩) hD hS hA (fun u_47 H locs hw hP hD hS => ?_)
  have hI := hw
  refine lv_aload_n hx hb dX4_stiffness_67 rfl (lv_at hl 2 rfl) ?_
  refine kp_get hx hb hts i_X4 hown hK hP hI hW.tm rfl rfl 9 (by decide) (by decide) (hts (.fieldLink RX4 30 "IslandSolverModel" "ways" "[F") (by decide +kernel)) (fun _ h9 => h9) dX4_stiffness_68 (kq_RE 21 (by decide) fun x_48 h_49_e h_49 => ?_)
  refine lv_iload_n hx hb dX4_stiffness_71 rfl (lv_at hl 1 rfl) ?_
  refine lv_iconst (v := 3) hx hb dX4_stiffness_72 (by decide) ?_
  refine lv_iadd hx hb dX4_stiffness_73 ?_
  refine lv_topi (nm_r (show (nI (9 * r)) + 3 = nI (9 * r + 3) from nI_add (9 * r) 3) ?_)
  have hj_50 : 9 * r + 3 < τ 3 x_48 := by rw [show τ 3 x_48 = 9216 from (hI.arr h_49 rfl).2.1]; omega
  refine W.eq (g2 := F0 m 74 ls (.int (nI (9 * r + 3)) :: .ref x_48 :: [])) rfl ?_
  refine kp_fald (j := 9 * r + 3) hx hb hK hP hI h_49 rfl hj_50 dX4_stiffness_74 (ka_F (cd := 1115684864) rfl (by decide) fun x_51 h_52 => ?_)
  refine lv_aload_n hx hb dX4_stiffness_75 rfl (lv_at hl 2 rfl) ?_
  refine kp_get hx hb hts i_X4 hown hK hP hI hW.tm rfl rfl 32 (by decide) (by decide) (hts (.fieldLink RX4 158 "IslandSolverModel" "px" "F") (by decide +kernel)) (fun _ h9 => h9) dX4_stiffness_76 (kq_FE (cd := 1161822208) (by decide) fun x_53 h_54_e h_54 => ?_)
  refine kw_fmul (M := 1212153856) hx hb dX4_stiffness_79 h_52 h_54 (by decide) (by decide) (by decide +kernel) (by decide) (fun z_55 hz_56 => ?_)
  refine lv_aload_n hx hb dX4_stiffness_80 rfl (lv_at hl 2 rfl) ?_
  refine kp_get hx hb hts i_X4 hown hK hP hI hW.tm rfl rfl 9 (by decide) (by decide) (hts (.fieldLink RX4 30 "IslandSolverModel" "ways" "[F") (by decide +kernel)) (fun _ h9 => h9) dX4_stiffness_81 (kq_E h_49_e ?_)
  refine lv_iload_n hx hb dX4_stiffness_84 rfl (lv_at hl 1 rfl) ?_
  refine lv_iconst (v := 4) hx hb dX4_stiffness_85 (by decide) ?_
  refine lv_iadd hx hb dX4_stiffness_86 ?_
  refine lv_topi (nm_r (show (nI (9 * r)) + 4 = nI (9 * r + 4) from nI_add (9 * r) 4) ?_)
  have hj_59 : 9 * r + 4 < τ 3 x_48 := by rw [show τ 3 x_48 = 9216 from (hI.arr h_49 rfl).2.1]; omega
  refine W.eq (g2 := F0 m 87 ls (.int (nI (9 * r + 4)) :: .ref x_48 :: [.float z_55])) rfl ?_
  refine kp_fald (j := 9 * r + 4) hx hb hK hP hI h_49 rfl hj_59 dX4_stiffness_87 (ka_F (cd := 1115684864) rfl (by decide) fun x_60 h_61 => ?_)
  refine lv_aload_n hx hb dX4_stiffness_88 rfl (lv_at hl 2 rfl) ?_
  refine kp_get hx hb hts i_X4 hown hK hP hI hW.tm rfl rfl 33 (by decide) (by decide) (hts (.fieldLink RX4 161 "IslandSolverModel" "py" "F") (by decide +kernel)) (fun _ h9 => h9) dX4_stiffness_89 (kq_FE (cd := 1161822208) (by decide) fun x_62 h_63_e h_63 => ?_)
  refine kw_fmul (M := 1212153856) hx hb dX4_stiffness_92 h_61 h_63 (by decide) (by decide) (by decide +kernel) (by decide) (fun z_64 hz_65 => ?_)
  refine kw_fadd (M := 1220542464) hx hb dX4_stiffness_93 hz_56 hz_65 (by decide) (by decide) (by decide +kernel) (by decide) (fun z_66 hz_67 => ?_)
  refine lv_aload_n hx hb dX4_stiffness_94 rfl (lv_at hl 2 rfl) ?_
  refine kp_get hx hb hts i_X4 hown hK hP hI hW.tm rfl rfl 9 (by decide) (by decide) (hts (.fieldLink RX4 30 "IslandSolverModel" "ways" "[F") (by decide +kernel)) (fun _ h9 => h9) dX4_stiffness_95 (kq_E h_49_e ?_)
  refine lv_iload_n hx hb dX4_stiffness_98 rfl (lv_at hl 1 rfl) ?_
  refine lv_iconst (v := 5) hx hb dX4_stiffness_99 (by decide) ?_
  refine lv_iadd hx hb dX4_stiffness_100 ?_
  refine lv_topi (nm_r (show (nI (9 * r)) + 5 = nI (9 * r + 5) from nI_add (9 * r) 5) ?_)
  have hj_70 : 9 * r + 5 < τ 3 x_48 := by rw [show τ 3 x_48 = 9216 from (hI.arr h_49 rfl).2.1]; omega
  refine W.eq (g2 := F0 m 101 ls (.int (nI (9 * r + 5)) :: .ref x_48 :: [.float z_66])) rfl ?_
  refine kp_fald (j := 9 * r + 5) hx hb hK hP hI h_49 rfl hj_70 dX4_stiffness_101 (ka_F (cd := 1115684864) rfl (by decide) fun x_71 h_72 => ?_)
  refine lv_aload_n hx hb dX4_stiffness_102 rfl (lv_at hl 2 rfl) ?_
  refine kp_get hx hb hts i_X4 hown hK hP hI hW.tm rfl rfl 34 (by decide) (by decide) (hts (.fieldLink RX4 164 "IslandSolverModel" "pz" "F") (by decide +kernel)) (fun _ h9 => h9) dX4_stiffness_103 (kq_FE (cd := 1161822208) (by decide) fun x_73 h_74_e h_74 => ?_)
  refine kw_fmul (M := 1212153856) hx hb dX4_stiffness_106 h_72 h_74 (by decide) (by decide) (by decide +kernel) (by decide) (fun z_75 hz_76 => ?_)
  refine kw_fadd (M := 1225785344) hx hb dX4_stiffness_107 hz_67 hz_76 (by decide) (by decide) (by decide +kernel) (by decide) (fun z_77 hz_78 => ?_)
  refine lv_fstore (lv' := [(4, .float z_77), (3, .float z_39), (2, .int (nI (9 * r))), (0, .ref mm), (1, .int (nI r))]) hx hb dX4_stiffness_108 hl (by decide) rfl (fun ls hl => ?_)
  refine lv_aload_n hx hb dX4_stiffness_110 rfl (lv_at hl 3 rfl) ?_
  refine lv_iload_n hx hb dX4_stiffness_111 rfl (lv_at hl 4 rfl) ?_
  refine lv_bipush (v := 6) hx hb dX4_stiffness_112 (by decide) ?_
  refine lv_aload_n hx hb dX4_stiffness_114 rfl (lv_at hl 3 rfl) ?_
  refine kp_get hx hb hts i_X4 hown hK hP hI hW.tm rfl rfl 8 (by decide) (by decide) (hts (.fieldLink RX4 27 "IslandSolverModel" "seconds" "[I") (by decide +kernel)) (fun _ h9 => h9) dX4_stiffness_115 (kq_P (v0 := .ref sa) rfl hW.p8 fun h_80 => ?_)
  refine lv_iload_n hx hb dX4_stiffness_118 rfl (lv_at hl 4 rfl) ?_
  have hj_81 : r < τ 3 sa := by rw [show τ 3 sa = 1024 from (hI.arr hW.ts rfl).2.1]; omega
  refine W.eq (g2 := F0 m 119 ls (.int (nI (r)) :: .ref sa :: [.int 6, .int (nI r), .ref mm])) rfl ?_
  rcases rb46 with _ | rb46_2
  · refine kp_iald (j := r) hx hb hK hP hI hW.ts rfl hj_81 dX4_stiffness_119 (ka_P (x0 := (-1)) rfl jb46 ?_)
    refine kd_callv (va_runV (As := [.int (nI r), .int 6, .int (-1)]) (rest := []) ⟨hx, hb, hml, hown, hts⟩ (k_turnM6 l dC dI dA ad _ τ pv _ _ hI mm fa sa aa ia sf mb mr mk mi hW r (by omega)) (cwV 3 hts gX4_stiffness_X4_turn rfl rfl rfl (by decide +kernel) ⟨Nat.le_of_ble_eq_true rfl, Nat.le_of_ble_eq_true rfl⟩) (kd_preV hP hD hK hS hA hE hI hW.tm rfl rfl) rfl rfl hl.1 rfl (lv_room (Nat.le_of_ble_eq_true rfl)) dX4_stiffness_120 ⟨Nat.le_of_ble_eq_true rfl, Nat.le_of_ble_eq_true rfl⟩) hD hS hA (fun u_84 H locs hw hP hD hS => ?_)
    have hI := hw
    refine lv_aload_n hx hb dX4_stiffness_123 rfl (lv_at hl 3 rfl) ?_
    refine kp_get hx hb hts i_X4 hown hK hP hI hW.tm rfl rfl 9 (by decide) (by decide) (hts (.fieldLink RX4 30 "IslandSolverModel" "ways" "[F") (by decide +kernel)) (fun _ h9 => h9) dX4_stiffness_124 (kq_RE 21 (by decide) fun x_85 h_86_e h_86 => ?_)
    refine lv_iload_n hx hb dX4_stiffness_127 rfl (lv_at hl 2 rfl) ?_
    refine lv_bipush (v := 6) hx hb dX4_stiffness_128 (by decide) ?_
    refine lv_iadd hx hb dX4_stiffness_130 ?_
    refine lv_topi (nm_r (show (nI (9 * r)) + 6 = nI (9 * r + 6) from nI_add (9 * r) 6) ?_)
    have hj_87 : 9 * r + 6 < τ 3 x_85 := by rw [show τ 3 x_85 = 9216 from (hI.arr h_86 rfl).2.1]; omega
    refine W.eq (g2 := F0 m 131 ls (.int (nI (9 * r + 6)) :: .ref x_85 :: [])) rfl ?_
    refine kp_fald (j := 9 * r + 6) hx hb hK hP hI h_86 rfl hj_87 dX4_stiffness_131 (ka_F (cd := 1115684864) rfl (by decide) fun x_88 h_89 => ?_)
    refine lv_aload_n hx hb dX4_stiffness_132 rfl (lv_at hl 3 rfl) ?_
    refine kp_get hx hb hts i_X4 hown hK hP hI hW.tm rfl rfl 32 (by decide) (by decide) (hts (.fieldLink RX4 158 "IslandSolverModel" "px" "F") (by decide +kernel)) (fun _ h9 => h9) dX4_stiffness_133 (kq_FE (cd := 1161822208) (by decide) fun x_90 h_91_e h_91 => ?_)
    refine kw_fmul (M := 1212153856) hx hb dX4_stiffness_136 h_89 h_91 (by decide) (by decide) (by decide +kernel) (by decide) (fun z_92 hz_93 => ?_)
    refine lv_aload_n hx hb dX4_stiffness_137 rfl (lv_at hl 3 rfl) ?_
    refine kp_get hx hb hts i_X4 hown hK hP hI hW.tm rfl rfl 9 (by decide) (by decide) (hts (.fieldLink RX4 30 "IslandSolverModel" "ways" "[F") (by decide +kernel)) (fun _ h9 => h9) dX4_stiffness_138 (kq_E h_86_e ?_)
    refine lv_iload_n hx hb dX4_stiffness_141 rfl (lv_at hl 2 rfl) ?_
    refine lv_bipush (v := 7) hx hb dX4_stiffness_142 (by decide) ?_
    refine lv_iadd hx hb dX4_stiffness_144 ?_
    refine lv_topi (nm_r (show (nI (9 * r)) + 7 = nI (9 * r + 7) from nI_add (9 * r) 7) ?_)
    have hj_96 : 9 * r + 7 < τ 3 x_85 := by rw [show τ 3 x_85 = 9216 from (hI.arr h_86 rfl).2.1]; omega
    refine W.eq (g2 := F0 m 145 ls (.int (nI (9 * r + 7)) :: .ref x_85 :: [.float z_92])) rfl ?_
    refine kp_fald (j := 9 * r + 7) hx hb hK hP hI h_86 rfl hj_96 dX4_stiffness_145 (ka_F (cd := 1115684864) rfl (by decide) fun x_97 h_98 => ?_)
    refine lv_aload_n hx hb dX4_stiffness_146 rfl (lv_at hl 3 rfl) ?_
    refine kp_get hx hb hts i_X4 hown hK hP hI hW.tm rfl rfl 33 (by decide) (by decide) (hts (.fieldLink RX4 161 "IslandSolverModel" "py" "F") (by decide +kernel)) (fun _ h9 => h9) dX4_stiffness_147 (kq_FE (cd := 1161822208) (by decide) fun x_99 h_100_e h_100 => ?_)
    refine kw_fmul (M := 1212153856) hx hb dX4_stiffness_150 h_98 h_100 (by decide) (by decide) (by decide +kernel) (by decide) (fun z_101 hz_102 => ?_)
    refine kw_fadd (M := 1220542464) hx hb dX4_stiffness_151 hz_93 hz_102 (by decide) (by decide) (by decide +kernel) (by decide) (fun z_103 hz_104 => ?_)
    refine lv_aload_n hx hb dX4_stiffness_152 rfl (lv_at hl 3 rfl) ?_
    refine kp_get hx hb hts i_X4 hown hK hP hI hW.tm rfl rfl 9 (by decide) (by decide) (hts (.fieldLink RX4 30 "IslandSolverModel" "ways" "[F") (by decide +kernel)) (fun _ h9 => h9) dX4_stiffness_153 (kq_E h_86_e ?_)
    refine lv_iload_n hx hb dX4_stiffness_156 rfl (lv_at hl 2 rfl) ?_
    refine lv_bipush (v := 8) hx hb dX4_stiffness_157 (by decide) ?_
    refine lv_iadd hx hb dX4_stiffness_159 ?_
    refine lv_topi (nm_r (show (nI (9 * r)) + 8 = nI (9 * r + 8) from nI_add (9 * r) 8) ?_)
    have hj_107 : 9 * r + 8 < τ 3 x_85 := by rw [show τ 3 x_85 = 9216 from (hI.arr h_86 rfl).2.1]; omega
    refine W.eq (g2 := F0 m 160 ls (.int (nI (9 * r + 8)) :: .ref x_85 :: [.float z_103])) rfl ?_
    refine kp_fald (j := 9 * r + 8) hx hb hK hP hI h_86 rfl hj_107 dX4_stiffness_160 (ka_F (cd := 1115684864) rfl (by decide) fun x_108 h_109 => ?_)
    refine lv_aload_n hx hb dX4_stiffness_161 rfl (lv_at hl 3 rfl) ?_
    refine kp_get hx hb hts i_X4 hown hK hP hI hW.tm rfl rfl 34 (by decide) (by decide) (hts (.fieldLink RX4 164 "IslandSolverModel" "pz" "F") (by decide +kernel)) (fun _ h9 => h9) dX4_stiffness_162 (kq_FE (cd := 1161822208) (by decide) fun x_110 h_111_e h_111 => ?_)
    refine kw_fmul (M := 1212153856) hx hb dX4_stiffness_165 h_109 h_111 (by decide) (by decide) (by decide +kernel) (by decide) (fun z_112 hz_113 => ?_)
    refine kw_fadd (M := 1225785344) hx hb dX4_stiffness_166 hz_104 hz_113 (by decide) (by decide) (by decide +kernel) (by decide) (fun z_114 hz_115 => ?_)
    refine lv_fstore (lv' := [(5, .float z_114), (4, .float z_77), (3, .float z_39), (2, .int (nI (9 * r))), (0, .ref mm), (1, .int (nI r))]) hx hb dX4_stiffness_167 hl (by decide) rfl (fun ls hl => ?_)
    refine lv_aload_n hx hb dX4_stiffness_169 rfl (lv_at hl 4 rfl) ?_
    refine lv_aload_n hx hb dX4_stiffness_170 rfl (lv_at hl 4 rfl) ?_
    refine kp_get hx hb hts i_X4 hown hK hP hI hW.tm rfl rfl 7 (by decide) (by decide) (hts (.fieldLink RX4 24 "IslandSolverModel" "firsts" "[I") (by decide +kernel)) (fun _ h9 => h9) dX4_stiffness_171 (kq_P (v0 := .ref fa) rfl hW.p7 fun h_117 => ?_)
    refine lv_iload_n hx hb dX4_stiffness_174 rfl (lv_at hl 5 rfl) ?_
    have hj_118 : r < τ 3 fa := by rw [show τ 3 fa = 1024 from (hI.arr hW.tf rfl).2.1]; omega
    refine W.eq (g2 := F0 m 175 ls (.int (nI (r)) :: .ref fa :: [.ref mm])) rfl ?_
    refine kp_iald (j := r) hx hb hK hP hI hW.tf rfl hj_118 dX4_stiffness_175 (ka_P (x0 := nI ra46) rfl ja46 ?_)
    refine kd_callf (va_runV (As := [.int (nI ra46)]) (rest := []) ⟨hx, hb, hml, hown, hts⟩ (k_weightN l dC dI dA ad _ τ pv _ _ hI mm fa sa aa ia sf mb mr mk mi hW ra46 (by omega)) (cwV 1 hts gX4_stiffness_X4_weight rfl rfl rfl (by decide +kernel) ⟨Nat.le_of_ble_eq_true rfl, Nat.le_of_ble_eq_true rfl⟩) (kd_preV hP hD hK hS hA hE hI hW.tm rfl rfl) rfl rfl hl.1 rfl (lv_room (Nat.le_of_ble_eq_true rfl)) dX4_stiffness_176 ⟨Nat.le_of_ble_eq_true rfl, Nat.le_of_ble_eq_true rfl⟩) hD hS hA (fun r_122 u_121 H locs hw hP hD hS => ?_)
    obtain ⟨hr_122, hI⟩ := hw
    refine lv_fload_n hx hb dX4_stiffness_179 rfl (lv_at hl 2 rfl) ?_
    refine kw_fmul (M := 1212153856) hx hb dX4_stiffness_180 hr_122 hz_40 (by decide) (by decide) (by decide +kernel) (by decide) (fun z_123 hz_124 => ?_)
    refine lv_fload hx hb dX4_stiffness_181 (lv_at hl 1 rfl) ?_
    refine kw_fadd (M := 1228931072) hx hb dX4_stiffness_183 hz_124 hz_78 (by decide) (by decide) (by decide +kernel) (by decide) (fun z_125 hz_126 => ?_)
    refine lv_aload_n hx hb dX4_stiffness_184 rfl (lv_at hl 4 rfl) ?_
    refine lv_aload_n hx hb dX4_stiffness_185 rfl (lv_at hl 4 rfl) ?_
    refine kp_get hx hb hts i_X4 hown hK hP hI hW.tm rfl rfl 8 (by decide) (by decide) (hts (.fieldLink RX4 27 "IslandSolverModel" "seconds" "[I") (by decide +kernel)) (fun _ h9 => h9) dX4_stiffness_186 (kq_P (v0 := .ref sa) rfl hW.p8 fun h_128 => ?_)
    refine lv_iload_n hx hb dX4_stiffness_189 rfl (lv_at hl 5 rfl) ?_
    have hj_129 : r < τ 3 sa := by rw [show τ 3 sa = 1024 from (hI.arr hW.ts rfl).2.1]; omega
    refine W.eq (g2 := F0 m 190 ls (.int (nI (r)) :: .ref sa :: [.ref mm, .float z_125])) rfl ?_
    refine kp_iald (j := r) hx hb hK hP hI hW.ts rfl hj_129 dX4_stiffness_190 (ka_P (x0 := (-1)) rfl jb46 ?_)
    refine kd_callf (va_runV (As := [.int (-1)]) (rest := [.float z_125]) ⟨hx, hb, hml, hown, hts⟩ (k_weightM l dC dI dA ad _ τ pv _ _ hI mm fa sa aa ia sf mb mr mk mi hW ) (cwV 1 hts gX4_stiffness_X4_weight rfl rfl rfl (by decide +kernel) ⟨Nat.le_of_ble_eq_true rfl, Nat.le_of_ble_eq_true rfl⟩) (kd_preV hP hD hK hS hA hE hI hW.tm rfl rfl) rfl rfl hl.1 rfl (lv_room (Nat.le_of_ble_eq_true rfl)) dX4_stiffness_191 ⟨Nat.le_of_ble_eq_true rfl, Nat.le_of_ble_eq_true rfl⟩) hD hS hA (fun r_133 u_132 H locs hw hP hD hS => ?_)
    obtain ⟨hr_133, hI⟩ := hw
    refine lv_fload_n hx hb dX4_stiffness_194 rfl (lv_at hl 2 rfl) ?_
    refine kw_fmul (M := 1212153856) hx hb dX4_stiffness_195 hr_133 hz_40 (by decide) (by decide) (by decide +kernel) (by decide) (fun z_134 hz_135 => ?_)
    refine kw_fadd (M := 1232076800) hx hb dX4_stiffness_196 hz_126 hz_135 (by decide) (by decide) (by decide +kernel) (by decide) (fun z_136 hz_137 => ?_)
    refine lv_fload hx hb dX4_stiffness_197 (lv_at hl 0 rfl) ?_
    refine kw_fadd (M := 1237319680) hx hb dX4_stiffness_199 hz_137 hz_115 (by decide) (by decide) (by decide +kernel) (by decide) (fun z_138 hz_139 => ?_)
    refine lv_aload_n hx hb dX4_stiffness_200 rfl (lv_at hl 4 rfl) ?_
    refine kp_get hx hb hts i_X4 hown hK hP hI hW.tm rfl rfl 11 (by decide) (by decide) (hts (.fieldLink RX4 36 "IslandSolverModel" "softs" "[F") (by decide +kernel)) (fun _ h9 => h9) dX4_stiffness_201 (kq_RE 23 (by decide) fun x_140 h_141_e h_141 => ?_)
    refine lv_iload_n hx hb dX4_stiffness_204 rfl (lv_at hl 5 rfl) ?_
    have hj_142 : r < τ 3 x_140 := by rw [show τ 3 x_140 = 1024 from (hI.arr h_141 rfl).2.1]; omega
    refine W.eq (g2 := F0 m 205 ls (.int (nI (r)) :: .ref x_140 :: [.float z_138])) rfl ?_
    refine kp_fald (j := r) hx hb hK hP hI h_141 rfl hj_142 dX4_stiffness_205 (ka_F (cd := 1115684864) rfl (by decide) fun x_143 h_144 => ?_)
    refine kw_fadd (M := 1237320192) hx hb dX4_stiffness_206 hz_139 h_144 (by decide) (by decide) (by decide +kernel) (by decide) (fun z_145 hz_146 => ?_)
    refine W.widen (k := 0) (n := 0) (Nat.le_of_ble_eq_true rfl) (Nat.le_of_ble_eq_true rfl) ?_
    exact W.fret (v := z_145) hx hb hr (fun t ht hW9 => ⟨⟨z_145, (u_132.1, u_132.2), rfl, ⟨(fb_le hz_146 (by decide)), hI⟩, by rw [ht]; exact hP, va_K.moved hW9.alike hK, hD⟩, hS.F ht⟩) hS.2.2 dX4_stiffness_207
  · refine kp_iald (j := r) hx hb hK hP hI hW.ts rfl hj_81 dX4_stiffness_119 (ka_P (x0 := (nI rb46_2)) rfl jb46 ?_)
    refine kd_callv (va_runV (As := [.int (nI r), .int 6, .int (nI rb46_2)]) (rest := []) ⟨hx, hb, hml, hown, hts⟩ (k_turnN6 l dC dI dA ad _ τ pv _ _ hI mm fa sa aa ia sf mb mr mk mi hW r rb46_2 (by omega) (by omega)) (cwV 3 hts gX4_stiffness_X4_turn rfl rfl rfl (by decide +kernel) ⟨Nat.le_of_ble_eq_true rfl, Nat.le_of_ble_eq_true rfl⟩) (kd_preV hP hD hK hS hA hE hI hW.tm rfl rfl) rfl rfl hl.1 rfl (lv_room (Nat.le_of_ble_eq_true rfl)) dX4_stiffness_120 ⟨Nat.le_of_ble_eq_true rfl, Nat.le_of_ble_eq_true rfl⟩) hD hS hA (fun u_147 H locs hw hP hD hS => ?_)
    have hI := hw
    refine lv_aload_n hx hb dX4_stiffness_123 rfl (lv_at hl 3 rfl) ?_
    refine kp_get hx hb hts i_X4 hown hK hP hI hW.tm rfl rfl 9 (by decide) (by decide) (hts (.fieldLink RX4 30 "IslandSolverModel" "ways" "[F") (by decide +kernel)) (fun _ h9 => h9) dX4_stiffness_124 (kq_RE 21 (by decide) fun x_148 h_149_e h_149 => ?_)
    refine lv_iload_n hx hb dX4_stiffness_127 rfl (lv_at hl 2 rfl) ?_
    refine lv_bipush (v := 6) hx hb dX4_stiffness_128 (by decide) ?_
    refine lv_iadd hx hb dX4_stiffness_130 ?_
    refine lv_topi (nm_r (show (nI (9 * r)) + 6 = nI (9 * r + 6) from nI_add (9 * r) 6) ?_)
    have hj_150 : 9 * r + 6 < τ 3 x_148 := by rw [show τ 3 x_148 = 9216 from (hI.arr h_149 rfl).2.1]; omega
    refine W.eq (g2 := F0 m 131 ls (.int (nI (9 * r + 6)) :: .ref x_148 :: [])) rfl ?_
    refine kp_fald (j := 9 * r + 6) hx hb hK hP hI h_149 rfl hj_150 dX4_stiffness_131 (ka_F (cd := 1115684864) rfl (by decide) fun x_151 h_152 => ?_)
    refine lv_aload_n hx hb dX4_stiffness_132 rfl (lv_at hl 3 rfl) ?_
    refine kp_get hx hb hts i_X4 hown hK hP hI hW.tm rfl rfl 32 (by decide) (by decide) (hts (.fieldLink RX4 158 "IslandSolverModel" "px" "F") (by decide +kernel)) (fun _ h9 => h9) dX4_stiffness_133 (kq_FE (cd := 1161822208) (by decide) fun x_153 h_154_e h_154 => ?_)
    refine kw_fmul (M := 1212153856) hx hb dX4_stiffness_136 h_152 h_154 (by decide) (by decide) (by decide +kernel) (by decide) (fun z_155 hz_156 => ?_)
    refine lv_aload_n hx hb dX4_stiffness_137 rfl (lv_at hl 3 rfl) ?_
    refine kp_get hx hb hts i_X4 hown hK hP hI hW.tm rfl rfl 9 (by decide) (by decide) (hts (.fieldLink RX4 30 "IslandSolverModel" "ways" "[F") (by decide +kernel)) (fun _ h9 => h9) dX4_stiffness_138 (kq_E h_149_e ?_)
    refine lv_iload_n hx hb dX4_stiffness_141 rfl (lv_at hl 2 rfl) ?_
    refine lv_bipush (v := 7) hx hb dX4_stiffness_142 (by decide) ?_
    refine lv_iadd hx hb dX4_stiffness_144 ?_
    refine lv_topi (nm_r (show (nI (9 * r)) + 7 = nI (9 * r + 7) from nI_add (9 * r) 7) ?_)
    have hj_159 : 9 * r + 7 < τ 3 x_148 := by rw [show τ 3 x_148 = 9216 from (hI.arr h_149 rfl).2.1]; omega
    refine W.eq (g2 := F0 m 145 ls (.int (nI (9 * r + 7)) :: .ref x_148 :: [.float z_155])) rfl ?_
    refine kp_fald (j := 9 * r + 7) hx hb hK hP hI h_149 rfl hj_159 dX4_stiffness_145 (ka_F (cd := 1115684864) rfl (by decide) fun x_160 h_161 => ?_)
    refine lv_aload_n hx hb dX4_stiffness_146 rfl (lv_at hl 3 rfl) ?_
    refine kp_get hx hb hts i_X4 hown hK hP hI hW.tm rfl rfl 33 (by decide) (by decide) (hts (.fieldLink RX4 161 "IslandSolverModel" "py" "F") (by decide +kernel)) (fun _ h9 => h9) dX4_stiffness_147 (kq_FE (cd := 1161822208) (by decide) fun x_162 h_163_e h_163 => ?_)
    refine kw_fmul (M := 1212153856) hx hb dX4_stiffness_150 h_161 h_163 (by decide) (by decide) (by decide +kernel) (by decide) (fun z_164 hz_165 => ?_)
    refine kw_fadd (M := 1220542464) hx hb dX4_stiffness_151 hz_156 hz_165 (by decide) (by decide) (by decide +kernel) (by decide) (fun z_166 hz_167 => ?_)
    refine lv_aload_n hx hb dX4_stiffness_152 rfl (lv_at hl 3 rfl) ?_
    refine kp_get hx hb hts i_X4 hown hK hP hI hW.tm rfl rfl 9 (by decide) (by decide) (hts (.fieldLink RX4 30 "IslandSolverModel" "ways" "[F") (by decide +kernel)) (fun _ h9 => h9) dX4_stiffness_153 (kq_E h_149_e ?_)
    refine lv_iload_n hx hb dX4_stiffness_156 rfl (lv_at hl 2 rfl) ?_
    refine lv_bipush (v := 8) hx hb dX4_stiffness_157 (by decide) ?_
    refine lv_iadd hx hb dX4_stiffness_159 ?_
    refine lv_topi (nm_r (show (nI (9 * r)) + 8 = nI (9 * r + 8) from nI_add (9 * r) 8) ?_)
    have hj_170 : 9 * r + 8 < τ 3 x_148 := by rw [show τ 3 x_148 = 9216 from (hI.arr h_149 rfl).2.1]; omega
    refine W.eq (g2 := F0 m 160 ls (.int (nI (9 * r + 8)) :: .ref x_148 :: [.float z_166])) rfl ?_
    refine kp_fald (j := 9 * r + 8) hx hb hK hP hI h_149 rfl hj_170 dX4_stiffness_160 (ka_F (cd := 1115684864) rfl (by decide) fun x_171 h_172 => ?_)
    refine lv_aload_n hx hb dX4_stiffness_161 rfl (lv_at hl 3 rfl) ?_
    refine kp_get hx hb hts i_X4 hown hK hP hI hW.tm rfl rfl 34 (by decide) (by decide) (hts (.fieldLink RX4 164 "IslandSolverModel" "pz" "F") (by decide +kernel)) (fun _ h9 => h9) dX4_stiffness_162 (kq_FE (cd := 1161822208) (by decide) fun x_173 h_174_e h_174 => ?_)
    refine kw_fmul (M := 1212153856) hx hb dX4_stiffness_165 h_172 h_174 (by decide) (by decide) (by decide +kernel) (by decide) (fun z_175 hz_176 => ?_)
    refine kw_fadd (M := 1225785344) hx hb dX4_stiffness_166 hz_167 hz_176 (by decide) (by decide) (by decide +kernel) (by decide) (fun z_177 hz_178 => ?_)
    refine lv_fstore (lv' := [(5, .float z_177), (4, .float z_77), (3, .float z_39), (2, .int (nI (9 * r))), (0, .ref mm), (1, .int (nI r))]) hx hb dX4_stiffness_167 hl (by decide) rfl (fun ls hl => ?_)
    refine lv_aload_n hx hb dX4_stiffness_169 rfl (lv_at hl 4 rfl) ?_
    refine lv_aload_n hx hb dX4_stiffness_170 rfl (lv_at hl 4 rfl) ?_
    refine kp_get hx hb hts i_X4 hown hK hP hI hW.tm rfl rfl 7 (by decide) (by decide) (hts (.fieldLink RX4 24 "IslandSolverModel" "firsts" "[I") (by decide +kernel)) (fun _ h9 => h9) dX4_stiffness_171 (kq_P (v0 := .ref fa) rfl hW.p7 fun h_180 => ?_)
    refine lv_iload_n hx hb dX4_stiffness_174 rfl (lv_at hl 5 rfl) ?_
    have hj_181 : r < τ 3 fa := by rw [show τ 3 fa = 1024 from (hI.arr hW.tf rfl).2.1]; omega
    refine W.eq (g2 := F0 m 175 ls (.int (nI (r)) :: .ref fa :: [.ref mm])) rfl ?_
    refine kp_iald (j := r) hx hb hK hP hI hW.tf rfl hj_181 dX4_stiffness_175 (ka_P (x0 := nI ra46) rfl ja46 ?_)
    refine kd_callf (va_runV (As := [.int (nI ra46)]) (rest := []) ⟨hx, hb, hml, hown, hts⟩ (k_weightN l dC dI dA ad _ τ pv _ _ hI mm fa sa aa ia sf mb mr mk mi hW ra46 (by omega)) (cwV 1 hts gX4_stiffness_X4_weight rfl rfl rfl (by decide +kernel) ⟨Nat.le_of_ble_eq_true rfl, Nat.le_of_ble_eq_true rfl⟩) (kd_preV hP hD hK hS hA hE hI hW.tm rfl rfl) rfl rfl hl.1 rfl (lv_room (Nat.le_of_ble_eq_true rfl)) dX4_stiffness_176 ⟨Nat.le_of_ble_eq_true rfl, Nat.le_of_ble_eq_true rfl⟩) hD hS hA (fun r_185 u_184 H locs hw hP hD hS => ?_)
    obtain ⟨hr_185, hI⟩ := hw
    refine lv_fload_n hx hb dX4_stiffness_179 rfl (lv_at hl 2 rfl) ?_
    refine kw_fmul (M := 1212153856) hx hb dX4_stiffness_180 hr_185 hz_40 (by decide) (by decide) (by decide +kernel) (by decide) (fun z_186 hz_187 => ?_)
    refine lv_fload hx hb dX4_stiffness_181 (lv_at hl 1 rfl) ?_
    refine kw_fadd (M := 1228931072) hx hb dX4_stiffness_183 hz_187 hz_78 (by decide) (by decide) (by decide +kernel) (by decide) (fun z_188 hz_189 => ?_)
    refine lv_aload_n hx hb dX4_stiffness_184 rfl (lv_at hl 4 rfl) ?_
    refine lv_aload_n hx hb dX4_stiffness_185 rfl (lv_at hl 4 rfl) ?_
    refine kp_get hx hb hts i_X4 hown hK hP hI hW.tm rfl rfl 8 (by decide) (by decide) (hts (.fieldLink RX4 27 "IslandSolverModel" "seconds" "[I") (by decide +kernel)) (fun _ h9 => h9) dX4_stiffness_186 (kq_P (v0 := .ref sa) rfl hW.p8 fun h_191 => ?_)
    refine lv_iload_n hx hb dX4_stiffness_189 rfl (lv_at hl 5 rfl) ?_
    have hj_192 : r < τ 3 sa := by rw [show τ 3 sa = 1024 from (hI.arr hW.ts rfl).2.1]; omega
    refine W.eq (g2 := F0 m 190 ls (.int (nI (r)) :: .ref sa :: [.ref mm, .float z_188])) rfl ?_
    refine kp_iald (j := r) hx hb hK hP hI hW.ts rfl hj_192 dX4_stiffness_190 (ka_P (x0 := (nI rb46_2)) rfl jb46 ?_)
    refine kd_callf (va_runV (As := [.int (nI rb46_2)]) (rest := [.float z_188]) ⟨hx, hb, hml, hown, hts⟩ (k_weightN l dC dI dA ad _ τ pv _ _ hI mm fa sa aa ia sf mb mr mk mi hW rb46_2 (by omega)) (cwV 1 hts gX4_stiffness_X4_weight rfl rfl rfl (by decide +kernel) ⟨Nat.le_of_ble_eq_true rfl, Nat.le_of_ble_eq_true rfl⟩) (kd_preV hP hD hK hS hA hE hI hW.tm rfl rfl) rfl rfl hl.1 rfl (lv_room (Nat.le_of_ble_eq_true rfl)) dX4_stiffness_191 ⟨Nat.le_of_ble_eq_true rfl, Nat.le_of_ble_eq_true rfl⟩) hD hS hA (fun r_196 u_195 H locs hw hP hD hS => ?_)
    obtain ⟨hr_196, hI⟩ := hw
    refine lv_fload_n hx hb dX4_stiffness_194 rfl (lv_at hl 2 rfl) ?_
    refine kw_fmul (M := 1212153856) hx hb dX4_stiffness_195 hr_196 hz_40 (by decide) (by decide) (by decide +kernel) (by decide) (fun z_197 hz_198 => ?_)
    refine kw_fadd (M := 1232076800) hx hb dX4_stiffness_196 hz_189 hz_198 (by decide) (by decide) (by decide +kernel) (by decide) (fun z_199 hz_200 => ?_)
    refine lv_fload hx hb dX4_stiffness_197 (lv_at hl 0 rfl) ?_
    refine kw_fadd (M := 1237319680) hx hb dX4_stiffness_199 hz_200 hz_178 (by decide) (by decide) (by decide +kernel) (by decide) (fun z_201 hz_202 => ?_)
    refine lv_aload_n hx hb dX4_stiffness_200 rfl (lv_at hl 4 rfl) ?_
    refine kp_get hx hb hts i_X4 hown hK hP hI hW.tm rfl rfl 11 (by decide) (by decide) (hts (.fieldLink RX4 36 "IslandSolverModel" "softs" "[F") (by decide +kernel)) (fun _ h9 => h9) dX4_stiffness_201 (kq_RE 23 (by decide) fun x_203 h_204_e h_204 => ?_)
    refine lv_iload_n hx hb dX4_stiffness_204 rfl (lv_at hl 5 rfl) ?_
    have hj_205 : r < τ 3 x_203 := by rw [show τ 3 x_203 = 1024 from (hI.arr h_204 rfl).2.1]; omega
    refine W.eq (g2 := F0 m 205 ls (.int (nI (r)) :: .ref x_203 :: [.float z_201])) rfl ?_
    refine kp_fald (j := r) hx hb hK hP hI h_204 rfl hj_205 dX4_stiffness_205 (ka_F (cd := 1115684864) rfl (by decide) fun x_206 h_207 => ?_)
    refine kw_fadd (M := 1237320192) hx hb dX4_stiffness_206 hz_202 h_207 (by decide) (by decide) (by decide +kernel) (by decide) (fun z_208 hz_209 => ?_)
    refine W.widen (k := 0) (n := 0) (Nat.le_of_ble_eq_true rfl) (Nat.le_of_ble_eq_true rfl) ?_
    exact W.fret (v := z_208) hx hb hr (fun t ht hW9 => ⟨⟨z_208, (u_195.1, u_195.2), rfl, ⟨(fb_le hz_209 (by decide)), hI⟩, by rw [ht]; exact hP, va_K.moved hW9.alike hK, hD⟩, hS.F ht⟩) hS.2.2 dX4_stiffness_207
set_option maxHeartbeats 4000000 in
set_option maxRecDepth 100000 in
theorem k_dead4 (l : Launch) (dC : Nat → ClassId) (dI : Nat → Nat → Nat) (dA : Nat → ClassId) (ad sz : Nat) (τ : Nat → Nat → Nat) (pv : Nat → Nat → Value) (L : List Nat) (f : Nat → va_E) (hI : kI dA τ pv L f) (mm fa sa aa ia sf mb mr mk mi : Nat) (hW : kMd τ pv mm fa sa aa ia sf mb mr mk mi) (r : Nat) (hr : r < mr) (x : UInt32) (hx0 : fb 1241513984 x) : Met l yX4_dead wsX4_dead ({ frames := 1, cells := 0, slots := 0, locals := 22 } : Room) (va_Pc [.ref mm, .int (nI r), .float x] (kB dC dI dA ad sz L f)) (va_Qi (fun z u => (z = 0 ∨ z = 1) ∧ (z = 0 → 107 * 2 ^ 23 ≤ x.toNat % 2 ^ 31) ∧ kI dA τ pv u.1 u.2) (kR dC dI dA (va_A (va_pl L f) sz)) (va_A (va_pl L f) sz)) 0 0 (va_A (va_pl L f) sz) := by
  refine Met.ofW (cc := cX4_dead) (maxL := 3) (ret := (some .boolean)) (by decide) rfl ?_
  intro p e s m args below meth c s₁ B hml hv
  obtain ⟨rfl, hsz, hP, hK, hD0, hE⟩ := hv
  have hx := B.exec
  have hb := B.bytes
  have hr := B.returns
  have hts := atoms_spec (ws := wsX4_dead) B.pre
  have hown : s.vm.findClass RX4 = some m.cls := findClass_of_methodNamed B.named
  have hlocks := B.notSynchronized
  have i_X4 : ∀ w ∈ u_ws RX4 TX4 35, w ∈ wsX4_dead := by decide +kernel
  subst hsz
  have hD := hD0.self (sz := s.heap.size)
  generalize hAe : va_A (va_pl L f) s.heap.size = A at hD hE ⊢
  have hA : ∀ q : Nat, s.heap.size ≤ q → A q := fun q h => by rw [← hAe]; exact Or.inr h
  have hS : va_S A s.heap s.heap [] := va_S.rf
  have hP : va_P (dC, dI) vwCl (va_pl L f) s.heap := hP
  have hK : va_K (dC, dI) vwCl (tyA dA) s := hK
  have hl := lv_entry ([.ref mm, .int (nI r), .float x]) (n := 3) (Nat.le_of_ble_eq_true rfl)
  rw [lg_entry_eq]
  generalize (lg_sl ([.ref mm, .int (nI r), .float x]) ++ List.replicate (3 - (lg_sl ([.ref mm, .int (nI r), .float x])).length) Slot.unset).toArray = ls at hl ⊢
  have hl : lv_has ls 3 [(0, .ref mm), (1, .int (nI r)), (2, .float x)] := hl
  have hnb := hW.lb
  have hnr := hW.lr
  have hnk := hW.lk
  have hni := hW.li
  refine lv_fload_n hx hb dX4_dead_0 rfl (lv_at hl 2 rfl) ?_
  refine lv_ldcf (v := 897581056) hx hb hown (hts (.constantFloat RX4 174 (897581056)) (by decide +kernel)) dX4_dead_1 ?_
  have hc_1 : fb 897581056 897581056 := by unfold fb; decide +kernel
  refine lv_fcmp hx hb dX4_dead_3 ?_
  refine lv_if_lt (tgt := 33) hx hb dX4_dead_4 (by decide) (fun c_2 => ?_) (fun c_2 => ?_)
  · refine lv_iconst (v := 1) hx hb dX4_dead_33 (by decide) ?_
    refine lv_goto (tgt := 38) hx hb dX4_dead_34 (by decide) ?_
    refine W.widen (k := 0) (n := 0) (Nat.le_of_ble_eq_true rfl) (Nat.le_of_ble_eq_true rfl) ?_
    exact W.zret (ty := .boolean) (v := 1) hx hb hr rfl (fun t ht hW9 => ⟨⟨1, (L, f), rfl, ⟨Or.inr rfl, fun h9 => absurd h9 (by decide), hI⟩, by rw [ht]; exact hP, va_K.moved hW9.alike hK, hD⟩, hS.F ht⟩) hS.2.2 dX4_dead_38
  · refine lv_aload_n hx hb dX4_dead_7 rfl (lv_at hl 0 rfl) ?_
    refine lv_aload_n hx hb dX4_dead_8 rfl (lv_at hl 0 rfl) ?_
    refine kp_get hx hb hts i_X4 hown hK hP hI hW.tm rfl rfl 7 (by decide) (by decide) (hts (.fieldLink RX4 24 "IslandSolverModel" "firsts" "[I") (by decide +kernel)) (fun _ h9 => h9) dX4_dead_9 (kq_P (v0 := .ref fa) rfl hW.p7 fun h_4 => ?_)
    refine lv_iload_n hx hb dX4_dead_12 rfl (lv_at hl 1 rfl) ?_
    have hj_5 : r < τ 3 fa := by rw [show τ 3 fa = 1024 from (hI.arr hW.tf rfl).2.1]; omega
    refine W.eq (g2 := F0 m 13 ls (.int (nI (r)) :: .ref fa :: [.ref mm])) rfl ?_
    obtain ⟨ra8, rb8, rt8, ja8, la8, jb8, lb8, jt8, lt8, kt8⟩ := hW.rw (r := r) (by omega)
    refine kp_iald (j := r) hx hb hK hP hI hW.tf rfl hj_5 dX4_dead_13 (ka_P (x0 := nI ra8) rfl ja8 ?_)
    refine kd_calli (va_runV (As := [.int (nI ra8)]) (rest := []) ⟨hx, hb, hml, hown, hts⟩ (k_movN l dC dI dA ad _ τ pv _ _ hI mm fa sa aa ia sf mb mr mk mi hW ra8 (by omega)) (cwV 1 hts gX4_dead_X4_movable rfl rfl rfl (by decide +kernel) ⟨Nat.le_of_ble_eq_true rfl, Nat.le_of_ble_eq_true rfl⟩) (kd_preV hP hD hK hS hA hE hI hW.tm rfl rfl) rfl rfl hl.1 rfl (lv_room (Nat.le_of_ble_eq_true rfl)) dX4_dead_14 ⟨Nat.le_of_ble_eq_true rfl, Nat.le_of_ble_eq_true rfl⟩) hD hS hA (fun r_10 u_9 H locs hw hP hD hS => ?_)
    obtain ⟨hr_10, hI⟩ := hw
    refine lv_if_ne (tgt := 37) hx hb dX4_dead_17 (by decide) (fun c_11 => ?_) (fun c_11 => ?_)
    · obtain rfl : r_10 = 1 := (hr_10).resolve_left c_11
      refine lv_iconst (v := 0) hx hb dX4_dead_37 (by decide) ?_
      refine W.widen (k := 0) (n := 0) (Nat.le_of_ble_eq_true rfl) (Nat.le_of_ble_eq_true rfl) ?_
      exact W.zret (ty := .boolean) (v := 0) hx hb hr rfl (fun t ht hW9 => ⟨⟨0, (u_9.1, u_9.2), rfl, ⟨Or.inl rfl, fun _ => kf_least hx0 (by decide) (Int32.not_lt.mp c_2), hI⟩, by rw [ht]; exact hP, va_K.moved hW9.alike hK, hD⟩, hS.F ht⟩) hS.2.2 dX4_dead_38
    · subst c_11
      refine lv_aload_n hx hb dX4_dead_20 rfl (lv_at hl 0 rfl) ?_
      refine lv_aload_n hx hb dX4_dead_21 rfl (lv_at hl 0 rfl) ?_
      refine kp_get hx hb hts i_X4 hown hK hP hI hW.tm rfl rfl 8 (by decide) (by decide) (hts (.fieldLink RX4 27 "IslandSolverModel" "seconds" "[I") (by decide +kernel)) (fun _ h9 => h9) dX4_dead_22 (kq_P (v0 := .ref sa) rfl hW.p8 fun h_13 => ?_)
      refine lv_iload_n hx hb dX4_dead_25 rfl (lv_at hl 1 rfl) ?_
      have hj_14 : r < τ 3 sa := by rw [show τ 3 sa = 1024 from (hI.arr hW.ts rfl).2.1]; omega
      refine W.eq (g2 := F0 m 26 ls (.int (nI (r)) :: .ref sa :: [.ref mm])) rfl ?_
      rcases rb8 with _ | rb8_2
      · refine kp_iald (j := r) hx hb hK hP hI hW.ts rfl hj_14 dX4_dead_26 (ka_P (x0 := (-1)) rfl jb8 ?_)
        refine kd_calli (va_runV (As := [.int (-1)]) (rest := []) ⟨hx, hb, hml, hown, hts⟩ (k_movM l dC dI dA ad _ τ pv _ _ hI mm fa sa aa ia sf mb mr mk mi hW ) (cwV 1 hts gX4_dead_X4_movable rfl rfl rfl (by decide +kernel) ⟨Nat.le_of_ble_eq_true rfl, Nat.le_of_ble_eq_true rfl⟩) (kd_preV hP hD hK hS hA hE hI hW.tm rfl rfl) rfl rfl hl.1 rfl (lv_room (Nat.le_of_ble_eq_true rfl)) dX4_dead_27 ⟨Nat.le_of_ble_eq_true rfl, Nat.le_of_ble_eq_true rfl⟩) hD hS hA (fun r_18 u_17 H locs hw hP hD hS => ?_)
        obtain ⟨rfl, hI⟩ := hw
        refine lv_if_ne (tgt := 37) hx hb dX4_dead_30 (by decide) (fun h9 => by first | exact absurd h9 (by decide) | exact absurd (by decide) h9) (fun _ => ?_)
        refine lv_iconst (v := 1) hx hb dX4_dead_33 (by decide) ?_
        refine lv_goto (tgt := 38) hx hb dX4_dead_34 (by decide) ?_
        refine W.widen (k := 0) (n := 0) (Nat.le_of_ble_eq_true rfl) (Nat.le_of_ble_eq_true rfl) ?_
        exact W.zret (ty := .boolean) (v := 1) hx hb hr rfl (fun t ht hW9 => ⟨⟨1, (u_17.1, u_17.2), rfl, ⟨Or.inr rfl, fun h9 => absurd h9 (by decide), hI⟩, by rw [ht]; exact hP, va_K.moved hW9.alike hK, hD⟩, hS.F ht⟩) hS.2.2 dX4_dead_38
      · refine kp_iald (j := r) hx hb hK hP hI hW.ts rfl hj_14 dX4_dead_26 (ka_P (x0 := (nI rb8_2)) rfl jb8 ?_)
        refine kd_calli (va_runV (As := [.int (nI rb8_2)]) (rest := []) ⟨hx, hb, hml, hown, hts⟩ (k_movN l dC dI dA ad _ τ pv _ _ hI mm fa sa aa ia sf mb mr mk mi hW rb8_2 (by omega)) (cwV 1 hts gX4_dead_X4_movable rfl rfl rfl (by decide +kernel) ⟨Nat.le_of_ble_eq_true rfl, Nat.le_of_ble_eq_true rfl⟩) (kd_preV hP hD hK hS hA hE hI hW.tm rfl rfl) rfl rfl hl.1 rfl (lv_room (Nat.le_of_ble_eq_true rfl)) dX4_dead_27 ⟨Nat.le_of_ble_eq_true rfl, Nat.le_of_ble_eq_true rfl⟩) hD hS hA (fun r_20 u_19 H locs hw hP hD hS => ?_)
        obtain ⟨hr_20, hI⟩ := hw
        refine lv_if_ne (tgt := 37) hx hb dX4_dead_30 (by decide) (fun c_21 => ?_) (fun c_21 => ?_)
        · obtain rfl : r_20 = 1 := (hr_20).resolve_left c_21
          refine lv_iconst (v := 0) hx hb dX4_dead_37 (by decide) ?_
          refine W.widen (k := 0) (n := 0) (Nat.le_of_ble_eq_true rfl) (Nat.le_of_ble_eq_true rfl) ?_
          exact W.zret (ty := .boolean) (v := 0) hx hb hr rfl (fun t ht hW9 => ⟨⟨0, (u_19.1, u_19.2), rfl, ⟨Or.inl rfl, fun _ => kf_least hx0 (by decide) (Int32.not_lt.mp c_2), hI⟩, by rw [ht]; exact hP, va_K.moved hW9.alike hK, hD⟩, hS.F ht⟩) hS.2.2 dX4_dead_38
        · subst c_21
          refine lv_iconst (v := 1) hx hb dX4_dead_33 (by decide) ?_
          refine lv_goto (tgt := 38) hx hb dX4_dead_34 (by decide) ?_
          refine W.widen (k := 0) (n := 0) (Nat.le_of_ble_eq_true rfl) (Nat.le_of_ble_eq_true rfl) ?_
          exact W.zret (ty := .boolean) (v := 1) hx hb hr rfl (fun t ht hW9 => ⟨⟨1, (u_19.1, u_19.2), rfl, ⟨Or.inr rfl, fun h9 => absurd h9 (by decide), hI⟩, by rw [ht]; exact hP, va_K.moved hW9.alike hK, hD⟩, hS.F ht⟩) hS.2.2 dX4_dead_38
set_option maxHeartbeats 4000000 in
set_option maxRecDepth 100000 in
theorem k_push4 (l : Launch) (dC : Nat → ClassId) (dI : Nat → Nat → Nat) (dA : Nat → ClassId) (ad sz : Nat) (τ : Nat → Nat → Nat) (pv : Nat → Nat → Value) (L : List Nat) (f : Nat → va_E) (hI : kI dA τ pv L f) (mm fa sa aa ia sf mb mr mk mi : Nat) (hW : kMd τ pv mm fa sa aa ia sf mb mr mk mi) (b : Nat) (hb9 : b < 256) (x y z d9 : UInt32) (h_x : fb 1317011456 x) (h_y : fb 1317011456 y) (h_z : fb 1317011456 z) (h_d9 : fb 1233125376 d9) : Met l yX4_push wsX4_push ({ frames := 0, cells := 0, slots := 0, locals := 0 } : Room) (va_Pc [.ref mm, .int (nI b), .float x, .float y, .float z, .float d9] (kB dC dI dA ad sz L f)) (va_Qv (fun u => kI dA τ pv u.1 u.2) (kR dC dI dA (va_A (va_pl L f) sz)) (va_A (va_pl L f) sz)) 0 0 (va_A (va_pl L f) sz) := by
  refine Met.ofW (cc := cX4_push) (maxL := 7) (ret := none) (by decide) rfl ?_
  intro p e s m args below meth c s₁ B hml hv
  obtain ⟨rfl, hsz, hP, hK, hD0, hE⟩ := hv
  have hx := B.exec
  have hb := B.bytes
  have hr := B.returns
  have hts := atoms_spec (ws := wsX4_push) B.pre
  have hown : s.vm.findClass RX4 = some m.cls := findClass_of_methodNamed B.named
  have hlocks := B.notSynchronized
  have i_X4 : ∀ w ∈ u_ws RX4 TX4 35, w ∈ wsX4_push := by decide +kernel
  subst hsz
  have hD := hD0.self (sz := s.heap.size)
  generalize hAe : va_A (va_pl L f) s.heap.size = A at hD hE ⊢
  have hA : ∀ q : Nat, s.heap.size ≤ q → A q := fun q h => by rw [← hAe]; exact Or.inr h
  have hS : va_S A s.heap s.heap [] := va_S.rf
  have hP : va_P (dC, dI) vwCl (va_pl L f) s.heap := hP
  have hK : va_K (dC, dI) vwCl (tyA dA) s := hK
  have hl := lv_entry ([.ref mm, .int (nI b), .float x, .float y, .float z, .float d9]) (n := 7) (Nat.le_of_ble_eq_true rfl)
  rw [lg_entry_eq]
  generalize (lg_sl ([.ref mm, .int (nI b), .float x, .float y, .float z, .float d9]) ++ List.replicate (7 - (lg_sl ([.ref mm, .int (nI b), .float x, .float y, .float z, .float d9])).length) Slot.unset).toArray = ls at hl ⊢
  have hl : lv_has ls 7 [(0, .ref mm), (1, .int (nI b)), (2, .float x), (3, .float y), (4, .float z), (5, .float d9)] := hl
  have hnb := hW.lb
  have hnr := hW.lr
  have hnk := hW.lk
  have hni := hW.li
  refine lv_bipush (v := 13) hx hb dX4_push_0 (by decide) ?_
  refine lv_iload_n hx hb dX4_push_2 rfl (lv_at hl 1 rfl) ?_
  refine lv_imul hx hb dX4_push_3 ?_
  refine lv_topi (nm_r (show (13 : Int32) * (nI b) = nI (13 * b) from pk_mul 13 b) ?_)
  refine lv_istore (lv' := [(6, .int (nI (13 * b))), (0, .ref mm), (1, .int (nI b)), (2, .float x), (3, .float y), (4, .float z), (5, .float d9)]) hx hb dX4_push_4 hl (by decide) rfl (fun ls hl => ?_)
  refine lv_aload_n hx hb dX4_push_6 rfl (lv_at hl 1 rfl) ?_
  refine kp_get hx hb hts i_X4 hown hK hP hI hW.tm rfl rfl 2 (by decide) (by decide) (hts (.fieldLink RX4 7 "IslandSolverModel" "body" "[F") (by decide +kernel)) (fun _ h9 => h9) dX4_push_7 (kq_RE 15 (by decide) fun x_1 h_2_e h_2 => ?_)
  refine lv_iload hx hb dX4_push_10 (lv_at hl 0 rfl) ?_
  refine lv_aload_n hx hb dX4_push_12 rfl (lv_at hl 1 rfl) ?_
  refine kp_get hx hb hts i_X4 hown hK hP hI hW.tm rfl rfl 2 (by decide) (by decide) (hts (.fieldLink RX4 7 "IslandSolverModel" "body" "[F") (by decide +kernel)) (fun _ h9 => h9) dX4_push_13 (kq_E h_2_e ?_)
  refine lv_iload hx hb dX4_push_16 (lv_at hl 0 rfl) ?_
  have hj_5 : 13 * b < τ 3 x_1 := by rw [show τ 3 x_1 = 3328 from (hI.arr h_2 rfl).2.1]; omega
  refine W.eq (g2 := F0 m 18 ls (.int (nI (13 * b)) :: .ref x_1 :: [.int (nI (13 * b)), .ref x_1])) rfl ?_
  refine kp_faldE (j := 13 * b) hx hb hK hP hI h_2 rfl hj_5 dX4_push_18 (ka_FE (cd := 1535115264) (show kEc 15 (13 * b) = 1535115264 from if_pos (by omega)) (by decide) fun x_6 h_7_e h_7 => ?_)
  refine lv_fload_n hx hb dX4_push_19 rfl (lv_at hl 3 rfl) ?_
  refine kw_satA (M := 1535115264) hx hb dX4_push_20 h_7 h_x (by decide) (by decide) (by decide +kernel) (fun z_8 hz_9 => ?_)
  have hj_10 : 13 * b < τ 3 x_1 := by rw [show τ 3 x_1 = 3328 from (hI.arr h_2 rfl).2.1]; omega
  refine W.eq (g2 := F0 m 21 ls (.float z_8 :: .int (nI (13 * b)) :: .ref x_1 :: [])) rfl ?_
  refine kp_fastX (pv' := pv) (j := 13 * b) hx hb hK hP hD hS hI h_2 rfl hj_10 (fun _ _ _ => rfl) (show kPr τ (kEc 15 (13 * b)) _ _ from (show kEc 15 (13 * b) = 1535115264 from if_pos (by omega)).symm ▸ (kv_F (by decide) hz_9)) (kPn_not rfl (by decide)) dX4_push_21 (fun f H locs hI hP hD hS => ?_)
  refine lv_aload_n hx hb dX4_push_22 rfl (lv_at hl 1 rfl) ?_
  refine kp_get hx hb hts i_X4 hown hK hP hI hW.tm rfl rfl 2 (by decide) (by decide) (hts (.fieldLink RX4 7 "IslandSolverModel" "body" "[F") (by decide +kernel)) (fun _ h9 => h9) dX4_push_23 (kq_RE 15 (by decide) fun x_11 h_12_e h_12 => ?_)
  refine lv_iload hx hb dX4_push_26 (lv_at hl 0 rfl) ?_
  refine lv_iconst (v := 1) hx hb dX4_push_28 (by decide) ?_
  refine lv_iadd hx hb dX4_push_29 ?_
  refine lv_topi (nm_r (show (nI (13 * b)) + 1 = nI (13 * b + 1) from nI_add (13 * b) 1) ?_)
  refine lv_aload_n hx hb dX4_push_30 rfl (lv_at hl 1 rfl) ?_
  refine kp_get hx hb hts i_X4 hown hK hP hI hW.tm rfl rfl 2 (by decide) (by decide) (hts (.fieldLink RX4 7 "IslandSolverModel" "body" "[F") (by decide +kernel)) (fun _ h9 => h9) dX4_push_31 (kq_E h_12_e ?_)
  refine lv_iload hx hb dX4_push_34 (lv_at hl 0 rfl) ?_
  refine lv_iconst (v := 1) hx hb dX4_push_36 (by decide) ?_
  refine lv_iadd hx hb dX4_push_37 ?_
  refine lv_topi (nm_r (show (nI (13 * b)) + 1 = nI (13 * b + 1) from nI_add (13 * b) 1) ?_)
  have hj_15 : 13 * b + 1 < τ 3 x_11 := by rw [show τ 3 x_11 = 3328 from (hI.arr h_12 rfl).2.1]; omega
  refine W.eq (g2 := F0 m 38 ls (.int (nI (13 * b + 1)) :: .ref x_11 :: [.int (nI (13 * b + 1)), .ref x_11])) rfl ?_
  refine kp_faldE (j := 13 * b + 1) hx hb hK hP hI h_12 rfl hj_15 dX4_push_38 (ka_FE (cd := 1535115264) (show kEc 15 (13 * b + 1) = 1535115264 from if_pos (by omega)) (by decide) fun x_16 h_17_e h_17 => ?_)
  refine lv_fload_n hx hb dX4_push_39 rfl (lv_at hl 4 rfl) ?_
  refine kw_satA (M := 1535115264) hx hb dX4_push_40 h_17 h_y (by decide) (by decide) (by decide +kernel) (fun z_18 hz_19 => ?_)
  have hj_20 : 13 * b + 1 < τ 3 x_11 := by rw [show τ 3 x_11 = 3328 from (hI.arr h_12 rfl).2.1]; omega
  refine W.eq (g2 := F0 m 41 ls (.float z_18 :: .int (nI (13 * b + 1)) :: .ref x_11 :: [])) rfl ?_
  refine kp_fastX (pv' := pv) (j := 13 * b + 1) hx hb hK hP hD hS hI h_12 rfl hj_20 (fun _ _ _ => rfl) (show kPr τ (kEc 15 (13 * b + 1)) _ _ from (show kEc 15 (13 * b + 1) = 1535115264 from if_pos (by omega)).symm ▸ (kv_F (by decide) hz_19)) (kPn_not rfl (by decide)) dX4_push_41 (fun f H locs hI hP hD hS => ?_)
  refine lv_aload_n hx hb dX4_push_42 rfl (lv_at hl 1 rfl) ?_
  refine kp_get hx hb hts i_X4 hown hK hP hI hW.tm rfl rfl 2 (by decide) (by decide) (hts (.fieldLink RX4 7 "IslandSolverModel" "body" "[F") (by decide +kernel)) (fun _ h9 => h9) dX4_push_43 (kq_RE 15 (by decide) fun x_21 h_22_e h_22 => ?_)
  refine lv_iload hx hb dX4_push_46 (lv_at hl 0 rfl) ?_
  refine lv_iconst (v := 2) hx hb dX4_push_48 (by decide) ?_
  refine lv_iadd hx hb dX4_push_49 ?_
  refine lv_topi (nm_r (show (nI (13 * b)) + 2 = nI (13 * b + 2) from nI_add (13 * b) 2) ?_)
  refine lv_aload_n hx hb dX4_push_50 rfl (lv_at hl 1 rfl) ?_
  refine kp_get hx hb hts i_X4 hown hK hP hI hW.tm rfl rfl 2 (by decide) (by decide) (hts (.fieldLink RX4 7 "IslandSolverModel" "body" "[F") (by decide +kernel)) (fun _ h9 => h9) dX4_push_51 (kq_E h_22_e ?_)
  refine lv_iload hx hb dX4_push_54 (lv_at hl 0 rfl) ?_
  refine lv_iconst (v := 2) hx hb dX4_push_56 (by decide) ?_
  refine lv_iadd hx hb dX4_push_57 ?_
  refine lv_topi (nm_r (show (nI (13 * b)) + 2 = nI (13 * b + 2) from nI_add (13 * b) 2) ?_)
  have hj_25 : 13 * b + 2 < τ 3 x_21 := by rw [show τ 3 x_21 = 3328 from (hI.arr h_22 rfl).2.1]; omega
  refine W.eq (g2 := F0 m 58 ls (.int (nI (13 * b + 2)) :: .ref x_21 :: [.int (nI (13 * b + 2)), .ref x_21])) rfl ?_
  refine kp_faldE (j := 13 * b + 2) hx hb hK hP hI h_22 rfl hj_25 dX4_push_58 (ka_FE (cd := 1535115264) (show kEc 15 (13 * b + 2) = 1535115264 from if_pos (by omega)) (by decide) fun x_26 h_27_e h_27 => ?_)
  refine lv_fload hx hb dX4_push_59 (lv_at hl 5 rfl) ?_
  refine kw_satA (M := 1535115264) hx hb dX4_push_61 h_27 h_z (by decide) (by decide) (by decide +kernel) (fun z_28 hz_29 => ?_)
  have hj_30 : 13 * b + 2 < τ 3 x_21 := by rw [show τ 3 x_21 = 3328 from (hI.arr h_22 rfl).2.1]; omega
  refine W.eq (g2 := F0 m 62 ls (.float z_28 :: .int (nI (13 * b + 2)) :: .ref x_21 :: [])) rfl ?_
  refine kp_fastX (pv' := pv) (j := 13 * b + 2) hx hb hK hP hD hS hI h_22 rfl hj_30 (fun _ _ _ => rfl) (show kPr τ (kEc 15 (13 * b + 2)) _ _ from (show kEc 15 (13 * b + 2) = 1535115264 from if_pos (by omega)).symm ▸ (kv_F (by decide) hz_29)) (kPn_not rfl (by decide)) dX4_push_62 (fun f H locs hI hP hD hS => ?_)
  refine lv_aload_n hx hb dX4_push_63 rfl (lv_at hl 1 rfl) ?_
  refine kp_get hx hb hts i_X4 hown hK hP hI hW.tm rfl rfl 2 (by decide) (by decide) (hts (.fieldLink RX4 7 "IslandSolverModel" "body" "[F") (by decide +kernel)) (fun _ h9 => h9) dX4_push_64 (kq_RE 15 (by decide) fun x_31 h_32_e h_32 => ?_)
  refine lv_iload hx hb dX4_push_67 (lv_at hl 0 rfl) ?_
  refine lv_iconst (v := 3) hx hb dX4_push_69 (by decide) ?_
  refine lv_iadd hx hb dX4_push_70 ?_
  refine lv_topi (nm_r (show (nI (13 * b)) + 3 = nI (13 * b + 3) from nI_add (13 * b) 3) ?_)
  refine lv_aload_n hx hb dX4_push_71 rfl (lv_at hl 1 rfl) ?_
  refine kp_get hx hb hts i_X4 hown hK hP hI hW.tm rfl rfl 2 (by decide) (by decide) (hts (.fieldLink RX4 7 "IslandSolverModel" "body" "[F") (by decide +kernel)) (fun _ h9 => h9) dX4_push_72 (kq_E h_32_e ?_)
  refine lv_iload hx hb dX4_push_75 (lv_at hl 0 rfl) ?_
  refine lv_iconst (v := 3) hx hb dX4_push_77 (by decide) ?_
  refine lv_iadd hx hb dX4_push_78 ?_
  refine lv_topi (nm_r (show (nI (13 * b)) + 3 = nI (13 * b + 3) from nI_add (13 * b) 3) ?_)
  have hj_35 : 13 * b + 3 < τ 3 x_31 := by rw [show τ 3 x_31 = 3328 from (hI.arr h_32 rfl).2.1]; omega
  refine W.eq (g2 := F0 m 79 ls (.int (nI (13 * b + 3)) :: .ref x_31 :: [.int (nI (13 * b + 3)), .ref x_31])) rfl ?_
  refine kp_faldE (j := 13 * b + 3) hx hb hK hP hI h_32 rfl hj_35 dX4_push_79 (ka_FE (cd := 1535115264) (show kEc 15 (13 * b + 3) = 1535115264 from if_pos (by omega)) (by decide) fun x_36 h_37_e h_37 => ?_)
  refine lv_aload_n hx hb dX4_push_80 rfl (lv_at hl 1 rfl) ?_
  refine kp_get hx hb hts i_X4 hown hK hP hI hW.tm rfl rfl 32 (by decide) (by decide) (hts (.fieldLink RX4 158 "IslandSolverModel" "px" "F") (by decide +kernel)) (fun _ h9 => h9) dX4_push_81 (kq_FE (cd := 1161822208) (by decide) fun x_38 h_39_e h_39 => ?_)
  refine lv_fload hx hb dX4_push_84 (lv_at hl 6 rfl) ?_
  refine kw_fmul (M := 1329594368) hx hb dX4_push_86 h_39 h_d9 (by decide) (by decide) (by decide +kernel) (by decide) (fun z_40 hz_41 => ?_)
  refine kw_satA (M := 1535115264) hx hb dX4_push_87 h_37 hz_41 (by decide) (by decide) (by decide +kernel) (fun z_42 hz_43 => ?_)
  have hj_44 : 13 * b + 3 < τ 3 x_31 := by rw [show τ 3 x_31 = 3328 from (hI.arr h_32 rfl).2.1]; omega
  refine W.eq (g2 := F0 m 88 ls (.float z_42 :: .int (nI (13 * b + 3)) :: .ref x_31 :: [])) rfl ?_
  refine kp_fastX (pv' := pv) (j := 13 * b + 3) hx hb hK hP hD hS hI h_32 rfl hj_44 (fun _ _ _ => rfl) (show kPr τ (kEc 15 (13 * b + 3)) _ _ from (show kEc 15 (13 * b + 3) = 1535115264 from if_pos (by omega)).symm ▸ (kv_F (by decide) hz_43)) (kPn_not rfl (by decide)) dX4_push_88 (fun f H locs hI hP hD hS => ?_)
  refine lv_aload_n hx hb dX4_push_89 rfl (lv_at hl 1 rfl) ?_
  refine kp_get hx hb hts i_X4 hown hK hP hI hW.tm rfl rfl 2 (by decide) (by decide) (hts (.fieldLink RX4 7 "IslandSolverModel" "body" "[F") (by decide +kernel)) (fun _ h9 => h9) dX4_push_90 (kq_RE 15 (by decide) fun x_45 h_46_e h_46 => ?_)
  refine lv_iload hx hb dX4_push_93 (lv_at hl 0 rfl) ?_
  refine lv_iconst (v := 4) hx hb dX4_push_95 (by decide) ?_
  refine lv_iadd hx hb dX4_push_96 ?_
  refine lv_topi (nm_r (show (nI (13 * b)) + 4 = nI (13 * b + 4) from nI_add (13 * b) 4) ?_)
  refine lv_aload_n hx hb dX4_push_97 rfl (lv_at hl 1 rfl) ?_
  refine kp_get hx hb hts i_X4 hown hK hP hI hW.tm rfl rfl 2 (by decide) (by decide) (hts (.fieldLink RX4 7 "IslandSolverModel" "body" "[F") (by decide +kernel)) (fun _ h9 => h9) dX4_push_98 (kq_E h_46_e ?_)
  refine lv_iload hx hb dX4_push_101 (lv_at hl 0 rfl) ?_
  refine lv_iconst (v := 4) hx hb dX4_push_103 (by decide) ?_
  refine lv_iadd hx hb dX4_push_104 ?_
  refine lv_topi (nm_r (show (nI (13 * b)) + 4 = nI (13 * b + 4) from nI_add (13 * b) 4) ?_)
  have hj_49 : 13 * b + 4 < τ 3 x_45 := by rw [show τ 3 x_45 = 3328 from (hI.arr h_46 rfl).2.1]; omega
  refine W.eq (g2 := F0 m 105 ls (.int (nI (13 * b + 4)) :: .ref x_45 :: [.int (nI (13 * b + 4)), .ref x_45])) rfl ?_
  refine kp_faldE (j := 13 * b + 4) hx hb hK hP hI h_46 rfl hj_49 dX4_push_105 (ka_FE (cd := 1535115264) (show kEc 15 (13 * b + 4) = 1535115264 from if_pos (by omega)) (by decide) fun x_50 h_51_e h_51 => ?_)
  refine lv_aload_n hx hb dX4_push_106 rfl (lv_at hl 1 rfl) ?_
  refine kp_get hx hb hts i_X4 hown hK hP hI hW.tm rfl rfl 33 (by decide) (by decide) (hts (.fieldLink RX4 161 "IslandSolverModel" "py" "F") (by decide +kernel)) (fun _ h9 => h9) dX4_push_107 (kq_FE (cd := 1161822208) (by decide) fun x_52 h_53_e h_53 => ?_)
  refine lv_fload hx hb dX4_push_110 (lv_at hl 6 rfl) ?_
  refine kw_fmul (M := 1329594368) hx hb dX4_push_112 h_53 h_d9 (by decide) (by decide) (by decide +kernel) (by decide) (fun z_54 hz_55 => ?_)
  refine kw_satA (M := 1535115264) hx hb dX4_push_113 h_51 hz_55 (by decide) (by decide) (by decide +kernel) (fun z_56 hz_57 => ?_)
  have hj_58 : 13 * b + 4 < τ 3 x_45 := by rw [show τ 3 x_45 = 3328 from (hI.arr h_46 rfl).2.1]; omega
  refine W.eq (g2 := F0 m 114 ls (.float z_56 :: .int (nI (13 * b + 4)) :: .ref x_45 :: [])) rfl ?_
  refine kp_fastX (pv' := pv) (j := 13 * b + 4) hx hb hK hP hD hS hI h_46 rfl hj_58 (fun _ _ _ => rfl) (show kPr τ (kEc 15 (13 * b + 4)) _ _ from (show kEc 15 (13 * b + 4) = 1535115264 from if_pos (by omega)).symm ▸ (kv_F (by decide) hz_57)) (kPn_not rfl (by decide)) dX4_push_114 (fun f H locs hI hP hD hS => ?_)
  refine lv_aload_n hx hb dX4_push_115 rfl (lv_at hl 1 rfl) ?_
  refine kp_get hx hb hts i_X4 hown hK hP hI hW.tm rfl rfl 2 (by decide) (by decide) (hts (.fieldLink RX4 7 "IslandSolverModel" "body" "[F") (by decide +kernel)) (fun _ h9 => h9) dX4_push_116 (kq_RE 15 (by decide) fun x_59 h_60_e h_60 => ?_)
  refine lv_iload hx hb dX4_push_119 (lv_at hl 0 rfl) ?_
  refine lv_iconst (v := 5) hx hb dX4_push_121 (by decide) ?_
  refine lv_iadd hx hb dX4_push_122 ?_
  refine lv_topi (nm_r (show (nI (13 * b)) + 5 = nI (13 * b + 5) from nI_add (13 * b) 5) ?_)
  refine lv_aload_n hx hb dX4_push_123 rfl (lv_at hl 1 rfl) ?_
  refine kp_get hx hb hts i_X4 hown hK hP hI hW.tm rfl rfl 2 (by decide) (by decide) (hts (.fieldLink RX4 7 "IslandSolverModel" "body" "[F") (by decide +kernel)) (fun _ h9 => h9) dX4_push_124 (kq_E h_60_e ?_)
  refine lv_iload hx hb dX4_push_127 (lv_at hl 0 rfl) ?_
  refine lv_iconst (v := 5) hx hb dX4_push_129 (by decide) ?_
  refine lv_iadd hx hb dX4_push_130 ?_
  refine lv_topi (nm_r (show (nI (13 * b)) + 5 = nI (13 * b + 5) from nI_add (13 * b) 5) ?_)
  have hj_63 : 13 * b + 5 < τ 3 x_59 := by rw [show τ 3 x_59 = 3328 from (hI.arr h_60 rfl).2.1]; omega
  refine W.eq (g2 := F0 m 131 ls (.int (nI (13 * b + 5)) :: .ref x_59 :: [.int (nI (13 * b + 5)), .ref x_59])) rfl ?_
  refine kp_faldE (j := 13 * b + 5) hx hb hK hP hI h_60 rfl hj_63 dX4_push_131 (ka_FE (cd := 1535115264) (show kEc 15 (13 * b + 5) = 1535115264 from if_pos (by omega)) (by decide) fun x_64 h_65_e h_65 => ?_)
  refine lv_aload_n hx hb dX4_push_132 rfl (lv_at hl 1 rfl) ?_
  refine kp_get hx hb hts i_X4 hown hK hP hI hW.tm rfl rfl 34 (by decide) (by decide) (hts (.fieldLink RX4 164 "IslandSolverModel" "pz" "F") (by decide +kernel)) (fun _ h9 => h9) dX4_push_133 (kq_FE (cd := 1161822208) (by decide) fun x_66 h_67_e h_67 => ?_)
  refine lv_fload hx hb dX4_push_136 (lv_at hl 6 rfl) ?_
  refine kw_fmul (M := 1329594368) hx hb dX4_push_138 h_67 h_d9 (by decide) (by decide) (by decide +kernel) (by decide) (fun z_68 hz_69 => ?_)
  refine kw_satA (M := 1535115264) hx hb dX4_push_139 h_65 hz_69 (by decide) (by decide) (by decide +kernel) (fun z_70 hz_71 => ?_)
  have hj_72 : 13 * b + 5 < τ 3 x_59 := by rw [show τ 3 x_59 = 3328 from (hI.arr h_60 rfl).2.1]; omega
  refine W.eq (g2 := F0 m 140 ls (.float z_70 :: .int (nI (13 * b + 5)) :: .ref x_59 :: [])) rfl ?_
  refine kp_fastX (pv' := pv) (j := 13 * b + 5) hx hb hK hP hD hS hI h_60 rfl hj_72 (fun _ _ _ => rfl) (show kPr τ (kEc 15 (13 * b + 5)) _ _ from (show kEc 15 (13 * b + 5) = 1535115264 from if_pos (by omega)).symm ▸ (kv_F (by decide) hz_71)) (kPn_not rfl (by decide)) dX4_push_140 (fun f H locs hI hP hD hS => ?_)
  refine W.widen (k := 0) (n := 0) (Nat.le_of_ble_eq_true rfl) (Nat.le_of_ble_eq_true rfl) ?_
  exact W.vret hx hb hr (fun t ht hW9 => ⟨⟨(L, f), rfl, hI, by rw [ht]; exact hP, va_K.moved hW9.alike hK, hD⟩, hS.F ht⟩) hS.2.2 dX4_push_141
set_option maxHeartbeats 4000000 in
set_option maxRecDepth 100000 in
theorem k_pull4 (l : Launch) (dC : Nat → ClassId) (dI : Nat → Nat → Nat) (dA : Nat → ClassId) (ad sz : Nat) (τ : Nat → Nat → Nat) (pv : Nat → Nat → Value) (L : List Nat) (f : Nat → va_E) (hI : kI dA τ pv L f) (mm fa sa aa ia sf mb mr mk mi : Nat) (hW : kMd τ pv mm fa sa aa ia sf mb mr mk mi) (b : Nat) (hb9 : b < 256) (x y z d9 : UInt32) (h_x : fb 1317011456 x) (h_y : fb 1317011456 y) (h_z : fb 1317011456 z) (h_d9 : fb 1233125376 d9) : Met l yX4_pull wsX4_pull ({ frames := 0, cells := 0, slots := 0, locals := 0 } : Room) (va_Pc [.ref mm, .int (nI b), .float x, .float y, .float z, .float d9] (kB dC dI dA ad sz L f)) (va_Qv (fun u => kI dA τ pv u.1 u.2) (kR dC dI dA (va_A (va_pl L f) sz)) (va_A (va_pl L f) sz)) 0 0 (va_A (va_pl L f) sz) := by
  refine Met.ofW (cc := cX4_pull) (maxL := 7) (ret := none) (by decide) rfl ?_
  intro p e s m args below meth c s₁ B hml hv
  obtain ⟨rfl, hsz, hP, hK, hD0, hE⟩ := hv
  have hx := B.exec
  have hb := B.bytes
  have hr := B.returns
  have hts := atoms_spec (ws := wsX4_pull) B.pre
  have hown : s.vm.findClass RX4 = some m.cls := findClass_of_methodNamed B.named
  have hlocks := B.notSynchronized
  have i_X4 : ∀ w ∈ u_ws RX4 TX4 35, w ∈ wsX4_pull := by decide +kernel
  subst hsz
  have hD := hD0.self (sz := s.heap.size)
  generalize hAe : va_A (va_pl L f) s.heap.size = A at hD hE ⊢
  have hA : ∀ q : Nat, s.heap.size ≤ q → A q := fun q h => by rw [← hAe]; exact Or.inr h
  have hS : va_S A s.heap s.heap [] := va_S.rf
  have hP : va_P (dC, dI) vwCl (va_pl L f) s.heap := hP
  have hK : va_K (dC, dI) vwCl (tyA dA) s := hK
  have hl := lv_entry ([.ref mm, .int (nI b), .float x, .float y, .float z, .float d9]) (n := 7) (Nat.le_of_ble_eq_true rfl)
  rw [lg_entry_eq]
  generalize (lg_sl ([.ref mm, .int (nI b), .float x, .float y, .float z, .float d9]) ++ List.replicate (7 - (lg_sl ([.ref mm, .int (nI b), .float x, .float y, .float z, .float d9])).length) Slot.unset).toArray = ls at hl ⊢
  have hl : lv_has ls 7 [(0, .ref mm), (1, .int (nI b)), (2, .float x), (3, .float y), (4, .float z), (5, .float d9)] := hl
  have hnb := hW.lb
  have hnr := hW.lr
  have hnk := hW.lk
  have hni := hW.li
  refine lv_bipush (v := 13) hx hb dX4_pull_0 (by decide) ?_
  refine lv_iload_n hx hb dX4_pull_2 rfl (lv_at hl 1 rfl) ?_
  refine lv_imul hx hb dX4_pull_3 ?_
  refine lv_topi (nm_r (show (13 : Int32) * (nI b) = nI (13 * b) from pk_mul 13 b) ?_)
  refine lv_istore (lv' := [(6, .int (nI (13 * b))), (0, .ref mm), (1, .int (nI b)), (2, .float x), (3, .float y), (4, .float z), (5, .float d9)]) hx hb dX4_pull_4 hl (by decide) rfl (fun ls hl => ?_)
  refine lv_aload_n hx hb dX4_pull_6 rfl (lv_at hl 1 rfl) ?_
  refine kp_get hx hb hts i_X4 hown hK hP hI hW.tm rfl rfl 2 (by decide) (by decide) (hts (.fieldLink RX4 7 "IslandSolverModel" "body" "[F") (by decide +kernel)) (fun _ h9 => h9) dX4_pull_7 (kq_RE 15 (by decide) fun x_1 h_2_e h_2 => ?_)
  refine lv_iload hx hb dX4_pull_10 (lv_at hl 0 rfl) ?_
  refine lv_aload_n hx hb dX4_pull_12 rfl (lv_at hl 1 rfl) ?_
  refine kp_get hx hb hts i_X4 hown hK hP hI hW.tm rfl rfl 2 (by decide) (by decide) (hts (.fieldLink RX4 7 "IslandSolverModel" "body" "[F") (by decide +kernel)) (fun _ h9 => h9) dX4_pull_13 (kq_E h_2_e ?_)
  refine lv_iload hx hb dX4_pull_16 (lv_at hl 0 rfl) ?_
  have hj_5 : 13 * b < τ 3 x_1 := by rw [show τ 3 x_1 = 3328 from (hI.arr h_2 rfl).2.1]; omega
  refine W.eq (g2 := F0 m 18 ls (.int (nI (13 * b)) :: .ref x_1 :: [.int (nI (13 * b)), .ref x_1])) rfl ?_
  refine kp_faldE (j := 13 * b) hx hb hK hP hI h_2 rfl hj_5 dX4_pull_18 (ka_FE (cd := 1535115264) (show kEc 15 (13 * b) = 1535115264 from if_pos (by omega)) (by decide) fun x_6 h_7_e h_7 => ?_)
  refine lv_fload_n hx hb dX4_pull_19 rfl (lv_at hl 3 rfl) ?_
  refine kw_satS (M := 1535115264) hx hb dX4_pull_20 h_7 h_x (by decide) (by decide) (by decide +kernel) (fun z_8 hz_9 => ?_)
  have hj_10 : 13 * b < τ 3 x_1 := by rw [show τ 3 x_1 = 3328 from (hI.arr h_2 rfl).2.1]; omega
  refine W.eq (g2 := F0 m 21 ls (.float z_8 :: .int (nI (13 * b)) :: .ref x_1 :: [])) rfl ?_
  refine kp_fastX (pv' := pv) (j := 13 * b) hx hb hK hP hD hS hI h_2 rfl hj_10 (fun _ _ _ => rfl) (show kPr τ (kEc 15 (13 * b)) _ _ from (show kEc 15 (13 * b) = 1535115264 from if_pos (by omega)).symm ▸ (kv_F (by decide) hz_9)) (kPn_not rfl (by decide)) dX4_pull_21 (fun f H locs hI hP hD hS => ?_)
  refine lv_aload_n hx hb dX4_pull_22 rfl (lv_at hl 1 rfl) ?_
  refine kp_get hx hb hts i_X4 hown hK hP hI hW.tm rfl rfl 2 (by decide) (by decide) (hts (.fieldLink RX4 7 "IslandSolverModel" "body" "[F") (by decide +kernel)) (fun _ h9 => h9) dX4_pull_23 (kq_RE 15 (by decide) fun x_11 h_12_e h_12 => ?_)
  refine lv_iload hx hb dX4_pull_26 (lv_at hl 0 rfl) ?_
  refine lv_iconst (v := 1) hx hb dX4_pull_28 (by decide) ?_
  refine lv_iadd hx hb dX4_pull_29 ?_
  refine lv_topi (nm_r (show (nI (13 * b)) + 1 = nI (13 * b + 1) from nI_add (13 * b) 1) ?_)
  refine lv_aload_n hx hb dX4_pull_30 rfl (lv_at hl 1 rfl) ?_
  refine kp_get hx hb hts i_X4 hown hK hP hI hW.tm rfl rfl 2 (by decide) (by decide) (hts (.fieldLink RX4 7 "IslandSolverModel" "body" "[F") (by decide +kernel)) (fun _ h9 => h9) dX4_pull_31 (kq_E h_12_e ?_)
  refine lv_iload hx hb dX4_pull_34 (lv_at hl 0 rfl) ?_
  refine lv_iconst (v := 1) hx hb dX4_pull_36 (by decide) ?_
  refine lv_iadd hx hb dX4_pull_37 ?_
  refine lv_topi (nm_r (show (nI (13 * b)) + 1 = nI (13 * b + 1) from nI_add (13 * b) 1) ?_)
  have hj_15 : 13 * b + 1 < τ 3 x_11 := by rw [show τ 3 x_11 = 3328 from (hI.arr h_12 rfl).2.1]; omega
  refine W.eq (g2 := F0 m 38 ls (.int (nI (13 * b + 1)) :: .ref x_11 :: [.int (nI (13 * b + 1)), .ref x_11])) rfl ?_
  refine kp_faldE (j := 13 * b + 1) hx hb hK hP hI h_12 rfl hj_15 dX4_pull_38 (ka_FE (cd := 1535115264) (show kEc 15 (13 * b + 1) = 1535115264 from if_pos (by omega)) (by decide) fun x_16 h_17_e h_17 => ?_)
  refine lv_fload_n hx hb dX4_pull_39 rfl (lv_at hl 4 rfl) ?_
  refine kw_satS (M := 1535115264) hx hb dX4_pull_40 h_17 h_y (by decide) (by decide) (by decide +kernel) (fun z_18 hz_19 => ?_)
  have hj_20 : 13 * b + 1 < τ 3 x_11 := by rw [show τ 3 x_11 = 3328 from (hI.arr h_12 rfl).2.1]; omega
  refine W.eq (g2 := F0 m 41 ls (.float z_18 :: .int (nI (13 * b + 1)) :: .ref x_11 :: [])) rfl ?_
  refine kp_fastX (pv' := pv) (j := 13 * b + 1) hx hb hK hP hD hS hI h_12 rfl hj_20 (fun _ _ _ => rfl) (show kPr τ (kEc 15 (13 * b + 1)) _ _ from (show kEc 15 (13 * b + 1) = 1535115264 from if_pos (by omega)).symm ▸ (kv_F (by decide) hz_19)) (kPn_not rfl (by decide)) dX4_pull_41 (fun f H locs hI hP hD hS => ?_)
  refine lv_aload_n hx hb dX4_pull_42 rfl (lv_at hl 1 rfl) ?_
  refine kp_get hx hb hts i_X4 hown hK hP hI hW.tm rfl rfl 2 (by decide) (by decide) (hts (.fieldLink RX4 7 "IslandSolverModel" "body" "[F") (by decide +kernel)) (fun _ h9 => h9) dX4_pull_43 (kq_RE 15 (by decide) fun x_21 h_22_e h_22 => ?_)
  refine lv_iload hx hb dX4_pull_46 (lv_at hl 0 rfl) ?_
  refine lv_iconst (v := 2) hx hb dX4_pull_48 (by decide) ?_
  refine lv_iadd hx hb dX4_pull_49 ?_
  refine lv_topi (nm_r (show (nI (13 * b)) + 2 = nI (13 * b + 2) from nI_add (13 * b) 2) ?_)
  refine lv_aload_n hx hb dX4_pull_50 rfl (lv_at hl 1 rfl) ?_
  refine kp_get hx hb hts i_X4 hown hK hP hI hW.tm rfl rfl 2 (by decide) (by decide) (hts (.fieldLink RX4 7 "IslandSolverModel" "body" "[F") (by decide +kernel)) (fun _ h9 => h9) dX4_pull_51 (kq_E h_22_e ?_)
  refine lv_iload hx hb dX4_pull_54 (lv_at hl 0 rfl) ?_
  refine lv_iconst (v := 2) hx hb dX4_pull_56 (by decide) ?_
  refine lv_iadd hx hb dX4_pull_57 ?_
  refine lv_topi (nm_r (show (nI (13 * b)) + 2 = nI (13 * b + 2) from nI_add (13 * b) 2) ?_)
  have hj_25 : 13 * b + 2 < τ 3 x_21 := by rw [show τ 3 x_21 = 3328 from (hI.arr h_22 rfl).2.1]; omega
  refine W.eq (g2 := F0 m 58 ls (.int (nI (13 * b + 2)) :: .ref x_21 :: [.int (nI (13 * b + 2)), .ref x_21])) rfl ?_
  refine kp_faldE (j := 13 * b + 2) hx hb hK hP hI h_22 rfl hj_25 dX4_pull_58 (ka_FE (cd := 1535115264) (show kEc 15 (13 * b + 2) = 1535115264 from if_pos (by omega)) (by decide) fun x_26 h_27_e h_27 => ?_)
  refine lv_fload hx hb dX4_pull_59 (lv_at hl 5 rfl) ?_
  refine kw_satS (M := 1535115264) hx hb dX4_pull_61 h_27 h_z (by decide) (by decide) (by decide +kernel) (fun z_28 hz_29 => ?_)
  have hj_30 : 13 * b + 2 < τ 3 x_21 := by rw [show τ 3 x_21 = 3328 from (hI.arr h_22 rfl).2.1]; omega
  refine W.eq (g2 := F0 m 62 ls (.float z_28 :: .int (nI (13 * b + 2)) :: .ref x_21 :: [])) rfl ?_
  refine kp_fastX (pv' := pv) (j := 13 * b + 2) hx hb hK hP hD hS hI h_22 rfl hj_30 (fun _ _ _ => rfl) (show kPr τ (kEc 15 (13 * b + 2)) _ _ from (show kEc 15 (13 * b + 2) = 1535115264 from if_pos (by omega)).symm ▸ (kv_F (by decide) hz_29)) (kPn_not rfl (by decide)) dX4_pull_62 (fun f H locs hI hP hD hS => ?_)
  refine lv_aload_n hx hb dX4_pull_63 rfl (lv_at hl 1 rfl) ?_
  refine kp_get hx hb hts i_X4 hown hK hP hI hW.tm rfl rfl 2 (by decide) (by decide) (hts (.fieldLink RX4 7 "IslandSolverModel" "body" "[F") (by decide +kernel)) (fun _ h9 => h9) dX4_pull_64 (kq_RE 15 (by decide) fun x_31 h_32_e h_32 => ?_)
  refine lv_iload hx hb dX4_pull_67 (lv_at hl 0 rfl) ?_
  refine lv_iconst (v := 3) hx hb dX4_pull_69 (by decide) ?_
  refine lv_iadd hx hb dX4_pull_70 ?_
  refine lv_topi (nm_r (show (nI (13 * b)) + 3 = nI (13 * b + 3) from nI_add (13 * b) 3) ?_)
  refine lv_aload_n hx hb dX4_pull_71 rfl (lv_at hl 1 rfl) ?_
  refine kp_get hx hb hts i_X4 hown hK hP hI hW.tm rfl rfl 2 (by decide) (by decide) (hts (.fieldLink RX4 7 "IslandSolverModel" "body" "[F") (by decide +kernel)) (fun _ h9 => h9) dX4_pull_72 (kq_E h_32_e ?_)
  refine lv_iload hx hb dX4_pull_75 (lv_at hl 0 rfl) ?_
  refine lv_iconst (v := 3) hx hb dX4_pull_77 (by decide) ?_
  refine lv_iadd hx hb dX4_pull_78 ?_
  refine lv_topi (nm_r (show (nI (13 * b)) + 3 = nI (13 * b + 3) from nI_add (13 * b) 3) ?_)
  have hj_35 : 13 * b + 3 < τ 3 x_31 := by rw [show τ 3 x_31 = 3328 from (hI.arr h_32 rfl).2.1]; omega
  refine W.eq (g2 := F0 m 79 ls (.int (nI (13 * b + 3)) :: .ref x_31 :: [.int (nI (13 * b + 3)), .ref x_31])) rfl ?_
  refine kp_faldE (j := 13 * b + 3) hx hb hK hP hI h_32 rfl hj_35 dX4_pull_79 (ka_FE (cd := 1535115264) (show kEc 15 (13 * b + 3) = 1535115264 from if_pos (by omega)) (by decide) fun x_36 h_37_e h_37 => ?_)
  refine lv_aload_n hx hb dX4_pull_80 rfl (lv_at hl 1 rfl) ?_
  refine kp_get hx hb hts i_X4 hown hK hP hI hW.tm rfl rfl 32 (by decide) (by decide) (hts (.fieldLink RX4 158 "IslandSolverModel" "px" "F") (by decide +kernel)) (fun _ h9 => h9) dX4_pull_81 (kq_FE (cd := 1161822208) (by decide) fun x_38 h_39_e h_39 => ?_)
  refine lv_fload hx hb dX4_pull_84 (lv_at hl 6 rfl) ?_
  refine kw_fmul (M := 1329594368) hx hb dX4_pull_86 h_39 h_d9 (by decide) (by decide) (by decide +kernel) (by decide) (fun z_40 hz_41 => ?_)
  refine kw_satS (M := 1535115264) hx hb dX4_pull_87 h_37 hz_41 (by decide) (by decide) (by decide +kernel) (fun z_42 hz_43 => ?_)
  have hj_44 : 13 * b + 3 < τ 3 x_31 := by rw [show τ 3 x_31 = 3328 from (hI.arr h_32 rfl).2.1]; omega
  refine W.eq (g2 := F0 m 88 ls (.float z_42 :: .int (nI (13 * b + 3)) :: .ref x_31 :: [])) rfl ?_
  refine kp_fastX (pv' := pv) (j := 13 * b + 3) hx hb hK hP hD hS hI h_32 rfl hj_44 (fun _ _ _ => rfl) (show kPr τ (kEc 15 (13 * b + 3)) _ _ from (show kEc 15 (13 * b + 3) = 1535115264 from if_pos (by omega)).symm ▸ (kv_F (by decide) hz_43)) (kPn_not rfl (by decide)) dX4_pull_88 (fun f H locs hI hP hD hS => ?_)
  refine lv_aload_n hx hb dX4_pull_89 rfl (lv_at hl 1 rfl) ?_
  refine kp_get hx hb hts i_X4 hown hK hP hI hW.tm rfl rfl 2 (by decide) (by decide) (hts (.fieldLink RX4 7 "IslandSolverModel" "body" "[F") (by decide +kernel)) (fun _ h9 => h9) dX4_pull_90 (kq_RE 15 (by decide) fun x_45 h_46_e h_46 => ?_)
  refine lv_iload hx hb dX4_pull_93 (lv_at hl 0 rfl) ?_
  refine lv_iconst (v := 4) hx hb dX4_pull_95 (by decide) ?_
  refine lv_iadd hx hb dX4_pull_96 ?_
  refine lv_topi (nm_r (show (nI (13 * b)) + 4 = nI (13 * b + 4) from nI_add (13 * b) 4) ?_)
  refine lv_aload_n hx hb dX4_pull_97 rfl (lv_at hl 1 rfl) ?_
  refine kp_get hx hb hts i_X4 hown hK hP hI hW.tm rfl rfl 2 (by decide) (by decide) (hts (.fieldLink RX4 7 "IslandSolverModel" "body" "[F") (by decide +kernel)) (fun _ h9 => h9) dX4_pull_98 (kq_E h_46_e ?_)
  refine lv_iload hx hb dX4_pull_101 (lv_at hl 0 rfl) ?_
  refine lv_iconst (v := 4) hx hb dX4_pull_103 (by decide) ?_
  refine lv_iadd hx hb dX4_pull_104 ?_
  refine lv_topi (nm_r (show (nI (13 * b)) + 4 = nI (13 * b + 4) from nI_add (13 * b) 4) ?_)
  have hj_49 : 13 * b + 4 < τ 3 x_45 := by rw [show τ 3 x_45 = 3328 from (hI.arr h_46 rfl).2.1]; omega
  refine W.eq (g2 := F0 m 105 ls (.int (nI (13 * b + 4)) :: .ref x_45 :: [.int (nI (13 * b + 4)), .ref x_45])) rfl ?_
  refine kp_faldE (j := 13 * b + 4) hx hb hK hP hI h_46 rfl hj_49 dX4_pull_105 (ka_FE (cd := 1535115264) (show kEc 15 (13 * b + 4) = 1535115264 from if_pos (by omega)) (by decide) fun x_50 h_51_e h_51 => ?_)
  refine lv_aload_n hx hb dX4_pull_106 rfl (lv_at hl 1 rfl) ?_
  refine kp_get hx hb hts i_X4 hown hK hP hI hW.tm rfl rfl 33 (by decide) (by decide) (hts (.fieldLink RX4 161 "IslandSolverModel" "py" "F") (by decide +kernel)) (fun _ h9 => h9) dX4_pull_107 (kq_FE (cd := 1161822208) (by decide) fun x_52 h_53_e h_53 => ?_)
  refine lv_fload hx hb dX4_pull_110 (lv_at hl 6 rfl) ?_
  refine kw_fmul (M := 1329594368) hx hb dX4_pull_112 h_53 h_d9 (by decide) (by decide) (by decide +kernel) (by decide) (fun z_54 hz_55 => ?_)
  refine kw_satS (M := 1535115264) hx hb dX4_pull_113 h_51 hz_55 (by decide) (by decide) (by decide +kernel) (fun z_56 hz_57 => ?_)
  have hj_58 : 13 * b + 4 < τ 3 x_45 := by rw [show τ 3 x_45 = 3328 from (hI.arr h_46 rfl).2.1]; omega
  refine W.eq (g2 := F0 m 114 ls (.float z_56 :: .int (nI (13 * b + 4)) :: .ref x_45 :: [])) rfl ?_
  refine kp_fastX (pv' := pv) (j := 13 * b + 4) hx hb hK hP hD hS hI h_46 rfl hj_58 (fun _ _ _ => rfl) (show kPr τ (kEc 15 (13 * b + 4)) _ _ from (show kEc 15 (13 * b + 4) = 1535115264 from if_pos (by omega)).symm ▸ (kv_F (by decide) hz_57)) (kPn_not rfl (by decide)) dX4_pull_114 (fun f H locs hI hP hD hS => ?_)
  refine lv_aload_n hx hb dX4_pull_115 rfl (lv_at hl 1 rfl) ?_
  refine kp_get hx hb hts i_X4 hown hK hP hI hW.tm rfl rfl 2 (by decide) (by decide) (hts (.fieldLink RX4 7 "IslandSolverModel" "body" "[F") (by decide +kernel)) (fun _ h9 => h9) dX4_pull_116 (kq_RE 15 (by decide) fun x_59 h_60_e h_60 => ?_)
  refine lv_iload hx hb dX4_pull_119 (lv_at hl 0 rfl) ?_
  refine lv_iconst (v := 5) hx hb dX4_pull_121 (by decide) ?_
  refine lv_iadd hx hb dX4_pull_122 ?_
  refine lv_topi (nm_r (show (nI (13 * b)) + 5 = nI (13 * b + 5) from nI_add (13 * b) 5) ?_)
  refine lv_aload_n hx hb dX4_pull_123 rfl (lv_at hl 1 rfl) ?_
  refine kp_get hx hb hts i_X4 hown hK hP hI hW.tm rfl rfl 2 (by decide) (by decide) (hts (.fieldLink RX4 7 "IslandSolverModel" "body" "[F") (by decide +kernel)) (fun _ h9 => h9) dX4_pull_124 (kq_E h_60_e ?_)
  refine lv_iload hx hb dX4_pull_127 (lv_at hl 0 rfl) ?_
  refine lv_iconst (v := 5) hx hb dX4_pull_129 (by decide) ?_
  refine lv_iadd hx hb dX4_pull_130 ?_
  refine lv_topi (nm_r (show (nI (13 * b)) + 5 = nI (13 * b + 5) from nI_add (13 * b) 5) ?_)
  have hj_63 : 13 * b + 5 < τ 3 x_59 := by rw [show τ 3 x_59 = 3328 from (hI.arr h_60 rfl).2.1]; omega
  refine W.eq (g2 := F0 m 131 ls (.int (nI (13 * b + 5)) :: .ref x_59 :: [.int (nI (13 * b + 5)), .ref x_59])) rfl ?_
  refine kp_faldE (j := 13 * b + 5) hx hb hK hP hI h_60 rfl hj_63 dX4_pull_131 (ka_FE (cd := 1535115264) (show kEc 15 (13 * b + 5) = 1535115264 from if_pos (by omega)) (by decide) fun x_64 h_65_e h_65 => ?_)
  refine lv_aload_n hx hb dX4_pull_132 rfl (lv_at hl 1 rfl) ?_
  refine kp_get hx hb hts i_X4 hown hK hP hI hW.tm rfl rfl 34 (by decide) (by decide) (hts (.fieldLink RX4 164 "IslandSolverModel" "pz" "F") (by decide +kernel)) (fun _ h9 => h9) dX4_pull_133 (kq_FE (cd := 1161822208) (by decide) fun x_66 h_67_e h_67 => ?_)
  refine lv_fload hx hb dX4_pull_136 (lv_at hl 6 rfl) ?_
  refine kw_fmul (M := 1329594368) hx hb dX4_pull_138 h_67 h_d9 (by decide) (by decide) (by decide +kernel) (by decide) (fun z_68 hz_69 => ?_)
  refine kw_satS (M := 1535115264) hx hb dX4_pull_139 h_65 hz_69 (by decide) (by decide) (by decide +kernel) (fun z_70 hz_71 => ?_)
  have hj_72 : 13 * b + 5 < τ 3 x_59 := by rw [show τ 3 x_59 = 3328 from (hI.arr h_60 rfl).2.1]; omega
  refine W.eq (g2 := F0 m 140 ls (.float z_70 :: .int (nI (13 * b + 5)) :: .ref x_59 :: [])) rfl ?_
  refine kp_fastX (pv' := pv) (j := 13 * b + 5) hx hb hK hP hD hS hI h_60 rfl hj_72 (fun _ _ _ => rfl) (show kPr τ (kEc 15 (13 * b + 5)) _ _ from (show kEc 15 (13 * b + 5) = 1535115264 from if_pos (by omega)).symm ▸ (kv_F (by decide) hz_71)) (kPn_not rfl (by decide)) dX4_pull_140 (fun f H locs hI hP hD hS => ?_)
  refine W.widen (k := 0) (n := 0) (Nat.le_of_ble_eq_true rfl) (Nat.le_of_ble_eq_true rfl) ?_
  exact W.vret hx hb hr (fun t ht hW9 => ⟨⟨(L, f), rfl, hI, by rw [ht]; exact hP, va_K.moved hW9.alike hK, hD⟩, hS.F ht⟩) hS.2.2 dX4_pull_141
set_option maxHeartbeats 4000000 in
set_option maxRecDepth 100000 in
theorem k_apply4 (l : Launch) (dC : Nat → ClassId) (dI : Nat → Nat → Nat) (dA : Nat → ClassId) (ad sz : Nat) (τ : Nat → Nat → Nat) (pv : Nat → Nat → Value) (L : List Nat) (f : Nat → va_E) (hI : kI dA τ pv L f) (mm fa sa aa ia sf mb mr mk mi : Nat) (hW : kMd τ pv mm fa sa aa ia sf mb mr mk mi) (r : Nat) (hr : r < mr) (d9 : UInt32) (h_d9 : fb 1233125376 d9) : Met l yX4_apply wsX4_apply ({ frames := 2, cells := 0, slots := 0, locals := 50 } : Room) (va_Pc [.ref mm, .int (nI r), .float d9] (kB dC dI dA ad sz L f)) (va_Qv (fun u => kI dA τ pv u.1 u.2) (kR dC dI dA (va_A (va_pl L f) sz)) (va_A (va_pl L f) sz)) 0 0 (va_A (va_pl L f) sz) := by
  refine Met.ofW (cc := cX4_apply) (maxL := 7) (ret := none) (by decide) rfl ?_
  intro p e s m args below meth c s₁ B hml hv
  obtain ⟨rfl, hsz, hP, hK, hD0, hE⟩ := hv
  have hx := B.exec
  have hb := B.bytes
  have hr := B.returns
  have hts := atoms_spec (ws := wsX4_apply) B.pre
  have hown : s.vm.findClass RX4 = some m.cls := findClass_of_methodNamed B.named
  have hlocks := B.notSynchronized
  have i_X4 : ∀ w ∈ u_ws RX4 TX4 35, w ∈ wsX4_apply := by decide +kernel
  subst hsz
  have hD := hD0.self (sz := s.heap.size)
  generalize hAe : va_A (va_pl L f) s.heap.size = A at hD hE ⊢
  have hA : ∀ q : Nat, s.heap.size ≤ q → A q := fun q h => by rw [← hAe]; exact Or.inr h
  have hS : va_S A s.heap s.heap [] := va_S.rf
  have hP : va_P (dC, dI) vwCl (va_pl L f) s.heap := hP
  have hK : va_K (dC, dI) vwCl (tyA dA) s := hK
  have hl := lv_entry ([.ref mm, .int (nI r), .float d9]) (n := 7) (Nat.le_of_ble_eq_true rfl)
  rw [lg_entry_eq]
  generalize (lg_sl ([.ref mm, .int (nI r), .float d9]) ++ List.replicate (7 - (lg_sl ([.ref mm, .int (nI r), .float d9])).length) Slot.unset).toArray = ls at hl ⊢
  have hl : lv_has ls 7 [(0, .ref mm), (1, .int (nI r)), (2, .float d9)] := hl
  have hnb := hW.lb
  have hnr := hW.lr
  have hnk := hW.lk
  have hni := hW.li
  refine lv_bipush (v := 9) hx hb dX4_apply_0 (by decide) ?_
  refine lv_iload_n hx hb dX4_apply_2 rfl (lv_at hl 1 rfl) ?_
  refine lv_imul hx hb dX4_apply_3 ?_
  refine lv_topi (nm_r (show (9 : Int32) * (nI r) = nI (9 * r) from pk_mul 9 r) ?_)
  refine lv_istore_n (lv' := [(3, .int (nI (9 * r))), (0, .ref mm), (1, .int (nI r)), (2, .float d9)]) hx hb dX4_apply_4 rfl hl (by decide) rfl (fun ls hl => ?_)
  refine lv_aload_n hx hb dX4_apply_5 rfl (lv_at hl 1 rfl) ?_
  refine kp_get hx hb hts i_X4 hown hK hP hI hW.tm rfl rfl 7 (by decide) (by decide) (hts (.fieldLink RX4 24 "IslandSolverModel" "firsts" "[I") (by decide +kernel)) (fun _ h9 => h9) dX4_apply_6 (kq_P (v0 := .ref fa) rfl hW.p7 fun h_2 => ?_)
  refine lv_iload_n hx hb dX4_apply_9 rfl (lv_at hl 2 rfl) ?_
  have hj_3 : r < τ 3 fa := by rw [show τ 3 fa = 1024 from (hI.arr hW.tf rfl).2.1]; omega
  refine W.eq (g2 := F0 m 10 ls (.int (nI (r)) :: .ref fa :: [])) rfl ?_
  obtain ⟨ra6, rb6, rt6, ja6, la6, jb6, lb6, jt6, lt6, kt6⟩ := hW.rw (r := r) (by omega)
  refine kp_iald (j := r) hx hb hK hP hI hW.tf rfl hj_3 dX4_apply_10 (ka_P (x0 := nI ra6) rfl ja6 ?_)
  refine lv_istore (lv' := [(4, .int (nI ra6)), (3, .int (nI (9 * r))), (0, .ref mm), (1, .int (nI r)), (2, .float d9)]) hx hb dX4_apply_11 hl (by decide) rfl (fun ls hl => ?_)
  refine lv_aload_n hx hb dX4_apply_13 rfl (lv_at hl 2 rfl) ?_
  refine kp_get hx hb hts i_X4 hown hK hP hI hW.tm rfl rfl 8 (by decide) (by decide) (hts (.fieldLink RX4 27 "IslandSolverModel" "seconds" "[I") (by decide +kernel)) (fun _ h9 => h9) dX4_apply_14 (kq_P (v0 := .ref sa) rfl hW.p8 fun h_8 => ?_)
  refine lv_iload_n hx hb dX4_apply_17 rfl (lv_at hl 3 rfl) ?_
  have hj_9 : r < τ 3 sa := by rw [show τ 3 sa = 1024 from (hI.arr hW.ts rfl).2.1]; omega
  refine W.eq (g2 := F0 m 18 ls (.int (nI (r)) :: .ref sa :: [])) rfl ?_
  rcases rb6 with _ | rb6_2
  · refine kp_iald (j := r) hx hb hK hP hI hW.ts rfl hj_9 dX4_apply_18 (ka_P (x0 := (-1)) rfl jb6 ?_)
    refine lv_istore (lv' := [(5, .int (-1)), (4, .int (nI ra6)), (3, .int (nI (9 * r))), (0, .ref mm), (1, .int (nI r)), (2, .float d9)]) hx hb dX4_apply_19 hl (by decide) rfl (fun ls hl => ?_)
    refine lv_aload_n hx hb dX4_apply_21 rfl (lv_at hl 3 rfl) ?_
    refine lv_iload hx hb dX4_apply_22 (lv_at hl 1 rfl) ?_
    refine kd_calli (va_runV (As := [.int (nI ra6)]) (rest := []) ⟨hx, hb, hml, hown, hts⟩ (k_movN l dC dI dA ad _ τ pv _ _ hI mm fa sa aa ia sf mb mr mk mi hW ra6 (by omega)) (cwV 1 hts gX4_apply_X4_movable rfl rfl rfl (by decide +kernel) ⟨Nat.le_of_ble_eq_true rfl, Nat.le_of_ble_eq_true rfl⟩) (kd_preV hP hD hK hS hA hE hI hW.tm rfl rfl) rfl rfl hl.1 rfl (lv_room (Nat.le_of_ble_eq_true rfl)) dX4_apply_24 ⟨Nat.le_of_ble_eq_true rfl, Nat.le_of_ble_eq_true rfl⟩) hD hS hA (fun r_13 u_12 H locs hw hP hD hS => ?_)
    obtain ⟨hr_13, hI⟩ := hw
    refine lv_if_eq (tgt := 93) hx hb dX4_apply_27 (by decide) (fun c_14 => ?_) (fun c_14 => ?_)
    · subst c_14
      refine lv_aload_n hx hb dX4_apply_93 rfl (lv_at hl 3 rfl) ?_
      refine lv_iload hx hb dX4_apply_94 (lv_at hl 0 rfl) ?_
      refine kd_calli (va_runV (As := [.int (-1)]) (rest := []) ⟨hx, hb, hml, hown, hts⟩ (k_movM l dC dI dA ad _ τ pv _ _ hI mm fa sa aa ia sf mb mr mk mi hW ) (cwV 1 hts gX4_apply_X4_movable rfl rfl rfl (by decide +kernel) ⟨Nat.le_of_ble_eq_true rfl, Nat.le_of_ble_eq_true rfl⟩) (kd_preV hP hD hK hS hA hE hI hW.tm rfl rfl) rfl rfl hl.1 rfl (lv_room (Nat.le_of_ble_eq_true rfl)) dX4_apply_96 ⟨Nat.le_of_ble_eq_true rfl, Nat.le_of_ble_eq_true rfl⟩) hD hS hA (fun r_16 u_15 H locs hw hP hD hS => ?_)
      obtain ⟨rfl, hI⟩ := hw
      refine lv_if_eq (tgt := 166) hx hb dX4_apply_99 (by decide) (fun _ => ?_) (fun h9 => by first | exact absurd h9 (by decide) | exact absurd (by decide) h9)
      refine W.widen (k := 0) (n := 0) (Nat.le_of_ble_eq_true rfl) (Nat.le_of_ble_eq_true rfl) ?_
      exact W.vret hx hb hr (fun t ht hW9 => ⟨⟨(u_15.1, u_15.2), rfl, hI, by rw [ht]; exact hP, va_K.moved hW9.alike hK, hD⟩, hS.F ht⟩) hS.2.2 dX4_apply_166
    · obtain rfl : r_13 = 1 := (hr_13).resolve_left c_14
      refine lv_aload_n hx hb dX4_apply_30 rfl (lv_at hl 3 rfl) ?_
      refine kp_get hx hb hts i_X4 hown hK hP hI hW.tm rfl rfl 2 (by decide) (by decide) (hts (.fieldLink RX4 7 "IslandSolverModel" "body" "[F") (by decide +kernel)) (fun _ h9 => h9) dX4_apply_31 (kq_RE 15 (by decide) fun x_17 h_18_e h_18 => ?_)
      refine lv_bipush (v := 13) hx hb dX4_apply_34 (by decide) ?_
      refine lv_iload hx hb dX4_apply_36 (lv_at hl 1 rfl) ?_
      refine lv_imul hx hb dX4_apply_38 ?_
      refine lv_topi (nm_r (show (13 : Int32) * (nI ra6) = nI (13 * ra6) from pk_mul 13 ra6) ?_)
      refine lv_bipush (v := 6) hx hb dX4_apply_39 (by decide) ?_
      refine lv_iadd hx hb dX4_apply_41 ?_
      refine lv_topi (nm_r (show (nI (13 * ra6)) + 6 = nI (13 * ra6 + 6) from nI_add (13 * ra6) 6) ?_)
      have hj_19 : 13 * ra6 + 6 < τ 3 x_17 := by rw [show τ 3 x_17 = 3328 from (hI.arr h_18 rfl).2.1]; omega
      refine W.eq (g2 := F0 m 42 ls (.int (nI (13 * ra6 + 6)) :: .ref x_17 :: [])) rfl ?_
      refine kp_faldE (j := 13 * ra6 + 6) hx hb hK hP hI h_18 rfl hj_19 dX4_apply_42 (ka_FE (cd := 1098907648) (show kEc 15 (13 * ra6 + 6) = 1098907648 from if_neg (by omega)) (by decide) fun x_20 h_21_e h_21 => ?_)
      refine lv_fload_n hx hb dX4_apply_43 rfl (lv_at hl 5 rfl) ?_
      refine kw_fmul (M := 1266679808) hx hb dX4_apply_44 h_21 h_d9 (by decide) (by decide) (by decide +kernel) (by decide) (fun z_22 hz_23 => ?_)
      refine lv_fstore (lv' := [(6, .float z_22), (5, .int (-1)), (4, .int (nI ra6)), (3, .int (nI (9 * r))), (0, .ref mm), (1, .int (nI r)), (2, .float d9)]) hx hb dX4_apply_45 hl (by decide) rfl (fun ls hl => ?_)
      refine lv_aload_n hx hb dX4_apply_47 rfl (lv_at hl 4 rfl) ?_
      refine lv_iload_n hx hb dX4_apply_48 rfl (lv_at hl 5 rfl) ?_
      refine lv_iconst (v := 3) hx hb dX4_apply_49 (by decide) ?_
      refine lv_iload hx hb dX4_apply_50 (lv_at hl 2 rfl) ?_
      refine kd_callv (va_runV (As := [.int (nI r), .int 3, .int (nI ra6)]) (rest := []) ⟨hx, hb, hml, hown, hts⟩ (k_turnN3 l dC dI dA ad _ τ pv _ _ hI mm fa sa aa ia sf mb mr mk mi hW r ra6 (by omega) (by omega)) (cwV 3 hts gX4_apply_X4_turn rfl rfl rfl (by decide +kernel) ⟨Nat.le_of_ble_eq_true rfl, Nat.le_of_ble_eq_true rfl⟩) (kd_preV hP hD hK hS hA hE hI hW.tm rfl rfl) rfl rfl hl.1 rfl (lv_room (Nat.le_of_ble_eq_true rfl)) dX4_apply_52 ⟨Nat.le_of_ble_eq_true rfl, Nat.le_of_ble_eq_true rfl⟩) hD hS hA (fun u_24 H locs hw hP hD hS => ?_)
      have hI := hw
      refine lv_aload_n hx hb dX4_apply_55 rfl (lv_at hl 4 rfl) ?_
      refine lv_iload hx hb dX4_apply_56 (lv_at hl 2 rfl) ?_
      refine lv_aload_n hx hb dX4_apply_58 rfl (lv_at hl 4 rfl) ?_
      refine kp_get hx hb hts i_X4 hown hK hP hI hW.tm rfl rfl 9 (by decide) (by decide) (hts (.fieldLink RX4 30 "IslandSolverModel" "ways" "[F") (by decide +kernel)) (fun _ h9 => h9) dX4_apply_59 (kq_RE 21 (by decide) fun x_25 h_26_e h_26 => ?_)
      refine lv_iload_n hx hb dX4_apply_62 rfl (lv_at hl 3 rfl) ?_
      have hj_27 : 9 * r < τ 3 x_25 := by rw [show τ 3 x_25 = 9216 from (hI.arr h_26 rfl).2.1]; omega
      refine W.eq (g2 := F0 m 63 ls (.int (nI (9 * r)) :: .ref x_25 :: [.int (nI ra6), .ref mm])) rfl ?_
      refine kp_fald (j := 9 * r) hx hb hK hP hI h_26 rfl hj_27 dX4_apply_63 (ka_F (cd := 1115684864) rfl (by decide) fun x_28 h_29 => ?_)
      refine lv_fload hx hb dX4_apply_64 (lv_at hl 0 rfl) ?_
      refine kw_fmul (M := 1317011456) hx hb dX4_apply_66 h_29 hz_23 (by decide) (by decide) (by decide +kernel) (by decide) (fun z_30 hz_31 => ?_)
      refine lv_aload_n hx hb dX4_apply_67 rfl (lv_at hl 4 rfl) ?_
      refine kp_get hx hb hts i_X4 hown hK hP hI hW.tm rfl rfl 9 (by decide) (by decide) (hts (.fieldLink RX4 30 "IslandSolverModel" "ways" "[F") (by decide +kernel)) (fun _ h9 => h9) dX4_apply_68 (kq_E h_26_e ?_)
      refine lv_iload_n hx hb dX4_apply_71 rfl (lv_at hl 3 rfl) ?_
      refine lv_iconst (v := 1) hx hb dX4_apply_72 (by decide) ?_
      refine lv_iadd hx hb dX4_apply_73 ?_
      refine lv_topi (nm_r (show (nI (9 * r)) + 1 = nI (9 * r + 1) from nI_add (9 * r) 1) ?_)
      have hj_34 : 9 * r + 1 < τ 3 x_25 := by rw [show τ 3 x_25 = 9216 from (hI.arr h_26 rfl).2.1]; omega
      refine W.eq (g2 := F0 m 74 ls (.int (nI (9 * r + 1)) :: .ref x_25 :: [.float z_30, .int (nI ra6), .ref mm])) rfl ?_
      refine kp_fald (j := 9 * r + 1) hx hb hK hP hI h_26 rfl hj_34 dX4_apply_74 (ka_F (cd := 1115684864) rfl (by decide) fun x_35 h_36 => ?_)
      refine lv_fload hx hb dX4_apply_75 (lv_at hl 0 rfl) ?_
      refine kw_fmul (M := 1317011456) hx hb dX4_apply_77 h_36 hz_23 (by decide) (by decide) (by decide +kernel) (by decide) (fun z_37 hz_38 => ?_)
      refine lv_aload_n hx hb dX4_apply_78 rfl (lv_at hl 4 rfl) ?_
      refine kp_get hx hb hts i_X4 hown hK hP hI hW.tm rfl rfl 9 (by decide) (by decide) (hts (.fieldLink RX4 30 "IslandSolverModel" "ways" "[F") (by decide +kernel)) (fun _ h9 => h9) dX4_apply_79 (kq_E h_26_e ?_)
      refine lv_iload_n hx hb dX4_apply_82 rfl (lv_at hl 3 rfl) ?_
      refine lv_iconst (v := 2) hx hb dX4_apply_83 (by decide) ?_
      refine lv_iadd hx hb dX4_apply_84 ?_
      refine lv_topi (nm_r (show (nI (9 * r)) + 2 = nI (9 * r + 2) from nI_add (9 * r) 2) ?_)
      have hj_41 : 9 * r + 2 < τ 3 x_25 := by rw [show τ 3 x_25 = 9216 from (hI.arr h_26 rfl).2.1]; omega
      refine W.eq (g2 := F0 m 85 ls (.int (nI (9 * r + 2)) :: .ref x_25 :: [.float z_37, .float z_30, .int (nI ra6), .ref mm])) rfl ?_
      refine kp_fald (j := 9 * r + 2) hx hb hK hP hI h_26 rfl hj_41 dX4_apply_85 (ka_F (cd := 1115684864) rfl (by decide) fun x_42 h_43 => ?_)
      refine lv_fload hx hb dX4_apply_86 (lv_at hl 0 rfl) ?_
      refine kw_fmul (M := 1317011456) hx hb dX4_apply_88 h_43 hz_23 (by decide) (by decide) (by decide +kernel) (by decide) (fun z_44 hz_45 => ?_)
      refine lv_fload_n hx hb dX4_apply_89 rfl (lv_at hl 6 rfl) ?_
      refine kd_callv (va_runV (As := [.int (nI ra6), .float z_30, .float z_37, .float z_44, .float d9]) (rest := []) ⟨hx, hb, hml, hown, hts⟩ (k_push4 l dC dI dA ad _ τ pv _ _ hI mm fa sa aa ia sf mb mr mk mi hW ra6 (by omega) z_30 z_37 z_44 d9 hz_31 hz_38 hz_45 h_d9) (cwV 5 hts gX4_apply_X4_push rfl rfl rfl (by decide +kernel) ⟨Nat.le_of_ble_eq_true rfl, Nat.le_of_ble_eq_true rfl⟩) (kd_preV hP hD hK hS hA hE hI hW.tm rfl rfl) rfl rfl hl.1 rfl (lv_room (Nat.le_of_ble_eq_true rfl)) dX4_apply_90 ⟨Nat.le_of_ble_eq_true rfl, Nat.le_of_ble_eq_true rfl⟩) hD hS hA (fun u_46 H locs hw hP hD hS => ?_)
      have hI := hw
      refine lv_aload_n hx hb dX4_apply_93 rfl (lv_at hl 4 rfl) ?_
      refine lv_iload hx hb dX4_apply_94 (lv_at hl 1 rfl) ?_
      refine kd_calli (va_runV (As := [.int (-1)]) (rest := []) ⟨hx, hb, hml, hown, hts⟩ (k_movM l dC dI dA ad _ τ pv _ _ hI mm fa sa aa ia sf mb mr mk mi hW ) (cwV 1 hts gX4_apply_X4_movable rfl rfl rfl (by decide +kernel) ⟨Nat.le_of_ble_eq_true rfl, Nat.le_of_ble_eq_true rfl⟩) (kd_preV hP hD hK hS hA hE hI hW.tm rfl rfl) rfl rfl hl.1 rfl (lv_room (Nat.le_of_ble_eq_true rfl)) dX4_apply_96 ⟨Nat.le_of_ble_eq_true rfl, Nat.le_of_ble_eq_true rfl⟩) hD hS hA (fun r_48 u_47 H locs hw hP hD hS => ?_)
      obtain ⟨rfl, hI⟩ := hw
      refine lv_if_eq (tgt := 166) hx hb dX4_apply_99 (by decide) (fun _ => ?_) (fun h9 => by first | exact absurd h9 (by decide) | exact absurd (by decide) h9)
      refine W.widen (k := 0) (n := 0) (Nat.le_of_ble_eq_true rfl) (Nat.le_of_ble_eq_true rfl) ?_
      exact W.vret hx hb hr (fun t ht hW9 => ⟨⟨(u_47.1, u_47.2), rfl, hI, by rw [ht]; exact hP, va_K.moved hW9.alike hK, hD⟩, hS.F ht⟩) hS.2.2 dX4_apply_166
  · refine kp_iald (j := r) hx hb hK hP hI hW.ts rfl hj_9 dX4_apply_18 (ka_P (x0 := (nI rb6_2)) rfl jb6 ?_)
    refine lv_istore (lv' := [(5, .int (nI rb6_2)), (4, .int (nI ra6)), (3, .int (nI (9 * r))), (0, .ref mm), (1, .int (nI r)), (2, .float d9)]) hx hb dX4_apply_19 hl (by decide) rfl (fun ls hl => ?_)
    refine lv_aload_n hx hb dX4_apply_21 rfl (lv_at hl 3 rfl) ?_
    refine lv_iload hx hb dX4_apply_22 (lv_at hl 1 rfl) ?_
    refine kd_calli (va_runV (As := [.int (nI ra6)]) (rest := []) ⟨hx, hb, hml, hown, hts⟩ (k_movN l dC dI dA ad _ τ pv _ _ hI mm fa sa aa ia sf mb mr mk mi hW ra6 (by omega)) (cwV 1 hts gX4_apply_X4_movable rfl rfl rfl (by decide +kernel) ⟨Nat.le_of_ble_eq_true rfl, Nat.le_of_ble_eq_true rfl⟩) (kd_preV hP hD hK hS hA hE hI hW.tm rfl rfl) rfl rfl hl.1 rfl (lv_room (Nat.le_of_ble_eq_true rfl)) dX4_apply_24 ⟨Nat.le_of_ble_eq_true rfl, Nat.le_of_ble_eq_true rfl⟩) hD hS hA (fun r_50 u_49 H locs hw hP hD hS => ?_)
    obtain ⟨hr_50, hI⟩ := hw
    refine lv_if_eq (tgt := 93) hx hb dX4_apply_27 (by decide) (fun c_51 => ?_) (fun c_51 => ?_)
    · subst c_51
      refine lv_aload_n hx hb dX4_apply_93 rfl (lv_at hl 3 rfl) ?_
      refine lv_iload hx hb dX4_apply_94 (lv_at hl 0 rfl) ?_
      refine kd_calli (va_runV (As := [.int (nI rb6_2)]) (rest := []) ⟨hx, hb, hml, hown, hts⟩ (k_movN l dC dI dA ad _ τ pv _ _ hI mm fa sa aa ia sf mb mr mk mi hW rb6_2 (by omega)) (cwV 1 hts gX4_apply_X4_movable rfl rfl rfl (by decide +kernel) ⟨Nat.le_of_ble_eq_true rfl, Nat.le_of_ble_eq_true rfl⟩) (kd_preV hP hD hK hS hA hE hI hW.tm rfl rfl) rfl rfl hl.1 rfl (lv_room (Nat.le_of_ble_eq_true rfl)) dX4_apply_96 ⟨Nat.le_of_ble_eq_true rfl, Nat.le_of_ble_eq_true rfl⟩) hD hS hA (fun r_53 u_52 H locs hw hP hD hS => ?_)
      obtain ⟨hr_53, hI⟩ := hw
      refine lv_if_eq (tgt := 166) hx hb dX4_apply_99 (by decide) (fun c_54 => ?_) (fun c_54 => ?_)
      · subst c_54
        refine W.widen (k := 0) (n := 0) (Nat.le_of_ble_eq_true rfl) (Nat.le_of_ble_eq_true rfl) ?_
        exact W.vret hx hb hr (fun t ht hW9 => ⟨⟨(u_52.1, u_52.2), rfl, hI, by rw [ht]; exact hP, va_K.moved hW9.alike hK, hD⟩, hS.F ht⟩) hS.2.2 dX4_apply_166
      · obtain rfl : r_53 = 1 := (hr_53).resolve_left c_54
        refine lv_aload_n hx hb dX4_apply_102 rfl (lv_at hl 3 rfl) ?_
        refine kp_get hx hb hts i_X4 hown hK hP hI hW.tm rfl rfl 2 (by decide) (by decide) (hts (.fieldLink RX4 7 "IslandSolverModel" "body" "[F") (by decide +kernel)) (fun _ h9 => h9) dX4_apply_103 (kq_RE 15 (by decide) fun x_55 h_56_e h_56 => ?_)
        refine lv_bipush (v := 13) hx hb dX4_apply_106 (by decide) ?_
        refine lv_iload hx hb dX4_apply_108 (lv_at hl 0 rfl) ?_
        refine lv_imul hx hb dX4_apply_110 ?_
        refine lv_topi (nm_r (show (13 : Int32) * (nI rb6_2) = nI (13 * rb6_2) from pk_mul 13 rb6_2) ?_)
        refine lv_bipush (v := 6) hx hb dX4_apply_111 (by decide) ?_
        refine lv_iadd hx hb dX4_apply_113 ?_
        refine lv_topi (nm_r (show (nI (13 * rb6_2)) + 6 = nI (13 * rb6_2 + 6) from nI_add (13 * rb6_2) 6) ?_)
        have hj_57 : 13 * rb6_2 + 6 < τ 3 x_55 := by rw [show τ 3 x_55 = 3328 from (hI.arr h_56 rfl).2.1]; omega
        refine W.eq (g2 := F0 m 114 ls (.int (nI (13 * rb6_2 + 6)) :: .ref x_55 :: [])) rfl ?_
        refine kp_faldE (j := 13 * rb6_2 + 6) hx hb hK hP hI h_56 rfl hj_57 dX4_apply_114 (ka_FE (cd := 1098907648) (show kEc 15 (13 * rb6_2 + 6) = 1098907648 from if_neg (by omega)) (by decide) fun x_58 h_59_e h_59 => ?_)
        refine lv_fload_n hx hb dX4_apply_115 rfl (lv_at hl 5 rfl) ?_
        refine kw_fmul (M := 1266679808) hx hb dX4_apply_116 h_59 h_d9 (by decide) (by decide) (by decide +kernel) (by decide) (fun z_60 hz_61 => ?_)
        refine lv_fstore (lv' := [(6, .float z_60), (5, .int (nI rb6_2)), (4, .int (nI ra6)), (3, .int (nI (9 * r))), (0, .ref mm), (1, .int (nI r)), (2, .float d9)]) hx hb dX4_apply_117 hl (by decide) rfl (fun ls hl => ?_)
        refine lv_aload_n hx hb dX4_apply_119 rfl (lv_at hl 4 rfl) ?_
        refine lv_iload_n hx hb dX4_apply_120 rfl (lv_at hl 5 rfl) ?_
        refine lv_bipush (v := 6) hx hb dX4_apply_121 (by decide) ?_
        refine lv_iload hx hb dX4_apply_123 (lv_at hl 1 rfl) ?_
        refine kd_callv (va_runV (As := [.int (nI r), .int 6, .int (nI rb6_2)]) (rest := []) ⟨hx, hb, hml, hown, hts⟩ (k_turnN6 l dC dI dA ad _ τ pv _ _ hI mm fa sa aa ia sf mb mr mk mi hW r rb6_2 (by omega) (by omega)) (cwV 3 hts gX4_apply_X4_turn rfl rfl rfl (by decide +kernel) ⟨Nat.le_of_ble_eq_true rfl, Nat.le_of_ble_eq_true rfl⟩) (kd_preV hP hD hK hS hA hE hI hW.tm rfl rfl) rfl rfl hl.1 rfl (lv_room (Nat.le_of_ble_eq_true rfl)) dX4_apply_125 ⟨Nat.le_of_ble_eq_true rfl, Nat.le_of_ble_eq_true rfl⟩) hD hS hA (fun u_62 H locs hw hP hD hS => ?_)
        have hI := hw
        refine lv_aload_n hx hb dX4_apply_128 rfl (lv_at hl 4 rfl) ?_
        refine lv_iload hx hb dX4_apply_129 (lv_at hl 1 rfl) ?_
        refine lv_aload_n hx hb dX4_apply_131 rfl (lv_at hl 4 rfl) ?_
        refine kp_get hx hb hts i_X4 hown hK hP hI hW.tm rfl rfl 9 (by decide) (by decide) (hts (.fieldLink RX4 30 "IslandSolverModel" "ways" "[F") (by decide +kernel)) (fun _ h9 => h9) dX4_apply_132 (kq_RE 21 (by decide) fun x_63 h_64_e h_64 => ?_)
        refine lv_iload_n hx hb dX4_apply_135 rfl (lv_at hl 3 rfl) ?_
        have hj_65 : 9 * r < τ 3 x_63 := by rw [show τ 3 x_63 = 9216 from (hI.arr h_64 rfl).2.1]; omega
        refine W.eq (g2 := F0 m 136 ls (.int (nI (9 * r)) :: .ref x_63 :: [.int (nI rb6_2), .ref mm])) rfl ?_
        refine kp_fald (j := 9 * r) hx hb hK hP hI h_64 rfl hj_65 dX4_apply_136 (ka_F (cd := 1115684864) rfl (by decide) fun x_66 h_67 => ?_)
        refine lv_fload hx hb dX4_apply_137 (lv_at hl 0 rfl) ?_
        refine kw_fmul (M := 1317011456) hx hb dX4_apply_139 h_67 hz_61 (by decide) (by decide) (by decide +kernel) (by decide) (fun z_68 hz_69 => ?_)
        refine lv_aload_n hx hb dX4_apply_140 rfl (lv_at hl 4 rfl) ?_
        refine kp_get hx hb hts i_X4 hown hK hP hI hW.tm rfl rfl 9 (by decide) (by decide) (hts (.fieldLink RX4 30 "IslandSolverModel" "ways" "[F") (by decide +kernel)) (fun _ h9 => h9) dX4_apply_141 (kq_E h_64_e ?_)
        refine lv_iload_n hx hb dX4_apply_144 rfl (lv_at hl 3 rfl) ?_
        refine lv_iconst (v := 1) hx hb dX4_apply_145 (by decide) ?_
        refine lv_iadd hx hb dX4_apply_146 ?_
        refine lv_topi (nm_r (show (nI (9 * r)) + 1 = nI (9 * r + 1) from nI_add (9 * r) 1) ?_)
        have hj_72 : 9 * r + 1 < τ 3 x_63 := by rw [show τ 3 x_63 = 9216 from (hI.arr h_64 rfl).2.1]; omega
        refine W.eq (g2 := F0 m 147 ls (.int (nI (9 * r + 1)) :: .ref x_63 :: [.float z_68, .int (nI rb6_2), .ref mm])) rfl ?_
        refine kp_fald (j := 9 * r + 1) hx hb hK hP hI h_64 rfl hj_72 dX4_apply_147 (ka_F (cd := 1115684864) rfl (by decide) fun x_73 h_74 => ?_)
        refine lv_fload hx hb dX4_apply_148 (lv_at hl 0 rfl) ?_
        refine kw_fmul (M := 1317011456) hx hb dX4_apply_150 h_74 hz_61 (by decide) (by decide) (by decide +kernel) (by decide) (fun z_75 hz_76 => ?_)
        refine lv_aload_n hx hb dX4_apply_151 rfl (lv_at hl 4 rfl) ?_
        refine kp_get hx hb hts i_X4 hown hK hP hI hW.tm rfl rfl 9 (by decide) (by decide) (hts (.fieldLink RX4 30 "IslandSolverModel" "ways" "[F") (by decide +kernel)) (fun _ h9 => h9) dX4_apply_152 (kq_E h_64_e ?_)
        refine lv_iload_n hx hb dX4_apply_155 rfl (lv_at hl 3 rfl) ?_
        refine lv_iconst (v := 2) hx hb dX4_apply_156 (by decide) ?_
        refine lv_iadd hx hb dX4_apply_157 ?_
        refine lv_topi (nm_r (show (nI (9 * r)) + 2 = nI (9 * r + 2) from nI_add (9 * r) 2) ?_)
        have hj_79 : 9 * r + 2 < τ 3 x_63 := by rw [show τ 3 x_63 = 9216 from (hI.arr h_64 rfl).2.1]; omega
        refine W.eq (g2 := F0 m 158 ls (.int (nI (9 * r + 2)) :: .ref x_63 :: [.float z_75, .float z_68, .int (nI rb6_2), .ref mm])) rfl ?_
        refine kp_fald (j := 9 * r + 2) hx hb hK hP hI h_64 rfl hj_79 dX4_apply_158 (ka_F (cd := 1115684864) rfl (by decide) fun x_80 h_81 => ?_)
        refine lv_fload hx hb dX4_apply_159 (lv_at hl 0 rfl) ?_
        refine kw_fmul (M := 1317011456) hx hb dX4_apply_161 h_81 hz_61 (by decide) (by decide) (by decide +kernel) (by decide) (fun z_82 hz_83 => ?_)
        refine lv_fload_n hx hb dX4_apply_162 rfl (lv_at hl 6 rfl) ?_
        refine kd_callv (va_runV (As := [.int (nI rb6_2), .float z_68, .float z_75, .float z_82, .float d9]) (rest := []) ⟨hx, hb, hml, hown, hts⟩ (k_pull4 l dC dI dA ad _ τ pv _ _ hI mm fa sa aa ia sf mb mr mk mi hW rb6_2 (by omega) z_68 z_75 z_82 d9 hz_69 hz_76 hz_83 h_d9) (cwV 5 hts gX4_apply_X4_pull rfl rfl rfl (by decide +kernel) ⟨Nat.le_of_ble_eq_true rfl, Nat.le_of_ble_eq_true rfl⟩) (kd_preV hP hD hK hS hA hE hI hW.tm rfl rfl) rfl rfl hl.1 rfl (lv_room (Nat.le_of_ble_eq_true rfl)) dX4_apply_163 ⟨Nat.le_of_ble_eq_true rfl, Nat.le_of_ble_eq_true rfl⟩) hD hS hA (fun u_84 H locs hw hP hD hS => ?_)
        have hI := hw
        refine W.widen (k := 0) (n := 0) (Nat.le_of_ble_eq_true rfl) (Nat.le_of_ble_eq_true rfl) ?_
        exact W.vret hx hb hr (fun t ht hW9 => ⟨⟨(u_84.1, u_84.2), rfl, hI, by rw [ht]; exact hP, va_K.moved hW9.alike hK, hD⟩, hS.F ht⟩) hS.2.2 dX4_apply_166
    · obtain rfl : r_50 = 1 := (hr_50).resolve_left c_51
      refine lv_aload_n hx hb dX4_apply_30 rfl (lv_at hl 3 rfl) ?_
      refine kp_get hx hb hts i_X4 hown hK hP hI hW.tm rfl rfl 2 (by decide) (by decide) (hts (.fieldLink RX4 7 "IslandSolverModel" "body" "[F") (by decide +kernel)) (fun _ h9 => h9) dX4_apply_31 (kq_RE 15 (by decide) fun x_85 h_86_e h_86 => ?_)
      refine lv_bipush (v := 13) hx hb dX4_apply_34 (by decide) ?_
      refine lv_iload hx hb dX4_apply_36 (lv_at hl 1 rfl) ?_
      refine lv_imul hx hb dX4_apply_38 ?_
      refine lv_topi (nm_r (show (13 : Int32) * (nI ra6) = nI (13 * ra6) from pk_mul 13 ra6) ?_)
      refine lv_bipush (v := 6) hx hb dX4_apply_39 (by decide) ?_
      refine lv_iadd hx hb dX4_apply_41 ?_
      refine lv_topi (nm_r (show (nI (13 * ra6)) + 6 = nI (13 * ra6 + 6) from nI_add (13 * ra6) 6) ?_)
      have hj_87 : 13 * ra6 + 6 < τ 3 x_85 := by rw [show τ 3 x_85 = 3328 from (hI.arr h_86 rfl).2.1]; omega
      refine W.eq (g2 := F0 m 42 ls (.int (nI (13 * ra6 + 6)) :: .ref x_85 :: [])) rfl ?_
      refine kp_faldE (j := 13 * ra6 + 6) hx hb hK hP hI h_86 rfl hj_87 dX4_apply_42 (ka_FE (cd := 1098907648) (show kEc 15 (13 * ra6 + 6) = 1098907648 from if_neg (by omega)) (by decide) fun x_88 h_89_e h_89 => ?_)
      refine lv_fload_n hx hb dX4_apply_43 rfl (lv_at hl 5 rfl) ?_
      refine kw_fmul (M := 1266679808) hx hb dX4_apply_44 h_89 h_d9 (by decide) (by decide) (by decide +kernel) (by decide) (fun z_90 hz_91 => ?_)
      refine lv_fstore (lv' := [(6, .float z_90), (5, .int (nI rb6_2)), (4, .int (nI ra6)), (3, .int (nI (9 * r))), (0, .ref mm), (1, .int (nI r)), (2, .float d9)]) hx hb dX4_apply_45 hl (by decide) rfl (fun ls hl => ?_)
      refine lv_aload_n hx hb dX4_apply_47 rfl (lv_at hl 4 rfl) ?_
      refine lv_iload_n hx hb dX4_apply_48 rfl (lv_at hl 5 rfl) ?_
      refine lv_iconst (v := 3) hx hb dX4_apply_49 (by decide) ?_
      refine lv_iload hx hb dX4_apply_50 (lv_at hl 2 rfl) ?_
      refine kd_callv (va_runV (As := [.int (nI r), .int 3, .int (nI ra6)]) (rest := []) ⟨hx, hb, hml, hown, hts⟩ (k_turnN3 l dC dI dA ad _ τ pv _ _ hI mm fa sa aa ia sf mb mr mk mi hW r ra6 (by omega) (by omega)) (cwV 3 hts gX4_apply_X4_turn rfl rfl rfl (by decide +kernel) ⟨Nat.le_of_ble_eq_true rfl, Nat.le_of_ble_eq_true rfl⟩) (kd_preV hP hD hK hS hA hE hI hW.tm rfl rfl) rfl rfl hl.1 rfl (lv_room (Nat.le_of_ble_eq_true rfl)) dX4_apply_52 ⟨Nat.le_of_ble_eq_true rfl, Nat.le_of_ble_eq_true rfl⟩) hD hS hA (fun u_92 H locs hw hP hD hS => ?_)
      have hI := hw
      refine lv_aload_n hx hb dX4_apply_55 rfl (lv_at hl 4 rfl) ?_
      refine lv_iload hx hb dX4_apply_56 (lv_at hl 2 rfl) ?_
      refine lv_aload_n hx hb dX4_apply_58 rfl (lv_at hl 4 rfl) ?_
      refine kp_get hx hb hts i_X4 hown hK hP hI hW.tm rfl rfl 9 (by decide) (by decide) (hts (.fieldLink RX4 30 "IslandSolverModel" "ways" "[F") (by decide +kernel)) (fun _ h9 => h9) dX4_apply_59 (kq_RE 21 (by decide) fun x_93 h_94_e h_94 => ?_)
      refine lv_iload_n hx hb dX4_apply_62 rfl (lv_at hl 3 rfl) ?_
      have hj_95 : 9 * r < τ 3 x_93 := by rw [show τ 3 x_93 = 9216 from (hI.arr h_94 rfl).2.1]; omega
      refine W.eq (g2 := F0 m 63 ls (.int (nI (9 * r)) :: .ref x_93 :: [.int (nI ra6), .ref mm])) rfl ?_
      refine kp_fald (j := 9 * r) hx hb hK hP hI h_94 rfl hj_95 dX4_apply_63 (ka_F (cd := 1115684864) rfl (by decide) fun x_96 h_97 => ?_)
      refine lv_fload hx hb dX4_apply_64 (lv_at hl 0 rfl) ?_
      refine kw_fmul (M := 1317011456) hx hb dX4_apply_66 h_97 hz_91 (by decide) (by decide) (by decide +kernel) (by decide) (fun z_98 hz_99 => ?_)
      refine lv_aload_n hx hb dX4_apply_67 rfl (lv_at hl 4 rfl) ?_
      refine kp_get hx hb hts i_X4 hown hK hP hI hW.tm rfl rfl 9 (by decide) (by decide) (hts (.fieldLink RX4 30 "IslandSolverModel" "ways" "[F") (by decide +kernel)) (fun _ h9 => h9) dX4_apply_68 (kq_E h_94_e ?_)
      refine lv_iload_n hx hb dX4_apply_71 rfl (lv_at hl 3 rfl) ?_
      refine lv_iconst (v := 1) hx hb dX4_apply_72 (by decide) ?_
      refine lv_iadd hx hb dX4_apply_73 ?_
      refine lv_topi (nm_r (show (nI (9 * r)) + 1 = nI (9 * r + 1) from nI_add (9 * r) 1) ?_)
      have hj_102 : 9 * r + 1 < τ 3 x_93 := by rw [show τ 3 x_93 = 9216 from (hI.arr h_94 rfl).2.1]; omega
      refine W.eq (g2 := F0 m 74 ls (.int (nI (9 * r + 1)) :: .ref x_93 :: [.float z_98, .int (nI ra6), .ref mm])) rfl ?_
      refine kp_fald (j := 9 * r + 1) hx hb hK hP hI h_94 rfl hj_102 dX4_apply_74 (ka_F (cd := 1115684864) rfl (by decide) fun x_103 h_104 => ?_)
      refine lv_fload hx hb dX4_apply_75 (lv_at hl 0 rfl) ?_
      refine kw_fmul (M := 1317011456) hx hb dX4_apply_77 h_104 hz_91 (by decide) (by decide) (by decide +kernel) (by decide) (fun z_105 hz_106 => ?_)
      refine lv_aload_n hx hb dX4_apply_78 rfl (lv_at hl 4 rfl) ?_
      refine kp_get hx hb hts i_X4 hown hK hP hI hW.tm rfl rfl 9 (by decide) (by decide) (hts (.fieldLink RX4 30 "IslandSolverModel" "ways" "[F") (by decide +kernel)) (fun _ h9 => h9) dX4_apply_79 (kq_E h_94_e ?_)
      refine lv_iload_n hx hb dX4_apply_82 rfl (lv_at hl 3 rfl) ?_
      refine lv_iconst (v := 2) hx hb dX4_apply_83 (by decide) ?_
      refine lv_iadd hx hb dX4_apply_84 ?_
      refine lv_topi (nm_r (show (nI (9 * r)) + 2 = nI (9 * r + 2) from nI_add (9 * r) 2) ?_)
      have hj_109 : 9 * r + 2 < τ 3 x_93 := by rw [show τ 3 x_93 = 9216 from (hI.arr h_94 rfl).2.1]; omega
      refine W.eq (g2 := F0 m 85 ls (.int (nI (9 * r + 2)) :: .ref x_93 :: [.float z_105, .float z_98, .int (nI ra6), .ref mm])) rfl ?_
      refine kp_fald (j := 9 * r + 2) hx hb hK hP hI h_94 rfl hj_109 dX4_apply_85 (ka_F (cd := 1115684864) rfl (by decide) fun x_110 h_111 => ?_)
      refine lv_fload hx hb dX4_apply_86 (lv_at hl 0 rfl) ?_
      refine kw_fmul (M := 1317011456) hx hb dX4_apply_88 h_111 hz_91 (by decide) (by decide) (by decide +kernel) (by decide) (fun z_112 hz_113 => ?_)
      refine lv_fload_n hx hb dX4_apply_89 rfl (lv_at hl 6 rfl) ?_
      refine kd_callv (va_runV (As := [.int (nI ra6), .float z_98, .float z_105, .float z_112, .float d9]) (rest := []) ⟨hx, hb, hml, hown, hts⟩ (k_push4 l dC dI dA ad _ τ pv _ _ hI mm fa sa aa ia sf mb mr mk mi hW ra6 (by omega) z_98 z_105 z_112 d9 hz_99 hz_106 hz_113 h_d9) (cwV 5 hts gX4_apply_X4_push rfl rfl rfl (by decide +kernel) ⟨Nat.le_of_ble_eq_true rfl, Nat.le_of_ble_eq_true rfl⟩) (kd_preV hP hD hK hS hA hE hI hW.tm rfl rfl) rfl rfl hl.1 rfl (lv_room (Nat.le_of_ble_eq_true rfl)) dX4_apply_90 ⟨Nat.le_of_ble_eq_true rfl, Nat.le_of_ble_eq_true rfl⟩) hD hS hA (fun u_114 H locs hw hP hD hS => ?_)
      have hI := hw
      refine lv_aload_n hx hb dX4_apply_93 rfl (lv_at hl 4 rfl) ?_
      refine lv_iload hx hb dX4_apply_94 (lv_at hl 1 rfl) ?_
      refine kd_calli (va_runV (As := [.int (nI rb6_2)]) (rest := []) ⟨hx, hb, hml, hown, hts⟩ (k_movN l dC dI dA ad _ τ pv _ _ hI mm fa sa aa ia sf mb mr mk mi hW rb6_2 (by omega)) (cwV 1 hts gX4_apply_X4_movable rfl rfl rfl (by decide +kernel) ⟨Nat.le_of_ble_eq_true rfl, Nat.le_of_ble_eq_true rfl⟩) (kd_preV hP hD hK hS hA hE hI hW.tm rfl rfl) rfl rfl hl.1 rfl (lv_room (Nat.le_of_ble_eq_true rfl)) dX4_apply_96 ⟨Nat.le_of_ble_eq_true rfl, Nat.le_of_ble_eq_true rfl⟩) hD hS hA (fun r_116 u_115 H locs hw hP hD hS => ?_)
      obtain ⟨hr_116, hI⟩ := hw
      refine lv_if_eq (tgt := 166) hx hb dX4_apply_99 (by decide) (fun c_117 => ?_) (fun c_117 => ?_)
      · subst c_117
        refine W.widen (k := 0) (n := 0) (Nat.le_of_ble_eq_true rfl) (Nat.le_of_ble_eq_true rfl) ?_
        exact W.vret hx hb hr (fun t ht hW9 => ⟨⟨(u_115.1, u_115.2), rfl, hI, by rw [ht]; exact hP, va_K.moved hW9.alike hK, hD⟩, hS.F ht⟩) hS.2.2 dX4_apply_166
      · obtain rfl : r_116 = 1 := (hr_116).resolve_left c_117
        refine lv_aload_n hx hb dX4_apply_102 rfl (lv_at hl 4 rfl) ?_
        refine kp_get hx hb hts i_X4 hown hK hP hI hW.tm rfl rfl 2 (by decide) (by decide) (hts (.fieldLink RX4 7 "IslandSolverModel" "body" "[F") (by decide +kernel)) (fun _ h9 => h9) dX4_apply_103 (kq_RE 15 (by decide) fun x_118 h_119_e h_119 => ?_)
        refine lv_bipush (v := 13) hx hb dX4_apply_106 (by decide) ?_
        refine lv_iload hx hb dX4_apply_108 (lv_at hl 1 rfl) ?_
        refine lv_imul hx hb dX4_apply_110 ?_
        refine lv_topi (nm_r (show (13 : Int32) * (nI rb6_2) = nI (13 * rb6_2) from pk_mul 13 rb6_2) ?_)
        refine lv_bipush (v := 6) hx hb dX4_apply_111 (by decide) ?_
        refine lv_iadd hx hb dX4_apply_113 ?_
        refine lv_topi (nm_r (show (nI (13 * rb6_2)) + 6 = nI (13 * rb6_2 + 6) from nI_add (13 * rb6_2) 6) ?_)
        have hj_120 : 13 * rb6_2 + 6 < τ 3 x_118 := by rw [show τ 3 x_118 = 3328 from (hI.arr h_119 rfl).2.1]; omega
        refine W.eq (g2 := F0 m 114 ls (.int (nI (13 * rb6_2 + 6)) :: .ref x_118 :: [])) rfl ?_
        refine kp_faldE (j := 13 * rb6_2 + 6) hx hb hK hP hI h_119 rfl hj_120 dX4_apply_114 (ka_FE (cd := 1098907648) (show kEc 15 (13 * rb6_2 + 6) = 1098907648 from if_neg (by omega)) (by decide) fun x_121 h_122_e h_122 => ?_)
        refine lv_fload_n hx hb dX4_apply_115 rfl (lv_at hl 6 rfl) ?_
        refine kw_fmul (M := 1266679808) hx hb dX4_apply_116 h_122 h_d9 (by decide) (by decide) (by decide +kernel) (by decide) (fun z_123 hz_124 => ?_)
        refine lv_fstore (lv' := [(6, .float z_123), (5, .int (nI rb6_2)), (4, .int (nI ra6)), (3, .int (nI (9 * r))), (0, .ref mm), (1, .int (nI r)), (2, .float d9)]) hx hb dX4_apply_117 hl (by decide) rfl (fun ls hl => ?_)
        refine lv_aload_n hx hb dX4_apply_119 rfl (lv_at hl 4 rfl) ?_
        refine lv_iload_n hx hb dX4_apply_120 rfl (lv_at hl 5 rfl) ?_
        refine lv_bipush (v := 6) hx hb dX4_apply_121 (by decide) ?_
        refine lv_iload hx hb dX4_apply_123 (lv_at hl 1 rfl) ?_
        refine kd_callv (va_runV (As := [.int (nI r), .int 6, .int (nI rb6_2)]) (rest := []) ⟨hx, hb, hml, hown, hts⟩ (k_turnN6 l dC dI dA ad _ τ pv _ _ hI mm fa sa aa ia sf mb mr mk mi hW r rb6_2 (by omega) (by omega)) (cwV 3 hts gX4_apply_X4_turn rfl rfl rfl (by decide +kernel) ⟨Nat.le_of_ble_eq_true rfl, Nat.le_of_ble_eq_true rfl⟩) (kd_preV hP hD hK hS hA hE hI hW.tm rfl rfl) rfl rfl hl.1 rfl (lv_room (Nat.le_of_ble_eq_true rfl)) dX4_apply_125 ⟨Nat.le_of_ble_eq_true rfl, Nat.le_of_ble_eq_true rfl⟩) hD hS hA (fun u_125 H locs hw hP hD hS => ?_)
        have hI := hw
        refine lv_aload_n hx hb dX4_apply_128 rfl (lv_at hl 4 rfl) ?_
        refine lv_iload hx hb dX4_apply_129 (lv_at hl 1 rfl) ?_
        refine lv_aload_n hx hb dX4_apply_131 rfl (lv_at hl 4 rfl) ?_
        refine kp_get hx hb hts i_X4 hown hK hP hI hW.tm rfl rfl 9 (by decide) (by decide) (hts (.fieldLink RX4 30 "IslandSolverModel" "ways" "[F") (by decide +kernel)) (fun _ h9 => h9) dX4_apply_132 (kq_RE 21 (by decide) fun x_126 h_127_e h_127 => ?_)
        refine lv_iload_n hx hb dX4_apply_135 rfl (lv_at hl 3 rfl) ?_
        have hj_128 : 9 * r < τ 3 x_126 := by rw [show τ 3 x_126 = 9216 from (hI.arr h_127 rfl).2.1]; omega
        refine W.eq (g2 := F0 m 136 ls (.int (nI (9 * r)) :: .ref x_126 :: [.int (nI rb6_2), .ref mm])) rfl ?_
        refine kp_fald (j := 9 * r) hx hb hK hP hI h_127 rfl hj_128 dX4_apply_136 (ka_F (cd := 1115684864) rfl (by decide) fun x_129 h_130 => ?_)
        refine lv_fload hx hb dX4_apply_137 (lv_at hl 0 rfl) ?_
        refine kw_fmul (M := 1317011456) hx hb dX4_apply_139 h_130 hz_124 (by decide) (by decide) (by decide +kernel) (by decide) (fun z_131 hz_132 => ?_)
        refine lv_aload_n hx hb dX4_apply_140 rfl (lv_at hl 4 rfl) ?_
        refine kp_get hx hb hts i_X4 hown hK hP hI hW.tm rfl rfl 9 (by decide) (by decide) (hts (.fieldLink RX4 30 "IslandSolverModel" "ways" "[F") (by decide +kernel)) (fun _ h9 => h9) dX4_apply_141 (kq_E h_127_e ?_)
        refine lv_iload_n hx hb dX4_apply_144 rfl (lv_at hl 3 rfl) ?_
        refine lv_iconst (v := 1) hx hb dX4_apply_145 (by decide) ?_
        refine lv_iadd hx hb dX4_apply_146 ?_
        refine lv_topi (nm_r (show (nI (9 * r)) + 1 = nI (9 * r + 1) from nI_add (9 * r) 1) ?_)
        have hj_135 : 9 * r + 1 < τ 3 x_126 := by rw [show τ 3 x_126 = 9216 from (hI.arr h_127 rfl).2.1]; omega
        refine W.eq (g2 := F0 m 147 ls (.int (nI (9 * r + 1)) :: .ref x_126 :: [.float z_131, .int (nI rb6_2), .ref mm])) rfl ?_
        refine kp_fald (j := 9 * r + 1) hx hb hK hP hI h_127 rfl hj_135 dX4_apply_147 (ka_F (cd := 1115684864) rfl (by decide) fun x_136 h_137 => ?_)
        refine lv_fload hx hb dX4_apply_148 (lv_at hl 0 rfl) ?_
        refine kw_fmul (M := 1317011456) hx hb dX4_apply_150 h_137 hz_124 (by decide) (by decide) (by decide +kernel) (by decide) (fun z_138 hz_139 => ?_)
        refine lv_aload_n hx hb dX4_apply_151 rfl (lv_at hl 4 rfl) ?_
        refine kp_get hx hb hts i_X4 hown hK hP hI hW.tm rfl rfl 9 (by decide) (by decide) (hts (.fieldLink RX4 30 "IslandSolverModel" "ways" "[F") (by decide +kernel)) (fun _ h9 => h9) dX4_apply_152 (kq_E h_127_e ?_)
        refine lv_iload_n hx hb dX4_apply_155 rfl (lv_at hl 3 rfl) ?_
        refine lv_iconst (v := 2) hx hb dX4_apply_156 (by decide) ?_
        refine lv_iadd hx hb dX4_apply_157 ?_
        refine lv_topi (nm_r (show (nI (9 * r)) + 2 = nI (9 * r + 2) from nI_add (9 * r) 2) ?_)
        have hj_142 : 9 * r + 2 < τ 3 x_126 := by rw [show τ 3 x_126 = 9216 from (hI.arr h_127 rfl).2.1]; omega
        refine W.eq (g2 := F0 m 158 ls (.int (nI (9 * r + 2)) :: .ref x_126 :: [.float z_138, .float z_131, .int (nI rb6_2), .ref mm])) rfl ?_
        refine kp_fald (j := 9 * r + 2) hx hb hK hP hI h_127 rfl hj_142 dX4_apply_158 (ka_F (cd := 1115684864) rfl (by decide) fun x_143 h_144 => ?_)
        refine lv_fload hx hb dX4_apply_159 (lv_at hl 0 rfl) ?_
        refine kw_fmul (M := 1317011456) hx hb dX4_apply_161 h_144 hz_124 (by decide) (by decide) (by decide +kernel) (by decide) (fun z_145 hz_146 => ?_)
        refine lv_fload_n hx hb dX4_apply_162 rfl (lv_at hl 6 rfl) ?_
        refine kd_callv (va_runV (As := [.int (nI rb6_2), .float z_131, .float z_138, .float z_145, .float d9]) (rest := []) ⟨hx, hb, hml, hown, hts⟩ (k_pull4 l dC dI dA ad _ τ pv _ _ hI mm fa sa aa ia sf mb mr mk mi hW rb6_2 (by omega) z_131 z_138 z_145 d9 hz_132 hz_139 hz_146 h_d9) (cwV 5 hts gX4_apply_X4_pull rfl rfl rfl (by decide +kernel) ⟨Nat.le_of_ble_eq_true rfl, Nat.le_of_ble_eq_true rfl⟩) (kd_preV hP hD hK hS hA hE hI hW.tm rfl rfl) rfl rfl hl.1 rfl (lv_room (Nat.le_of_ble_eq_true rfl)) dX4_apply_163 ⟨Nat.le_of_ble_eq_true rfl, Nat.le_of_ble_eq_true rfl⟩) hD hS hA (fun u_147 H locs hw hP hD hS => ?_)
        have hI := hw
        refine W.widen (k := 0) (n := 0) (Nat.le_of_ble_eq_true rfl) (Nat.le_of_ble_eq_true rfl) ?_
        exact W.vret hx hb hr (fun t ht hW9 => ⟨⟨(u_147.1, u_147.2), rfl, hI, by rw [ht]; exact hP, va_K.moved hW9.alike hK, hD⟩, hS.F ht⟩) hS.2.2 dX4_apply_166
set_option maxHeartbeats 4000000 in
set_option maxRecDepth 100000 in
theorem k_solve4 (l : Launch) (dC : Nat → ClassId) (dI : Nat → Nat → Nat) (dA : Nat → ClassId) (ad sz : Nat) (τ : Nat → Nat → Nat) (pv : Nat → Nat → Value) (L : List Nat) (f : Nat → va_E) (hI : kI dA τ pv L f) (mm fa sa aa ia sf mb mr mk mi : Nat) (hW : kMd τ pv mm fa sa aa ia sf mb mr mk mi) (r : Nat) (hr : r < mr) (hri : mi = mr) (sx : UInt32) (hsx : pv sf r = .float sx) (hls : 107 * 2 ^ 23 ≤ sx.toNat % 2 ^ 31) : Met l yX4_solve wsX4_solve ({ frames := 3, cells := 0, slots := 0, locals := 76 } : Room) (va_Pc [.ref mm, .int (nI r)] (kB dC dI dA ad sz L f)) (va_Qv (fun u => kI dA τ pv u.1 u.2) (kR dC dI dA (va_A (va_pl L f) sz)) (va_A (va_pl L f) sz)) 0 0 (va_A (va_pl L f) sz) := by
  refine Met.ofW (cc := cX4_solve) (maxL := 4) (ret := none) (by decide) rfl ?_
  intro p e s m args below meth c s₁ B hml hv
  obtain ⟨rfl, hsz, hP, hK, hD0, hE⟩ := hv
  have hx := B.exec
  have hb := B.bytes
  have hr := B.returns
  have hts := atoms_spec (ws := wsX4_solve) B.pre
  have hown : s.vm.findClass RX4 = some m.cls := findClass_of_methodNamed B.named
  have hlocks := B.notSynchronized
  have i_X4 : ∀ w ∈ u_ws RX4 TX4 35, w ∈ wsX4_solve := by decide +kernel
  subst hsz
  have hD := hD0.self (sz := s.heap.size)
  generalize hAe : va_A (va_pl L f) s.heap.size = A at hD hE ⊢
  have hA : ∀ q : Nat, s.heap.size ≤ q → A q := fun q h => by rw [← hAe]; exact Or.inr h
  have hS : va_S A s.heap s.heap [] := va_S.rf
  have hP : va_P (dC, dI) vwCl (va_pl L f) s.heap := hP
  have hK : va_K (dC, dI) vwCl (tyA dA) s := hK
  have hl := lv_entry ([.ref mm, .int (nI r)]) (n := 4) (Nat.le_of_ble_eq_true rfl)
  rw [lg_entry_eq]
  generalize (lg_sl ([.ref mm, .int (nI r)]) ++ List.replicate (4 - (lg_sl ([.ref mm, .int (nI r)])).length) Slot.unset).toArray = ls at hl ⊢
  have hl : lv_has ls 4 [(0, .ref mm), (1, .int (nI r))] := hl
  have hnb := hW.lb
  have hnr := hW.lr
  have hnk := hW.lk
  have hni := hW.li
  refine lv_aload_n hx hb dX4_solve_0 rfl (lv_at hl 0 rfl) ?_
  refine kp_get hx hb hts i_X4 hown hK hP hI hW.tm rfl rfl 17 (by decide) (by decide) (hts (.fieldLink RX4 54 "IslandSolverModel" "impulses" "[F") (by decide +kernel)) (fun _ h9 => h9) dX4_solve_1 (kq_P (v0 := .ref ia) rfl hW.p17 fun h_2 => ?_)
  refine lv_iload_n hx hb dX4_solve_4 rfl (lv_at hl 1 rfl) ?_
  have hj_3 : r < τ 3 ia := by rw [show τ 3 ia = 1024 from (hI.arr hW.ti rfl).2.1]; omega
  refine W.eq (g2 := F0 m 5 ls (.int (nI (r)) :: .ref ia :: [])) rfl ?_
  refine kp_fald (j := r) hx hb hK hP hI hW.ti rfl hj_3 dX4_solve_5 (ka_29 fun x_4 h_5 h_5_2 => ?_)
  refine lv_fstore_n (lv' := [(2, .float x_4), (0, .ref mm), (1, .int (nI r))]) hx hb dX4_solve_6 rfl hl (by decide) rfl (fun ls hl => ?_)
  refine lv_fload_n hx hb dX4_solve_7 rfl (lv_at hl 0 rfl) ?_
  refine lv_aload_n hx hb dX4_solve_8 rfl (lv_at hl 1 rfl) ?_
  refine kp_get hx hb hts i_X4 hown hK hP hI hW.tm rfl rfl 10 (by decide) (by decide) (hts (.fieldLink RX4 33 "IslandSolverModel" "targets" "[F") (by decide +kernel)) (fun _ h9 => h9) dX4_solve_9 (kq_RE 22 (by decide) fun x_6 h_7_e h_7 => ?_)
  refine lv_iload_n hx hb dX4_solve_12 rfl (lv_at hl 2 rfl) ?_
  have hj_8 : r < τ 3 x_6 := by rw [show τ 3 x_6 = 1024 from (hI.arr h_7 rfl).2.1]; omega
  refine W.eq (g2 := F0 m 13 ls (.int (nI (r)) :: .ref x_6 :: [.float x_4])) rfl ?_
  refine kp_fald (j := r) hx hb hK hP hI h_7 rfl hj_8 dX4_solve_13 (ka_F (cd := 1149239296) rfl (by decide) fun x_9 h_10 => ?_)
  refine lv_aload_n hx hb dX4_solve_14 rfl (lv_at hl 1 rfl) ?_
  refine lv_iload_n hx hb dX4_solve_15 rfl (lv_at hl 2 rfl) ?_
  refine kd_callf (va_runV (As := [.int (nI r)]) (rest := [.float x_9, .float x_4]) ⟨hx, hb, hml, hown, hts⟩ (k_speed4 l dC dI dA ad _ τ pv _ _ hI mm fa sa aa ia sf mb mr mk mi hW r (by omega)) (cwV 1 hts gX4_solve_X4_speed rfl rfl rfl (by decide +kernel) ⟨Nat.le_of_ble_eq_true rfl, Nat.le_of_ble_eq_true rfl⟩) (kd_preV hP hD hK hS hA hE hI hW.tm rfl rfl) rfl rfl hl.1 rfl (lv_room (Nat.le_of_ble_eq_true rfl)) dX4_solve_16 ⟨Nat.le_of_ble_eq_true rfl, Nat.le_of_ble_eq_true rfl⟩) hD hS hA (fun r_12 u_11 H locs hw hP hD hS => ?_)
  obtain ⟨hr_12, hI⟩ := hw
  refine kw_fsub (M := 1614807041) hx hb dX4_solve_19 h_10 hr_12 (by decide) (by decide) (by decide +kernel) (by decide) (fun z_13 hz_14 => ?_)
  refine lv_aload_n hx hb dX4_solve_20 rfl (lv_at hl 1 rfl) ?_
  refine kp_get hx hb hts i_X4 hown hK hP hI hW.tm rfl rfl 11 (by decide) (by decide) (hts (.fieldLink RX4 36 "IslandSolverModel" "softs" "[F") (by decide +kernel)) (fun _ h9 => h9) dX4_solve_21 (kq_RE 23 (by decide) fun x_15 h_16_e h_16 => ?_)
  refine lv_iload_n hx hb dX4_solve_24 rfl (lv_at hl 2 rfl) ?_
  have hj_17 : r < τ 3 x_15 := by rw [show τ 3 x_15 = 1024 from (hI.arr h_16 rfl).2.1]; omega
  refine W.eq (g2 := F0 m 25 ls (.int (nI (r)) :: .ref x_15 :: [.float z_13, .float x_4])) rfl ?_
  refine kp_fald (j := r) hx hb hK hP hI h_16 rfl hj_17 dX4_solve_25 (ka_F (cd := 1115684864) rfl (by decide) fun x_18 h_19 => ?_)
  refine lv_fload_n hx hb dX4_solve_26 rfl (lv_at hl 0 rfl) ?_
  refine kw_fmul (M := 1275068416) hx hb dX4_solve_27 h_19 h_5 (by decide) (by decide) (by decide +kernel) (by decide) (fun z_20 hz_21 => ?_)
  refine kw_fsub (M := 1614807042) hx hb dX4_solve_28 hz_14 hz_21 (by decide) (by decide) (by decide +kernel) (by decide) (fun z_22 hz_23 => ?_)
  refine lv_aload_n hx hb dX4_solve_29 rfl (lv_at hl 1 rfl) ?_
  refine kp_get hx hb hts i_X4 hown hK hP hI hW.tm rfl rfl 18 (by decide) (by decide) (hts (.fieldLink RX4 57 "IslandSolverModel" "stiff" "[F") (by decide +kernel)) (fun _ h9 => h9) dX4_solve_30 (kq_P (v0 := .ref sf) rfl hW.p18 fun h_25 => ?_)
  refine lv_iload_n hx hb dX4_solve_33 rfl (lv_at hl 2 rfl) ?_
  have hj_26 : r < τ 3 sf := by rw [show τ 3 sf = 1024 from (hI.arr hW.tsf rfl).2.1]; omega
  refine W.eq (g2 := F0 m 34 ls (.int (nI (r)) :: .ref sf :: [.float z_22, .float x_4])) rfl ?_
  refine kp_fald (j := r) hx hb hK hP hI hW.tsf rfl hj_26 dX4_solve_34 (ka_PF hsx fun h_28 => ?_)
  refine kw_fdiv (K := 193) (Lb := 107) (M := 1795162112) hx hb dX4_solve_35 hz_23 h_28 hls (by decide) (by decide) (by decide) (by decide) (by decide) (by decide) (fun z_29 hz_30 => ?_)
  refine kw_fadd (M := 1795162113) hx hb dX4_solve_36 h_5 hz_30 (by decide) (by decide) (by decide +kernel) (by decide) (fun z_31 hz_32 => ?_)
  refine lv_fstore_n (lv' := [(3, .float z_31), (2, .float x_4), (0, .ref mm), (1, .int (nI r))]) hx hb dX4_solve_37 rfl hl (by decide) rfl (fun ls hl => ?_)
  refine lv_aload_n hx hb dX4_solve_38 rfl (lv_at hl 2 rfl) ?_
  refine lv_iload_n hx hb dX4_solve_39 rfl (lv_at hl 3 rfl) ?_
  refine lv_fload_n hx hb dX4_solve_40 rfl (lv_at hl 0 rfl) ?_
  refine kd_callf (va_runV (As := [.int (nI r), .float z_31]) (rest := []) ⟨hx, hb, hml, hown, hts⟩ (k_limited l dC dI dA ad _ τ pv _ _ hI mm fa sa aa ia sf mb mr mk mi hW r (by omega) (by omega) 1795162113 z_31 hz_32 (by decide)) (cwV 2 hts gX4_solve_X4_limited rfl rfl rfl (by decide +kernel) ⟨Nat.le_of_ble_eq_true rfl, Nat.le_of_ble_eq_true rfl⟩) (kd_preV hP hD hK hS hA hE hI hW.tm rfl rfl) rfl rfl hl.1 rfl (lv_room (Nat.le_of_ble_eq_true rfl)) dX4_solve_41 ⟨Nat.le_of_ble_eq_true rfl, Nat.le_of_ble_eq_true rfl⟩) hD hS hA (fun r_34 u_33 H locs hw hP hD hS => ?_)
  obtain ⟨hr_34, gr_34, hI⟩ := hw
  refine lv_fstore_n (lv' := [(3, .float r_34), (2, .float x_4), (0, .ref mm), (1, .int (nI r))]) hx hb dX4_solve_44 rfl hl (by decide) rfl (fun ls hl => ?_)
  refine lv_aload_n hx hb dX4_solve_45 rfl (lv_at hl 2 rfl) ?_
  refine kp_get hx hb hts i_X4 hown hK hP hI hW.tm rfl rfl 17 (by decide) (by decide) (hts (.fieldLink RX4 54 "IslandSolverModel" "impulses" "[F") (by decide +kernel)) (fun _ h9 => h9) dX4_solve_46 (kq_P (v0 := .ref ia) rfl hW.p17 fun h_36 => ?_)
  refine lv_iload_n hx hb dX4_solve_49 rfl (lv_at hl 3 rfl) ?_
  refine lv_fload_n hx hb dX4_solve_50 rfl (lv_at hl 0 rfl) ?_
  have hj_37 : r < τ 3 ia := by rw [show τ 3 ia = 1024 from (hI.arr hW.ti rfl).2.1]; omega
  refine W.eq (g2 := F0 m 51 ls (.float r_34 :: .int (nI (r)) :: .ref ia :: [])) rfl ?_
  have h_38 : pv ia r = .int 0 → fb 1199570944 r_34 := fun h9 => by
    obtain ⟨_, _, t9, _, _, _, _, jt9, lt9, _⟩ := hW.rw (r := r) (by omega)
    have h8 := hW.im (t := t9) (by omega) jt9 (by omega)
    cases t9 with
    | zero => exact gr_34 jt9
    | succ k9 => exact absurd (Value.int.inj (h8.symm.trans h9)) (show ¬ (1 : Int32) = 0 by decide)
  refine kp_fastX (pv' := pv) (j := r) hx hb hK hP hD hS hI hW.ti rfl hj_37 (fun _ _ _ => rfl) (show kPr _ 1224736768 _ _ from (kv_F (by decide) hr_34)) (kPn_29 h_38) dX4_solve_51 (fun f H locs hI hP hD hS => ?_)
  refine lv_aload_n hx hb dX4_solve_52 rfl (lv_at hl 2 rfl) ?_
  refine lv_iload_n hx hb dX4_solve_53 rfl (lv_at hl 3 rfl) ?_
  refine lv_fload_n hx hb dX4_solve_54 rfl (lv_at hl 0 rfl) ?_
  refine lv_fload_n hx hb dX4_solve_55 rfl (lv_at hl 1 rfl) ?_
  refine kw_fsub (M := 1233125376) hx hb dX4_solve_56 hr_34 h_5 (by decide) (by decide) (by decide +kernel) (by decide) (fun z_40 hz_41 => ?_)
  refine kd_callv (va_runV (As := [.int (nI r), .float z_40]) (rest := []) ⟨hx, hb, hml, hown, hts⟩ (k_apply4 l dC dI dA ad _ τ pv _ _ hI mm fa sa aa ia sf mb mr mk mi hW r (by omega) z_40 hz_41) (cwV 2 hts gX4_solve_X4_apply rfl rfl rfl (by decide +kernel) ⟨Nat.le_of_ble_eq_true rfl, Nat.le_of_ble_eq_true rfl⟩) (kd_preV hP hD hK hS hA hE hI hW.tm rfl rfl) rfl rfl hl.1 rfl (lv_room (Nat.le_of_ble_eq_true rfl)) dX4_solve_57 ⟨Nat.le_of_ble_eq_true rfl, Nat.le_of_ble_eq_true rfl⟩) hD hS hA (fun u_42 H locs hw hP hD hS => ?_)
  have hI := hw
  refine W.widen (k := 0) (n := 0) (Nat.le_of_ble_eq_true rfl) (Nat.le_of_ble_eq_true rfl) ?_
  exact W.vret hx hb hr (fun t ht hW9 => ⟨⟨(u_42.1, u_42.2), rfl, hI, by rw [ht]; exact hP, va_K.moved hW9.alike hK, hD⟩, hS.F ht⟩) hS.2.2 dX4_solve_60
