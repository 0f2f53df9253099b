set_option maxHeartbeats 4000000 in
set_option maxRecDepth 100000 in
theorem k_along0 (l : Launch) (dC : Nat → ClassId) (dI : Nat → Nat → Nat) (dA : Nat → ClassId) (ad sz : Nat) (τ : Nat → Nat → Nat) (pv : Nat → Nat → Value) (L : List Nat) (f : Nat → va_E) (hI : kI dA τ pv L f) (mm fa sa aa ia sf mb mr mk mi : Nat) (hW : kMd τ pv mm fa sa aa ia sf mb mr mk mi) (r b : Nat) (hr : r < 1024) (hb9 : b < 256) : Met l yX4_along wsX4_along ({ frames := 0, cells := 0, slots := 0, locals := 0 } : Room) (va_Pc [.ref mm, .int (nI r), .int 0, .int (nI b), .int 0] (kB dC dI dA ad sz L f)) (va_Qf (fun z u => fb 1598029824 z ∧ kI dA τ pv u.1 u.2) (kR dC dI dA (va_A (va_pl L f) sz)) (va_A (va_pl L f) sz)) 0 0 (va_A (va_pl L f) sz) := by
  refine Met.ofW (cc := cX4_along) (maxL := 7) (ret := (some .float)) (by decide) rfl ?_
  intro p e s m args below meth c s₁ B hml hv
  obtain ⟨rfl, hsz, hP, hK, hD0, hE⟩ := hv
  have hx := B.exec
  have hb := B.bytes
  have hr := B.returns
  have hts := atoms_spec (ws := wsX4_along) B.pre
  have hown : s.vm.findClass RX4 = some m.cls := findClass_of_methodNamed B.named
  have hlocks := B.notSynchronized
  have i_X4 : ∀ w ∈ u_ws RX4 TX4 35, w ∈ wsX4_along := by decide +kernel
  subst hsz
  have hD := hD0.self (sz := s.heap.size)
  generalize hAe : va_A (va_pl L f) s.heap.size = A at hD hE ⊢
  have hA : ∀ q : Nat, s.heap.size ≤ q → A q := fun q h => by rw [← hAe]; exact Or.inr h
  have hS : va_S A s.heap s.heap [] := va_S.rf
  have hP : va_P (dC, dI) vwCl (va_pl L f) s.heap := hP
  have hK : va_K (dC, dI) vwCl (tyA dA) s := hK
  have hl := lv_entry ([.ref mm, .int (nI r), .int 0, .int (nI b), .int 0]) (n := 7) (Nat.le_of_ble_eq_true rfl)
  rw [lg_entry_eq]
  generalize (lg_sl ([.ref mm, .int (nI r), .int 0, .int (nI b), .int 0]) ++ List.replicate (7 - (lg_sl ([.ref mm, .int (nI r), .int 0, .int (nI b), .int 0])).length) Slot.unset).toArray = ls at hl ⊢
  have hl : lv_has ls 7 [(0, .ref mm), (1, .int (nI r)), (2, .int 0), (3, .int (nI b)), (4, .int 0)] := hl
  have hnb := hW.lb
  have hnr := hW.lr
  have hnk := hW.lk
  have hni := hW.li
  refine lv_bipush (v := 9) hx hb dX4_along_0 (by decide) ?_
  refine lv_iload_n hx hb dX4_along_2 rfl (lv_at hl 1 rfl) ?_
  refine lv_imul hx hb dX4_along_3 ?_
  refine lv_topi (nm_r (show (9 : Int32) * (nI r) = nI (9 * r) from pk_mul 9 r) ?_)
  refine lv_iload_n hx hb dX4_along_4 rfl (lv_at hl 2 rfl) ?_
  refine lv_iadd hx hb dX4_along_5 ?_
  refine lv_topi (nm_r (show (nI (9 * r)) + 0 = nI (9 * r + 0) from nI_add (9 * r) 0) ?_)
  refine lv_istore (lv' := [(5, .int (nI (9 * r + 0))), (0, .ref mm), (1, .int (nI r)), (2, .int 0), (3, .int (nI b)), (4, .int 0)]) hx hb dX4_along_6 hl (by decide) rfl (fun ls hl => ?_)
  refine lv_bipush (v := 13) hx hb dX4_along_8 (by decide) ?_
  refine lv_iload_n hx hb dX4_along_10 rfl (lv_at hl 4 rfl) ?_
  refine lv_imul hx hb dX4_along_11 ?_
  refine lv_topi (nm_r (show (13 : Int32) * (nI b) = nI (13 * b) from pk_mul 13 b) ?_)
  refine lv_iload hx hb dX4_along_12 (lv_at hl 5 rfl) ?_
  refine lv_iadd hx hb dX4_along_14 ?_
  refine lv_topi (nm_r (show (nI (13 * b)) + 0 = nI (13 * b + 0) from nI_add (13 * b) 0) ?_)
  refine lv_istore (lv' := [(6, .int (nI (13 * b + 0))), (5, .int (nI (9 * r + 0))), (0, .ref mm), (1, .int (nI r)), (2, .int 0), (3, .int (nI b)), (4, .int 0)]) hx hb dX4_along_15 hl (by decide) rfl (fun ls hl => ?_)
  refine lv_aload_n hx hb dX4_along_17 rfl (lv_at hl 2 rfl) ?_
  refine kp_get hx hb hts i_X4 hown hK hP hI hW.tm rfl rfl 9 (by decide) (by decide) (hts (.fieldLink RX4 30 "IslandSolverModel" "ways" "[F") (by decide +kernel)) (fun _ h9 => h9) dX4_along_18 (kq_RE 21 (by decide) fun x_1 h_2_e h_2 => ?_)
  refine lv_iload hx hb dX4_along_21 (lv_at hl 1 rfl) ?_
  have hj_3 : 9 * r + 0 < τ 3 x_1 := by rw [show τ 3 x_1 = 9216 from (hI.arr h_2 rfl).2.1]; omega
  refine W.eq (g2 := F0 m 23 ls (.int (nI (9 * r + 0)) :: .ref x_1 :: [])) rfl ?_
  refine kp_fald (j := 9 * r + 0) hx hb hK hP hI h_2 rfl hj_3 dX4_along_23 (ka_F (cd := 1115684864) rfl (by decide) fun x_4 h_5 => ?_)
  refine lv_aload_n hx hb dX4_along_24 rfl (lv_at hl 2 rfl) ?_
  refine kp_get hx hb hts i_X4 hown hK hP hI hW.tm rfl rfl 2 (by decide) (by decide) (hts (.fieldLink RX4 7 "IslandSolverModel" "body" "[F") (by decide +kernel)) (fun _ h9 => h9) dX4_along_25 (kq_RE 15 (by decide) fun x_6 h_7_e h_7 => ?_)
  refine lv_iload hx hb dX4_along_28 (lv_at hl 0 rfl) ?_
  have hj_8 : 13 * b + 0 < τ 3 x_6 := by rw [show τ 3 x_6 = 3328 from (hI.arr h_7 rfl).2.1]; omega
  refine W.eq (g2 := F0 m 30 ls (.int (nI (13 * b + 0)) :: .ref x_6 :: [.float x_4])) rfl ?_
  refine kp_faldE (j := 13 * b + 0) hx hb hK hP hI h_7 rfl hj_8 dX4_along_30 (ka_FE (cd := 1535115264) (show kEc 15 (13 * b + 0) = 1535115264 from if_pos (by omega)) (by decide) fun x_9 h_10_e h_10 => ?_)
  refine kw_fmul (M := 1585446912) hx hb dX4_along_31 h_5 h_10 (by decide) (by decide) (by decide +kernel) (by decide) (fun z_11 hz_12 => ?_)
  refine lv_aload_n hx hb dX4_along_32 rfl (lv_at hl 2 rfl) ?_
  refine kp_get hx hb hts i_X4 hown hK hP hI hW.tm rfl rfl 9 (by decide) (by decide) (hts (.fieldLink RX4 30 "IslandSolverModel" "ways" "[F") (by decide +kernel)) (fun _ h9 => h9) dX4_along_33 (kq_E h_2_e ?_)
  refine lv_iload hx hb dX4_along_36 (lv_at hl 1 rfl) ?_
  refine lv_iconst (v := 1) hx hb dX4_along_38 (by decide) ?_
  refine lv_iadd hx hb dX4_along_39 ?_
  refine lv_topi (nm_r (show (nI (9 * r + 0)) + 1 = nI (9 * r + 0 + 1) from nI_add (9 * r + 0) 1) ?_)
  have hj_15 : 9 * r + 0 + 1 < τ 3 x_1 := by rw [show τ 3 x_1 = 9216 from (hI.arr h_2 rfl).2.1]; omega
  refine W.eq (g2 := F0 m 40 ls (.int (nI (9 * r + 0 + 1)) :: .ref x_1 :: [.float z_11])) rfl ?_
  refine kp_fald (j := 9 * r + 0 + 1) hx hb hK hP hI h_2 rfl hj_15 dX4_along_40 (ka_F (cd := 1115684864) rfl (by decide) fun x_16 h_17 => ?_)
  refine lv_aload_n hx hb dX4_along_41 rfl (lv_at hl 2 rfl) ?_
  refine kp_get hx hb hts i_X4 hown hK hP hI hW.tm rfl rfl 2 (by decide) (by decide) (hts (.fieldLink RX4 7 "IslandSolverModel" "body" "[F") (by decide +kernel)) (fun _ h9 => h9) dX4_along_42 (kq_E h_7_e ?_)
  refine lv_iload hx hb dX4_along_45 (lv_at hl 0 rfl) ?_
  refine lv_iconst (v := 1) hx hb dX4_along_47 (by decide) ?_
  refine lv_iadd hx hb dX4_along_48 ?_
  refine lv_topi (nm_r (show (nI (13 * b + 0)) + 1 = nI (13 * b + 0 + 1) from nI_add (13 * b + 0) 1) ?_)
  have hj_20 : 13 * b + 0 + 1 < τ 3 x_6 := by rw [show τ 3 x_6 = 3328 from (hI.arr h_7 rfl).2.1]; omega
  refine W.eq (g2 := F0 m 49 ls (.int (nI (13 * b + 0 + 1)) :: .ref x_6 :: [.float x_16, .float z_11])) rfl ?_
  refine kp_faldE (j := 13 * b + 0 + 1) hx hb hK hP hI h_7 rfl hj_20 dX4_along_49 (ka_FE (cd := 1535115264) (show kEc 15 (13 * b + 0 + 1) = 1535115264 from if_pos (by omega)) (by decide) fun x_21 h_22_e h_22 => ?_)
  refine kw_fmul (M := 1585446912) hx hb dX4_along_50 h_17 h_22 (by decide) (by decide) (by decide +kernel) (by decide) (fun z_23 hz_24 => ?_)
  refine kw_fadd (M := 1593835520) hx hb dX4_along_51 hz_12 hz_24 (by decide) (by decide) (by decide +kernel) (by decide) (fun z_25 hz_26 => ?_)
  refine lv_aload_n hx hb dX4_along_52 rfl (lv_at hl 2 rfl) ?_
  refine kp_get hx hb hts i_X4 hown hK hP hI hW.tm rfl rfl 9 (by decide) (by decide) (hts (.fieldLink RX4 30 "IslandSolverModel" "ways" "[F") (by decide +kernel)) (fun _ h9 => h9) dX4_along_53 (kq_E h_2_e ?_)
  refine lv_iload hx hb dX4_along_56 (lv_at hl 1 rfl) ?_
  refine lv_iconst (v := 2) hx hb dX4_along_58 (by decide) ?_
  refine lv_iadd hx hb dX4_along_59 ?_
  refine lv_topi (nm_r (show (nI (9 * r + 0)) + 2 = nI (9 * r + 0 + 2) from nI_add (9 * r + 0) 2) ?_)
  have hj_29 : 9 * r + 0 + 2 < τ 3 x_1 := by rw [show τ 3 x_1 = 9216 from (hI.arr h_2 rfl).2.1]; omega
  refine W.eq (g2 := F0 m 60 ls (.int (nI (9 * r + 0 + 2)) :: .ref x_1 :: [.float z_25])) rfl ?_
  refine kp_fald (j := 9 * r + 0 + 2) hx hb hK hP hI h_2 rfl hj_29 dX4_along_60 (ka_F (cd := 1115684864) rfl (by decide) fun x_30 h_31 => ?_)
  refine lv_aload_n hx hb dX4_along_61 rfl (lv_at hl 2 rfl) ?_
  refine kp_get hx hb hts i_X4 hown hK hP hI hW.tm rfl rfl 2 (by decide) (by decide) (hts (.fieldLink RX4 7 "IslandSolverModel" "body" "[F") (by decide +kernel)) (fun _ h9 => h9) dX4_along_62 (kq_E h_7_e ?_)
  refine lv_iload hx hb dX4_along_65 (lv_at hl 0 rfl) ?_
  refine lv_iconst (v := 2) hx hb dX4_along_67 (by decide) ?_
  refine lv_iadd hx hb dX4_along_68 ?_
  refine lv_topi (nm_r (show (nI (13 * b + 0)) + 2 = nI (13 * b + 0 + 2) from nI_add (13 * b + 0) 2) ?_)
  have hj_34 : 13 * b + 0 + 2 < τ 3 x_6 := by rw [show τ 3 x_6 = 3328 from (hI.arr h_7 rfl).2.1]; omega
  refine W.eq (g2 := F0 m 69 ls (.int (nI (13 * b + 0 + 2)) :: .ref x_6 :: [.float x_30, .float z_25])) rfl ?_
  refine kp_faldE (j := 13 * b + 0 + 2) hx hb hK hP hI h_7 rfl hj_34 dX4_along_69 (ka_FE (cd := 1535115264) (show kEc 15 (13 * b + 0 + 2) = 1535115264 from if_pos (by omega)) (by decide) fun x_35 h_36_e h_36 => ?_)
  refine kw_fmul (M := 1585446912) hx hb dX4_along_70 h_31 h_36 (by decide) (by decide) (by decide +kernel) (by decide) (fun z_37 hz_38 => ?_)
  refine kw_fadd (M := 1598029824) hx hb dX4_along_71 hz_26 hz_38 (by decide) (by decide) (by decide +kernel) (by decide) (fun z_39 hz_40 => ?_)
  refine W.widen (k := 0) (n := 0) (Nat.le_of_ble_eq_true rfl) (Nat.le_of_ble_eq_true rfl) ?_
  exact W.fret (v := z_39) hx hb hr (fun t ht hW9 => ⟨⟨z_39, (L, f), rfl, ⟨hz_40, hI⟩, by rw [ht]; exact hP, va_K.moved hW9.alike hK, hD⟩, hS.F ht⟩) hS.2.2 dX4_along_72
set_option maxHeartbeats 4000000 in
set_option maxRecDepth 100000 in
theorem k_along3 (l : Launch) (dC : Nat → ClassId) (dI : Nat → Nat → Nat) (dA : Nat → ClassId) (ad sz : Nat) (τ : Nat → Nat → Nat) (pv : Nat → Nat → Value) (L : List Nat) (f : Nat → va_E) (hI : kI dA τ pv L f) (mm fa sa aa ia sf mb mr mk mi : Nat) (hW : kMd τ pv mm fa sa aa ia sf mb mr mk mi) (r b : Nat) (hr : r < 1024) (hb9 : b < 256) : Met l yX4_along wsX4_along ({ frames := 0, cells := 0, slots := 0, locals := 0 } : Room) (va_Pc [.ref mm, .int (nI r), .int 3, .int (nI b), .int 3] (kB dC dI dA ad sz L f)) (va_Qf (fun z u => fb 1598029824 z ∧ kI dA τ pv u.1 u.2) (kR dC dI dA (va_A (va_pl L f) sz)) (va_A (va_pl L f) sz)) 0 0 (va_A (va_pl L f) sz) := by
  refine Met.ofW (cc := cX4_along) (maxL := 7) (ret := (some .float)) (by decide) rfl ?_
  intro p e s m args below meth c s₁ B hml hv
  obtain ⟨rfl, hsz, hP, hK, hD0, hE⟩ := hv
  have hx := B.exec
  have hb := B.bytes
  have hr := B.returns
  have hts := atoms_spec (ws := wsX4_along) B.pre
  have hown : s.vm.findClass RX4 = some m.cls := findClass_of_methodNamed B.named
  have hlocks := B.notSynchronized
  have i_X4 : ∀ w ∈ u_ws RX4 TX4 35, w ∈ wsX4_along := by decide +kernel
  subst hsz
  have hD := hD0.self (sz := s.heap.size)
  generalize hAe : va_A (va_pl L f) s.heap.size = A at hD hE ⊢
  have hA : ∀ q : Nat, s.heap.size ≤ q → A q := fun q h => by rw [← hAe]; exact Or.inr h
  have hS : va_S A s.heap s.heap [] := va_S.rf
  have hP : va_P (dC, dI) vwCl (va_pl L f) s.heap := hP
  have hK : va_K (dC, dI) vwCl (tyA dA) s := hK
  have hl := lv_entry ([.ref mm, .int (nI r), .int 3, .int (nI b), .int 3]) (n := 7) (Nat.le_of_ble_eq_true rfl)
  rw [lg_entry_eq]
  generalize (lg_sl ([.ref mm, .int (nI r), .int 3, .int (nI b), .int 3]) ++ List.replicate (7 - (lg_sl ([.ref mm, .int (nI r), .int 3, .int (nI b), .int 3])).length) Slot.unset).toArray = ls at hl ⊢
  have hl : lv_has ls 7 [(0, .ref mm), (1, .int (nI r)), (2, .int 3), (3, .int (nI b)), (4, .int 3)] := hl
  have hnb := hW.lb
  have hnr := hW.lr
  have hnk := hW.lk
  have hni := hW.li
  refine lv_bipush (v := 9) hx hb dX4_along_0 (by decide) ?_
  refine lv_iload_n hx hb dX4_along_2 rfl (lv_at hl 1 rfl) ?_
  refine lv_imul hx hb dX4_along_3 ?_
  refine lv_topi (nm_r (show (9 : Int32) * (nI r) = nI (9 * r) from pk_mul 9 r) ?_)
  refine lv_iload_n hx hb dX4_along_4 rfl (lv_at hl 2 rfl) ?_
  refine lv_iadd hx hb dX4_along_5 ?_
  refine lv_topi (nm_r (show (nI (9 * r)) + 3 = nI (9 * r + 3) from nI_add (9 * r) 3) ?_)
  refine lv_istore (lv' := [(5, .int (nI (9 * r + 3))), (0, .ref mm), (1, .int (nI r)), (2, .int 3), (3, .int (nI b)), (4, .int 3)]) hx hb dX4_along_6 hl (by decide) rfl (fun ls hl => ?_)
  refine lv_bipush (v := 13) hx hb dX4_along_8 (by decide) ?_
  refine lv_iload_n hx hb dX4_along_10 rfl (lv_at hl 4 rfl) ?_
  refine lv_imul hx hb dX4_along_11 ?_
  refine lv_topi (nm_r (show (13 : Int32) * (nI b) = nI (13 * b) from pk_mul 13 b) ?_)
  refine lv_iload hx hb dX4_along_12 (lv_at hl 5 rfl) ?_
  refine lv_iadd hx hb dX4_along_14 ?_
  refine lv_topi (nm_r (show (nI (13 * b)) + 3 = nI (13 * b + 3) from nI_add (13 * b) 3) ?_)
  refine lv_istore (lv' := [(6, .int (nI (13 * b + 3))), (5, .int (nI (9 * r + 3))), (0, .ref mm), (1, .int (nI r)), (2, .int 3), (3, .int (nI b)), (4, .int 3)]) hx hb dX4_along_15 hl (by decide) rfl (fun ls hl => ?_)
  refine lv_aload_n hx hb dX4_along_17 rfl (lv_at hl 2 rfl) ?_
  refine kp_get hx hb hts i_X4 hown hK hP hI hW.tm rfl rfl 9 (by decide) (by decide) (hts (.fieldLink RX4 30 "IslandSolverModel" "ways" "[F") (by decide +kernel)) (fun _ h9 => h9) dX4_along_18 (kq_RE 21 (by decide) fun x_1 h_2_e h_2 => ?_)
  refine lv_iload hx hb dX4_along_21 (lv_at hl 1 rfl) ?_
  have hj_3 : 9 * r + 3 < τ 3 x_1 := by rw [show τ 3 x_1 = 9216 from (hI.arr h_2 rfl).2.1]; omega
  refine W.eq (g2 := F0 m 23 ls (.int (nI (9 * r + 3)) :: .ref x_1 :: [])) rfl ?_
  refine kp_fald (j := 9 * r + 3) hx hb hK hP hI h_2 rfl hj_3 dX4_along_23 (ka_F (cd := 1115684864) rfl (by decide) fun x_4 h_5 => ?_)
  refine lv_aload_n hx hb dX4_along_24 rfl (lv_at hl 2 rfl) ?_
  refine kp_get hx hb hts i_X4 hown hK hP hI hW.tm rfl rfl 2 (by decide) (by decide) (hts (.fieldLink RX4 7 "IslandSolverModel" "body" "[F") (by decide +kernel)) (fun _ h9 => h9) dX4_along_25 (kq_RE 15 (by decide) fun x_6 h_7_e h_7 => ?_)
  refine lv_iload hx hb dX4_along_28 (lv_at hl 0 rfl) ?_
  have hj_8 : 13 * b + 3 < τ 3 x_6 := by rw [show τ 3 x_6 = 3328 from (hI.arr h_7 rfl).2.1]; omega
  refine W.eq (g2 := F0 m 30 ls (.int (nI (13 * b + 3)) :: .ref x_6 :: [.float x_4])) rfl ?_
  refine kp_faldE (j := 13 * b + 3) hx hb hK hP hI h_7 rfl hj_8 dX4_along_30 (ka_FE (cd := 1535115264) (show kEc 15 (13 * b + 3) = 1535115264 from if_pos (by omega)) (by decide) fun x_9 h_10_e h_10 => ?_)
  refine kw_fmul (M := 1585446912) hx hb dX4_along_31 h_5 h_10 (by decide) (by decide) (by decide +kernel) (by decide) (fun z_11 hz_12 => ?_)
  refine lv_aload_n hx hb dX4_along_32 rfl (lv_at hl 2 rfl) ?_
  refine kp_get hx hb hts i_X4 hown hK hP hI hW.tm rfl rfl 9 (by decide) (by decide) (hts (.fieldLink RX4 30 "IslandSolverModel" "ways" "[F") (by decide +kernel)) (fun _ h9 => h9) dX4_along_33 (kq_E h_2_e ?_)
  refine lv_iload hx hb dX4_along_36 (lv_at hl 1 rfl) ?_
  refine lv_iconst (v := 1) hx hb dX4_along_38 (by decide) ?_
  refine lv_iadd hx hb dX4_along_39 ?_
  refine lv_topi (nm_r (show (nI (9 * r + 3)) + 1 = nI (9 * r + 3 + 1) from nI_add (9 * r + 3) 1) ?_)
  have hj_15 : 9 * r + 3 + 1 < τ 3 x_1 := by rw [show τ 3 x_1 = 9216 from (hI.arr h_2 rfl).2.1]; omega
  refine W.eq (g2 := F0 m 40 ls (.int (nI (9 * r + 3 + 1)) :: .ref x_1 :: [.float z_11])) rfl ?_
  refine kp_fald (j := 9 * r + 3 + 1) hx hb hK hP hI h_2 rfl hj_15 dX4_along_40 (ka_F (cd := 1115684864) rfl (by decide) fun x_16 h_17 => ?_)
  refine lv_aload_n hx hb dX4_along_41 rfl (lv_at hl 2 rfl) ?_
  refine kp_get hx hb hts i_X4 hown hK hP hI hW.tm rfl rfl 2 (by decide) (by decide) (hts (.fieldLink RX4 7 "IslandSolverModel" "body" "[F") (by decide +kernel)) (fun _ h9 => h9) dX4_along_42 (kq_E h_7_e ?_)
  refine lv_iload hx hb dX4_along_45 (lv_at hl 0 rfl) ?_
  refine lv_iconst (v := 1) hx hb dX4_along_47 (by decide) ?_
  refine lv_iadd hx hb dX4_along_48 ?_
  refine lv_topi (nm_r (show (nI (13 * b + 3)) + 1 = nI (13 * b + 3 + 1) from nI_add (13 * b + 3) 1) ?_)
  have hj_20 : 13 * b + 3 + 1 < τ 3 x_6 := by rw [show τ 3 x_6 = 3328 from (hI.arr h_7 rfl).2.1]; omega
  refine W.eq (g2 := F0 m 49 ls (.int (nI (13 * b + 3 + 1)) :: .ref x_6 :: [.float x_16, .float z_11])) rfl ?_
  refine kp_faldE (j := 13 * b + 3 + 1) hx hb hK hP hI h_7 rfl hj_20 dX4_along_49 (ka_FE (cd := 1535115264) (show kEc 15 (13 * b + 3 + 1) = 1535115264 from if_pos (by omega)) (by decide) fun x_21 h_22_e h_22 => ?_)
  refine kw_fmul (M := 1585446912) hx hb dX4_along_50 h_17 h_22 (by decide) (by decide) (by decide +kernel) (by decide) (fun z_23 hz_24 => ?_)
  refine kw_fadd (M := 1593835520) hx hb dX4_along_51 hz_12 hz_24 (by decide) (by decide) (by decide +kernel) (by decide) (fun z_25 hz_26 => ?_)
  refine lv_aload_n hx hb dX4_along_52 rfl (lv_at hl 2 rfl) ?_
  refine kp_get hx hb hts i_X4 hown hK hP hI hW.tm rfl rfl 9 (by decide) (by decide) (hts (.fieldLink RX4 30 "IslandSolverModel" "ways" "[F") (by decide +kernel)) (fun _ h9 => h9) dX4_along_53 (kq_E h_2_e ?_)
  refine lv_iload hx hb dX4_along_56 (lv_at hl 1 rfl) ?_
  refine lv_iconst (v := 2) hx hb dX4_along_58 (by decide) ?_
  refine lv_iadd hx hb dX4_along_59 ?_
  refine lv_topi (nm_r (show (nI (9 * r + 3)) + 2 = nI (9 * r + 3 + 2) from nI_add (9 * r + 3) 2) ?_)
  have hj_29 : 9 * r + 3 + 2 < τ 3 x_1 := by rw [show τ 3 x_1 = 9216 from (hI.arr h_2 rfl).2.1]; omega
  refine W.eq (g2 := F0 m 60 ls (.int (nI (9 * r + 3 + 2)) :: .ref x_1 :: [.float z_25])) rfl ?_
  refine kp_fald (j := 9 * r + 3 + 2) hx hb hK hP hI h_2 rfl hj_29 dX4_along_60 (ka_F (cd := 1115684864) rfl (by decide) fun x_30 h_31 => ?_)
  refine lv_aload_n hx hb dX4_along_61 rfl (lv_at hl 2 rfl) ?_
  refine kp_get hx hb hts i_X4 hown hK hP hI hW.tm rfl rfl 2 (by decide) (by decide) (hts (.fieldLink RX4 7 "IslandSolverModel" "body" "[F") (by decide +kernel)) (fun _ h9 => h9) dX4_along_62 (kq_E h_7_e ?_)
  refine lv_iload hx hb dX4_along_65 (lv_at hl 0 rfl) ?_
  refine lv_iconst (v := 2) hx hb dX4_along_67 (by decide) ?_
  refine lv_iadd hx hb dX4_along_68 ?_
  refine lv_topi (nm_r (show (nI (13 * b + 3)) + 2 = nI (13 * b + 3 + 2) from nI_add (13 * b + 3) 2) ?_)
  have hj_34 : 13 * b + 3 + 2 < τ 3 x_6 := by rw [show τ 3 x_6 = 3328 from (hI.arr h_7 rfl).2.1]; omega
  refine W.eq (g2 := F0 m 69 ls (.int (nI (13 * b + 3 + 2)) :: .ref x_6 :: [.float x_30, .float z_25])) rfl ?_
  refine kp_faldE (j := 13 * b + 3 + 2) hx hb hK hP hI h_7 rfl hj_34 dX4_along_69 (ka_FE (cd := 1535115264) (show kEc 15 (13 * b + 3 + 2) = 1535115264 from if_pos (by omega)) (by decide) fun x_35 h_36_e h_36 => ?_)
  refine kw_fmul (M := 1585446912) hx hb dX4_along_70 h_31 h_36 (by decide) (by decide) (by decide +kernel) (by decide) (fun z_37 hz_38 => ?_)
  refine kw_fadd (M := 1598029824) hx hb dX4_along_71 hz_26 hz_38 (by decide) (by decide) (by decide +kernel) (by decide) (fun z_39 hz_40 => ?_)
  refine W.widen (k := 0) (n := 0) (Nat.le_of_ble_eq_true rfl) (Nat.le_of_ble_eq_true rfl) ?_
  exact W.fret (v := z_39) hx hb hr (fun t ht hW9 => ⟨⟨z_39, (L, f), rfl, ⟨hz_40, hI⟩, by rw [ht]; exact hP, va_K.moved hW9.alike hK, hD⟩, hS.F ht⟩) hS.2.2 dX4_along_72
set_option maxHeartbeats 4000000 in
set_option maxRecDepth 100000 in
theorem k_along6 (l : Launch) (dC : Nat → ClassId) (dI : Nat → Nat → Nat) (dA : Nat → ClassId) (ad sz : Nat) (τ : Nat → Nat → Nat) (pv : Nat → Nat → Value) (L : List Nat) (f : Nat → va_E) (hI : kI dA τ pv L f) (mm fa sa aa ia sf mb mr mk mi : Nat) (hW : kMd τ pv mm fa sa aa ia sf mb mr mk mi) (r b : Nat) (hr : r < 1024) (hb9 : b < 256) : Met l yX4_along wsX4_along ({ frames := 0, cells := 0, slots := 0, locals := 0 } : Room) (va_Pc [.ref mm, .int (nI r), .int 6, .int (nI b), .int 3] (kB dC dI dA ad sz L f)) (va_Qf (fun z u => fb 1598029824 z ∧ kI dA τ pv u.1 u.2) (kR dC dI dA (va_A (va_pl L f) sz)) (va_A (va_pl L f) sz)) 0 0 (va_A (va_pl L f) sz) := by
  refine Met.ofW (cc := cX4_along) (maxL := 7) (ret := (some .float)) (by decide) rfl ?_
  intro p e s m args below meth c s₁ B hml hv
  obtain ⟨rfl, hsz, hP, hK, hD0, hE⟩ := hv
  have hx := B.exec
  have hb := B.bytes
  have hr := B.returns
  have hts := atoms_spec (ws := wsX4_along) B.pre
  have hown : s.vm.findClass RX4 = some m.cls := findClass_of_methodNamed B.named
  have hlocks := B.notSynchronized
  have i_X4 : ∀ w ∈ u_ws RX4 TX4 35, w ∈ wsX4_along := by decide +kernel
  subst hsz
  have hD := hD0.self (sz := s.heap.size)
  generalize hAe : va_A (va_pl L f) s.heap.size = A at hD hE ⊢
  have hA : ∀ q : Nat, s.heap.size ≤ q → A q := fun q h => by rw [← hAe]; exact Or.inr h
  have hS : va_S A s.heap s.heap [] := va_S.rf
  have hP : va_P (dC, dI) vwCl (va_pl L f) s.heap := hP
  have hK : va_K (dC, dI) vwCl (tyA dA) s := hK
  have hl := lv_entry ([.ref mm, .int (nI r), .int 6, .int (nI b), .int 3]) (n := 7) (Nat.le_of_ble_eq_true rfl)
  rw [lg_entry_eq]
  generalize (lg_sl ([.ref mm, .int (nI r), .int 6, .int (nI b), .int 3]) ++ List.replicate (7 - (lg_sl ([.ref mm, .int (nI r), .int 6, .int (nI b), .int 3])).length) Slot.unset).toArray = ls at hl ⊢
  have hl : lv_has ls 7 [(0, .ref mm), (1, .int (nI r)), (2, .int 6), (3, .int (nI b)), (4, .int 3)] := hl
  have hnb := hW.lb
  have hnr := hW.lr
  have hnk := hW.lk
  have hni := hW.li
  refine lv_bipush (v := 9) hx hb dX4_along_0 (by decide) ?_
  refine lv_iload_n hx hb dX4_along_2 rfl (lv_at hl 1 rfl) ?_
  refine lv_imul hx hb dX4_along_3 ?_
  refine lv_topi (nm_r (show (9 : Int32) * (nI r) = nI (9 * r) from pk_mul 9 r) ?_)
  refine lv_iload_n hx hb dX4_along_4 rfl (lv_at hl 2 rfl) ?_
  refine lv_iadd hx hb dX4_along_5 ?_
  refine lv_topi (nm_r (show (nI (9 * r)) + 6 = nI (9 * r + 6) from nI_add (9 * r) 6) ?_)
  refine lv_istore (lv' := [(5, .int (nI (9 * r + 6))), (0, .ref mm), (1, .int (nI r)), (2, .int 6), (3, .int (nI b)), (4, .int 3)]) hx hb dX4_along_6 hl (by decide) rfl (fun ls hl => ?_)
  refine lv_bipush (v := 13) hx hb dX4_along_8 (by decide) ?_
  refine lv_iload_n hx hb dX4_along_10 rfl (lv_at hl 4 rfl) ?_
  refine lv_imul hx hb dX4_along_11 ?_
  refine lv_topi (nm_r (show (13 : Int32) * (nI b) = nI (13 * b) from pk_mul 13 b) ?_)
  refine lv_iload hx hb dX4_along_12 (lv_at hl 5 rfl) ?_
  refine lv_iadd hx hb dX4_along_14 ?_
  refine lv_topi (nm_r (show (nI (13 * b)) + 3 = nI (13 * b + 3) from nI_add (13 * b) 3) ?_)
  refine lv_istore (lv' := [(6, .int (nI (13 * b + 3))), (5, .int (nI (9 * r + 6))), (0, .ref mm), (1, .int (nI r)), (2, .int 6), (3, .int (nI b)), (4, .int 3)]) hx hb dX4_along_15 hl (by decide) rfl (fun ls hl => ?_)
  refine lv_aload_n hx hb dX4_along_17 rfl (lv_at hl 2 rfl) ?_
  refine kp_get hx hb hts i_X4 hown hK hP hI hW.tm rfl rfl 9 (by decide) (by decide) (hts (.fieldLink RX4 30 "IslandSolverModel" "ways" "[F") (by decide +kernel)) (fun _ h9 => h9) dX4_along_18 (kq_RE 21 (by decide) fun x_1 h_2_e h_2 => ?_)
  refine lv_iload hx hb dX4_along_21 (lv_at hl 1 rfl) ?_
  have hj_3 : 9 * r + 6 < τ 3 x_1 := by rw [show τ 3 x_1 = 9216 from (hI.arr h_2 rfl).2.1]; omega
  refine W.eq (g2 := F0 m 23 ls (.int (nI (9 * r + 6)) :: .ref x_1 :: [])) rfl ?_
  refine kp_fald (j := 9 * r + 6) hx hb hK hP hI h_2 rfl hj_3 dX4_along_23 (ka_F (cd := 1115684864) rfl (by decide) fun x_4 h_5 => ?_)
  refine lv_aload_n hx hb dX4_along_24 rfl (lv_at hl 2 rfl) ?_
  refine kp_get hx hb hts i_X4 hown hK hP hI hW.tm rfl rfl 2 (by decide) (by decide) (hts (.fieldLink RX4 7 "IslandSolverModel" "body" "[F") (by decide +kernel)) (fun _ h9 => h9) dX4_along_25 (kq_RE 15 (by decide) fun x_6 h_7_e h_7 => ?_)
  refine lv_iload hx hb dX4_along_28 (lv_at hl 0 rfl) ?_
  have hj_8 : 13 * b + 3 < τ 3 x_6 := by rw [show τ 3 x_6 = 3328 from (hI.arr h_7 rfl).2.1]; omega
  refine W.eq (g2 := F0 m 30 ls (.int (nI (13 * b + 3)) :: .ref x_6 :: [.float x_4])) rfl ?_
  refine kp_faldE (j := 13 * b + 3) hx hb hK hP hI h_7 rfl hj_8 dX4_along_30 (ka_FE (cd := 1535115264) (show kEc 15 (13 * b + 3) = 1535115264 from if_pos (by omega)) (by decide) fun x_9 h_10_e h_10 => ?_)
  refine kw_fmul (M := 1585446912) hx hb dX4_along_31 h_5 h_10 (by decide) (by decide) (by decide +kernel) (by decide) (fun z_11 hz_12 => ?_)
  refine lv_aload_n hx hb dX4_along_32 rfl (lv_at hl 2 rfl) ?_
  refine kp_get hx hb hts i_X4 hown hK hP hI hW.tm rfl rfl 9 (by decide) (by decide) (hts (.fieldLink RX4 30 "IslandSolverModel" "ways" "[F") (by decide +kernel)) (fun _ h9 => h9) dX4_along_33 (kq_E h_2_e ?_)
  refine lv_iload hx hb dX4_along_36 (lv_at hl 1 rfl) ?_
  refine lv_iconst (v := 1) hx hb dX4_along_38 (by decide) ?_
  refine lv_iadd hx hb dX4_along_39 ?_
  refine lv_topi (nm_r (show (nI (9 * r + 6)) + 1 = nI (9 * r + 6 + 1) from nI_add (9 * r + 6) 1) ?_)
  have hj_15 : 9 * r + 6 + 1 < τ 3 x_1 := by rw [show τ 3 x_1 = 9216 from (hI.arr h_2 rfl).2.1]; omega
  refine W.eq (g2 := F0 m 40 ls (.int (nI (9 * r + 6 + 1)) :: .ref x_1 :: [.float z_11])) rfl ?_
  refine kp_fald (j := 9 * r + 6 + 1) hx hb hK hP hI h_2 rfl hj_15 dX4_along_40 (ka_F (cd := 1115684864) rfl (by decide) fun x_16 h_17 => ?_)
  refine lv_aload_n hx hb dX4_along_41 rfl (lv_at hl 2 rfl) ?_
  refine kp_get hx hb hts i_X4 hown hK hP hI hW.tm rfl rfl 2 (by decide) (by decide) (hts (.fieldLink RX4 7 "IslandSolverModel" "body" "[F") (by decide +kernel)) (fun _ h9 => h9) dX4_along_42 (kq_E h_7_e ?_)
  refine lv_iload hx hb dX4_along_45 (lv_at hl 0 rfl) ?_
  refine lv_iconst (v := 1) hx hb dX4_along_47 (by decide) ?_
  refine lv_iadd hx hb dX4_along_48 ?_
  refine lv_topi (nm_r (show (nI (13 * b + 3)) + 1 = nI (13 * b + 3 + 1) from nI_add (13 * b + 3) 1) ?_)
  have hj_20 : 13 * b + 3 + 1 < τ 3 x_6 := by rw [show τ 3 x_6 = 3328 from (hI.arr h_7 rfl).2.1]; omega
  refine W.eq (g2 := F0 m 49 ls (.int (nI (13 * b + 3 + 1)) :: .ref x_6 :: [.float x_16, .float z_11])) rfl ?_
  refine kp_faldE (j := 13 * b + 3 + 1) hx hb hK hP hI h_7 rfl hj_20 dX4_along_49 (ka_FE (cd := 1535115264) (show kEc 15 (13 * b + 3 + 1) = 1535115264 from if_pos (by omega)) (by decide) fun x_21 h_22_e h_22 => ?_)
  refine kw_fmul (M := 1585446912) hx hb dX4_along_50 h_17 h_22 (by decide) (by decide) (by decide +kernel) (by decide) (fun z_23 hz_24 => ?_)
  refine kw_fadd (M := 1593835520) hx hb dX4_along_51 hz_12 hz_24 (by decide) (by decide) (by decide +kernel) (by decide) (fun z_25 hz_26 => ?_)
  refine lv_aload_n hx hb dX4_along_52 rfl (lv_at hl 2 rfl) ?_
  refine kp_get hx hb hts i_X4 hown hK hP hI hW.tm rfl rfl 9 (by decide) (by decide) (hts (.fieldLink RX4 30 "IslandSolverModel" "ways" "[F") (by decide +kernel)) (fun _ h9 => h9) dX4_along_53 (kq_E h_2_e ?_)
  refine lv_iload hx hb dX4_along_56 (lv_at hl 1 rfl) ?_
  refine lv_iconst (v := 2) hx hb dX4_along_58 (by decide) ?_
  refine lv_iadd hx hb dX4_along_59 ?_
  refine lv_topi (nm_r (show (nI (9 * r + 6)) + 2 = nI (9 * r + 6 + 2) from nI_add (9 * r + 6) 2) ?_)
  have hj_29 : 9 * r + 6 + 2 < τ 3 x_1 := by rw [show τ 3 x_1 = 9216 from (hI.arr h_2 rfl).2.1]; omega
  refine W.eq (g2 := F0 m 60 ls (.int (nI (9 * r + 6 + 2)) :: .ref x_1 :: [.float z_25])) rfl ?_
  refine kp_fald (j := 9 * r + 6 + 2) hx hb hK hP hI h_2 rfl hj_29 dX4_along_60 (ka_F (cd := 1115684864) rfl (by decide) fun x_30 h_31 => ?_)
  refine lv_aload_n hx hb dX4_along_61 rfl (lv_at hl 2 rfl) ?_
  refine kp_get hx hb hts i_X4 hown hK hP hI hW.tm rfl rfl 2 (by decide) (by decide) (hts (.fieldLink RX4 7 "IslandSolverModel" "body" "[F") (by decide +kernel)) (fun _ h9 => h9) dX4_along_62 (kq_E h_7_e ?_)
  refine lv_iload hx hb dX4_along_65 (lv_at hl 0 rfl) ?_
  refine lv_iconst (v := 2) hx hb dX4_along_67 (by decide) ?_
  refine lv_iadd hx hb dX4_along_68 ?_
  refine lv_topi (nm_r (show (nI (13 * b + 3)) + 2 = nI (13 * b + 3 + 2) from nI_add (13 * b + 3) 2) ?_)
  have hj_34 : 13 * b + 3 + 2 < τ 3 x_6 := by rw [show τ 3 x_6 = 3328 from (hI.arr h_7 rfl).2.1]; omega
  refine W.eq (g2 := F0 m 69 ls (.int (nI (13 * b + 3 + 2)) :: .ref x_6 :: [.float x_30, .float z_25])) rfl ?_
  refine kp_faldE (j := 13 * b + 3 + 2) hx hb hK hP hI h_7 rfl hj_34 dX4_along_69 (ka_FE (cd := 1535115264) (show kEc 15 (13 * b + 3 + 2) = 1535115264 from if_pos (by omega)) (by decide) fun x_35 h_36_e h_36 => ?_)
  refine kw_fmul (M := 1585446912) hx hb dX4_along_70 h_31 h_36 (by decide) (by decide) (by decide +kernel) (by decide) (fun z_37 hz_38 => ?_)
  refine kw_fadd (M := 1598029824) hx hb dX4_along_71 hz_26 hz_38 (by decide) (by decide) (by decide +kernel) (by decide) (fun z_39 hz_40 => ?_)
  refine W.widen (k := 0) (n := 0) (Nat.le_of_ble_eq_true rfl) (Nat.le_of_ble_eq_true rfl) ?_
  exact W.fret (v := z_39) hx hb hr (fun t ht hW9 => ⟨⟨z_39, (L, f), rfl, ⟨hz_40, hI⟩, by rw [ht]; exact hP, va_K.moved hW9.alike hK, hD⟩, hS.F ht⟩) hS.2.2 dX4_along_72
set_option maxHeartbeats 4000000 in
set_option maxRecDepth 100000 in
theorem k_speed4 (l : Launch) (dC : Nat → ClassId) (dI : Nat → Nat → Nat) (dA : Nat → ClassId) (ad sz : Nat) (τ : Nat → Nat → Nat) (pv : Nat → Nat → Value) (L : List Nat) (f : Nat → va_E) (hI : kI dA τ pv L f) (mm fa sa aa ia sf mb mr mk mi : Nat) (hW : kMd τ pv mm fa sa aa ia sf mb mr mk mi) (r : Nat) (hr : r < mr) : Met l yX4_speed wsX4_speed ({ frames := 1, cells := 0, slots := 0, locals := 26 } : Room) (va_Pc [.ref mm, .int (nI r)] (kB dC dI dA ad sz L f)) (va_Qf (fun z u => fb 1614807040 z ∧ kI dA τ pv u.1 u.2) (kR dC dI dA (va_A (va_pl L f) sz)) (va_A (va_pl L f) sz)) 0 0 (va_A (va_pl L f) sz) := by
  refine Met.ofW (cc := cX4_speed) (maxL := 5) (ret := (some .float)) (by decide) rfl ?_
  intro p e s m args below meth c s₁ B hml hv
  obtain ⟨rfl, hsz, hP, hK, hD0, hE⟩ := hv
  have hx := B.exec
  have hb := B.bytes
  have hr := B.returns
  have hts := atoms_spec (ws := wsX4_speed) B.pre
  have hown : s.vm.findClass RX4 = some m.cls := findClass_of_methodNamed B.named
  have hlocks := B.notSynchronized
  have i_X4 : ∀ w ∈ u_ws RX4 TX4 35, w ∈ wsX4_speed := by decide +kernel
  subst hsz
  have hD := hD0.self (sz := s.heap.size)
  generalize hAe : va_A (va_pl L f) s.heap.size = A at hD hE ⊢
  have hA : ∀ q : Nat, s.heap.size ≤ q → A q := fun q h => by rw [← hAe]; exact Or.inr h
  have hS : va_S A s.heap s.heap [] := va_S.rf
  have hP : va_P (dC, dI) vwCl (va_pl L f) s.heap := hP
  have hK : va_K (dC, dI) vwCl (tyA dA) s := hK
  have hl := lv_entry ([.ref mm, .int (nI r)]) (n := 5) (Nat.le_of_ble_eq_true rfl)
  rw [lg_entry_eq]
  generalize (lg_sl ([.ref mm, .int (nI r)]) ++ List.replicate (5 - (lg_sl ([.ref mm, .int (nI r)])).length) Slot.unset).toArray = ls at hl ⊢
  have hl : lv_has ls 5 [(0, .ref mm), (1, .int (nI r))] := hl
  have hnb := hW.lb
  have hnr := hW.lr
  have hnk := hW.lk
  have hni := hW.li
  refine lv_aload_n hx hb dX4_speed_0 rfl (lv_at hl 0 rfl) ?_
  refine kp_get hx hb hts i_X4 hown hK hP hI hW.tm rfl rfl 7 (by decide) (by decide) (hts (.fieldLink RX4 24 "IslandSolverModel" "firsts" "[I") (by decide +kernel)) (fun _ h9 => h9) dX4_speed_1 (kq_P (v0 := .ref fa) rfl hW.p7 fun h_2 => ?_)
  refine lv_iload_n hx hb dX4_speed_4 rfl (lv_at hl 1 rfl) ?_
  have hj_3 : r < τ 3 fa := by rw [show τ 3 fa = 1024 from (hI.arr hW.tf rfl).2.1]; omega
  refine W.eq (g2 := F0 m 5 ls (.int (nI (r)) :: .ref fa :: [])) rfl ?_
  obtain ⟨ra6, rb6, rt6, ja6, la6, jb6, lb6, jt6, lt6, kt6⟩ := hW.rw (r := r) (by omega)
  refine kp_iald (j := r) hx hb hK hP hI hW.tf rfl hj_3 dX4_speed_5 (ka_P (x0 := nI ra6) rfl ja6 ?_)
  refine lv_istore_n (lv' := [(2, .int (nI ra6)), (0, .ref mm), (1, .int (nI r))]) hx hb dX4_speed_6 rfl hl (by decide) rfl (fun ls hl => ?_)
  refine lv_aload_n hx hb dX4_speed_7 rfl (lv_at hl 1 rfl) ?_
  refine kp_get hx hb hts i_X4 hown hK hP hI hW.tm rfl rfl 8 (by decide) (by decide) (hts (.fieldLink RX4 27 "IslandSolverModel" "seconds" "[I") (by decide +kernel)) (fun _ h9 => h9) dX4_speed_8 (kq_P (v0 := .ref sa) rfl hW.p8 fun h_8 => ?_)
  refine lv_iload_n hx hb dX4_speed_11 rfl (lv_at hl 2 rfl) ?_
  have hj_9 : r < τ 3 sa := by rw [show τ 3 sa = 1024 from (hI.arr hW.ts rfl).2.1]; omega
  refine W.eq (g2 := F0 m 12 ls (.int (nI (r)) :: .ref sa :: [])) rfl ?_
  rcases rb6 with _ | rb6_2
  · refine kp_iald (j := r) hx hb hK hP hI hW.ts rfl hj_9 dX4_speed_12 (ka_P (x0 := (-1)) rfl jb6 ?_)
    refine lv_istore_n (lv' := [(3, .int (-1)), (2, .int (nI ra6)), (0, .ref mm), (1, .int (nI r))]) hx hb dX4_speed_13 rfl hl (by decide) rfl (fun ls hl => ?_)
    refine lv_aload_n hx hb dX4_speed_14 rfl (lv_at hl 2 rfl) ?_
    refine lv_iload_n hx hb dX4_speed_15 rfl (lv_at hl 3 rfl) ?_
    refine lv_iconst (v := 0) hx hb dX4_speed_16 (by decide) ?_
    refine lv_iload_n hx hb dX4_speed_17 rfl (lv_at hl 1 rfl) ?_
    refine lv_iconst (v := 0) hx hb dX4_speed_18 (by decide) ?_
    refine kd_callf (va_runV (As := [.int (nI r), .int 0, .int (nI ra6), .int 0]) (rest := []) ⟨hx, hb, hml, hown, hts⟩ (k_along0 l dC dI dA ad _ τ pv _ _ hI mm fa sa aa ia sf mb mr mk mi hW r ra6 (by omega) (by omega)) (cwV 4 hts gX4_speed_X4_along rfl rfl rfl (by decide +kernel) ⟨Nat.le_of_ble_eq_true rfl, Nat.le_of_ble_eq_true rfl⟩) (kd_preV hP hD hK hS hA hE hI hW.tm rfl rfl) rfl rfl hl.1 rfl (lv_room (Nat.le_of_ble_eq_true rfl)) dX4_speed_19 ⟨Nat.le_of_ble_eq_true rfl, Nat.le_of_ble_eq_true rfl⟩) hD hS hA (fun r_13 u_12 H locs hw hP hD hS => ?_)
    obtain ⟨hr_13, hI⟩ := hw
    refine lv_aload_n hx hb dX4_speed_22 rfl (lv_at hl 2 rfl) ?_
    refine lv_iload_n hx hb dX4_speed_23 rfl (lv_at hl 3 rfl) ?_
    refine lv_iconst (v := 3) hx hb dX4_speed_24 (by decide) ?_
    refine lv_iload_n hx hb dX4_speed_25 rfl (lv_at hl 1 rfl) ?_
    refine lv_iconst (v := 3) hx hb dX4_speed_26 (by decide) ?_
    refine kd_callf (va_runV (As := [.int (nI r), .int 3, .int (nI ra6), .int 3]) (rest := [.float r_13]) ⟨hx, hb, hml, hown, hts⟩ (k_along3 l dC dI dA ad _ τ pv _ _ hI mm fa sa aa ia sf mb mr mk mi hW r ra6 (by omega) (by omega)) (cwV 4 hts gX4_speed_X4_along rfl rfl rfl (by decide +kernel) ⟨Nat.le_of_ble_eq_true rfl, Nat.le_of_ble_eq_true rfl⟩) (kd_preV hP hD hK hS hA hE hI hW.tm rfl rfl) rfl rfl hl.1 rfl (lv_room (Nat.le_of_ble_eq_true rfl)) dX4_speed_27 ⟨Nat.le_of_ble_eq_true rfl, Nat.le_of_ble_eq_true rfl⟩) hD hS hA (fun r_15 u_14 H locs hw hP hD hS => ?_)
    obtain ⟨hr_15, hI⟩ := hw
    refine kw_fadd (M := 1606418432) hx hb dX4_speed_30 hr_13 hr_15 (by decide) (by decide) (by decide +kernel) (by decide) (fun z_16 hz_17 => ?_)
    refine lv_fstore (lv' := [(4, .float z_16), (3, .int (-1)), (2, .int (nI ra6)), (0, .ref mm), (1, .int (nI r))]) hx hb dX4_speed_31 hl (by decide) rfl (fun ls hl => ?_)
    refine lv_iload_n hx hb dX4_speed_33 rfl (lv_at hl 1 rfl) ?_
    refine lv_if_ge (tgt := 46) hx hb dX4_speed_34 (by decide) (fun h9 => by first | exact absurd h9 (by decide) | exact absurd (by decide) h9) (fun _ => ?_)
    refine lv_fload hx hb dX4_speed_37 (lv_at hl 0 rfl) ?_
    refine lv_fconst0 hx hb dX4_speed_39 ?_
    refine kw_fsub (M := 1606418432) hx hb dX4_speed_40 hz_17 kc_0 (by decide) (by decide) (by decide +kernel) (by decide) (fun z_18 hz_19 => ?_)
    refine lv_fconst0 hx hb dX4_speed_41 ?_
    refine kw_fsub (M := 1606418432) hx hb dX4_speed_42 hz_19 kc_0 (by decide) (by decide) (by decide +kernel) (by decide) (fun z_20 hz_21 => ?_)
    refine lv_goto (tgt := 67) hx hb dX4_speed_43 (by decide) ?_
    refine W.widen (k := 0) (n := 0) (Nat.le_of_ble_eq_true rfl) (Nat.le_of_ble_eq_true rfl) ?_
    exact W.fret (v := z_20) hx hb hr (fun t ht hW9 => ⟨⟨z_20, (u_14.1, u_14.2), rfl, ⟨(fb_le hz_21 (by decide)), hI⟩, by rw [ht]; exact hP, va_K.moved hW9.alike hK, hD⟩, hS.F ht⟩) hS.2.2 dX4_speed_67
  · refine kp_iald (j := r) hx hb hK hP hI hW.ts rfl hj_9 dX4_speed_12 (ka_P (x0 := (nI rb6_2)) rfl jb6 ?_)
    refine lv_istore_n (lv' := [(3, .int (nI rb6_2)), (2, .int (nI ra6)), (0, .ref mm), (1, .int (nI r))]) hx hb dX4_speed_13 rfl hl (by decide) rfl (fun ls hl => ?_)
    refine lv_aload_n hx hb dX4_speed_14 rfl (lv_at hl 2 rfl) ?_
    refine lv_iload_n hx hb dX4_speed_15 rfl (lv_at hl 3 rfl) ?_
    refine lv_iconst (v := 0) hx hb dX4_speed_16 (by decide) ?_
    refine lv_iload_n hx hb dX4_speed_17 rfl (lv_at hl 1 rfl) ?_
    refine lv_iconst (v := 0) hx hb dX4_speed_18 (by decide) ?_
    refine kd_callf (va_runV (As := [.int (nI r), .int 0, .int (nI ra6), .int 0]) (rest := []) ⟨hx, hb, hml, hown, hts⟩ (k_along0 l dC dI dA ad _ τ pv _ _ hI mm fa sa aa ia sf mb mr mk mi hW r ra6 (by omega) (by omega)) (cwV 4 hts gX4_speed_X4_along rfl rfl rfl (by decide +kernel) ⟨Nat.le_of_ble_eq_true rfl, Nat.le_of_ble_eq_true rfl⟩) (kd_preV hP hD hK hS hA hE hI hW.tm rfl rfl) rfl rfl hl.1 rfl (lv_room (Nat.le_of_ble_eq_true rfl)) dX4_speed_19 ⟨Nat.le_of_ble_eq_true rfl, Nat.le_of_ble_eq_true rfl⟩) hD hS hA (fun r_23 u_22 H locs hw hP hD hS => ?_)
    obtain ⟨hr_23, hI⟩ := hw
    refine lv_aload_n hx hb dX4_speed_22 rfl (lv_at hl 2 rfl) ?_
    refine lv_iload_n hx hb dX4_speed_23 rfl (lv_at hl 3 rfl) ?_
    refine lv_iconst (v := 3) hx hb dX4_speed_24 (by decide) ?_
    refine lv_iload_n hx hb dX4_speed_25 rfl (lv_at hl 1 rfl) ?_
    refine lv_iconst (v := 3) hx hb dX4_speed_26 (by decide) ?_
    refine kd_callf (va_runV (As := [.int (nI r), .int 3, .int (nI ra6), .int 3]) (rest := [.float r_23]) ⟨hx, hb, hml, hown, hts⟩ (k_along3 l dC dI dA ad _ τ pv _ _ hI mm fa sa aa ia sf mb mr mk mi hW r ra6 (by omega) (by omega)) (cwV 4 hts gX4_speed_X4_along rfl rfl rfl (by decide +kernel) ⟨Nat.le_of_ble_eq_true rfl, Nat.le_of_ble_eq_true rfl⟩) (kd_preV hP hD hK hS hA hE hI hW.tm rfl rfl) rfl rfl hl.1 rfl (lv_room (Nat.le_of_ble_eq_true rfl)) dX4_speed_27 ⟨Nat.le_of_ble_eq_true rfl, Nat.le_of_ble_eq_true rfl⟩) hD hS hA (fun r_25 u_24 H locs hw hP hD hS => ?_)
    obtain ⟨hr_25, hI⟩ := hw
    refine kw_fadd (M := 1606418432) hx hb dX4_speed_30 hr_23 hr_25 (by decide) (by decide) (by decide +kernel) (by decide) (fun z_26 hz_27 => ?_)
    refine lv_fstore (lv' := [(4, .float z_26), (3, .int (nI rb6_2)), (2, .int (nI ra6)), (0, .ref mm), (1, .int (nI r))]) hx hb dX4_speed_31 hl (by decide) rfl (fun ls hl => ?_)
    refine lv_iload_n hx hb dX4_speed_33 rfl (lv_at hl 1 rfl) ?_
    refine lv_if_ge (tgt := 46) hx hb dX4_speed_34 (by decide) (fun _ => ?_) (fun h9 => absurd (nI_pos' (n := rb6_2) (by omega)) h9)
    refine lv_fload hx hb dX4_speed_46 (lv_at hl 0 rfl) ?_
    refine lv_aload_n hx hb dX4_speed_48 rfl (lv_at hl 3 rfl) ?_
    refine lv_iload_n hx hb dX4_speed_49 rfl (lv_at hl 4 rfl) ?_
    refine lv_iconst (v := 0) hx hb dX4_speed_50 (by decide) ?_
    refine lv_iload_n hx hb dX4_speed_51 rfl (lv_at hl 1 rfl) ?_
    refine lv_iconst (v := 0) hx hb dX4_speed_52 (by decide) ?_
    refine kd_callf (va_runV (As := [.int (nI r), .int 0, .int (nI rb6_2), .int 0]) (rest := [.float z_26]) ⟨hx, hb, hml, hown, hts⟩ (k_along0 l dC dI dA ad _ τ pv _ _ hI mm fa sa aa ia sf mb mr mk mi hW r rb6_2 (by omega) (by omega)) (cwV 4 hts gX4_speed_X4_along rfl rfl rfl (by decide +kernel) ⟨Nat.le_of_ble_eq_true rfl, Nat.le_of_ble_eq_true rfl⟩) (kd_preV hP hD hK hS hA hE hI hW.tm rfl rfl) rfl rfl hl.1 rfl (lv_room (Nat.le_of_ble_eq_true rfl)) dX4_speed_53 ⟨Nat.le_of_ble_eq_true rfl, Nat.le_of_ble_eq_true rfl⟩) hD hS hA (fun r_29 u_28 H locs hw hP hD hS => ?_)
    obtain ⟨hr_29, hI⟩ := hw
    refine kw_fsub (M := 1611661312) hx hb dX4_speed_56 hz_27 hr_29 (by decide) (by decide) (by decide +kernel) (by decide) (fun z_30 hz_31 => ?_)
    refine lv_aload_n hx hb dX4_speed_57 rfl (lv_at hl 3 rfl) ?_
    refine lv_iload_n hx hb dX4_speed_58 rfl (lv_at hl 4 rfl) ?_
    refine lv_bipush (v := 6) hx hb dX4_speed_59 (by decide) ?_
    refine lv_iload_n hx hb dX4_speed_61 rfl (lv_at hl 1 rfl) ?_
    refine lv_iconst (v := 3) hx hb dX4_speed_62 (by decide) ?_
    refine kd_callf (va_runV (As := [.int (nI r), .int 6, .int (nI rb6_2), .int 3]) (rest := [.float z_30]) ⟨hx, hb, hml, hown, hts⟩ (k_along6 l dC dI dA ad _ τ pv _ _ hI mm fa sa aa ia sf mb mr mk mi hW r rb6_2 (by omega) (by omega)) (cwV 4 hts gX4_speed_X4_along rfl rfl rfl (by decide +kernel) ⟨Nat.le_of_ble_eq_true rfl, Nat.le_of_ble_eq_true rfl⟩) (kd_preV hP hD hK hS hA hE hI hW.tm rfl rfl) rfl rfl hl.1 rfl (lv_room (Nat.le_of_ble_eq_true rfl)) dX4_speed_63 ⟨Nat.le_of_ble_eq_true rfl, Nat.le_of_ble_eq_true rfl⟩) hD hS hA (fun r_33 u_32 H locs hw hP hD hS => ?_)
    obtain ⟨hr_33, hI⟩ := hw
    refine kw_fsub (M := 1614807040) hx hb dX4_speed_66 hz_31 hr_33 (by decide) (by decide) (by decide +kernel) (by decide) (fun z_34 hz_35 => ?_)
    refine W.widen (k := 0) (n := 0) (Nat.le_of_ble_eq_true rfl) (Nat.le_of_ble_eq_true rfl) ?_
    exact W.fret (v := z_34) hx hb hr (fun t ht hW9 => ⟨⟨z_34, (u_32.1, u_32.2), rfl, ⟨hz_35, hI⟩, by rw [ht]; exact hP, va_K.moved hW9.alike hK, hD⟩, hS.F ht⟩) hS.2.2 dX4_speed_67
set_option maxHeartbeats 4000000 in
set_option maxRecDepth 100000 in
theorem k_turnN3 (l : Launch) (dC : Nat → ClassId) (dI : Nat → Nat → Nat) (dA : Nat → ClassId) (ad sz : Nat) (τ : Nat → Nat → Nat) (pv : Nat → Nat → Value) (L : List Nat) (f : Nat → va_E) (hI : kI dA τ pv L f) (mm fa sa aa ia sf mb mr mk mi : Nat) (hW : kMd τ pv mm fa sa aa ia sf mb mr mk mi) (r b : Nat) (hr : r < 1024) (hb9 : b < 256) : Met l yX4_turn wsX4_turn ({ frames := 1, cells := 0, slots := 0, locals := 22 } : Room) (va_Pc [.ref mm, .int (nI r), .int 3, .int (nI b)] (kB dC dI dA ad sz L f)) (va_Qv (fun u => kI dA τ pv u.1 u.2) (kR dC dI dA (va_A (va_pl L f) sz)) (va_A (va_pl L f) sz)) 0 0 (va_A (va_pl L f) sz) := by
  refine Met.ofW (cc := cX4_turn) (maxL := 9) (ret := none) (by decide) rfl ?_
  intro p e s m args below meth c s₁ B hml hv
  obtain ⟨rfl, hsz, hP, hK, hD0, hE⟩ := hv
  have hx := B.exec
  have hb := B.bytes
  have hr := B.returns
  have hts := atoms_spec (ws := wsX4_turn) B.pre
  have hown : s.vm.findClass RX4 = some m.cls := findClass_of_methodNamed B.named
  have hlocks := B.notSynchronized
  have i_X4 : ∀ w ∈ u_ws RX4 TX4 35, w ∈ wsX4_turn := by decide +kernel
  subst hsz
  have hD := hD0.self (sz := s.heap.size)
  generalize hAe : va_A (va_pl L f) s.heap.size = A at hD hE ⊢
  have hA : ∀ q : Nat, s.heap.size ≤ q → A q := fun q h => by rw [← hAe]; exact Or.inr h
  have hS : va_S A s.heap s.heap [] := va_S.rf
  have hP : va_P (dC, dI) vwCl (va_pl L f) s.heap := hP
  have hK : va_K (dC, dI) vwCl (tyA dA) s := hK
  have hl := lv_entry ([.ref mm, .int (nI r), .int 3, .int (nI b)]) (n := 9) (Nat.le_of_ble_eq_true rfl)
  rw [lg_entry_eq]
  generalize (lg_sl ([.ref mm, .int (nI r), .int 3, .int (nI b)]) ++ List.replicate (9 - (lg_sl ([.ref mm, .int (nI r), .int 3, .int (nI b)])).length) Slot.unset).toArray = ls at hl ⊢
  have hl : lv_has ls 9 [(0, .ref mm), (1, .int (nI r)), (2, .int 3), (3, .int (nI b))] := hl
  have hnb := hW.lb
  have hnr := hW.lr
  have hnk := hW.lk
  have hni := hW.li
  refine lv_aload_n hx hb dX4_turn_0 rfl (lv_at hl 0 rfl) ?_
  refine kp_get hx hb hts i_X4 hown hK hP hI hW.tm rfl rfl 9 (by decide) (by decide) (hts (.fieldLink RX4 30 "IslandSolverModel" "ways" "[F") (by decide +kernel)) (fun _ h9 => h9) dX4_turn_1 (kq_RE 21 (by decide) fun x_1 h_2_e h_2 => ?_)
  refine lv_bipush (v := 9) hx hb dX4_turn_4 (by decide) ?_
  refine lv_iload_n hx hb dX4_turn_6 rfl (lv_at hl 1 rfl) ?_
  refine lv_imul hx hb dX4_turn_7 ?_
  refine lv_topi (nm_r (show (9 : Int32) * (nI r) = nI (9 * r) from pk_mul 9 r) ?_)
  refine lv_iload_n hx hb dX4_turn_8 rfl (lv_at hl 2 rfl) ?_
  refine lv_iadd hx hb dX4_turn_9 ?_
  refine lv_topi (nm_r (show (nI (9 * r)) + 3 = nI (9 * r + 3) from nI_add (9 * r) 3) ?_)
  have hj_3 : 9 * r + 3 < τ 3 x_1 := by rw [show τ 3 x_1 = 9216 from (hI.arr h_2 rfl).2.1]; omega
  refine W.eq (g2 := F0 m 10 ls (.int (nI (9 * r + 3)) :: .ref x_1 :: [])) rfl ?_
  refine kp_fald (j := 9 * r + 3) hx hb hK hP hI h_2 rfl hj_3 dX4_turn_10 (ka_F (cd := 1115684864) rfl (by decide) fun x_4 h_5 => ?_)
  refine lv_fstore (lv' := [(4, .float x_4), (0, .ref mm), (1, .int (nI r)), (2, .int 3), (3, .int (nI b))]) hx hb dX4_turn_11 hl (by decide) rfl (fun ls hl => ?_)
  refine lv_aload_n hx hb dX4_turn_13 rfl (lv_at hl 1 rfl) ?_
  refine kp_get hx hb hts i_X4 hown hK hP hI hW.tm rfl rfl 9 (by decide) (by decide) (hts (.fieldLink RX4 30 "IslandSolverModel" "ways" "[F") (by decide +kernel)) (fun _ h9 => h9) dX4_turn_14 (kq_E h_2_e ?_)
  refine lv_bipush (v := 9) hx hb dX4_turn_17 (by decide) ?_
  refine lv_iload_n hx hb dX4_turn_19 rfl (lv_at hl 2 rfl) ?_
  refine lv_imul hx hb dX4_turn_20 ?_
  refine lv_topi (nm_r (show (9 : Int32) * (nI r) = nI (9 * r) from pk_mul 9 r) ?_)
  refine lv_iload_n hx hb dX4_turn_21 rfl (lv_at hl 3 rfl) ?_
  refine lv_iadd hx hb dX4_turn_22 ?_
  refine lv_topi (nm_r (show (nI (9 * r)) + 3 = nI (9 * r + 3) from nI_add (9 * r) 3) ?_)
  refine lv_iconst (v := 1) hx hb dX4_turn_23 (by decide) ?_
  refine lv_iadd hx hb dX4_turn_24 ?_
  refine lv_topi (nm_r (show (nI (9 * r + 3)) + 1 = nI (9 * r + 3 + 1) from nI_add (9 * r + 3) 1) ?_)
  have hj_8 : 9 * r + 3 + 1 < τ 3 x_1 := by rw [show τ 3 x_1 = 9216 from (hI.arr h_2 rfl).2.1]; omega
  refine W.eq (g2 := F0 m 25 ls (.int (nI (9 * r + 3 + 1)) :: .ref x_1 :: [])) rfl ?_
  refine kp_fald (j := 9 * r + 3 + 1) hx hb hK hP hI h_2 rfl hj_8 dX4_turn_25 (ka_F (cd := 1115684864) rfl (by decide) fun x_9 h_10 => ?_)
  refine lv_fstore (lv' := [(5, .float x_9), (4, .float x_4), (0, .ref mm), (1, .int (nI r)), (2, .int 3), (3, .int (nI b))]) hx hb dX4_turn_26 hl (by decide) rfl (fun ls hl => ?_)
  refine lv_aload_n hx hb dX4_turn_28 rfl (lv_at hl 2 rfl) ?_
  refine kp_get hx hb hts i_X4 hown hK hP hI hW.tm rfl rfl 9 (by decide) (by decide) (hts (.fieldLink RX4 30 "IslandSolverModel" "ways" "[F") (by decide +kernel)) (fun _ h9 => h9) dX4_turn_29 (kq_E h_2_e ?_)
  refine lv_bipush (v := 9) hx hb dX4_turn_32 (by decide) ?_
  refine lv_iload_n hx hb dX4_turn_34 rfl (lv_at hl 3 rfl) ?_
  refine lv_imul hx hb dX4_turn_35 ?_
  refine lv_topi (nm_r (show (9 : Int32) * (nI r) = nI (9 * r) from pk_mul 9 r) ?_)
  refine lv_iload_n hx hb dX4_turn_36 rfl (lv_at hl 4 rfl) ?_
  refine lv_iadd hx hb dX4_turn_37 ?_
  refine lv_topi (nm_r (show (nI (9 * r)) + 3 = nI (9 * r + 3) from nI_add (9 * r) 3) ?_)
  refine lv_iconst (v := 2) hx hb dX4_turn_38 (by decide) ?_
  refine lv_iadd hx hb dX4_turn_39 ?_
  refine lv_topi (nm_r (show (nI (9 * r + 3)) + 2 = nI (9 * r + 3 + 2) from nI_add (9 * r + 3) 2) ?_)
  have hj_13 : 9 * r + 3 + 2 < τ 3 x_1 := by rw [show τ 3 x_1 = 9216 from (hI.arr h_2 rfl).2.1]; omega
  refine W.eq (g2 := F0 m 40 ls (.int (nI (9 * r + 3 + 2)) :: .ref x_1 :: [])) rfl ?_
  refine kp_fald (j := 9 * r + 3 + 2) hx hb hK hP hI h_2 rfl hj_13 dX4_turn_40 (ka_F (cd := 1115684864) rfl (by decide) fun x_14 h_15 => ?_)
  refine lv_fstore (lv' := [(6, .float x_14), (5, .float x_9), (4, .float x_4), (0, .ref mm), (1, .int (nI r)), (2, .int 3), (3, .int (nI b))]) hx hb dX4_turn_41 hl (by decide) rfl (fun ls hl => ?_)
  refine lv_bipush (v := 13) hx hb dX4_turn_43 (by decide) ?_
  refine lv_iload_n hx hb dX4_turn_45 rfl (lv_at hl 6 rfl) ?_
  refine lv_imul hx hb dX4_turn_46 ?_
  refine lv_topi (nm_r (show (13 : Int32) * (nI b) = nI (13 * b) from pk_mul 13 b) ?_)
  refine lv_istore (lv' := [(7, .int (nI (13 * b))), (6, .float x_14), (5, .float x_9), (4, .float x_4), (0, .ref mm), (1, .int (nI r)), (2, .int 3), (3, .int (nI b))]) hx hb dX4_turn_47 hl (by decide) rfl (fun ls hl => ?_)
  refine lv_aload_n hx hb dX4_turn_49 rfl (lv_at hl 4 rfl) ?_
  refine lv_iload_n hx hb dX4_turn_50 rfl (lv_at hl 7 rfl) ?_
  refine kd_calli (va_runV (As := [.int (nI b)]) (rest := []) ⟨hx, hb, hml, hown, hts⟩ (k_movN l dC dI dA ad _ τ pv _ _ hI mm fa sa aa ia sf mb mr mk mi hW b (by omega)) (cwV 1 hts gX4_turn_X4_movable rfl rfl rfl (by decide +kernel) ⟨Nat.le_of_ble_eq_true rfl, Nat.le_of_ble_eq_true rfl⟩) (kd_preV hP hD hK hS hA hE hI hW.tm rfl rfl) rfl rfl hl.1 rfl (lv_room (Nat.le_of_ble_eq_true rfl)) dX4_turn_51 ⟨Nat.le_of_ble_eq_true rfl, Nat.le_of_ble_eq_true rfl⟩) hD hS hA (fun r_17 u_16 H locs hw hP hD hS => ?_)
  obtain ⟨hr_17, hI⟩ := hw
  refine lv_istore (lv' := [(8, .int r_17), (7, .int (nI (13 * b))), (6, .float x_14), (5, .float x_9), (4, .float x_4), (0, .ref mm), (1, .int (nI r)), (2, .int 3), (3, .int (nI b))]) hx hb dX4_turn_54 hl (by decide) rfl (fun ls hl => ?_)
  refine lv_aload_n hx hb dX4_turn_56 rfl (lv_at hl 5 rfl) ?_
  refine lv_iload hx hb dX4_turn_57 (lv_at hl 0 rfl) ?_
  refine lv_if_eq (tgt := 106) hx hb dX4_turn_59 (by decide) (fun c_18 => ?_) (fun c_18 => ?_)
  · subst c_18
    refine lv_fconst0 hx hb dX4_turn_106 ?_
    refine kp_put (v := .float FP.fconst0) (ty := .float) hx hb hts i_X4 tyX4 tyX4_ok nmX4 hown hK hP hD hS hI hW.tm rfl rfl 32 (by decide) (by decide) (hts (.fieldLink RX4 158 "IslandSolverModel" "px" "F") (by decide +kernel)) (fun _ h9 => h9) rfl (by decide +kernel) rfl rfl rfl (by decide) (kv_F (by decide) (fb_le kc_0 (by decide))) dX4_turn_107 (fun f H locs hI hP hD hS => ?_)
    refine lv_aload_n hx hb dX4_turn_110 rfl (lv_at hl 5 rfl) ?_
    refine lv_iload hx hb dX4_turn_111 (lv_at hl 0 rfl) ?_
    refine lv_if_eq (tgt := 160) hx hb dX4_turn_113 (by decide) (fun _ => ?_) (fun h9 => by first | exact absurd h9 (by decide) | exact absurd (by decide) h9)
    refine lv_fconst0 hx hb dX4_turn_160 ?_
    refine kp_put (v := .float FP.fconst0) (ty := .float) hx hb hts i_X4 tyX4 tyX4_ok nmX4 hown hK hP hD hS hI hW.tm rfl rfl 33 (by decide) (by decide) (hts (.fieldLink RX4 161 "IslandSolverModel" "py" "F") (by decide +kernel)) (fun _ h9 => h9) rfl (by decide +kernel) rfl rfl rfl (by decide) (kv_F (by decide) (fb_le kc_0 (by decide))) dX4_turn_161 (fun f H locs hI hP hD hS => ?_)
    refine lv_aload_n hx hb dX4_turn_164 rfl (lv_at hl 5 rfl) ?_
    refine lv_iload hx hb dX4_turn_165 (lv_at hl 0 rfl) ?_
    refine lv_if_eq (tgt := 214) hx hb dX4_turn_167 (by decide) (fun _ => ?_) (fun h9 => by first | exact absurd h9 (by decide) | exact absurd (by decide) h9)
    refine lv_fconst0 hx hb dX4_turn_214 ?_
    refine kp_put (v := .float FP.fconst0) (ty := .float) hx hb hts i_X4 tyX4 tyX4_ok nmX4 hown hK hP hD hS hI hW.tm rfl rfl 34 (by decide) (by decide) (hts (.fieldLink RX4 164 "IslandSolverModel" "pz" "F") (by decide +kernel)) (fun _ h9 => h9) rfl (by decide +kernel) rfl rfl rfl (by decide) (kv_F (by decide) (fb_le kc_0 (by decide))) dX4_turn_215 (fun f H locs hI hP hD hS => ?_)
    refine W.widen (k := 0) (n := 0) (Nat.le_of_ble_eq_true rfl) (Nat.le_of_ble_eq_true rfl) ?_
    exact W.vret hx hb hr (fun t ht hW9 => ⟨⟨(u_16.1, f), rfl, hI, by rw [ht]; exact hP, va_K.moved hW9.alike hK, hD⟩, hS.F ht⟩) hS.2.2 dX4_turn_218
  · obtain rfl : r_17 = 1 := (hr_17).resolve_left c_18
    refine lv_aload_n hx hb dX4_turn_62 rfl (lv_at hl 5 rfl) ?_
    refine kp_get hx hb hts i_X4 hown hK hP hI hW.tm rfl rfl 2 (by decide) (by decide) (hts (.fieldLink RX4 7 "IslandSolverModel" "body" "[F") (by decide +kernel)) (fun _ h9 => h9) dX4_turn_63 (kq_RE 15 (by decide) fun x_19 h_20_e h_20 => ?_)
    refine lv_iload hx hb dX4_turn_66 (lv_at hl 1 rfl) ?_
    refine lv_bipush (v := 7) hx hb dX4_turn_68 (by decide) ?_
    refine lv_iadd hx hb dX4_turn_70 ?_
    refine lv_topi (nm_r (show (nI (13 * b)) + 7 = nI (13 * b + 7) from nI_add (13 * b) 7) ?_)
    have hj_21 : 13 * b + 7 < τ 3 x_19 := by rw [show τ 3 x_19 = 3328 from (hI.arr h_20 rfl).2.1]; omega
    refine W.eq (g2 := F0 m 71 ls (.int (nI (13 * b + 7)) :: .ref x_19 :: [.ref mm])) rfl ?_
    refine kp_faldE (j := 13 * b + 7) hx hb hK hP hI h_20 rfl hj_21 dX4_turn_71 (ka_FE (cd := 1098907648) (show kEc 15 (13 * b + 7) = 1098907648 from if_neg (by omega)) (by decide) fun x_22 h_23_e h_23 => ?_)
    refine lv_fload hx hb dX4_turn_72 (lv_at hl 4 rfl) ?_
    refine kw_fmul (M := 1149239296) hx hb dX4_turn_74 h_23 h_5 (by decide) (by decide) (by decide +kernel) (by decide) (fun z_24 hz_25 => ?_)
    refine lv_aload_n hx hb dX4_turn_75 rfl (lv_at hl 5 rfl) ?_
    refine kp_get hx hb hts i_X4 hown hK hP hI hW.tm rfl rfl 2 (by decide) (by decide) (hts (.fieldLink RX4 7 "IslandSolverModel" "body" "[F") (by decide +kernel)) (fun _ h9 => h9) dX4_turn_76 (kq_E h_20_e ?_)
    refine lv_iload hx hb dX4_turn_79 (lv_at hl 1 rfl) ?_
    refine lv_bipush (v := 10) hx hb dX4_turn_81 (by decide) ?_
    refine lv_iadd hx hb dX4_turn_83 ?_
    refine lv_topi (nm_r (show (nI (13 * b)) + 10 = nI (13 * b + 10) from nI_add (13 * b) 10) ?_)
    have hj_28 : 13 * b + 10 < τ 3 x_19 := by rw [show τ 3 x_19 = 3328 from (hI.arr h_20 rfl).2.1]; omega
    refine W.eq (g2 := F0 m 84 ls (.int (nI (13 * b + 10)) :: .ref x_19 :: [.float z_24, .ref mm])) rfl ?_
    refine kp_faldE (j := 13 * b + 10) hx hb hK hP hI h_20 rfl hj_28 dX4_turn_84 (ka_FE (cd := 1098907648) (show kEc 15 (13 * b + 10) = 1098907648 from if_neg (by omega)) (by decide) fun x_29 h_30_e h_30 => ?_)
    refine lv_fload hx hb dX4_turn_85 (lv_at hl 3 rfl) ?_
    refine kw_fmul (M := 1149239296) hx hb dX4_turn_87 h_30 h_10 (by decide) (by decide) (by decide +kernel) (by decide) (fun z_31 hz_32 => ?_)
    refine kw_fadd (M := 1157627904) hx hb dX4_turn_88 hz_25 hz_32 (by decide) (by decide) (by decide +kernel) (by decide) (fun z_33 hz_34 => ?_)
    refine lv_aload_n hx hb dX4_turn_89 rfl (lv_at hl 5 rfl) ?_
    refine kp_get hx hb hts i_X4 hown hK hP hI hW.tm rfl rfl 2 (by decide) (by decide) (hts (.fieldLink RX4 7 "IslandSolverModel" "body" "[F") (by decide +kernel)) (fun _ h9 => h9) dX4_turn_90 (kq_E h_20_e ?_)
    refine lv_iload hx hb dX4_turn_93 (lv_at hl 1 rfl) ?_
    refine lv_bipush (v := 12) hx hb dX4_turn_95 (by decide) ?_
    refine lv_iadd hx hb dX4_turn_97 ?_
    refine lv_topi (nm_r (show (nI (13 * b)) + 12 = nI (13 * b + 12) from nI_add (13 * b) 12) ?_)
    have hj_37 : 13 * b + 12 < τ 3 x_19 := by rw [show τ 3 x_19 = 3328 from (hI.arr h_20 rfl).2.1]; omega
    refine W.eq (g2 := F0 m 98 ls (.int (nI (13 * b + 12)) :: .ref x_19 :: [.float z_33, .ref mm])) rfl ?_
    refine kp_faldE (j := 13 * b + 12) hx hb hK hP hI h_20 rfl hj_37 dX4_turn_98 (ka_FE (cd := 1098907648) (show kEc 15 (13 * b + 12) = 1098907648 from if_neg (by omega)) (by decide) fun x_38 h_39_e h_39 => ?_)
    refine lv_fload hx hb dX4_turn_99 (lv_at hl 2 rfl) ?_
    refine kw_fmul (M := 1149239296) hx hb dX4_turn_101 h_39 h_15 (by decide) (by decide) (by decide +kernel) (by decide) (fun z_40 hz_41 => ?_)
    refine kw_fadd (M := 1161822208) hx hb dX4_turn_102 hz_34 hz_41 (by decide) (by decide) (by decide +kernel) (by decide) (fun z_42 hz_43 => ?_)
    refine lv_goto (tgt := 107) hx hb dX4_turn_103 (by decide) ?_
    refine kp_put (v := .float z_42) (ty := .float) hx hb hts i_X4 tyX4 tyX4_ok nmX4 hown hK hP hD hS hI hW.tm rfl rfl 32 (by decide) (by decide) (hts (.fieldLink RX4 158 "IslandSolverModel" "px" "F") (by decide +kernel)) (fun _ h9 => h9) rfl (by decide +kernel) rfl rfl rfl (by decide) (kv_F (by decide) hz_43) dX4_turn_107 (fun f H locs hI hP hD hS => ?_)
    refine lv_aload_n hx hb dX4_turn_110 rfl (lv_at hl 5 rfl) ?_
    refine lv_iload hx hb dX4_turn_111 (lv_at hl 0 rfl) ?_
    refine lv_if_eq (tgt := 160) hx hb dX4_turn_113 (by decide) (fun h9 => by first | exact absurd h9 (by decide) | exact absurd (by decide) h9) (fun _ => ?_)
    refine lv_aload_n hx hb dX4_turn_116 rfl (lv_at hl 5 rfl) ?_
    refine kp_get hx hb hts i_X4 hown hK hP hI hW.tm rfl rfl 2 (by decide) (by decide) (hts (.fieldLink RX4 7 "IslandSolverModel" "body" "[F") (by decide +kernel)) (fun _ h9 => h9) dX4_turn_117 (kq_RE 15 (by decide) fun x_44 h_45_e h_45 => ?_)
    refine lv_iload hx hb dX4_turn_120 (lv_at hl 1 rfl) ?_
    refine lv_bipush (v := 10) hx hb dX4_turn_122 (by decide) ?_
    refine lv_iadd hx hb dX4_turn_124 ?_
    refine lv_topi (nm_r (show (nI (13 * b)) + 10 = nI (13 * b + 10) from nI_add (13 * b) 10) ?_)
    have hj_46 : 13 * b + 10 < τ 3 x_44 := by rw [show τ 3 x_44 = 3328 from (hI.arr h_45 rfl).2.1]; omega
    refine W.eq (g2 := F0 m 125 ls (.int (nI (13 * b + 10)) :: .ref x_44 :: [.ref mm])) rfl ?_
    refine kp_faldE (j := 13 * b + 10) hx hb hK hP hI h_45 rfl hj_46 dX4_turn_125 (ka_FE (cd := 1098907648) (show kEc 15 (13 * b + 10) = 1098907648 from if_neg (by omega)) (by decide) fun x_47 h_48_e h_48 => ?_)
    refine lv_fload hx hb dX4_turn_126 (lv_at hl 4 rfl) ?_
    refine kw_fmul (M := 1149239296) hx hb dX4_turn_128 h_48 h_5 (by decide) (by decide) (by decide +kernel) (by decide) (fun z_49 hz_50 => ?_)
    refine lv_aload_n hx hb dX4_turn_129 rfl (lv_at hl 5 rfl) ?_
    refine kp_get hx hb hts i_X4 hown hK hP hI hW.tm rfl rfl 2 (by decide) (by decide) (hts (.fieldLink RX4 7 "IslandSolverModel" "body" "[F") (by decide +kernel)) (fun _ h9 => h9) dX4_turn_130 (kq_E h_45_e ?_)
    refine lv_iload hx hb dX4_turn_133 (lv_at hl 1 rfl) ?_
    refine lv_bipush (v := 8) hx hb dX4_turn_135 (by decide) ?_
    refine lv_iadd hx hb dX4_turn_137 ?_
    refine lv_topi (nm_r (show (nI (13 * b)) + 8 = nI (13 * b + 8) from nI_add (13 * b) 8) ?_)
    have hj_53 : 13 * b + 8 < τ 3 x_44 := by rw [show τ 3 x_44 = 3328 from (hI.arr h_45 rfl).2.1]; omega
    refine W.eq (g2 := F0 m 138 ls (.int (nI (13 * b + 8)) :: .ref x_44 :: [.float z_49, .ref mm])) rfl ?_
    refine kp_faldE (j := 13 * b + 8) hx hb hK hP hI h_45 rfl hj_53 dX4_turn_138 (ka_FE (cd := 1098907648) (show kEc 15 (13 * b + 8) = 1098907648 from if_neg (by omega)) (by decide) fun x_54 h_55_e h_55 => ?_)
    refine lv_fload hx hb dX4_turn_139 (lv_at hl 3 rfl) ?_
    refine kw_fmul (M := 1149239296) hx hb dX4_turn_141 h_55 h_10 (by decide) (by decide) (by decide +kernel) (by decide) (fun z_56 hz_57 => ?_)
    refine kw_fadd (M := 1157627904) hx hb dX4_turn_142 hz_50 hz_57 (by decide) (by decide) (by decide +kernel) (by decide) (fun z_58 hz_59 => ?_)
    refine lv_aload_n hx hb dX4_turn_143 rfl (lv_at hl 5 rfl) ?_
    refine kp_get hx hb hts i_X4 hown hK hP hI hW.tm rfl rfl 2 (by decide) (by decide) (hts (.fieldLink RX4 7 "IslandSolverModel" "body" "[F") (by decide +kernel)) (fun _ h9 => h9) dX4_turn_144 (kq_E h_45_e ?_)
    refine lv_iload hx hb dX4_turn_147 (lv_at hl 1 rfl) ?_
    refine lv_bipush (v := 11) hx hb dX4_turn_149 (by decide) ?_
    refine lv_iadd hx hb dX4_turn_151 ?_
    refine lv_topi (nm_r (show (nI (13 * b)) + 11 = nI (13 * b + 11) from nI_add (13 * b) 11) ?_)
    have hj_62 : 13 * b + 11 < τ 3 x_44 := by rw [show τ 3 x_44 = 3328 from (hI.arr h_45 rfl).2.1]; omega
    refine W.eq (g2 := F0 m 152 ls (.int (nI (13 * b + 11)) :: .ref x_44 :: [.float z_58, .ref mm])) rfl ?_
    refine kp_faldE (j := 13 * b + 11) hx hb hK hP hI h_45 rfl hj_62 dX4_turn_152 (ka_FE (cd := 1098907648) (show kEc 15 (13 * b + 11) = 1098907648 from if_neg (by omega)) (by decide) fun x_63 h_64_e h_64 => ?_)
    refine lv_fload hx hb dX4_turn_153 (lv_at hl 2 rfl) ?_
    refine kw_fmul (M := 1149239296) hx hb dX4_turn_155 h_64 h_15 (by decide) (by decide) (by decide +kernel) (by decide) (fun z_65 hz_66 => ?_)
    refine kw_fadd (M := 1161822208) hx hb dX4_turn_156 hz_59 hz_66 (by decide) (by decide) (by decide +kernel) (by decide) (fun z_67 hz_68 => ?_)
    refine lv_goto (tgt := 161) hx hb dX4_turn_157 (by decide) ?_
    refine kp_put (v := .float z_67) (ty := .float) hx hb hts i_X4 tyX4 tyX4_ok nmX4 hown hK hP hD hS hI hW.tm rfl rfl 33 (by decide) (by decide) (hts (.fieldLink RX4 161 "IslandSolverModel" "py" "F") (by decide +kernel)) (fun _ h9 => h9) rfl (by decide +kernel) rfl rfl rfl (by decide) (kv_F (by decide) hz_68) dX4_turn_161 (fun f H locs hI hP hD hS => ?_)
    refine lv_aload_n hx hb dX4_turn_164 rfl (lv_at hl 5 rfl) ?_
    refine lv_iload hx hb dX4_turn_165 (lv_at hl 0 rfl) ?_
    refine lv_if_eq (tgt := 214) hx hb dX4_turn_167 (by decide) (fun h9 => by first | exact absurd h9 (by decide) | exact absurd (by decide) h9) (fun _ => ?_)
    refine lv_aload_n hx hb dX4_turn_170 rfl (lv_at hl 5 rfl) ?_
    refine kp_get hx hb hts i_X4 hown hK hP hI hW.tm rfl rfl 2 (by decide) (by decide) (hts (.fieldLink RX4 7 "IslandSolverModel" "body" "[F") (by decide +kernel)) (fun _ h9 => h9) dX4_turn_171 (kq_RE 15 (by decide) fun x_69 h_70_e h_70 => ?_)
    refine lv_iload hx hb dX4_turn_174 (lv_at hl 1 rfl) ?_
    refine lv_bipush (v := 12) hx hb dX4_turn_176 (by decide) ?_
    refine lv_iadd hx hb dX4_turn_178 ?_
    refine lv_topi (nm_r (show (nI (13 * b)) + 12 = nI (13 * b + 12) from nI_add (13 * b) 12) ?_)
    have hj_71 : 13 * b + 12 < τ 3 x_69 := by rw [show τ 3 x_69 = 3328 from (hI.arr h_70 rfl).2.1]; omega
    refine W.eq (g2 := F0 m 179 ls (.int (nI (13 * b + 12)) :: .ref x_69 :: [.ref mm])) rfl ?_
    refine kp_faldE (j := 13 * b + 12) hx hb hK hP hI h_70 rfl hj_71 dX4_turn_179 (ka_FE (cd := 1098907648) (show kEc 15 (13 * b + 12) = 1098907648 from if_neg (by omega)) (by decide) fun x_72 h_73_e h_73 => ?_)
    refine lv_fload hx hb dX4_turn_180 (lv_at hl 4 rfl) ?_
    refine kw_fmul (M := 1149239296) hx hb dX4_turn_182 h_73 h_5 (by decide) (by decide) (by decide +kernel) (by decide) (fun z_74 hz_75 => ?_)
    refine lv_aload_n hx hb dX4_turn_183 rfl (lv_at hl 5 rfl) ?_
    refine kp_get hx hb hts i_X4 hown hK hP hI hW.tm rfl rfl 2 (by decide) (by decide) (hts (.fieldLink RX4 7 "IslandSolverModel" "body" "[F") (by decide +kernel)) (fun _ h9 => h9) dX4_turn_184 (kq_E h_70_e ?_)
    refine lv_iload hx hb dX4_turn_187 (lv_at hl 1 rfl) ?_
    refine lv_bipush (v := 11) hx hb dX4_turn_189 (by decide) ?_
    refine lv_iadd hx hb dX4_turn_191 ?_
    refine lv_topi (nm_r (show (nI (13 * b)) + 11 = nI (13 * b + 11) from nI_add (13 * b) 11) ?_)
    have hj_78 : 13 * b + 11 < τ 3 x_69 := by rw [show τ 3 x_69 = 3328 from (hI.arr h_70 rfl).2.1]; omega
    refine W.eq (g2 := F0 m 192 ls (.int (nI (13 * b + 11)) :: .ref x_69 :: [.float z_74, .ref mm])) rfl ?_
    refine kp_faldE (j := 13 * b + 11) hx hb hK hP hI h_70 rfl hj_78 dX4_turn_192 (ka_FE (cd := 1098907648) (show kEc 15 (13 * b + 11) = 1098907648 from if_neg (by omega)) (by decide) fun x_79 h_80_e h_80 => ?_)
    refine lv_fload hx hb dX4_turn_193 (lv_at hl 3 rfl) ?_
    refine kw_fmul (M := 1149239296) hx hb dX4_turn_195 h_80 h_10 (by decide) (by decide) (by decide +kernel) (by decide) (fun z_81 hz_82 => ?_)
    refine kw_fadd (M := 1157627904) hx hb dX4_turn_196 hz_75 hz_82 (by decide) (by decide) (by decide +kernel) (by decide) (fun z_83 hz_84 => ?_)
    refine lv_aload_n hx hb dX4_turn_197 rfl (lv_at hl 5 rfl) ?_
    refine kp_get hx hb hts i_X4 hown hK hP hI hW.tm rfl rfl 2 (by decide) (by decide) (hts (.fieldLink RX4 7 "IslandSolverModel" "body" "[F") (by decide +kernel)) (fun _ h9 => h9) dX4_turn_198 (kq_E h_70_e ?_)
    refine lv_iload hx hb dX4_turn_201 (lv_at hl 1 rfl) ?_
    refine lv_bipush (v := 9) hx hb dX4_turn_203 (by decide) ?_
    refine lv_iadd hx hb dX4_turn_205 ?_
    refine lv_topi (nm_r (show (nI (13 * b)) + 9 = nI (13 * b + 9) from nI_add (13 * b) 9) ?_)
    have hj_87 : 13 * b + 9 < τ 3 x_69 := by rw [show τ 3 x_69 = 3328 from (hI.arr h_70 rfl).2.1]; omega
    refine W.eq (g2 := F0 m 206 ls (.int (nI (13 * b + 9)) :: .ref x_69 :: [.float z_83, .ref mm])) rfl ?_
    refine kp_faldE (j := 13 * b + 9) hx hb hK hP hI h_70 rfl hj_87 dX4_turn_206 (ka_FE (cd := 1098907648) (show kEc 15 (13 * b + 9) = 1098907648 from if_neg (by omega)) (by decide) fun x_88 h_89_e h_89 => ?_)
    refine lv_fload hx hb dX4_turn_207 (lv_at hl 2 rfl) ?_
    refine kw_fmul (M := 1149239296) hx hb dX4_turn_209 h_89 h_15 (by decide) (by decide) (by decide +kernel) (by decide) (fun z_90 hz_91 => ?_)
    refine kw_fadd (M := 1161822208) hx hb dX4_turn_210 hz_84 hz_91 (by decide) (by decide) (by decide +kernel) (by decide) (fun z_92 hz_93 => ?_)
    refine lv_goto (tgt := 215) hx hb dX4_turn_211 (by decide) ?_
    refine kp_put (v := .float z_92) (ty := .float) hx hb hts i_X4 tyX4 tyX4_ok nmX4 hown hK hP hD hS hI hW.tm rfl rfl 34 (by decide) (by decide) (hts (.fieldLink RX4 164 "IslandSolverModel" "pz" "F") (by decide +kernel)) (fun _ h9 => h9) rfl (by decide +kernel) rfl rfl rfl (by decide) (kv_F (by decide) hz_93) dX4_turn_215 (fun f H locs hI hP hD hS => ?_)
    refine W.widen (k := 0) (n := 0) (Nat.le_of_ble_eq_true rfl) (Nat.le_of_ble_eq_true rfl) ?_
    exact W.vret hx hb hr (fun t ht hW9 => ⟨⟨(u_16.1, f), rfl, hI, by rw [ht]; exact hP, va_K.moved hW9.alike hK, hD⟩, hS.F ht⟩) hS.2.2 dX4_turn_218
set_option maxHeartbeats 4000000 in
set_option maxRecDepth 100000 in
theorem k_turnN6 (l : Launch) (dC : Nat → ClassId) (dI : Nat → Nat → Nat) (dA : Nat → ClassId) (ad sz : Nat) (τ : Nat → Nat → Nat) (pv : Nat → Nat → Value) (L : List Nat) (f : Nat → va_E) (hI : kI dA τ pv L f) (mm fa sa aa ia sf mb mr mk mi : Nat) (hW : kMd τ pv mm fa sa aa ia sf mb mr mk mi) (r b : Nat) (hr : r < 1024) (hb9 : b < 256) : Met l yX4_turn wsX4_turn ({ frames := 1, cells := 0, slots := 0, locals := 22 } : Room) (va_Pc [.ref mm, .int (nI r), .int 6, .int (nI b)] (kB dC dI dA ad sz L f)) (va_Qv (fun u => kI dA τ pv u.1 u.2) (kR dC dI dA (va_A (va_pl L f) sz)) (va_A (va_pl L f) sz)) 0 0 (va_A (va_pl L f) sz) := by
  refine Met.ofW (cc := cX4_turn) (maxL := 9) (ret := none) (by decide) rfl ?_
  intro p e s m args below meth c s₁ B hml hv
  obtain ⟨rfl, hsz, hP, hK, hD0, hE⟩ := hv
  have hx := B.exec
  have hb := B.bytes
  have hr := B.returns
  have hts := atoms_spec (ws := wsX4_turn) B.pre
  have hown : s.vm.findClass RX4 = some m.cls := findClass_of_methodNamed B.named
  have hlocks := B.notSynchronized
  have i_X4 : ∀ w ∈ u_ws RX4 TX4 35, w ∈ wsX4_turn := by decide +kernel
  subst hsz
  have hD := hD0.self (sz := s.heap.size)
  generalize hAe : va_A (va_pl L f) s.heap.size = A at hD hE ⊢
  have hA : ∀ q : Nat, s.heap.size ≤ q → A q := fun q h => by rw [← hAe]; exact Or.inr h
  have hS : va_S A s.heap s.heap [] := va_S.rf
  have hP : va_P (dC, dI) vwCl (va_pl L f) s.heap := hP
  have hK : va_K (dC, dI) vwCl (tyA dA) s := hK
  have hl := lv_entry ([.ref mm, .int (nI r), .int 6, .int (nI b)]) (n := 9) (Nat.le_of_ble_eq_true rfl)
  rw [lg_entry_eq]
  generalize (lg_sl ([.ref mm, .int (nI r), .int 6, .int (nI b)]) ++ List.replicate (9 - (lg_sl ([.ref mm, .int (nI r), .int 6, .int (nI b)])).length) Slot.unset).toArray = ls at hl ⊢
  have hl : lv_has ls 9 [(0, .ref mm), (1, .int (nI r)), (2, .int 6), (3, .int (nI b))] := hl
  have hnb := hW.lb
  have hnr := hW.lr
  have hnk := hW.lk
  have hni := hW.li
  refine lv_aload_n hx hb dX4_turn_0 rfl (lv_at hl 0 rfl) ?_
  refine kp_get hx hb hts i_X4 hown hK hP hI hW.tm rfl rfl 9 (by decide) (by decide) (hts (.fieldLink RX4 30 "IslandSolverModel" "ways" "[F") (by decide +kernel)) (fun _ h9 => h9) dX4_turn_1 (kq_RE 21 (by decide) fun x_1 h_2_e h_2 => ?_)
  refine lv_bipush (v := 9) hx hb dX4_turn_4 (by decide) ?_
  refine lv_iload_n hx hb dX4_turn_6 rfl (lv_at hl 1 rfl) ?_
  refine lv_imul hx hb dX4_turn_7 ?_
  refine lv_topi (nm_r (show (9 : Int32) * (nI r) = nI (9 * r) from pk_mul 9 r) ?_)
  refine lv_iload_n hx hb dX4_turn_8 rfl (lv_at hl 2 rfl) ?_
  refine lv_iadd hx hb dX4_turn_9 ?_
  refine lv_topi (nm_r (show (nI (9 * r)) + 6 = nI (9 * r + 6) from nI_add (9 * r) 6) ?_)
  have hj_3 : 9 * r + 6 < τ 3 x_1 := by rw [show τ 3 x_1 = 9216 from (hI.arr h_2 rfl).2.1]; omega
  refine W.eq (g2 := F0 m 10 ls (.int (nI (9 * r + 6)) :: .ref x_1 :: [])) rfl ?_
  refine kp_fald (j := 9 * r + 6) hx hb hK hP hI h_2 rfl hj_3 dX4_turn_10 (ka_F (cd := 1115684864) rfl (by decide) fun x_4 h_5 => ?_)
  refine lv_fstore (lv' := [(4, .float x_4), (0, .ref mm), (1, .int (nI r)), (2, .int 6), (3, .int (nI b))]) hx hb dX4_turn_11 hl (by decide) rfl (fun ls hl => ?_)
  refine lv_aload_n hx hb dX4_turn_13 rfl (lv_at hl 1 rfl) ?_
  refine kp_get hx hb hts i_X4 hown hK hP hI hW.tm rfl rfl 9 (by decide) (by decide) (hts (.fieldLink RX4 30 "IslandSolverModel" "ways" "[F") (by decide +kernel)) (fun _ h9 => h9) dX4_turn_14 (kq_E h_2_e ?_)
  refine lv_bipush (v := 9) hx hb dX4_turn_17 (by decide) ?_
  refine lv_iload_n hx hb dX4_turn_19 rfl (lv_at hl 2 rfl) ?_
  refine lv_imul hx hb dX4_turn_20 ?_
  refine lv_topi (nm_r (show (9 : Int32) * (nI r) = nI (9 * r) from pk_mul 9 r) ?_)
  refine lv_iload_n hx hb dX4_turn_21 rfl (lv_at hl 3 rfl) ?_
  refine lv_iadd hx hb dX4_turn_22 ?_
  refine lv_topi (nm_r (show (nI (9 * r)) + 6 = nI (9 * r + 6) from nI_add (9 * r) 6) ?_)
  refine lv_iconst (v := 1) hx hb dX4_turn_23 (by decide) ?_
  refine lv_iadd hx hb dX4_turn_24 ?_
  refine lv_topi (nm_r (show (nI (9 * r + 6)) + 1 = nI (9 * r + 6 + 1) from nI_add (9 * r + 6) 1) ?_)
  have hj_8 : 9 * r + 6 + 1 < τ 3 x_1 := by rw [show τ 3 x_1 = 9216 from (hI.arr h_2 rfl).2.1]; omega
  refine W.eq (g2 := F0 m 25 ls (.int (nI (9 * r + 6 + 1)) :: .ref x_1 :: [])) rfl ?_
  refine kp_fald (j := 9 * r + 6 + 1) hx hb hK hP hI h_2 rfl hj_8 dX4_turn_25 (ka_F (cd := 1115684864) rfl (by decide) fun x_9 h_10 => ?_)
  refine lv_fstore (lv' := [(5, .float x_9), (4, .float x_4), (0, .ref mm), (1, .int (nI r)), (2, .int 6), (3, .int (nI b))]) hx hb dX4_turn_26 hl (by decide) rfl (fun ls hl => ?_)
  refine lv_aload_n hx hb dX4_turn_28 rfl (lv_at hl 2 rfl) ?_
  refine kp_get hx hb hts i_X4 hown hK hP hI hW.tm rfl rfl 9 (by decide) (by decide) (hts (.fieldLink RX4 30 "IslandSolverModel" "ways" "[F") (by decide +kernel)) (fun _ h9 => h9) dX4_turn_29 (kq_E h_2_e ?_)
  refine lv_bipush (v := 9) hx hb dX4_turn_32 (by decide) ?_
  refine lv_iload_n hx hb dX4_turn_34 rfl (lv_at hl 3 rfl) ?_
  refine lv_imul hx hb dX4_turn_35 ?_
  refine lv_topi (nm_r (show (9 : Int32) * (nI r) = nI (9 * r) from pk_mul 9 r) ?_)
  refine lv_iload_n hx hb dX4_turn_36 rfl (lv_at hl 4 rfl) ?_
  refine lv_iadd hx hb dX4_turn_37 ?_
  refine lv_topi (nm_r (show (nI (9 * r)) + 6 = nI (9 * r + 6) from nI_add (9 * r) 6) ?_)
  refine lv_iconst (v := 2) hx hb dX4_turn_38 (by decide) ?_
  refine lv_iadd hx hb dX4_turn_39 ?_
  refine lv_topi (nm_r (show (nI (9 * r + 6)) + 2 = nI (9 * r + 6 + 2) from nI_add (9 * r + 6) 2) ?_)
  have hj_13 : 9 * r + 6 + 2 < τ 3 x_1 := by rw [show τ 3 x_1 = 9216 from (hI.arr h_2 rfl).2.1]; omega
  refine W.eq (g2 := F0 m 40 ls (.int (nI (9 * r + 6 + 2)) :: .ref x_1 :: [])) rfl ?_
  refine kp_fald (j := 9 * r + 6 + 2) hx hb hK hP hI h_2 rfl hj_13 dX4_turn_40 (ka_F (cd := 1115684864) rfl (by decide) fun x_14 h_15 => ?_)
  refine lv_fstore (lv' := [(6, .float x_14), (5, .float x_9), (4, .float x_4), (0, .ref mm), (1, .int (nI r)), (2, .int 6), (3, .int (nI b))]) hx hb dX4_turn_41 hl (by decide) rfl (fun ls hl => ?_)
  refine lv_bipush (v := 13) hx hb dX4_turn_43 (by decide) ?_
  refine lv_iload_n hx hb dX4_turn_45 rfl (lv_at hl 6 rfl) ?_
  refine lv_imul hx hb dX4_turn_46 ?_
  refine lv_topi (nm_r (show (13 : Int32) * (nI b) = nI (13 * b) from pk_mul 13 b) ?_)
  refine lv_istore (lv' := [(7, .int (nI (13 * b))), (6, .float x_14), (5, .float x_9), (4, .float x_4), (0, .ref mm), (1, .int (nI r)), (2, .int 6), (3, .int (nI b))]) hx hb dX4_turn_47 hl (by decide) rfl (fun ls hl => ?_)
  refine lv_aload_n hx hb dX4_turn_49 rfl (lv_at hl 4 rfl) ?_
  refine lv_iload_n hx hb dX4_turn_50 rfl (lv_at hl 7 rfl) ?_
  refine kd_calli (va_runV (As := [.int (nI b)]) (rest := []) ⟨hx, hb, hml, hown, hts⟩ (k_movN l dC dI dA ad _ τ pv _ _ hI mm fa sa aa ia sf mb mr mk mi hW b (by omega)) (cwV 1 hts gX4_turn_X4_movable rfl rfl rfl (by decide +kernel) ⟨Nat.le_of_ble_eq_true rfl, Nat.le_of_ble_eq_true rfl⟩) (kd_preV hP hD hK hS hA hE hI hW.tm rfl rfl) rfl rfl hl.1 rfl (lv_room (Nat.le_of_ble_eq_true rfl)) dX4_turn_51 ⟨Nat.le_of_ble_eq_true rfl, Nat.le_of_ble_eq_true rfl⟩) hD hS hA (fun r_17 u_16 H locs hw hP hD hS => ?_)
  obtain ⟨hr_17, hI⟩ := hw
  refine lv_istore (lv' := [(8, .int r_17), (7, .int (nI (13 * b))), (6, .float x_14), (5, .float x_9), (4, .float x_4), (0, .ref mm), (1, .int (nI r)), (2, .int 6), (3, .int (nI b))]) hx hb dX4_turn_54 hl (by decide) rfl (fun ls hl => ?_)
  refine lv_aload_n hx hb dX4_turn_56 rfl (lv_at hl 5 rfl) ?_
  refine lv_iload hx hb dX4_turn_57 (lv_at hl 0 rfl) ?_
  refine lv_if_eq (tgt := 106) hx hb dX4_turn_59 (by decide) (fun c_18 => ?_) (fun c_18 => ?_)
  · subst c_18
    refine lv_fconst0 hx hb dX4_turn_106 ?_
    refine kp_put (v := .float FP.fconst0) (ty := .float) hx hb hts i_X4 tyX4 tyX4_ok nmX4 hown hK hP hD hS hI hW.tm rfl rfl 32 (by decide) (by decide) (hts (.fieldLink RX4 158 "IslandSolverModel" "px" "F") (by decide +kernel)) (fun _ h9 => h9) rfl (by decide +kernel) rfl rfl rfl (by decide) (kv_F (by decide) (fb_le kc_0 (by decide))) dX4_turn_107 (fun f H locs hI hP hD hS => ?_)
    refine lv_aload_n hx hb dX4_turn_110 rfl (lv_at hl 5 rfl) ?_
    refine lv_iload hx hb dX4_turn_111 (lv_at hl 0 rfl) ?_
    refine lv_if_eq (tgt := 160) hx hb dX4_turn_113 (by decide) (fun _ => ?_) (fun h9 => by first | exact absurd h9 (by decide) | exact absurd (by decide) h9)
    refine lv_fconst0 hx hb dX4_turn_160 ?_
    refine kp_put (v := .float FP.fconst0) (ty := .float) hx hb hts i_X4 tyX4 tyX4_ok nmX4 hown hK hP hD hS hI hW.tm rfl rfl 33 (by decide) (by decide) (hts (.fieldLink RX4 161 "IslandSolverModel" "py" "F") (by decide +kernel)) (fun _ h9 => h9) rfl (by decide +kernel) rfl rfl rfl (by decide) (kv_F (by decide) (fb_le kc_0 (by decide))) dX4_turn_161 (fun f H locs hI hP hD hS => ?_)
    refine lv_aload_n hx hb dX4_turn_164 rfl (lv_at hl 5 rfl) ?_
    refine lv_iload hx hb dX4_turn_165 (lv_at hl 0 rfl) ?_
    refine lv_if_eq (tgt := 214) hx hb dX4_turn_167 (by decide) (fun _ => ?_) (fun h9 => by first | exact absurd h9 (by decide) | exact absurd (by decide) h9)
    refine lv_fconst0 hx hb dX4_turn_214 ?_
    refine kp_put (v := .float FP.fconst0) (ty := .float) hx hb hts i_X4 tyX4 tyX4_ok nmX4 hown hK hP hD hS hI hW.tm rfl rfl 34 (by decide) (by decide) (hts (.fieldLink RX4 164 "IslandSolverModel" "pz" "F") (by decide +kernel)) (fun _ h9 => h9) rfl (by decide +kernel) rfl rfl rfl (by decide) (kv_F (by decide) (fb_le kc_0 (by decide))) dX4_turn_215 (fun f H locs hI hP hD hS => ?_)
    refine W.widen (k := 0) (n := 0) (Nat.le_of_ble_eq_true rfl) (Nat.le_of_ble_eq_true rfl) ?_
    exact W.vret hx hb hr (fun t ht hW9 => ⟨⟨(u_16.1, f), rfl, hI, by rw [ht]; exact hP, va_K.moved hW9.alike hK, hD⟩, hS.F ht⟩) hS.2.2 dX4_turn_218
  · obtain rfl : r_17 = 1 := (hr_17).resolve_left c_18
    refine lv_aload_n hx hb dX4_turn_62 rfl (lv_at hl 5 rfl) ?_
    refine kp_get hx hb hts i_X4 hown hK hP hI hW.tm rfl rfl 2 (by decide) (by decide) (hts (.fieldLink RX4 7 "IslandSolverModel" "body" "[F") (by decide +kernel)) (fun _ h9 => h9) dX4_turn_63 (kq_RE 15 (by decide) fun x_19 h_20_e h_20 => ?_)
    refine lv_iload hx hb dX4_turn_66 (lv_at hl 1 rfl) ?_
    refine lv_bipush (v := 7) hx hb dX4_turn_68 (by decide) ?_
    refine lv_iadd hx hb dX4_turn_70 ?_
    refine lv_topi (nm_r (show (nI (13 * b)) + 7 = nI (13 * b + 7) from nI_add (13 * b) 7) ?_)
    have hj_21 : 13 * b + 7 < τ 3 x_19 := by rw [show τ 3 x_19 = 3328 from (hI.arr h_20 rfl).2.1]; omega
    refine W.eq (g2 := F0 m 71 ls (.int (nI (13 * b + 7)) :: .ref x_19 :: [.ref mm])) rfl ?_
    refine kp_faldE (j := 13 * b + 7) hx hb hK hP hI h_20 rfl hj_21 dX4_turn_71 (ka_FE (cd := 1098907648) (show kEc 15 (13 * b + 7) = 1098907648 from if_neg (by omega)) (by decide) fun x_22 h_23_e h_23 => ?_)
    refine lv_fload hx hb dX4_turn_72 (lv_at hl 4 rfl) ?_
    refine kw_fmul (M := 1149239296) hx hb dX4_turn_74 h_23 h_5 (by decide) (by decide) (by decide +kernel) (by decide) (fun z_24 hz_25 => ?_)
    refine lv_aload_n hx hb dX4_turn_75 rfl (lv_at hl 5 rfl) ?_
    refine kp_get hx hb hts i_X4 hown hK hP hI hW.tm rfl rfl 2 (by decide) (by decide) (hts (.fieldLink RX4 7 "IslandSolverModel" "body" "[F") (by decide +kernel)) (fun _ h9 => h9) dX4_turn_76 (kq_E h_20_e ?_)
    refine lv_iload hx hb dX4_turn_79 (lv_at hl 1 rfl) ?_
    refine lv_bipush (v := 10) hx hb dX4_turn_81 (by decide) ?_
    refine lv_iadd hx hb dX4_turn_83 ?_
    refine lv_topi (nm_r (show (nI (13 * b)) + 10 = nI (13 * b + 10) from nI_add (13 * b) 10) ?_)
    have hj_28 : 13 * b + 10 < τ 3 x_19 := by rw [show τ 3 x_19 = 3328 from (hI.arr h_20 rfl).2.1]; omega
    refine W.eq (g2 := F0 m 84 ls (.int (nI (13 * b + 10)) :: .ref x_19 :: [.float z_24, .ref mm])) rfl ?_
    refine kp_faldE (j := 13 * b + 10) hx hb hK hP hI h_20 rfl hj_28 dX4_turn_84 (ka_FE (cd := 1098907648) (show kEc 15 (13 * b + 10) = 1098907648 from if_neg (by omega)) (by decide) fun x_29 h_30_e h_30 => ?_)
    refine lv_fload hx hb dX4_turn_85 (lv_at hl 3 rfl) ?_
    refine kw_fmul (M := 1149239296) hx hb dX4_turn_87 h_30 h_10 (by decide) (by decide) (by decide +kernel) (by decide) (fun z_31 hz_32 => ?_)
    refine kw_fadd (M := 1157627904) hx hb dX4_turn_88 hz_25 hz_32 (by decide) (by decide) (by decide +kernel) (by decide) (fun z_33 hz_34 => ?_)
    refine lv_aload_n hx hb dX4_turn_89 rfl (lv_at hl 5 rfl) ?_
    refine kp_get hx hb hts i_X4 hown hK hP hI hW.tm rfl rfl 2 (by decide) (by decide) (hts (.fieldLink RX4 7 "IslandSolverModel" "body" "[F") (by decide +kernel)) (fun _ h9 => h9) dX4_turn_90 (kq_E h_20_e ?_)
    refine lv_iload hx hb dX4_turn_93 (lv_at hl 1 rfl) ?_
    refine lv_bipush (v := 12) hx hb dX4_turn_95 (by decide) ?_
    refine lv_iadd hx hb dX4_turn_97 ?_
    refine lv_topi (nm_r (show (nI (13 * b)) + 12 = nI (13 * b + 12) from nI_add (13 * b) 12) ?_)
    have hj_37 : 13 * b + 12 < τ 3 x_19 := by rw [show τ 3 x_19 = 3328 from (hI.arr h_20 rfl).2.1]; omega
    refine W.eq (g2 := F0 m 98 ls (.int (nI (13 * b + 12)) :: .ref x_19 :: [.float z_33, .ref mm])) rfl ?_
    refine kp_faldE (j := 13 * b + 12) hx hb hK hP hI h_20 rfl hj_37 dX4_turn_98 (ka_FE (cd := 1098907648) (show kEc 15 (13 * b + 12) = 1098907648 from if_neg (by omega)) (by decide) fun x_38 h_39_e h_39 => ?_)
    refine lv_fload hx hb dX4_turn_99 (lv_at hl 2 rfl) ?_
    refine kw_fmul (M := 1149239296) hx hb dX4_turn_101 h_39 h_15 (by decide) (by decide) (by decide +kernel) (by decide) (fun z_40 hz_41 => ?_)
    refine kw_fadd (M := 1161822208) hx hb dX4_turn_102 hz_34 hz_41 (by decide) (by decide) (by decide +kernel) (by decide) (fun z_42 hz_43 => ?_)
    refine lv_goto (tgt := 107) hx hb dX4_turn_103 (by decide) ?_
    refine kp_put (v := .float z_42) (ty := .float) hx hb hts i_X4 tyX4 tyX4_ok nmX4 hown hK hP hD hS hI hW.tm rfl rfl 32 (by decide) (by decide) (hts (.fieldLink RX4 158 "IslandSolverModel" "px" "F") (by decide +kernel)) (fun _ h9 => h9) rfl (by decide +kernel) rfl rfl rfl (by decide) (kv_F (by decide) hz_43) dX4_turn_107 (fun f H locs hI hP hD hS => ?_)
    refine lv_aload_n hx hb dX4_turn_110 rfl (lv_at hl 5 rfl) ?_
    refine lv_iload hx hb dX4_turn_111 (lv_at hl 0 rfl) ?_
    refine lv_if_eq (tgt := 160) hx hb dX4_turn_113 (by decide) (fun h9 => by first | exact absurd h9 (by decide) | exact absurd (by decide) h9) (fun _ => ?_)
    refine lv_aload_n hx hb dX4_turn_116 rfl (lv_at hl 5 rfl) ?_
    refine kp_get hx hb hts i_X4 hown hK hP hI hW.tm rfl rfl 2 (by decide) (by decide) (hts (.fieldLink RX4 7 "IslandSolverModel" "body" "[F") (by decide +kernel)) (fun _ h9 => h9) dX4_turn_117 (kq_RE 15 (by decide) fun x_44 h_45_e h_45 => ?_)
    refine lv_iload hx hb dX4_turn_120 (lv_at hl 1 rfl) ?_
    refine lv_bipush (v := 10) hx hb dX4_turn_122 (by decide) ?_
    refine lv_iadd hx hb dX4_turn_124 ?_
    refine lv_topi (nm_r (show (nI (13 * b)) + 10 = nI (13 * b + 10) from nI_add (13 * b) 10) ?_)
    have hj_46 : 13 * b + 10 < τ 3 x_44 := by rw [show τ 3 x_44 = 3328 from (hI.arr h_45 rfl).2.1]; omega
    refine W.eq (g2 := F0 m 125 ls (.int (nI (13 * b + 10)) :: .ref x_44 :: [.ref mm])) rfl ?_
    refine kp_faldE (j := 13 * b + 10) hx hb hK hP hI h_45 rfl hj_46 dX4_turn_125 (ka_FE (cd := 1098907648) (show kEc 15 (13 * b + 10) = 1098907648 from if_neg (by omega)) (by decide) fun x_47 h_48_e h_48 => ?_)
    refine lv_fload hx hb dX4_turn_126 (lv_at hl 4 rfl) ?_
    refine kw_fmul (M := 1149239296) hx hb dX4_turn_128 h_48 h_5 (by decide) (by decide) (by decide +kernel) (by decide) (fun z_49 hz_50 => ?_)
    refine lv_aload_n hx hb dX4_turn_129 rfl (lv_at hl 5 rfl) ?_
    refine kp_get hx hb hts i_X4 hown hK hP hI hW.tm rfl rfl 2 (by decide) (by decide) (hts (.fieldLink RX4 7 "IslandSolverModel" "body" "[F") (by decide +kernel)) (fun _ h9 => h9) dX4_turn_130 (kq_E h_45_e ?_)
    refine lv_iload hx hb dX4_turn_133 (lv_at hl 1 rfl) ?_
    refine lv_bipush (v := 8) hx hb dX4_turn_135 (by decide) ?_
    refine lv_iadd hx hb dX4_turn_137 ?_
    refine lv_topi (nm_r (show (nI (13 * b)) + 8 = nI (13 * b + 8) from nI_add (13 * b) 8) ?_)
    have hj_53 : 13 * b + 8 < τ 3 x_44 := by rw [show τ 3 x_44 = 3328 from (hI.arr h_45 rfl).2.1]; omega
    refine W.eq (g2 := F0 m 138 ls (.int (nI (13 * b + 8)) :: .ref x_44 :: [.float z_49, .ref mm])) rfl ?_
    refine kp_faldE (j := 13 * b + 8) hx hb hK hP hI h_45 rfl hj_53 dX4_turn_138 (ka_FE (cd := 1098907648) (show kEc 15 (13 * b + 8) = 1098907648 from if_neg (by omega)) (by decide) fun x_54 h_55_e h_55 => ?_)
    refine lv_fload hx hb dX4_turn_139 (lv_at hl 3 rfl) ?_
    refine kw_fmul (M := 1149239296) hx hb dX4_turn_141 h_55 h_10 (by decide) (by decide) (by decide +kernel) (by decide) (fun z_56 hz_57 => ?_)
    refine kw_fadd (M := 1157627904) hx hb dX4_turn_142 hz_50 hz_57 (by decide) (by decide) (by decide +kernel) (by decide) (fun z_58 hz_59 => ?_)
    refine lv_aload_n hx hb dX4_turn_143 rfl (lv_at hl 5 rfl) ?_
    refine kp_get hx hb hts i_X4 hown hK hP hI hW.tm rfl rfl 2 (by decide) (by decide) (hts (.fieldLink RX4 7 "IslandSolverModel" "body" "[F") (by decide +kernel)) (fun _ h9 => h9) dX4_turn_144 (kq_E h_45_e ?_)
    refine lv_iload hx hb dX4_turn_147 (lv_at hl 1 rfl) ?_
    refine lv_bipush (v := 11) hx hb dX4_turn_149 (by decide) ?_
    refine lv_iadd hx hb dX4_turn_151 ?_
    refine lv_topi (nm_r (show (nI (13 * b)) + 11 = nI (13 * b + 11) from nI_add (13 * b) 11) ?_)
    have hj_62 : 13 * b + 11 < τ 3 x_44 := by rw [show τ 3 x_44 = 3328 from (hI.arr h_45 rfl).2.1]; omega
    refine W.eq (g2 := F0 m 152 ls (.int (nI (13 * b + 11)) :: .ref x_44 :: [.float z_58, .ref mm])) rfl ?_
    refine kp_faldE (j := 13 * b + 11) hx hb hK hP hI h_45 rfl hj_62 dX4_turn_152 (ka_FE (cd := 1098907648) (show kEc 15 (13 * b + 11) = 1098907648 from if_neg (by omega)) (by decide) fun x_63 h_64_e h_64 => ?_)
    refine lv_fload hx hb dX4_turn_153 (lv_at hl 2 rfl) ?_
    refine kw_fmul (M := 1149239296) hx hb dX4_turn_155 h_64 h_15 (by decide) (by decide) (by decide +kernel) (by decide) (fun z_65 hz_66 => ?_)
    refine kw_fadd (M := 1161822208) hx hb dX4_turn_156 hz_59 hz_66 (by decide) (by decide) (by decide +kernel) (by decide) (fun z_67 hz_68 => ?_)
    refine lv_goto (tgt := 161) hx hb dX4_turn_157 (by decide) ?_
    refine kp_put (v := .float z_67) (ty := .float) hx hb hts i_X4 tyX4 tyX4_ok nmX4 hown hK hP hD hS hI hW.tm rfl rfl 33 (by decide) (by decide) (hts (.fieldLink RX4 161 "IslandSolverModel" "py" "F") (by decide +kernel)) (fun _ h9 => h9) rfl (by decide +kernel) rfl rfl rfl (by decide) (kv_F (by decide) hz_68) dX4_turn_161 (fun f H locs hI hP hD hS => ?_)
    refine lv_aload_n hx hb dX4_turn_164 rfl (lv_at hl 5 rfl) ?_
    refine lv_iload hx hb dX4_turn_165 (lv_at hl 0 rfl) ?_
    refine lv_if_eq (tgt := 214) hx hb dX4_turn_167 (by decide) (fun h9 => by first | exact absurd h9 (by decide) | exact absurd (by decide) h9) (fun _ => ?_)
    refine lv_aload_n hx hb dX4_turn_170 rfl (lv_at hl 5 rfl) ?_
    refine kp_get hx hb hts i_X4 hown hK hP hI hW.tm rfl rfl 2 (by decide) (by decide) (hts (.fieldLink RX4 7 "IslandSolverModel" "body" "[F") (by decide +kernel)) (fun _ h9 => h9) dX4_turn_171 (kq_RE 15 (by decide) fun x_69 h_70_e h_70 => ?_)
    refine lv_iload hx hb dX4_turn_174 (lv_at hl 1 rfl) ?_
    refine lv_bipush (v := 12) hx hb dX4_turn_176 (by decide) ?_
    refine lv_iadd hx hb dX4_turn_178 ?_
    refine lv_topi (nm_r (show (nI (13 * b)) + 12 = nI (13 * b + 12) from nI_add (13 * b) 12) ?_)
    have hj_71 : 13 * b + 12 < τ 3 x_69 := by rw [show τ 3 x_69 = 3328 from (hI.arr h_70 rfl).2.1]; omega
    refine W.eq (g2 := F0 m 179 ls (.int (nI (13 * b + 12)) :: .ref x_69 :: [.ref mm])) rfl ?_
    refine kp_faldE (j := 13 * b + 12) hx hb hK hP hI h_70 rfl hj_71 dX4_turn_179 (ka_FE (cd := 1098907648) (show kEc 15 (13 * b + 12) = 1098907648 from if_neg (by omega)) (by decide) fun x_72 h_73_e h_73 => ?_)
    refine lv_fload hx hb dX4_turn_180 (lv_at hl 4 rfl) ?_
    refine kw_fmul (M := 1149239296) hx hb dX4_turn_182 h_73 h_5 (by decide) (by decide) (by decide +kernel) (by decide) (fun z_74 hz_75 => ?_)
    refine lv_aload_n hx hb dX4_turn_183 rfl (lv_at hl 5 rfl) ?_
    refine kp_get hx hb hts i_X4 hown hK hP hI hW.tm rfl rfl 2 (by decide) (by decide) (hts (.fieldLink RX4 7 "IslandSolverModel" "body" "[F") (by decide +kernel)) (fun _ h9 => h9) dX4_turn_184 (kq_E h_70_e ?_)
    refine lv_iload hx hb dX4_turn_187 (lv_at hl 1 rfl) ?_
    refine lv_bipush (v := 11) hx hb dX4_turn_189 (by decide) ?_
    refine lv_iadd hx hb dX4_turn_191 ?_
    refine lv_topi (nm_r (show (nI (13 * b)) + 11 = nI (13 * b + 11) from nI_add (13 * b) 11) ?_)
    have hj_78 : 13 * b + 11 < τ 3 x_69 := by rw [show τ 3 x_69 = 3328 from (hI.arr h_70 rfl).2.1]; omega
    refine W.eq (g2 := F0 m 192 ls (.int (nI (13 * b + 11)) :: .ref x_69 :: [.float z_74, .ref mm])) rfl ?_
    refine kp_faldE (j := 13 * b + 11) hx hb hK hP hI h_70 rfl hj_78 dX4_turn_192 (ka_FE (cd := 1098907648) (show kEc 15 (13 * b + 11) = 1098907648 from if_neg (by omega)) (by decide) fun x_79 h_80_e h_80 => ?_)
    refine lv_fload hx hb dX4_turn_193 (lv_at hl 3 rfl) ?_
    refine kw_fmul (M := 1149239296) hx hb dX4_turn_195 h_80 h_10 (by decide) (by decide) (by decide +kernel) (by decide) (fun z_81 hz_82 => ?_)
    refine kw_fadd (M := 1157627904) hx hb dX4_turn_196 hz_75 hz_82 (by decide) (by decide) (by decide +kernel) (by decide) (fun z_83 hz_84 => ?_)
    refine lv_aload_n hx hb dX4_turn_197 rfl (lv_at hl 5 rfl) ?_
    refine kp_get hx hb hts i_X4 hown hK hP hI hW.tm rfl rfl 2 (by decide) (by decide) (hts (.fieldLink RX4 7 "IslandSolverModel" "body" "[F") (by decide +kernel)) (fun _ h9 => h9) dX4_turn_198 (kq_E h_70_e ?_)
    refine lv_iload hx hb dX4_turn_201 (lv_at hl 1 rfl) ?_
    refine lv_bipush (v := 9) hx hb dX4_turn_203 (by decide) ?_
    refine lv_iadd hx hb dX4_turn_205 ?_
    refine lv_topi (nm_r (show (nI (13 * b)) + 9 = nI (13 * b + 9) from nI_add (13 * b) 9) ?_)
    have hj_87 : 13 * b + 9 < τ 3 x_69 := by rw [show τ 3 x_69 = 3328 from (hI.arr h_70 rfl).2.1]; omega
    refine W.eq (g2 := F0 m 206 ls (.int (nI (13 * b + 9)) :: .ref x_69 :: [.float z_83, .ref mm])) rfl ?_
    refine kp_faldE (j := 13 * b + 9) hx hb hK hP hI h_70 rfl hj_87 dX4_turn_206 (ka_FE (cd := 1098907648) (show kEc 15 (13 * b + 9) = 1098907648 from if_neg (by omega)) (by decide) fun x_88 h_89_e h_89 => ?_)
    refine lv_fload hx hb dX4_turn_207 (lv_at hl 2 rfl) ?_
    refine kw_fmul (M := 1149239296) hx hb dX4_turn_209 h_89 h_15 (by decide) (by decide) (by decide +kernel) (by decide) (fun z_90 hz_91 => ?_)
    refine kw_fadd (M := 1161822208) hx hb dX4_turn_210 hz_84 hz_91 (by decide) (by decide) (by decide +kernel) (by decide) (fun z_92 hz_93 => ?_)
    refine lv_goto (tgt := 215) hx hb dX4_turn_211 (by decide) ?_
    refine kp_put (v := .float z_92) (ty := .float) hx hb hts i_X4 tyX4 tyX4_ok nmX4 hown hK hP hD hS hI hW.tm rfl rfl 34 (by decide) (by decide) (hts (.fieldLink RX4 164 "IslandSolverModel" "pz" "F") (by decide +kernel)) (fun _ h9 => h9) rfl (by decide +kernel) rfl rfl rfl (by decide) (kv_F (by decide) hz_93) dX4_turn_215 (fun f H locs hI hP hD hS => ?_)
    refine W.widen (k := 0) (n := 0) (Nat.le_of_ble_eq_true rfl) (Nat.le_of_ble_eq_true rfl) ?_
    exact W.vret hx hb hr (fun t ht hW9 => ⟨⟨(u_16.1, f), rfl, hI, by rw [ht]; exact hP, va_K.moved hW9.alike hK, hD⟩, hS.F ht⟩) hS.2.2 dX4_turn_218
set_option maxHeartbeats 4000000 in
set_option maxRecDepth 100000 in
theorem k_turnM3 (l : Launch) (dC : Nat → ClassId) (dI : Nat → Nat → Nat) (dA : Nat → ClassId) (ad sz : Nat) (τ : Nat → Nat → Nat) (pv : Nat → Nat → Value) (L : List Nat) (f : Nat → va_E) (hI : kI dA τ pv L f) (mm fa sa aa ia sf mb mr mk mi : Nat) (hW : kMd τ pv mm fa sa aa ia sf mb mr mk mi) (r : Nat) (hr : r < 1024) : Met l yX4_turn wsX4_turn ({ frames := 1, cells := 0, slots := 0, locals := 22 } : Room) (va_Pc [.ref mm, .int (nI r), .int 3, .int (-1)] (kB dC dI dA ad sz L f)) (va_Qv (fun u => kI dA τ pv u.1 u.2) (kR dC dI dA (va_A (va_pl L f) sz)) (va_A (va_pl L f) sz)) 0 0 (va_A (va_pl L f) sz) := by
  refine Met.ofW (cc := cX4_turn) (maxL := 9) (ret := none) (by decide) rfl ?_
  intro p e s m args below meth c s₁ B hml hv
  obtain ⟨rfl, hsz, hP, hK, hD0, hE⟩ := hv
  have hx := B.exec
  have hb := B.bytes
  have hr := B.returns
  have hts := atoms_spec (ws := wsX4_turn) B.pre
  have hown : s.vm.findClass RX4 = some m.cls := findClass_of_methodNamed B.named
  have hlocks := B.notSynchronized
  have i_X4 : ∀ w ∈ u_ws RX4 TX4 35, w ∈ wsX4_turn := by decide +kernel
  subst hsz
  have hD := hD0.self (sz := s.heap.size)
  generalize hAe : va_A (va_pl L f) s.heap.size = A at hD hE ⊢
  have hA : ∀ q : Nat, s.heap.size ≤ q → A q := fun q h => by rw [← hAe]; exact Or.inr h
  have hS : va_S A s.heap s.heap [] := va_S.rf
  have hP : va_P (dC, dI) vwCl (va_pl L f) s.heap := hP
  have hK : va_K (dC, dI) vwCl (tyA dA) s := hK
  have hl := lv_entry ([.ref mm, .int (nI r), .int 3, .int (-1)]) (n := 9) (Nat.le_of_ble_eq_true rfl)
  rw [lg_entry_eq]
  generalize (lg_sl ([.ref mm, .int (nI r), .int 3, .int (-1)]) ++ List.replicate (9 - (lg_sl ([.ref mm, .int (nI r), .int 3, .int (-1)])).length) Slot.unset).toArray = ls at hl ⊢
  have hl : lv_has ls 9 [(0, .ref mm), (1, .int (nI r)), (2, .int 3), (3, .int (-1))] := hl
  have hnb := hW.lb
  have hnr := hW.lr
  have hnk := hW.lk
  have hni := hW.li
  refine lv_aload_n hx hb dX4_turn_0 rfl (lv_at hl 0 rfl) ?_
  refine kp_get hx hb hts i_X4 hown hK hP hI hW.tm rfl rfl 9 (by decide) (by decide) (hts (.fieldLink RX4 30 "IslandSolverModel" "ways" "[F") (by decide +kernel)) (fun _ h9 => h9) dX4_turn_1 (kq_RE 21 (by decide) fun x_1 h_2_e h_2 => ?_)
  refine lv_bipush (v := 9) hx hb dX4_turn_4 (by decide) ?_
  refine lv_iload_n hx hb dX4_turn_6 rfl (lv_at hl 1 rfl) ?_
  refine lv_imul hx hb dX4_turn_7 ?_
  refine lv_topi (nm_r (show (9 : Int32) * (nI r) = nI (9 * r) from pk_mul 9 r) ?_)
  refine lv_iload_n hx hb dX4_turn_8 rfl (lv_at hl 2 rfl) ?_
  refine lv_iadd hx hb dX4_turn_9 ?_
  refine lv_topi (nm_r (show (nI (9 * r)) + 3 = nI (9 * r + 3) from nI_add (9 * r) 3) ?_)
  have hj_3 : 9 * r + 3 < τ 3 x_1 := by rw [show τ 3 x_1 = 9216 from (hI.arr h_2 rfl).2.1]; omega
  refine W.eq (g2 := F0 m 10 ls (.int (nI (9 * r + 3)) :: .ref x_1 :: [])) rfl ?_
  refine kp_fald (j := 9 * r + 3) hx hb hK hP hI h_2 rfl hj_3 dX4_turn_10 (ka_F (cd := 1115684864) rfl (by decide) fun x_4 h_5 => ?_)
  refine lv_fstore (lv' := [(4, .float x_4), (0, .ref mm), (1, .int (nI r)), (2, .int 3), (3, .int (-1))]) hx hb dX4_turn_11 hl (by decide) rfl (fun ls hl => ?_)
  refine lv_aload_n hx hb dX4_turn_13 rfl (lv_at hl 1 rfl) ?_
  refine kp_get hx hb hts i_X4 hown hK hP hI hW.tm rfl rfl 9 (by decide) (by decide) (hts (.fieldLink RX4 30 "IslandSolverModel" "ways" "[F") (by decide +kernel)) (fun _ h9 => h9) dX4_turn_14 (kq_E h_2_e ?_)
  refine lv_bipush (v := 9) hx hb dX4_turn_17 (by decide) ?_
  refine lv_iload_n hx hb dX4_turn_19 rfl (lv_at hl 2 rfl) ?_
  refine lv_imul hx hb dX4_turn_20 ?_
  refine lv_topi (nm_r (show (9 : Int32) * (nI r) = nI (9 * r) from pk_mul 9 r) ?_)
  refine lv_iload_n hx hb dX4_turn_21 rfl (lv_at hl 3 rfl) ?_
  refine lv_iadd hx hb dX4_turn_22 ?_
  refine lv_topi (nm_r (show (nI (9 * r)) + 3 = nI (9 * r + 3) from nI_add (9 * r) 3) ?_)
  refine lv_iconst (v := 1) hx hb dX4_turn_23 (by decide) ?_
  refine lv_iadd hx hb dX4_turn_24 ?_
  refine lv_topi (nm_r (show (nI (9 * r + 3)) + 1 = nI (9 * r + 3 + 1) from nI_add (9 * r + 3) 1) ?_)
  have hj_8 : 9 * r + 3 + 1 < τ 3 x_1 := by rw [show τ 3 x_1 = 9216 from (hI.arr h_2 rfl).2.1]; omega
  refine W.eq (g2 := F0 m 25 ls (.int (nI (9 * r + 3 + 1)) :: .ref x_1 :: [])) rfl ?_
  refine kp_fald (j := 9 * r + 3 + 1) hx hb hK hP hI h_2 rfl hj_8 dX4_turn_25 (ka_F (cd := 1115684864) rfl (by decide) fun x_9 h_10 => ?_)
  refine lv_fstore (lv' := [(5, .float x_9), (4, .float x_4), (0, .ref mm), (1, .int (nI r)), (2, .int 3), (3, .int (-1))]) hx hb dX4_turn_26 hl (by decide) rfl (fun ls hl => ?_)
  refine lv_aload_n hx hb dX4_turn_28 rfl (lv_at hl 2 rfl) ?_
  refine kp_get hx hb hts i_X4 hown hK hP hI hW.tm rfl rfl 9 (by decide) (by decide) (hts (.fieldLink RX4 30 "IslandSolverModel" "ways" "[F") (by decide +kernel)) (fun _ h9 => h9) dX4_turn_29 (kq_E h_2_e ?_)
  refine lv_bipush (v := 9) hx hb dX4_turn_32 (by decide) ?_
  refine lv_iload_n hx hb dX4_turn_34 rfl (lv_at hl 3 rfl) ?_
  refine lv_imul hx hb dX4_turn_35 ?_
  refine lv_topi (nm_r (show (9 : Int32) * (nI r) = nI (9 * r) from pk_mul 9 r) ?_)
  refine lv_iload_n hx hb dX4_turn_36 rfl (lv_at hl 4 rfl) ?_
  refine lv_iadd hx hb dX4_turn_37 ?_
  refine lv_topi (nm_r (show (nI (9 * r)) + 3 = nI (9 * r + 3) from nI_add (9 * r) 3) ?_)
  refine lv_iconst (v := 2) hx hb dX4_turn_38 (by decide) ?_
  refine lv_iadd hx hb dX4_turn_39 ?_
  refine lv_topi (nm_r (show (nI (9 * r + 3)) + 2 = nI (9 * r + 3 + 2) from nI_add (9 * r + 3) 2) ?_)
  have hj_13 : 9 * r + 3 + 2 < τ 3 x_1 := by rw [show τ 3 x_1 = 9216 from (hI.arr h_2 rfl).2.1]; omega
  refine W.eq (g2 := F0 m 40 ls (.int (nI (9 * r + 3 + 2)) :: .ref x_1 :: [])) rfl ?_
  refine kp_fald (j := 9 * r + 3 + 2) hx hb hK hP hI h_2 rfl hj_13 dX4_turn_40 (ka_F (cd := 1115684864) rfl (by decide) fun x_14 h_15 => ?_)
  refine lv_fstore (lv' := [(6, .float x_14), (5, .float x_9), (4, .float x_4), (0, .ref mm), (1, .int (nI r)), (2, .int 3), (3, .int (-1))]) hx hb dX4_turn_41 hl (by decide) rfl (fun ls hl => ?_)
  refine lv_bipush (v := 13) hx hb dX4_turn_43 (by decide) ?_
  refine lv_iload_n hx hb dX4_turn_45 rfl (lv_at hl 6 rfl) ?_
  refine lv_imul hx hb dX4_turn_46 ?_
  refine lv_topi (nm_r (show (13 : Int32) * (-1) = (-13) by decide) ?_)
  refine lv_istore (lv' := [(7, .int (-13)), (6, .float x_14), (5, .float x_9), (4, .float x_4), (0, .ref mm), (1, .int (nI r)), (2, .int 3), (3, .int (-1))]) hx hb dX4_turn_47 hl (by decide) rfl (fun ls hl => ?_)
  refine lv_aload_n hx hb dX4_turn_49 rfl (lv_at hl 4 rfl) ?_
  refine lv_iload_n hx hb dX4_turn_50 rfl (lv_at hl 7 rfl) ?_
  refine kd_calli (va_runV (As := [.int (-1)]) (rest := []) ⟨hx, hb, hml, hown, hts⟩ (k_movM l dC dI dA ad _ τ pv _ _ hI mm fa sa aa ia sf mb mr mk mi hW ) (cwV 1 hts gX4_turn_X4_movable rfl rfl rfl (by decide +kernel) ⟨Nat.le_of_ble_eq_true rfl, Nat.le_of_ble_eq_true rfl⟩) (kd_preV hP hD hK hS hA hE hI hW.tm rfl rfl) rfl rfl hl.1 rfl (lv_room (Nat.le_of_ble_eq_true rfl)) dX4_turn_51 ⟨Nat.le_of_ble_eq_true rfl, Nat.le_of_ble_eq_true rfl⟩) hD hS hA (fun r_17 u_16 H locs hw hP hD hS => ?_)
  obtain ⟨rfl, hI⟩ := hw
  refine lv_istore (lv' := [(8, .int 0), (7, .int (-13)), (6, .float x_14), (5, .float x_9), (4, .float x_4), (0, .ref mm), (1, .int (nI r)), (2, .int 3), (3, .int (-1))]) hx hb dX4_turn_54 hl (by decide) rfl (fun ls hl => ?_)
  refine lv_aload_n hx hb dX4_turn_56 rfl (lv_at hl 5 rfl) ?_
  refine lv_iload hx hb dX4_turn_57 (lv_at hl 0 rfl) ?_
  refine lv_if_eq (tgt := 106) hx hb dX4_turn_59 (by decide) (fun _ => ?_) (fun h9 => by first | exact absurd h9 (by decide) | exact absurd (by decide) h9)
  refine lv_fconst0 hx hb dX4_turn_106 ?_
  refine kp_put (v := .float FP.fconst0) (ty := .float) hx hb hts i_X4 tyX4 tyX4_ok nmX4 hown hK hP hD hS hI hW.tm rfl rfl 32 (by decide) (by decide) (hts (.fieldLink RX4 158 "IslandSolverModel" "px" "F") (by decide +kernel)) (fun _ h9 => h9) rfl (by decide +kernel) rfl rfl rfl (by decide) (kv_F (by decide) (fb_le kc_0 (by decide))) dX4_turn_107 (fun f H locs hI hP hD hS => ?_)
  refine lv_aload_n hx hb dX4_turn_110 rfl (lv_at hl 5 rfl) ?_
  refine lv_iload hx hb dX4_turn_111 (lv_at hl 0 rfl) ?_
  refine lv_if_eq (tgt := 160) hx hb dX4_turn_113 (by decide) (fun _ => ?_) (fun h9 => by first | exact absurd h9 (by decide) | exact absurd (by decide) h9)
  refine lv_fconst0 hx hb dX4_turn_160 ?_
  refine kp_put (v := .float FP.fconst0) (ty := .float) hx hb hts i_X4 tyX4 tyX4_ok nmX4 hown hK hP hD hS hI hW.tm rfl rfl 33 (by decide) (by decide) (hts (.fieldLink RX4 161 "IslandSolverModel" "py" "F") (by decide +kernel)) (fun _ h9 => h9) rfl (by decide +kernel) rfl rfl rfl (by decide) (kv_F (by decide) (fb_le kc_0 (by decide))) dX4_turn_161 (fun f H locs hI hP hD hS => ?_)
  refine lv_aload_n hx hb dX4_turn_164 rfl (lv_at hl 5 rfl) ?_
  refine lv_iload hx hb dX4_turn_165 (lv_at hl 0 rfl) ?_
  refine lv_if_eq (tgt := 214) hx hb dX4_turn_167 (by decide) (fun _ => ?_) (fun h9 => by first | exact absurd h9 (by decide) | exact absurd (by decide) h9)
  refine lv_fconst0 hx hb dX4_turn_214 ?_
  refine kp_put (v := .float FP.fconst0) (ty := .float) hx hb hts i_X4 tyX4 tyX4_ok nmX4 hown hK hP hD hS hI hW.tm rfl rfl 34 (by decide) (by decide) (hts (.fieldLink RX4 164 "IslandSolverModel" "pz" "F") (by decide +kernel)) (fun _ h9 => h9) rfl (by decide +kernel) rfl rfl rfl (by decide) (kv_F (by decide) (fb_le kc_0 (by decide))) dX4_turn_215 (fun f H locs hI hP hD hS => ?_)
  refine W.widen (k := 0) (n := 0) (Nat.le_of_ble_eq_true rfl) (Nat.le_of_ble_eq_true rfl) ?_
  exact W.vret hx hb hr (fun t ht hW9 => ⟨⟨(u_16.1, f), rfl, hI, by rw [ht]; exact hP, va_K.moved hW9.alike hK, hD⟩, hS.F ht⟩) hS.2.2 dX4_turn_218
set_option maxHeartbeats 4000000 in
set_option maxRecDepth 100000 in
theorem k_turnM6 (l : Launch) (dC : Nat → ClassId) (dI : Nat → Nat → Nat) (dA : Nat → ClassId) (ad sz : Nat) (τ : Nat → Nat → Nat) (pv : Nat → Nat → Value) (L : List Nat) (f : Nat → va_E) (hI : kI dA τ pv L f) (mm fa sa aa ia sf mb mr mk mi : Nat) (hW : kMd τ pv mm fa sa aa ia sf mb mr mk mi) (r : Nat) (hr : r < 1024) : Met l yX4_turn wsX4_turn ({ frames := 1, cells := 0, slots := 0, locals := 22 } : Room) (va_Pc [.ref mm, .int (nI r), .int 6, .int (-1)] (kB dC dI dA ad sz L f)) (va_Qv (fun u => kI dA τ pv u.1 u.2) (kR dC dI dA (va_A (va_pl L f) sz)) (va_A (va_pl L f) sz)) 0 0 (va_A (va_pl L f) sz) := by
  refine Met.ofW (cc := cX4_turn) (maxL := 9) (ret := none) (by decide) rfl ?_
  intro p e s m args below meth c s₁ B hml hv
  obtain ⟨rfl, hsz, hP, hK, hD0, hE⟩ := hv
  have hx := B.exec
  have hb := B.bytes
  have hr := B.returns
  have hts := atoms_spec (ws := wsX4_turn) B.pre
  have hown : s.vm.findClass RX4 = some m.cls := findClass_of_methodNamed B.named
  have hlocks := B.notSynchronized
  have i_X4 : ∀ w ∈ u_ws RX4 TX4 35, w ∈ wsX4_turn := by decide +kernel
  subst hsz
  have hD := hD0.self (sz := s.heap.size)
  generalize hAe : va_A (va_pl L f) s.heap.size = A at hD hE ⊢
  have hA : ∀ q : Nat, s.heap.size ≤ q → A q := fun q h => by rw [← hAe]; exact Or.inr h
  have hS : va_S A s.heap s.heap [] := va_S.rf
  have hP : va_P (dC, dI) vwCl (va_pl L f) s.heap := hP
  have hK : va_K (dC, dI) vwCl (tyA dA) s := hK
  have hl := lv_entry ([.ref mm, .int (nI r), .int 6, .int (-1)]) (n := 9) (Nat.le_of_ble_eq_true rfl)
  rw [lg_entry_eq]
  generalize (lg_sl ([.ref mm, .int (nI r), .int 6, .int (-1)]) ++ List.replicate (9 - (lg_sl ([.ref mm, .int (nI r), .int 6, .int (-1)])).length) Slot.unset).toArray = ls at hl ⊢
  have hl : lv_has ls 9 [(0, .ref mm), (1, .int (nI r)), (2, .int 6), (3, .int (-1))] := hl
  have hnb := hW.lb
  have hnr := hW.lr
  have hnk := hW.lk
  have hni := hW.li
  refine lv_aload_n hx hb dX4_turn_0 rfl (lv_at hl 0 rfl) ?_
  refine kp_get hx hb hts i_X4 hown hK hP hI hW.tm rfl rfl 9 (by decide) (by decide) (hts (.fieldLink RX4 30 "IslandSolverModel" "ways" "[F") (by decide +kernel)) (fun _ h9 => h9) dX4_turn_1 (kq_RE 21 (by decide) fun x_1 h_2_e h_2 => ?_)
  refine lv_bipush (v := 9) hx hb dX4_turn_4 (by decide) ?_
  refine lv_iload_n hx hb dX4_turn_6 rfl (lv_at hl 1 rfl) ?_
  refine lv_imul hx hb dX4_turn_7 ?_
  refine lv_topi (nm_r (show (9 : Int32) * (nI r) = nI (9 * r) from pk_mul 9 r) ?_)
  refine lv_iload_n hx hb dX4_turn_8 rfl (lv_at hl 2 rfl) ?_
  refine lv_iadd hx hb dX4_turn_9 ?_
  refine lv_topi (nm_r (show (nI (9 * r)) + 6 = nI (9 * r + 6) from nI_add (9 * r) 6) ?_)
  have hj_3 : 9 * r + 6 < τ 3 x_1 := by rw [show τ 3 x_1 = 9216 from (hI.arr h_2 rfl).2.1]; omega
  refine W.eq (g2 := F0 m 10 ls (.int (nI (9 * r + 6)) :: .ref x_1 :: [])) rfl ?_
  refine kp_fald (j := 9 * r + 6) hx hb hK hP hI h_2 rfl hj_3 dX4_turn_10 (ka_F (cd := 1115684864) rfl (by decide) fun x_4 h_5 => ?_)
  refine lv_fstore (lv' := [(4, .float x_4), (0, .ref mm), (1, .int (nI r)), (2, .int 6), (3, .int (-1))]) hx hb dX4_turn_11 hl (by decide) rfl (fun ls hl => ?_)
  refine lv_aload_n hx hb dX4_turn_13 rfl (lv_at hl 1 rfl) ?_
  refine kp_get hx hb hts i_X4 hown hK hP hI hW.tm rfl rfl 9 (by decide) (by decide) (hts (.fieldLink RX4 30 "IslandSolverModel" "ways" "[F") (by decide +kernel)) (fun _ h9 => h9) dX4_turn_14 (kq_E h_2_e ?_)
  refine lv_bipush (v := 9) hx hb dX4_turn_17 (by decide) ?_
  refine lv_iload_n hx hb dX4_turn_19 rfl (lv_at hl 2 rfl) ?_
  refine lv_imul hx hb dX4_turn_20 ?_
  refine lv_topi (nm_r (show (9 : Int32) * (nI r) = nI (9 * r) from pk_mul 9 r) ?_)
  refine lv_iload_n hx hb dX4_turn_21 rfl (lv_at hl 3 rfl) ?_
  refine lv_iadd hx hb dX4_turn_22 ?_
  refine lv_topi (nm_r (show (nI (9 * r)) + 6 = nI (9 * r + 6) from nI_add (9 * r) 6) ?_)
  refine lv_iconst (v := 1) hx hb dX4_turn_23 (by decide) ?_
  refine lv_iadd hx hb dX4_turn_24 ?_
  refine lv_topi (nm_r (show (nI (9 * r + 6)) + 1 = nI (9 * r + 6 + 1) from nI_add (9 * r + 6) 1) ?_)
  have hj_8 : 9 * r + 6 + 1 < τ 3 x_1 := by rw [show τ 3 x_1 = 9216 from (hI.arr h_2 rfl).2.1]; omega
  refine W.eq (g2 := F0 m 25 ls (.int (nI (9 * r + 6 + 1)) :: .ref x_1 :: [])) rfl ?_
  refine kp_fald (j := 9 * r + 6 + 1) hx hb hK hP hI h_2 rfl hj_8 dX4_turn_25 (ka_F (cd := 1115684864) rfl (by decide) fun x_9 h_10 => ?_)
  refine lv_fstore (lv' := [(5, .float x_9), (4, .float x_4), (0, .ref mm), (1, .int (nI r)), (2, .int 6), (3, .int (-1))]) hx hb dX4_turn_26 hl (by decide) rfl (fun ls hl => ?_)
  refine lv_aload_n hx hb dX4_turn_28 rfl (lv_at hl 2 rfl) ?_
  refine kp_get hx hb hts i_X4 hown hK hP hI hW.tm rfl rfl 9 (by decide) (by decide) (hts (.fieldLink RX4 30 "IslandSolverModel" "ways" "[F") (by decide +kernel)) (fun _ h9 => h9) dX4_turn_29 (kq_E h_2_e ?_)
  refine lv_bipush (v := 9) hx hb dX4_turn_32 (by decide) ?_
  refine lv_iload_n hx hb dX4_turn_34 rfl (lv_at hl 3 rfl) ?_
  refine lv_imul hx hb dX4_turn_35 ?_
  refine lv_topi (nm_r (show (9 : Int32) * (nI r) = nI (9 * r) from pk_mul 9 r) ?_)
  refine lv_iload_n hx hb dX4_turn_36 rfl (lv_at hl 4 rfl) ?_
  refine lv_iadd hx hb dX4_turn_37 ?_
  refine lv_topi (nm_r (show (nI (9 * r)) + 6 = nI (9 * r + 6) from nI_add (9 * r) 6) ?_)
  refine lv_iconst (v := 2) hx hb dX4_turn_38 (by decide) ?_
  refine lv_iadd hx hb dX4_turn_39 ?_
  refine lv_topi (nm_r (show (nI (9 * r + 6)) + 2 = nI (9 * r + 6 + 2) from nI_add (9 * r + 6) 2) ?_)
  have hj_13 : 9 * r + 6 + 2 < τ 3 x_1 := by rw [show τ 3 x_1 = 9216 from (hI.arr h_2 rfl).2.1]; omega
  refine W.eq (g2 := F0 m 40 ls (.int (nI (9 * r + 6 + 2)) :: .ref x_1 :: [])) rfl ?_
  refine kp_fald (j := 9 * r + 6 + 2) hx hb hK hP hI h_2 rfl hj_13 dX4_turn_40 (ka_F (cd := 1115684864) rfl (by decide) fun x_14 h_15 => ?_)
  refine lv_fstore (lv' := [(6, .float x_14), (5, .float x_9), (4, .float x_4), (0, .ref mm), (1, .int (nI r)), (2, .int 6), (3, .int (-1))]) hx hb dX4_turn_41 hl (by decide) rfl (fun ls hl => ?_)
  refine lv_bipush (v := 13) hx hb dX4_turn_43 (by decide) ?_
  refine lv_iload_n hx hb dX4_turn_45 rfl (lv_at hl 6 rfl) ?_
  refine lv_imul hx hb dX4_turn_46 ?_
  refine lv_topi (nm_r (show (13 : Int32) * (-1) = (-13) by decide) ?_)
  refine lv_istore (lv' := [(7, .int (-13)), (6, .float x_14), (5, .float x_9), (4, .float x_4), (0, .ref mm), (1, .int (nI r)), (2, .int 6), (3, .int (-1))]) hx hb dX4_turn_47 hl (by decide) rfl (fun ls hl => ?_)
  refine lv_aload_n hx hb dX4_turn_49 rfl (lv_at hl 4 rfl) ?_
  refine lv_iload_n hx hb dX4_turn_50 rfl (lv_at hl 7 rfl) ?_
  refine kd_calli (va_runV (As := [.int (-1)]) (rest := []) ⟨hx, hb, hml, hown, hts⟩ (k_movM l dC dI dA ad _ τ pv _ _ hI mm fa sa aa ia sf mb mr mk mi hW ) (cwV 1 hts gX4_turn_X4_movable rfl rfl rfl (by decide +kernel) ⟨Nat.le_of_ble_eq_true rfl, Nat.le_of_ble_eq_true rfl⟩) (kd_preV hP hD hK hS hA hE hI hW.tm rfl rfl) rfl rfl hl.1 rfl (lv_room (Nat.le_of_ble_eq_true rfl)) dX4_turn_51 ⟨Nat.le_of_ble_eq_true rfl, Nat.le_of_ble_eq_true rfl⟩) hD hS hA (fun r_17 u_16 H locs hw hP hD hS => ?_)
  obtain ⟨rfl, hI⟩ := hw
  refine lv_istore (lv' := [(8, .int 0), (7, .int (-13)), (6, .float x_14), (5, .float x_9), (4, .float x_4), (0, .ref mm), (1, .int (nI r)), (2, .int 6), (3, .int (-1))]) hx hb dX4_turn_54 hl (by decide) rfl (fun ls hl => ?_)
  refine lv_aload_n hx hb dX4_turn_56 rfl (lv_at hl 5 rfl) ?_
  refine lv_iload hx hb dX4_turn_57 (lv_at hl 0 rfl) ?_
  refine lv_if_eq (tgt := 106) hx hb dX4_turn_59 (by decide) (fun _ => ?_) (fun h9 => by first | exact absurd h9 (by decide) | exact absurd (by decide) h9)
  refine lv_fconst0 hx hb dX4_turn_106 ?_
  refine kp_put (v := .float FP.fconst0) (ty := .float) hx hb hts i_X4 tyX4 tyX4_ok nmX4 hown hK hP hD hS hI hW.tm rfl rfl 32 (by decide) (by decide) (hts (.fieldLink RX4 158 "IslandSolverModel" "px" "F") (by decide +kernel)) (fun _ h9 => h9) rfl (by decide +kernel) rfl rfl rfl (by decide) (kv_F (by decide) (fb_le kc_0 (by decide))) dX4_turn_107 (fun f H locs hI hP hD hS => ?_)
  refine lv_aload_n hx hb dX4_turn_110 rfl (lv_at hl 5 rfl) ?_
  refine lv_iload hx hb dX4_turn_111 (lv_at hl 0 rfl) ?_
  refine lv_if_eq (tgt := 160) hx hb dX4_turn_113 (by decide) (fun _ => ?_) (fun h9 => by first | exact absurd h9 (by decide) | exact absurd (by decide) h9)
  refine lv_fconst0 hx hb dX4_turn_160 ?_
  refine kp_put (v := .float FP.fconst0) (ty := .float) hx hb hts i_X4 tyX4 tyX4_ok nmX4 hown hK hP hD hS hI hW.tm rfl rfl 33 (by decide) (by decide) (hts (.fieldLink RX4 161 "IslandSolverModel" "py" "F") (by decide +kernel)) (fun _ h9 => h9) rfl (by decide +kernel) rfl rfl rfl (by decide) (kv_F (by decide) (fb_le kc_0 (by decide))) dX4_turn_161 (fun f H locs hI hP hD hS => ?_)
  refine lv_aload_n hx hb dX4_turn_164 rfl (lv_at hl 5 rfl) ?_
  refine lv_iload hx hb dX4_turn_165 (lv_at hl 0 rfl) ?_
  refine lv_if_eq (tgt := 214) hx hb dX4_turn_167 (by decide) (fun _ => ?_) (fun h9 => by first | exact absurd h9 (by decide) | exact absurd (by decide) h9)
  refine lv_fconst0 hx hb dX4_turn_214 ?_
  refine kp_put (v := .float FP.fconst0) (ty := .float) hx hb hts i_X4 tyX4 tyX4_ok nmX4 hown hK hP hD hS hI hW.tm rfl rfl 34 (by decide) (by decide) (hts (.fieldLink RX4 164 "IslandSolverModel" "pz" "F") (by decide +kernel)) (fun _ h9 => h9) rfl (by decide +kernel) rfl rfl rfl (by decide) (kv_F (by decide) (fb_le kc_0 (by decide))) dX4_turn_215 (fun f H locs hI hP hD hS => ?_)
  refine W.widen (k := 0) (n := 0) (Nat.le_of_ble_eq_true rfl) (Nat.le_of_ble_eq_true rfl) ?_
  exact W.vret hx hb hr (fun t ht hW9 => ⟨⟨(u_16.1, f), rfl, hI, by rw [ht]; exact hP, va_K.moved hW9.alike hK, hD⟩, hS.F ht⟩) hS.2.2 dX4_turn_218
set_option maxHeartbeats 4000000 in
set_option maxRecDepth 100000 in
theorem k_weightN (l : Launch) (dC : Nat → ClassId) (dI : Nat → Nat → Nat) (dA : Nat → ClassId) (ad sz : Nat) (τ : Nat → Nat → Nat) (pv : Nat → Nat → Value) (L : List Nat) (f : Nat → va_E) (hI : kI dA τ pv L f) (mm fa sa aa ia sf mb mr mk mi : Nat) (hW : kMd τ pv mm fa sa aa ia sf mb mr mk mi) (b : Nat) (hb9 : b < 256) : Met l yX4_weight wsX4_weight ({ frames := 1, cells := 0, slots := 0, locals := 22 } : Room) (va_Pc [.ref mm, .int (nI b)] (kB dC dI dA ad sz L f)) (va_Qf (fun z u => fb 1098907648 z ∧ kI dA τ pv u.1 u.2) (kR dC dI dA (va_A (va_pl L f) sz)) (va_A (va_pl L f) sz)) 0 0 (va_A (va_pl L f) sz) := by
  refine Met.ofW (cc := cX4_weight) (maxL := 2) (ret := (some .float)) (by decide) rfl ?_
  intro p e s m args below meth c s₁ B hml hv
  obtain ⟨rfl, hsz, hP, hK, hD0, hE⟩ := hv
  have hx := B.exec
  have hb := B.bytes
  have hr := B.returns
  have hts := atoms_spec (ws := wsX4_weight) B.pre
  have hown : s.vm.findClass RX4 = some m.cls := findClass_of_methodNamed B.named
  have hlocks := B.notSynchronized
  have i_X4 : ∀ w ∈ u_ws RX4 TX4 35, w ∈ wsX4_weight := by decide +kernel
  subst hsz
  have hD := hD0.self (sz := s.heap.size)
  generalize hAe : va_A (va_pl L f) s.heap.size = A at hD hE ⊢
  have hA : ∀ q : Nat, s.heap.size ≤ q → A q := fun q h => by rw [← hAe]; exact Or.inr h
  have hS : va_S A s.heap s.heap [] := va_S.rf
  have hP : va_P (dC, dI) vwCl (va_pl L f) s.heap := hP
  have hK : va_K (dC, dI) vwCl (tyA dA) s := hK
  have hl := lv_entry ([.ref mm, .int (nI b)]) (n := 2) (Nat.le_of_ble_eq_true rfl)
  rw [lg_entry_eq]
  generalize (lg_sl ([.ref mm, .int (nI b)]) ++ List.replicate (2 - (lg_sl ([.ref mm, .int (nI b)])).length) Slot.unset).toArray = ls at hl ⊢
  have hl : lv_has ls 2 [(0, .ref mm), (1, .int (nI b))] := hl
  have hnb := hW.lb
  have hnr := hW.lr
  have hnk := hW.lk
  have hni := hW.li
  refine lv_aload_n hx hb dX4_weight_0 rfl (lv_at hl 0 rfl) ?_
  refine lv_iload_n hx hb dX4_weight_1 rfl (lv_at hl 1 rfl) ?_
  refine kd_calli (va_runV (As := [.int (nI b)]) (rest := []) ⟨hx, hb, hml, hown, hts⟩ (k_movN l dC dI dA ad _ τ pv _ _ hI mm fa sa aa ia sf mb mr mk mi hW b (by omega)) (cwV 1 hts gX4_weight_X4_movable rfl rfl rfl (by decide +kernel) ⟨Nat.le_of_ble_eq_true rfl, Nat.le_of_ble_eq_true rfl⟩) (kd_preV hP hD hK hS hA hE hI hW.tm rfl rfl) rfl rfl hl.1 rfl (lv_room (Nat.le_of_ble_eq_true rfl)) dX4_weight_2 ⟨Nat.le_of_ble_eq_true rfl, Nat.le_of_ble_eq_true rfl⟩) hD hS hA (fun r_2 u_1 H locs hw hP hD hS => ?_)
  obtain ⟨hr_2, hI⟩ := hw
  refine lv_if_eq (tgt := 23) hx hb dX4_weight_5 (by decide) (fun c_3 => ?_) (fun c_3 => ?_)
  · subst c_3
    refine lv_fconst0 hx hb dX4_weight_23 ?_
    refine W.widen (k := 0) (n := 0) (Nat.le_of_ble_eq_true rfl) (Nat.le_of_ble_eq_true rfl) ?_
    exact W.fret (v := FP.fconst0) hx hb hr (fun t ht hW9 => ⟨⟨FP.fconst0, (u_1.1, u_1.2), rfl, ⟨(fb_le kc_0 (by decide)), hI⟩, by rw [ht]; exact hP, va_K.moved hW9.alike hK, hD⟩, hS.F ht⟩) hS.2.2 dX4_weight_24
  · obtain rfl : r_2 = 1 := (hr_2).resolve_left c_3
    refine lv_aload_n hx hb dX4_weight_8 rfl (lv_at hl 0 rfl) ?_
    refine kp_get hx hb hts i_X4 hown hK hP hI hW.tm rfl rfl 2 (by decide) (by decide) (hts (.fieldLink RX4 7 "IslandSolverModel" "body" "[F") (by decide +kernel)) (fun _ h9 => h9) dX4_weight_9 (kq_RE 15 (by decide) fun x_4 h_5_e h_5 => ?_)
    refine lv_bipush (v := 13) hx hb dX4_weight_12 (by decide) ?_
    refine lv_iload_n hx hb dX4_weight_14 rfl (lv_at hl 1 rfl) ?_
    refine lv_imul hx hb dX4_weight_15 ?_
    refine lv_topi (nm_r (show (13 : Int32) * (nI b) = nI (13 * b) from pk_mul 13 b) ?_)
    refine lv_bipush (v := 6) hx hb dX4_weight_16 (by decide) ?_
    refine lv_iadd hx hb dX4_weight_18 ?_
    refine lv_topi (nm_r (show (nI (13 * b)) + 6 = nI (13 * b + 6) from nI_add (13 * b) 6) ?_)
    have hj_6 : 13 * b + 6 < τ 3 x_4 := by rw [show τ 3 x_4 = 3328 from (hI.arr h_5 rfl).2.1]; omega
    refine W.eq (g2 := F0 m 19 ls (.int (nI (13 * b + 6)) :: .ref x_4 :: [])) rfl ?_
    refine kp_faldE (j := 13 * b + 6) hx hb hK hP hI h_5 rfl hj_6 dX4_weight_19 (ka_FE (cd := 1098907648) (show kEc 15 (13 * b + 6) = 1098907648 from if_neg (by omega)) (by decide) fun x_7 h_8_e h_8 => ?_)
    refine lv_goto (tgt := 24) hx hb dX4_weight_20 (by decide) ?_
    refine W.widen (k := 0) (n := 0) (Nat.le_of_ble_eq_true rfl) (Nat.le_of_ble_eq_true rfl) ?_
    exact W.fret (v := x_7) hx hb hr (fun t ht hW9 => ⟨⟨x_7, (u_1.1, u_1.2), rfl, ⟨h_8, hI⟩, by rw [ht]; exact hP, va_K.moved hW9.alike hK, hD⟩, hS.F ht⟩) hS.2.2 dX4_weight_24
set_option maxHeartbeats 4000000 in
set_option maxRecDepth 100000 in
theorem k_weightM (l : Launch) (dC : Nat → ClassId) (dI : Nat → Nat → Nat) (dA : Nat → ClassId) (ad sz : Nat) (τ : Nat → Nat → Nat) (pv : Nat → Nat → Value) (L : List Nat) (f : Nat → va_E) (hI : kI dA τ pv L f) (mm fa sa aa ia sf mb mr mk mi : Nat) (hW : kMd τ pv mm fa sa aa ia sf mb mr mk mi)  : Met l yX4_weight wsX4_weight ({ frames := 1, cells := 0, slots := 0, locals := 22 } : Room) (va_Pc [.ref mm, .int (-1)] (kB dC dI dA ad sz L f)) (va_Qf (fun z u => fb 1098907648 z ∧ kI dA τ pv u.1 u.2) (kR dC dI dA (va_A (va_pl L f) sz)) (va_A (va_pl L f) sz)) 0 0 (va_A (va_pl L f) sz) := by
  refine Met.ofW (cc := cX4_weight) (maxL := 2) (ret := (some .float)) (by decide) rfl ?_
  intro p e s m args below meth c s₁ B hml hv
  obtain ⟨rfl, hsz, hP, hK, hD0, hE⟩ := hv
  have hx := B.exec
  have hb := B.bytes
  have hr := B.returns
  have hts := atoms_spec (ws := wsX4_weight) B.pre
  have hown : s.vm.findClass RX4 = some m.cls := findClass_of_methodNamed B.named
  have hlocks := B.notSynchronized
  subst hsz
  have hD := hD0.self (sz := s.heap.size)
  generalize hAe : va_A (va_pl L f) s.heap.size = A at hD hE ⊢
  have hA : ∀ q : Nat, s.heap.size ≤ q → A q := fun q h => by rw [← hAe]; exact Or.inr h
  have hS : va_S A s.heap s.heap [] := va_S.rf
  have hP : va_P (dC, dI) vwCl (va_pl L f) s.heap := hP
  have hK : va_K (dC, dI) vwCl (tyA dA) s := hK
  have hl := lv_entry ([.ref mm, .int (-1)]) (n := 2) (Nat.le_of_ble_eq_true rfl)
  rw [lg_entry_eq]
  generalize (lg_sl ([.ref mm, .int (-1)]) ++ List.replicate (2 - (lg_sl ([.ref mm, .int (-1)])).length) Slot.unset).toArray = ls at hl ⊢
  have hl : lv_has ls 2 [(0, .ref mm), (1, .int (-1))] := hl
  have hnb := hW.lb
  have hnr := hW.lr
  have hnk := hW.lk
  have hni := hW.li
  refine lv_aload_n hx hb dX4_weight_0 rfl (lv_at hl 0 rfl) ?_
  refine lv_iload_n hx hb dX4_weight_1 rfl (lv_at hl 1 rfl) ?_
  refine kd_calli (va_runV (As := [.int (-1)]) (rest := []) ⟨hx, hb, hml, hown, hts⟩ (k_movM l dC dI dA ad _ τ pv _ _ hI mm fa sa aa ia sf mb mr mk mi hW ) (cwV 1 hts gX4_weight_X4_movable rfl rfl rfl (by decide +kernel) ⟨Nat.le_of_ble_eq_true rfl, Nat.le_of_ble_eq_true rfl⟩) (kd_preV hP hD hK hS hA hE hI hW.tm rfl rfl) rfl rfl hl.1 rfl (lv_room (Nat.le_of_ble_eq_true rfl)) dX4_weight_2 ⟨Nat.le_of_ble_eq_true rfl, Nat.le_of_ble_eq_true rfl⟩) hD hS hA (fun r_2 u_1 H locs hw hP hD hS => ?_)
  obtain ⟨rfl, hI⟩ := hw
  refine lv_if_eq (tgt := 23) hx hb dX4_weight_5 (by decide) (fun _ => ?_) (fun h9 => by first | exact absurd h9 (by decide) | exact absurd (by decide) h9)
  refine lv_fconst0 hx hb dX4_weight_23 ?_
  refine W.widen (k := 0) (n := 0) (Nat.le_of_ble_eq_true rfl) (Nat.le_of_ble_eq_true rfl) ?_
  exact W.fret (v := FP.fconst0) hx hb hr (fun t ht hW9 => ⟨⟨FP.fconst0, (u_1.1, u_1.2), rfl, ⟨(fb_le kc_0 (by decide)), hI⟩, by rw [ht]; exact hP, va_K.moved hW9.alike hK, hD⟩, hS.F ht⟩) hS.2.2 dX4_weight_24
