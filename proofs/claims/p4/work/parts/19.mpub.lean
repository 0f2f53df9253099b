set_option maxHeartbeats 4000000 in
set_option maxRecDepth 100000 in
theorem m_p_lean (l : Launch) (dC : Nat → ClassId) (dI : Nat → Nat → Nat) (dA : Nat → ClassId) (ad sz : Nat) (τ : Nat → Nat → Nat) (pv : Nat → Nat → Value) (L : List Nat) (f : Nat → va_E) (hI : kI dA τ pv L f) (mm fa sa aa ia sf mb mr mk : Nat) (hW : kMd τ pv mm fa sa aa ia sf mb mr mk mr) (n : Int32) (a : UInt32) (b : UInt32) (c9 : UInt32) : Met l yX4_lean wsX4_lean ({ frames := 1, cells := 0, slots := 0, locals := 23 } : Room) (va_Pc [.ref mm, .int n, .float a, .float b, .float c9] (kB dC dI dA ad sz L f)) (va_Qv (fun u => kPostT dA τ pv mm fa sa aa ia sf mb mr (kc_lean n mb a b c9) u) (kR dC dI dA (va_A (va_pl L f) sz)) (va_A (va_pl L f) sz)) 0 0 (va_A (va_pl L f) sz) := by
  refine Met.ofW (cc := cX4_lean) (maxL := 5) (ret := none) (by decide) rfl ?_
  intro p e s m args below meth c s₁ B hml hv
  obtain ⟨rfl, hsz, hP, hK, hD0, hE⟩ := hv
  have hx := B.exec
  have hb := B.bytes
  have hr := B.returns
  have hts := atoms_spec (ws := wsX4_lean) B.pre
  have hown : s.vm.findClass RX4 = some m.cls := findClass_of_methodNamed B.named
  have hlocks := B.notSynchronized
  have i_X4 : ∀ w ∈ u_ws RX4 TX4 35, w ∈ wsX4_lean := by decide +kernel
  subst hsz
  have hD := hD0.self (sz := s.heap.size)
  generalize hAe : va_A (va_pl L f) s.heap.size = A at hD hE ⊢
  have hA : ∀ q : Nat, s.heap.size ≤ q → A q := fun q h => by rw [← hAe]; exact Or.inr h
  have hS : va_S A s.heap s.heap [] := va_S.rf
  have hP : va_P (dC, dI) vwCl (va_pl L f) s.heap := hP
  have hK : va_K (dC, dI) vwCl (tyA dA) s := hK
  have hl := lv_entry ([.ref mm, .int n, .float a, .float b, .float c9]) (n := 5) (Nat.le_of_ble_eq_true rfl)
  rw [lg_entry_eq]
  generalize (lg_sl ([.ref mm, .int n, .float a, .float b, .float c9]) ++ List.replicate (5 - (lg_sl ([.ref mm, .int n, .float a, .float b, .float c9])).length) Slot.unset).toArray = ls at hl ⊢
  have hl : lv_has ls 5 [(0, .ref mm), (1, .int n), (2, .float a), (3, .float b), (4, .float c9)] := hl
  have hnb := hW.lb
  have hnr := hW.lr
  have hnk := hW.lk
  have hni := hW.li
  have hF : kFr kPx τ pv τ pv := kFr.rf
  refine lv_aload_n hx hb dX4_lean_0 rfl (lv_at hl 0 rfl) ?_
  refine lv_aload_n hx hb dX4_lean_1 rfl (lv_at hl 0 rfl) ?_
  refine lv_iload_n hx hb dX4_lean_2 rfl (lv_at hl 1 rfl) ?_
  refine kd_calli (va_runV (As := [.int n]) (rest := [.ref mm]) ⟨hx, hb, hml, hown, hts⟩ (k_known l dC dI dA ad _ τ pv _ _ hI mm fa sa aa ia sf mb mr mk mr hW n) (cwV 1 hts gX4_lean_X4_known rfl rfl rfl (by decide +kernel) ⟨Nat.le_of_ble_eq_true rfl, Nat.le_of_ble_eq_true rfl⟩) (kd_preV hP hD hK hS hA hE hI hW.tm rfl rfl) rfl rfl hl.1 rfl (lv_room (Nat.le_of_ble_eq_true rfl)) dX4_lean_3 ⟨Nat.le_of_ble_eq_true rfl, Nat.le_of_ble_eq_true rfl⟩) hD hS hA (fun r_2 u_1 H locs hw hP hD hS => ?_)
  obtain ⟨⟨rfl, ⟨j_3, hj_3, rfl⟩⟩ | ⟨rfl, h_4⟩, hI⟩ := hw
  · refine lv_fload_n hx hb dX4_lean_6 rfl (lv_at hl 2 rfl) ?_
    refine lv_ldcf (v := 3229614080) hx hb hown (hts (.constantFloat RX4 109 (3229614080)) (by decide +kernel)) dX4_lean_7 ?_
    have hc_5 : fb 1082130432 3229614080 := by unfold fb; decide +kernel
    refine lv_ldcf (v := 1082130432) hx hb hown (hts (.constantFloat RX4 110 (1082130432)) (by decide +kernel)) dX4_lean_9 ?_
    have hc_6 : fb 1082130432 1082130432 := by unfold fb; decide +kernel
    refine kd_calli (va_runS (As := [.float a, .float 3229614080, .float 1082130432]) (rest := [.int 1, .ref mm]) ⟨hx, hb, hml, hown, hts⟩ (k_within l dC dI dA ad _ τ pv _ _ hI a 3229614080 1082130432) (va_cwS 3 hts gX4_lean_X4_within rfl rfl rfl (by decide +kernel) ⟨Nat.le_of_ble_eq_true rfl, Nat.le_of_ble_eq_true rfl⟩) (kd_preS hP hD hK hS hA hE) rfl rfl hl.1 rfl (lv_room (Nat.le_of_ble_eq_true rfl)) dX4_lean_11 ⟨Nat.le_of_ble_eq_true rfl, Nat.le_of_ble_eq_true rfl⟩) hD hS hA (fun r_8 u_7 H locs hw hP hD hS => ?_)
    obtain ⟨⟨k_9, rfl⟩ | ⟨k_9, rfl⟩, hI⟩ := hw
    · have fb_10 : fb 1082130432 a := fb_within hc_5 hc_6 (by decide) k_9
      refine lv_if_eq (tgt := 44) hx hb dX4_lean_14 (by decide) (fun h9 => by first | exact absurd h9 (by decide) | exact absurd (by decide) h9) (fun _ => ?_)
      refine lv_fload_n hx hb dX4_lean_17 rfl (lv_at hl 3 rfl) ?_
      refine lv_ldcf (v := 3229614080) hx hb hown (hts (.constantFloat RX4 109 (3229614080)) (by decide +kernel)) dX4_lean_18 ?_
      have hc_11 : fb 1082130432 3229614080 := by unfold fb; decide +kernel
      refine lv_ldcf (v := 1082130432) hx hb hown (hts (.constantFloat RX4 110 (1082130432)) (by decide +kernel)) dX4_lean_20 ?_
      have hc_12 : fb 1082130432 1082130432 := by unfold fb; decide +kernel
      refine kd_calli (va_runS (As := [.float b, .float 3229614080, .float 1082130432]) (rest := [.int 1, .ref mm]) ⟨hx, hb, hml, hown, hts⟩ (k_within l dC dI dA ad _ τ pv _ _ hI b 3229614080 1082130432) (va_cwS 3 hts gX4_lean_X4_within rfl rfl rfl (by decide +kernel) ⟨Nat.le_of_ble_eq_true rfl, Nat.le_of_ble_eq_true rfl⟩) (kd_preS hP hD hK hS hA hE) rfl rfl hl.1 rfl (lv_room (Nat.le_of_ble_eq_true rfl)) dX4_lean_22 ⟨Nat.le_of_ble_eq_true rfl, Nat.le_of_ble_eq_true rfl⟩) hD hS hA (fun r_14 u_13 H locs hw hP hD hS => ?_)
      obtain ⟨⟨k_15, rfl⟩ | ⟨k_15, rfl⟩, hI⟩ := hw
      · have fb_16 : fb 1082130432 b := fb_within hc_11 hc_12 (by decide) k_15
        refine lv_if_eq (tgt := 44) hx hb dX4_lean_25 (by decide) (fun h9 => by first | exact absurd h9 (by decide) | exact absurd (by decide) h9) (fun _ => ?_)
        refine lv_fload hx hb dX4_lean_28 (lv_at hl 4 rfl) ?_
        refine lv_ldcf (v := 3229614080) hx hb hown (hts (.constantFloat RX4 109 (3229614080)) (by decide +kernel)) dX4_lean_30 ?_
        have hc_17 : fb 1082130432 3229614080 := by unfold fb; decide +kernel
        refine lv_ldcf (v := 1082130432) hx hb hown (hts (.constantFloat RX4 110 (1082130432)) (by decide +kernel)) dX4_lean_32 ?_
        have hc_18 : fb 1082130432 1082130432 := by unfold fb; decide +kernel
        refine kd_calli (va_runS (As := [.float c9, .float 3229614080, .float 1082130432]) (rest := [.int 1, .ref mm]) ⟨hx, hb, hml, hown, hts⟩ (k_within l dC dI dA ad _ τ pv _ _ hI c9 3229614080 1082130432) (va_cwS 3 hts gX4_lean_X4_within rfl rfl rfl (by decide +kernel) ⟨Nat.le_of_ble_eq_true rfl, Nat.le_of_ble_eq_true rfl⟩) (kd_preS hP hD hK hS hA hE) rfl rfl hl.1 rfl (lv_room (Nat.le_of_ble_eq_true rfl)) dX4_lean_34 ⟨Nat.le_of_ble_eq_true rfl, Nat.le_of_ble_eq_true rfl⟩) hD hS hA (fun r_20 u_19 H locs hw hP hD hS => ?_)
        obtain ⟨⟨k_21, rfl⟩ | ⟨k_21, rfl⟩, hI⟩ := hw
        · have fb_22 : fb 1082130432 c9 := fb_within hc_17 hc_18 (by decide) k_21
          refine lv_if_eq (tgt := 44) hx hb dX4_lean_37 (by decide) (fun h9 => by first | exact absurd h9 (by decide) | exact absurd (by decide) h9) (fun _ => ?_)
          refine lv_iconst (v := 1) hx hb dX4_lean_40 (by decide) ?_
          refine lv_goto (tgt := 45) hx hb dX4_lean_41 (by decide) ?_
          refine lv_iconst (v := 1) hx hb dX4_lean_45 (by decide) ?_
          refine kd_calli (va_runV (As := [.int 1, .int 1, .int 1]) (rest := []) ⟨hx, hb, hml, hown, hts⟩ (k_goes1 l dC dI dA ad _ τ pv _ _ hI mm fa sa aa ia sf mb mr mk mr hW ) (cwV 3 hts gX4_lean_X4_goes rfl rfl rfl (by decide +kernel) ⟨Nat.le_of_ble_eq_true rfl, Nat.le_of_ble_eq_true rfl⟩) (kd_preV hP hD hK hS hA hE hI hW.tm rfl rfl) rfl rfl hl.1 rfl (lv_room (Nat.le_of_ble_eq_true rfl)) dX4_lean_46 ⟨Nat.le_of_ble_eq_true rfl, Nat.le_of_ble_eq_true rfl⟩) hD hS hA (fun r_24 u_23 H locs hw hP hD hS => ?_)
          obtain ⟨rfl, hI⟩ := hw
          have hF := hF.trans (kFr.up (P := kPx) (w := .int 0) (k := 0) hW.tm rfl)
          have hW := hW.frw (kFr.up (P := kPy mr) (w := .int 0) (k := 0) hW.tm rfl)
          refine lv_if_eq (tgt := 97) hx hb dX4_lean_49 (by decide) (fun h9 => by first | exact absurd h9 (by decide) | exact absurd (by decide) h9) (fun _ => ?_)
          refine lv_aload_n hx hb dX4_lean_52 rfl (lv_at hl 0 rfl) ?_
          refine kp_get hx hb hts i_X4 hown hK hP hI hW.tm rfl rfl 2 (by decide) (by decide) (hts (.fieldLink RX4 7 "IslandSolverModel" "body" "[F") (by decide +kernel)) (fun _ h9 => h9) dX4_lean_53 (kq_RE 15 (by decide) fun x_25 h_26_e h_26 => ?_)
          refine lv_bipush (v := 13) hx hb dX4_lean_56 (by decide) ?_
          refine lv_iload_n hx hb dX4_lean_58 rfl (lv_at hl 1 rfl) ?_
          refine lv_imul hx hb dX4_lean_59 ?_
          refine lv_topi (nm_r (show (13 : Int32) * (nI j_3) = nI (13 * j_3) from pk_mul 13 j_3) ?_)
          refine lv_bipush (v := 10) hx hb dX4_lean_60 (by decide) ?_
          refine lv_iadd hx hb dX4_lean_62 ?_
          refine lv_topi (nm_r (show (nI (13 * j_3)) + 10 = nI (13 * j_3 + 10) from nI_add (13 * j_3) 10) ?_)
          refine lv_fload_n hx hb dX4_lean_63 rfl (lv_at hl 2 rfl) ?_
          have hj_27 : 13 * j_3 + 10 < τ 3 x_25 := by rw [show τ 3 x_25 = 3328 from (hI.arr h_26 rfl).2.1]; omega
          refine W.eq (g2 := F0 m 64 ls (.float a :: .int (nI (13 * j_3 + 10)) :: .ref x_25 :: [])) rfl ?_
          refine kp_fastX (pv' := (kup pv mm 0 (.int 0))) (j := 13 * j_3 + 10) hx hb hK hP hD hS hI h_26 rfl hj_27 (fun _ _ _ => rfl) (show kPr τ (kEc 15 (13 * j_3 + 10)) _ _ from (show kEc 15 (13 * j_3 + 10) = 1098907648 from if_neg (by omega)).symm ▸ (kv_F (by decide) (fb_le fb_10 (by decide)))) (kPn_not rfl (by decide)) dX4_lean_64 (fun f H locs hI hP hD hS => ?_)
          refine lv_aload_n hx hb dX4_lean_65 rfl (lv_at hl 0 rfl) ?_
          refine kp_get hx hb hts i_X4 hown hK hP hI hW.tm rfl rfl 2 (by decide) (by decide) (hts (.fieldLink RX4 7 "IslandSolverModel" "body" "[F") (by decide +kernel)) (fun _ h9 => h9) dX4_lean_66 (kq_RE 15 (by decide) fun x_28 h_29_e h_29 => ?_)
          refine lv_bipush (v := 13) hx hb dX4_lean_69 (by decide) ?_
          refine lv_iload_n hx hb dX4_lean_71 rfl (lv_at hl 1 rfl) ?_
          refine lv_imul hx hb dX4_lean_72 ?_
          refine lv_topi (nm_r (show (13 : Int32) * (nI j_3) = nI (13 * j_3) from pk_mul 13 j_3) ?_)
          refine lv_bipush (v := 11) hx hb dX4_lean_73 (by decide) ?_
          refine lv_iadd hx hb dX4_lean_75 ?_
          refine lv_topi (nm_r (show (nI (13 * j_3)) + 11 = nI (13 * j_3 + 11) from nI_add (13 * j_3) 11) ?_)
          refine lv_fload_n hx hb dX4_lean_76 rfl (lv_at hl 3 rfl) ?_
          have hj_30 : 13 * j_3 + 11 < τ 3 x_28 := by rw [show τ 3 x_28 = 3328 from (hI.arr h_29 rfl).2.1]; omega
          refine W.eq (g2 := F0 m 77 ls (.float b :: .int (nI (13 * j_3 + 11)) :: .ref x_28 :: [])) rfl ?_
          refine kp_fastX (pv' := (kup pv mm 0 (.int 0))) (j := 13 * j_3 + 11) hx hb hK hP hD hS hI h_29 rfl hj_30 (fun _ _ _ => rfl) (show kPr τ (kEc 15 (13 * j_3 + 11)) _ _ from (show kEc 15 (13 * j_3 + 11) = 1098907648 from if_neg (by omega)).symm ▸ (kv_F (by decide) (fb_le fb_16 (by decide)))) (kPn_not rfl (by decide)) dX4_lean_77 (fun f H locs hI hP hD hS => ?_)
          refine lv_aload_n hx hb dX4_lean_78 rfl (lv_at hl 0 rfl) ?_
          refine kp_get hx hb hts i_X4 hown hK hP hI hW.tm rfl rfl 2 (by decide) (by decide) (hts (.fieldLink RX4 7 "IslandSolverModel" "body" "[F") (by decide +kernel)) (fun _ h9 => h9) dX4_lean_79 (kq_RE 15 (by decide) fun x_31 h_32_e h_32 => ?_)
          refine lv_bipush (v := 13) hx hb dX4_lean_82 (by decide) ?_
          refine lv_iload_n hx hb dX4_lean_84 rfl (lv_at hl 1 rfl) ?_
          refine lv_imul hx hb dX4_lean_85 ?_
          refine lv_topi (nm_r (show (13 : Int32) * (nI j_3) = nI (13 * j_3) from pk_mul 13 j_3) ?_)
          refine lv_bipush (v := 12) hx hb dX4_lean_86 (by decide) ?_
          refine lv_iadd hx hb dX4_lean_88 ?_
          refine lv_topi (nm_r (show (nI (13 * j_3)) + 12 = nI (13 * j_3 + 12) from nI_add (13 * j_3) 12) ?_)
          refine lv_fload hx hb dX4_lean_89 (lv_at hl 4 rfl) ?_
          have hj_33 : 13 * j_3 + 12 < τ 3 x_31 := by rw [show τ 3 x_31 = 3328 from (hI.arr h_32 rfl).2.1]; omega
          refine W.eq (g2 := F0 m 91 ls (.float c9 :: .int (nI (13 * j_3 + 12)) :: .ref x_31 :: [])) rfl ?_
          refine kp_fastX (pv' := (kup pv mm 0 (.int 0))) (j := 13 * j_3 + 12) hx hb hK hP hD hS hI h_32 rfl hj_33 (fun _ _ _ => rfl) (show kPr τ (kEc 15 (13 * j_3 + 12)) _ _ from (show kEc 15 (13 * j_3 + 12) = 1098907648 from if_neg (by omega)).symm ▸ (kv_F (by decide) (fb_le fb_22 (by decide)))) (kPn_not rfl (by decide)) dX4_lean_91 (fun f H locs hI hP hD hS => ?_)
          refine lv_aload_n hx hb dX4_lean_92 rfl (lv_at hl 0 rfl) ?_
          refine lv_iload_n hx hb dX4_lean_93 rfl (lv_at hl 1 rfl) ?_
          refine kd_callv (va_runV (As := [.int (nI j_3)]) (rest := []) ⟨hx, hb, hml, hown, hts⟩ (k_rouse4 l dC dI dA ad _ τ (kup pv mm 0 (.int 0)) _ _ hI mm fa sa aa ia sf mb mr mk mr hW j_3 (by omega)) (cwV 1 hts gX4_lean_X4_rouse rfl rfl rfl (by decide +kernel) ⟨Nat.le_of_ble_eq_true rfl, Nat.le_of_ble_eq_true rfl⟩) (kd_preV hP hD hK hS hA hE hI hW.tm rfl rfl) rfl rfl hl.1 rfl (lv_room (Nat.le_of_ble_eq_true rfl)) dX4_lean_94 ⟨Nat.le_of_ble_eq_true rfl, Nat.le_of_ble_eq_true rfl⟩) hD hS hA (fun u_34 H locs hw hP hD hS => ?_)
          have hI := hw
          refine W.widen (k := 0) (n := 0) (Nat.le_of_ble_eq_true rfl) (Nat.le_of_ble_eq_true rfl) ?_
          exact W.vret hx hb hr (fun t ht hW9 => ⟨⟨(u_34.1, u_34.2), rfl, ⟨_, _, hF, hW, (Eq.trans kup_self (congrArg Value.int (Eq.symm (by simp only [kc_lean, (kKn_t hj_3 (by omega)), k_9, k_15, k_21, decide_true, decide_false, Bool.not_true, Bool.not_false, Bool.and_true, Bool.true_and, Bool.and_false, Bool.false_and, Bool.and_self, Bool.false_eq_true, if_true, if_false, ite_true, ite_false, reduceIte] <;> decide)))), hI⟩, by rw [ht]; exact hP, va_K.moved hW9.alike hK, hD⟩, hS.F ht⟩) hS.2.2 dX4_lean_97
        · refine lv_if_eq (tgt := 44) hx hb dX4_lean_37 (by decide) (fun _ => ?_) (fun h9 => by first | exact absurd h9 (by decide) | exact absurd (by decide) h9)
          refine lv_iconst (v := 0) hx hb dX4_lean_44 (by decide) ?_
          refine lv_iconst (v := 1) hx hb dX4_lean_45 (by decide) ?_
          refine kd_calli (va_runV (As := [.int 1, .int 0, .int 1]) (rest := []) ⟨hx, hb, hml, hown, hts⟩ (k_goes3 l dC dI dA ad _ τ pv _ _ hI mm fa sa aa ia sf mb mr mk mr hW 1) (cwV 3 hts gX4_lean_X4_goes rfl rfl rfl (by decide +kernel) ⟨Nat.le_of_ble_eq_true rfl, Nat.le_of_ble_eq_true rfl⟩) (kd_preV hP hD hK hS hA hE hI hW.tm rfl rfl) rfl rfl hl.1 rfl (lv_room (Nat.le_of_ble_eq_true rfl)) dX4_lean_46 ⟨Nat.le_of_ble_eq_true rfl, Nat.le_of_ble_eq_true rfl⟩) hD hS hA (fun r_36 u_35 H locs hw hP hD hS => ?_)
          obtain ⟨rfl, hI⟩ := hw
          have hF := hF.trans (kFr.up (P := kPx) (w := .int 2) (k := 0) hW.tm rfl)
          have hW := hW.frw (kFr.up (P := kPy mr) (w := .int 2) (k := 0) hW.tm rfl)
          refine lv_if_eq (tgt := 97) hx hb dX4_lean_49 (by decide) (fun _ => ?_) (fun h9 => by first | exact absurd h9 (by decide) | exact absurd (by decide) h9)
          refine W.widen (k := 0) (n := 0) (Nat.le_of_ble_eq_true rfl) (Nat.le_of_ble_eq_true rfl) ?_
          exact W.vret hx hb hr (fun t ht hW9 => ⟨⟨(u_35.1, u_35.2), rfl, ⟨_, _, hF, hW, (Eq.trans kup_self (congrArg Value.int (Eq.symm (by simp only [kc_lean, (kKn_t hj_3 (by omega)), k_9, k_15, k_21, decide_true, decide_false, Bool.not_true, Bool.not_false, Bool.and_true, Bool.true_and, Bool.and_false, Bool.false_and, Bool.and_self, Bool.false_eq_true, if_true, if_false, ite_true, ite_false, reduceIte] <;> decide)))), hI⟩, by rw [ht]; exact hP, va_K.moved hW9.alike hK, hD⟩, hS.F ht⟩) hS.2.2 dX4_lean_97
      · refine lv_if_eq (tgt := 44) hx hb dX4_lean_25 (by decide) (fun _ => ?_) (fun h9 => by first | exact absurd h9 (by decide) | exact absurd (by decide) h9)
        refine lv_iconst (v := 0) hx hb dX4_lean_44 (by decide) ?_
        refine lv_iconst (v := 1) hx hb dX4_lean_45 (by decide) ?_
        refine kd_calli (va_runV (As := [.int 1, .int 0, .int 1]) (rest := []) ⟨hx, hb, hml, hown, hts⟩ (k_goes3 l dC dI dA ad _ τ pv _ _ hI mm fa sa aa ia sf mb mr mk mr hW 1) (cwV 3 hts gX4_lean_X4_goes rfl rfl rfl (by decide +kernel) ⟨Nat.le_of_ble_eq_true rfl, Nat.le_of_ble_eq_true rfl⟩) (kd_preV hP hD hK hS hA hE hI hW.tm rfl rfl) rfl rfl hl.1 rfl (lv_room (Nat.le_of_ble_eq_true rfl)) dX4_lean_46 ⟨Nat.le_of_ble_eq_true rfl, Nat.le_of_ble_eq_true rfl⟩) hD hS hA (fun r_38 u_37 H locs hw hP hD hS => ?_)
        obtain ⟨rfl, hI⟩ := hw
        have hF := hF.trans (kFr.up (P := kPx) (w := .int 2) (k := 0) hW.tm rfl)
        have hW := hW.frw (kFr.up (P := kPy mr) (w := .int 2) (k := 0) hW.tm rfl)
        refine lv_if_eq (tgt := 97) hx hb dX4_lean_49 (by decide) (fun _ => ?_) (fun h9 => by first | exact absurd h9 (by decide) | exact absurd (by decide) h9)
        refine W.widen (k := 0) (n := 0) (Nat.le_of_ble_eq_true rfl) (Nat.le_of_ble_eq_true rfl) ?_
        exact W.vret hx hb hr (fun t ht hW9 => ⟨⟨(u_37.1, u_37.2), rfl, ⟨_, _, hF, hW, (Eq.trans kup_self (congrArg Value.int (Eq.symm (by simp only [kc_lean, (kKn_t hj_3 (by omega)), k_9, k_15, decide_true, decide_false, Bool.not_true, Bool.not_false, Bool.and_true, Bool.true_and, Bool.and_false, Bool.false_and, Bool.and_self, Bool.false_eq_true, if_true, if_false, ite_true, ite_false, reduceIte] <;> decide)))), hI⟩, by rw [ht]; exact hP, va_K.moved hW9.alike hK, hD⟩, hS.F ht⟩) hS.2.2 dX4_lean_97
    · refine lv_if_eq (tgt := 44) hx hb dX4_lean_14 (by decide) (fun _ => ?_) (fun h9 => by first | exact absurd h9 (by decide) | exact absurd (by decide) h9)
      refine lv_iconst (v := 0) hx hb dX4_lean_44 (by decide) ?_
      refine lv_iconst (v := 1) hx hb dX4_lean_45 (by decide) ?_
      refine kd_calli (va_runV (As := [.int 1, .int 0, .int 1]) (rest := []) ⟨hx, hb, hml, hown, hts⟩ (k_goes3 l dC dI dA ad _ τ pv _ _ hI mm fa sa aa ia sf mb mr mk mr hW 1) (cwV 3 hts gX4_lean_X4_goes rfl rfl rfl (by decide +kernel) ⟨Nat.le_of_ble_eq_true rfl, Nat.le_of_ble_eq_true rfl⟩) (kd_preV hP hD hK hS hA hE hI hW.tm rfl rfl) rfl rfl hl.1 rfl (lv_room (Nat.le_of_ble_eq_true rfl)) dX4_lean_46 ⟨Nat.le_of_ble_eq_true rfl, Nat.le_of_ble_eq_true rfl⟩) hD hS hA (fun r_40 u_39 H locs hw hP hD hS => ?_)
      obtain ⟨rfl, hI⟩ := hw
      have hF := hF.trans (kFr.up (P := kPx) (w := .int 2) (k := 0) hW.tm rfl)
      have hW := hW.frw (kFr.up (P := kPy mr) (w := .int 2) (k := 0) hW.tm rfl)
      refine lv_if_eq (tgt := 97) hx hb dX4_lean_49 (by decide) (fun _ => ?_) (fun h9 => by first | exact absurd h9 (by decide) | exact absurd (by decide) h9)
      refine W.widen (k := 0) (n := 0) (Nat.le_of_ble_eq_true rfl) (Nat.le_of_ble_eq_true rfl) ?_
      exact W.vret hx hb hr (fun t ht hW9 => ⟨⟨(u_39.1, u_39.2), rfl, ⟨_, _, hF, hW, (Eq.trans kup_self (congrArg Value.int (Eq.symm (by simp only [kc_lean, (kKn_t hj_3 (by omega)), k_9, decide_true, decide_false, Bool.not_true, Bool.not_false, Bool.and_true, Bool.true_and, Bool.and_false, Bool.false_and, Bool.and_self, Bool.false_eq_true, if_true, if_false, ite_true, ite_false, reduceIte] <;> decide)))), hI⟩, by rw [ht]; exact hP, va_K.moved hW9.alike hK, hD⟩, hS.F ht⟩) hS.2.2 dX4_lean_97
  · refine lv_fload_n hx hb dX4_lean_6 rfl (lv_at hl 2 rfl) ?_
    refine lv_ldcf (v := 3229614080) hx hb hown (hts (.constantFloat RX4 109 (3229614080)) (by decide +kernel)) dX4_lean_7 ?_
    have hc_41 : fb 1082130432 3229614080 := by unfold fb; decide +kernel
    refine lv_ldcf (v := 1082130432) hx hb hown (hts (.constantFloat RX4 110 (1082130432)) (by decide +kernel)) dX4_lean_9 ?_
    have hc_42 : fb 1082130432 1082130432 := by unfold fb; decide +kernel
    refine kd_calli (va_runS (As := [.float a, .float 3229614080, .float 1082130432]) (rest := [.int 0, .ref mm]) ⟨hx, hb, hml, hown, hts⟩ (k_within l dC dI dA ad _ τ pv _ _ hI a 3229614080 1082130432) (va_cwS 3 hts gX4_lean_X4_within rfl rfl rfl (by decide +kernel) ⟨Nat.le_of_ble_eq_true rfl, Nat.le_of_ble_eq_true rfl⟩) (kd_preS hP hD hK hS hA hE) rfl rfl hl.1 rfl (lv_room (Nat.le_of_ble_eq_true rfl)) dX4_lean_11 ⟨Nat.le_of_ble_eq_true rfl, Nat.le_of_ble_eq_true rfl⟩) hD hS hA (fun r_44 u_43 H locs hw hP hD hS => ?_)
    obtain ⟨⟨k_45, rfl⟩ | ⟨k_45, rfl⟩, hI⟩ := hw
    · have fb_46 : fb 1082130432 a := fb_within hc_41 hc_42 (by decide) k_45
      refine lv_if_eq (tgt := 44) hx hb dX4_lean_14 (by decide) (fun h9 => by first | exact absurd h9 (by decide) | exact absurd (by decide) h9) (fun _ => ?_)
      refine lv_fload_n hx hb dX4_lean_17 rfl (lv_at hl 3 rfl) ?_
      refine lv_ldcf (v := 3229614080) hx hb hown (hts (.constantFloat RX4 109 (3229614080)) (by decide +kernel)) dX4_lean_18 ?_
      have hc_47 : fb 1082130432 3229614080 := by unfold fb; decide +kernel
      refine lv_ldcf (v := 1082130432) hx hb hown (hts (.constantFloat RX4 110 (1082130432)) (by decide +kernel)) dX4_lean_20 ?_
      have hc_48 : fb 1082130432 1082130432 := by unfold fb; decide +kernel
      refine kd_calli (va_runS (As := [.float b, .float 3229614080, .float 1082130432]) (rest := [.int 0, .ref mm]) ⟨hx, hb, hml, hown, hts⟩ (k_within l dC dI dA ad _ τ pv _ _ hI b 3229614080 1082130432) (va_cwS 3 hts gX4_lean_X4_within rfl rfl rfl (by decide +kernel) ⟨Nat.le_of_ble_eq_true rfl, Nat.le_of_ble_eq_true rfl⟩) (kd_preS hP hD hK hS hA hE) rfl rfl hl.1 rfl (lv_room (Nat.le_of_ble_eq_true rfl)) dX4_lean_22 ⟨Nat.le_of_ble_eq_true rfl, Nat.le_of_ble_eq_true rfl⟩) hD hS hA (fun r_50 u_49 H locs hw hP hD hS => ?_)
      obtain ⟨⟨k_51, rfl⟩ | ⟨k_51, rfl⟩, hI⟩ := hw
      · have fb_52 : fb 1082130432 b := fb_within hc_47 hc_48 (by decide) k_51
        refine lv_if_eq (tgt := 44) hx hb dX4_lean_25 (by decide) (fun h9 => by first | exact absurd h9 (by decide) | exact absurd (by decide) h9) (fun _ => ?_)
        refine lv_fload hx hb dX4_lean_28 (lv_at hl 4 rfl) ?_
        refine lv_ldcf (v := 3229614080) hx hb hown (hts (.constantFloat RX4 109 (3229614080)) (by decide +kernel)) dX4_lean_30 ?_
        have hc_53 : fb 1082130432 3229614080 := by unfold fb; decide +kernel
        refine lv_ldcf (v := 1082130432) hx hb hown (hts (.constantFloat RX4 110 (1082130432)) (by decide +kernel)) dX4_lean_32 ?_
        have hc_54 : fb 1082130432 1082130432 := by unfold fb; decide +kernel
        refine kd_calli (va_runS (As := [.float c9, .float 3229614080, .float 1082130432]) (rest := [.int 0, .ref mm]) ⟨hx, hb, hml, hown, hts⟩ (k_within l dC dI dA ad _ τ pv _ _ hI c9 3229614080 1082130432) (va_cwS 3 hts gX4_lean_X4_within rfl rfl rfl (by decide +kernel) ⟨Nat.le_of_ble_eq_true rfl, Nat.le_of_ble_eq_true rfl⟩) (kd_preS hP hD hK hS hA hE) rfl rfl hl.1 rfl (lv_room (Nat.le_of_ble_eq_true rfl)) dX4_lean_34 ⟨Nat.le_of_ble_eq_true rfl, Nat.le_of_ble_eq_true rfl⟩) hD hS hA (fun r_56 u_55 H locs hw hP hD hS => ?_)
        obtain ⟨⟨k_57, rfl⟩ | ⟨k_57, rfl⟩, hI⟩ := hw
        · have fb_58 : fb 1082130432 c9 := fb_within hc_53 hc_54 (by decide) k_57
          refine lv_if_eq (tgt := 44) hx hb dX4_lean_37 (by decide) (fun h9 => by first | exact absurd h9 (by decide) | exact absurd (by decide) h9) (fun _ => ?_)
          refine lv_iconst (v := 1) hx hb dX4_lean_40 (by decide) ?_
          refine lv_goto (tgt := 45) hx hb dX4_lean_41 (by decide) ?_
          refine lv_iconst (v := 1) hx hb dX4_lean_45 (by decide) ?_
          refine kd_calli (va_runV (As := [.int 0, .int 1, .int 1]) (rest := []) ⟨hx, hb, hml, hown, hts⟩ (k_goes2 l dC dI dA ad _ τ pv _ _ hI mm fa sa aa ia sf mb mr mk mr hW 1 1) (cwV 3 hts gX4_lean_X4_goes rfl rfl rfl (by decide +kernel) ⟨Nat.le_of_ble_eq_true rfl, Nat.le_of_ble_eq_true rfl⟩) (kd_preV hP hD hK hS hA hE hI hW.tm rfl rfl) rfl rfl hl.1 rfl (lv_room (Nat.le_of_ble_eq_true rfl)) dX4_lean_46 ⟨Nat.le_of_ble_eq_true rfl, Nat.le_of_ble_eq_true rfl⟩) hD hS hA (fun r_60 u_59 H locs hw hP hD hS => ?_)
          obtain ⟨rfl, hI⟩ := hw
          have hF := hF.trans (kFr.up (P := kPx) (w := .int 1) (k := 0) hW.tm rfl)
          have hW := hW.frw (kFr.up (P := kPy mr) (w := .int 1) (k := 0) hW.tm rfl)
          refine lv_if_eq (tgt := 97) hx hb dX4_lean_49 (by decide) (fun _ => ?_) (fun h9 => by first | exact absurd h9 (by decide) | exact absurd (by decide) h9)
          refine W.widen (k := 0) (n := 0) (Nat.le_of_ble_eq_true rfl) (Nat.le_of_ble_eq_true rfl) ?_
          exact W.vret hx hb hr (fun t ht hW9 => ⟨⟨(u_59.1, u_59.2), rfl, ⟨_, _, hF, hW, (Eq.trans kup_self (congrArg Value.int (Eq.symm (by simp only [kc_lean, (kKn_f h_4), k_45, k_51, k_57, decide_true, decide_false, Bool.not_true, Bool.not_false, Bool.and_true, Bool.true_and, Bool.and_false, Bool.false_and, Bool.and_self, Bool.false_eq_true, if_true, if_false, ite_true, ite_false, reduceIte] <;> decide)))), hI⟩, by rw [ht]; exact hP, va_K.moved hW9.alike hK, hD⟩, hS.F ht⟩) hS.2.2 dX4_lean_97
        · refine lv_if_eq (tgt := 44) hx hb dX4_lean_37 (by decide) (fun _ => ?_) (fun h9 => by first | exact absurd h9 (by decide) | exact absurd (by decide) h9)
          refine lv_iconst (v := 0) hx hb dX4_lean_44 (by decide) ?_
          refine lv_iconst (v := 1) hx hb dX4_lean_45 (by decide) ?_
          refine kd_calli (va_runV (As := [.int 0, .int 0, .int 1]) (rest := []) ⟨hx, hb, hml, hown, hts⟩ (k_goes2 l dC dI dA ad _ τ pv _ _ hI mm fa sa aa ia sf mb mr mk mr hW 0 1) (cwV 3 hts gX4_lean_X4_goes rfl rfl rfl (by decide +kernel) ⟨Nat.le_of_ble_eq_true rfl, Nat.le_of_ble_eq_true rfl⟩) (kd_preV hP hD hK hS hA hE hI hW.tm rfl rfl) rfl rfl hl.1 rfl (lv_room (Nat.le_of_ble_eq_true rfl)) dX4_lean_46 ⟨Nat.le_of_ble_eq_true rfl, Nat.le_of_ble_eq_true rfl⟩) hD hS hA (fun r_62 u_61 H locs hw hP hD hS => ?_)
          obtain ⟨rfl, hI⟩ := hw
          have hF := hF.trans (kFr.up (P := kPx) (w := .int 1) (k := 0) hW.tm rfl)
          have hW := hW.frw (kFr.up (P := kPy mr) (w := .int 1) (k := 0) hW.tm rfl)
          refine lv_if_eq (tgt := 97) hx hb dX4_lean_49 (by decide) (fun _ => ?_) (fun h9 => by first | exact absurd h9 (by decide) | exact absurd (by decide) h9)
          refine W.widen (k := 0) (n := 0) (Nat.le_of_ble_eq_true rfl) (Nat.le_of_ble_eq_true rfl) ?_
          exact W.vret hx hb hr (fun t ht hW9 => ⟨⟨(u_61.1, u_61.2), rfl, ⟨_, _, hF, hW, (Eq.trans kup_self (congrArg Value.int (Eq.symm (by simp only [kc_lean, (kKn_f h_4), k_45, k_51, k_57, decide_true, decide_false, Bool.not_true, Bool.not_false, Bool.and_true, Bool.true_and, Bool.and_false, Bool.false_and, Bool.and_self, Bool.false_eq_true, if_true, if_false, ite_true, ite_false, reduceIte] <;> decide)))), hI⟩, by rw [ht]; exact hP, va_K.moved hW9.alike hK, hD⟩, hS.F ht⟩) hS.2.2 dX4_lean_97
      · refine lv_if_eq (tgt := 44) hx hb dX4_lean_25 (by decide) (fun _ => ?_) (fun h9 => by first | exact absurd h9 (by decide) | exact absurd (by decide) h9)
        refine lv_iconst (v := 0) hx hb dX4_lean_44 (by decide) ?_
        refine lv_iconst (v := 1) hx hb dX4_lean_45 (by decide) ?_
        refine kd_calli (va_runV (As := [.int 0, .int 0, .int 1]) (rest := []) ⟨hx, hb, hml, hown, hts⟩ (k_goes2 l dC dI dA ad _ τ pv _ _ hI mm fa sa aa ia sf mb mr mk mr hW 0 1) (cwV 3 hts gX4_lean_X4_goes rfl rfl rfl (by decide +kernel) ⟨Nat.le_of_ble_eq_true rfl, Nat.le_of_ble_eq_true rfl⟩) (kd_preV hP hD hK hS hA hE hI hW.tm rfl rfl) rfl rfl hl.1 rfl (lv_room (Nat.le_of_ble_eq_true rfl)) dX4_lean_46 ⟨Nat.le_of_ble_eq_true rfl, Nat.le_of_ble_eq_true rfl⟩) hD hS hA (fun r_64 u_63 H locs hw hP hD hS => ?_)
        obtain ⟨rfl, hI⟩ := hw
        have hF := hF.trans (kFr.up (P := kPx) (w := .int 1) (k := 0) hW.tm rfl)
        have hW := hW.frw (kFr.up (P := kPy mr) (w := .int 1) (k := 0) hW.tm rfl)
        refine lv_if_eq (tgt := 97) hx hb dX4_lean_49 (by decide) (fun _ => ?_) (fun h9 => by first | exact absurd h9 (by decide) | exact absurd (by decide) h9)
        refine W.widen (k := 0) (n := 0) (Nat.le_of_ble_eq_true rfl) (Nat.le_of_ble_eq_true rfl) ?_
        exact W.vret hx hb hr (fun t ht hW9 => ⟨⟨(u_63.1, u_63.2), rfl, ⟨_, _, hF, hW, (Eq.trans kup_self (congrArg Value.int (Eq.symm (by simp only [kc_lean, (kKn_f h_4), k_45, k_51, decide_true, decide_false, Bool.not_true, Bool.not_false, Bool.and_true, Bool.true_and, Bool.and_false, Bool.false_and, Bool.and_self, Bool.false_eq_true, if_true, if_false, ite_true, ite_false, reduceIte] <;> decide)))), hI⟩, by rw [ht]; exact hP, va_K.moved hW9.alike hK, hD⟩, hS.F ht⟩) hS.2.2 dX4_lean_97
    · refine lv_if_eq (tgt := 44) hx hb dX4_lean_14 (by decide) (fun _ => ?_) (fun h9 => by first | exact absurd h9 (by decide) | exact absurd (by decide) h9)
      refine lv_iconst (v := 0) hx hb dX4_lean_44 (by decide) ?_
      refine lv_iconst (v := 1) hx hb dX4_lean_45 (by decide) ?_
      refine kd_calli (va_runV (As := [.int 0, .int 0, .int 1]) (rest := []) ⟨hx, hb, hml, hown, hts⟩ (k_goes2 l dC dI dA ad _ τ pv _ _ hI mm fa sa aa ia sf mb mr mk mr hW 0 1) (cwV 3 hts gX4_lean_X4_goes rfl rfl rfl (by decide +kernel) ⟨Nat.le_of_ble_eq_true rfl, Nat.le_of_ble_eq_true rfl⟩) (kd_preV hP hD hK hS hA hE hI hW.tm rfl rfl) rfl rfl hl.1 rfl (lv_room (Nat.le_of_ble_eq_true rfl)) dX4_lean_46 ⟨Nat.le_of_ble_eq_true rfl, Nat.le_of_ble_eq_true rfl⟩) hD hS hA (fun r_66 u_65 H locs hw hP hD hS => ?_)
      obtain ⟨rfl, hI⟩ := hw
      have hF := hF.trans (kFr.up (P := kPx) (w := .int 1) (k := 0) hW.tm rfl)
      have hW := hW.frw (kFr.up (P := kPy mr) (w := .int 1) (k := 0) hW.tm rfl)
      refine lv_if_eq (tgt := 97) hx hb dX4_lean_49 (by decide) (fun _ => ?_) (fun h9 => by first | exact absurd h9 (by decide) | exact absurd (by decide) h9)
      refine W.widen (k := 0) (n := 0) (Nat.le_of_ble_eq_true rfl) (Nat.le_of_ble_eq_true rfl) ?_
      exact W.vret hx hb hr (fun t ht hW9 => ⟨⟨(u_65.1, u_65.2), rfl, ⟨_, _, hF, hW, (Eq.trans kup_self (congrArg Value.int (Eq.symm (by simp only [kc_lean, (kKn_f h_4), k_45, decide_true, decide_false, Bool.not_true, Bool.not_false, Bool.and_true, Bool.true_and, Bool.and_false, Bool.false_and, Bool.and_self, Bool.false_eq_true, if_true, if_false, ite_true, ite_false, reduceIte] <;> decide)))), hI⟩, by rw [ht]; exact hP, va_K.moved hW9.alike hK, hD⟩, hS.F ht⟩) hS.2.2 dX4_lean_97
set_option maxHeartbeats 4000000 in
set_option maxRecDepth 100000 in
theorem m_p_set (l : Launch) (dC : Nat → ClassId) (dI : Nat → Nat → Nat) (dA : Nat → ClassId) (ad sz : Nat) (τ : Nat → Nat → Nat) (pv : Nat → Nat → Value) (L : List Nat) (f : Nat → va_E) (hI : kI dA τ pv L f) (mm fa sa aa ia sf mb mr mk : Nat) (hW : kMd τ pv mm fa sa aa ia sf mb mr mk mr) (n : Int32) (a : UInt32) (b : UInt32) (c9 : UInt32) (d9 : UInt32) (e9 : UInt32) (f9 : UInt32) : Met l yX4_set wsX4_set ({ frames := 1, cells := 0, slots := 0, locals := 23 } : Room) (va_Pc [.ref mm, .int n, .float a, .float b, .float c9, .float d9, .float e9, .float f9] (kB dC dI dA ad sz L f)) (va_Qv (fun u => kPostT dA τ pv mm fa sa aa ia sf mb mr (kc_set n mb a b c9 d9 e9 f9) u) (kR dC dI dA (va_A (va_pl L f) sz)) (va_A (va_pl L f) sz)) 0 0 (va_A (va_pl L f) sz) := by
  refine Met.ofW (cc := cX4_set) (maxL := 10) (ret := none) (by decide) rfl ?_
  intro p e s m args below meth c s₁ B hml hv
  obtain ⟨rfl, hsz, hP, hK, hD0, hE⟩ := hv
  have hx := B.exec
  have hb := B.bytes
  have hr := B.returns
  have hts := atoms_spec (ws := wsX4_set) B.pre
  have hown : s.vm.findClass RX4 = some m.cls := findClass_of_methodNamed B.named
  have hlocks := B.notSynchronized
  have i_X4 : ∀ w ∈ u_ws RX4 TX4 35, w ∈ wsX4_set := by decide +kernel
  subst hsz
  have hD := hD0.self (sz := s.heap.size)
  generalize hAe : va_A (va_pl L f) s.heap.size = A at hD hE ⊢
  have hA : ∀ q : Nat, s.heap.size ≤ q → A q := fun q h => by rw [← hAe]; exact Or.inr h
  have hS : va_S A s.heap s.heap [] := va_S.rf
  have hP : va_P (dC, dI) vwCl (va_pl L f) s.heap := hP
  have hK : va_K (dC, dI) vwCl (tyA dA) s := hK
  have hl := lv_entry ([.ref mm, .int n, .float a, .float b, .float c9, .float d9, .float e9, .float f9]) (n := 10) (Nat.le_of_ble_eq_true rfl)
  rw [lg_entry_eq]
  generalize (lg_sl ([.ref mm, .int n, .float a, .float b, .float c9, .float d9, .float e9, .float f9]) ++ List.replicate (10 - (lg_sl ([.ref mm, .int n, .float a, .float b, .float c9, .float d9, .float e9, .float f9])).length) Slot.unset).toArray = ls at hl ⊢
  have hl : lv_has ls 10 [(0, .ref mm), (1, .int n), (2, .float a), (3, .float b), (4, .float c9), (5, .float d9), (6, .float e9), (7, .float f9)] := hl
  have hnb := hW.lb
  have hnr := hW.lr
  have hnk := hW.lk
  have hni := hW.li
  have hF : kFr kPx τ pv τ pv := kFr.rf
  refine lv_fload_n hx hb dX4_set_0 rfl (lv_at hl 2 rfl) ?_
  refine lv_ldcf (v := 3296722944) hx hb hown (hts (.constantFloat RX4 115 (3296722944)) (by decide +kernel)) dX4_set_1 ?_
  have hc_1 : fb 1149239296 3296722944 := by unfold fb; decide +kernel
  refine lv_ldcf (v := 1149239296) hx hb hown (hts (.constantFloat RX4 116 (1149239296)) (by decide +kernel)) dX4_set_3 ?_
  have hc_2 : fb 1149239296 1149239296 := by unfold fb; decide +kernel
  refine kd_calli (va_runS (As := [.float a, .float 3296722944, .float 1149239296]) (rest := []) ⟨hx, hb, hml, hown, hts⟩ (k_within l dC dI dA ad _ τ pv _ _ hI a 3296722944 1149239296) (va_cwS 3 hts gX4_set_X4_within rfl rfl rfl (by decide +kernel) ⟨Nat.le_of_ble_eq_true rfl, Nat.le_of_ble_eq_true rfl⟩) (kd_preS hP hD hK hS hA hE) rfl rfl hl.1 rfl (lv_room (Nat.le_of_ble_eq_true rfl)) dX4_set_5 ⟨Nat.le_of_ble_eq_true rfl, Nat.le_of_ble_eq_true rfl⟩) hD hS hA (fun r_4 u_3 H locs hw hP hD hS => ?_)
  obtain ⟨⟨k_5, rfl⟩ | ⟨k_5, rfl⟩, hI⟩ := hw
  · have fb_6 : fb 1149239296 a := fb_within hc_1 hc_2 (by decide) k_5
    refine lv_if_eq (tgt := 38) hx hb dX4_set_8 (by decide) (fun h9 => by first | exact absurd h9 (by decide) | exact absurd (by decide) h9) (fun _ => ?_)
    refine lv_fload_n hx hb dX4_set_11 rfl (lv_at hl 3 rfl) ?_
    refine lv_ldcf (v := 3296722944) hx hb hown (hts (.constantFloat RX4 115 (3296722944)) (by decide +kernel)) dX4_set_12 ?_
    have hc_7 : fb 1149239296 3296722944 := by unfold fb; decide +kernel
    refine lv_ldcf (v := 1149239296) hx hb hown (hts (.constantFloat RX4 116 (1149239296)) (by decide +kernel)) dX4_set_14 ?_
    have hc_8 : fb 1149239296 1149239296 := by unfold fb; decide +kernel
    refine kd_calli (va_runS (As := [.float b, .float 3296722944, .float 1149239296]) (rest := []) ⟨hx, hb, hml, hown, hts⟩ (k_within l dC dI dA ad _ τ pv _ _ hI b 3296722944 1149239296) (va_cwS 3 hts gX4_set_X4_within rfl rfl rfl (by decide +kernel) ⟨Nat.le_of_ble_eq_true rfl, Nat.le_of_ble_eq_true rfl⟩) (kd_preS hP hD hK hS hA hE) rfl rfl hl.1 rfl (lv_room (Nat.le_of_ble_eq_true rfl)) dX4_set_16 ⟨Nat.le_of_ble_eq_true rfl, Nat.le_of_ble_eq_true rfl⟩) hD hS hA (fun r_10 u_9 H locs hw hP hD hS => ?_)
    obtain ⟨⟨k_11, rfl⟩ | ⟨k_11, rfl⟩, hI⟩ := hw
    · have fb_12 : fb 1149239296 b := fb_within hc_7 hc_8 (by decide) k_11
      refine lv_if_eq (tgt := 38) hx hb dX4_set_19 (by decide) (fun h9 => by first | exact absurd h9 (by decide) | exact absurd (by decide) h9) (fun _ => ?_)
      refine lv_fload hx hb dX4_set_22 (lv_at hl 4 rfl) ?_
      refine lv_ldcf (v := 3296722944) hx hb hown (hts (.constantFloat RX4 115 (3296722944)) (by decide +kernel)) dX4_set_24 ?_
      have hc_13 : fb 1149239296 3296722944 := by unfold fb; decide +kernel
      refine lv_ldcf (v := 1149239296) hx hb hown (hts (.constantFloat RX4 116 (1149239296)) (by decide +kernel)) dX4_set_26 ?_
      have hc_14 : fb 1149239296 1149239296 := by unfold fb; decide +kernel
      refine kd_calli (va_runS (As := [.float c9, .float 3296722944, .float 1149239296]) (rest := []) ⟨hx, hb, hml, hown, hts⟩ (k_within l dC dI dA ad _ τ pv _ _ hI c9 3296722944 1149239296) (va_cwS 3 hts gX4_set_X4_within rfl rfl rfl (by decide +kernel) ⟨Nat.le_of_ble_eq_true rfl, Nat.le_of_ble_eq_true rfl⟩) (kd_preS hP hD hK hS hA hE) rfl rfl hl.1 rfl (lv_room (Nat.le_of_ble_eq_true rfl)) dX4_set_28 ⟨Nat.le_of_ble_eq_true rfl, Nat.le_of_ble_eq_true rfl⟩) hD hS hA (fun r_16 u_15 H locs hw hP hD hS => ?_)
      obtain ⟨⟨k_17, rfl⟩ | ⟨k_17, rfl⟩, hI⟩ := hw
      · have fb_18 : fb 1149239296 c9 := fb_within hc_13 hc_14 (by decide) k_17
        refine lv_if_eq (tgt := 38) hx hb dX4_set_31 (by decide) (fun h9 => by first | exact absurd h9 (by decide) | exact absurd (by decide) h9) (fun _ => ?_)
        refine lv_iconst (v := 1) hx hb dX4_set_34 (by decide) ?_
        refine lv_goto (tgt := 39) hx hb dX4_set_35 (by decide) ?_
        refine lv_istore (lv' := [(8, .int 1), (0, .ref mm), (1, .int n), (2, .float a), (3, .float b), (4, .float c9), (5, .float d9), (6, .float e9), (7, .float f9)]) hx hb dX4_set_39 hl (by decide) rfl (fun ls hl => ?_)
        refine lv_iload hx hb dX4_set_41 (lv_at hl 0 rfl) ?_
        refine lv_if_eq (tgt := 86) hx hb dX4_set_43 (by decide) (fun h9 => by first | exact absurd h9 (by decide) | exact absurd (by decide) h9) (fun _ => ?_)
        refine lv_fload hx hb dX4_set_46 (lv_at hl 6 rfl) ?_
        refine lv_ldcf (v := 3296722944) hx hb hown (hts (.constantFloat RX4 115 (3296722944)) (by decide +kernel)) dX4_set_48 ?_
        have hc_19 : fb 1149239296 3296722944 := by unfold fb; decide +kernel
        refine lv_ldcf (v := 1149239296) hx hb hown (hts (.constantFloat RX4 116 (1149239296)) (by decide +kernel)) dX4_set_50 ?_
        have hc_20 : fb 1149239296 1149239296 := by unfold fb; decide +kernel
        refine kd_calli (va_runS (As := [.float d9, .float 3296722944, .float 1149239296]) (rest := []) ⟨hx, hb, hml, hown, hts⟩ (k_within l dC dI dA ad _ τ pv _ _ hI d9 3296722944 1149239296) (va_cwS 3 hts gX4_set_X4_within rfl rfl rfl (by decide +kernel) ⟨Nat.le_of_ble_eq_true rfl, Nat.le_of_ble_eq_true rfl⟩) (kd_preS hP hD hK hS hA hE) rfl rfl hl.1 rfl (lv_room (Nat.le_of_ble_eq_true rfl)) dX4_set_52 ⟨Nat.le_of_ble_eq_true rfl, Nat.le_of_ble_eq_true rfl⟩) hD hS hA (fun r_22 u_21 H locs hw hP hD hS => ?_)
        obtain ⟨⟨k_23, rfl⟩ | ⟨k_23, rfl⟩, hI⟩ := hw
        · have fb_24 : fb 1149239296 d9 := fb_within hc_19 hc_20 (by decide) k_23
          refine lv_if_eq (tgt := 86) hx hb dX4_set_55 (by decide) (fun h9 => by first | exact absurd h9 (by decide) | exact absurd (by decide) h9) (fun _ => ?_)
          refine lv_fload hx hb dX4_set_58 (lv_at hl 7 rfl) ?_
          refine lv_ldcf (v := 3296722944) hx hb hown (hts (.constantFloat RX4 115 (3296722944)) (by decide +kernel)) dX4_set_60 ?_
          have hc_25 : fb 1149239296 3296722944 := by unfold fb; decide +kernel
          refine lv_ldcf (v := 1149239296) hx hb hown (hts (.constantFloat RX4 116 (1149239296)) (by decide +kernel)) dX4_set_62 ?_
          have hc_26 : fb 1149239296 1149239296 := by unfold fb; decide +kernel
          refine kd_calli (va_runS (As := [.float e9, .float 3296722944, .float 1149239296]) (rest := []) ⟨hx, hb, hml, hown, hts⟩ (k_within l dC dI dA ad _ τ pv _ _ hI e9 3296722944 1149239296) (va_cwS 3 hts gX4_set_X4_within rfl rfl rfl (by decide +kernel) ⟨Nat.le_of_ble_eq_true rfl, Nat.le_of_ble_eq_true rfl⟩) (kd_preS hP hD hK hS hA hE) rfl rfl hl.1 rfl (lv_room (Nat.le_of_ble_eq_true rfl)) dX4_set_64 ⟨Nat.le_of_ble_eq_true rfl, Nat.le_of_ble_eq_true rfl⟩) hD hS hA (fun r_28 u_27 H locs hw hP hD hS => ?_)
          obtain ⟨⟨k_29, rfl⟩ | ⟨k_29, rfl⟩, hI⟩ := hw
          · have fb_30 : fb 1149239296 e9 := fb_within hc_25 hc_26 (by decide) k_29
            refine lv_if_eq (tgt := 86) hx hb dX4_set_67 (by decide) (fun h9 => by first | exact absurd h9 (by decide) | exact absurd (by decide) h9) (fun _ => ?_)
            refine lv_fload hx hb dX4_set_70 (lv_at hl 8 rfl) ?_
            refine lv_ldcf (v := 3296722944) hx hb hown (hts (.constantFloat RX4 115 (3296722944)) (by decide +kernel)) dX4_set_72 ?_
            have hc_31 : fb 1149239296 3296722944 := by unfold fb; decide +kernel
            refine lv_ldcf (v := 1149239296) hx hb hown (hts (.constantFloat RX4 116 (1149239296)) (by decide +kernel)) dX4_set_74 ?_
            have hc_32 : fb 1149239296 1149239296 := by unfold fb; decide +kernel
            refine kd_calli (va_runS (As := [.float f9, .float 3296722944, .float 1149239296]) (rest := []) ⟨hx, hb, hml, hown, hts⟩ (k_within l dC dI dA ad _ τ pv _ _ hI f9 3296722944 1149239296) (va_cwS 3 hts gX4_set_X4_within rfl rfl rfl (by decide +kernel) ⟨Nat.le_of_ble_eq_true rfl, Nat.le_of_ble_eq_true rfl⟩) (kd_preS hP hD hK hS hA hE) rfl rfl hl.1 rfl (lv_room (Nat.le_of_ble_eq_true rfl)) dX4_set_76 ⟨Nat.le_of_ble_eq_true rfl, Nat.le_of_ble_eq_true rfl⟩) hD hS hA (fun r_34 u_33 H locs hw hP hD hS => ?_)
            obtain ⟨⟨k_35, rfl⟩ | ⟨k_35, rfl⟩, hI⟩ := hw
            · have fb_36 : fb 1149239296 f9 := fb_within hc_31 hc_32 (by decide) k_35
              refine lv_if_eq (tgt := 86) hx hb dX4_set_79 (by decide) (fun h9 => by first | exact absurd h9 (by decide) | exact absurd (by decide) h9) (fun _ => ?_)
              refine lv_iconst (v := 1) hx hb dX4_set_82 (by decide) ?_
              refine lv_goto (tgt := 87) hx hb dX4_set_83 (by decide) ?_
              refine lv_istore (lv' := [(8, .int 1), (0, .ref mm), (1, .int n), (2, .float a), (3, .float b), (4, .float c9), (5, .float d9), (6, .float e9), (7, .float f9)]) hx hb dX4_set_87 hl (by decide) rfl (fun ls hl => ?_)
              refine lv_aload_n hx hb dX4_set_89 rfl (lv_at hl 1 rfl) ?_
              refine lv_aload_n hx hb dX4_set_90 rfl (lv_at hl 1 rfl) ?_
              refine lv_iload_n hx hb dX4_set_91 rfl (lv_at hl 2 rfl) ?_
              refine kd_calli (va_runV (As := [.int n]) (rest := [.ref mm]) ⟨hx, hb, hml, hown, hts⟩ (k_known l dC dI dA ad _ τ pv _ _ hI mm fa sa aa ia sf mb mr mk mr hW n) (cwV 1 hts gX4_set_X4_known rfl rfl rfl (by decide +kernel) ⟨Nat.le_of_ble_eq_true rfl, Nat.le_of_ble_eq_true rfl⟩) (kd_preV hP hD hK hS hA hE hI hW.tm rfl rfl) rfl rfl hl.1 rfl (lv_room (Nat.le_of_ble_eq_true rfl)) dX4_set_92 ⟨Nat.le_of_ble_eq_true rfl, Nat.le_of_ble_eq_true rfl⟩) hD hS hA (fun r_38 u_37 H locs hw hP hD hS => ?_)
              obtain ⟨⟨rfl, ⟨j_39, hj_39, rfl⟩⟩ | ⟨rfl, h_40⟩, hI⟩ := hw
              · refine lv_iload hx hb dX4_set_95 (lv_at hl 0 rfl) ?_
                refine lv_iconst (v := 1) hx hb dX4_set_97 (by decide) ?_
                refine kd_calli (va_runV (As := [.int 1, .int 1, .int 1]) (rest := []) ⟨hx, hb, hml, hown, hts⟩ (k_goes1 l dC dI dA ad _ τ pv _ _ hI mm fa sa aa ia sf mb mr mk mr hW ) (cwV 3 hts gX4_set_X4_goes rfl rfl rfl (by decide +kernel) ⟨Nat.le_of_ble_eq_true rfl, Nat.le_of_ble_eq_true rfl⟩) (kd_preV hP hD hK hS hA hE hI hW.tm rfl rfl) rfl rfl hl.1 rfl (lv_room (Nat.le_of_ble_eq_true rfl)) dX4_set_98 ⟨Nat.le_of_ble_eq_true rfl, Nat.le_of_ble_eq_true rfl⟩) hD hS hA (fun r_42 u_41 H locs hw hP hD hS => ?_)
                obtain ⟨rfl, hI⟩ := hw
                have hF := hF.trans (kFr.up (P := kPx) (w := .int 0) (k := 0) hW.tm rfl)
                have hW := hW.frw (kFr.up (P := kPy mr) (w := .int 0) (k := 0) hW.tm rfl)
                refine lv_if_eq (tgt := 177) hx hb dX4_set_101 (by decide) (fun h9 => by first | exact absurd h9 (by decide) | exact absurd (by decide) h9) (fun _ => ?_)
                refine lv_bipush (v := 13) hx hb dX4_set_104 (by decide) ?_
                refine lv_iload_n hx hb dX4_set_106 rfl (lv_at hl 2 rfl) ?_
                refine lv_imul hx hb dX4_set_107 ?_
                refine lv_topi (nm_r (show (13 : Int32) * (nI j_39) = nI (13 * j_39) from pk_mul 13 j_39) ?_)
                refine lv_istore (lv' := [(9, .int (nI (13 * j_39))), (8, .int 1), (0, .ref mm), (1, .int (nI j_39)), (2, .float a), (3, .float b), (4, .float c9), (5, .float d9), (6, .float e9), (7, .float f9)]) hx hb dX4_set_108 hl (by decide) rfl (fun ls hl => ?_)
                refine lv_aload_n hx hb dX4_set_110 rfl (lv_at hl 2 rfl) ?_
                refine kp_get hx hb hts i_X4 hown hK hP hI hW.tm rfl rfl 2 (by decide) (by decide) (hts (.fieldLink RX4 7 "IslandSolverModel" "body" "[F") (by decide +kernel)) (fun _ h9 => h9) dX4_set_111 (kq_RE 15 (by decide) fun x_43 h_44_e h_44 => ?_)
                refine lv_iload hx hb dX4_set_114 (lv_at hl 0 rfl) ?_
                refine lv_fload_n hx hb dX4_set_116 rfl (lv_at hl 4 rfl) ?_
                have hj_45 : 13 * j_39 < τ 3 x_43 := by rw [show τ 3 x_43 = 3328 from (hI.arr h_44 rfl).2.1]; omega
                refine W.eq (g2 := F0 m 117 ls (.float a :: .int (nI (13 * j_39)) :: .ref x_43 :: [])) rfl ?_
                refine kp_fastX (pv' := (kup pv mm 0 (.int 0))) (j := 13 * j_39) hx hb hK hP hD hS hI h_44 rfl hj_45 (fun _ _ _ => rfl) (show kPr τ (kEc 15 (13 * j_39)) _ _ from (show kEc 15 (13 * j_39) = 1535115264 from if_pos (by omega)).symm ▸ (kv_F (by decide) (fb_le fb_6 (by decide)))) (kPn_not rfl (by decide)) dX4_set_117 (fun f H locs hI hP hD hS => ?_)
                refine lv_aload_n hx hb dX4_set_118 rfl (lv_at hl 2 rfl) ?_
                refine kp_get hx hb hts i_X4 hown hK hP hI hW.tm rfl rfl 2 (by decide) (by decide) (hts (.fieldLink RX4 7 "IslandSolverModel" "body" "[F") (by decide +kernel)) (fun _ h9 => h9) dX4_set_119 (kq_RE 15 (by decide) fun x_46 h_47_e h_47 => ?_)
                refine lv_iload hx hb dX4_set_122 (lv_at hl 0 rfl) ?_
                refine lv_iconst (v := 1) hx hb dX4_set_124 (by decide) ?_
                refine lv_iadd hx hb dX4_set_125 ?_
                refine lv_topi (nm_r (show (nI (13 * j_39)) + 1 = nI (13 * j_39 + 1) from nI_add (13 * j_39) 1) ?_)
                refine lv_fload_n hx hb dX4_set_126 rfl (lv_at hl 5 rfl) ?_
                have hj_48 : 13 * j_39 + 1 < τ 3 x_46 := by rw [show τ 3 x_46 = 3328 from (hI.arr h_47 rfl).2.1]; omega
                refine W.eq (g2 := F0 m 127 ls (.float b :: .int (nI (13 * j_39 + 1)) :: .ref x_46 :: [])) rfl ?_
                refine kp_fastX (pv' := (kup pv mm 0 (.int 0))) (j := 13 * j_39 + 1) hx hb hK hP hD hS hI h_47 rfl hj_48 (fun _ _ _ => rfl) (show kPr τ (kEc 15 (13 * j_39 + 1)) _ _ from (show kEc 15 (13 * j_39 + 1) = 1535115264 from if_pos (by omega)).symm ▸ (kv_F (by decide) (fb_le fb_12 (by decide)))) (kPn_not rfl (by decide)) dX4_set_127 (fun f H locs hI hP hD hS => ?_)
                refine lv_aload_n hx hb dX4_set_128 rfl (lv_at hl 2 rfl) ?_
                refine kp_get hx hb hts i_X4 hown hK hP hI hW.tm rfl rfl 2 (by decide) (by decide) (hts (.fieldLink RX4 7 "IslandSolverModel" "body" "[F") (by decide +kernel)) (fun _ h9 => h9) dX4_set_129 (kq_RE 15 (by decide) fun x_49 h_50_e h_50 => ?_)
                refine lv_iload hx hb dX4_set_132 (lv_at hl 0 rfl) ?_
                refine lv_iconst (v := 2) hx hb dX4_set_134 (by decide) ?_
                refine lv_iadd hx hb dX4_set_135 ?_
                refine lv_topi (nm_r (show (nI (13 * j_39)) + 2 = nI (13 * j_39 + 2) from nI_add (13 * j_39) 2) ?_)
                refine lv_fload hx hb dX4_set_136 (lv_at hl 6 rfl) ?_
                have hj_51 : 13 * j_39 + 2 < τ 3 x_49 := by rw [show τ 3 x_49 = 3328 from (hI.arr h_50 rfl).2.1]; omega
                refine W.eq (g2 := F0 m 138 ls (.float c9 :: .int (nI (13 * j_39 + 2)) :: .ref x_49 :: [])) rfl ?_
                refine kp_fastX (pv' := (kup pv mm 0 (.int 0))) (j := 13 * j_39 + 2) hx hb hK hP hD hS hI h_50 rfl hj_51 (fun _ _ _ => rfl) (show kPr τ (kEc 15 (13 * j_39 + 2)) _ _ from (show kEc 15 (13 * j_39 + 2) = 1535115264 from if_pos (by omega)).symm ▸ (kv_F (by decide) (fb_le fb_18 (by decide)))) (kPn_not rfl (by decide)) dX4_set_138 (fun f H locs hI hP hD hS => ?_)
                refine lv_aload_n hx hb dX4_set_139 rfl (lv_at hl 2 rfl) ?_
                refine kp_get hx hb hts i_X4 hown hK hP hI hW.tm rfl rfl 2 (by decide) (by decide) (hts (.fieldLink RX4 7 "IslandSolverModel" "body" "[F") (by decide +kernel)) (fun _ h9 => h9) dX4_set_140 (kq_RE 15 (by decide) fun x_52 h_53_e h_53 => ?_)
                refine lv_iload hx hb dX4_set_143 (lv_at hl 0 rfl) ?_
                refine lv_iconst (v := 3) hx hb dX4_set_145 (by decide) ?_
                refine lv_iadd hx hb dX4_set_146 ?_
                refine lv_topi (nm_r (show (nI (13 * j_39)) + 3 = nI (13 * j_39 + 3) from nI_add (13 * j_39) 3) ?_)
                refine lv_fload hx hb dX4_set_147 (lv_at hl 7 rfl) ?_
                have hj_54 : 13 * j_39 + 3 < τ 3 x_52 := by rw [show τ 3 x_52 = 3328 from (hI.arr h_53 rfl).2.1]; omega
                refine W.eq (g2 := F0 m 149 ls (.float d9 :: .int (nI (13 * j_39 + 3)) :: .ref x_52 :: [])) rfl ?_
                refine kp_fastX (pv' := (kup pv mm 0 (.int 0))) (j := 13 * j_39 + 3) hx hb hK hP hD hS hI h_53 rfl hj_54 (fun _ _ _ => rfl) (show kPr τ (kEc 15 (13 * j_39 + 3)) _ _ from (show kEc 15 (13 * j_39 + 3) = 1535115264 from if_pos (by omega)).symm ▸ (kv_F (by decide) (fb_le fb_24 (by decide)))) (kPn_not rfl (by decide)) dX4_set_149 (fun f H locs hI hP hD hS => ?_)
                refine lv_aload_n hx hb dX4_set_150 rfl (lv_at hl 2 rfl) ?_
                refine kp_get hx hb hts i_X4 hown hK hP hI hW.tm rfl rfl 2 (by decide) (by decide) (hts (.fieldLink RX4 7 "IslandSolverModel" "body" "[F") (by decide +kernel)) (fun _ h9 => h9) dX4_set_151 (kq_RE 15 (by decide) fun x_55 h_56_e h_56 => ?_)
                refine lv_iload hx hb dX4_set_154 (lv_at hl 0 rfl) ?_
                refine lv_iconst (v := 4) hx hb dX4_set_156 (by decide) ?_
                refine lv_iadd hx hb dX4_set_157 ?_
                refine lv_topi (nm_r (show (nI (13 * j_39)) + 4 = nI (13 * j_39 + 4) from nI_add (13 * j_39) 4) ?_)
                refine lv_fload hx hb dX4_set_158 (lv_at hl 8 rfl) ?_
                have hj_57 : 13 * j_39 + 4 < τ 3 x_55 := by rw [show τ 3 x_55 = 3328 from (hI.arr h_56 rfl).2.1]; omega
                refine W.eq (g2 := F0 m 160 ls (.float e9 :: .int (nI (13 * j_39 + 4)) :: .ref x_55 :: [])) rfl ?_
                refine kp_fastX (pv' := (kup pv mm 0 (.int 0))) (j := 13 * j_39 + 4) hx hb hK hP hD hS hI h_56 rfl hj_57 (fun _ _ _ => rfl) (show kPr τ (kEc 15 (13 * j_39 + 4)) _ _ from (show kEc 15 (13 * j_39 + 4) = 1535115264 from if_pos (by omega)).symm ▸ (kv_F (by decide) (fb_le fb_30 (by decide)))) (kPn_not rfl (by decide)) dX4_set_160 (fun f H locs hI hP hD hS => ?_)
                refine lv_aload_n hx hb dX4_set_161 rfl (lv_at hl 2 rfl) ?_
                refine kp_get hx hb hts i_X4 hown hK hP hI hW.tm rfl rfl 2 (by decide) (by decide) (hts (.fieldLink RX4 7 "IslandSolverModel" "body" "[F") (by decide +kernel)) (fun _ h9 => h9) dX4_set_162 (kq_RE 15 (by decide) fun x_58 h_59_e h_59 => ?_)
                refine lv_iload hx hb dX4_set_165 (lv_at hl 0 rfl) ?_
                refine lv_iconst (v := 5) hx hb dX4_set_167 (by decide) ?_
                refine lv_iadd hx hb dX4_set_168 ?_
                refine lv_topi (nm_r (show (nI (13 * j_39)) + 5 = nI (13 * j_39 + 5) from nI_add (13 * j_39) 5) ?_)
                refine lv_fload hx hb dX4_set_169 (lv_at hl 9 rfl) ?_
                have hj_60 : 13 * j_39 + 5 < τ 3 x_58 := by rw [show τ 3 x_58 = 3328 from (hI.arr h_59 rfl).2.1]; omega
                refine W.eq (g2 := F0 m 171 ls (.float f9 :: .int (nI (13 * j_39 + 5)) :: .ref x_58 :: [])) rfl ?_
                refine kp_fastX (pv' := (kup pv mm 0 (.int 0))) (j := 13 * j_39 + 5) hx hb hK hP hD hS hI h_59 rfl hj_60 (fun _ _ _ => rfl) (show kPr τ (kEc 15 (13 * j_39 + 5)) _ _ from (show kEc 15 (13 * j_39 + 5) = 1535115264 from if_pos (by omega)).symm ▸ (kv_F (by decide) (fb_le fb_36 (by decide)))) (kPn_not rfl (by decide)) dX4_set_171 (fun f H locs hI hP hD hS => ?_)
                refine lv_aload_n hx hb dX4_set_172 rfl (lv_at hl 2 rfl) ?_
                refine lv_iload_n hx hb dX4_set_173 rfl (lv_at hl 3 rfl) ?_
                refine kd_callv (va_runV (As := [.int (nI j_39)]) (rest := []) ⟨hx, hb, hml, hown, hts⟩ (k_rouse4 l dC dI dA ad _ τ (kup pv mm 0 (.int 0)) _ _ hI mm fa sa aa ia sf mb mr mk mr hW j_39 (by omega)) (cwV 1 hts gX4_set_X4_rouse rfl rfl rfl (by decide +kernel) ⟨Nat.le_of_ble_eq_true rfl, Nat.le_of_ble_eq_true rfl⟩) (kd_preV hP hD hK hS hA hE hI hW.tm rfl rfl) rfl rfl hl.1 rfl (lv_room (Nat.le_of_ble_eq_true rfl)) dX4_set_174 ⟨Nat.le_of_ble_eq_true rfl, Nat.le_of_ble_eq_true rfl⟩) hD hS hA (fun u_61 H locs hw hP hD hS => ?_)
                have hI := hw
                refine W.widen (k := 0) (n := 0) (Nat.le_of_ble_eq_true rfl) (Nat.le_of_ble_eq_true rfl) ?_
                exact W.vret hx hb hr (fun t ht hW9 => ⟨⟨(u_61.1, u_61.2), rfl, ⟨_, _, hF, hW, (Eq.trans kup_self (congrArg Value.int (Eq.symm (by simp only [kc_set, kz_any, kf_neg1024, k_5, k_11, k_17, k_23, k_29, k_35, (kKn_t hj_39 (by omega)), decide_true, decide_false, Bool.not_true, Bool.not_false, Bool.and_true, Bool.true_and, Bool.and_false, Bool.false_and, Bool.and_self, Bool.false_eq_true, if_true, if_false, ite_true, ite_false, reduceIte] <;> decide)))), hI⟩, by rw [ht]; exact hP, va_K.moved hW9.alike hK, hD⟩, hS.F ht⟩) hS.2.2 dX4_set_177
              · refine lv_iload hx hb dX4_set_95 (lv_at hl 0 rfl) ?_
                refine lv_iconst (v := 1) hx hb dX4_set_97 (by decide) ?_
                refine kd_calli (va_runV (As := [.int 0, .int 1, .int 1]) (rest := []) ⟨hx, hb, hml, hown, hts⟩ (k_goes2 l dC dI dA ad _ τ pv _ _ hI mm fa sa aa ia sf mb mr mk mr hW 1 1) (cwV 3 hts gX4_set_X4_goes rfl rfl rfl (by decide +kernel) ⟨Nat.le_of_ble_eq_true rfl, Nat.le_of_ble_eq_true rfl⟩) (kd_preV hP hD hK hS hA hE hI hW.tm rfl rfl) rfl rfl hl.1 rfl (lv_room (Nat.le_of_ble_eq_true rfl)) dX4_set_98 ⟨Nat.le_of_ble_eq_true rfl, Nat.le_of_ble_eq_true rfl⟩) hD hS hA (fun r_63 u_62 H locs hw hP hD hS => ?_)
                obtain ⟨rfl, hI⟩ := hw
                have hF := hF.trans (kFr.up (P := kPx) (w := .int 1) (k := 0) hW.tm rfl)
                have hW := hW.frw (kFr.up (P := kPy mr) (w := .int 1) (k := 0) hW.tm rfl)
                refine lv_if_eq (tgt := 177) hx hb dX4_set_101 (by decide) (fun _ => ?_) (fun h9 => by first | exact absurd h9 (by decide) | exact absurd (by decide) h9)
                refine W.widen (k := 0) (n := 0) (Nat.le_of_ble_eq_true rfl) (Nat.le_of_ble_eq_true rfl) ?_
                exact W.vret hx hb hr (fun t ht hW9 => ⟨⟨(u_62.1, u_62.2), rfl, ⟨_, _, hF, hW, (Eq.trans kup_self (congrArg Value.int (Eq.symm (by simp only [kc_set, kz_any, kf_neg1024, k_5, k_11, k_17, k_23, k_29, k_35, (kKn_f h_40), decide_true, decide_false, Bool.not_true, Bool.not_false, Bool.and_true, Bool.true_and, Bool.and_false, Bool.false_and, Bool.and_self, Bool.false_eq_true, if_true, if_false, ite_true, ite_false, reduceIte] <;> decide)))), hI⟩, by rw [ht]; exact hP, va_K.moved hW9.alike hK, hD⟩, hS.F ht⟩) hS.2.2 dX4_set_177
            · refine lv_if_eq (tgt := 86) hx hb dX4_set_79 (by decide) (fun _ => ?_) (fun h9 => by first | exact absurd h9 (by decide) | exact absurd (by decide) h9)
              refine lv_iconst (v := 0) hx hb dX4_set_86 (by decide) ?_
              refine lv_istore (lv' := [(8, .int 0), (0, .ref mm), (1, .int n), (2, .float a), (3, .float b), (4, .float c9), (5, .float d9), (6, .float e9), (7, .float f9)]) hx hb dX4_set_87 hl (by decide) rfl (fun ls hl => ?_)
              refine lv_aload_n hx hb dX4_set_89 rfl (lv_at hl 1 rfl) ?_
              refine lv_aload_n hx hb dX4_set_90 rfl (lv_at hl 1 rfl) ?_
              refine lv_iload_n hx hb dX4_set_91 rfl (lv_at hl 2 rfl) ?_
              refine kd_calli (va_runV (As := [.int n]) (rest := [.ref mm]) ⟨hx, hb, hml, hown, hts⟩ (k_known l dC dI dA ad _ τ pv _ _ hI mm fa sa aa ia sf mb mr mk mr hW n) (cwV 1 hts gX4_set_X4_known rfl rfl rfl (by decide +kernel) ⟨Nat.le_of_ble_eq_true rfl, Nat.le_of_ble_eq_true rfl⟩) (kd_preV hP hD hK hS hA hE hI hW.tm rfl rfl) rfl rfl hl.1 rfl (lv_room (Nat.le_of_ble_eq_true rfl)) dX4_set_92 ⟨Nat.le_of_ble_eq_true rfl, Nat.le_of_ble_eq_true rfl⟩) hD hS hA (fun r_65 u_64 H locs hw hP hD hS => ?_)
              obtain ⟨⟨rfl, ⟨j_66, hj_66, rfl⟩⟩ | ⟨rfl, h_67⟩, hI⟩ := hw
              · refine lv_iload hx hb dX4_set_95 (lv_at hl 0 rfl) ?_
                refine lv_iconst (v := 1) hx hb dX4_set_97 (by decide) ?_
                refine kd_calli (va_runV (As := [.int 1, .int 0, .int 1]) (rest := []) ⟨hx, hb, hml, hown, hts⟩ (k_goes3 l dC dI dA ad _ τ pv _ _ hI mm fa sa aa ia sf mb mr mk mr hW 1) (cwV 3 hts gX4_set_X4_goes rfl rfl rfl (by decide +kernel) ⟨Nat.le_of_ble_eq_true rfl, Nat.le_of_ble_eq_true rfl⟩) (kd_preV hP hD hK hS hA hE hI hW.tm rfl rfl) rfl rfl hl.1 rfl (lv_room (Nat.le_of_ble_eq_true rfl)) dX4_set_98 ⟨Nat.le_of_ble_eq_true rfl, Nat.le_of_ble_eq_true rfl⟩) hD hS hA (fun r_69 u_68 H locs hw hP hD hS => ?_)
                obtain ⟨rfl, hI⟩ := hw
                have hF := hF.trans (kFr.up (P := kPx) (w := .int 2) (k := 0) hW.tm rfl)
                have hW := hW.frw (kFr.up (P := kPy mr) (w := .int 2) (k := 0) hW.tm rfl)
                refine lv_if_eq (tgt := 177) hx hb dX4_set_101 (by decide) (fun _ => ?_) (fun h9 => by first | exact absurd h9 (by decide) | exact absurd (by decide) h9)
                refine W.widen (k := 0) (n := 0) (Nat.le_of_ble_eq_true rfl) (Nat.le_of_ble_eq_true rfl) ?_
                exact W.vret hx hb hr (fun t ht hW9 => ⟨⟨(u_68.1, u_68.2), rfl, ⟨_, _, hF, hW, (Eq.trans kup_self (congrArg Value.int (Eq.symm (by simp only [kc_set, kz_any, kf_neg1024, k_5, k_11, k_17, k_23, k_29, k_35, (kKn_t hj_66 (by omega)), decide_true, decide_false, Bool.not_true, Bool.not_false, Bool.and_true, Bool.true_and, Bool.and_false, Bool.false_and, Bool.and_self, Bool.false_eq_true, if_true, if_false, ite_true, ite_false, reduceIte] <;> decide)))), hI⟩, by rw [ht]; exact hP, va_K.moved hW9.alike hK, hD⟩, hS.F ht⟩) hS.2.2 dX4_set_177
              · refine lv_iload hx hb dX4_set_95 (lv_at hl 0 rfl) ?_
                refine lv_iconst (v := 1) hx hb dX4_set_97 (by decide) ?_
                refine kd_calli (va_runV (As := [.int 0, .int 0, .int 1]) (rest := []) ⟨hx, hb, hml, hown, hts⟩ (k_goes2 l dC dI dA ad _ τ pv _ _ hI mm fa sa aa ia sf mb mr mk mr hW 0 1) (cwV 3 hts gX4_set_X4_goes rfl rfl rfl (by decide +kernel) ⟨Nat.le_of_ble_eq_true rfl, Nat.le_of_ble_eq_true rfl⟩) (kd_preV hP hD hK hS hA hE hI hW.tm rfl rfl) rfl rfl hl.1 rfl (lv_room (Nat.le_of_ble_eq_true rfl)) dX4_set_98 ⟨Nat.le_of_ble_eq_true rfl, Nat.le_of_ble_eq_true rfl⟩) hD hS hA (fun r_71 u_70 H locs hw hP hD hS => ?_)
                obtain ⟨rfl, hI⟩ := hw
                have hF := hF.trans (kFr.up (P := kPx) (w := .int 1) (k := 0) hW.tm rfl)
                have hW := hW.frw (kFr.up (P := kPy mr) (w := .int 1) (k := 0) hW.tm rfl)
                refine lv_if_eq (tgt := 177) hx hb dX4_set_101 (by decide) (fun _ => ?_) (fun h9 => by first | exact absurd h9 (by decide) | exact absurd (by decide) h9)
                refine W.widen (k := 0) (n := 0) (Nat.le_of_ble_eq_true rfl) (Nat.le_of_ble_eq_true rfl) ?_
                exact W.vret hx hb hr (fun t ht hW9 => ⟨⟨(u_70.1, u_70.2), rfl, ⟨_, _, hF, hW, (Eq.trans kup_self (congrArg Value.int (Eq.symm (by simp only [kc_set, kz_any, kf_neg1024, k_5, k_11, k_17, k_23, k_29, k_35, (kKn_f h_67), decide_true, decide_false, Bool.not_true, Bool.not_false, Bool.and_true, Bool.true_and, Bool.and_false, Bool.false_and, Bool.and_self, Bool.false_eq_true, if_true, if_false, ite_true, ite_false, reduceIte] <;> decide)))), hI⟩, by rw [ht]; exact hP, va_K.moved hW9.alike hK, hD⟩, hS.F ht⟩) hS.2.2 dX4_set_177
          · refine lv_if_eq (tgt := 86) hx hb dX4_set_67 (by decide) (fun _ => ?_) (fun h9 => by first | exact absurd h9 (by decide) | exact absurd (by decide) h9)
            refine lv_iconst (v := 0) hx hb dX4_set_86 (by decide) ?_
            refine lv_istore (lv' := [(8, .int 0), (0, .ref mm), (1, .int n), (2, .float a), (3, .float b), (4, .float c9), (5, .float d9), (6, .float e9), (7, .float f9)]) hx hb dX4_set_87 hl (by decide) rfl (fun ls hl => ?_)
            refine lv_aload_n hx hb dX4_set_89 rfl (lv_at hl 1 rfl) ?_
            refine lv_aload_n hx hb dX4_set_90 rfl (lv_at hl 1 rfl) ?_
            refine lv_iload_n hx hb dX4_set_91 rfl (lv_at hl 2 rfl) ?_
            refine kd_calli (va_runV (As := [.int n]) (rest := [.ref mm]) ⟨hx, hb, hml, hown, hts⟩ (k_known l dC dI dA ad _ τ pv _ _ hI mm fa sa aa ia sf mb mr mk mr hW n) (cwV 1 hts gX4_set_X4_known rfl rfl rfl (by decide +kernel) ⟨Nat.le_of_ble_eq_true rfl, Nat.le_of_ble_eq_true rfl⟩) (kd_preV hP hD hK hS hA hE hI hW.tm rfl rfl) rfl rfl hl.1 rfl (lv_room (Nat.le_of_ble_eq_true rfl)) dX4_set_92 ⟨Nat.le_of_ble_eq_true rfl, Nat.le_of_ble_eq_true rfl⟩) hD hS hA (fun r_73 u_72 H locs hw hP hD hS => ?_)
            obtain ⟨⟨rfl, ⟨j_74, hj_74, rfl⟩⟩ | ⟨rfl, h_75⟩, hI⟩ := hw
            · refine lv_iload hx hb dX4_set_95 (lv_at hl 0 rfl) ?_
              refine lv_iconst (v := 1) hx hb dX4_set_97 (by decide) ?_
              refine kd_calli (va_runV (As := [.int 1, .int 0, .int 1]) (rest := []) ⟨hx, hb, hml, hown, hts⟩ (k_goes3 l dC dI dA ad _ τ pv _ _ hI mm fa sa aa ia sf mb mr mk mr hW 1) (cwV 3 hts gX4_set_X4_goes rfl rfl rfl (by decide +kernel) ⟨Nat.le_of_ble_eq_true rfl, Nat.le_of_ble_eq_true rfl⟩) (kd_preV hP hD hK hS hA hE hI hW.tm rfl rfl) rfl rfl hl.1 rfl (lv_room (Nat.le_of_ble_eq_true rfl)) dX4_set_98 ⟨Nat.le_of_ble_eq_true rfl, Nat.le_of_ble_eq_true rfl⟩) hD hS hA (fun r_77 u_76 H locs hw hP hD hS => ?_)
              obtain ⟨rfl, hI⟩ := hw
              have hF := hF.trans (kFr.up (P := kPx) (w := .int 2) (k := 0) hW.tm rfl)
              have hW := hW.frw (kFr.up (P := kPy mr) (w := .int 2) (k := 0) hW.tm rfl)
              refine lv_if_eq (tgt := 177) hx hb dX4_set_101 (by decide) (fun _ => ?_) (fun h9 => by first | exact absurd h9 (by decide) | exact absurd (by decide) h9)
              refine W.widen (k := 0) (n := 0) (Nat.le_of_ble_eq_true rfl) (Nat.le_of_ble_eq_true rfl) ?_
              exact W.vret hx hb hr (fun t ht hW9 => ⟨⟨(u_76.1, u_76.2), rfl, ⟨_, _, hF, hW, (Eq.trans kup_self (congrArg Value.int (Eq.symm (by simp only [kc_set, kz_any, kf_neg1024, k_5, k_11, k_17, k_23, k_29, (kKn_t hj_74 (by omega)), decide_true, decide_false, Bool.not_true, Bool.not_false, Bool.and_true, Bool.true_and, Bool.and_false, Bool.false_and, Bool.and_self, Bool.false_eq_true, if_true, if_false, ite_true, ite_false, reduceIte] <;> decide)))), hI⟩, by rw [ht]; exact hP, va_K.moved hW9.alike hK, hD⟩, hS.F ht⟩) hS.2.2 dX4_set_177
            · refine lv_iload hx hb dX4_set_95 (lv_at hl 0 rfl) ?_
              refine lv_iconst (v := 1) hx hb dX4_set_97 (by decide) ?_
              refine kd_calli (va_runV (As := [.int 0, .int 0, .int 1]) (rest := []) ⟨hx, hb, hml, hown, hts⟩ (k_goes2 l dC dI dA ad _ τ pv _ _ hI mm fa sa aa ia sf mb mr mk mr hW 0 1) (cwV 3 hts gX4_set_X4_goes rfl rfl rfl (by decide +kernel) ⟨Nat.le_of_ble_eq_true rfl, Nat.le_of_ble_eq_true rfl⟩) (kd_preV hP hD hK hS hA hE hI hW.tm rfl rfl) rfl rfl hl.1 rfl (lv_room (Nat.le_of_ble_eq_true rfl)) dX4_set_98 ⟨Nat.le_of_ble_eq_true rfl, Nat.le_of_ble_eq_true rfl⟩) hD hS hA (fun r_79 u_78 H locs hw hP hD hS => ?_)
              obtain ⟨rfl, hI⟩ := hw
              have hF := hF.trans (kFr.up (P := kPx) (w := .int 1) (k := 0) hW.tm rfl)
              have hW := hW.frw (kFr.up (P := kPy mr) (w := .int 1) (k := 0) hW.tm rfl)
              refine lv_if_eq (tgt := 177) hx hb dX4_set_101 (by decide) (fun _ => ?_) (fun h9 => by first | exact absurd h9 (by decide) | exact absurd (by decide) h9)
              refine W.widen (k := 0) (n := 0) (Nat.le_of_ble_eq_true rfl) (Nat.le_of_ble_eq_true rfl) ?_
              exact W.vret hx hb hr (fun t ht hW9 => ⟨⟨(u_78.1, u_78.2), rfl, ⟨_, _, hF, hW, (Eq.trans kup_self (congrArg Value.int (Eq.symm (by simp only [kc_set, kz_any, kf_neg1024, k_5, k_11, k_17, k_23, k_29, (kKn_f h_75), decide_true, decide_false, Bool.not_true, Bool.not_false, Bool.and_true, Bool.true_and, Bool.and_false, Bool.false_and, Bool.and_self, Bool.false_eq_true, if_true, if_false, ite_true, ite_false, reduceIte] <;> decide)))), hI⟩, by rw [ht]; exact hP, va_K.moved hW9.alike hK, hD⟩, hS.F ht⟩) hS.2.2 dX4_set_177
        · refine lv_if_eq (tgt := 86) hx hb dX4_set_55 (by decide) (fun _ => ?_) (fun h9 => by first | exact absurd h9 (by decide) | exact absurd (by decide) h9)
          refine lv_iconst (v := 0) hx hb dX4_set_86 (by decide) ?_
          refine lv_istore (lv' := [(8, .int 0), (0, .ref mm), (1, .int n), (2, .float a), (3, .float b), (4, .float c9), (5, .float d9), (6, .float e9), (7, .float f9)]) hx hb dX4_set_87 hl (by decide) rfl (fun ls hl => ?_)
          refine lv_aload_n hx hb dX4_set_89 rfl (lv_at hl 1 rfl) ?_
          refine lv_aload_n hx hb dX4_set_90 rfl (lv_at hl 1 rfl) ?_
          refine lv_iload_n hx hb dX4_set_91 rfl (lv_at hl 2 rfl) ?_
          refine kd_calli (va_runV (As := [.int n]) (rest := [.ref mm]) ⟨hx, hb, hml, hown, hts⟩ (k_known l dC dI dA ad _ τ pv _ _ hI mm fa sa aa ia sf mb mr mk mr hW n) (cwV 1 hts gX4_set_X4_known rfl rfl rfl (by decide +kernel) ⟨Nat.le_of_ble_eq_true rfl, Nat.le_of_ble_eq_true rfl⟩) (kd_preV hP hD hK hS hA hE hI hW.tm rfl rfl) rfl rfl hl.1 rfl (lv_room (Nat.le_of_ble_eq_true rfl)) dX4_set_92 ⟨Nat.le_of_ble_eq_true rfl, Nat.le_of_ble_eq_true rfl⟩) hD hS hA (fun r_81 u_80 H locs hw hP hD hS => ?_)
          obtain ⟨⟨rfl, ⟨j_82, hj_82, rfl⟩⟩ | ⟨rfl, h_83⟩, hI⟩ := hw
          · refine lv_iload hx hb dX4_set_95 (lv_at hl 0 rfl) ?_
            refine lv_iconst (v := 1) hx hb dX4_set_97 (by decide) ?_
            refine kd_calli (va_runV (As := [.int 1, .int 0, .int 1]) (rest := []) ⟨hx, hb, hml, hown, hts⟩ (k_goes3 l dC dI dA ad _ τ pv _ _ hI mm fa sa aa ia sf mb mr mk mr hW 1) (cwV 3 hts gX4_set_X4_goes rfl rfl rfl (by decide +kernel) ⟨Nat.le_of_ble_eq_true rfl, Nat.le_of_ble_eq_true rfl⟩) (kd_preV hP hD hK hS hA hE hI hW.tm rfl rfl) rfl rfl hl.1 rfl (lv_room (Nat.le_of_ble_eq_true rfl)) dX4_set_98 ⟨Nat.le_of_ble_eq_true rfl, Nat.le_of_ble_eq_true rfl⟩) hD hS hA (fun r_85 u_84 H locs hw hP hD hS => ?_)
            obtain ⟨rfl, hI⟩ := hw
            have hF := hF.trans (kFr.up (P := kPx) (w := .int 2) (k := 0) hW.tm rfl)
            have hW := hW.frw (kFr.up (P := kPy mr) (w := .int 2) (k := 0) hW.tm rfl)
            refine lv_if_eq (tgt := 177) hx hb dX4_set_101 (by decide) (fun _ => ?_) (fun h9 => by first | exact absurd h9 (by decide) | exact absurd (by decide) h9)
            refine W.widen (k := 0) (n := 0) (Nat.le_of_ble_eq_true rfl) (Nat.le_of_ble_eq_true rfl) ?_
            exact W.vret hx hb hr (fun t ht hW9 => ⟨⟨(u_84.1, u_84.2), rfl, ⟨_, _, hF, hW, (Eq.trans kup_self (congrArg Value.int (Eq.symm (by simp only [kc_set, kz_any, kf_neg1024, k_5, k_11, k_17, k_23, (kKn_t hj_82 (by omega)), decide_true, decide_false, Bool.not_true, Bool.not_false, Bool.and_true, Bool.true_and, Bool.and_false, Bool.false_and, Bool.and_self, Bool.false_eq_true, if_true, if_false, ite_true, ite_false, reduceIte] <;> decide)))), hI⟩, by rw [ht]; exact hP, va_K.moved hW9.alike hK, hD⟩, hS.F ht⟩) hS.2.2 dX4_set_177
          · refine lv_iload hx hb dX4_set_95 (lv_at hl 0 rfl) ?_
            refine lv_iconst (v := 1) hx hb dX4_set_97 (by decide) ?_
            refine kd_calli (va_runV (As := [.int 0, .int 0, .int 1]) (rest := []) ⟨hx, hb, hml, hown, hts⟩ (k_goes2 l dC dI dA ad _ τ pv _ _ hI mm fa sa aa ia sf mb mr mk mr hW 0 1) (cwV 3 hts gX4_set_X4_goes rfl rfl rfl (by decide +kernel) ⟨Nat.le_of_ble_eq_true rfl, Nat.le_of_ble_eq_true rfl⟩) (kd_preV hP hD hK hS hA hE hI hW.tm rfl rfl) rfl rfl hl.1 rfl (lv_room (Nat.le_of_ble_eq_true rfl)) dX4_set_98 ⟨Nat.le_of_ble_eq_true rfl, Nat.le_of_ble_eq_true rfl⟩) hD hS hA (fun r_87 u_86 H locs hw hP hD hS => ?_)
            obtain ⟨rfl, hI⟩ := hw
            have hF := hF.trans (kFr.up (P := kPx) (w := .int 1) (k := 0) hW.tm rfl)
            have hW := hW.frw (kFr.up (P := kPy mr) (w := .int 1) (k := 0) hW.tm rfl)
            refine lv_if_eq (tgt := 177) hx hb dX4_set_101 (by decide) (fun _ => ?_) (fun h9 => by first | exact absurd h9 (by decide) | exact absurd (by decide) h9)
            refine W.widen (k := 0) (n := 0) (Nat.le_of_ble_eq_true rfl) (Nat.le_of_ble_eq_true rfl) ?_
            exact W.vret hx hb hr (fun t ht hW9 => ⟨⟨(u_86.1, u_86.2), rfl, ⟨_, _, hF, hW, (Eq.trans kup_self (congrArg Value.int (Eq.symm (by simp only [kc_set, kz_any, kf_neg1024, k_5, k_11, k_17, k_23, (kKn_f h_83), decide_true, decide_false, Bool.not_true, Bool.not_false, Bool.and_true, Bool.true_and, Bool.and_false, Bool.false_and, Bool.and_self, Bool.false_eq_true, if_true, if_false, ite_true, ite_false, reduceIte] <;> decide)))), hI⟩, by rw [ht]; exact hP, va_K.moved hW9.alike hK, hD⟩, hS.F ht⟩) hS.2.2 dX4_set_177
      · refine lv_if_eq (tgt := 38) hx hb dX4_set_31 (by decide) (fun _ => ?_) (fun h9 => by first | exact absurd h9 (by decide) | exact absurd (by decide) h9)
        refine lv_iconst (v := 0) hx hb dX4_set_38 (by decide) ?_
        refine lv_istore (lv' := [(8, .int 0), (0, .ref mm), (1, .int n), (2, .float a), (3, .float b), (4, .float c9), (5, .float d9), (6, .float e9), (7, .float f9)]) hx hb dX4_set_39 hl (by decide) rfl (fun ls hl => ?_)
        refine lv_iload hx hb dX4_set_41 (lv_at hl 0 rfl) ?_
        refine lv_if_eq (tgt := 86) hx hb dX4_set_43 (by decide) (fun _ => ?_) (fun h9 => by first | exact absurd h9 (by decide) | exact absurd (by decide) h9)
        refine lv_iconst (v := 0) hx hb dX4_set_86 (by decide) ?_
        refine lv_istore (lv' := [(8, .int 0), (0, .ref mm), (1, .int n), (2, .float a), (3, .float b), (4, .float c9), (5, .float d9), (6, .float e9), (7, .float f9)]) hx hb dX4_set_87 hl (by decide) rfl (fun ls hl => ?_)
        refine lv_aload_n hx hb dX4_set_89 rfl (lv_at hl 1 rfl) ?_
        refine lv_aload_n hx hb dX4_set_90 rfl (lv_at hl 1 rfl) ?_
        refine lv_iload_n hx hb dX4_set_91 rfl (lv_at hl 2 rfl) ?_
        refine kd_calli (va_runV (As := [.int n]) (rest := [.ref mm]) ⟨hx, hb, hml, hown, hts⟩ (k_known l dC dI dA ad _ τ pv _ _ hI mm fa sa aa ia sf mb mr mk mr hW n) (cwV 1 hts gX4_set_X4_known rfl rfl rfl (by decide +kernel) ⟨Nat.le_of_ble_eq_true rfl, Nat.le_of_ble_eq_true rfl⟩) (kd_preV hP hD hK hS hA hE hI hW.tm rfl rfl) rfl rfl hl.1 rfl (lv_room (Nat.le_of_ble_eq_true rfl)) dX4_set_92 ⟨Nat.le_of_ble_eq_true rfl, Nat.le_of_ble_eq_true rfl⟩) hD hS hA (fun r_89 u_88 H locs hw hP hD hS => ?_)
        obtain ⟨⟨rfl, ⟨j_90, hj_90, rfl⟩⟩ | ⟨rfl, h_91⟩, hI⟩ := hw
        · refine lv_iload hx hb dX4_set_95 (lv_at hl 0 rfl) ?_
          refine lv_iconst (v := 1) hx hb dX4_set_97 (by decide) ?_
          refine kd_calli (va_runV (As := [.int 1, .int 0, .int 1]) (rest := []) ⟨hx, hb, hml, hown, hts⟩ (k_goes3 l dC dI dA ad _ τ pv _ _ hI mm fa sa aa ia sf mb mr mk mr hW 1) (cwV 3 hts gX4_set_X4_goes rfl rfl rfl (by decide +kernel) ⟨Nat.le_of_ble_eq_true rfl, Nat.le_of_ble_eq_true rfl⟩) (kd_preV hP hD hK hS hA hE hI hW.tm rfl rfl) rfl rfl hl.1 rfl (lv_room (Nat.le_of_ble_eq_true rfl)) dX4_set_98 ⟨Nat.le_of_ble_eq_true rfl, Nat.le_of_ble_eq_true rfl⟩) hD hS hA (fun r_93 u_92 H locs hw hP hD hS => ?_)
          obtain ⟨rfl, hI⟩ := hw
          have hF := hF.trans (kFr.up (P := kPx) (w := .int 2) (k := 0) hW.tm rfl)
          have hW := hW.frw (kFr.up (P := kPy mr) (w := .int 2) (k := 0) hW.tm rfl)
          refine lv_if_eq (tgt := 177) hx hb dX4_set_101 (by decide) (fun _ => ?_) (fun h9 => by first | exact absurd h9 (by decide) | exact absurd (by decide) h9)
          refine W.widen (k := 0) (n := 0) (Nat.le_of_ble_eq_true rfl) (Nat.le_of_ble_eq_true rfl) ?_
          exact W.vret hx hb hr (fun t ht hW9 => ⟨⟨(u_92.1, u_92.2), rfl, ⟨_, _, hF, hW, (Eq.trans kup_self (congrArg Value.int (Eq.symm (by simp only [kc_set, kz_any, kf_neg1024, k_5, k_11, k_17, (kKn_t hj_90 (by omega)), decide_true, decide_false, Bool.not_true, Bool.not_false, Bool.and_true, Bool.true_and, Bool.and_false, Bool.false_and, Bool.and_self, Bool.false_eq_true, if_true, if_false, ite_true, ite_false, reduceIte] <;> decide)))), hI⟩, by rw [ht]; exact hP, va_K.moved hW9.alike hK, hD⟩, hS.F ht⟩) hS.2.2 dX4_set_177
        · refine lv_iload hx hb dX4_set_95 (lv_at hl 0 rfl) ?_
          refine lv_iconst (v := 1) hx hb dX4_set_97 (by decide) ?_
          refine kd_calli (va_runV (As := [.int 0, .int 0, .int 1]) (rest := []) ⟨hx, hb, hml, hown, hts⟩ (k_goes2 l dC dI dA ad _ τ pv _ _ hI mm fa sa aa ia sf mb mr mk mr hW 0 1) (cwV 3 hts gX4_set_X4_goes rfl rfl rfl (by decide +kernel) ⟨Nat.le_of_ble_eq_true rfl, Nat.le_of_ble_eq_true rfl⟩) (kd_preV hP hD hK hS hA hE hI hW.tm rfl rfl) rfl rfl hl.1 rfl (lv_room (Nat.le_of_ble_eq_true rfl)) dX4_set_98 ⟨Nat.le_of_ble_eq_true rfl, Nat.le_of_ble_eq_true rfl⟩) hD hS hA (fun r_95 u_94 H locs hw hP hD hS => ?_)
          obtain ⟨rfl, hI⟩ := hw
          have hF := hF.trans (kFr.up (P := kPx) (w := .int 1) (k := 0) hW.tm rfl)
          have hW := hW.frw (kFr.up (P := kPy mr) (w := .int 1) (k := 0) hW.tm rfl)
          refine lv_if_eq (tgt := 177) hx hb dX4_set_101 (by decide) (fun _ => ?_) (fun h9 => by first | exact absurd h9 (by decide) | exact absurd (by decide) h9)
          refine W.widen (k := 0) (n := 0) (Nat.le_of_ble_eq_true rfl) (Nat.le_of_ble_eq_true rfl) ?_
          exact W.vret hx hb hr (fun t ht hW9 => ⟨⟨(u_94.1, u_94.2), rfl, ⟨_, _, hF, hW, (Eq.trans kup_self (congrArg Value.int (Eq.symm (by simp only [kc_set, kz_any, kf_neg1024, k_5, k_11, k_17, (kKn_f h_91), decide_true, decide_false, Bool.not_true, Bool.not_false, Bool.and_true, Bool.true_and, Bool.and_false, Bool.false_and, Bool.and_self, Bool.false_eq_true, if_true, if_false, ite_true, ite_false, reduceIte] <;> decide)))), hI⟩, by rw [ht]; exact hP, va_K.moved hW9.alike hK, hD⟩, hS.F ht⟩) hS.2.2 dX4_set_177
    · refine lv_if_eq (tgt := 38) hx hb dX4_set_19 (by decide) (fun _ => ?_) (fun h9 => by first | exact absurd h9 (by decide) | exact absurd (by decide) h9)
      refine lv_iconst (v := 0) hx hb dX4_set_38 (by decide) ?_
      refine lv_istore (lv' := [(8, .int 0), (0, .ref mm), (1, .int n), (2, .float a), (3, .float b), (4, .float c9), (5, .float d9), (6, .float e9), (7, .float f9)]) hx hb dX4_set_39 hl (by decide) rfl (fun ls hl => ?_)
      refine lv_iload hx hb dX4_set_41 (lv_at hl 0 rfl) ?_
      refine lv_if_eq (tgt := 86) hx hb dX4_set_43 (by decide) (fun _ => ?_) (fun h9 => by first | exact absurd h9 (by decide) | exact absurd (by decide) h9)
      refine lv_iconst (v := 0) hx hb dX4_set_86 (by decide) ?_
      refine lv_istore (lv' := [(8, .int 0), (0, .ref mm), (1, .int n), (2, .float a), (3, .float b), (4, .float c9), (5, .float d9), (6, .float e9), (7, .float f9)]) hx hb dX4_set_87 hl (by decide) rfl (fun ls hl => ?_)
      refine lv_aload_n hx hb dX4_set_89 rfl (lv_at hl 1 rfl) ?_
      refine lv_aload_n hx hb dX4_set_90 rfl (lv_at hl 1 rfl) ?_
      refine lv_iload_n hx hb dX4_set_91 rfl (lv_at hl 2 rfl) ?_
      refine kd_calli (va_runV (As := [.int n]) (rest := [.ref mm]) ⟨hx, hb, hml, hown, hts⟩ (k_known l dC dI dA ad _ τ pv _ _ hI mm fa sa aa ia sf mb mr mk mr hW n) (cwV 1 hts gX4_set_X4_known rfl rfl rfl (by decide +kernel) ⟨Nat.le_of_ble_eq_true rfl, Nat.le_of_ble_eq_true rfl⟩) (kd_preV hP hD hK hS hA hE hI hW.tm rfl rfl) rfl rfl hl.1 rfl (lv_room (Nat.le_of_ble_eq_true rfl)) dX4_set_92 ⟨Nat.le_of_ble_eq_true rfl, Nat.le_of_ble_eq_true rfl⟩) hD hS hA (fun r_97 u_96 H locs hw hP hD hS => ?_)
      obtain ⟨⟨rfl, ⟨j_98, hj_98, rfl⟩⟩ | ⟨rfl, h_99⟩, hI⟩ := hw
      · refine lv_iload hx hb dX4_set_95 (lv_at hl 0 rfl) ?_
        refine lv_iconst (v := 1) hx hb dX4_set_97 (by decide) ?_
        refine kd_calli (va_runV (As := [.int 1, .int 0, .int 1]) (rest := []) ⟨hx, hb, hml, hown, hts⟩ (k_goes3 l dC dI dA ad _ τ pv _ _ hI mm fa sa aa ia sf mb mr mk mr hW 1) (cwV 3 hts gX4_set_X4_goes rfl rfl rfl (by decide +kernel) ⟨Nat.le_of_ble_eq_true rfl, Nat.le_of_ble_eq_true rfl⟩) (kd_preV hP hD hK hS hA hE hI hW.tm rfl rfl) rfl rfl hl.1 rfl (lv_room (Nat.le_of_ble_eq_true rfl)) dX4_set_98 ⟨Nat.le_of_ble_eq_true rfl, Nat.le_of_ble_eq_true rfl⟩) hD hS hA (fun r_101 u_100 H locs hw hP hD hS => ?_)
        obtain ⟨rfl, hI⟩ := hw
        have hF := hF.trans (kFr.up (P := kPx) (w := .int 2) (k := 0) hW.tm rfl)
        have hW := hW.frw (kFr.up (P := kPy mr) (w := .int 2) (k := 0) hW.tm rfl)
        refine lv_if_eq (tgt := 177) hx hb dX4_set_101 (by decide) (fun _ => ?_) (fun h9 => by first | exact absurd h9 (by decide) | exact absurd (by decide) h9)
        refine W.widen (k := 0) (n := 0) (Nat.le_of_ble_eq_true rfl) (Nat.le_of_ble_eq_true rfl) ?_
        exact W.vret hx hb hr (fun t ht hW9 => ⟨⟨(u_100.1, u_100.2), rfl, ⟨_, _, hF, hW, (Eq.trans kup_self (congrArg Value.int (Eq.symm (by simp only [kc_set, kz_any, kf_neg1024, k_5, k_11, (kKn_t hj_98 (by omega)), decide_true, decide_false, Bool.not_true, Bool.not_false, Bool.and_true, Bool.true_and, Bool.and_false, Bool.false_and, Bool.and_self, Bool.false_eq_true, if_true, if_false, ite_true, ite_false, reduceIte] <;> decide)))), hI⟩, by rw [ht]; exact hP, va_K.moved hW9.alike hK, hD⟩, hS.F ht⟩) hS.2.2 dX4_set_177
      · refine lv_iload hx hb dX4_set_95 (lv_at hl 0 rfl) ?_
        refine lv_iconst (v := 1) hx hb dX4_set_97 (by decide) ?_
        refine kd_calli (va_runV (As := [.int 0, .int 0, .int 1]) (rest := []) ⟨hx, hb, hml, hown, hts⟩ (k_goes2 l dC dI dA ad _ τ pv _ _ hI mm fa sa aa ia sf mb mr mk mr hW 0 1) (cwV 3 hts gX4_set_X4_goes rfl rfl rfl (by decide +kernel) ⟨Nat.le_of_ble_eq_true rfl, Nat.le_of_ble_eq_true rfl⟩) (kd_preV hP hD hK hS hA hE hI hW.tm rfl rfl) rfl rfl hl.1 rfl (lv_room (Nat.le_of_ble_eq_true rfl)) dX4_set_98 ⟨Nat.le_of_ble_eq_true rfl, Nat.le_of_ble_eq_true rfl⟩) hD hS hA (fun r_103 u_102 H locs hw hP hD hS => ?_)
        obtain ⟨rfl, hI⟩ := hw
        have hF := hF.trans (kFr.up (P := kPx) (w := .int 1) (k := 0) hW.tm rfl)
        have hW := hW.frw (kFr.up (P := kPy mr) (w := .int 1) (k := 0) hW.tm rfl)
        refine lv_if_eq (tgt := 177) hx hb dX4_set_101 (by decide) (fun _ => ?_) (fun h9 => by first | exact absurd h9 (by decide) | exact absurd (by decide) h9)
        refine W.widen (k := 0) (n := 0) (Nat.le_of_ble_eq_true rfl) (Nat.le_of_ble_eq_true rfl) ?_
        exact W.vret hx hb hr (fun t ht hW9 => ⟨⟨(u_102.1, u_102.2), rfl, ⟨_, _, hF, hW, (Eq.trans kup_self (congrArg Value.int (Eq.symm (by simp only [kc_set, kz_any, kf_neg1024, k_5, k_11, (kKn_f h_99), decide_true, decide_false, Bool.not_true, Bool.not_false, Bool.and_true, Bool.true_and, Bool.and_false, Bool.false_and, Bool.and_self, Bool.false_eq_true, if_true, if_false, ite_true, ite_false, reduceIte] <;> decide)))), hI⟩, by rw [ht]; exact hP, va_K.moved hW9.alike hK, hD⟩, hS.F ht⟩) hS.2.2 dX4_set_177
  · refine lv_if_eq (tgt := 38) hx hb dX4_set_8 (by decide) (fun _ => ?_) (fun h9 => by first | exact absurd h9 (by decide) | exact absurd (by decide) h9)
    refine lv_iconst (v := 0) hx hb dX4_set_38 (by decide) ?_
    refine lv_istore (lv' := [(8, .int 0), (0, .ref mm), (1, .int n), (2, .float a), (3, .float b), (4, .float c9), (5, .float d9), (6, .float e9), (7, .float f9)]) hx hb dX4_set_39 hl (by decide) rfl (fun ls hl => ?_)
    refine lv_iload hx hb dX4_set_41 (lv_at hl 0 rfl) ?_
    refine lv_if_eq (tgt := 86) hx hb dX4_set_43 (by decide) (fun _ => ?_) (fun h9 => by first | exact absurd h9 (by decide) | exact absurd (by decide) h9)
    refine lv_iconst (v := 0) hx hb dX4_set_86 (by decide) ?_
    refine lv_istore (lv' := [(8, .int 0), (0, .ref mm), (1, .int n), (2, .float a), (3, .float b), (4, .float c9), (5, .float d9), (6, .float e9), (7, .float f9)]) hx hb dX4_set_87 hl (by decide) rfl (fun ls hl => ?_)
    refine lv_aload_n hx hb dX4_set_89 rfl (lv_at hl 1 rfl) ?_
    refine lv_aload_n hx hb dX4_set_90 rfl (lv_at hl 1 rfl) ?_
    refine lv_iload_n hx hb dX4_set_91 rfl (lv_at hl 2 rfl) ?_
    refine kd_calli (va_runV (As := [.int n]) (rest := [.ref mm]) ⟨hx, hb, hml, hown, hts⟩ (k_known l dC dI dA ad _ τ pv _ _ hI mm fa sa aa ia sf mb mr mk mr hW n) (cwV 1 hts gX4_set_X4_known rfl rfl rfl (by decide +kernel) ⟨Nat.le_of_ble_eq_true rfl, Nat.le_of_ble_eq_true rfl⟩) (kd_preV hP hD hK hS hA hE hI hW.tm rfl rfl) rfl rfl hl.1 rfl (lv_room (Nat.le_of_ble_eq_true rfl)) dX4_set_92 ⟨Nat.le_of_ble_eq_true rfl, Nat.le_of_ble_eq_true rfl⟩) hD hS hA (fun r_105 u_104 H locs hw hP hD hS => ?_)
    obtain ⟨⟨rfl, ⟨j_106, hj_106, rfl⟩⟩ | ⟨rfl, h_107⟩, hI⟩ := hw
    · refine lv_iload hx hb dX4_set_95 (lv_at hl 0 rfl) ?_
      refine lv_iconst (v := 1) hx hb dX4_set_97 (by decide) ?_
      refine kd_calli (va_runV (As := [.int 1, .int 0, .int 1]) (rest := []) ⟨hx, hb, hml, hown, hts⟩ (k_goes3 l dC dI dA ad _ τ pv _ _ hI mm fa sa aa ia sf mb mr mk mr hW 1) (cwV 3 hts gX4_set_X4_goes rfl rfl rfl (by decide +kernel) ⟨Nat.le_of_ble_eq_true rfl, Nat.le_of_ble_eq_true rfl⟩) (kd_preV hP hD hK hS hA hE hI hW.tm rfl rfl) rfl rfl hl.1 rfl (lv_room (Nat.le_of_ble_eq_true rfl)) dX4_set_98 ⟨Nat.le_of_ble_eq_true rfl, Nat.le_of_ble_eq_true rfl⟩) hD hS hA (fun r_109 u_108 H locs hw hP hD hS => ?_)
      obtain ⟨rfl, hI⟩ := hw
      have hF := hF.trans (kFr.up (P := kPx) (w := .int 2) (k := 0) hW.tm rfl)
      have hW := hW.frw (kFr.up (P := kPy mr) (w := .int 2) (k := 0) hW.tm rfl)
      refine lv_if_eq (tgt := 177) hx hb dX4_set_101 (by decide) (fun _ => ?_) (fun h9 => by first | exact absurd h9 (by decide) | exact absurd (by decide) h9)
      refine W.widen (k := 0) (n := 0) (Nat.le_of_ble_eq_true rfl) (Nat.le_of_ble_eq_true rfl) ?_
      exact W.vret hx hb hr (fun t ht hW9 => ⟨⟨(u_108.1, u_108.2), rfl, ⟨_, _, hF, hW, (Eq.trans kup_self (congrArg Value.int (Eq.symm (by simp only [kc_set, kz_any, kf_neg1024, k_5, (kKn_t hj_106 (by omega)), decide_true, decide_false, Bool.not_true, Bool.not_false, Bool.and_true, Bool.true_and, Bool.and_false, Bool.false_and, Bool.and_self, Bool.false_eq_true, if_true, if_false, ite_true, ite_false, reduceIte] <;> decide)))), hI⟩, by rw [ht]; exact hP, va_K.moved hW9.alike hK, hD⟩, hS.F ht⟩) hS.2.2 dX4_set_177
    · refine lv_iload hx hb dX4_set_95 (lv_at hl 0 rfl) ?_
      refine lv_iconst (v := 1) hx hb dX4_set_97 (by decide) ?_
      refine kd_calli (va_runV (As := [.int 0, .int 0, .int 1]) (rest := []) ⟨hx, hb, hml, hown, hts⟩ (k_goes2 l dC dI dA ad _ τ pv _ _ hI mm fa sa aa ia sf mb mr mk mr hW 0 1) (cwV 3 hts gX4_set_X4_goes rfl rfl rfl (by decide +kernel) ⟨Nat.le_of_ble_eq_true rfl, Nat.le_of_ble_eq_true rfl⟩) (kd_preV hP hD hK hS hA hE hI hW.tm rfl rfl) rfl rfl hl.1 rfl (lv_room (Nat.le_of_ble_eq_true rfl)) dX4_set_98 ⟨Nat.le_of_ble_eq_true rfl, Nat.le_of_ble_eq_true rfl⟩) hD hS hA (fun r_111 u_110 H locs hw hP hD hS => ?_)
      obtain ⟨rfl, hI⟩ := hw
      have hF := hF.trans (kFr.up (P := kPx) (w := .int 1) (k := 0) hW.tm rfl)
      have hW := hW.frw (kFr.up (P := kPy mr) (w := .int 1) (k := 0) hW.tm rfl)
      refine lv_if_eq (tgt := 177) hx hb dX4_set_101 (by decide) (fun _ => ?_) (fun h9 => by first | exact absurd h9 (by decide) | exact absurd (by decide) h9)
      refine W.widen (k := 0) (n := 0) (Nat.le_of_ble_eq_true rfl) (Nat.le_of_ble_eq_true rfl) ?_
      exact W.vret hx hb hr (fun t ht hW9 => ⟨⟨(u_110.1, u_110.2), rfl, ⟨_, _, hF, hW, (Eq.trans kup_self (congrArg Value.int (Eq.symm (by simp only [kc_set, kz_any, kf_neg1024, k_5, (kKn_f h_107), decide_true, decide_false, Bool.not_true, Bool.not_false, Bool.and_true, Bool.true_and, Bool.and_false, Bool.false_and, Bool.and_self, Bool.false_eq_true, if_true, if_false, ite_true, ite_false, reduceIte] <;> decide)))), hI⟩, by rw [ht]; exact hP, va_K.moved hW9.alike hK, hD⟩, hS.F ht⟩) hS.2.2 dX4_set_177
set_option maxHeartbeats 4000000 in
set_option maxRecDepth 100000 in
theorem m_p_gain (l : Launch) (dC : Nat → ClassId) (dI : Nat → Nat → Nat) (dA : Nat → ClassId) (ad sz : Nat) (τ : Nat → Nat → Nat) (pv : Nat → Nat → Value) (L : List Nat) (f : Nat → va_E) (hI : kI dA τ pv L f) (mm fa sa aa ia sf mb mr mk : Nat) (hW : kMd τ pv mm fa sa aa ia sf mb mr mk mr) (n k : Int32) (a : UInt32) (b : UInt32) (c9 : UInt32) : Met l yX4_gain wsX4_gain ({ frames := 1, cells := 0, slots := 0, locals := 23 } : Room) (va_Pc [.ref mm, .int n, .int k, .float a, .float b, .float c9] (kB dC dI dA ad sz L f)) (va_Qi (fun r u => kPostM dA τ pv mm fa sa aa ia sf mb mr u) (kR dC dI dA (va_A (va_pl L f) sz)) (va_A (va_pl L f) sz)) 0 0 (va_A (va_pl L f) sz) := by
  refine Met.ofW (cc := cX4_gain) (maxL := 8) (ret := (some .int)) (by decide) rfl ?_
  intro p e s m args below meth c s₁ B hml hv
  obtain ⟨rfl, hsz, hP, hK, hD0, hE⟩ := hv
  have hx := B.exec
  have hb := B.bytes
  have hr := B.returns
  have hts := atoms_spec (ws := wsX4_gain) B.pre
  have hown : s.vm.findClass RX4 = some m.cls := findClass_of_methodNamed B.named
  have hlocks := B.notSynchronized
  have i_X4 : ∀ w ∈ u_ws RX4 TX4 35, w ∈ wsX4_gain := by decide +kernel
  subst hsz
  have hD := hD0.self (sz := s.heap.size)
  generalize hAe : va_A (va_pl L f) s.heap.size = A at hD hE ⊢
  have hA : ∀ q : Nat, s.heap.size ≤ q → A q := fun q h => by rw [← hAe]; exact Or.inr h
  have hS : va_S A s.heap s.heap [] := va_S.rf
  have hP : va_P (dC, dI) vwCl (va_pl L f) s.heap := hP
  have hK : va_K (dC, dI) vwCl (tyA dA) s := hK
  have hl := lv_entry ([.ref mm, .int n, .int k, .float a, .float b, .float c9]) (n := 8) (Nat.le_of_ble_eq_true rfl)
  rw [lg_entry_eq]
  generalize (lg_sl ([.ref mm, .int n, .int k, .float a, .float b, .float c9]) ++ List.replicate (8 - (lg_sl ([.ref mm, .int n, .int k, .float a, .float b, .float c9])).length) Slot.unset).toArray = ls at hl ⊢
  have hl : lv_has ls 8 [(0, .ref mm), (1, .int n), (2, .int k), (3, .float a), (4, .float b), (5, .float c9)] := hl
  have hnb := hW.lb
  have hnr := hW.lr
  have hnk := hW.lk
  have hni := hW.li
  have hF : kFr kPx τ pv τ pv := kFr.rf
  refine lv_aload_n hx hb dX4_gain_0 rfl (lv_at hl 0 rfl) ?_
  refine lv_aload_n hx hb dX4_gain_1 rfl (lv_at hl 0 rfl) ?_
  refine lv_iload_n hx hb dX4_gain_2 rfl (lv_at hl 1 rfl) ?_
  refine kd_calli (va_runV (As := [.int n]) (rest := [.ref mm]) ⟨hx, hb, hml, hown, hts⟩ (k_known l dC dI dA ad _ τ pv _ _ hI mm fa sa aa ia sf mb mr mk mr hW n) (cwV 1 hts gX4_gain_X4_known rfl rfl rfl (by decide +kernel) ⟨Nat.le_of_ble_eq_true rfl, Nat.le_of_ble_eq_true rfl⟩) (kd_preV hP hD hK hS hA hE hI hW.tm rfl rfl) rfl rfl hl.1 rfl (lv_room (Nat.le_of_ble_eq_true rfl)) dX4_gain_3 ⟨Nat.le_of_ble_eq_true rfl, Nat.le_of_ble_eq_true rfl⟩) hD hS hA (fun r_2 u_1 H locs hw hP hD hS => ?_)
  obtain ⟨⟨rfl, ⟨j_3, hj_3, rfl⟩⟩ | ⟨rfl, h_4⟩, hI⟩ := hw
  · refine lv_if_eq (tgt := 26) hx hb dX4_gain_6 (by decide) (fun h9 => by first | exact absurd h9 (by decide) | exact absurd (by decide) h9) (fun _ => ?_)
    refine lv_aload_n hx hb dX4_gain_9 rfl (lv_at hl 0 rfl) ?_
    refine lv_iload_n hx hb dX4_gain_10 rfl (lv_at hl 2 rfl) ?_
    refine kd_calli (va_runV (As := [.int k]) (rest := [.ref mm]) ⟨hx, hb, hml, hown, hts⟩ (k_known l dC dI dA ad _ τ pv _ _ hI mm fa sa aa ia sf mb mr mk mr hW k) (cwV 1 hts gX4_gain_X4_known rfl rfl rfl (by decide +kernel) ⟨Nat.le_of_ble_eq_true rfl, Nat.le_of_ble_eq_true rfl⟩) (kd_preV hP hD hK hS hA hE hI hW.tm rfl rfl) rfl rfl hl.1 rfl (lv_room (Nat.le_of_ble_eq_true rfl)) dX4_gain_11 ⟨Nat.le_of_ble_eq_true rfl, Nat.le_of_ble_eq_true rfl⟩) hD hS hA (fun r_6 u_5 H locs hw hP hD hS => ?_)
    obtain ⟨⟨rfl, ⟨j_7, hj_7, rfl⟩⟩ | ⟨rfl, h_8⟩, hI⟩ := hw
    · refine lv_if_eq (tgt := 26) hx hb dX4_gain_14 (by decide) (fun h9 => by first | exact absurd h9 (by decide) | exact absurd (by decide) h9) (fun _ => ?_)
      refine lv_iload_n hx hb dX4_gain_17 rfl (lv_at hl 1 rfl) ?_
      refine lv_iload_n hx hb dX4_gain_18 rfl (lv_at hl 2 rfl) ?_
      refine lv_icmp_gt (tgt := 26) hx hb dX4_gain_19 (by decide) (fun c_9 => ?_) (fun c_9 => ?_)
      · have n_10 : j_7 < j_3 := (nI_ltI (by omega) (by omega)).mp (show nI j_7 < nI j_3 from c_9)
        refine lv_iconst (v := 0) hx hb dX4_gain_26 (by decide) ?_
        refine lv_fload_n hx hb dX4_gain_27 rfl (lv_at hl 3 rfl) ?_
        refine lv_ldcf (v := 3263168512) hx hb hown (hts (.constantFloat RX4 117 (3263168512)) (by decide +kernel)) dX4_gain_28 ?_
        have hc_11 : fb 1115684864 3263168512 := by unfold fb; decide +kernel
        refine lv_ldcf (v := 1115684864) hx hb hown (hts (.constantFloat RX4 118 (1115684864)) (by decide +kernel)) dX4_gain_30 ?_
        have hc_12 : fb 1115684864 1115684864 := by unfold fb; decide +kernel
        refine kd_calli (va_runS (As := [.float a, .float 3263168512, .float 1115684864]) (rest := [.int 0, .ref mm]) ⟨hx, hb, hml, hown, hts⟩ (k_within l dC dI dA ad _ τ pv _ _ hI a 3263168512 1115684864) (va_cwS 3 hts gX4_gain_X4_within rfl rfl rfl (by decide +kernel) ⟨Nat.le_of_ble_eq_true rfl, Nat.le_of_ble_eq_true rfl⟩) (kd_preS hP hD hK hS hA hE) rfl rfl hl.1 rfl (lv_room (Nat.le_of_ble_eq_true rfl)) dX4_gain_32 ⟨Nat.le_of_ble_eq_true rfl, Nat.le_of_ble_eq_true rfl⟩) hD hS hA (fun r_14 u_13 H locs hw hP hD hS => ?_)
        obtain ⟨⟨k_15, rfl⟩ | ⟨k_15, rfl⟩, hI⟩ := hw
        · have fb_16 : fb 1115684864 a := fb_within hc_11 hc_12 (by decide) k_15
          refine lv_if_eq (tgt := 66) hx hb dX4_gain_35 (by decide) (fun h9 => by first | exact absurd h9 (by decide) | exact absurd (by decide) h9) (fun _ => ?_)
          refine lv_fload hx hb dX4_gain_38 (lv_at hl 4 rfl) ?_
          refine lv_ldcf (v := 3263168512) hx hb hown (hts (.constantFloat RX4 117 (3263168512)) (by decide +kernel)) dX4_gain_40 ?_
          have hc_17 : fb 1115684864 3263168512 := by unfold fb; decide +kernel
          refine lv_ldcf (v := 1115684864) hx hb hown (hts (.constantFloat RX4 118 (1115684864)) (by decide +kernel)) dX4_gain_42 ?_
          have hc_18 : fb 1115684864 1115684864 := by unfold fb; decide +kernel
          refine kd_calli (va_runS (As := [.float b, .float 3263168512, .float 1115684864]) (rest := [.int 0, .ref mm]) ⟨hx, hb, hml, hown, hts⟩ (k_within l dC dI dA ad _ τ pv _ _ hI b 3263168512 1115684864) (va_cwS 3 hts gX4_gain_X4_within rfl rfl rfl (by decide +kernel) ⟨Nat.le_of_ble_eq_true rfl, Nat.le_of_ble_eq_true rfl⟩) (kd_preS hP hD hK hS hA hE) rfl rfl hl.1 rfl (lv_room (Nat.le_of_ble_eq_true rfl)) dX4_gain_44 ⟨Nat.le_of_ble_eq_true rfl, Nat.le_of_ble_eq_true rfl⟩) hD hS hA (fun r_20 u_19 H locs hw hP hD hS => ?_)
          obtain ⟨⟨k_21, rfl⟩ | ⟨k_21, rfl⟩, hI⟩ := hw
          · have fb_22 : fb 1115684864 b := fb_within hc_17 hc_18 (by decide) k_21
            refine lv_if_eq (tgt := 66) hx hb dX4_gain_47 (by decide) (fun h9 => by first | exact absurd h9 (by decide) | exact absurd (by decide) h9) (fun _ => ?_)
            refine lv_fload hx hb dX4_gain_50 (lv_at hl 5 rfl) ?_
            refine lv_ldcf (v := 3263168512) hx hb hown (hts (.constantFloat RX4 117 (3263168512)) (by decide +kernel)) dX4_gain_52 ?_
            have hc_23 : fb 1115684864 3263168512 := by unfold fb; decide +kernel
            refine lv_ldcf (v := 1115684864) hx hb hown (hts (.constantFloat RX4 118 (1115684864)) (by decide +kernel)) dX4_gain_54 ?_
            have hc_24 : fb 1115684864 1115684864 := by unfold fb; decide +kernel
            refine kd_calli (va_runS (As := [.float c9, .float 3263168512, .float 1115684864]) (rest := [.int 0, .ref mm]) ⟨hx, hb, hml, hown, hts⟩ (k_within l dC dI dA ad _ τ pv _ _ hI c9 3263168512 1115684864) (va_cwS 3 hts gX4_gain_X4_within rfl rfl rfl (by decide +kernel) ⟨Nat.le_of_ble_eq_true rfl, Nat.le_of_ble_eq_true rfl⟩) (kd_preS hP hD hK hS hA hE) rfl rfl hl.1 rfl (lv_room (Nat.le_of_ble_eq_true rfl)) dX4_gain_56 ⟨Nat.le_of_ble_eq_true rfl, Nat.le_of_ble_eq_true rfl⟩) hD hS hA (fun r_26 u_25 H locs hw hP hD hS => ?_)
            obtain ⟨⟨k_27, rfl⟩ | ⟨k_27, rfl⟩, hI⟩ := hw
            · have fb_28 : fb 1115684864 c9 := fb_within hc_23 hc_24 (by decide) k_27
              refine lv_if_eq (tgt := 66) hx hb dX4_gain_59 (by decide) (fun h9 => by first | exact absurd h9 (by decide) | exact absurd (by decide) h9) (fun _ => ?_)
              refine lv_iconst (v := 1) hx hb dX4_gain_62 (by decide) ?_
              refine lv_goto (tgt := 67) hx hb dX4_gain_63 (by decide) ?_
              refine lv_iconst (v := 1) hx hb dX4_gain_67 (by decide) ?_
              refine kd_calli (va_runV (As := [.int 0, .int 1, .int 1]) (rest := []) ⟨hx, hb, hml, hown, hts⟩ (k_goes2 l dC dI dA ad _ τ pv _ _ hI mm fa sa aa ia sf mb mr mk mr hW 1 1) (cwV 3 hts gX4_gain_X4_goes rfl rfl rfl (by decide +kernel) ⟨Nat.le_of_ble_eq_true rfl, Nat.le_of_ble_eq_true rfl⟩) (kd_preV hP hD hK hS hA hE hI hW.tm rfl rfl) rfl rfl hl.1 rfl (lv_room (Nat.le_of_ble_eq_true rfl)) dX4_gain_68 ⟨Nat.le_of_ble_eq_true rfl, Nat.le_of_ble_eq_true rfl⟩) hD hS hA (fun r_30 u_29 H locs hw hP hD hS => ?_)
              obtain ⟨rfl, hI⟩ := hw
              have hF := hF.trans (kFr.up (P := kPx) (w := .int 1) (k := 0) hW.tm rfl)
              have hW := hW.frw (kFr.up (P := kPy mr) (w := .int 1) (k := 0) hW.tm rfl)
              refine lv_if_ne (tgt := 76) hx hb dX4_gain_71 (by decide) (fun h9 => by first | exact absurd h9 (by decide) | exact absurd (by decide) h9) (fun _ => ?_)
              refine lv_iconst (v := 0) hx hb dX4_gain_74 (by decide) ?_
              refine W.widen (k := 0) (n := 0) (Nat.le_of_ble_eq_true rfl) (Nat.le_of_ble_eq_true rfl) ?_
              exact W.iret (v := 0) hx hb hr (fun t ht hW9 => ⟨⟨0, (u_29.1, u_29.2), rfl, ⟨_, _, hF, hW, hI⟩, by rw [ht]; exact hP, va_K.moved hW9.alike hK, hD⟩, hS.F ht⟩) hS.2.2 dX4_gain_75
            · refine lv_if_eq (tgt := 66) hx hb dX4_gain_59 (by decide) (fun _ => ?_) (fun h9 => by first | exact absurd h9 (by decide) | exact absurd (by decide) h9)
              refine lv_iconst (v := 0) hx hb dX4_gain_66 (by decide) ?_
              refine lv_iconst (v := 1) hx hb dX4_gain_67 (by decide) ?_
              refine kd_calli (va_runV (As := [.int 0, .int 0, .int 1]) (rest := []) ⟨hx, hb, hml, hown, hts⟩ (k_goes2 l dC dI dA ad _ τ pv _ _ hI mm fa sa aa ia sf mb mr mk mr hW 0 1) (cwV 3 hts gX4_gain_X4_goes rfl rfl rfl (by decide +kernel) ⟨Nat.le_of_ble_eq_true rfl, Nat.le_of_ble_eq_true rfl⟩) (kd_preV hP hD hK hS hA hE hI hW.tm rfl rfl) rfl rfl hl.1 rfl (lv_room (Nat.le_of_ble_eq_true rfl)) dX4_gain_68 ⟨Nat.le_of_ble_eq_true rfl, Nat.le_of_ble_eq_true rfl⟩) hD hS hA (fun r_32 u_31 H locs hw hP hD hS => ?_)
              obtain ⟨rfl, hI⟩ := hw
              have hF := hF.trans (kFr.up (P := kPx) (w := .int 1) (k := 0) hW.tm rfl)
              have hW := hW.frw (kFr.up (P := kPy mr) (w := .int 1) (k := 0) hW.tm rfl)
              refine lv_if_ne (tgt := 76) hx hb dX4_gain_71 (by decide) (fun h9 => by first | exact absurd h9 (by decide) | exact absurd (by decide) h9) (fun _ => ?_)
              refine lv_iconst (v := 0) hx hb dX4_gain_74 (by decide) ?_
              refine W.widen (k := 0) (n := 0) (Nat.le_of_ble_eq_true rfl) (Nat.le_of_ble_eq_true rfl) ?_
              exact W.iret (v := 0) hx hb hr (fun t ht hW9 => ⟨⟨0, (u_31.1, u_31.2), rfl, ⟨_, _, hF, hW, hI⟩, by rw [ht]; exact hP, va_K.moved hW9.alike hK, hD⟩, hS.F ht⟩) hS.2.2 dX4_gain_75
          · refine lv_if_eq (tgt := 66) hx hb dX4_gain_47 (by decide) (fun _ => ?_) (fun h9 => by first | exact absurd h9 (by decide) | exact absurd (by decide) h9)
            refine lv_iconst (v := 0) hx hb dX4_gain_66 (by decide) ?_
            refine lv_iconst (v := 1) hx hb dX4_gain_67 (by decide) ?_
            refine kd_calli (va_runV (As := [.int 0, .int 0, .int 1]) (rest := []) ⟨hx, hb, hml, hown, hts⟩ (k_goes2 l dC dI dA ad _ τ pv _ _ hI mm fa sa aa ia sf mb mr mk mr hW 0 1) (cwV 3 hts gX4_gain_X4_goes rfl rfl rfl (by decide +kernel) ⟨Nat.le_of_ble_eq_true rfl, Nat.le_of_ble_eq_true rfl⟩) (kd_preV hP hD hK hS hA hE hI hW.tm rfl rfl) rfl rfl hl.1 rfl (lv_room (Nat.le_of_ble_eq_true rfl)) dX4_gain_68 ⟨Nat.le_of_ble_eq_true rfl, Nat.le_of_ble_eq_true rfl⟩) hD hS hA (fun r_34 u_33 H locs hw hP hD hS => ?_)
            obtain ⟨rfl, hI⟩ := hw
            have hF := hF.trans (kFr.up (P := kPx) (w := .int 1) (k := 0) hW.tm rfl)
            have hW := hW.frw (kFr.up (P := kPy mr) (w := .int 1) (k := 0) hW.tm rfl)
            refine lv_if_ne (tgt := 76) hx hb dX4_gain_71 (by decide) (fun h9 => by first | exact absurd h9 (by decide) | exact absurd (by decide) h9) (fun _ => ?_)
            refine lv_iconst (v := 0) hx hb dX4_gain_74 (by decide) ?_
            refine W.widen (k := 0) (n := 0) (Nat.le_of_ble_eq_true rfl) (Nat.le_of_ble_eq_true rfl) ?_
            exact W.iret (v := 0) hx hb hr (fun t ht hW9 => ⟨⟨0, (u_33.1, u_33.2), rfl, ⟨_, _, hF, hW, hI⟩, by rw [ht]; exact hP, va_K.moved hW9.alike hK, hD⟩, hS.F ht⟩) hS.2.2 dX4_gain_75
        · refine lv_if_eq (tgt := 66) hx hb dX4_gain_35 (by decide) (fun _ => ?_) (fun h9 => by first | exact absurd h9 (by decide) | exact absurd (by decide) h9)
          refine lv_iconst (v := 0) hx hb dX4_gain_66 (by decide) ?_
          refine lv_iconst (v := 1) hx hb dX4_gain_67 (by decide) ?_
          refine kd_calli (va_runV (As := [.int 0, .int 0, .int 1]) (rest := []) ⟨hx, hb, hml, hown, hts⟩ (k_goes2 l dC dI dA ad _ τ pv _ _ hI mm fa sa aa ia sf mb mr mk mr hW 0 1) (cwV 3 hts gX4_gain_X4_goes rfl rfl rfl (by decide +kernel) ⟨Nat.le_of_ble_eq_true rfl, Nat.le_of_ble_eq_true rfl⟩) (kd_preV hP hD hK hS hA hE hI hW.tm rfl rfl) rfl rfl hl.1 rfl (lv_room (Nat.le_of_ble_eq_true rfl)) dX4_gain_68 ⟨Nat.le_of_ble_eq_true rfl, Nat.le_of_ble_eq_true rfl⟩) hD hS hA (fun r_36 u_35 H locs hw hP hD hS => ?_)
          obtain ⟨rfl, hI⟩ := hw
          have hF := hF.trans (kFr.up (P := kPx) (w := .int 1) (k := 0) hW.tm rfl)
          have hW := hW.frw (kFr.up (P := kPy mr) (w := .int 1) (k := 0) hW.tm rfl)
          refine lv_if_ne (tgt := 76) hx hb dX4_gain_71 (by decide) (fun h9 => by first | exact absurd h9 (by decide) | exact absurd (by decide) h9) (fun _ => ?_)
          refine lv_iconst (v := 0) hx hb dX4_gain_74 (by decide) ?_
          refine W.widen (k := 0) (n := 0) (Nat.le_of_ble_eq_true rfl) (Nat.le_of_ble_eq_true rfl) ?_
          exact W.iret (v := 0) hx hb hr (fun t ht hW9 => ⟨⟨0, (u_35.1, u_35.2), rfl, ⟨_, _, hF, hW, hI⟩, by rw [ht]; exact hP, va_K.moved hW9.alike hK, hD⟩, hS.F ht⟩) hS.2.2 dX4_gain_75
      · have n_37 : ¬ j_7 < j_3 := fun h9 => (show ¬ nI j_7 < nI j_3 from c_9) ((nI_ltI (by omega) (by omega)).mpr h9)
        refine lv_iconst (v := 1) hx hb dX4_gain_22 (by decide) ?_
        refine lv_goto (tgt := 27) hx hb dX4_gain_23 (by decide) ?_
        refine lv_fload_n hx hb dX4_gain_27 rfl (lv_at hl 3 rfl) ?_
        refine lv_ldcf (v := 3263168512) hx hb hown (hts (.constantFloat RX4 117 (3263168512)) (by decide +kernel)) dX4_gain_28 ?_
        have hc_38 : fb 1115684864 3263168512 := by unfold fb; decide +kernel
        refine lv_ldcf (v := 1115684864) hx hb hown (hts (.constantFloat RX4 118 (1115684864)) (by decide +kernel)) dX4_gain_30 ?_
        have hc_39 : fb 1115684864 1115684864 := by unfold fb; decide +kernel
        refine kd_calli (va_runS (As := [.float a, .float 3263168512, .float 1115684864]) (rest := [.int 1, .ref mm]) ⟨hx, hb, hml, hown, hts⟩ (k_within l dC dI dA ad _ τ pv _ _ hI a 3263168512 1115684864) (va_cwS 3 hts gX4_gain_X4_within rfl rfl rfl (by decide +kernel) ⟨Nat.le_of_ble_eq_true rfl, Nat.le_of_ble_eq_true rfl⟩) (kd_preS hP hD hK hS hA hE) rfl rfl hl.1 rfl (lv_room (Nat.le_of_ble_eq_true rfl)) dX4_gain_32 ⟨Nat.le_of_ble_eq_true rfl, Nat.le_of_ble_eq_true rfl⟩) hD hS hA (fun r_41 u_40 H locs hw hP hD hS => ?_)
        obtain ⟨⟨k_42, rfl⟩ | ⟨k_42, rfl⟩, hI⟩ := hw
        · have fb_43 : fb 1115684864 a := fb_within hc_38 hc_39 (by decide) k_42
          refine lv_if_eq (tgt := 66) hx hb dX4_gain_35 (by decide) (fun h9 => by first | exact absurd h9 (by decide) | exact absurd (by decide) h9) (fun _ => ?_)
          refine lv_fload hx hb dX4_gain_38 (lv_at hl 4 rfl) ?_
          refine lv_ldcf (v := 3263168512) hx hb hown (hts (.constantFloat RX4 117 (3263168512)) (by decide +kernel)) dX4_gain_40 ?_
          have hc_44 : fb 1115684864 3263168512 := by unfold fb; decide +kernel
          refine lv_ldcf (v := 1115684864) hx hb hown (hts (.constantFloat RX4 118 (1115684864)) (by decide +kernel)) dX4_gain_42 ?_
          have hc_45 : fb 1115684864 1115684864 := by unfold fb; decide +kernel
          refine kd_calli (va_runS (As := [.float b, .float 3263168512, .float 1115684864]) (rest := [.int 1, .ref mm]) ⟨hx, hb, hml, hown, hts⟩ (k_within l dC dI dA ad _ τ pv _ _ hI b 3263168512 1115684864) (va_cwS 3 hts gX4_gain_X4_within rfl rfl rfl (by decide +kernel) ⟨Nat.le_of_ble_eq_true rfl, Nat.le_of_ble_eq_true rfl⟩) (kd_preS hP hD hK hS hA hE) rfl rfl hl.1 rfl (lv_room (Nat.le_of_ble_eq_true rfl)) dX4_gain_44 ⟨Nat.le_of_ble_eq_true rfl, Nat.le_of_ble_eq_true rfl⟩) hD hS hA (fun r_47 u_46 H locs hw hP hD hS => ?_)
          obtain ⟨⟨k_48, rfl⟩ | ⟨k_48, rfl⟩, hI⟩ := hw
          · have fb_49 : fb 1115684864 b := fb_within hc_44 hc_45 (by decide) k_48
            refine lv_if_eq (tgt := 66) hx hb dX4_gain_47 (by decide) (fun h9 => by first | exact absurd h9 (by decide) | exact absurd (by decide) h9) (fun _ => ?_)
            refine lv_fload hx hb dX4_gain_50 (lv_at hl 5 rfl) ?_
            refine lv_ldcf (v := 3263168512) hx hb hown (hts (.constantFloat RX4 117 (3263168512)) (by decide +kernel)) dX4_gain_52 ?_
            have hc_50 : fb 1115684864 3263168512 := by unfold fb; decide +kernel
            refine lv_ldcf (v := 1115684864) hx hb hown (hts (.constantFloat RX4 118 (1115684864)) (by decide +kernel)) dX4_gain_54 ?_
            have hc_51 : fb 1115684864 1115684864 := by unfold fb; decide +kernel
            refine kd_calli (va_runS (As := [.float c9, .float 3263168512, .float 1115684864]) (rest := [.int 1, .ref mm]) ⟨hx, hb, hml, hown, hts⟩ (k_within l dC dI dA ad _ τ pv _ _ hI c9 3263168512 1115684864) (va_cwS 3 hts gX4_gain_X4_within rfl rfl rfl (by decide +kernel) ⟨Nat.le_of_ble_eq_true rfl, Nat.le_of_ble_eq_true rfl⟩) (kd_preS hP hD hK hS hA hE) rfl rfl hl.1 rfl (lv_room (Nat.le_of_ble_eq_true rfl)) dX4_gain_56 ⟨Nat.le_of_ble_eq_true rfl, Nat.le_of_ble_eq_true rfl⟩) hD hS hA (fun r_53 u_52 H locs hw hP hD hS => ?_)
            obtain ⟨⟨k_54, rfl⟩ | ⟨k_54, rfl⟩, hI⟩ := hw
            · have fb_55 : fb 1115684864 c9 := fb_within hc_50 hc_51 (by decide) k_54
              refine lv_if_eq (tgt := 66) hx hb dX4_gain_59 (by decide) (fun h9 => by first | exact absurd h9 (by decide) | exact absurd (by decide) h9) (fun _ => ?_)
              refine lv_iconst (v := 1) hx hb dX4_gain_62 (by decide) ?_
              refine lv_goto (tgt := 67) hx hb dX4_gain_63 (by decide) ?_
              refine lv_iconst (v := 1) hx hb dX4_gain_67 (by decide) ?_
              refine kd_calli (va_runV (As := [.int 1, .int 1, .int 1]) (rest := []) ⟨hx, hb, hml, hown, hts⟩ (k_goes1 l dC dI dA ad _ τ pv _ _ hI mm fa sa aa ia sf mb mr mk mr hW ) (cwV 3 hts gX4_gain_X4_goes rfl rfl rfl (by decide +kernel) ⟨Nat.le_of_ble_eq_true rfl, Nat.le_of_ble_eq_true rfl⟩) (kd_preV hP hD hK hS hA hE hI hW.tm rfl rfl) rfl rfl hl.1 rfl (lv_room (Nat.le_of_ble_eq_true rfl)) dX4_gain_68 ⟨Nat.le_of_ble_eq_true rfl, Nat.le_of_ble_eq_true rfl⟩) hD hS hA (fun r_57 u_56 H locs hw hP hD hS => ?_)
              obtain ⟨rfl, hI⟩ := hw
              have hF := hF.trans (kFr.up (P := kPx) (w := .int 0) (k := 0) hW.tm rfl)
              have hW := hW.frw (kFr.up (P := kPy mr) (w := .int 0) (k := 0) hW.tm rfl)
              refine lv_if_ne (tgt := 76) hx hb dX4_gain_71 (by decide) (fun _ => ?_) (fun h9 => by first | exact absurd h9 (by decide) | exact absurd (by decide) h9)
              refine lv_iconst (v := 0) hx hb dX4_gain_76 (by decide) ?_
              refine lv_istore (lv' := [(6, .int 0), (0, .ref mm), (1, .int (nI j_3)), (2, .int (nI j_7)), (3, .float a), (4, .float b), (5, .float c9)]) hx hb dX4_gain_77 hl (by decide) rfl (fun ls hl => ?_)
              refine lv_iload_n hx hb dX4_gain_79 rfl (lv_at hl 2 rfl) ?_
              refine lv_istore (lv' := [(7, .int (nI j_3)), (6, .int 0), (0, .ref mm), (1, .int (nI j_3)), (2, .int (nI j_7)), (3, .float a), (4, .float b), (5, .float c9)]) hx hb dX4_gain_80 hl (by decide) rfl (fun ls hl => ?_)
              have hl : lv_has ls 8 [(0, .ref mm), (1, .int (nI j_3)), (2, .int (nI j_7)), (3, .float a), (4, .float b), (5, .float c9), (6, .int 0), (7, .int (nI j_3))] := lv_sub hl [2, 3, 4, 5, 6, 7, 1, 0] rfl
              refine kl_loop (Inv := fun n82 _ L f H locs ls => ∃ (i : Nat) (c8 : Int32), mb - i < n82 ∧ kI dA τ (kup pv mm 0 (.int 0)) L f ∧ va_P (dC, dI) vwCl (va_pl L f) H ∧ va_D A (va_pl L f) ∧ va_S A s.heap H locs ∧ lv_has ls 8 [(0, .ref mm), (1, .int (nI j_3)), (2, .int (nI j_7)), (3, .float a), (4, .float b), (5, .float c9), (6, .int c8), (7, .int (nI i))] ∧ i ≤ mb) (fun _ _ _ _ _ _ h9 => by obtain ⟨_, _, hn, _⟩ := h9; exact Nat.not_lt_zero _ hn) (fun n82 ih82 _ L f H locs ls h9 => ?_) (mb - j_3 + 1) (fun _ _ => .null) _ _ _ _ _ ⟨j_3, 0, Nat.lt_succ_self _, hI, hP, hD, hS, hl, by omega⟩
              obtain ⟨i, c8, hn82, hI, hP, hD, hS, hl, hib⟩ := h9
              refine lv_iload hx hb dX4_gain_82 (lv_at hl 7 rfl) ?_
              refine lv_iload_n hx hb dX4_gain_84 rfl (lv_at hl 2 rfl) ?_
              refine lv_icmp_gt (tgt := 188) hx hb dX4_gain_85 (by decide) (fun c_58 => ?_) (fun c_58 => ?_)
              · have n_59 : j_7 < i := (nI_ltI (by omega) (by omega)).mp (show nI j_7 < nI i from c_58)
                refine lv_iload hx hb dX4_gain_188 (lv_at hl 6 rfl) ?_
                refine W.widen (k := 0) (n := 0) (Nat.le_of_ble_eq_true rfl) (Nat.le_of_ble_eq_true rfl) ?_
                exact W.iret (v := c8) hx hb hr (fun t ht hW9 => ⟨⟨c8, (L, f), rfl, ⟨_, _, hF, hW, hI⟩, by rw [ht]; exact hP, va_K.moved hW9.alike hK, hD⟩, hS.F ht⟩) hS.2.2 dX4_gain_190
              · have n_60 : ¬ j_7 < i := fun h9 => (show ¬ nI j_7 < nI i from c_58) ((nI_ltI (by omega) (by omega)).mpr h9)
                refine lv_aload_n hx hb dX4_gain_88 rfl (lv_at hl 0 rfl) ?_
                refine lv_iload hx hb dX4_gain_89 (lv_at hl 7 rfl) ?_
                refine kd_calli (va_runV (As := [.int (nI i)]) (rest := []) ⟨hx, hb, hml, hown, hts⟩ (k_movN l dC dI dA ad _ τ (kup pv mm 0 (.int 0)) _ _ hI mm fa sa aa ia sf mb mr mk mr hW i (by omega)) (cwV 1 hts gX4_gain_X4_movable rfl rfl rfl (by decide +kernel) ⟨Nat.le_of_ble_eq_true rfl, Nat.le_of_ble_eq_true rfl⟩) (kd_preV hP hD hK hS hA hE hI hW.tm rfl rfl) rfl rfl hl.1 rfl (lv_room (Nat.le_of_ble_eq_true rfl)) dX4_gain_91 ⟨Nat.le_of_ble_eq_true rfl, Nat.le_of_ble_eq_true rfl⟩) hD hS hA (fun r_62 u_61 H locs hw hP hD hS => ?_)
                obtain ⟨hr_62, hI⟩ := hw
                refine lv_if_eq (tgt := 182) hx hb dX4_gain_94 (by decide) (fun c_63 => ?_) (fun c_63 => ?_)
                · subst c_63
                  refine lv_iinc (v := nI (i + 1)) (lv' := [(7, .int (nI (i + 1))), (0, .ref mm), (1, .int (nI j_3)), (2, .int (nI j_7)), (3, .float a), (4, .float b), (5, .float c9), (6, .int c8)]) hx hb dX4_gain_182 hl (k := 7) rfl (nI_add i 1) (by decide) rfl (fun ls hl => ?_)
                  refine lv_goto (tgt := 82) hx hb dX4_gain_185 (by decide) ?_
                  have hl : lv_has ls 8 [(0, .ref mm), (1, .int (nI j_3)), (2, .int (nI j_7)), (3, .float a), (4, .float b), (5, .float c9), (6, .int c8), (7, .int (nI (i + 1)))] := lv_sub hl [1, 2, 3, 4, 5, 6, 7, 0] rfl
                  exact ih82 (fun _ _ => .null) _ _ _ _ _ ⟨(i + 1), c8, by omega, hI, hP, hD, hS, hl, by omega⟩
                · obtain rfl : r_62 = 1 := (hr_62).resolve_left c_63
                  refine lv_aload_n hx hb dX4_gain_97 rfl (lv_at hl 0 rfl) ?_
                  refine kp_get hx hb hts i_X4 hown hK hP hI hW.tm rfl rfl 2 (by decide) (by decide) (hts (.fieldLink RX4 7 "IslandSolverModel" "body" "[F") (by decide +kernel)) (fun _ h9 => h9) dX4_gain_98 (kq_RE 15 (by decide) fun x_64 h_65_e h_65 => ?_)
                  refine lv_bipush (v := 13) hx hb dX4_gain_101 (by decide) ?_
                  refine lv_iload hx hb dX4_gain_103 (lv_at hl 7 rfl) ?_
                  refine lv_imul hx hb dX4_gain_105 ?_
                  refine lv_topi (nm_r (show (13 : Int32) * (nI i) = nI (13 * i) from pk_mul 13 i) ?_)
                  refine lv_aload_n hx hb dX4_gain_106 rfl (lv_at hl 0 rfl) ?_
                  refine kp_get hx hb hts i_X4 hown hK hP hI hW.tm rfl rfl 2 (by decide) (by decide) (hts (.fieldLink RX4 7 "IslandSolverModel" "body" "[F") (by decide +kernel)) (fun _ h9 => h9) dX4_gain_107 (kq_E h_65_e ?_)
                  refine lv_bipush (v := 13) hx hb dX4_gain_110 (by decide) ?_
                  refine lv_iload hx hb dX4_gain_112 (lv_at hl 7 rfl) ?_
                  refine lv_imul hx hb dX4_gain_114 ?_
                  refine lv_topi (nm_r (show (13 : Int32) * (nI i) = nI (13 * i) from pk_mul 13 i) ?_)
                  have hj_68 : 13 * i < τ 3 x_64 := by rw [show τ 3 x_64 = 3328 from (hI.arr h_65 rfl).2.1]; omega
                  refine W.eq (g2 := F0 m 115 ls (.int (nI (13 * i)) :: .ref x_64 :: [.int (nI (13 * i)), .ref x_64])) rfl ?_
                  refine kp_faldE (j := 13 * i) hx hb hK hP hI h_65 rfl hj_68 dX4_gain_115 (ka_FE (cd := 1535115264) (show kEc 15 (13 * i) = 1535115264 from if_pos (by omega)) (by decide) fun x_69 h_70_e h_70 => ?_)
                  refine lv_fload_n hx hb dX4_gain_116 rfl (lv_at hl 3 rfl) ?_
                  refine kw_satA (M := 1535115264) hx hb dX4_gain_117 h_70 fb_43 (by decide) (by decide) (by decide +kernel) (fun z_71 hz_72 => ?_)
                  have hj_73 : 13 * i < τ 3 x_64 := by rw [show τ 3 x_64 = 3328 from (hI.arr h_65 rfl).2.1]; omega
                  refine W.eq (g2 := F0 m 118 ls (.float z_71 :: .int (nI (13 * i)) :: .ref x_64 :: [])) rfl ?_
                  refine kp_fastX (pv' := (kup pv mm 0 (.int 0))) (j := 13 * i) hx hb hK hP hD hS hI h_65 rfl hj_73 (fun _ _ _ => rfl) (show kPr τ (kEc 15 (13 * i)) _ _ from (show kEc 15 (13 * i) = 1535115264 from if_pos (by omega)).symm ▸ (kv_F (by decide) hz_72)) (kPn_not rfl (by decide)) dX4_gain_118 (fun f H locs hI hP hD hS => ?_)
                  refine lv_aload_n hx hb dX4_gain_119 rfl (lv_at hl 0 rfl) ?_
                  refine kp_get hx hb hts i_X4 hown hK hP hI hW.tm rfl rfl 2 (by decide) (by decide) (hts (.fieldLink RX4 7 "IslandSolverModel" "body" "[F") (by decide +kernel)) (fun _ h9 => h9) dX4_gain_120 (kq_RE 15 (by decide) fun x_74 h_75_e h_75 => ?_)
                  refine lv_bipush (v := 13) hx hb dX4_gain_123 (by decide) ?_
                  refine lv_iload hx hb dX4_gain_125 (lv_at hl 7 rfl) ?_
                  refine lv_imul hx hb dX4_gain_127 ?_
                  refine lv_topi (nm_r (show (13 : Int32) * (nI i) = nI (13 * i) from pk_mul 13 i) ?_)
                  refine lv_iconst (v := 1) hx hb dX4_gain_128 (by decide) ?_
                  refine lv_iadd hx hb dX4_gain_129 ?_
                  refine lv_topi (nm_r (show (nI (13 * i)) + 1 = nI (13 * i + 1) from nI_add (13 * i) 1) ?_)
                  refine lv_aload_n hx hb dX4_gain_130 rfl (lv_at hl 0 rfl) ?_
                  refine kp_get hx hb hts i_X4 hown hK hP hI hW.tm rfl rfl 2 (by decide) (by decide) (hts (.fieldLink RX4 7 "IslandSolverModel" "body" "[F") (by decide +kernel)) (fun _ h9 => h9) dX4_gain_131 (kq_E h_75_e ?_)
                  refine lv_bipush (v := 13) hx hb dX4_gain_134 (by decide) ?_
                  refine lv_iload hx hb dX4_gain_136 (lv_at hl 7 rfl) ?_
                  refine lv_imul hx hb dX4_gain_138 ?_
                  refine lv_topi (nm_r (show (13 : Int32) * (nI i) = nI (13 * i) from pk_mul 13 i) ?_)
                  refine lv_iconst (v := 1) hx hb dX4_gain_139 (by decide) ?_
                  refine lv_iadd hx hb dX4_gain_140 ?_
                  refine lv_topi (nm_r (show (nI (13 * i)) + 1 = nI (13 * i + 1) from nI_add (13 * i) 1) ?_)
                  have hj_78 : 13 * i + 1 < τ 3 x_74 := by rw [show τ 3 x_74 = 3328 from (hI.arr h_75 rfl).2.1]; omega
                  refine W.eq (g2 := F0 m 141 ls (.int (nI (13 * i + 1)) :: .ref x_74 :: [.int (nI (13 * i + 1)), .ref x_74])) rfl ?_
                  refine kp_faldE (j := 13 * i + 1) hx hb hK hP hI h_75 rfl hj_78 dX4_gain_141 (ka_FE (cd := 1535115264) (show kEc 15 (13 * i + 1) = 1535115264 from if_pos (by omega)) (by decide) fun x_79 h_80_e h_80 => ?_)
                  refine lv_fload hx hb dX4_gain_142 (lv_at hl 4 rfl) ?_
                  refine kw_satA (M := 1535115264) hx hb dX4_gain_144 h_80 fb_49 (by decide) (by decide) (by decide +kernel) (fun z_81 hz_82 => ?_)
                  have hj_83 : 13 * i + 1 < τ 3 x_74 := by rw [show τ 3 x_74 = 3328 from (hI.arr h_75 rfl).2.1]; omega
                  refine W.eq (g2 := F0 m 145 ls (.float z_81 :: .int (nI (13 * i + 1)) :: .ref x_74 :: [])) rfl ?_
                  refine kp_fastX (pv' := (kup pv mm 0 (.int 0))) (j := 13 * i + 1) hx hb hK hP hD hS hI h_75 rfl hj_83 (fun _ _ _ => rfl) (show kPr τ (kEc 15 (13 * i + 1)) _ _ from (show kEc 15 (13 * i + 1) = 1535115264 from if_pos (by omega)).symm ▸ (kv_F (by decide) hz_82)) (kPn_not rfl (by decide)) dX4_gain_145 (fun f H locs hI hP hD hS => ?_)
                  refine lv_aload_n hx hb dX4_gain_146 rfl (lv_at hl 0 rfl) ?_
                  refine kp_get hx hb hts i_X4 hown hK hP hI hW.tm rfl rfl 2 (by decide) (by decide) (hts (.fieldLink RX4 7 "IslandSolverModel" "body" "[F") (by decide +kernel)) (fun _ h9 => h9) dX4_gain_147 (kq_RE 15 (by decide) fun x_84 h_85_e h_85 => ?_)
                  refine lv_bipush (v := 13) hx hb dX4_gain_150 (by decide) ?_
                  refine lv_iload hx hb dX4_gain_152 (lv_at hl 7 rfl) ?_
                  refine lv_imul hx hb dX4_gain_154 ?_
                  refine lv_topi (nm_r (show (13 : Int32) * (nI i) = nI (13 * i) from pk_mul 13 i) ?_)
                  refine lv_iconst (v := 2) hx hb dX4_gain_155 (by decide) ?_
                  refine lv_iadd hx hb dX4_gain_156 ?_
                  refine lv_topi (nm_r (show (nI (13 * i)) + 2 = nI (13 * i + 2) from nI_add (13 * i) 2) ?_)
                  refine lv_aload_n hx hb dX4_gain_157 rfl (lv_at hl 0 rfl) ?_
                  refine kp_get hx hb hts i_X4 hown hK hP hI hW.tm rfl rfl 2 (by decide) (by decide) (hts (.fieldLink RX4 7 "IslandSolverModel" "body" "[F") (by decide +kernel)) (fun _ h9 => h9) dX4_gain_158 (kq_E h_85_e ?_)
                  refine lv_bipush (v := 13) hx hb dX4_gain_161 (by decide) ?_
                  refine lv_iload hx hb dX4_gain_163 (lv_at hl 7 rfl) ?_
                  refine lv_imul hx hb dX4_gain_165 ?_
                  refine lv_topi (nm_r (show (13 : Int32) * (nI i) = nI (13 * i) from pk_mul 13 i) ?_)
                  refine lv_iconst (v := 2) hx hb dX4_gain_166 (by decide) ?_
                  refine lv_iadd hx hb dX4_gain_167 ?_
                  refine lv_topi (nm_r (show (nI (13 * i)) + 2 = nI (13 * i + 2) from nI_add (13 * i) 2) ?_)
                  have hj_88 : 13 * i + 2 < τ 3 x_84 := by rw [show τ 3 x_84 = 3328 from (hI.arr h_85 rfl).2.1]; omega
                  refine W.eq (g2 := F0 m 168 ls (.int (nI (13 * i + 2)) :: .ref x_84 :: [.int (nI (13 * i + 2)), .ref x_84])) rfl ?_
                  refine kp_faldE (j := 13 * i + 2) hx hb hK hP hI h_85 rfl hj_88 dX4_gain_168 (ka_FE (cd := 1535115264) (show kEc 15 (13 * i + 2) = 1535115264 from if_pos (by omega)) (by decide) fun x_89 h_90_e h_90 => ?_)
                  refine lv_fload hx hb dX4_gain_169 (lv_at hl 5 rfl) ?_
                  refine kw_satA (M := 1535115264) hx hb dX4_gain_171 h_90 fb_55 (by decide) (by decide) (by decide +kernel) (fun z_91 hz_92 => ?_)
                  have hj_93 : 13 * i + 2 < τ 3 x_84 := by rw [show τ 3 x_84 = 3328 from (hI.arr h_85 rfl).2.1]; omega
                  refine W.eq (g2 := F0 m 172 ls (.float z_91 :: .int (nI (13 * i + 2)) :: .ref x_84 :: [])) rfl ?_
                  refine kp_fastX (pv' := (kup pv mm 0 (.int 0))) (j := 13 * i + 2) hx hb hK hP hD hS hI h_85 rfl hj_93 (fun _ _ _ => rfl) (show kPr τ (kEc 15 (13 * i + 2)) _ _ from (show kEc 15 (13 * i + 2) = 1535115264 from if_pos (by omega)).symm ▸ (kv_F (by decide) hz_92)) (kPn_not rfl (by decide)) dX4_gain_172 (fun f H locs hI hP hD hS => ?_)
                  refine lv_aload_n hx hb dX4_gain_173 rfl (lv_at hl 0 rfl) ?_
                  refine lv_iload hx hb dX4_gain_174 (lv_at hl 7 rfl) ?_
                  refine kd_callv (va_runV (As := [.int (nI i)]) (rest := []) ⟨hx, hb, hml, hown, hts⟩ (k_rouse4 l dC dI dA ad _ τ (kup pv mm 0 (.int 0)) _ _ hI mm fa sa aa ia sf mb mr mk mr hW i (by omega)) (cwV 1 hts gX4_gain_X4_rouse rfl rfl rfl (by decide +kernel) ⟨Nat.le_of_ble_eq_true rfl, Nat.le_of_ble_eq_true rfl⟩) (kd_preV hP hD hK hS hA hE hI hW.tm rfl rfl) rfl rfl hl.1 rfl (lv_room (Nat.le_of_ble_eq_true rfl)) dX4_gain_176 ⟨Nat.le_of_ble_eq_true rfl, Nat.le_of_ble_eq_true rfl⟩) hD hS hA (fun u_94 H locs hw hP hD hS => ?_)
                  have hI := hw
                  refine lv_iinc (v := (c8 + 1)) (lv' := [(6, .int (c8 + 1)), (0, .ref mm), (1, .int (nI j_3)), (2, .int (nI j_7)), (3, .float a), (4, .float b), (5, .float c9), (7, .int (nI i))]) hx hb dX4_gain_179 hl (k := 6) rfl rfl (by decide) rfl (fun ls hl => ?_)
                  refine lv_iinc (v := nI (i + 1)) (lv' := [(7, .int (nI (i + 1))), (6, .int (c8 + 1)), (0, .ref mm), (1, .int (nI j_3)), (2, .int (nI j_7)), (3, .float a), (4, .float b), (5, .float c9)]) hx hb dX4_gain_182 hl (k := 7) rfl (nI_add i 1) (by decide) rfl (fun ls hl => ?_)
                  refine lv_goto (tgt := 82) hx hb dX4_gain_185 (by decide) ?_
                  have hl : lv_has ls 8 [(0, .ref mm), (1, .int (nI j_3)), (2, .int (nI j_7)), (3, .float a), (4, .float b), (5, .float c9), (6, .int (c8 + 1)), (7, .int (nI (i + 1)))] := lv_sub hl [2, 3, 4, 5, 6, 7, 1, 0] rfl
                  exact ih82 (fun _ _ => .null) _ _ _ _ _ ⟨(i + 1), (c8 + 1), by omega, hI, hP, hD, hS, hl, by omega⟩
            · refine lv_if_eq (tgt := 66) hx hb dX4_gain_59 (by decide) (fun _ => ?_) (fun h9 => by first | exact absurd h9 (by decide) | exact absurd (by decide) h9)
              refine lv_iconst (v := 0) hx hb dX4_gain_66 (by decide) ?_
              refine lv_iconst (v := 1) hx hb dX4_gain_67 (by decide) ?_
              refine kd_calli (va_runV (As := [.int 1, .int 0, .int 1]) (rest := []) ⟨hx, hb, hml, hown, hts⟩ (k_goes3 l dC dI dA ad _ τ pv _ _ hI mm fa sa aa ia sf mb mr mk mr hW 1) (cwV 3 hts gX4_gain_X4_goes rfl rfl rfl (by decide +kernel) ⟨Nat.le_of_ble_eq_true rfl, Nat.le_of_ble_eq_true rfl⟩) (kd_preV hP hD hK hS hA hE hI hW.tm rfl rfl) rfl rfl hl.1 rfl (lv_room (Nat.le_of_ble_eq_true rfl)) dX4_gain_68 ⟨Nat.le_of_ble_eq_true rfl, Nat.le_of_ble_eq_true rfl⟩) hD hS hA (fun r_97 u_96 H locs hw hP hD hS => ?_)
              obtain ⟨rfl, hI⟩ := hw
              have hF := hF.trans (kFr.up (P := kPx) (w := .int 2) (k := 0) hW.tm rfl)
              have hW := hW.frw (kFr.up (P := kPy mr) (w := .int 2) (k := 0) hW.tm rfl)
              refine lv_if_ne (tgt := 76) hx hb dX4_gain_71 (by decide) (fun h9 => by first | exact absurd h9 (by decide) | exact absurd (by decide) h9) (fun _ => ?_)
              refine lv_iconst (v := 0) hx hb dX4_gain_74 (by decide) ?_
              refine W.widen (k := 0) (n := 0) (Nat.le_of_ble_eq_true rfl) (Nat.le_of_ble_eq_true rfl) ?_
              exact W.iret (v := 0) hx hb hr (fun t ht hW9 => ⟨⟨0, (u_96.1, u_96.2), rfl, ⟨_, _, hF, hW, hI⟩, by rw [ht]; exact hP, va_K.moved hW9.alike hK, hD⟩, hS.F ht⟩) hS.2.2 dX4_gain_75
          · refine lv_if_eq (tgt := 66) hx hb dX4_gain_47 (by decide) (fun _ => ?_) (fun h9 => by first | exact absurd h9 (by decide) | exact absurd (by decide) h9)
            refine lv_iconst (v := 0) hx hb dX4_gain_66 (by decide) ?_
            refine lv_iconst (v := 1) hx hb dX4_gain_67 (by decide) ?_
            refine kd_calli (va_runV (As := [.int 1, .int 0, .int 1]) (rest := []) ⟨hx, hb, hml, hown, hts⟩ (k_goes3 l dC dI dA ad _ τ pv _ _ hI mm fa sa aa ia sf mb mr mk mr hW 1) (cwV 3 hts gX4_gain_X4_goes rfl rfl rfl (by decide +kernel) ⟨Nat.le_of_ble_eq_true rfl, Nat.le_of_ble_eq_true rfl⟩) (kd_preV hP hD hK hS hA hE hI hW.tm rfl rfl) rfl rfl hl.1 rfl (lv_room (Nat.le_of_ble_eq_true rfl)) dX4_gain_68 ⟨Nat.le_of_ble_eq_true rfl, Nat.le_of_ble_eq_true rfl⟩) hD hS hA (fun r_99 u_98 H locs hw hP hD hS => ?_)
            obtain ⟨rfl, hI⟩ := hw
            have hF := hF.trans (kFr.up (P := kPx) (w := .int 2) (k := 0) hW.tm rfl)
            have hW := hW.frw (kFr.up (P := kPy mr) (w := .int 2) (k := 0) hW.tm rfl)
            refine lv_if_ne (tgt := 76) hx hb dX4_gain_71 (by decide) (fun h9 => by first | exact absurd h9 (by decide) | exact absurd (by decide) h9) (fun _ => ?_)
            refine lv_iconst (v := 0) hx hb dX4_gain_74 (by decide) ?_
            refine W.widen (k := 0) (n := 0) (Nat.le_of_ble_eq_true rfl) (Nat.le_of_ble_eq_true rfl) ?_
            exact W.iret (v := 0) hx hb hr (fun t ht hW9 => ⟨⟨0, (u_98.1, u_98.2), rfl, ⟨_, _, hF, hW, hI⟩, by rw [ht]; exact hP, va_K.moved hW9.alike hK, hD⟩, hS.F ht⟩) hS.2.2 dX4_gain_75
        · refine lv_if_eq (tgt := 66) hx hb dX4_gain_35 (by decide) (fun _ => ?_) (fun h9 => by first | exact absurd h9 (by decide) | exact absurd (by decide) h9)
          refine lv_iconst (v := 0) hx hb dX4_gain_66 (by decide) ?_
          refine lv_iconst (v := 1) hx hb dX4_gain_67 (by decide) ?_
          refine kd_calli (va_runV (As := [.int 1, .int 0, .int 1]) (rest := []) ⟨hx, hb, hml, hown, hts⟩ (k_goes3 l dC dI dA ad _ τ pv _ _ hI mm fa sa aa ia sf mb mr mk mr hW 1) (cwV 3 hts gX4_gain_X4_goes rfl rfl rfl (by decide +kernel) ⟨Nat.le_of_ble_eq_true rfl, Nat.le_of_ble_eq_true rfl⟩) (kd_preV hP hD hK hS hA hE hI hW.tm rfl rfl) rfl rfl hl.1 rfl (lv_room (Nat.le_of_ble_eq_true rfl)) dX4_gain_68 ⟨Nat.le_of_ble_eq_true rfl, Nat.le_of_ble_eq_true rfl⟩) hD hS hA (fun r_101 u_100 H locs hw hP hD hS => ?_)
          obtain ⟨rfl, hI⟩ := hw
          have hF := hF.trans (kFr.up (P := kPx) (w := .int 2) (k := 0) hW.tm rfl)
          have hW := hW.frw (kFr.up (P := kPy mr) (w := .int 2) (k := 0) hW.tm rfl)
          refine lv_if_ne (tgt := 76) hx hb dX4_gain_71 (by decide) (fun h9 => by first | exact absurd h9 (by decide) | exact absurd (by decide) h9) (fun _ => ?_)
          refine lv_iconst (v := 0) hx hb dX4_gain_74 (by decide) ?_
          refine W.widen (k := 0) (n := 0) (Nat.le_of_ble_eq_true rfl) (Nat.le_of_ble_eq_true rfl) ?_
          exact W.iret (v := 0) hx hb hr (fun t ht hW9 => ⟨⟨0, (u_100.1, u_100.2), rfl, ⟨_, _, hF, hW, hI⟩, by rw [ht]; exact hP, va_K.moved hW9.alike hK, hD⟩, hS.F ht⟩) hS.2.2 dX4_gain_75
    · refine lv_if_eq (tgt := 26) hx hb dX4_gain_14 (by decide) (fun _ => ?_) (fun h9 => by first | exact absurd h9 (by decide) | exact absurd (by decide) h9)
      refine lv_iconst (v := 0) hx hb dX4_gain_26 (by decide) ?_
      refine lv_fload_n hx hb dX4_gain_27 rfl (lv_at hl 3 rfl) ?_
      refine lv_ldcf (v := 3263168512) hx hb hown (hts (.constantFloat RX4 117 (3263168512)) (by decide +kernel)) dX4_gain_28 ?_
      have hc_102 : fb 1115684864 3263168512 := by unfold fb; decide +kernel
      refine lv_ldcf (v := 1115684864) hx hb hown (hts (.constantFloat RX4 118 (1115684864)) (by decide +kernel)) dX4_gain_30 ?_
      have hc_103 : fb 1115684864 1115684864 := by unfold fb; decide +kernel
      refine kd_calli (va_runS (As := [.float a, .float 3263168512, .float 1115684864]) (rest := [.int 0, .ref mm]) ⟨hx, hb, hml, hown, hts⟩ (k_within l dC dI dA ad _ τ pv _ _ hI a 3263168512 1115684864) (va_cwS 3 hts gX4_gain_X4_within rfl rfl rfl (by decide +kernel) ⟨Nat.le_of_ble_eq_true rfl, Nat.le_of_ble_eq_true rfl⟩) (kd_preS hP hD hK hS hA hE) rfl rfl hl.1 rfl (lv_room (Nat.le_of_ble_eq_true rfl)) dX4_gain_32 ⟨Nat.le_of_ble_eq_true rfl, Nat.le_of_ble_eq_true rfl⟩) hD hS hA (fun r_105 u_104 H locs hw hP hD hS => ?_)
      obtain ⟨⟨k_106, rfl⟩ | ⟨k_106, rfl⟩, hI⟩ := hw
      · have fb_107 : fb 1115684864 a := fb_within hc_102 hc_103 (by decide) k_106
        refine lv_if_eq (tgt := 66) hx hb dX4_gain_35 (by decide) (fun h9 => by first | exact absurd h9 (by decide) | exact absurd (by decide) h9) (fun _ => ?_)
        refine lv_fload hx hb dX4_gain_38 (lv_at hl 4 rfl) ?_
        refine lv_ldcf (v := 3263168512) hx hb hown (hts (.constantFloat RX4 117 (3263168512)) (by decide +kernel)) dX4_gain_40 ?_
        have hc_108 : fb 1115684864 3263168512 := by unfold fb; decide +kernel
        refine lv_ldcf (v := 1115684864) hx hb hown (hts (.constantFloat RX4 118 (1115684864)) (by decide +kernel)) dX4_gain_42 ?_
        have hc_109 : fb 1115684864 1115684864 := by unfold fb; decide +kernel
        refine kd_calli (va_runS (As := [.float b, .float 3263168512, .float 1115684864]) (rest := [.int 0, .ref mm]) ⟨hx, hb, hml, hown, hts⟩ (k_within l dC dI dA ad _ τ pv _ _ hI b 3263168512 1115684864) (va_cwS 3 hts gX4_gain_X4_within rfl rfl rfl (by decide +kernel) ⟨Nat.le_of_ble_eq_true rfl, Nat.le_of_ble_eq_true rfl⟩) (kd_preS hP hD hK hS hA hE) rfl rfl hl.1 rfl (lv_room (Nat.le_of_ble_eq_true rfl)) dX4_gain_44 ⟨Nat.le_of_ble_eq_true rfl, Nat.le_of_ble_eq_true rfl⟩) hD hS hA (fun r_111 u_110 H locs hw hP hD hS => ?_)
        obtain ⟨⟨k_112, rfl⟩ | ⟨k_112, rfl⟩, hI⟩ := hw
        · have fb_113 : fb 1115684864 b := fb_within hc_108 hc_109 (by decide) k_112
          refine lv_if_eq (tgt := 66) hx hb dX4_gain_47 (by decide) (fun h9 => by first | exact absurd h9 (by decide) | exact absurd (by decide) h9) (fun _ => ?_)
          refine lv_fload hx hb dX4_gain_50 (lv_at hl 5 rfl) ?_
          refine lv_ldcf (v := 3263168512) hx hb hown (hts (.constantFloat RX4 117 (3263168512)) (by decide +kernel)) dX4_gain_52 ?_
          have hc_114 : fb 1115684864 3263168512 := by unfold fb; decide +kernel
          refine lv_ldcf (v := 1115684864) hx hb hown (hts (.constantFloat RX4 118 (1115684864)) (by decide +kernel)) dX4_gain_54 ?_
          have hc_115 : fb 1115684864 1115684864 := by unfold fb; decide +kernel
          refine kd_calli (va_runS (As := [.float c9, .float 3263168512, .float 1115684864]) (rest := [.int 0, .ref mm]) ⟨hx, hb, hml, hown, hts⟩ (k_within l dC dI dA ad _ τ pv _ _ hI c9 3263168512 1115684864) (va_cwS 3 hts gX4_gain_X4_within rfl rfl rfl (by decide +kernel) ⟨Nat.le_of_ble_eq_true rfl, Nat.le_of_ble_eq_true rfl⟩) (kd_preS hP hD hK hS hA hE) rfl rfl hl.1 rfl (lv_room (Nat.le_of_ble_eq_true rfl)) dX4_gain_56 ⟨Nat.le_of_ble_eq_true rfl, Nat.le_of_ble_eq_true rfl⟩) hD hS hA (fun r_117 u_116 H locs hw hP hD hS => ?_)
          obtain ⟨⟨k_118, rfl⟩ | ⟨k_118, rfl⟩, hI⟩ := hw
          · have fb_119 : fb 1115684864 c9 := fb_within hc_114 hc_115 (by decide) k_118
            refine lv_if_eq (tgt := 66) hx hb dX4_gain_59 (by decide) (fun h9 => by first | exact absurd h9 (by decide) | exact absurd (by decide) h9) (fun _ => ?_)
            refine lv_iconst (v := 1) hx hb dX4_gain_62 (by decide) ?_
            refine lv_goto (tgt := 67) hx hb dX4_gain_63 (by decide) ?_
            refine lv_iconst (v := 1) hx hb dX4_gain_67 (by decide) ?_
            refine kd_calli (va_runV (As := [.int 0, .int 1, .int 1]) (rest := []) ⟨hx, hb, hml, hown, hts⟩ (k_goes2 l dC dI dA ad _ τ pv _ _ hI mm fa sa aa ia sf mb mr mk mr hW 1 1) (cwV 3 hts gX4_gain_X4_goes rfl rfl rfl (by decide +kernel) ⟨Nat.le_of_ble_eq_true rfl, Nat.le_of_ble_eq_true rfl⟩) (kd_preV hP hD hK hS hA hE hI hW.tm rfl rfl) rfl rfl hl.1 rfl (lv_room (Nat.le_of_ble_eq_true rfl)) dX4_gain_68 ⟨Nat.le_of_ble_eq_true rfl, Nat.le_of_ble_eq_true rfl⟩) hD hS hA (fun r_121 u_120 H locs hw hP hD hS => ?_)
            obtain ⟨rfl, hI⟩ := hw
            have hF := hF.trans (kFr.up (P := kPx) (w := .int 1) (k := 0) hW.tm rfl)
            have hW := hW.frw (kFr.up (P := kPy mr) (w := .int 1) (k := 0) hW.tm rfl)
            refine lv_if_ne (tgt := 76) hx hb dX4_gain_71 (by decide) (fun h9 => by first | exact absurd h9 (by decide) | exact absurd (by decide) h9) (fun _ => ?_)
            refine lv_iconst (v := 0) hx hb dX4_gain_74 (by decide) ?_
            refine W.widen (k := 0) (n := 0) (Nat.le_of_ble_eq_true rfl) (Nat.le_of_ble_eq_true rfl) ?_
            exact W.iret (v := 0) hx hb hr (fun t ht hW9 => ⟨⟨0, (u_120.1, u_120.2), rfl, ⟨_, _, hF, hW, hI⟩, by rw [ht]; exact hP, va_K.moved hW9.alike hK, hD⟩, hS.F ht⟩) hS.2.2 dX4_gain_75
          · refine lv_if_eq (tgt := 66) hx hb dX4_gain_59 (by decide) (fun _ => ?_) (fun h9 => by first | exact absurd h9 (by decide) | exact absurd (by decide) h9)
            refine lv_iconst (v := 0) hx hb dX4_gain_66 (by decide) ?_
            refine lv_iconst (v := 1) hx hb dX4_gain_67 (by decide) ?_
            refine kd_calli (va_runV (As := [.int 0, .int 0, .int 1]) (rest := []) ⟨hx, hb, hml, hown, hts⟩ (k_goes2 l dC dI dA ad _ τ pv _ _ hI mm fa sa aa ia sf mb mr mk mr hW 0 1) (cwV 3 hts gX4_gain_X4_goes rfl rfl rfl (by decide +kernel) ⟨Nat.le_of_ble_eq_true rfl, Nat.le_of_ble_eq_true rfl⟩) (kd_preV hP hD hK hS hA hE hI hW.tm rfl rfl) rfl rfl hl.1 rfl (lv_room (Nat.le_of_ble_eq_true rfl)) dX4_gain_68 ⟨Nat.le_of_ble_eq_true rfl, Nat.le_of_ble_eq_true rfl⟩) hD hS hA (fun r_123 u_122 H locs hw hP hD hS => ?_)
            obtain ⟨rfl, hI⟩ := hw
            have hF := hF.trans (kFr.up (P := kPx) (w := .int 1) (k := 0) hW.tm rfl)
            have hW := hW.frw (kFr.up (P := kPy mr) (w := .int 1) (k := 0) hW.tm rfl)
            refine lv_if_ne (tgt := 76) hx hb dX4_gain_71 (by decide) (fun h9 => by first | exact absurd h9 (by decide) | exact absurd (by decide) h9) (fun _ => ?_)
            refine lv_iconst (v := 0) hx hb dX4_gain_74 (by decide) ?_
            refine W.widen (k := 0) (n := 0) (Nat.le_of_ble_eq_true rfl) (Nat.le_of_ble_eq_true rfl) ?_
            exact W.iret (v := 0) hx hb hr (fun t ht hW9 => ⟨⟨0, (u_122.1, u_122.2), rfl, ⟨_, _, hF, hW, hI⟩, by rw [ht]; exact hP, va_K.moved hW9.alike hK, hD⟩, hS.F ht⟩) hS.2.2 dX4_gain_75
        · refine lv_if_eq (tgt := 66) hx hb dX4_gain_47 (by decide) (fun _ => ?_) (fun h9 => by first | exact absurd h9 (by decide) | exact absurd (by decide) h9)
          refine lv_iconst (v := 0) hx hb dX4_gain_66 (by decide) ?_
          refine lv_iconst (v := 1) hx hb dX4_gain_67 (by decide) ?_
          refine kd_calli (va_runV (As := [.int 0, .int 0, .int 1]) (rest := []) ⟨hx, hb, hml, hown, hts⟩ (k_goes2 l dC dI dA ad _ τ pv _ _ hI mm fa sa aa ia sf mb mr mk mr hW 0 1) (cwV 3 hts gX4_gain_X4_goes rfl rfl rfl (by decide +kernel) ⟨Nat.le_of_ble_eq_true rfl, Nat.le_of_ble_eq_true rfl⟩) (kd_preV hP hD hK hS hA hE hI hW.tm rfl rfl) rfl rfl hl.1 rfl (lv_room (Nat.le_of_ble_eq_true rfl)) dX4_gain_68 ⟨Nat.le_of_ble_eq_true rfl, Nat.le_of_ble_eq_true rfl⟩) hD hS hA (fun r_125 u_124 H locs hw hP hD hS => ?_)
          obtain ⟨rfl, hI⟩ := hw
          have hF := hF.trans (kFr.up (P := kPx) (w := .int 1) (k := 0) hW.tm rfl)
          have hW := hW.frw (kFr.up (P := kPy mr) (w := .int 1) (k := 0) hW.tm rfl)
          refine lv_if_ne (tgt := 76) hx hb dX4_gain_71 (by decide) (fun h9 => by first | exact absurd h9 (by decide) | exact absurd (by decide) h9) (fun _ => ?_)
          refine lv_iconst (v := 0) hx hb dX4_gain_74 (by decide) ?_
          refine W.widen (k := 0) (n := 0) (Nat.le_of_ble_eq_true rfl) (Nat.le_of_ble_eq_true rfl) ?_
          exact W.iret (v := 0) hx hb hr (fun t ht hW9 => ⟨⟨0, (u_124.1, u_124.2), rfl, ⟨_, _, hF, hW, hI⟩, by rw [ht]; exact hP, va_K.moved hW9.alike hK, hD⟩, hS.F ht⟩) hS.2.2 dX4_gain_75
      · refine lv_if_eq (tgt := 66) hx hb dX4_gain_35 (by decide) (fun _ => ?_) (fun h9 => by first | exact absurd h9 (by decide) | exact absurd (by decide) h9)
        refine lv_iconst (v := 0) hx hb dX4_gain_66 (by decide) ?_
        refine lv_iconst (v := 1) hx hb dX4_gain_67 (by decide) ?_
        refine kd_calli (va_runV (As := [.int 0, .int 0, .int 1]) (rest := []) ⟨hx, hb, hml, hown, hts⟩ (k_goes2 l dC dI dA ad _ τ pv _ _ hI mm fa sa aa ia sf mb mr mk mr hW 0 1) (cwV 3 hts gX4_gain_X4_goes rfl rfl rfl (by decide +kernel) ⟨Nat.le_of_ble_eq_true rfl, Nat.le_of_ble_eq_true rfl⟩) (kd_preV hP hD hK hS hA hE hI hW.tm rfl rfl) rfl rfl hl.1 rfl (lv_room (Nat.le_of_ble_eq_true rfl)) dX4_gain_68 ⟨Nat.le_of_ble_eq_true rfl, Nat.le_of_ble_eq_true rfl⟩) hD hS hA (fun r_127 u_126 H locs hw hP hD hS => ?_)
        obtain ⟨rfl, hI⟩ := hw
        have hF := hF.trans (kFr.up (P := kPx) (w := .int 1) (k := 0) hW.tm rfl)
        have hW := hW.frw (kFr.up (P := kPy mr) (w := .int 1) (k := 0) hW.tm rfl)
        refine lv_if_ne (tgt := 76) hx hb dX4_gain_71 (by decide) (fun h9 => by first | exact absurd h9 (by decide) | exact absurd (by decide) h9) (fun _ => ?_)
        refine lv_iconst (v := 0) hx hb dX4_gain_74 (by decide) ?_
        refine W.widen (k := 0) (n := 0) (Nat.le_of_ble_eq_true rfl) (Nat.le_of_ble_eq_true rfl) ?_
        exact W.iret (v := 0) hx hb hr (fun t ht hW9 => ⟨⟨0, (u_126.1, u_126.2), rfl, ⟨_, _, hF, hW, hI⟩, by rw [ht]; exact hP, va_K.moved hW9.alike hK, hD⟩, hS.F ht⟩) hS.2.2 dX4_gain_75
  · refine lv_if_eq (tgt := 26) hx hb dX4_gain_6 (by decide) (fun _ => ?_) (fun h9 => by first | exact absurd h9 (by decide) | exact absurd (by decide) h9)
    refine lv_iconst (v := 0) hx hb dX4_gain_26 (by decide) ?_
    refine lv_fload_n hx hb dX4_gain_27 rfl (lv_at hl 3 rfl) ?_
    refine lv_ldcf (v := 3263168512) hx hb hown (hts (.constantFloat RX4 117 (3263168512)) (by decide +kernel)) dX4_gain_28 ?_
    have hc_128 : fb 1115684864 3263168512 := by unfold fb; decide +kernel
    refine lv_ldcf (v := 1115684864) hx hb hown (hts (.constantFloat RX4 118 (1115684864)) (by decide +kernel)) dX4_gain_30 ?_
    have hc_129 : fb 1115684864 1115684864 := by unfold fb; decide +kernel
    refine kd_calli (va_runS (As := [.float a, .float 3263168512, .float 1115684864]) (rest := [.int 0, .ref mm]) ⟨hx, hb, hml, hown, hts⟩ (k_within l dC dI dA ad _ τ pv _ _ hI a 3263168512 1115684864) (va_cwS 3 hts gX4_gain_X4_within rfl rfl rfl (by decide +kernel) ⟨Nat.le_of_ble_eq_true rfl, Nat.le_of_ble_eq_true rfl⟩) (kd_preS hP hD hK hS hA hE) rfl rfl hl.1 rfl (lv_room (Nat.le_of_ble_eq_true rfl)) dX4_gain_32 ⟨Nat.le_of_ble_eq_true rfl, Nat.le_of_ble_eq_true rfl⟩) hD hS hA (fun r_131 u_130 H locs hw hP hD hS => ?_)
    obtain ⟨⟨k_132, rfl⟩ | ⟨k_132, rfl⟩, hI⟩ := hw
    · have fb_133 : fb 1115684864 a := fb_within hc_128 hc_129 (by decide) k_132
      refine lv_if_eq (tgt := 66) hx hb dX4_gain_35 (by decide) (fun h9 => by first | exact absurd h9 (by decide) | exact absurd (by decide) h9) (fun _ => ?_)
      refine lv_fload hx hb dX4_gain_38 (lv_at hl 4 rfl) ?_
      refine lv_ldcf (v := 3263168512) hx hb hown (hts (.constantFloat RX4 117 (3263168512)) (by decide +kernel)) dX4_gain_40 ?_
      have hc_134 : fb 1115684864 3263168512 := by unfold fb; decide +kernel
      refine lv_ldcf (v := 1115684864) hx hb hown (hts (.constantFloat RX4 118 (1115684864)) (by decide +kernel)) dX4_gain_42 ?_
      have hc_135 : fb 1115684864 1115684864 := by unfold fb; decide +kernel
      refine kd_calli (va_runS (As := [.float b, .float 3263168512, .float 1115684864]) (rest := [.int 0, .ref mm]) ⟨hx, hb, hml, hown, hts⟩ (k_within l dC dI dA ad _ τ pv _ _ hI b 3263168512 1115684864) (va_cwS 3 hts gX4_gain_X4_within rfl rfl rfl (by decide +kernel) ⟨Nat.le_of_ble_eq_true rfl, Nat.le_of_ble_eq_true rfl⟩) (kd_preS hP hD hK hS hA hE) rfl rfl hl.1 rfl (lv_room (Nat.le_of_ble_eq_true rfl)) dX4_gain_44 ⟨Nat.le_of_ble_eq_true rfl, Nat.le_of_ble_eq_true rfl⟩) hD hS hA (fun r_137 u_136 H locs hw hP hD hS => ?_)
      obtain ⟨⟨k_138, rfl⟩ | ⟨k_138, rfl⟩, hI⟩ := hw
      · have fb_139 : fb 1115684864 b := fb_within hc_134 hc_135 (by decide) k_138
        refine lv_if_eq (tgt := 66) hx hb dX4_gain_47 (by decide) (fun h9 => by first | exact absurd h9 (by decide) | exact absurd (by decide) h9) (fun _ => ?_)
        refine lv_fload hx hb dX4_gain_50 (lv_at hl 5 rfl) ?_
        refine lv_ldcf (v := 3263168512) hx hb hown (hts (.constantFloat RX4 117 (3263168512)) (by decide +kernel)) dX4_gain_52 ?_
        have hc_140 : fb 1115684864 3263168512 := by unfold fb; decide +kernel
        refine lv_ldcf (v := 1115684864) hx hb hown (hts (.constantFloat RX4 118 (1115684864)) (by decide +kernel)) dX4_gain_54 ?_
        have hc_141 : fb 1115684864 1115684864 := by unfold fb; decide +kernel
        refine kd_calli (va_runS (As := [.float c9, .float 3263168512, .float 1115684864]) (rest := [.int 0, .ref mm]) ⟨hx, hb, hml, hown, hts⟩ (k_within l dC dI dA ad _ τ pv _ _ hI c9 3263168512 1115684864) (va_cwS 3 hts gX4_gain_X4_within rfl rfl rfl (by decide +kernel) ⟨Nat.le_of_ble_eq_true rfl, Nat.le_of_ble_eq_true rfl⟩) (kd_preS hP hD hK hS hA hE) rfl rfl hl.1 rfl (lv_room (Nat.le_of_ble_eq_true rfl)) dX4_gain_56 ⟨Nat.le_of_ble_eq_true rfl, Nat.le_of_ble_eq_true rfl⟩) hD hS hA (fun r_143 u_142 H locs hw hP hD hS => ?_)
        obtain ⟨⟨k_144, rfl⟩ | ⟨k_144, rfl⟩, hI⟩ := hw
        · have fb_145 : fb 1115684864 c9 := fb_within hc_140 hc_141 (by decide) k_144
          refine lv_if_eq (tgt := 66) hx hb dX4_gain_59 (by decide) (fun h9 => by first | exact absurd h9 (by decide) | exact absurd (by decide) h9) (fun _ => ?_)
          refine lv_iconst (v := 1) hx hb dX4_gain_62 (by decide) ?_
          refine lv_goto (tgt := 67) hx hb dX4_gain_63 (by decide) ?_
          refine lv_iconst (v := 1) hx hb dX4_gain_67 (by decide) ?_
          refine kd_calli (va_runV (As := [.int 0, .int 1, .int 1]) (rest := []) ⟨hx, hb, hml, hown, hts⟩ (k_goes2 l dC dI dA ad _ τ pv _ _ hI mm fa sa aa ia sf mb mr mk mr hW 1 1) (cwV 3 hts gX4_gain_X4_goes rfl rfl rfl (by decide +kernel) ⟨Nat.le_of_ble_eq_true rfl, Nat.le_of_ble_eq_true rfl⟩) (kd_preV hP hD hK hS hA hE hI hW.tm rfl rfl) rfl rfl hl.1 rfl (lv_room (Nat.le_of_ble_eq_true rfl)) dX4_gain_68 ⟨Nat.le_of_ble_eq_true rfl, Nat.le_of_ble_eq_true rfl⟩) hD hS hA (fun r_147 u_146 H locs hw hP hD hS => ?_)
          obtain ⟨rfl, hI⟩ := hw
          have hF := hF.trans (kFr.up (P := kPx) (w := .int 1) (k := 0) hW.tm rfl)
          have hW := hW.frw (kFr.up (P := kPy mr) (w := .int 1) (k := 0) hW.tm rfl)
          refine lv_if_ne (tgt := 76) hx hb dX4_gain_71 (by decide) (fun h9 => by first | exact absurd h9 (by decide) | exact absurd (by decide) h9) (fun _ => ?_)
          refine lv_iconst (v := 0) hx hb dX4_gain_74 (by decide) ?_
          refine W.widen (k := 0) (n := 0) (Nat.le_of_ble_eq_true rfl) (Nat.le_of_ble_eq_true rfl) ?_
          exact W.iret (v := 0) hx hb hr (fun t ht hW9 => ⟨⟨0, (u_146.1, u_146.2), rfl, ⟨_, _, hF, hW, hI⟩, by rw [ht]; exact hP, va_K.moved hW9.alike hK, hD⟩, hS.F ht⟩) hS.2.2 dX4_gain_75
        · refine lv_if_eq (tgt := 66) hx hb dX4_gain_59 (by decide) (fun _ => ?_) (fun h9 => by first | exact absurd h9 (by decide) | exact absurd (by decide) h9)
          refine lv_iconst (v := 0) hx hb dX4_gain_66 (by decide) ?_
          refine lv_iconst (v := 1) hx hb dX4_gain_67 (by decide) ?_
          refine kd_calli (va_runV (As := [.int 0, .int 0, .int 1]) (rest := []) ⟨hx, hb, hml, hown, hts⟩ (k_goes2 l dC dI dA ad _ τ pv _ _ hI mm fa sa aa ia sf mb mr mk mr hW 0 1) (cwV 3 hts gX4_gain_X4_goes rfl rfl rfl (by decide +kernel) ⟨Nat.le_of_ble_eq_true rfl, Nat.le_of_ble_eq_true rfl⟩) (kd_preV hP hD hK hS hA hE hI hW.tm rfl rfl) rfl rfl hl.1 rfl (lv_room (Nat.le_of_ble_eq_true rfl)) dX4_gain_68 ⟨Nat.le_of_ble_eq_true rfl, Nat.le_of_ble_eq_true rfl⟩) hD hS hA (fun r_149 u_148 H locs hw hP hD hS => ?_)
          obtain ⟨rfl, hI⟩ := hw
          have hF := hF.trans (kFr.up (P := kPx) (w := .int 1) (k := 0) hW.tm rfl)
          have hW := hW.frw (kFr.up (P := kPy mr) (w := .int 1) (k := 0) hW.tm rfl)
          refine lv_if_ne (tgt := 76) hx hb dX4_gain_71 (by decide) (fun h9 => by first | exact absurd h9 (by decide) | exact absurd (by decide) h9) (fun _ => ?_)
          refine lv_iconst (v := 0) hx hb dX4_gain_74 (by decide) ?_
          refine W.widen (k := 0) (n := 0) (Nat.le_of_ble_eq_true rfl) (Nat.le_of_ble_eq_true rfl) ?_
          exact W.iret (v := 0) hx hb hr (fun t ht hW9 => ⟨⟨0, (u_148.1, u_148.2), rfl, ⟨_, _, hF, hW, hI⟩, by rw [ht]; exact hP, va_K.moved hW9.alike hK, hD⟩, hS.F ht⟩) hS.2.2 dX4_gain_75
      · refine lv_if_eq (tgt := 66) hx hb dX4_gain_47 (by decide) (fun _ => ?_) (fun h9 => by first | exact absurd h9 (by decide) | exact absurd (by decide) h9)
        refine lv_iconst (v := 0) hx hb dX4_gain_66 (by decide) ?_
        refine lv_iconst (v := 1) hx hb dX4_gain_67 (by decide) ?_
        refine kd_calli (va_runV (As := [.int 0, .int 0, .int 1]) (rest := []) ⟨hx, hb, hml, hown, hts⟩ (k_goes2 l dC dI dA ad _ τ pv _ _ hI mm fa sa aa ia sf mb mr mk mr hW 0 1) (cwV 3 hts gX4_gain_X4_goes rfl rfl rfl (by decide +kernel) ⟨Nat.le_of_ble_eq_true rfl, Nat.le_of_ble_eq_true rfl⟩) (kd_preV hP hD hK hS hA hE hI hW.tm rfl rfl) rfl rfl hl.1 rfl (lv_room (Nat.le_of_ble_eq_true rfl)) dX4_gain_68 ⟨Nat.le_of_ble_eq_true rfl, Nat.le_of_ble_eq_true rfl⟩) hD hS hA (fun r_151 u_150 H locs hw hP hD hS => ?_)
        obtain ⟨rfl, hI⟩ := hw
        have hF := hF.trans (kFr.up (P := kPx) (w := .int 1) (k := 0) hW.tm rfl)
        have hW := hW.frw (kFr.up (P := kPy mr) (w := .int 1) (k := 0) hW.tm rfl)
        refine lv_if_ne (tgt := 76) hx hb dX4_gain_71 (by decide) (fun h9 => by first | exact absurd h9 (by decide) | exact absurd (by decide) h9) (fun _ => ?_)
        refine lv_iconst (v := 0) hx hb dX4_gain_74 (by decide) ?_
        refine W.widen (k := 0) (n := 0) (Nat.le_of_ble_eq_true rfl) (Nat.le_of_ble_eq_true rfl) ?_
        exact W.iret (v := 0) hx hb hr (fun t ht hW9 => ⟨⟨0, (u_150.1, u_150.2), rfl, ⟨_, _, hF, hW, hI⟩, by rw [ht]; exact hP, va_K.moved hW9.alike hK, hD⟩, hS.F ht⟩) hS.2.2 dX4_gain_75
    · refine lv_if_eq (tgt := 66) hx hb dX4_gain_35 (by decide) (fun _ => ?_) (fun h9 => by first | exact absurd h9 (by decide) | exact absurd (by decide) h9)
      refine lv_iconst (v := 0) hx hb dX4_gain_66 (by decide) ?_
      refine lv_iconst (v := 1) hx hb dX4_gain_67 (by decide) ?_
      refine kd_calli (va_runV (As := [.int 0, .int 0, .int 1]) (rest := []) ⟨hx, hb, hml, hown, hts⟩ (k_goes2 l dC dI dA ad _ τ pv _ _ hI mm fa sa aa ia sf mb mr mk mr hW 0 1) (cwV 3 hts gX4_gain_X4_goes rfl rfl rfl (by decide +kernel) ⟨Nat.le_of_ble_eq_true rfl, Nat.le_of_ble_eq_true rfl⟩) (kd_preV hP hD hK hS hA hE hI hW.tm rfl rfl) rfl rfl hl.1 rfl (lv_room (Nat.le_of_ble_eq_true rfl)) dX4_gain_68 ⟨Nat.le_of_ble_eq_true rfl, Nat.le_of_ble_eq_true rfl⟩) hD hS hA (fun r_153 u_152 H locs hw hP hD hS => ?_)
      obtain ⟨rfl, hI⟩ := hw
      have hF := hF.trans (kFr.up (P := kPx) (w := .int 1) (k := 0) hW.tm rfl)
      have hW := hW.frw (kFr.up (P := kPy mr) (w := .int 1) (k := 0) hW.tm rfl)
      refine lv_if_ne (tgt := 76) hx hb dX4_gain_71 (by decide) (fun h9 => by first | exact absurd h9 (by decide) | exact absurd (by decide) h9) (fun _ => ?_)
      refine lv_iconst (v := 0) hx hb dX4_gain_74 (by decide) ?_
      refine W.widen (k := 0) (n := 0) (Nat.le_of_ble_eq_true rfl) (Nat.le_of_ble_eq_true rfl) ?_
      exact W.iret (v := 0) hx hb hr (fun t ht hW9 => ⟨⟨0, (u_152.1, u_152.2), rfl, ⟨_, _, hF, hW, hI⟩, by rw [ht]; exact hP, va_K.moved hW9.alike hK, hD⟩, hS.F ht⟩) hS.2.2 dX4_gain_75
set_option maxHeartbeats 4000000 in
set_option maxRecDepth 100000 in
theorem m_p_wake (l : Launch) (dC : Nat → ClassId) (dI : Nat → Nat → Nat) (dA : Nat → ClassId) (ad sz : Nat) (τ : Nat → Nat → Nat) (pv : Nat → Nat → Value) (L : List Nat) (f : Nat → va_E) (hI : kI dA τ pv L f) (mm fa sa aa ia sf mb mr mk : Nat) (hW : kMd τ pv mm fa sa aa ia sf mb mr mk mr) (n : Int32) : Met l yX4_wake wsX4_wake ({ frames := 1, cells := 0, slots := 0, locals := 23 } : Room) (va_Pc [.ref mm, .int n] (kB dC dI dA ad sz L f)) (va_Qi (fun r u => kPostM dA τ pv mm fa sa aa ia sf mb mr u) (kR dC dI dA (va_A (va_pl L f) sz)) (va_A (va_pl L f) sz)) 0 0 (va_A (va_pl L f) sz) := by
  refine Met.ofW (cc := cX4_wake) (maxL := 3) (ret := (some .boolean)) (by decide) rfl ?_
  intro p e s m args below meth c s₁ B hml hv
  obtain ⟨rfl, hsz, hP, hK, hD0, hE⟩ := hv
  have hx := B.exec
  have hb := B.bytes
  have hr := B.returns
  have hts := atoms_spec (ws := wsX4_wake) B.pre
  have hown : s.vm.findClass RX4 = some m.cls := findClass_of_methodNamed B.named
  have hlocks := B.notSynchronized
  have i_X4 : ∀ w ∈ u_ws RX4 TX4 35, w ∈ wsX4_wake := by decide +kernel
  subst hsz
  have hD := hD0.self (sz := s.heap.size)
  generalize hAe : va_A (va_pl L f) s.heap.size = A at hD hE ⊢
  have hA : ∀ q : Nat, s.heap.size ≤ q → A q := fun q h => by rw [← hAe]; exact Or.inr h
  have hS : va_S A s.heap s.heap [] := va_S.rf
  have hP : va_P (dC, dI) vwCl (va_pl L f) s.heap := hP
  have hK : va_K (dC, dI) vwCl (tyA dA) s := hK
  have hl := lv_entry ([.ref mm, .int n]) (n := 3) (Nat.le_of_ble_eq_true rfl)
  rw [lg_entry_eq]
  generalize (lg_sl ([.ref mm, .int n]) ++ List.replicate (3 - (lg_sl ([.ref mm, .int n])).length) Slot.unset).toArray = ls at hl ⊢
  have hl : lv_has ls 3 [(0, .ref mm), (1, .int n)] := hl
  have hnb := hW.lb
  have hnr := hW.lr
  have hnk := hW.lk
  have hni := hW.li
  have hF : kFr kPx τ pv τ pv := kFr.rf
  refine lv_aload_n hx hb dX4_wake_0 rfl (lv_at hl 0 rfl) ?_
  refine lv_aload_n hx hb dX4_wake_1 rfl (lv_at hl 0 rfl) ?_
  refine lv_iload_n hx hb dX4_wake_2 rfl (lv_at hl 1 rfl) ?_
  refine kd_calli (va_runV (As := [.int n]) (rest := [.ref mm]) ⟨hx, hb, hml, hown, hts⟩ (k_known l dC dI dA ad _ τ pv _ _ hI mm fa sa aa ia sf mb mr mk mr hW n) (cwV 1 hts gX4_wake_X4_known rfl rfl rfl (by decide +kernel) ⟨Nat.le_of_ble_eq_true rfl, Nat.le_of_ble_eq_true rfl⟩) (kd_preV hP hD hK hS hA hE hI hW.tm rfl rfl) rfl rfl hl.1 rfl (lv_room (Nat.le_of_ble_eq_true rfl)) dX4_wake_3 ⟨Nat.le_of_ble_eq_true rfl, Nat.le_of_ble_eq_true rfl⟩) hD hS hA (fun r_2 u_1 H locs hw hP hD hS => ?_)
  obtain ⟨⟨rfl, ⟨j_3, hj_3, rfl⟩⟩ | ⟨rfl, h_4⟩, hI⟩ := hw
  · refine lv_iconst (v := 1) hx hb dX4_wake_6 (by decide) ?_
    refine lv_iconst (v := 1) hx hb dX4_wake_7 (by decide) ?_
    refine kd_calli (va_runV (As := [.int 1, .int 1, .int 1]) (rest := []) ⟨hx, hb, hml, hown, hts⟩ (k_goes1 l dC dI dA ad _ τ pv _ _ hI mm fa sa aa ia sf mb mr mk mr hW ) (cwV 3 hts gX4_wake_X4_goes rfl rfl rfl (by decide +kernel) ⟨Nat.le_of_ble_eq_true rfl, Nat.le_of_ble_eq_true rfl⟩) (kd_preV hP hD hK hS hA hE hI hW.tm rfl rfl) rfl rfl hl.1 rfl (lv_room (Nat.le_of_ble_eq_true rfl)) dX4_wake_8 ⟨Nat.le_of_ble_eq_true rfl, Nat.le_of_ble_eq_true rfl⟩) hD hS hA (fun r_6 u_5 H locs hw hP hD hS => ?_)
    obtain ⟨rfl, hI⟩ := hw
    have hF := hF.trans (kFr.up (P := kPx) (w := .int 0) (k := 0) hW.tm rfl)
    have hW := hW.frw (kFr.up (P := kPy mr) (w := .int 0) (k := 0) hW.tm rfl)
    refine lv_if_ne (tgt := 16) hx hb dX4_wake_11 (by decide) (fun _ => ?_) (fun h9 => by first | exact absurd h9 (by decide) | exact absurd (by decide) h9)
    refine lv_aload_n hx hb dX4_wake_16 rfl (lv_at hl 0 rfl) ?_
    refine kp_get hx hb hts i_X4 hown hK hP hI hW.tm rfl rfl 3 (by decide) (by decide) (hts (.fieldLink RX4 13 "IslandSolverModel" "asleep" "[Z") (by decide +kernel)) (fun _ h9 => h9) dX4_wake_17 (kq_RE 16 (by decide) fun x_7 h_8_e h_8 => ?_)
    refine lv_iload_n hx hb dX4_wake_20 rfl (lv_at hl 1 rfl) ?_
    have hj_9 : j_3 < τ 3 x_7 := by rw [show τ 3 x_7 = 256 from (hI.arr h_8 rfl).2.1]; omega
    refine W.eq (g2 := F0 m 21 ls (.int (nI (j_3)) :: .ref x_7 :: [])) rfl ?_
    refine kp_zald (j := j_3) hx hb hK hP hI h_8 rfl hj_9 dX4_wake_21 (ka_Z fun x_10 h_11 => ?_)
    refine lv_istore_n (lv' := [(2, .int x_10), (0, .ref mm), (1, .int (nI j_3))]) hx hb dX4_wake_22 rfl hl (by decide) rfl (fun ls hl => ?_)
    refine lv_aload_n hx hb dX4_wake_23 rfl (lv_at hl 1 rfl) ?_
    refine lv_iload_n hx hb dX4_wake_24 rfl (lv_at hl 2 rfl) ?_
    refine kd_callv (va_runV (As := [.int (nI j_3)]) (rest := []) ⟨hx, hb, hml, hown, hts⟩ (k_rouse4 l dC dI dA ad _ τ (kup pv mm 0 (.int 0)) _ _ hI mm fa sa aa ia sf mb mr mk mr hW j_3 (by omega)) (cwV 1 hts gX4_wake_X4_rouse rfl rfl rfl (by decide +kernel) ⟨Nat.le_of_ble_eq_true rfl, Nat.le_of_ble_eq_true rfl⟩) (kd_preV hP hD hK hS hA hE hI hW.tm rfl rfl) rfl rfl hl.1 rfl (lv_room (Nat.le_of_ble_eq_true rfl)) dX4_wake_25 ⟨Nat.le_of_ble_eq_true rfl, Nat.le_of_ble_eq_true rfl⟩) hD hS hA (fun u_12 H locs hw hP hD hS => ?_)
    have hI := hw
    refine lv_iload_n hx hb dX4_wake_28 rfl (lv_at hl 0 rfl) ?_
    refine W.widen (k := 0) (n := 0) (Nat.le_of_ble_eq_true rfl) (Nat.le_of_ble_eq_true rfl) ?_
    exact W.zret (ty := .boolean) (v := x_10) hx hb hr (kz_nar h_11) (fun t ht hW9 => ⟨⟨x_10, (u_12.1, u_12.2), rfl, ⟨_, _, hF, hW, hI⟩, by rw [ht]; exact hP, va_K.moved hW9.alike hK, hD⟩, hS.F ht⟩) hS.2.2 dX4_wake_29
  · refine lv_iconst (v := 1) hx hb dX4_wake_6 (by decide) ?_
    refine lv_iconst (v := 1) hx hb dX4_wake_7 (by decide) ?_
    refine kd_calli (va_runV (As := [.int 0, .int 1, .int 1]) (rest := []) ⟨hx, hb, hml, hown, hts⟩ (k_goes2 l dC dI dA ad _ τ pv _ _ hI mm fa sa aa ia sf mb mr mk mr hW 1 1) (cwV 3 hts gX4_wake_X4_goes rfl rfl rfl (by decide +kernel) ⟨Nat.le_of_ble_eq_true rfl, Nat.le_of_ble_eq_true rfl⟩) (kd_preV hP hD hK hS hA hE hI hW.tm rfl rfl) rfl rfl hl.1 rfl (lv_room (Nat.le_of_ble_eq_true rfl)) dX4_wake_8 ⟨Nat.le_of_ble_eq_true rfl, Nat.le_of_ble_eq_true rfl⟩) hD hS hA (fun r_14 u_13 H locs hw hP hD hS => ?_)
    obtain ⟨rfl, hI⟩ := hw
    have hF := hF.trans (kFr.up (P := kPx) (w := .int 1) (k := 0) hW.tm rfl)
    have hW := hW.frw (kFr.up (P := kPy mr) (w := .int 1) (k := 0) hW.tm rfl)
    refine lv_if_ne (tgt := 16) hx hb dX4_wake_11 (by decide) (fun h9 => by first | exact absurd h9 (by decide) | exact absurd (by decide) h9) (fun _ => ?_)
    refine lv_iconst (v := 0) hx hb dX4_wake_14 (by decide) ?_
    refine W.widen (k := 0) (n := 0) (Nat.le_of_ble_eq_true rfl) (Nat.le_of_ble_eq_true rfl) ?_
    exact W.zret (ty := .boolean) (v := 0) hx hb hr rfl (fun t ht hW9 => ⟨⟨0, (u_13.1, u_13.2), rfl, ⟨_, _, hF, hW, hI⟩, by rw [ht]; exact hP, va_K.moved hW9.alike hK, hD⟩, hS.F ht⟩) hS.2.2 dX4_wake_15
set_option maxHeartbeats 4000000 in
set_option maxRecDepth 100000 in
theorem m_p_vector (l : Launch) (dC : Nat → ClassId) (dI : Nat → Nat → Nat) (dA : Nat → ClassId) (ad sz : Nat) (τ : Nat → Nat → Nat) (pv : Nat → Nat → Value) (L : List Nat) (f : Nat → va_E) (hI : kI dA τ pv L f) (mm fa sa aa ia sf mb mr mk : Nat) (hW : kMd τ pv mm fa sa aa ia sf mb mr mk mr) (n : Int32) (a : UInt32) (b : UInt32) (c9 : UInt32) : Met l yX4_vector wsX4_vector ({ frames := 1, cells := 0, slots := 0, locals := 23 } : Room) (va_Pc [.ref mm, .int n, .float a, .float b, .float c9] (kB dC dI dA ad sz L f)) (va_Qv (fun u => kPostT dA τ pv mm fa sa aa ia sf mb mr (kc_vector n a b c9) u) (kR dC dI dA (va_A (va_pl L f) sz)) (va_A (va_pl L f) sz)) 0 0 (va_A (va_pl L f) sz) := by
  refine Met.ofW (cc := cX4_vector) (maxL := 5) (ret := none) (by decide) rfl ?_
  intro p e s m args below meth c s₁ B hml hv
  obtain ⟨rfl, hsz, hP, hK, hD0, hE⟩ := hv
  have hx := B.exec
  have hb := B.bytes
  have hr := B.returns
  have hts := atoms_spec (ws := wsX4_vector) B.pre
  have hown : s.vm.findClass RX4 = some m.cls := findClass_of_methodNamed B.named
  have hlocks := B.notSynchronized
  have i_X4 : ∀ w ∈ u_ws RX4 TX4 35, w ∈ wsX4_vector := by decide +kernel
  subst hsz
  have hD := hD0.self (sz := s.heap.size)
  generalize hAe : va_A (va_pl L f) s.heap.size = A at hD hE ⊢
  have hA : ∀ q : Nat, s.heap.size ≤ q → A q := fun q h => by rw [← hAe]; exact Or.inr h
  have hS : va_S A s.heap s.heap [] := va_S.rf
  have hP : va_P (dC, dI) vwCl (va_pl L f) s.heap := hP
  have hK : va_K (dC, dI) vwCl (tyA dA) s := hK
  have hl := lv_entry ([.ref mm, .int n, .float a, .float b, .float c9]) (n := 5) (Nat.le_of_ble_eq_true rfl)
  rw [lg_entry_eq]
  generalize (lg_sl ([.ref mm, .int n, .float a, .float b, .float c9]) ++ List.replicate (5 - (lg_sl ([.ref mm, .int n, .float a, .float b, .float c9])).length) Slot.unset).toArray = ls at hl ⊢
  have hl : lv_has ls 5 [(0, .ref mm), (1, .int n), (2, .float a), (3, .float b), (4, .float c9)] := hl
  have hnb := hW.lb
  have hnr := hW.lr
  have hnk := hW.lk
  have hni := hW.li
  have hF : kFr kPx τ pv τ pv := kFr.rf
  refine lv_aload_n hx hb dX4_vector_0 rfl (lv_at hl 0 rfl) ?_
  refine lv_iload_n hx hb dX4_vector_1 rfl (lv_at hl 1 rfl) ?_
  refine lv_if_lt (tgt := 14) hx hb dX4_vector_2 (by decide) (fun c_1 => ?_) (fun c_1 => ?_)
  · refine lv_iconst (v := 0) hx hb dX4_vector_14 (by decide) ?_
    refine lv_fload_n hx hb dX4_vector_15 rfl (lv_at hl 2 rfl) ?_
    refine lv_ldcf (v := 3263168512) hx hb hown (hts (.constantFloat RX4 117 (3263168512)) (by decide +kernel)) dX4_vector_16 ?_
    have hc_2 : fb 1115684864 3263168512 := by unfold fb; decide +kernel
    refine lv_ldcf (v := 1115684864) hx hb hown (hts (.constantFloat RX4 118 (1115684864)) (by decide +kernel)) dX4_vector_18 ?_
    have hc_3 : fb 1115684864 1115684864 := by unfold fb; decide +kernel
    refine kd_calli (va_runS (As := [.float a, .float 3263168512, .float 1115684864]) (rest := [.int 0, .ref mm]) ⟨hx, hb, hml, hown, hts⟩ (k_within l dC dI dA ad _ τ pv _ _ hI a 3263168512 1115684864) (va_cwS 3 hts gX4_vector_X4_within rfl rfl rfl (by decide +kernel) ⟨Nat.le_of_ble_eq_true rfl, Nat.le_of_ble_eq_true rfl⟩) (kd_preS hP hD hK hS hA hE) rfl rfl hl.1 rfl (lv_room (Nat.le_of_ble_eq_true rfl)) dX4_vector_20 ⟨Nat.le_of_ble_eq_true rfl, Nat.le_of_ble_eq_true rfl⟩) hD hS hA (fun r_5 u_4 H locs hw hP hD hS => ?_)
    obtain ⟨⟨k_6, rfl⟩ | ⟨k_6, rfl⟩, hI⟩ := hw
    · have fb_7 : fb 1115684864 a := fb_within hc_2 hc_3 (by decide) k_6
      refine lv_if_eq (tgt := 53) hx hb dX4_vector_23 (by decide) (fun h9 => by first | exact absurd h9 (by decide) | exact absurd (by decide) h9) (fun _ => ?_)
      refine lv_fload_n hx hb dX4_vector_26 rfl (lv_at hl 3 rfl) ?_
      refine lv_ldcf (v := 3263168512) hx hb hown (hts (.constantFloat RX4 117 (3263168512)) (by decide +kernel)) dX4_vector_27 ?_
      have hc_8 : fb 1115684864 3263168512 := by unfold fb; decide +kernel
      refine lv_ldcf (v := 1115684864) hx hb hown (hts (.constantFloat RX4 118 (1115684864)) (by decide +kernel)) dX4_vector_29 ?_
      have hc_9 : fb 1115684864 1115684864 := by unfold fb; decide +kernel
      refine kd_calli (va_runS (As := [.float b, .float 3263168512, .float 1115684864]) (rest := [.int 0, .ref mm]) ⟨hx, hb, hml, hown, hts⟩ (k_within l dC dI dA ad _ τ pv _ _ hI b 3263168512 1115684864) (va_cwS 3 hts gX4_vector_X4_within rfl rfl rfl (by decide +kernel) ⟨Nat.le_of_ble_eq_true rfl, Nat.le_of_ble_eq_true rfl⟩) (kd_preS hP hD hK hS hA hE) rfl rfl hl.1 rfl (lv_room (Nat.le_of_ble_eq_true rfl)) dX4_vector_31 ⟨Nat.le_of_ble_eq_true rfl, Nat.le_of_ble_eq_true rfl⟩) hD hS hA (fun r_11 u_10 H locs hw hP hD hS => ?_)
      obtain ⟨⟨k_12, rfl⟩ | ⟨k_12, rfl⟩, hI⟩ := hw
      · have fb_13 : fb 1115684864 b := fb_within hc_8 hc_9 (by decide) k_12
        refine lv_if_eq (tgt := 53) hx hb dX4_vector_34 (by decide) (fun h9 => by first | exact absurd h9 (by decide) | exact absurd (by decide) h9) (fun _ => ?_)
        refine lv_fload hx hb dX4_vector_37 (lv_at hl 4 rfl) ?_
        refine lv_ldcf (v := 3263168512) hx hb hown (hts (.constantFloat RX4 117 (3263168512)) (by decide +kernel)) dX4_vector_39 ?_
        have hc_14 : fb 1115684864 3263168512 := by unfold fb; decide +kernel
        refine lv_ldcf (v := 1115684864) hx hb hown (hts (.constantFloat RX4 118 (1115684864)) (by decide +kernel)) dX4_vector_41 ?_
        have hc_15 : fb 1115684864 1115684864 := by unfold fb; decide +kernel
        refine kd_calli (va_runS (As := [.float c9, .float 3263168512, .float 1115684864]) (rest := [.int 0, .ref mm]) ⟨hx, hb, hml, hown, hts⟩ (k_within l dC dI dA ad _ τ pv _ _ hI c9 3263168512 1115684864) (va_cwS 3 hts gX4_vector_X4_within rfl rfl rfl (by decide +kernel) ⟨Nat.le_of_ble_eq_true rfl, Nat.le_of_ble_eq_true rfl⟩) (kd_preS hP hD hK hS hA hE) rfl rfl hl.1 rfl (lv_room (Nat.le_of_ble_eq_true rfl)) dX4_vector_43 ⟨Nat.le_of_ble_eq_true rfl, Nat.le_of_ble_eq_true rfl⟩) hD hS hA (fun r_17 u_16 H locs hw hP hD hS => ?_)
        obtain ⟨⟨k_18, rfl⟩ | ⟨k_18, rfl⟩, hI⟩ := hw
        · have fb_19 : fb 1115684864 c9 := fb_within hc_14 hc_15 (by decide) k_18
          refine lv_if_eq (tgt := 53) hx hb dX4_vector_46 (by decide) (fun h9 => by first | exact absurd h9 (by decide) | exact absurd (by decide) h9) (fun _ => ?_)
          refine lv_iconst (v := 1) hx hb dX4_vector_49 (by decide) ?_
          refine lv_goto (tgt := 54) hx hb dX4_vector_50 (by decide) ?_
          refine lv_iconst (v := 1) hx hb dX4_vector_54 (by decide) ?_
          refine kd_calli (va_runV (As := [.int 0, .int 1, .int 1]) (rest := []) ⟨hx, hb, hml, hown, hts⟩ (k_goes2 l dC dI dA ad _ τ pv _ _ hI mm fa sa aa ia sf mb mr mk mr hW 1 1) (cwV 3 hts gX4_vector_X4_goes rfl rfl rfl (by decide +kernel) ⟨Nat.le_of_ble_eq_true rfl, Nat.le_of_ble_eq_true rfl⟩) (kd_preV hP hD hK hS hA hE hI hW.tm rfl rfl) rfl rfl hl.1 rfl (lv_room (Nat.le_of_ble_eq_true rfl)) dX4_vector_55 ⟨Nat.le_of_ble_eq_true rfl, Nat.le_of_ble_eq_true rfl⟩) hD hS hA (fun r_21 u_20 H locs hw hP hD hS => ?_)
          obtain ⟨rfl, hI⟩ := hw
          have hF := hF.trans (kFr.up (P := kPx) (w := .int 1) (k := 0) hW.tm rfl)
          have hW := hW.frw (kFr.up (P := kPy mr) (w := .int 1) (k := 0) hW.tm rfl)
          refine lv_if_eq (tgt := 93) hx hb dX4_vector_58 (by decide) (fun _ => ?_) (fun h9 => by first | exact absurd h9 (by decide) | exact absurd (by decide) h9)
          refine W.widen (k := 0) (n := 0) (Nat.le_of_ble_eq_true rfl) (Nat.le_of_ble_eq_true rfl) ?_
          exact W.vret hx hb hr (fun t ht hW9 => ⟨⟨(u_20.1, u_20.2), rfl, ⟨_, _, hF, hW, (Eq.trans kup_self (congrArg Value.int (Eq.symm (by simp only [kc_vector, kz_any, kf_neg64, c_1, k_6, k_12, k_18, decide_true, decide_false, Bool.not_true, Bool.not_false, Bool.and_true, Bool.true_and, Bool.and_false, Bool.false_and, Bool.and_self, Bool.false_eq_true, if_true, if_false, ite_true, ite_false, reduceIte] <;> decide)))), hI⟩, by rw [ht]; exact hP, va_K.moved hW9.alike hK, hD⟩, hS.F ht⟩) hS.2.2 dX4_vector_93
        · refine lv_if_eq (tgt := 53) hx hb dX4_vector_46 (by decide) (fun _ => ?_) (fun h9 => by first | exact absurd h9 (by decide) | exact absurd (by decide) h9)
          refine lv_iconst (v := 0) hx hb dX4_vector_53 (by decide) ?_
          refine lv_iconst (v := 1) hx hb dX4_vector_54 (by decide) ?_
          refine kd_calli (va_runV (As := [.int 0, .int 0, .int 1]) (rest := []) ⟨hx, hb, hml, hown, hts⟩ (k_goes2 l dC dI dA ad _ τ pv _ _ hI mm fa sa aa ia sf mb mr mk mr hW 0 1) (cwV 3 hts gX4_vector_X4_goes rfl rfl rfl (by decide +kernel) ⟨Nat.le_of_ble_eq_true rfl, Nat.le_of_ble_eq_true rfl⟩) (kd_preV hP hD hK hS hA hE hI hW.tm rfl rfl) rfl rfl hl.1 rfl (lv_room (Nat.le_of_ble_eq_true rfl)) dX4_vector_55 ⟨Nat.le_of_ble_eq_true rfl, Nat.le_of_ble_eq_true rfl⟩) hD hS hA (fun r_23 u_22 H locs hw hP hD hS => ?_)
          obtain ⟨rfl, hI⟩ := hw
          have hF := hF.trans (kFr.up (P := kPx) (w := .int 1) (k := 0) hW.tm rfl)
          have hW := hW.frw (kFr.up (P := kPy mr) (w := .int 1) (k := 0) hW.tm rfl)
          refine lv_if_eq (tgt := 93) hx hb dX4_vector_58 (by decide) (fun _ => ?_) (fun h9 => by first | exact absurd h9 (by decide) | exact absurd (by decide) h9)
          refine W.widen (k := 0) (n := 0) (Nat.le_of_ble_eq_true rfl) (Nat.le_of_ble_eq_true rfl) ?_
          exact W.vret hx hb hr (fun t ht hW9 => ⟨⟨(u_22.1, u_22.2), rfl, ⟨_, _, hF, hW, (Eq.trans kup_self (congrArg Value.int (Eq.symm (by simp only [kc_vector, kz_any, kf_neg64, c_1, k_6, k_12, k_18, decide_true, decide_false, Bool.not_true, Bool.not_false, Bool.and_true, Bool.true_and, Bool.and_false, Bool.false_and, Bool.and_self, Bool.false_eq_true, if_true, if_false, ite_true, ite_false, reduceIte] <;> decide)))), hI⟩, by rw [ht]; exact hP, va_K.moved hW9.alike hK, hD⟩, hS.F ht⟩) hS.2.2 dX4_vector_93
      · refine lv_if_eq (tgt := 53) hx hb dX4_vector_34 (by decide) (fun _ => ?_) (fun h9 => by first | exact absurd h9 (by decide) | exact absurd (by decide) h9)
        refine lv_iconst (v := 0) hx hb dX4_vector_53 (by decide) ?_
        refine lv_iconst (v := 1) hx hb dX4_vector_54 (by decide) ?_
        refine kd_calli (va_runV (As := [.int 0, .int 0, .int 1]) (rest := []) ⟨hx, hb, hml, hown, hts⟩ (k_goes2 l dC dI dA ad _ τ pv _ _ hI mm fa sa aa ia sf mb mr mk mr hW 0 1) (cwV 3 hts gX4_vector_X4_goes rfl rfl rfl (by decide +kernel) ⟨Nat.le_of_ble_eq_true rfl, Nat.le_of_ble_eq_true rfl⟩) (kd_preV hP hD hK hS hA hE hI hW.tm rfl rfl) rfl rfl hl.1 rfl (lv_room (Nat.le_of_ble_eq_true rfl)) dX4_vector_55 ⟨Nat.le_of_ble_eq_true rfl, Nat.le_of_ble_eq_true rfl⟩) hD hS hA (fun r_25 u_24 H locs hw hP hD hS => ?_)
        obtain ⟨rfl, hI⟩ := hw
        have hF := hF.trans (kFr.up (P := kPx) (w := .int 1) (k := 0) hW.tm rfl)
        have hW := hW.frw (kFr.up (P := kPy mr) (w := .int 1) (k := 0) hW.tm rfl)
        refine lv_if_eq (tgt := 93) hx hb dX4_vector_58 (by decide) (fun _ => ?_) (fun h9 => by first | exact absurd h9 (by decide) | exact absurd (by decide) h9)
        refine W.widen (k := 0) (n := 0) (Nat.le_of_ble_eq_true rfl) (Nat.le_of_ble_eq_true rfl) ?_
        exact W.vret hx hb hr (fun t ht hW9 => ⟨⟨(u_24.1, u_24.2), rfl, ⟨_, _, hF, hW, (Eq.trans kup_self (congrArg Value.int (Eq.symm (by simp only [kc_vector, kz_any, kf_neg64, c_1, k_6, k_12, decide_true, decide_false, Bool.not_true, Bool.not_false, Bool.and_true, Bool.true_and, Bool.and_false, Bool.false_and, Bool.and_self, Bool.false_eq_true, if_true, if_false, ite_true, ite_false, reduceIte] <;> decide)))), hI⟩, by rw [ht]; exact hP, va_K.moved hW9.alike hK, hD⟩, hS.F ht⟩) hS.2.2 dX4_vector_93
    · refine lv_if_eq (tgt := 53) hx hb dX4_vector_23 (by decide) (fun _ => ?_) (fun h9 => by first | exact absurd h9 (by decide) | exact absurd (by decide) h9)
      refine lv_iconst (v := 0) hx hb dX4_vector_53 (by decide) ?_
      refine lv_iconst (v := 1) hx hb dX4_vector_54 (by decide) ?_
      refine kd_calli (va_runV (As := [.int 0, .int 0, .int 1]) (rest := []) ⟨hx, hb, hml, hown, hts⟩ (k_goes2 l dC dI dA ad _ τ pv _ _ hI mm fa sa aa ia sf mb mr mk mr hW 0 1) (cwV 3 hts gX4_vector_X4_goes rfl rfl rfl (by decide +kernel) ⟨Nat.le_of_ble_eq_true rfl, Nat.le_of_ble_eq_true rfl⟩) (kd_preV hP hD hK hS hA hE hI hW.tm rfl rfl) rfl rfl hl.1 rfl (lv_room (Nat.le_of_ble_eq_true rfl)) dX4_vector_55 ⟨Nat.le_of_ble_eq_true rfl, Nat.le_of_ble_eq_true rfl⟩) hD hS hA (fun r_27 u_26 H locs hw hP hD hS => ?_)
      obtain ⟨rfl, hI⟩ := hw
      have hF := hF.trans (kFr.up (P := kPx) (w := .int 1) (k := 0) hW.tm rfl)
      have hW := hW.frw (kFr.up (P := kPy mr) (w := .int 1) (k := 0) hW.tm rfl)
      refine lv_if_eq (tgt := 93) hx hb dX4_vector_58 (by decide) (fun _ => ?_) (fun h9 => by first | exact absurd h9 (by decide) | exact absurd (by decide) h9)
      refine W.widen (k := 0) (n := 0) (Nat.le_of_ble_eq_true rfl) (Nat.le_of_ble_eq_true rfl) ?_
      exact W.vret hx hb hr (fun t ht hW9 => ⟨⟨(u_26.1, u_26.2), rfl, ⟨_, _, hF, hW, (Eq.trans kup_self (congrArg Value.int (Eq.symm (by simp only [kc_vector, kz_any, kf_neg64, c_1, k_6, decide_true, decide_false, Bool.not_true, Bool.not_false, Bool.and_true, Bool.true_and, Bool.and_false, Bool.false_and, Bool.and_self, Bool.false_eq_true, if_true, if_false, ite_true, ite_false, reduceIte] <;> decide)))), hI⟩, by rw [ht]; exact hP, va_K.moved hW9.alike hK, hD⟩, hS.F ht⟩) hS.2.2 dX4_vector_93
  · refine lv_iload_n hx hb dX4_vector_5 rfl (lv_at hl 1 rfl) ?_
    refine lv_iconst (v := 2) hx hb dX4_vector_6 (by decide) ?_
    refine lv_icmp_gt (tgt := 14) hx hb dX4_vector_7 (by decide) (fun c_28 => ?_) (fun c_28 => ?_)
    · refine lv_iconst (v := 0) hx hb dX4_vector_14 (by decide) ?_
      refine lv_fload_n hx hb dX4_vector_15 rfl (lv_at hl 2 rfl) ?_
      refine lv_ldcf (v := 3263168512) hx hb hown (hts (.constantFloat RX4 117 (3263168512)) (by decide +kernel)) dX4_vector_16 ?_
      have hc_29 : fb 1115684864 3263168512 := by unfold fb; decide +kernel
      refine lv_ldcf (v := 1115684864) hx hb hown (hts (.constantFloat RX4 118 (1115684864)) (by decide +kernel)) dX4_vector_18 ?_
      have hc_30 : fb 1115684864 1115684864 := by unfold fb; decide +kernel
      refine kd_calli (va_runS (As := [.float a, .float 3263168512, .float 1115684864]) (rest := [.int 0, .ref mm]) ⟨hx, hb, hml, hown, hts⟩ (k_within l dC dI dA ad _ τ pv _ _ hI a 3263168512 1115684864) (va_cwS 3 hts gX4_vector_X4_within rfl rfl rfl (by decide +kernel) ⟨Nat.le_of_ble_eq_true rfl, Nat.le_of_ble_eq_true rfl⟩) (kd_preS hP hD hK hS hA hE) rfl rfl hl.1 rfl (lv_room (Nat.le_of_ble_eq_true rfl)) dX4_vector_20 ⟨Nat.le_of_ble_eq_true rfl, Nat.le_of_ble_eq_true rfl⟩) hD hS hA (fun r_32 u_31 H locs hw hP hD hS => ?_)
      obtain ⟨⟨k_33, rfl⟩ | ⟨k_33, rfl⟩, hI⟩ := hw
      · have fb_34 : fb 1115684864 a := fb_within hc_29 hc_30 (by decide) k_33
        refine lv_if_eq (tgt := 53) hx hb dX4_vector_23 (by decide) (fun h9 => by first | exact absurd h9 (by decide) | exact absurd (by decide) h9) (fun _ => ?_)
        refine lv_fload_n hx hb dX4_vector_26 rfl (lv_at hl 3 rfl) ?_
        refine lv_ldcf (v := 3263168512) hx hb hown (hts (.constantFloat RX4 117 (3263168512)) (by decide +kernel)) dX4_vector_27 ?_
        have hc_35 : fb 1115684864 3263168512 := by unfold fb; decide +kernel
        refine lv_ldcf (v := 1115684864) hx hb hown (hts (.constantFloat RX4 118 (1115684864)) (by decide +kernel)) dX4_vector_29 ?_
        have hc_36 : fb 1115684864 1115684864 := by unfold fb; decide +kernel
        refine kd_calli (va_runS (As := [.float b, .float 3263168512, .float 1115684864]) (rest := [.int 0, .ref mm]) ⟨hx, hb, hml, hown, hts⟩ (k_within l dC dI dA ad _ τ pv _ _ hI b 3263168512 1115684864) (va_cwS 3 hts gX4_vector_X4_within rfl rfl rfl (by decide +kernel) ⟨Nat.le_of_ble_eq_true rfl, Nat.le_of_ble_eq_true rfl⟩) (kd_preS hP hD hK hS hA hE) rfl rfl hl.1 rfl (lv_room (Nat.le_of_ble_eq_true rfl)) dX4_vector_31 ⟨Nat.le_of_ble_eq_true rfl, Nat.le_of_ble_eq_true rfl⟩) hD hS hA (fun r_38 u_37 H locs hw hP hD hS => ?_)
        obtain ⟨⟨k_39, rfl⟩ | ⟨k_39, rfl⟩, hI⟩ := hw
        · have fb_40 : fb 1115684864 b := fb_within hc_35 hc_36 (by decide) k_39
          refine lv_if_eq (tgt := 53) hx hb dX4_vector_34 (by decide) (fun h9 => by first | exact absurd h9 (by decide) | exact absurd (by decide) h9) (fun _ => ?_)
          refine lv_fload hx hb dX4_vector_37 (lv_at hl 4 rfl) ?_
          refine lv_ldcf (v := 3263168512) hx hb hown (hts (.constantFloat RX4 117 (3263168512)) (by decide +kernel)) dX4_vector_39 ?_
          have hc_41 : fb 1115684864 3263168512 := by unfold fb; decide +kernel
          refine lv_ldcf (v := 1115684864) hx hb hown (hts (.constantFloat RX4 118 (1115684864)) (by decide +kernel)) dX4_vector_41 ?_
          have hc_42 : fb 1115684864 1115684864 := by unfold fb; decide +kernel
          refine kd_calli (va_runS (As := [.float c9, .float 3263168512, .float 1115684864]) (rest := [.int 0, .ref mm]) ⟨hx, hb, hml, hown, hts⟩ (k_within l dC dI dA ad _ τ pv _ _ hI c9 3263168512 1115684864) (va_cwS 3 hts gX4_vector_X4_within rfl rfl rfl (by decide +kernel) ⟨Nat.le_of_ble_eq_true rfl, Nat.le_of_ble_eq_true rfl⟩) (kd_preS hP hD hK hS hA hE) rfl rfl hl.1 rfl (lv_room (Nat.le_of_ble_eq_true rfl)) dX4_vector_43 ⟨Nat.le_of_ble_eq_true rfl, Nat.le_of_ble_eq_true rfl⟩) hD hS hA (fun r_44 u_43 H locs hw hP hD hS => ?_)
          obtain ⟨⟨k_45, rfl⟩ | ⟨k_45, rfl⟩, hI⟩ := hw
          · have fb_46 : fb 1115684864 c9 := fb_within hc_41 hc_42 (by decide) k_45
            refine lv_if_eq (tgt := 53) hx hb dX4_vector_46 (by decide) (fun h9 => by first | exact absurd h9 (by decide) | exact absurd (by decide) h9) (fun _ => ?_)
            refine lv_iconst (v := 1) hx hb dX4_vector_49 (by decide) ?_
            refine lv_goto (tgt := 54) hx hb dX4_vector_50 (by decide) ?_
            refine lv_iconst (v := 1) hx hb dX4_vector_54 (by decide) ?_
            refine kd_calli (va_runV (As := [.int 0, .int 1, .int 1]) (rest := []) ⟨hx, hb, hml, hown, hts⟩ (k_goes2 l dC dI dA ad _ τ pv _ _ hI mm fa sa aa ia sf mb mr mk mr hW 1 1) (cwV 3 hts gX4_vector_X4_goes rfl rfl rfl (by decide +kernel) ⟨Nat.le_of_ble_eq_true rfl, Nat.le_of_ble_eq_true rfl⟩) (kd_preV hP hD hK hS hA hE hI hW.tm rfl rfl) rfl rfl hl.1 rfl (lv_room (Nat.le_of_ble_eq_true rfl)) dX4_vector_55 ⟨Nat.le_of_ble_eq_true rfl, Nat.le_of_ble_eq_true rfl⟩) hD hS hA (fun r_48 u_47 H locs hw hP hD hS => ?_)
            obtain ⟨rfl, hI⟩ := hw
            have hF := hF.trans (kFr.up (P := kPx) (w := .int 1) (k := 0) hW.tm rfl)
            have hW := hW.frw (kFr.up (P := kPy mr) (w := .int 1) (k := 0) hW.tm rfl)
            refine lv_if_eq (tgt := 93) hx hb dX4_vector_58 (by decide) (fun _ => ?_) (fun h9 => by first | exact absurd h9 (by decide) | exact absurd (by decide) h9)
            refine W.widen (k := 0) (n := 0) (Nat.le_of_ble_eq_true rfl) (Nat.le_of_ble_eq_true rfl) ?_
            exact W.vret hx hb hr (fun t ht hW9 => ⟨⟨(u_47.1, u_47.2), rfl, ⟨_, _, hF, hW, (Eq.trans kup_self (congrArg Value.int (Eq.symm (by simp only [kc_vector, kz_any, kf_neg64, c_1, c_28, k_33, k_39, k_45, decide_true, decide_false, Bool.not_true, Bool.not_false, Bool.and_true, Bool.true_and, Bool.and_false, Bool.false_and, Bool.and_self, Bool.false_eq_true, if_true, if_false, ite_true, ite_false, reduceIte] <;> decide)))), hI⟩, by rw [ht]; exact hP, va_K.moved hW9.alike hK, hD⟩, hS.F ht⟩) hS.2.2 dX4_vector_93
          · refine lv_if_eq (tgt := 53) hx hb dX4_vector_46 (by decide) (fun _ => ?_) (fun h9 => by first | exact absurd h9 (by decide) | exact absurd (by decide) h9)
            refine lv_iconst (v := 0) hx hb dX4_vector_53 (by decide) ?_
            refine lv_iconst (v := 1) hx hb dX4_vector_54 (by decide) ?_
            refine kd_calli (va_runV (As := [.int 0, .int 0, .int 1]) (rest := []) ⟨hx, hb, hml, hown, hts⟩ (k_goes2 l dC dI dA ad _ τ pv _ _ hI mm fa sa aa ia sf mb mr mk mr hW 0 1) (cwV 3 hts gX4_vector_X4_goes rfl rfl rfl (by decide +kernel) ⟨Nat.le_of_ble_eq_true rfl, Nat.le_of_ble_eq_true rfl⟩) (kd_preV hP hD hK hS hA hE hI hW.tm rfl rfl) rfl rfl hl.1 rfl (lv_room (Nat.le_of_ble_eq_true rfl)) dX4_vector_55 ⟨Nat.le_of_ble_eq_true rfl, Nat.le_of_ble_eq_true rfl⟩) hD hS hA (fun r_50 u_49 H locs hw hP hD hS => ?_)
            obtain ⟨rfl, hI⟩ := hw
            have hF := hF.trans (kFr.up (P := kPx) (w := .int 1) (k := 0) hW.tm rfl)
            have hW := hW.frw (kFr.up (P := kPy mr) (w := .int 1) (k := 0) hW.tm rfl)
            refine lv_if_eq (tgt := 93) hx hb dX4_vector_58 (by decide) (fun _ => ?_) (fun h9 => by first | exact absurd h9 (by decide) | exact absurd (by decide) h9)
            refine W.widen (k := 0) (n := 0) (Nat.le_of_ble_eq_true rfl) (Nat.le_of_ble_eq_true rfl) ?_
            exact W.vret hx hb hr (fun t ht hW9 => ⟨⟨(u_49.1, u_49.2), rfl, ⟨_, _, hF, hW, (Eq.trans kup_self (congrArg Value.int (Eq.symm (by simp only [kc_vector, kz_any, kf_neg64, c_1, c_28, k_33, k_39, k_45, decide_true, decide_false, Bool.not_true, Bool.not_false, Bool.and_true, Bool.true_and, Bool.and_false, Bool.false_and, Bool.and_self, Bool.false_eq_true, if_true, if_false, ite_true, ite_false, reduceIte] <;> decide)))), hI⟩, by rw [ht]; exact hP, va_K.moved hW9.alike hK, hD⟩, hS.F ht⟩) hS.2.2 dX4_vector_93
        · refine lv_if_eq (tgt := 53) hx hb dX4_vector_34 (by decide) (fun _ => ?_) (fun h9 => by first | exact absurd h9 (by decide) | exact absurd (by decide) h9)
          refine lv_iconst (v := 0) hx hb dX4_vector_53 (by decide) ?_
          refine lv_iconst (v := 1) hx hb dX4_vector_54 (by decide) ?_
          refine kd_calli (va_runV (As := [.int 0, .int 0, .int 1]) (rest := []) ⟨hx, hb, hml, hown, hts⟩ (k_goes2 l dC dI dA ad _ τ pv _ _ hI mm fa sa aa ia sf mb mr mk mr hW 0 1) (cwV 3 hts gX4_vector_X4_goes rfl rfl rfl (by decide +kernel) ⟨Nat.le_of_ble_eq_true rfl, Nat.le_of_ble_eq_true rfl⟩) (kd_preV hP hD hK hS hA hE hI hW.tm rfl rfl) rfl rfl hl.1 rfl (lv_room (Nat.le_of_ble_eq_true rfl)) dX4_vector_55 ⟨Nat.le_of_ble_eq_true rfl, Nat.le_of_ble_eq_true rfl⟩) hD hS hA (fun r_52 u_51 H locs hw hP hD hS => ?_)
          obtain ⟨rfl, hI⟩ := hw
          have hF := hF.trans (kFr.up (P := kPx) (w := .int 1) (k := 0) hW.tm rfl)
          have hW := hW.frw (kFr.up (P := kPy mr) (w := .int 1) (k := 0) hW.tm rfl)
          refine lv_if_eq (tgt := 93) hx hb dX4_vector_58 (by decide) (fun _ => ?_) (fun h9 => by first | exact absurd h9 (by decide) | exact absurd (by decide) h9)
          refine W.widen (k := 0) (n := 0) (Nat.le_of_ble_eq_true rfl) (Nat.le_of_ble_eq_true rfl) ?_
          exact W.vret hx hb hr (fun t ht hW9 => ⟨⟨(u_51.1, u_51.2), rfl, ⟨_, _, hF, hW, (Eq.trans kup_self (congrArg Value.int (Eq.symm (by simp only [kc_vector, kz_any, kf_neg64, c_1, c_28, k_33, k_39, decide_true, decide_false, Bool.not_true, Bool.not_false, Bool.and_true, Bool.true_and, Bool.and_false, Bool.false_and, Bool.and_self, Bool.false_eq_true, if_true, if_false, ite_true, ite_false, reduceIte] <;> decide)))), hI⟩, by rw [ht]; exact hP, va_K.moved hW9.alike hK, hD⟩, hS.F ht⟩) hS.2.2 dX4_vector_93
      · refine lv_if_eq (tgt := 53) hx hb dX4_vector_23 (by decide) (fun _ => ?_) (fun h9 => by first | exact absurd h9 (by decide) | exact absurd (by decide) h9)
        refine lv_iconst (v := 0) hx hb dX4_vector_53 (by decide) ?_
        refine lv_iconst (v := 1) hx hb dX4_vector_54 (by decide) ?_
        refine kd_calli (va_runV (As := [.int 0, .int 0, .int 1]) (rest := []) ⟨hx, hb, hml, hown, hts⟩ (k_goes2 l dC dI dA ad _ τ pv _ _ hI mm fa sa aa ia sf mb mr mk mr hW 0 1) (cwV 3 hts gX4_vector_X4_goes rfl rfl rfl (by decide +kernel) ⟨Nat.le_of_ble_eq_true rfl, Nat.le_of_ble_eq_true rfl⟩) (kd_preV hP hD hK hS hA hE hI hW.tm rfl rfl) rfl rfl hl.1 rfl (lv_room (Nat.le_of_ble_eq_true rfl)) dX4_vector_55 ⟨Nat.le_of_ble_eq_true rfl, Nat.le_of_ble_eq_true rfl⟩) hD hS hA (fun r_54 u_53 H locs hw hP hD hS => ?_)
        obtain ⟨rfl, hI⟩ := hw
        have hF := hF.trans (kFr.up (P := kPx) (w := .int 1) (k := 0) hW.tm rfl)
        have hW := hW.frw (kFr.up (P := kPy mr) (w := .int 1) (k := 0) hW.tm rfl)
        refine lv_if_eq (tgt := 93) hx hb dX4_vector_58 (by decide) (fun _ => ?_) (fun h9 => by first | exact absurd h9 (by decide) | exact absurd (by decide) h9)
        refine W.widen (k := 0) (n := 0) (Nat.le_of_ble_eq_true rfl) (Nat.le_of_ble_eq_true rfl) ?_
        exact W.vret hx hb hr (fun t ht hW9 => ⟨⟨(u_53.1, u_53.2), rfl, ⟨_, _, hF, hW, (Eq.trans kup_self (congrArg Value.int (Eq.symm (by simp only [kc_vector, kz_any, kf_neg64, c_1, c_28, k_33, decide_true, decide_false, Bool.not_true, Bool.not_false, Bool.and_true, Bool.true_and, Bool.and_false, Bool.false_and, Bool.and_self, Bool.false_eq_true, if_true, if_false, ite_true, ite_false, reduceIte] <;> decide)))), hI⟩, by rw [ht]; exact hP, va_K.moved hW9.alike hK, hD⟩, hS.F ht⟩) hS.2.2 dX4_vector_93
    · refine lv_iconst (v := 1) hx hb dX4_vector_10 (by decide) ?_
      refine lv_goto (tgt := 15) hx hb dX4_vector_11 (by decide) ?_
      refine lv_fload_n hx hb dX4_vector_15 rfl (lv_at hl 2 rfl) ?_
      refine lv_ldcf (v := 3263168512) hx hb hown (hts (.constantFloat RX4 117 (3263168512)) (by decide +kernel)) dX4_vector_16 ?_
      have hc_55 : fb 1115684864 3263168512 := by unfold fb; decide +kernel
      refine lv_ldcf (v := 1115684864) hx hb hown (hts (.constantFloat RX4 118 (1115684864)) (by decide +kernel)) dX4_vector_18 ?_
      have hc_56 : fb 1115684864 1115684864 := by unfold fb; decide +kernel
      refine kd_calli (va_runS (As := [.float a, .float 3263168512, .float 1115684864]) (rest := [.int 1, .ref mm]) ⟨hx, hb, hml, hown, hts⟩ (k_within l dC dI dA ad _ τ pv _ _ hI a 3263168512 1115684864) (va_cwS 3 hts gX4_vector_X4_within rfl rfl rfl (by decide +kernel) ⟨Nat.le_of_ble_eq_true rfl, Nat.le_of_ble_eq_true rfl⟩) (kd_preS hP hD hK hS hA hE) rfl rfl hl.1 rfl (lv_room (Nat.le_of_ble_eq_true rfl)) dX4_vector_20 ⟨Nat.le_of_ble_eq_true rfl, Nat.le_of_ble_eq_true rfl⟩) hD hS hA (fun r_58 u_57 H locs hw hP hD hS => ?_)
      obtain ⟨⟨k_59, rfl⟩ | ⟨k_59, rfl⟩, hI⟩ := hw
      · have fb_60 : fb 1115684864 a := fb_within hc_55 hc_56 (by decide) k_59
        refine lv_if_eq (tgt := 53) hx hb dX4_vector_23 (by decide) (fun h9 => by first | exact absurd h9 (by decide) | exact absurd (by decide) h9) (fun _ => ?_)
        refine lv_fload_n hx hb dX4_vector_26 rfl (lv_at hl 3 rfl) ?_
        refine lv_ldcf (v := 3263168512) hx hb hown (hts (.constantFloat RX4 117 (3263168512)) (by decide +kernel)) dX4_vector_27 ?_
        have hc_61 : fb 1115684864 3263168512 := by unfold fb; decide +kernel
        refine lv_ldcf (v := 1115684864) hx hb hown (hts (.constantFloat RX4 118 (1115684864)) (by decide +kernel)) dX4_vector_29 ?_
        have hc_62 : fb 1115684864 1115684864 := by unfold fb; decide +kernel
        refine kd_calli (va_runS (As := [.float b, .float 3263168512, .float 1115684864]) (rest := [.int 1, .ref mm]) ⟨hx, hb, hml, hown, hts⟩ (k_within l dC dI dA ad _ τ pv _ _ hI b 3263168512 1115684864) (va_cwS 3 hts gX4_vector_X4_within rfl rfl rfl (by decide +kernel) ⟨Nat.le_of_ble_eq_true rfl, Nat.le_of_ble_eq_true rfl⟩) (kd_preS hP hD hK hS hA hE) rfl rfl hl.1 rfl (lv_room (Nat.le_of_ble_eq_true rfl)) dX4_vector_31 ⟨Nat.le_of_ble_eq_true rfl, Nat.le_of_ble_eq_true rfl⟩) hD hS hA (fun r_64 u_63 H locs hw hP hD hS => ?_)
        obtain ⟨⟨k_65, rfl⟩ | ⟨k_65, rfl⟩, hI⟩ := hw
        · have fb_66 : fb 1115684864 b := fb_within hc_61 hc_62 (by decide) k_65
          refine lv_if_eq (tgt := 53) hx hb dX4_vector_34 (by decide) (fun h9 => by first | exact absurd h9 (by decide) | exact absurd (by decide) h9) (fun _ => ?_)
          refine lv_fload hx hb dX4_vector_37 (lv_at hl 4 rfl) ?_
          refine lv_ldcf (v := 3263168512) hx hb hown (hts (.constantFloat RX4 117 (3263168512)) (by decide +kernel)) dX4_vector_39 ?_
          have hc_67 : fb 1115684864 3263168512 := by unfold fb; decide +kernel
          refine lv_ldcf (v := 1115684864) hx hb hown (hts (.constantFloat RX4 118 (1115684864)) (by decide +kernel)) dX4_vector_41 ?_
          have hc_68 : fb 1115684864 1115684864 := by unfold fb; decide +kernel
          refine kd_calli (va_runS (As := [.float c9, .float 3263168512, .float 1115684864]) (rest := [.int 1, .ref mm]) ⟨hx, hb, hml, hown, hts⟩ (k_within l dC dI dA ad _ τ pv _ _ hI c9 3263168512 1115684864) (va_cwS 3 hts gX4_vector_X4_within rfl rfl rfl (by decide +kernel) ⟨Nat.le_of_ble_eq_true rfl, Nat.le_of_ble_eq_true rfl⟩) (kd_preS hP hD hK hS hA hE) rfl rfl hl.1 rfl (lv_room (Nat.le_of_ble_eq_true rfl)) dX4_vector_43 ⟨Nat.le_of_ble_eq_true rfl, Nat.le_of_ble_eq_true rfl⟩) hD hS hA (fun r_70 u_69 H locs hw hP hD hS => ?_)
          obtain ⟨⟨k_71, rfl⟩ | ⟨k_71, rfl⟩, hI⟩ := hw
          · have fb_72 : fb 1115684864 c9 := fb_within hc_67 hc_68 (by decide) k_71
            refine lv_if_eq (tgt := 53) hx hb dX4_vector_46 (by decide) (fun h9 => by first | exact absurd h9 (by decide) | exact absurd (by decide) h9) (fun _ => ?_)
            refine lv_iconst (v := 1) hx hb dX4_vector_49 (by decide) ?_
            refine lv_goto (tgt := 54) hx hb dX4_vector_50 (by decide) ?_
            refine lv_iconst (v := 1) hx hb dX4_vector_54 (by decide) ?_
            refine kd_calli (va_runV (As := [.int 1, .int 1, .int 1]) (rest := []) ⟨hx, hb, hml, hown, hts⟩ (k_goes1 l dC dI dA ad _ τ pv _ _ hI mm fa sa aa ia sf mb mr mk mr hW ) (cwV 3 hts gX4_vector_X4_goes rfl rfl rfl (by decide +kernel) ⟨Nat.le_of_ble_eq_true rfl, Nat.le_of_ble_eq_true rfl⟩) (kd_preV hP hD hK hS hA hE hI hW.tm rfl rfl) rfl rfl hl.1 rfl (lv_room (Nat.le_of_ble_eq_true rfl)) dX4_vector_55 ⟨Nat.le_of_ble_eq_true rfl, Nat.le_of_ble_eq_true rfl⟩) hD hS hA (fun r_74 u_73 H locs hw hP hD hS => ?_)
            obtain ⟨rfl, hI⟩ := hw
            have hF := hF.trans (kFr.up (P := kPx) (w := .int 0) (k := 0) hW.tm rfl)
            have hW := hW.frw (kFr.up (P := kPy mr) (w := .int 0) (k := 0) hW.tm rfl)
            refine lv_if_eq (tgt := 93) hx hb dX4_vector_58 (by decide) (fun h9 => by first | exact absurd h9 (by decide) | exact absurd (by decide) h9) (fun _ => ?_)
            obtain ⟨j_75, hj_75, rfl⟩ := nI_of2 (M := 2) (n := 2) (by decide) c_1 (Int32.not_lt.mp c_28)
            refine lv_aload_n hx hb dX4_vector_61 rfl (lv_at hl 0 rfl) ?_
            refine kp_get hx hb hts i_X4 hown hK hP hI hW.tm rfl rfl 5 (by decide) (by decide) (hts (.fieldLink RX4 21 "IslandSolverModel" "pad" "[F") (by decide +kernel)) (fun _ h9 => h9) dX4_vector_62 (kq_RE 18 (by decide) fun x_76 h_77_e h_77 => ?_)
            refine lv_iconst (v := 3) hx hb dX4_vector_65 (by decide) ?_
            refine lv_iload_n hx hb dX4_vector_66 rfl (lv_at hl 1 rfl) ?_
            refine lv_imul hx hb dX4_vector_67 ?_
            refine lv_topi (nm_r (show (3 : Int32) * (nI j_75) = nI (3 * j_75) from pk_mul 3 j_75) ?_)
            refine lv_fload_n hx hb dX4_vector_68 rfl (lv_at hl 2 rfl) ?_
            have hj_78 : 3 * j_75 < τ 3 x_76 := by rw [show τ 3 x_76 = 9 from (hI.arr h_77 rfl).2.1]; omega
            refine W.eq (g2 := F0 m 69 ls (.float a :: .int (nI (3 * j_75)) :: .ref x_76 :: [])) rfl ?_
            refine kp_fastX (pv' := (kup pv mm 0 (.int 0))) (j := 3 * j_75) hx hb hK hP hD hS hI h_77 rfl hj_78 (fun _ _ _ => rfl) (show kPr _ 1115684864 _ _ from (kv_F (by decide) fb_60)) (kPn_not rfl (by decide)) dX4_vector_69 (fun f H locs hI hP hD hS => ?_)
            refine lv_aload_n hx hb dX4_vector_70 rfl (lv_at hl 0 rfl) ?_
            refine kp_get hx hb hts i_X4 hown hK hP hI hW.tm rfl rfl 5 (by decide) (by decide) (hts (.fieldLink RX4 21 "IslandSolverModel" "pad" "[F") (by decide +kernel)) (fun _ h9 => h9) dX4_vector_71 (kq_RE 18 (by decide) fun x_79 h_80_e h_80 => ?_)
            refine lv_iconst (v := 3) hx hb dX4_vector_74 (by decide) ?_
            refine lv_iload_n hx hb dX4_vector_75 rfl (lv_at hl 1 rfl) ?_
            refine lv_imul hx hb dX4_vector_76 ?_
            refine lv_topi (nm_r (show (3 : Int32) * (nI j_75) = nI (3 * j_75) from pk_mul 3 j_75) ?_)
            refine lv_iconst (v := 1) hx hb dX4_vector_77 (by decide) ?_
            refine lv_iadd hx hb dX4_vector_78 ?_
            refine lv_topi (nm_r (show (nI (3 * j_75)) + 1 = nI (3 * j_75 + 1) from nI_add (3 * j_75) 1) ?_)
            refine lv_fload_n hx hb dX4_vector_79 rfl (lv_at hl 3 rfl) ?_
            have hj_81 : 3 * j_75 + 1 < τ 3 x_79 := by rw [show τ 3 x_79 = 9 from (hI.arr h_80 rfl).2.1]; omega
            refine W.eq (g2 := F0 m 80 ls (.float b :: .int (nI (3 * j_75 + 1)) :: .ref x_79 :: [])) rfl ?_
            refine kp_fastX (pv' := (kup pv mm 0 (.int 0))) (j := 3 * j_75 + 1) hx hb hK hP hD hS hI h_80 rfl hj_81 (fun _ _ _ => rfl) (show kPr _ 1115684864 _ _ from (kv_F (by decide) fb_66)) (kPn_not rfl (by decide)) dX4_vector_80 (fun f H locs hI hP hD hS => ?_)
            refine lv_aload_n hx hb dX4_vector_81 rfl (lv_at hl 0 rfl) ?_
            refine kp_get hx hb hts i_X4 hown hK hP hI hW.tm rfl rfl 5 (by decide) (by decide) (hts (.fieldLink RX4 21 "IslandSolverModel" "pad" "[F") (by decide +kernel)) (fun _ h9 => h9) dX4_vector_82 (kq_RE 18 (by decide) fun x_82 h_83_e h_83 => ?_)
            refine lv_iconst (v := 3) hx hb dX4_vector_85 (by decide) ?_
            refine lv_iload_n hx hb dX4_vector_86 rfl (lv_at hl 1 rfl) ?_
            refine lv_imul hx hb dX4_vector_87 ?_
            refine lv_topi (nm_r (show (3 : Int32) * (nI j_75) = nI (3 * j_75) from pk_mul 3 j_75) ?_)
            refine lv_iconst (v := 2) hx hb dX4_vector_88 (by decide) ?_
            refine lv_iadd hx hb dX4_vector_89 ?_
            refine lv_topi (nm_r (show (nI (3 * j_75)) + 2 = nI (3 * j_75 + 2) from nI_add (3 * j_75) 2) ?_)
            refine lv_fload hx hb dX4_vector_90 (lv_at hl 4 rfl) ?_
            have hj_84 : 3 * j_75 + 2 < τ 3 x_82 := by rw [show τ 3 x_82 = 9 from (hI.arr h_83 rfl).2.1]; omega
            refine W.eq (g2 := F0 m 92 ls (.float c9 :: .int (nI (3 * j_75 + 2)) :: .ref x_82 :: [])) rfl ?_
            refine kp_fastX (pv' := (kup pv mm 0 (.int 0))) (j := 3 * j_75 + 2) hx hb hK hP hD hS hI h_83 rfl hj_84 (fun _ _ _ => rfl) (show kPr _ 1115684864 _ _ from (kv_F (by decide) fb_72)) (kPn_not rfl (by decide)) dX4_vector_92 (fun f H locs hI hP hD hS => ?_)
            refine W.widen (k := 0) (n := 0) (Nat.le_of_ble_eq_true rfl) (Nat.le_of_ble_eq_true rfl) ?_
            exact W.vret hx hb hr (fun t ht hW9 => ⟨⟨(u_73.1, f), rfl, ⟨_, _, hF, hW, (Eq.trans kup_self (congrArg Value.int (Eq.symm (by simp only [kc_vector, kz_any, kf_neg64, c_1, c_28, k_59, k_65, k_71, decide_true, decide_false, Bool.not_true, Bool.not_false, Bool.and_true, Bool.true_and, Bool.and_false, Bool.false_and, Bool.and_self, Bool.false_eq_true, if_true, if_false, ite_true, ite_false, reduceIte] <;> decide)))), hI⟩, by rw [ht]; exact hP, va_K.moved hW9.alike hK, hD⟩, hS.F ht⟩) hS.2.2 dX4_vector_93
          · refine lv_if_eq (tgt := 53) hx hb dX4_vector_46 (by decide) (fun _ => ?_) (fun h9 => by first | exact absurd h9 (by decide) | exact absurd (by decide) h9)
            refine lv_iconst (v := 0) hx hb dX4_vector_53 (by decide) ?_
            refine lv_iconst (v := 1) hx hb dX4_vector_54 (by decide) ?_
            refine kd_calli (va_runV (As := [.int 1, .int 0, .int 1]) (rest := []) ⟨hx, hb, hml, hown, hts⟩ (k_goes3 l dC dI dA ad _ τ pv _ _ hI mm fa sa aa ia sf mb mr mk mr hW 1) (cwV 3 hts gX4_vector_X4_goes rfl rfl rfl (by decide +kernel) ⟨Nat.le_of_ble_eq_true rfl, Nat.le_of_ble_eq_true rfl⟩) (kd_preV hP hD hK hS hA hE hI hW.tm rfl rfl) rfl rfl hl.1 rfl (lv_room (Nat.le_of_ble_eq_true rfl)) dX4_vector_55 ⟨Nat.le_of_ble_eq_true rfl, Nat.le_of_ble_eq_true rfl⟩) hD hS hA (fun r_86 u_85 H locs hw hP hD hS => ?_)
            obtain ⟨rfl, hI⟩ := hw
            have hF := hF.trans (kFr.up (P := kPx) (w := .int 2) (k := 0) hW.tm rfl)
            have hW := hW.frw (kFr.up (P := kPy mr) (w := .int 2) (k := 0) hW.tm rfl)
            refine lv_if_eq (tgt := 93) hx hb dX4_vector_58 (by decide) (fun _ => ?_) (fun h9 => by first | exact absurd h9 (by decide) | exact absurd (by decide) h9)
            refine W.widen (k := 0) (n := 0) (Nat.le_of_ble_eq_true rfl) (Nat.le_of_ble_eq_true rfl) ?_
            exact W.vret hx hb hr (fun t ht hW9 => ⟨⟨(u_85.1, u_85.2), rfl, ⟨_, _, hF, hW, (Eq.trans kup_self (congrArg Value.int (Eq.symm (by simp only [kc_vector, kz_any, kf_neg64, c_1, c_28, k_59, k_65, k_71, decide_true, decide_false, Bool.not_true, Bool.not_false, Bool.and_true, Bool.true_and, Bool.and_false, Bool.false_and, Bool.and_self, Bool.false_eq_true, if_true, if_false, ite_true, ite_false, reduceIte] <;> decide)))), hI⟩, by rw [ht]; exact hP, va_K.moved hW9.alike hK, hD⟩, hS.F ht⟩) hS.2.2 dX4_vector_93
        · refine lv_if_eq (tgt := 53) hx hb dX4_vector_34 (by decide) (fun _ => ?_) (fun h9 => by first | exact absurd h9 (by decide) | exact absurd (by decide) h9)
          refine lv_iconst (v := 0) hx hb dX4_vector_53 (by decide) ?_
          refine lv_iconst (v := 1) hx hb dX4_vector_54 (by decide) ?_
          refine kd_calli (va_runV (As := [.int 1, .int 0, .int 1]) (rest := []) ⟨hx, hb, hml, hown, hts⟩ (k_goes3 l dC dI dA ad _ τ pv _ _ hI mm fa sa aa ia sf mb mr mk mr hW 1) (cwV 3 hts gX4_vector_X4_goes rfl rfl rfl (by decide +kernel) ⟨Nat.le_of_ble_eq_true rfl, Nat.le_of_ble_eq_true rfl⟩) (kd_preV hP hD hK hS hA hE hI hW.tm rfl rfl) rfl rfl hl.1 rfl (lv_room (Nat.le_of_ble_eq_true rfl)) dX4_vector_55 ⟨Nat.le_of_ble_eq_true rfl, Nat.le_of_ble_eq_true rfl⟩) hD hS hA (fun r_88 u_87 H locs hw hP hD hS => ?_)
          obtain ⟨rfl, hI⟩ := hw
          have hF := hF.trans (kFr.up (P := kPx) (w := .int 2) (k := 0) hW.tm rfl)
          have hW := hW.frw (kFr.up (P := kPy mr) (w := .int 2) (k := 0) hW.tm rfl)
          refine lv_if_eq (tgt := 93) hx hb dX4_vector_58 (by decide) (fun _ => ?_) (fun h9 => by first | exact absurd h9 (by decide) | exact absurd (by decide) h9)
          refine W.widen (k := 0) (n := 0) (Nat.le_of_ble_eq_true rfl) (Nat.le_of_ble_eq_true rfl) ?_
          exact W.vret hx hb hr (fun t ht hW9 => ⟨⟨(u_87.1, u_87.2), rfl, ⟨_, _, hF, hW, (Eq.trans kup_self (congrArg Value.int (Eq.symm (by simp only [kc_vector, kz_any, kf_neg64, c_1, c_28, k_59, k_65, decide_true, decide_false, Bool.not_true, Bool.not_false, Bool.and_true, Bool.true_and, Bool.and_false, Bool.false_and, Bool.and_self, Bool.false_eq_true, if_true, if_false, ite_true, ite_false, reduceIte] <;> decide)))), hI⟩, by rw [ht]; exact hP, va_K.moved hW9.alike hK, hD⟩, hS.F ht⟩) hS.2.2 dX4_vector_93
      · refine lv_if_eq (tgt := 53) hx hb dX4_vector_23 (by decide) (fun _ => ?_) (fun h9 => by first | exact absurd h9 (by decide) | exact absurd (by decide) h9)
        refine lv_iconst (v := 0) hx hb dX4_vector_53 (by decide) ?_
        refine lv_iconst (v := 1) hx hb dX4_vector_54 (by decide) ?_
        refine kd_calli (va_runV (As := [.int 1, .int 0, .int 1]) (rest := []) ⟨hx, hb, hml, hown, hts⟩ (k_goes3 l dC dI dA ad _ τ pv _ _ hI mm fa sa aa ia sf mb mr mk mr hW 1) (cwV 3 hts gX4_vector_X4_goes rfl rfl rfl (by decide +kernel) ⟨Nat.le_of_ble_eq_true rfl, Nat.le_of_ble_eq_true rfl⟩) (kd_preV hP hD hK hS hA hE hI hW.tm rfl rfl) rfl rfl hl.1 rfl (lv_room (Nat.le_of_ble_eq_true rfl)) dX4_vector_55 ⟨Nat.le_of_ble_eq_true rfl, Nat.le_of_ble_eq_true rfl⟩) hD hS hA (fun r_90 u_89 H locs hw hP hD hS => ?_)
        obtain ⟨rfl, hI⟩ := hw
        have hF := hF.trans (kFr.up (P := kPx) (w := .int 2) (k := 0) hW.tm rfl)
        have hW := hW.frw (kFr.up (P := kPy mr) (w := .int 2) (k := 0) hW.tm rfl)
        refine lv_if_eq (tgt := 93) hx hb dX4_vector_58 (by decide) (fun _ => ?_) (fun h9 => by first | exact absurd h9 (by decide) | exact absurd (by decide) h9)
        refine W.widen (k := 0) (n := 0) (Nat.le_of_ble_eq_true rfl) (Nat.le_of_ble_eq_true rfl) ?_
        exact W.vret hx hb hr (fun t ht hW9 => ⟨⟨(u_89.1, u_89.2), rfl, ⟨_, _, hF, hW, (Eq.trans kup_self (congrArg Value.int (Eq.symm (by simp only [kc_vector, kz_any, kf_neg64, c_1, c_28, k_59, decide_true, decide_false, Bool.not_true, Bool.not_false, Bool.and_true, Bool.true_and, Bool.and_false, Bool.false_and, Bool.and_self, Bool.false_eq_true, if_true, if_false, ite_true, ite_false, reduceIte] <;> decide)))), hI⟩, by rw [ht]; exact hP, va_K.moved hW9.alike hK, hD⟩, hS.F ht⟩) hS.2.2 dX4_vector_93
set_option maxHeartbeats 4000000 in
set_option maxRecDepth 100000 in
theorem m_p_settings (l : Launch) (dC : Nat → ClassId) (dI : Nat → Nat → Nat) (dA : Nat → ClassId) (ad sz : Nat) (τ : Nat → Nat → Nat) (pv : Nat → Nat → Value) (L : List Nat) (f : Nat → va_E) (hI : kI dA τ pv L f) (mm fa sa aa ia sf mb mr mk : Nat) (hW : kMd τ pv mm fa sa aa ia sf mb mr mk mr) (n : Int32) (a : UInt32) (b : UInt32) (k : Int32) : Met l yX4_settings wsX4_settings ({ frames := 1, cells := 0, slots := 0, locals := 23 } : Room) (va_Pc [.ref mm, .int n, .float a, .float b, .int k] (kB dC dI dA ad sz L f)) (va_Qv (fun u => kPostT dA τ pv mm fa sa aa ia sf mb mr (kc_settings n a b k) u) (kR dC dI dA (va_A (va_pl L f) sz)) (va_A (va_pl L f) sz)) 0 0 (va_A (va_pl L f) sz) := by
  refine Met.ofW (cc := cX4_settings) (maxL := 5) (ret := none) (by decide) rfl ?_
  intro p e s m args below meth c s₁ B hml hv
  obtain ⟨rfl, hsz, hP, hK, hD0, hE⟩ := hv
  have hx := B.exec
  have hb := B.bytes
  have hr := B.returns
  have hts := atoms_spec (ws := wsX4_settings) B.pre
  have hown : s.vm.findClass RX4 = some m.cls := findClass_of_methodNamed B.named
  have hlocks := B.notSynchronized
  have i_X4 : ∀ w ∈ u_ws RX4 TX4 35, w ∈ wsX4_settings := by decide +kernel
  subst hsz
  have hD := hD0.self (sz := s.heap.size)
  generalize hAe : va_A (va_pl L f) s.heap.size = A at hD hE ⊢
  have hA : ∀ q : Nat, s.heap.size ≤ q → A q := fun q h => by rw [← hAe]; exact Or.inr h
  have hS : va_S A s.heap s.heap [] := va_S.rf
  have hP : va_P (dC, dI) vwCl (va_pl L f) s.heap := hP
  have hK : va_K (dC, dI) vwCl (tyA dA) s := hK
  have hl := lv_entry ([.ref mm, .int n, .float a, .float b, .int k]) (n := 5) (Nat.le_of_ble_eq_true rfl)
  rw [lg_entry_eq]
  generalize (lg_sl ([.ref mm, .int n, .float a, .float b, .int k]) ++ List.replicate (5 - (lg_sl ([.ref mm, .int n, .float a, .float b, .int k])).length) Slot.unset).toArray = ls at hl ⊢
  have hl : lv_has ls 5 [(0, .ref mm), (1, .int n), (2, .float a), (3, .float b), (4, .int k)] := hl
  have hnb := hW.lb
  have hnr := hW.lr
  have hnk := hW.lk
  have hni := hW.li
  have hF : kFr kPx τ pv τ pv := kFr.rf
  refine lv_aload_n hx hb dX4_settings_0 rfl (lv_at hl 0 rfl) ?_
  refine lv_iload_n hx hb dX4_settings_1 rfl (lv_at hl 1 rfl) ?_
  refine lv_iconst (v := 1) hx hb dX4_settings_2 (by decide) ?_
  refine lv_icmp_lt (tgt := 47) hx hb dX4_settings_3 (by decide) (fun c_1 => ?_) (fun c_1 => ?_)
  · refine lv_iconst (v := 0) hx hb dX4_settings_47 (by decide) ?_
    refine lv_iconst (v := 1) hx hb dX4_settings_48 (by decide) ?_
    refine lv_iconst (v := 1) hx hb dX4_settings_49 (by decide) ?_
    refine kd_calli (va_runV (As := [.int 0, .int 1, .int 1]) (rest := []) ⟨hx, hb, hml, hown, hts⟩ (k_goes2 l dC dI dA ad _ τ pv _ _ hI mm fa sa aa ia sf mb mr mk mr hW 1 1) (cwV 3 hts gX4_settings_X4_goes rfl rfl rfl (by decide +kernel) ⟨Nat.le_of_ble_eq_true rfl, Nat.le_of_ble_eq_true rfl⟩) (kd_preV hP hD hK hS hA hE hI hW.tm rfl rfl) rfl rfl hl.1 rfl (lv_room (Nat.le_of_ble_eq_true rfl)) dX4_settings_50 ⟨Nat.le_of_ble_eq_true rfl, Nat.le_of_ble_eq_true rfl⟩) hD hS hA (fun r_3 u_2 H locs hw hP hD hS => ?_)
    obtain ⟨rfl, hI⟩ := hw
    have hF := hF.trans (kFr.up (P := kPx) (w := .int 1) (k := 0) hW.tm rfl)
    have hW := hW.frw (kFr.up (P := kPy mr) (w := .int 1) (k := 0) hW.tm rfl)
    refine lv_if_eq (tgt := 77) hx hb dX4_settings_53 (by decide) (fun _ => ?_) (fun h9 => by first | exact absurd h9 (by decide) | exact absurd (by decide) h9)
    refine W.widen (k := 0) (n := 0) (Nat.le_of_ble_eq_true rfl) (Nat.le_of_ble_eq_true rfl) ?_
    exact W.vret hx hb hr (fun t ht hW9 => ⟨⟨(u_2.1, u_2.2), rfl, ⟨_, _, hF, hW, (Eq.trans kup_self (congrArg Value.int (Eq.symm (by simp only [kc_settings, c_1, decide_true, decide_false, Bool.not_true, Bool.not_false, Bool.and_true, Bool.true_and, Bool.and_false, Bool.false_and, Bool.and_self, Bool.false_eq_true, if_true, if_false, ite_true, ite_false, reduceIte] <;> decide)))), hI⟩, by rw [ht]; exact hP, va_K.moved hW9.alike hK, hD⟩, hS.F ht⟩) hS.2.2 dX4_settings_77
  · refine lv_iload_n hx hb dX4_settings_6 rfl (lv_at hl 1 rfl) ?_
    refine lv_bipush (v := 16) hx hb dX4_settings_7 (by decide) ?_
    refine lv_icmp_gt (tgt := 47) hx hb dX4_settings_9 (by decide) (fun c_4 => ?_) (fun c_4 => ?_)
    · refine lv_iconst (v := 0) hx hb dX4_settings_47 (by decide) ?_
      refine lv_iconst (v := 1) hx hb dX4_settings_48 (by decide) ?_
      refine lv_iconst (v := 1) hx hb dX4_settings_49 (by decide) ?_
      refine kd_calli (va_runV (As := [.int 0, .int 1, .int 1]) (rest := []) ⟨hx, hb, hml, hown, hts⟩ (k_goes2 l dC dI dA ad _ τ pv _ _ hI mm fa sa aa ia sf mb mr mk mr hW 1 1) (cwV 3 hts gX4_settings_X4_goes rfl rfl rfl (by decide +kernel) ⟨Nat.le_of_ble_eq_true rfl, Nat.le_of_ble_eq_true rfl⟩) (kd_preV hP hD hK hS hA hE hI hW.tm rfl rfl) rfl rfl hl.1 rfl (lv_room (Nat.le_of_ble_eq_true rfl)) dX4_settings_50 ⟨Nat.le_of_ble_eq_true rfl, Nat.le_of_ble_eq_true rfl⟩) hD hS hA (fun r_6 u_5 H locs hw hP hD hS => ?_)
      obtain ⟨rfl, hI⟩ := hw
      have hF := hF.trans (kFr.up (P := kPx) (w := .int 1) (k := 0) hW.tm rfl)
      have hW := hW.frw (kFr.up (P := kPy mr) (w := .int 1) (k := 0) hW.tm rfl)
      refine lv_if_eq (tgt := 77) hx hb dX4_settings_53 (by decide) (fun _ => ?_) (fun h9 => by first | exact absurd h9 (by decide) | exact absurd (by decide) h9)
      refine W.widen (k := 0) (n := 0) (Nat.le_of_ble_eq_true rfl) (Nat.le_of_ble_eq_true rfl) ?_
      exact W.vret hx hb hr (fun t ht hW9 => ⟨⟨(u_5.1, u_5.2), rfl, ⟨_, _, hF, hW, (Eq.trans kup_self (congrArg Value.int (Eq.symm (by simp only [kc_settings, c_1, c_4, decide_true, decide_false, Bool.not_true, Bool.not_false, Bool.and_true, Bool.true_and, Bool.and_false, Bool.false_and, Bool.and_self, Bool.false_eq_true, if_true, if_false, ite_true, ite_false, reduceIte] <;> decide)))), hI⟩, by rw [ht]; exact hP, va_K.moved hW9.alike hK, hD⟩, hS.F ht⟩) hS.2.2 dX4_settings_77
    · refine lv_fload_n hx hb dX4_settings_12 rfl (lv_at hl 2 rfl) ?_
      refine lv_fconst0 hx hb dX4_settings_13 ?_
      refine lv_fconst1 hx hb dX4_settings_14 ?_
      refine kd_calli (va_runS (As := [.float a, .float FP.fconst0, .float FP.fconst1]) (rest := [.ref mm]) ⟨hx, hb, hml, hown, hts⟩ (k_within l dC dI dA ad _ τ pv _ _ hI a FP.fconst0 FP.fconst1) (va_cwS 3 hts gX4_settings_X4_within rfl rfl rfl (by decide +kernel) ⟨Nat.le_of_ble_eq_true rfl, Nat.le_of_ble_eq_true rfl⟩) (kd_preS hP hD hK hS hA hE) rfl rfl hl.1 rfl (lv_room (Nat.le_of_ble_eq_true rfl)) dX4_settings_15 ⟨Nat.le_of_ble_eq_true rfl, Nat.le_of_ble_eq_true rfl⟩) hD hS hA (fun r_8 u_7 H locs hw hP hD hS => ?_)
      obtain ⟨⟨k_9, rfl⟩ | ⟨k_9, rfl⟩, hI⟩ := hw
      · have fb_10 : fb 1065353216 a := fb_within (fb_le kc_0 (by decide)) kc_1 (by decide) k_9
        refine lv_if_eq (tgt := 47) hx hb dX4_settings_18 (by decide) (fun h9 => by first | exact absurd h9 (by decide) | exact absurd (by decide) h9) (fun _ => ?_)
        refine lv_fload_n hx hb dX4_settings_21 rfl (lv_at hl 3 rfl) ?_
        refine lv_fconst0 hx hb dX4_settings_22 ?_
        refine lv_ldcf (v := 1115684864) hx hb hown (hts (.constantFloat RX4 118 (1115684864)) (by decide +kernel)) dX4_settings_23 ?_
        have hc_11 : fb 1115684864 1115684864 := by unfold fb; decide +kernel
        refine kd_calli (va_runS (As := [.float b, .float FP.fconst0, .float 1115684864]) (rest := [.ref mm]) ⟨hx, hb, hml, hown, hts⟩ (k_within l dC dI dA ad _ τ pv _ _ hI b FP.fconst0 1115684864) (va_cwS 3 hts gX4_settings_X4_within rfl rfl rfl (by decide +kernel) ⟨Nat.le_of_ble_eq_true rfl, Nat.le_of_ble_eq_true rfl⟩) (kd_preS hP hD hK hS hA hE) rfl rfl hl.1 rfl (lv_room (Nat.le_of_ble_eq_true rfl)) dX4_settings_25 ⟨Nat.le_of_ble_eq_true rfl, Nat.le_of_ble_eq_true rfl⟩) hD hS hA (fun r_13 u_12 H locs hw hP hD hS => ?_)
        obtain ⟨⟨k_14, rfl⟩ | ⟨k_14, rfl⟩, hI⟩ := hw
        · have fb_15 : fb 1115684864 b := fb_within (fb_le kc_0 (by decide)) hc_11 (by decide) k_14
          refine lv_if_eq (tgt := 47) hx hb dX4_settings_28 (by decide) (fun h9 => by first | exact absurd h9 (by decide) | exact absurd (by decide) h9) (fun _ => ?_)
          refine lv_iload hx hb dX4_settings_31 (lv_at hl 4 rfl) ?_
          refine lv_if_lt (tgt := 47) hx hb dX4_settings_33 (by decide) (fun c_16 => ?_) (fun c_16 => ?_)
          · refine lv_iconst (v := 0) hx hb dX4_settings_47 (by decide) ?_
            refine lv_iconst (v := 1) hx hb dX4_settings_48 (by decide) ?_
            refine lv_iconst (v := 1) hx hb dX4_settings_49 (by decide) ?_
            refine kd_calli (va_runV (As := [.int 0, .int 1, .int 1]) (rest := []) ⟨hx, hb, hml, hown, hts⟩ (k_goes2 l dC dI dA ad _ τ pv _ _ hI mm fa sa aa ia sf mb mr mk mr hW 1 1) (cwV 3 hts gX4_settings_X4_goes rfl rfl rfl (by decide +kernel) ⟨Nat.le_of_ble_eq_true rfl, Nat.le_of_ble_eq_true rfl⟩) (kd_preV hP hD hK hS hA hE hI hW.tm rfl rfl) rfl rfl hl.1 rfl (lv_room (Nat.le_of_ble_eq_true rfl)) dX4_settings_50 ⟨Nat.le_of_ble_eq_true rfl, Nat.le_of_ble_eq_true rfl⟩) hD hS hA (fun r_18 u_17 H locs hw hP hD hS => ?_)
            obtain ⟨rfl, hI⟩ := hw
            have hF := hF.trans (kFr.up (P := kPx) (w := .int 1) (k := 0) hW.tm rfl)
            have hW := hW.frw (kFr.up (P := kPy mr) (w := .int 1) (k := 0) hW.tm rfl)
            refine lv_if_eq (tgt := 77) hx hb dX4_settings_53 (by decide) (fun _ => ?_) (fun h9 => by first | exact absurd h9 (by decide) | exact absurd (by decide) h9)
            refine W.widen (k := 0) (n := 0) (Nat.le_of_ble_eq_true rfl) (Nat.le_of_ble_eq_true rfl) ?_
            exact W.vret hx hb hr (fun t ht hW9 => ⟨⟨(u_17.1, u_17.2), rfl, ⟨_, _, hF, hW, (Eq.trans kup_self (congrArg Value.int (Eq.symm (by simp only [kc_settings, c_1, c_4, k_9, k_14, c_16, decide_true, decide_false, Bool.not_true, Bool.not_false, Bool.and_true, Bool.true_and, Bool.and_false, Bool.false_and, Bool.and_self, Bool.false_eq_true, if_true, if_false, ite_true, ite_false, reduceIte] <;> decide)))), hI⟩, by rw [ht]; exact hP, va_K.moved hW9.alike hK, hD⟩, hS.F ht⟩) hS.2.2 dX4_settings_77
          · refine lv_iload hx hb dX4_settings_36 (lv_at hl 4 rfl) ?_
            refine lv_bipush (v := 100) hx hb dX4_settings_38 (by decide) ?_
            refine lv_icmp_gt (tgt := 47) hx hb dX4_settings_40 (by decide) (fun c_19 => ?_) (fun c_19 => ?_)
            · refine lv_iconst (v := 0) hx hb dX4_settings_47 (by decide) ?_
              refine lv_iconst (v := 1) hx hb dX4_settings_48 (by decide) ?_
              refine lv_iconst (v := 1) hx hb dX4_settings_49 (by decide) ?_
              refine kd_calli (va_runV (As := [.int 0, .int 1, .int 1]) (rest := []) ⟨hx, hb, hml, hown, hts⟩ (k_goes2 l dC dI dA ad _ τ pv _ _ hI mm fa sa aa ia sf mb mr mk mr hW 1 1) (cwV 3 hts gX4_settings_X4_goes rfl rfl rfl (by decide +kernel) ⟨Nat.le_of_ble_eq_true rfl, Nat.le_of_ble_eq_true rfl⟩) (kd_preV hP hD hK hS hA hE hI hW.tm rfl rfl) rfl rfl hl.1 rfl (lv_room (Nat.le_of_ble_eq_true rfl)) dX4_settings_50 ⟨Nat.le_of_ble_eq_true rfl, Nat.le_of_ble_eq_true rfl⟩) hD hS hA (fun r_21 u_20 H locs hw hP hD hS => ?_)
              obtain ⟨rfl, hI⟩ := hw
              have hF := hF.trans (kFr.up (P := kPx) (w := .int 1) (k := 0) hW.tm rfl)
              have hW := hW.frw (kFr.up (P := kPy mr) (w := .int 1) (k := 0) hW.tm rfl)
              refine lv_if_eq (tgt := 77) hx hb dX4_settings_53 (by decide) (fun _ => ?_) (fun h9 => by first | exact absurd h9 (by decide) | exact absurd (by decide) h9)
              refine W.widen (k := 0) (n := 0) (Nat.le_of_ble_eq_true rfl) (Nat.le_of_ble_eq_true rfl) ?_
              exact W.vret hx hb hr (fun t ht hW9 => ⟨⟨(u_20.1, u_20.2), rfl, ⟨_, _, hF, hW, (Eq.trans kup_self (congrArg Value.int (Eq.symm (by simp only [kc_settings, c_1, c_4, k_9, k_14, c_16, c_19, decide_true, decide_false, Bool.not_true, Bool.not_false, Bool.and_true, Bool.true_and, Bool.and_false, Bool.false_and, Bool.and_self, Bool.false_eq_true, if_true, if_false, ite_true, ite_false, reduceIte] <;> decide)))), hI⟩, by rw [ht]; exact hP, va_K.moved hW9.alike hK, hD⟩, hS.F ht⟩) hS.2.2 dX4_settings_77
            · refine lv_iconst (v := 1) hx hb dX4_settings_43 (by decide) ?_
              refine lv_goto (tgt := 48) hx hb dX4_settings_44 (by decide) ?_
              refine lv_iconst (v := 1) hx hb dX4_settings_48 (by decide) ?_
              refine lv_iconst (v := 1) hx hb dX4_settings_49 (by decide) ?_
              refine kd_calli (va_runV (As := [.int 1, .int 1, .int 1]) (rest := []) ⟨hx, hb, hml, hown, hts⟩ (k_goes1 l dC dI dA ad _ τ pv _ _ hI mm fa sa aa ia sf mb mr mk mr hW ) (cwV 3 hts gX4_settings_X4_goes rfl rfl rfl (by decide +kernel) ⟨Nat.le_of_ble_eq_true rfl, Nat.le_of_ble_eq_true rfl⟩) (kd_preV hP hD hK hS hA hE hI hW.tm rfl rfl) rfl rfl hl.1 rfl (lv_room (Nat.le_of_ble_eq_true rfl)) dX4_settings_50 ⟨Nat.le_of_ble_eq_true rfl, Nat.le_of_ble_eq_true rfl⟩) hD hS hA (fun r_23 u_22 H locs hw hP hD hS => ?_)
              obtain ⟨rfl, hI⟩ := hw
              have hF := hF.trans (kFr.up (P := kPx) (w := .int 0) (k := 0) hW.tm rfl)
              have hW := hW.frw (kFr.up (P := kPy mr) (w := .int 0) (k := 0) hW.tm rfl)
              refine lv_if_eq (tgt := 77) hx hb dX4_settings_53 (by decide) (fun h9 => by first | exact absurd h9 (by decide) | exact absurd (by decide) h9) (fun _ => ?_)
              refine lv_aload_n hx hb dX4_settings_56 rfl (lv_at hl 0 rfl) ?_
              refine lv_iload_n hx hb dX4_settings_57 rfl (lv_at hl 1 rfl) ?_
              refine kp_put (v := .int n) (ty := .int) hx hb hts i_X4 tyX4 tyX4_ok nmX4 hown hK hP hD hS hI hW.tm rfl rfl 22 (by decide) (by decide) (hts (.fieldLink RX4 66 "IslandSolverModel" "rounds" "I") (by decide +kernel)) (fun _ h9 => h9) rfl (by decide +kernel) rfl rfl rfl (by decide) (kv_I _) dX4_settings_58 (fun f H locs hI hP hD hS => ?_)
              refine lv_aload_n hx hb dX4_settings_61 rfl (lv_at hl 0 rfl) ?_
              refine lv_fload_n hx hb dX4_settings_62 rfl (lv_at hl 2 rfl) ?_
              refine kp_put (v := .float a) (ty := .float) hx hb hts i_X4 tyX4 tyX4_ok nmX4 hown hK hP hD hS hI hW.tm rfl rfl 23 (by decide) (by decide) (hts (.fieldLink RX4 70 "IslandSolverModel" "warm" "F") (by decide +kernel)) (fun _ h9 => h9) rfl (by decide +kernel) rfl rfl rfl (by decide) (kv_F (by decide) fb_10) dX4_settings_63 (fun f H locs hI hP hD hS => ?_)
              refine lv_aload_n hx hb dX4_settings_66 rfl (lv_at hl 0 rfl) ?_
              refine lv_fload_n hx hb dX4_settings_67 rfl (lv_at hl 3 rfl) ?_
              refine kp_put (v := .float b) (ty := .float) hx hb hts i_X4 tyX4 tyX4_ok nmX4 hown hK hP hD hS hI hW.tm rfl rfl 24 (by decide) (by decide) (hts (.fieldLink RX4 75 "IslandSolverModel" "calm" "F") (by decide +kernel)) (fun _ h9 => h9) rfl (by decide +kernel) rfl rfl rfl (by decide) (kv_G _) dX4_settings_68 (fun f H locs hI hP hD hS => ?_)
              refine lv_aload_n hx hb dX4_settings_71 rfl (lv_at hl 0 rfl) ?_
              refine lv_iload hx hb dX4_settings_72 (lv_at hl 4 rfl) ?_
              refine kp_put (v := .int k) (ty := .int) hx hb hts i_X4 tyX4 tyX4_ok nmX4 hown hK hP hD hS hI hW.tm rfl rfl 25 (by decide) (by decide) (hts (.fieldLink RX4 151 "IslandSolverModel" "still" "I") (by decide +kernel)) (fun _ h9 => h9) rfl (by decide +kernel) rfl rfl rfl (by decide) (kv_I _) dX4_settings_74 (fun f H locs hI hP hD hS => ?_)
              refine W.widen (k := 0) (n := 0) (Nat.le_of_ble_eq_true rfl) (Nat.le_of_ble_eq_true rfl) ?_
              exact W.vret hx hb hr (fun t ht hW9 => ⟨⟨(u_22.1, f), rfl, ⟨_, _, hF, hW, (Eq.trans kup_self (congrArg Value.int (Eq.symm (by simp only [kc_settings, c_1, c_4, k_9, k_14, c_16, c_19, decide_true, decide_false, Bool.not_true, Bool.not_false, Bool.and_true, Bool.true_and, Bool.and_false, Bool.false_and, Bool.and_self, Bool.false_eq_true, if_true, if_false, ite_true, ite_false, reduceIte] <;> decide)))), hI⟩, by rw [ht]; exact hP, va_K.moved hW9.alike hK, hD⟩, hS.F ht⟩) hS.2.2 dX4_settings_77
        · refine lv_if_eq (tgt := 47) hx hb dX4_settings_28 (by decide) (fun _ => ?_) (fun h9 => by first | exact absurd h9 (by decide) | exact absurd (by decide) h9)
          refine lv_iconst (v := 0) hx hb dX4_settings_47 (by decide) ?_
          refine lv_iconst (v := 1) hx hb dX4_settings_48 (by decide) ?_
          refine lv_iconst (v := 1) hx hb dX4_settings_49 (by decide) ?_
          refine kd_calli (va_runV (As := [.int 0, .int 1, .int 1]) (rest := []) ⟨hx, hb, hml, hown, hts⟩ (k_goes2 l dC dI dA ad _ τ pv _ _ hI mm fa sa aa ia sf mb mr mk mr hW 1 1) (cwV 3 hts gX4_settings_X4_goes rfl rfl rfl (by decide +kernel) ⟨Nat.le_of_ble_eq_true rfl, Nat.le_of_ble_eq_true rfl⟩) (kd_preV hP hD hK hS hA hE hI hW.tm rfl rfl) rfl rfl hl.1 rfl (lv_room (Nat.le_of_ble_eq_true rfl)) dX4_settings_50 ⟨Nat.le_of_ble_eq_true rfl, Nat.le_of_ble_eq_true rfl⟩) hD hS hA (fun r_25 u_24 H locs hw hP hD hS => ?_)
          obtain ⟨rfl, hI⟩ := hw
          have hF := hF.trans (kFr.up (P := kPx) (w := .int 1) (k := 0) hW.tm rfl)
          have hW := hW.frw (kFr.up (P := kPy mr) (w := .int 1) (k := 0) hW.tm rfl)
          refine lv_if_eq (tgt := 77) hx hb dX4_settings_53 (by decide) (fun _ => ?_) (fun h9 => by first | exact absurd h9 (by decide) | exact absurd (by decide) h9)
          refine W.widen (k := 0) (n := 0) (Nat.le_of_ble_eq_true rfl) (Nat.le_of_ble_eq_true rfl) ?_
          exact W.vret hx hb hr (fun t ht hW9 => ⟨⟨(u_24.1, u_24.2), rfl, ⟨_, _, hF, hW, (Eq.trans kup_self (congrArg Value.int (Eq.symm (by simp only [kc_settings, c_1, c_4, k_9, k_14, decide_true, decide_false, Bool.not_true, Bool.not_false, Bool.and_true, Bool.true_and, Bool.and_false, Bool.false_and, Bool.and_self, Bool.false_eq_true, if_true, if_false, ite_true, ite_false, reduceIte] <;> decide)))), hI⟩, by rw [ht]; exact hP, va_K.moved hW9.alike hK, hD⟩, hS.F ht⟩) hS.2.2 dX4_settings_77
      · refine lv_if_eq (tgt := 47) hx hb dX4_settings_18 (by decide) (fun _ => ?_) (fun h9 => by first | exact absurd h9 (by decide) | exact absurd (by decide) h9)
        refine lv_iconst (v := 0) hx hb dX4_settings_47 (by decide) ?_
        refine lv_iconst (v := 1) hx hb dX4_settings_48 (by decide) ?_
        refine lv_iconst (v := 1) hx hb dX4_settings_49 (by decide) ?_
        refine kd_calli (va_runV (As := [.int 0, .int 1, .int 1]) (rest := []) ⟨hx, hb, hml, hown, hts⟩ (k_goes2 l dC dI dA ad _ τ pv _ _ hI mm fa sa aa ia sf mb mr mk mr hW 1 1) (cwV 3 hts gX4_settings_X4_goes rfl rfl rfl (by decide +kernel) ⟨Nat.le_of_ble_eq_true rfl, Nat.le_of_ble_eq_true rfl⟩) (kd_preV hP hD hK hS hA hE hI hW.tm rfl rfl) rfl rfl hl.1 rfl (lv_room (Nat.le_of_ble_eq_true rfl)) dX4_settings_50 ⟨Nat.le_of_ble_eq_true rfl, Nat.le_of_ble_eq_true rfl⟩) hD hS hA (fun r_27 u_26 H locs hw hP hD hS => ?_)
        obtain ⟨rfl, hI⟩ := hw
        have hF := hF.trans (kFr.up (P := kPx) (w := .int 1) (k := 0) hW.tm rfl)
        have hW := hW.frw (kFr.up (P := kPy mr) (w := .int 1) (k := 0) hW.tm rfl)
        refine lv_if_eq (tgt := 77) hx hb dX4_settings_53 (by decide) (fun _ => ?_) (fun h9 => by first | exact absurd h9 (by decide) | exact absurd (by decide) h9)
        refine W.widen (k := 0) (n := 0) (Nat.le_of_ble_eq_true rfl) (Nat.le_of_ble_eq_true rfl) ?_
        exact W.vret hx hb hr (fun t ht hW9 => ⟨⟨(u_26.1, u_26.2), rfl, ⟨_, _, hF, hW, (Eq.trans kup_self (congrArg Value.int (Eq.symm (by simp only [kc_settings, c_1, c_4, k_9, decide_true, decide_false, Bool.not_true, Bool.not_false, Bool.and_true, Bool.true_and, Bool.and_false, Bool.false_and, Bool.and_self, Bool.false_eq_true, if_true, if_false, ite_true, ite_false, reduceIte] <;> decide)))), hI⟩, by rw [ht]; exact hP, va_K.moved hW9.alike hK, hD⟩, hS.F ht⟩) hS.2.2 dX4_settings_77
set_option maxHeartbeats 4000000 in
set_option maxRecDepth 100000 in
theorem m_p_workers (l : Launch) (dC : Nat → ClassId) (dI : Nat → Nat → Nat) (dA : Nat → ClassId) (ad sz : Nat) (τ : Nat → Nat → Nat) (pv : Nat → Nat → Value) (L : List Nat) (f : Nat → va_E) (hI : kI dA τ pv L f) (mm fa sa aa ia sf mb mr mk : Nat) (hW : kMd τ pv mm fa sa aa ia sf mb mr mk mr) (n : Int32) : Met l yX4_workers wsX4_workers ({ frames := 1, cells := 0, slots := 0, locals := 23 } : Room) (va_Pc [.ref mm, .int n] (kB dC dI dA ad sz L f)) (va_Qi (fun r u => kPostU dA τ pv mm fa sa aa ia sf mb mr (kc_workers n) r n u) (kR dC dI dA (va_A (va_pl L f) sz)) (va_A (va_pl L f) sz)) 0 0 (va_A (va_pl L f) sz) := by
  refine Met.ofW (cc := cX4_workers) (maxL := 3) (ret := (some .int)) (by decide) rfl ?_
  intro p e s m args below meth c s₁ B hml hv
  obtain ⟨rfl, hsz, hP, hK, hD0, hE⟩ := hv
  have hx := B.exec
  have hb := B.bytes
  have hr := B.returns
  have hts := atoms_spec (ws := wsX4_workers) B.pre
  have hown : s.vm.findClass RX4 = some m.cls := findClass_of_methodNamed B.named
  have hlocks := B.notSynchronized
  have i_X4 : ∀ w ∈ u_ws RX4 TX4 35, w ∈ wsX4_workers := by decide +kernel
  subst hsz
  have hD := hD0.self (sz := s.heap.size)
  generalize hAe : va_A (va_pl L f) s.heap.size = A at hD hE ⊢
  have hA : ∀ q : Nat, s.heap.size ≤ q → A q := fun q h => by rw [← hAe]; exact Or.inr h
  have hS : va_S A s.heap s.heap [] := va_S.rf
  have hP : va_P (dC, dI) vwCl (va_pl L f) s.heap := hP
  have hK : va_K (dC, dI) vwCl (tyA dA) s := hK
  have hl := lv_entry ([.ref mm, .int n]) (n := 3) (Nat.le_of_ble_eq_true rfl)
  rw [lg_entry_eq]
  generalize (lg_sl ([.ref mm, .int n]) ++ List.replicate (3 - (lg_sl ([.ref mm, .int n])).length) Slot.unset).toArray = ls at hl ⊢
  have hl : lv_has ls 3 [(0, .ref mm), (1, .int n)] := hl
  have hnb := hW.lb
  have hnr := hW.lr
  have hnk := hW.lk
  have hni := hW.li
  have hF : kFr kPx0 τ pv τ pv := kFr.rf
  refine lv_aload_n hx hb dX4_workers_0 rfl (lv_at hl 0 rfl) ?_
  refine lv_iload_n hx hb dX4_workers_1 rfl (lv_at hl 1 rfl) ?_
  refine lv_iconst (v := 1) hx hb dX4_workers_2 (by decide) ?_
  refine lv_icmp_lt (tgt := 16) hx hb dX4_workers_3 (by decide) (fun c_1 => ?_) (fun c_1 => ?_)
  · refine lv_iconst (v := 0) hx hb dX4_workers_16 (by decide) ?_
    refine lv_iconst (v := 1) hx hb dX4_workers_17 (by decide) ?_
    refine lv_iconst (v := 1) hx hb dX4_workers_18 (by decide) ?_
    refine kd_calli (va_runV (As := [.int 0, .int 1, .int 1]) (rest := []) ⟨hx, hb, hml, hown, hts⟩ (k_goes2 l dC dI dA ad _ τ pv _ _ hI mm fa sa aa ia sf mb mr mk mr hW 1 1) (cwV 3 hts gX4_workers_X4_goes rfl rfl rfl (by decide +kernel) ⟨Nat.le_of_ble_eq_true rfl, Nat.le_of_ble_eq_true rfl⟩) (kd_preV hP hD hK hS hA hE hI hW.tm rfl rfl) rfl rfl hl.1 rfl (lv_room (Nat.le_of_ble_eq_true rfl)) dX4_workers_19 ⟨Nat.le_of_ble_eq_true rfl, Nat.le_of_ble_eq_true rfl⟩) hD hS hA (fun r_3 u_2 H locs hw hP hD hS => ?_)
    obtain ⟨rfl, hI⟩ := hw
    have hF := hF.trans (kFr.up (P := kPx0) (w := .int 1) (k := 0) hW.tm rfl)
    have hW := hW.frw (kFr.up (P := kPy mr) (w := .int 1) (k := 0) hW.tm rfl)
    refine lv_if_ne (tgt := 27) hx hb dX4_workers_22 (by decide) (fun h9 => by first | exact absurd h9 (by decide) | exact absurd (by decide) h9) (fun _ => ?_)
    refine lv_iconst (v := 0) hx hb dX4_workers_25 (by decide) ?_
    refine W.widen (k := 0) (n := 0) (Nat.le_of_ble_eq_true rfl) (Nat.le_of_ble_eq_true rfl) ?_
    exact W.iret (v := 0) hx hb hr (fun t ht hW9 => ⟨⟨0, (u_2.1, u_2.2), rfl, ⟨_, _, hF, hW, (Eq.trans kup_self (congrArg Value.int (Eq.symm (by simp only [kc_workers, c_1, decide_true, decide_false, Bool.not_true, Bool.not_false, Bool.and_true, Bool.true_and, Bool.and_false, Bool.false_and, Bool.and_self, Bool.false_eq_true, if_true, if_false, ite_true, ite_false, reduceIte] <;> decide)))), fun h9 => absurd ((show kc_workers n = 1 from (by simp only [kc_workers, c_1, decide_true, decide_false, Bool.not_true, Bool.not_false, Bool.and_true, Bool.true_and, Bool.and_false, Bool.false_and, Bool.and_self, Bool.false_eq_true, if_true, if_false, ite_true, ite_false, reduceIte] <;> decide)).symm.trans h9) (by decide), fun h9 => kup_ne (Or.inr (by decide)), hI⟩, by rw [ht]; exact hP, va_K.moved hW9.alike hK, hD⟩, hS.F ht⟩) hS.2.2 dX4_workers_26
  · refine lv_iload_n hx hb dX4_workers_6 rfl (lv_at hl 1 rfl) ?_
    refine lv_bipush (v := 8) hx hb dX4_workers_7 (by decide) ?_
    refine lv_icmp_gt (tgt := 16) hx hb dX4_workers_9 (by decide) (fun c_4 => ?_) (fun c_4 => ?_)
    · refine lv_iconst (v := 0) hx hb dX4_workers_16 (by decide) ?_
      refine lv_iconst (v := 1) hx hb dX4_workers_17 (by decide) ?_
      refine lv_iconst (v := 1) hx hb dX4_workers_18 (by decide) ?_
      refine kd_calli (va_runV (As := [.int 0, .int 1, .int 1]) (rest := []) ⟨hx, hb, hml, hown, hts⟩ (k_goes2 l dC dI dA ad _ τ pv _ _ hI mm fa sa aa ia sf mb mr mk mr hW 1 1) (cwV 3 hts gX4_workers_X4_goes rfl rfl rfl (by decide +kernel) ⟨Nat.le_of_ble_eq_true rfl, Nat.le_of_ble_eq_true rfl⟩) (kd_preV hP hD hK hS hA hE hI hW.tm rfl rfl) rfl rfl hl.1 rfl (lv_room (Nat.le_of_ble_eq_true rfl)) dX4_workers_19 ⟨Nat.le_of_ble_eq_true rfl, Nat.le_of_ble_eq_true rfl⟩) hD hS hA (fun r_6 u_5 H locs hw hP hD hS => ?_)
      obtain ⟨rfl, hI⟩ := hw
      have hF := hF.trans (kFr.up (P := kPx0) (w := .int 1) (k := 0) hW.tm rfl)
      have hW := hW.frw (kFr.up (P := kPy mr) (w := .int 1) (k := 0) hW.tm rfl)
      refine lv_if_ne (tgt := 27) hx hb dX4_workers_22 (by decide) (fun h9 => by first | exact absurd h9 (by decide) | exact absurd (by decide) h9) (fun _ => ?_)
      refine lv_iconst (v := 0) hx hb dX4_workers_25 (by decide) ?_
      refine W.widen (k := 0) (n := 0) (Nat.le_of_ble_eq_true rfl) (Nat.le_of_ble_eq_true rfl) ?_
      exact W.iret (v := 0) hx hb hr (fun t ht hW9 => ⟨⟨0, (u_5.1, u_5.2), rfl, ⟨_, _, hF, hW, (Eq.trans kup_self (congrArg Value.int (Eq.symm (by simp only [kc_workers, c_1, c_4, decide_true, decide_false, Bool.not_true, Bool.not_false, Bool.and_true, Bool.true_and, Bool.and_false, Bool.false_and, Bool.and_self, Bool.false_eq_true, if_true, if_false, ite_true, ite_false, reduceIte] <;> decide)))), fun h9 => absurd ((show kc_workers n = 1 from (by simp only [kc_workers, c_1, c_4, decide_true, decide_false, Bool.not_true, Bool.not_false, Bool.and_true, Bool.true_and, Bool.and_false, Bool.false_and, Bool.and_self, Bool.false_eq_true, if_true, if_false, ite_true, ite_false, reduceIte] <;> decide)).symm.trans h9) (by decide), fun h9 => kup_ne (Or.inr (by decide)), hI⟩, by rw [ht]; exact hP, va_K.moved hW9.alike hK, hD⟩, hS.F ht⟩) hS.2.2 dX4_workers_26
    · refine lv_iconst (v := 1) hx hb dX4_workers_12 (by decide) ?_
      refine lv_goto (tgt := 17) hx hb dX4_workers_13 (by decide) ?_
      refine lv_iconst (v := 1) hx hb dX4_workers_17 (by decide) ?_
      refine lv_iconst (v := 1) hx hb dX4_workers_18 (by decide) ?_
      refine kd_calli (va_runV (As := [.int 1, .int 1, .int 1]) (rest := []) ⟨hx, hb, hml, hown, hts⟩ (k_goes1 l dC dI dA ad _ τ pv _ _ hI mm fa sa aa ia sf mb mr mk mr hW ) (cwV 3 hts gX4_workers_X4_goes rfl rfl rfl (by decide +kernel) ⟨Nat.le_of_ble_eq_true rfl, Nat.le_of_ble_eq_true rfl⟩) (kd_preV hP hD hK hS hA hE hI hW.tm rfl rfl) rfl rfl hl.1 rfl (lv_room (Nat.le_of_ble_eq_true rfl)) dX4_workers_19 ⟨Nat.le_of_ble_eq_true rfl, Nat.le_of_ble_eq_true rfl⟩) hD hS hA (fun r_8 u_7 H locs hw hP hD hS => ?_)
      obtain ⟨rfl, hI⟩ := hw
      have hF := hF.trans (kFr.up (P := kPx0) (w := .int 0) (k := 0) hW.tm rfl)
      have hW := hW.frw (kFr.up (P := kPy mr) (w := .int 0) (k := 0) hW.tm rfl)
      refine lv_if_ne (tgt := 27) hx hb dX4_workers_22 (by decide) (fun _ => ?_) (fun h9 => by first | exact absurd h9 (by decide) | exact absurd (by decide) h9)
      refine lv_aload_n hx hb dX4_workers_27 rfl (lv_at hl 0 rfl) ?_
      refine kp_get hx hb hts i_X4 hown hK hP hI hW.tm rfl rfl 26 (by decide) (by decide) (hts (.fieldLink RX4 78 "IslandSolverModel" "workers" "I") (by decide +kernel)) (fun _ h9 => h9) dX4_workers_28 (kq_L0 rfl fun x_9 w_11 => ?_)
      refine lv_istore_n (lv' := [(2, .int x_9), (0, .ref mm), (1, .int n)]) hx hb dX4_workers_31 rfl hl (by decide) rfl (fun ls hl => ?_)
      refine lv_aload_n hx hb dX4_workers_32 rfl (lv_at hl 1 rfl) ?_
      refine lv_iload_n hx hb dX4_workers_33 rfl (lv_at hl 2 rfl) ?_
      refine kp_putP (v := .int n) (ty := .int) hx hb hts i_X4 tyX4 tyX4_ok nmX4 hown hK hP hD hS hI hW.tm rfl rfl 26 (by decide) (by decide) (hts (.fieldLink RX4 78 "IslandSolverModel" "workers" "I") (by decide +kernel)) (fun _ h9 => h9) rfl (by decide +kernel) rfl rfl rfl (kv_I _) dX4_workers_34 (fun f H locs hI hP hD hS => ?_)
      have hF := hF.trans (kFr.up (P := kPx0) (w := .int n) (k := 26) hW.tm rfl)
      have hW := hW.frw (kFr.up (P := kPy mr) (w := .int n) (k := 26) hW.tm rfl)
      refine lv_iload_n hx hb dX4_workers_37 rfl (lv_at hl 0 rfl) ?_
      refine W.widen (k := 0) (n := 0) (Nat.le_of_ble_eq_true rfl) (Nat.le_of_ble_eq_true rfl) ?_
      exact W.iret (v := x_9) hx hb hr (fun t ht hW9 => ⟨⟨x_9, (u_7.1, f), rfl, ⟨_, _, hF, hW, (Eq.trans ((kup_ne (Or.inr (by decide))).trans kup_self) (congrArg Value.int (Eq.symm (by simp only [kc_workers, c_1, c_4, decide_true, decide_false, Bool.not_true, Bool.not_false, Bool.and_true, Bool.true_and, Bool.and_false, Bool.false_and, Bool.and_self, Bool.false_eq_true, if_true, if_false, ite_true, ite_false, reduceIte] <;> decide)))), fun h9 => ⟨(kup_ne (Or.inr (by decide))).symm.trans w_11, kup_self⟩, fun h9 => absurd (show kc_workers n = 0 from (by simp only [kc_workers, c_1, c_4, decide_true, decide_false, Bool.not_true, Bool.not_false, Bool.and_true, Bool.true_and, Bool.and_false, Bool.false_and, Bool.and_self, Bool.false_eq_true, if_true, if_false, ite_true, ite_false, reduceIte] <;> decide)) h9, hI⟩, by rw [ht]; exact hP, va_K.moved hW9.alike hK, hD⟩, hS.F ht⟩) hS.2.2 dX4_workers_38
