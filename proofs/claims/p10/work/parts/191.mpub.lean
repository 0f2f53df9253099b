set_option maxHeartbeats 4000000 in
set_option maxRecDepth 100000 in
theorem m_p_body (l : Launch) (dC : Nat → ClassId) (dI : Nat → Nat → Nat) (dA : Nat → ClassId) (ad sz : Nat) (τ : Nat → Nat → Nat) (pv : Nat → Nat → Value) (L : List Nat) (f : Nat → va_E) (hI : kI dA τ pv L f) (mm fa sa aa ia sf mb mr mk : Nat) (hW : kMd τ pv mm fa sa aa ia sf mb mr mk mr) (a : UInt32) (b : UInt32) (c9 : UInt32) (d9 : UInt32) : Met l yX4_body wsX4_body ({ frames := 1, cells := 0, slots := 0, locals := 23 } : Room) (va_Pc [.ref mm, .float a, .float b, .float c9, .float d9] (kB dC dI dA ad sz L f)) (va_Qi (fun r u => kPostR dA τ pv mm fa sa aa ia sf (kinc (kc_body2 mb a b c9 d9) mb) mr (kc_body2 mb a b c9 d9) r (nI mb) u) (kR dC dI dA (va_A (va_pl L f) sz)) (va_A (va_pl L f) sz)) 0 0 (va_A (va_pl L f) sz) := by
  refine Met.ofW (cc := cX4_body) (maxL := 8) (ret := (some .int)) (by decide) rfl ?_
  intro p e s m args below meth c s₁ B hml hv
  obtain ⟨rfl, hsz, hP, hK, hD0, hE⟩ := hv
  have hx := B.exec
  have hb := B.bytes
  have hr := B.returns
  have hts := atoms_spec (ws := wsX4_body) B.pre
  have hown : s.vm.findClass RX4 = some m.cls := findClass_of_methodNamed B.named
  have hlocks := B.notSynchronized
  have i_X4 : ∀ w ∈ u_ws RX4 TX4 35, w ∈ wsX4_body := by decide +kernel
  subst hsz
  have hD := hD0.self (sz := s.heap.size)
  generalize hAe : va_A (va_pl L f) s.heap.size = A at hD hE ⊢
  have hA : ∀ q : Nat, s.heap.size ≤ q → A q := fun q h => by rw [← hAe]; exact Or.inr h
  have hS : va_S A s.heap s.heap [] := va_S.rf
  have hP : va_P (dC, dI) vwCl (va_pl L f) s.heap := hP
  have hK : va_K (dC, dI) vwCl (tyA dA) s := hK
  have hl := lv_entry ([.ref mm, .float a, .float b, .float c9, .float d9]) (n := 8) (Nat.le_of_ble_eq_true rfl)
  rw [lg_entry_eq]
  generalize (lg_sl ([.ref mm, .float a, .float b, .float c9, .float d9]) ++ List.replicate (8 - (lg_sl ([.ref mm, .float a, .float b, .float c9, .float d9])).length) Slot.unset).toArray = ls at hl ⊢
  have hl : lv_has ls 8 [(0, .ref mm), (1, .float a), (2, .float b), (3, .float c9), (4, .float d9)] := hl
  have hnb := hW.lb
  have hnr := hW.lr
  have hnk := hW.lk
  have hni := hW.li
  have hF : kFr kPx τ pv τ pv := kFr.rf
  refine lv_fload_n hx hb dX4_body_0 rfl (lv_at hl 1 rfl) ?_
  refine lv_fconst0 hx hb dX4_body_1 ?_
  refine lv_ldcf (v := 1098907648) hx hb hown (hts (.constantFloat RX4 96 (1098907648)) (by decide +kernel)) dX4_body_2 ?_
  have hc_1 : fb 1098907648 1098907648 := by unfold fb; decide +kernel
  refine kd_calli (va_runS (As := [.float a, .float FP.fconst0, .float 1098907648]) (rest := []) ⟨hx, hb, hml, hown, hts⟩ (k_within l dC dI dA ad _ τ pv _ _ hI a FP.fconst0 1098907648) (va_cwS 3 hts gX4_body_X4_within rfl rfl rfl (by decide +kernel) ⟨Nat.le_of_ble_eq_true rfl, Nat.le_of_ble_eq_true rfl⟩) (kd_preS hP hD hK hS hA hE) rfl rfl hl.1 rfl (lv_room (Nat.le_of_ble_eq_true rfl)) dX4_body_4 ⟨Nat.le_of_ble_eq_true rfl, Nat.le_of_ble_eq_true rfl⟩) hD hS hA (fun r_3 u_2 H locs hw hP hD hS => ?_)
  obtain ⟨⟨k_4, rfl⟩ | ⟨k_4, rfl⟩, hI⟩ := hw
  · have fb_5 : fb 1098907648 a := fb_within (fb_le kc_0 (by decide)) hc_1 (by decide) k_4
    refine lv_if_eq (tgt := 45) hx hb dX4_body_7 (by decide) (fun h9 => by first | exact absurd h9 (by decide) | exact absurd (by decide) h9) (fun _ => ?_)
    refine lv_fload_n hx hb dX4_body_10 rfl (lv_at hl 2 rfl) ?_
    refine lv_fconst0 hx hb dX4_body_11 ?_
    refine lv_ldcf (v := 1098907648) hx hb hown (hts (.constantFloat RX4 96 (1098907648)) (by decide +kernel)) dX4_body_12 ?_
    have hc_6 : fb 1098907648 1098907648 := by unfold fb; decide +kernel
    refine kd_calli (va_runS (As := [.float b, .float FP.fconst0, .float 1098907648]) (rest := []) ⟨hx, hb, hml, hown, hts⟩ (k_within l dC dI dA ad _ τ pv _ _ hI b FP.fconst0 1098907648) (va_cwS 3 hts gX4_body_X4_within rfl rfl rfl (by decide +kernel) ⟨Nat.le_of_ble_eq_true rfl, Nat.le_of_ble_eq_true rfl⟩) (kd_preS hP hD hK hS hA hE) rfl rfl hl.1 rfl (lv_room (Nat.le_of_ble_eq_true rfl)) dX4_body_14 ⟨Nat.le_of_ble_eq_true rfl, Nat.le_of_ble_eq_true rfl⟩) hD hS hA (fun r_8 u_7 H locs hw hP hD hS => ?_)
    obtain ⟨⟨k_9, rfl⟩ | ⟨k_9, rfl⟩, hI⟩ := hw
    · have fb_10 : fb 1098907648 b := fb_within (fb_le kc_0 (by decide)) hc_6 (by decide) k_9
      refine lv_if_eq (tgt := 45) hx hb dX4_body_17 (by decide) (fun h9 => by first | exact absurd h9 (by decide) | exact absurd (by decide) h9) (fun _ => ?_)
      refine lv_fload_n hx hb dX4_body_20 rfl (lv_at hl 3 rfl) ?_
      refine lv_fconst0 hx hb dX4_body_21 ?_
      refine lv_ldcf (v := 1098907648) hx hb hown (hts (.constantFloat RX4 96 (1098907648)) (by decide +kernel)) dX4_body_22 ?_
      have hc_11 : fb 1098907648 1098907648 := by unfold fb; decide +kernel
      refine kd_calli (va_runS (As := [.float c9, .float FP.fconst0, .float 1098907648]) (rest := []) ⟨hx, hb, hml, hown, hts⟩ (k_within l dC dI dA ad _ τ pv _ _ hI c9 FP.fconst0 1098907648) (va_cwS 3 hts gX4_body_X4_within rfl rfl rfl (by decide +kernel) ⟨Nat.le_of_ble_eq_true rfl, Nat.le_of_ble_eq_true rfl⟩) (kd_preS hP hD hK hS hA hE) rfl rfl hl.1 rfl (lv_room (Nat.le_of_ble_eq_true rfl)) dX4_body_24 ⟨Nat.le_of_ble_eq_true rfl, Nat.le_of_ble_eq_true rfl⟩) hD hS hA (fun r_13 u_12 H locs hw hP hD hS => ?_)
      obtain ⟨⟨k_14, rfl⟩ | ⟨k_14, rfl⟩, hI⟩ := hw
      · have fb_15 : fb 1098907648 c9 := fb_within (fb_le kc_0 (by decide)) hc_11 (by decide) k_14
        refine lv_if_eq (tgt := 45) hx hb dX4_body_27 (by decide) (fun h9 => by first | exact absurd h9 (by decide) | exact absurd (by decide) h9) (fun _ => ?_)
        refine lv_fload hx hb dX4_body_30 (lv_at hl 4 rfl) ?_
        refine lv_fconst0 hx hb dX4_body_32 ?_
        refine lv_ldcf (v := 1098907648) hx hb hown (hts (.constantFloat RX4 96 (1098907648)) (by decide +kernel)) dX4_body_33 ?_
        have hc_16 : fb 1098907648 1098907648 := by unfold fb; decide +kernel
        refine kd_calli (va_runS (As := [.float d9, .float FP.fconst0, .float 1098907648]) (rest := []) ⟨hx, hb, hml, hown, hts⟩ (k_within l dC dI dA ad _ τ pv _ _ hI d9 FP.fconst0 1098907648) (va_cwS 3 hts gX4_body_X4_within rfl rfl rfl (by decide +kernel) ⟨Nat.le_of_ble_eq_true rfl, Nat.le_of_ble_eq_true rfl⟩) (kd_preS hP hD hK hS hA hE) rfl rfl hl.1 rfl (lv_room (Nat.le_of_ble_eq_true rfl)) dX4_body_35 ⟨Nat.le_of_ble_eq_true rfl, Nat.le_of_ble_eq_true rfl⟩) hD hS hA (fun r_18 u_17 H locs hw hP hD hS => ?_)
        obtain ⟨⟨k_19, rfl⟩ | ⟨k_19, rfl⟩, hI⟩ := hw
        · have fb_20 : fb 1098907648 d9 := fb_within (fb_le kc_0 (by decide)) hc_16 (by decide) k_19
          refine lv_if_eq (tgt := 45) hx hb dX4_body_38 (by decide) (fun h9 => by first | exact absurd h9 (by decide) | exact absurd (by decide) h9) (fun _ => ?_)
          refine lv_iconst (v := 1) hx hb dX4_body_41 (by decide) ?_
          refine lv_goto (tgt := 46) hx hb dX4_body_42 (by decide) ?_
          refine lv_istore (lv' := [(5, .int 1), (0, .ref mm), (1, .float a), (2, .float b), (3, .float c9), (4, .float d9)]) hx hb dX4_body_46 hl (by decide) rfl (fun ls hl => ?_)
          refine lv_aload_n hx hb dX4_body_48 rfl (lv_at hl 1 rfl) ?_
          refine lv_iload hx hb dX4_body_49 (lv_at hl 0 rfl) ?_
          refine lv_aload_n hx hb dX4_body_51 rfl (lv_at hl 1 rfl) ?_
          refine kp_get hx hb hts i_X4 hown hK hP hI hW.tm rfl rfl 1 (by decide) (by decide) (hts (.fieldLink RX4 93 "IslandSolverModel" "bodies" "I") (by decide +kernel)) (fun _ h9 => h9) dX4_body_52 (kq_P (v0 := .int (nI mb)) rfl hW.p1 fun h_22 => ?_)
          refine lv_sipush (v := 256) hx hb dX4_body_55 (by decide) ?_
          refine lv_icmp_ge (tgt := 65) hx hb dX4_body_58 (by decide) (fun c_23 => ?_) (fun c_23 => ?_)
          · have n_24 : 256 ≤ mb := (nI_leI (by omega) (by omega)).mp (show nI 256 ≤ nI mb from c_23)
            refine lv_iconst (v := 0) hx hb dX4_body_65 (by decide) ?_
            refine lv_iconst (v := 1) hx hb dX4_body_66 (by decide) ?_
            refine kd_calli (va_runV (As := [.int 1, .int 0, .int 1]) (rest := []) ⟨hx, hb, hml, hown, hts⟩ (k_goes3 l dC dI dA ad _ τ pv _ _ hI mm fa sa aa ia sf mb mr mk mr hW 1) (cwV 3 hts gX4_body_X4_goes rfl rfl rfl (by decide +kernel) ⟨Nat.le_of_ble_eq_true rfl, Nat.le_of_ble_eq_true rfl⟩) (kd_preV hP hD hK hS hA hE hI hW.tm rfl rfl) rfl rfl hl.1 rfl (lv_room (Nat.le_of_ble_eq_true rfl)) dX4_body_67 ⟨Nat.le_of_ble_eq_true rfl, Nat.le_of_ble_eq_true rfl⟩) hD hS hA (fun r_26 u_25 H locs hw hP hD hS => ?_)
            obtain ⟨rfl, hI⟩ := hw
            have hF := hF.trans (kFr.up (P := kPx) (w := .int 2) (k := 0) hW.tm rfl)
            have hW := hW.frw (kFr.up (P := kPy mr) (w := .int 2) (k := 0) hW.tm rfl)
            refine lv_if_ne (tgt := 75) hx hb dX4_body_70 (by decide) (fun h9 => by first | exact absurd h9 (by decide) | exact absurd (by decide) h9) (fun _ => ?_)
            refine lv_iconst (v := 0) hx hb dX4_body_73 (by decide) ?_
            refine W.widen (k := 0) (n := 0) (Nat.le_of_ble_eq_true rfl) (Nat.le_of_ble_eq_true rfl) ?_
            exact W.iret (v := 0) hx hb hr (fun t ht hW9 => ⟨⟨0, (u_25.1, u_25.2), rfl, (by rw [kinc_1 (show kc_body2 mb a b c9 d9 ≠ 0 by rw [show kc_body2 mb a b c9 d9 = 2 from (by simp only [kc_body2, k_4, k_9, k_14, k_19, (Nat.not_lt.mpr n_24), decide_true, decide_false, Bool.not_true, Bool.not_false, Bool.and_true, Bool.true_and, Bool.and_false, Bool.false_and, Bool.and_self, Bool.false_eq_true, if_true, if_false, ite_true, ite_false, reduceIte] <;> decide)]; decide)]; exact ⟨_, _, hF, hW, (Eq.trans kup_self (congrArg Value.int (Eq.symm (by simp only [kc_body2, k_4, k_9, k_14, k_19, (Nat.not_lt.mpr n_24), decide_true, decide_false, Bool.not_true, Bool.not_false, Bool.and_true, Bool.true_and, Bool.and_false, Bool.false_and, Bool.and_self, Bool.false_eq_true, if_true, if_false, ite_true, ite_false, reduceIte] <;> decide)))), fun h9 => absurd ((show kc_body2 mb a b c9 d9 = 2 from (by simp only [kc_body2, k_4, k_9, k_14, k_19, (Nat.not_lt.mpr n_24), decide_true, decide_false, Bool.not_true, Bool.not_false, Bool.and_true, Bool.true_and, Bool.and_false, Bool.false_and, Bool.and_self, Bool.false_eq_true, if_true, if_false, ite_true, ite_false, reduceIte] <;> decide)).symm.trans h9) (by decide), hI⟩), by rw [ht]; exact hP, va_K.moved hW9.alike hK, hD⟩, hS.F ht⟩) hS.2.2 dX4_body_74
          · have n_27 : ¬ 256 ≤ mb := fun h9 => (show ¬ nI 256 ≤ nI mb from c_23) ((nI_leI (by omega) (by omega)).mpr h9)
            refine lv_iconst (v := 1) hx hb dX4_body_61 (by decide) ?_
            refine lv_goto (tgt := 66) hx hb dX4_body_62 (by decide) ?_
            refine lv_iconst (v := 1) hx hb dX4_body_66 (by decide) ?_
            refine kd_calli (va_runV (As := [.int 1, .int 1, .int 1]) (rest := []) ⟨hx, hb, hml, hown, hts⟩ (k_goes1 l dC dI dA ad _ τ pv _ _ hI mm fa sa aa ia sf mb mr mk mr hW ) (cwV 3 hts gX4_body_X4_goes rfl rfl rfl (by decide +kernel) ⟨Nat.le_of_ble_eq_true rfl, Nat.le_of_ble_eq_true rfl⟩) (kd_preV hP hD hK hS hA hE hI hW.tm rfl rfl) rfl rfl hl.1 rfl (lv_room (Nat.le_of_ble_eq_true rfl)) dX4_body_67 ⟨Nat.le_of_ble_eq_true rfl, Nat.le_of_ble_eq_true rfl⟩) hD hS hA (fun r_29 u_28 H locs hw hP hD hS => ?_)
            obtain ⟨rfl, hI⟩ := hw
            have hF := hF.trans (kFr.up (P := kPx) (w := .int 0) (k := 0) hW.tm rfl)
            have hW := hW.frw (kFr.up (P := kPy mr) (w := .int 0) (k := 0) hW.tm rfl)
            refine lv_if_ne (tgt := 75) hx hb dX4_body_70 (by decide) (fun _ => ?_) (fun h9 => by first | exact absurd h9 (by decide) | exact absurd (by decide) h9)
            refine lv_bipush (v := 13) hx hb dX4_body_75 (by decide) ?_
            refine lv_aload_n hx hb dX4_body_77 rfl (lv_at hl 1 rfl) ?_
            refine kp_get hx hb hts i_X4 hown hK hP hI hW.tm rfl rfl 1 (by decide) (by decide) (hts (.fieldLink RX4 93 "IslandSolverModel" "bodies" "I") (by decide +kernel)) (fun _ h9 => h9) dX4_body_78 (kq_P (v0 := .int (nI mb)) rfl hW.p1 fun h_31 => ?_)
            refine lv_imul hx hb dX4_body_81 ?_
            refine lv_topi (nm_r (show (13 : Int32) * (nI mb) = nI (13 * mb) from pk_mul 13 mb) ?_)
            refine lv_istore (lv' := [(6, .int (nI (13 * mb))), (5, .int 1), (0, .ref mm), (1, .float a), (2, .float b), (3, .float c9), (4, .float d9)]) hx hb dX4_body_82 hl (by decide) rfl (fun ls hl => ?_)
            refine lv_iconst (v := 0) hx hb dX4_body_84 (by decide) ?_
            refine lv_istore (lv' := [(7, .int 0), (6, .int (nI (13 * mb))), (5, .int 1), (0, .ref mm), (1, .float a), (2, .float b), (3, .float c9), (4, .float d9)]) hx hb dX4_body_85 hl (by decide) rfl (fun ls hl => ?_)
            have hl : lv_has ls 8 [(0, .ref mm), (1, .float a), (2, .float b), (3, .float c9), (4, .float d9), (5, .int 1), (6, .int (nI (13 * mb))), (7, .int 0)] := lv_sub hl [3, 4, 5, 6, 7, 2, 1, 0] rfl
            refine kl_loop (Inv := fun n87 _ L f H locs ls => ∃ (k9 : Nat), 13 - k9 < n87 ∧ kI dA τ (kup pv mm 0 (.int 0)) L f ∧ va_P (dC, dI) vwCl (va_pl L f) H ∧ va_D A (va_pl L f) ∧ va_S A s.heap H locs ∧ lv_has ls 8 [(0, .ref mm), (1, .float a), (2, .float b), (3, .float c9), (4, .float d9), (5, .int 1), (6, .int (nI (13 * mb))), (7, .int (nI k9))] ∧ k9 ≤ 13) (fun _ _ _ _ _ _ h9 => by obtain ⟨_, hn, _⟩ := h9; exact Nat.not_lt_zero _ hn) (fun n87 ih87 _ L f H locs ls h9 => ?_) (13 - 0 + 1) (fun _ _ => .null) _ _ _ _ _ ⟨0, Nat.lt_succ_self _, hI, hP, hD, hS, hl, Nat.zero_le _⟩
            obtain ⟨k9, hn87, hI, hP, hD, hS, hl, hib⟩ := h9
            refine lv_iload hx hb dX4_body_87 (lv_at hl 7 rfl) ?_
            refine lv_bipush (v := 13) hx hb dX4_body_89 (by decide) ?_
            refine lv_icmp_ge (tgt := 111) hx hb dX4_body_91 (by decide) (fun c_32 => ?_) (fun c_32 => ?_)
            · have n_33 : 13 ≤ k9 := (nI_leI (by omega) (by omega)).mp (show nI 13 ≤ nI k9 from c_32)
              refine lv_aload_n hx hb dX4_body_111 rfl (lv_at hl 0 rfl) ?_
              refine kp_get hx hb hts i_X4 hown hK hP hI hW.tm rfl rfl 2 (by decide) (by decide) (hts (.fieldLink RX4 7 "IslandSolverModel" "body" "[F") (by decide +kernel)) (fun _ h9 => h9) dX4_body_112 (kq_RE 15 (by decide) fun x_34 h_35_e h_35 => ?_)
              refine lv_iload hx hb dX4_body_115 (lv_at hl 6 rfl) ?_
              refine lv_bipush (v := 6) hx hb dX4_body_117 (by decide) ?_
              refine lv_iadd hx hb dX4_body_119 ?_
              refine lv_topi (nm_r (show (nI (13 * mb)) + 6 = nI (13 * mb + 6) from nI_add (13 * mb) 6) ?_)
              refine lv_fload_n hx hb dX4_body_120 rfl (lv_at hl 1 rfl) ?_
              have hj_36 : 13 * mb + 6 < τ 3 x_34 := by rw [show τ 3 x_34 = 3328 from (hI.arr h_35 rfl).2.1]; omega
              refine W.eq (g2 := F0 m 121 ls (.float a :: .int (nI (13 * mb + 6)) :: .ref x_34 :: [])) rfl ?_
              refine kp_fastX (pv' := (kup pv mm 0 (.int 0))) (j := 13 * mb + 6) hx hb hK hP hD hS hI h_35 rfl hj_36 (fun _ _ _ => rfl) (show kPr τ (kEc 15 (13 * mb + 6)) _ _ from (show kEc 15 (13 * mb + 6) = 1098907648 from if_neg (by omega)).symm ▸ (kv_F (by decide) fb_5)) (kPn_not rfl (by decide)) dX4_body_121 (fun f H locs hI hP hD hS => ?_)
              refine lv_aload_n hx hb dX4_body_122 rfl (lv_at hl 0 rfl) ?_
              refine kp_get hx hb hts i_X4 hown hK hP hI hW.tm rfl rfl 2 (by decide) (by decide) (hts (.fieldLink RX4 7 "IslandSolverModel" "body" "[F") (by decide +kernel)) (fun _ h9 => h9) dX4_body_123 (kq_RE 15 (by decide) fun x_37 h_38_e h_38 => ?_)
              refine lv_iload hx hb dX4_body_126 (lv_at hl 6 rfl) ?_
              refine lv_bipush (v := 7) hx hb dX4_body_128 (by decide) ?_
              refine lv_iadd hx hb dX4_body_130 ?_
              refine lv_topi (nm_r (show (nI (13 * mb)) + 7 = nI (13 * mb + 7) from nI_add (13 * mb) 7) ?_)
              refine lv_fload_n hx hb dX4_body_131 rfl (lv_at hl 2 rfl) ?_
              have hj_39 : 13 * mb + 7 < τ 3 x_37 := by rw [show τ 3 x_37 = 3328 from (hI.arr h_38 rfl).2.1]; omega
              refine W.eq (g2 := F0 m 132 ls (.float b :: .int (nI (13 * mb + 7)) :: .ref x_37 :: [])) rfl ?_
              refine kp_fastX (pv' := (kup pv mm 0 (.int 0))) (j := 13 * mb + 7) hx hb hK hP hD hS hI h_38 rfl hj_39 (fun _ _ _ => rfl) (show kPr τ (kEc 15 (13 * mb + 7)) _ _ from (show kEc 15 (13 * mb + 7) = 1098907648 from if_neg (by omega)).symm ▸ (kv_F (by decide) fb_10)) (kPn_not rfl (by decide)) dX4_body_132 (fun f H locs hI hP hD hS => ?_)
              refine lv_aload_n hx hb dX4_body_133 rfl (lv_at hl 0 rfl) ?_
              refine kp_get hx hb hts i_X4 hown hK hP hI hW.tm rfl rfl 2 (by decide) (by decide) (hts (.fieldLink RX4 7 "IslandSolverModel" "body" "[F") (by decide +kernel)) (fun _ h9 => h9) dX4_body_134 (kq_RE 15 (by decide) fun x_40 h_41_e h_41 => ?_)
              refine lv_iload hx hb dX4_body_137 (lv_at hl 6 rfl) ?_
              refine lv_bipush (v := 8) hx hb dX4_body_139 (by decide) ?_
              refine lv_iadd hx hb dX4_body_141 ?_
              refine lv_topi (nm_r (show (nI (13 * mb)) + 8 = nI (13 * mb + 8) from nI_add (13 * mb) 8) ?_)
              refine lv_fload_n hx hb dX4_body_142 rfl (lv_at hl 3 rfl) ?_
              have hj_42 : 13 * mb + 8 < τ 3 x_40 := by rw [show τ 3 x_40 = 3328 from (hI.arr h_41 rfl).2.1]; omega
              refine W.eq (g2 := F0 m 143 ls (.float c9 :: .int (nI (13 * mb + 8)) :: .ref x_40 :: [])) rfl ?_
              refine kp_fastX (pv' := (kup pv mm 0 (.int 0))) (j := 13 * mb + 8) hx hb hK hP hD hS hI h_41 rfl hj_42 (fun _ _ _ => rfl) (show kPr τ (kEc 15 (13 * mb + 8)) _ _ from (show kEc 15 (13 * mb + 8) = 1098907648 from if_neg (by omega)).symm ▸ (kv_F (by decide) fb_15)) (kPn_not rfl (by decide)) dX4_body_143 (fun f H locs hI hP hD hS => ?_)
              refine lv_aload_n hx hb dX4_body_144 rfl (lv_at hl 0 rfl) ?_
              refine kp_get hx hb hts i_X4 hown hK hP hI hW.tm rfl rfl 2 (by decide) (by decide) (hts (.fieldLink RX4 7 "IslandSolverModel" "body" "[F") (by decide +kernel)) (fun _ h9 => h9) dX4_body_145 (kq_RE 15 (by decide) fun x_43 h_44_e h_44 => ?_)
              refine lv_iload hx hb dX4_body_148 (lv_at hl 6 rfl) ?_
              refine lv_bipush (v := 9) hx hb dX4_body_150 (by decide) ?_
              refine lv_iadd hx hb dX4_body_152 ?_
              refine lv_topi (nm_r (show (nI (13 * mb)) + 9 = nI (13 * mb + 9) from nI_add (13 * mb) 9) ?_)
              refine lv_fload hx hb dX4_body_153 (lv_at hl 4 rfl) ?_
              have hj_45 : 13 * mb + 9 < τ 3 x_43 := by rw [show τ 3 x_43 = 3328 from (hI.arr h_44 rfl).2.1]; omega
              refine W.eq (g2 := F0 m 155 ls (.float d9 :: .int (nI (13 * mb + 9)) :: .ref x_43 :: [])) rfl ?_
              refine kp_fastX (pv' := (kup pv mm 0 (.int 0))) (j := 13 * mb + 9) hx hb hK hP hD hS hI h_44 rfl hj_45 (fun _ _ _ => rfl) (show kPr τ (kEc 15 (13 * mb + 9)) _ _ from (show kEc 15 (13 * mb + 9) = 1098907648 from if_neg (by omega)).symm ▸ (kv_F (by decide) fb_20)) (kPn_not rfl (by decide)) dX4_body_155 (fun f H locs hI hP hD hS => ?_)
              refine lv_aload_n hx hb dX4_body_156 rfl (lv_at hl 0 rfl) ?_
              refine kp_get hx hb hts i_X4 hown hK hP hI hW.tm rfl rfl 3 (by decide) (by decide) (hts (.fieldLink RX4 13 "IslandSolverModel" "asleep" "[Z") (by decide +kernel)) (fun _ h9 => h9) dX4_body_157 (kq_RE 16 (by decide) fun x_46 h_47_e h_47 => ?_)
              refine lv_aload_n hx hb dX4_body_160 rfl (lv_at hl 0 rfl) ?_
              refine kp_get hx hb hts i_X4 hown hK hP hI hW.tm rfl rfl 1 (by decide) (by decide) (hts (.fieldLink RX4 93 "IslandSolverModel" "bodies" "I") (by decide +kernel)) (fun _ h9 => h9) dX4_body_161 (kq_P (v0 := .int (nI mb)) rfl hW.p1 fun h_49 => ?_)
              refine lv_iconst (v := 0) hx hb dX4_body_164 (by decide) ?_
              have hj_50 : mb < τ 3 x_46 := by rw [show τ 3 x_46 = 256 from (hI.arr h_47 rfl).2.1]; omega
              refine W.eq (g2 := F0 m 165 ls (.int 0 :: .int (nI (mb)) :: .ref x_46 :: [])) rfl ?_
              refine kp_zastX (pv' := (kup pv mm 0 (.int 0))) (j := mb) hx hb hK hP hD hS hI h_47 rfl hj_50 (Or.inl rfl) (fun _ _ _ => rfl) (show kPr _ 1 _ _ from (kv_Z (Or.inl rfl))) (kPn_not rfl (by decide)) dX4_body_165 (fun f H locs hI hP hD hS => ?_)
              refine lv_aload_n hx hb dX4_body_166 rfl (lv_at hl 0 rfl) ?_
              refine kp_get hx hb hts i_X4 hown hK hP hI hW.tm rfl rfl 4 (by decide) (by decide) (hts (.fieldLink RX4 17 "IslandSolverModel" "quiet" "[I") (by decide +kernel)) (fun _ h9 => h9) dX4_body_167 (kq_RE 17 (by decide) fun x_51 h_52_e h_52 => ?_)
              refine lv_aload_n hx hb dX4_body_170 rfl (lv_at hl 0 rfl) ?_
              refine kp_get hx hb hts i_X4 hown hK hP hI hW.tm rfl rfl 1 (by decide) (by decide) (hts (.fieldLink RX4 93 "IslandSolverModel" "bodies" "I") (by decide +kernel)) (fun _ h9 => h9) dX4_body_171 (kq_P (v0 := .int (nI mb)) rfl hW.p1 fun h_54 => ?_)
              refine lv_iconst (v := 0) hx hb dX4_body_174 (by decide) ?_
              have hj_55 : mb < τ 3 x_51 := by rw [show τ 3 x_51 = 256 from (hI.arr h_52 rfl).2.1]; omega
              refine W.eq (g2 := F0 m 175 ls (.int 0 :: .int (nI (mb)) :: .ref x_51 :: [])) rfl ?_
              refine kp_iastX (pv' := (kup pv mm 0 (.int 0))) (j := mb) hx hb hK hP hD hS hI h_52 rfl hj_55 (fun _ _ _ => rfl) (show kPr _ 0 _ _ from (kv_I _)) (kPn_not rfl (by decide)) dX4_body_175 (fun f H locs hI hP hD hS => ?_)
              refine lv_aload_n hx hb dX4_body_176 rfl (lv_at hl 0 rfl) ?_
              refine lv_dup hx hb dX4_body_177 rfl ?_
              refine kp_get hx hb hts i_X4 hown hK hP hI hW.tm rfl rfl 1 (by decide) (by decide) (hts (.fieldLink RX4 93 "IslandSolverModel" "bodies" "I") (by decide +kernel)) (fun _ h9 => h9) dX4_body_178 (kq_P (v0 := .int (nI mb)) rfl hW.p1 fun h_57 => ?_)
              refine lv_iconst (v := 1) hx hb dX4_body_181 (by decide) ?_
              refine lv_iadd hx hb dX4_body_182 ?_
              refine lv_topi (nm_r (show (nI mb) + 1 = nI (mb + 1) from nI_add mb 1) ?_)
              refine kp_putP (v := .int (nI (mb + 1))) (ty := .int) hx hb hts i_X4 tyX4 tyX4_ok nmX4 hown hK hP hD hS hI hW.tm rfl rfl 1 (by decide) (by decide) (hts (.fieldLink RX4 93 "IslandSolverModel" "bodies" "I") (by decide +kernel)) (fun _ h9 => h9) rfl (by decide +kernel) rfl rfl rfl (kv_S (by decide) ⟨mb + 1, rfl, by omega⟩) dX4_body_183 (fun f H locs hI hP hD hS => ?_)
              have hF := hF.trans (kFr.up (P := kPx) (w := .int (nI (mb + 1))) (k := 1) hW.tm rfl)
              have hW := hW.incB (by omega)
              refine lv_aload_n hx hb dX4_body_186 rfl (lv_at hl 0 rfl) ?_
              refine kp_get hx hb hts i_X4 hown hK hP hI hW.tm rfl rfl 1 (by decide) (by decide) (hts (.fieldLink RX4 93 "IslandSolverModel" "bodies" "I") (by decide +kernel)) (fun _ h9 => h9) dX4_body_187 (kq_P (v0 := .int (nI (mb + 1))) rfl hW.p1 fun h_59 => ?_)
              refine lv_iconst (v := 1) hx hb dX4_body_190 (by decide) ?_
              refine lv_isub hx hb dX4_body_191 ?_
              refine lv_topi (nm_r (show (nI (mb + 1)) - 1 = nI (mb + 1 - 1) from pk_sub (a := mb + 1) (b := 1) (by omega)) ?_)
              refine W.widen (k := 0) (n := 0) (Nat.le_of_ble_eq_true rfl) (Nat.le_of_ble_eq_true rfl) ?_
              exact W.iret (v := nI (mb + 1 - 1)) hx hb hr (fun t ht hW9 => ⟨⟨nI (mb + 1 - 1), (L, f), rfl, (by rw [kinc_0 (show kc_body2 mb a b c9 d9 = 0 from (by simp only [kc_body2, k_4, k_9, k_14, k_19, (Nat.not_le.mp n_27), (Nat.not_lt.mpr n_33), decide_true, decide_false, Bool.not_true, Bool.not_false, Bool.and_true, Bool.true_and, Bool.and_false, Bool.false_and, Bool.and_self, Bool.false_eq_true, if_true, if_false, ite_true, ite_false, reduceIte] <;> decide))]; exact ⟨_, _, hF, hW, (Eq.trans ((kup_ne (Or.inr (by decide))).trans kup_self) (congrArg Value.int (Eq.symm (by simp only [kc_body2, k_4, k_9, k_14, k_19, (Nat.not_le.mp n_27), (Nat.not_lt.mpr n_33), decide_true, decide_false, Bool.not_true, Bool.not_false, Bool.and_true, Bool.true_and, Bool.and_false, Bool.false_and, Bool.and_self, Bool.false_eq_true, if_true, if_false, ite_true, ite_false, reduceIte] <;> decide)))), fun h9 => rfl, hI⟩), by rw [ht]; exact hP, va_K.moved hW9.alike hK, hD⟩, hS.F ht⟩) hS.2.2 dX4_body_192
            · have n_60 : ¬ 13 ≤ k9 := fun h9 => (show ¬ nI 13 ≤ nI k9 from c_32) ((nI_leI (by omega) (by omega)).mpr h9)
              refine lv_aload_n hx hb dX4_body_94 rfl (lv_at hl 0 rfl) ?_
              refine kp_get hx hb hts i_X4 hown hK hP hI hW.tm rfl rfl 2 (by decide) (by decide) (hts (.fieldLink RX4 7 "IslandSolverModel" "body" "[F") (by decide +kernel)) (fun _ h9 => h9) dX4_body_95 (kq_RE 15 (by decide) fun x_61 h_62_e h_62 => ?_)
              refine lv_iload hx hb dX4_body_98 (lv_at hl 6 rfl) ?_
              refine lv_iload hx hb dX4_body_100 (lv_at hl 7 rfl) ?_
              refine lv_iadd hx hb dX4_body_102 ?_
              refine lv_topi (nm_r (show (nI (13 * mb)) + (nI k9) = nI (13 * mb + k9) from nI_add (13 * mb) k9) ?_)
              refine lv_fconst0 hx hb dX4_body_103 ?_
              have hj_63 : 13 * mb + k9 < τ 3 x_61 := by rw [show τ 3 x_61 = 3328 from (hI.arr h_62 rfl).2.1]; omega
              refine W.eq (g2 := F0 m 104 ls (.float FP.fconst0 :: .int (nI (13 * mb + k9)) :: .ref x_61 :: [])) rfl ?_
              refine kp_fastX (pv' := (kup pv mm 0 (.int 0))) (j := 13 * mb + k9) hx hb hK hP hD hS hI h_62 rfl hj_63 (fun _ _ _ => rfl) kv_15z (kPn_not rfl (by decide)) dX4_body_104 (fun f H locs hI hP hD hS => ?_)
              refine lv_iinc (v := nI (k9 + 1)) (lv' := [(7, .int (nI (k9 + 1))), (0, .ref mm), (1, .float a), (2, .float b), (3, .float c9), (4, .float d9), (5, .int 1), (6, .int (nI (13 * mb)))]) hx hb dX4_body_105 hl (k := 7) rfl (nI_add k9 1) (by decide) rfl (fun ls hl => ?_)
              refine lv_goto (tgt := 87) hx hb dX4_body_108 (by decide) ?_
              have hl : lv_has ls 8 [(0, .ref mm), (1, .float a), (2, .float b), (3, .float c9), (4, .float d9), (5, .int 1), (6, .int (nI (13 * mb))), (7, .int (nI (k9 + 1)))] := lv_sub hl [1, 2, 3, 4, 5, 6, 7, 0] rfl
              exact ih87 (fun _ _ => .null) _ _ _ _ _ ⟨(k9 + 1), by omega, hI, hP, hD, hS, hl, by omega⟩
        · refine lv_if_eq (tgt := 45) hx hb dX4_body_38 (by decide) (fun _ => ?_) (fun h9 => by first | exact absurd h9 (by decide) | exact absurd (by decide) h9)
          refine lv_iconst (v := 0) hx hb dX4_body_45 (by decide) ?_
          refine lv_istore (lv' := [(5, .int 0), (0, .ref mm), (1, .float a), (2, .float b), (3, .float c9), (4, .float d9)]) hx hb dX4_body_46 hl (by decide) rfl (fun ls hl => ?_)
          refine lv_aload_n hx hb dX4_body_48 rfl (lv_at hl 1 rfl) ?_
          refine lv_iload hx hb dX4_body_49 (lv_at hl 0 rfl) ?_
          refine lv_aload_n hx hb dX4_body_51 rfl (lv_at hl 1 rfl) ?_
          refine kp_get hx hb hts i_X4 hown hK hP hI hW.tm rfl rfl 1 (by decide) (by decide) (hts (.fieldLink RX4 93 "IslandSolverModel" "bodies" "I") (by decide +kernel)) (fun _ h9 => h9) dX4_body_52 (kq_P (v0 := .int (nI mb)) rfl hW.p1 fun h_65 => ?_)
          refine lv_sipush (v := 256) hx hb dX4_body_55 (by decide) ?_
          refine lv_icmp_ge (tgt := 65) hx hb dX4_body_58 (by decide) (fun c_66 => ?_) (fun c_66 => ?_)
          · have n_67 : 256 ≤ mb := (nI_leI (by omega) (by omega)).mp (show nI 256 ≤ nI mb from c_66)
            refine lv_iconst (v := 0) hx hb dX4_body_65 (by decide) ?_
            refine lv_iconst (v := 1) hx hb dX4_body_66 (by decide) ?_
            refine kd_calli (va_runV (As := [.int 0, .int 0, .int 1]) (rest := []) ⟨hx, hb, hml, hown, hts⟩ (k_goes2 l dC dI dA ad _ τ pv _ _ hI mm fa sa aa ia sf mb mr mk mr hW 0 1) (cwV 3 hts gX4_body_X4_goes rfl rfl rfl (by decide +kernel) ⟨Nat.le_of_ble_eq_true rfl, Nat.le_of_ble_eq_true rfl⟩) (kd_preV hP hD hK hS hA hE hI hW.tm rfl rfl) rfl rfl hl.1 rfl (lv_room (Nat.le_of_ble_eq_true rfl)) dX4_body_67 ⟨Nat.le_of_ble_eq_true rfl, Nat.le_of_ble_eq_true rfl⟩) hD hS hA (fun r_69 u_68 H locs hw hP hD hS => ?_)
            obtain ⟨rfl, hI⟩ := hw
            have hF := hF.trans (kFr.up (P := kPx) (w := .int 1) (k := 0) hW.tm rfl)
            have hW := hW.frw (kFr.up (P := kPy mr) (w := .int 1) (k := 0) hW.tm rfl)
            refine lv_if_ne (tgt := 75) hx hb dX4_body_70 (by decide) (fun h9 => by first | exact absurd h9 (by decide) | exact absurd (by decide) h9) (fun _ => ?_)
            refine lv_iconst (v := 0) hx hb dX4_body_73 (by decide) ?_
            refine W.widen (k := 0) (n := 0) (Nat.le_of_ble_eq_true rfl) (Nat.le_of_ble_eq_true rfl) ?_
            exact W.iret (v := 0) hx hb hr (fun t ht hW9 => ⟨⟨0, (u_68.1, u_68.2), rfl, (by rw [kinc_1 (show kc_body2 mb a b c9 d9 ≠ 0 by rw [show kc_body2 mb a b c9 d9 = 1 from (by simp only [kc_body2, k_4, k_9, k_14, k_19, (Nat.not_lt.mpr n_67), decide_true, decide_false, Bool.not_true, Bool.not_false, Bool.and_true, Bool.true_and, Bool.and_false, Bool.false_and, Bool.and_self, Bool.false_eq_true, if_true, if_false, ite_true, ite_false, reduceIte] <;> decide)]; decide)]; exact ⟨_, _, hF, hW, (Eq.trans kup_self (congrArg Value.int (Eq.symm (by simp only [kc_body2, k_4, k_9, k_14, k_19, (Nat.not_lt.mpr n_67), decide_true, decide_false, Bool.not_true, Bool.not_false, Bool.and_true, Bool.true_and, Bool.and_false, Bool.false_and, Bool.and_self, Bool.false_eq_true, if_true, if_false, ite_true, ite_false, reduceIte] <;> decide)))), fun h9 => absurd ((show kc_body2 mb a b c9 d9 = 1 from (by simp only [kc_body2, k_4, k_9, k_14, k_19, (Nat.not_lt.mpr n_67), decide_true, decide_false, Bool.not_true, Bool.not_false, Bool.and_true, Bool.true_and, Bool.and_false, Bool.false_and, Bool.and_self, Bool.false_eq_true, if_true, if_false, ite_true, ite_false, reduceIte] <;> decide)).symm.trans h9) (by decide), hI⟩), by rw [ht]; exact hP, va_K.moved hW9.alike hK, hD⟩, hS.F ht⟩) hS.2.2 dX4_body_74
          · have n_70 : ¬ 256 ≤ mb := fun h9 => (show ¬ nI 256 ≤ nI mb from c_66) ((nI_leI (by omega) (by omega)).mpr h9)
            refine lv_iconst (v := 1) hx hb dX4_body_61 (by decide) ?_
            refine lv_goto (tgt := 66) hx hb dX4_body_62 (by decide) ?_
            refine lv_iconst (v := 1) hx hb dX4_body_66 (by decide) ?_
            refine kd_calli (va_runV (As := [.int 0, .int 1, .int 1]) (rest := []) ⟨hx, hb, hml, hown, hts⟩ (k_goes2 l dC dI dA ad _ τ pv _ _ hI mm fa sa aa ia sf mb mr mk mr hW 1 1) (cwV 3 hts gX4_body_X4_goes rfl rfl rfl (by decide +kernel) ⟨Nat.le_of_ble_eq_true rfl, Nat.le_of_ble_eq_true rfl⟩) (kd_preV hP hD hK hS hA hE hI hW.tm rfl rfl) rfl rfl hl.1 rfl (lv_room (Nat.le_of_ble_eq_true rfl)) dX4_body_67 ⟨Nat.le_of_ble_eq_true rfl, Nat.le_of_ble_eq_true rfl⟩) hD hS hA (fun r_72 u_71 H locs hw hP hD hS => ?_)
            obtain ⟨rfl, hI⟩ := hw
            have hF := hF.trans (kFr.up (P := kPx) (w := .int 1) (k := 0) hW.tm rfl)
            have hW := hW.frw (kFr.up (P := kPy mr) (w := .int 1) (k := 0) hW.tm rfl)
            refine lv_if_ne (tgt := 75) hx hb dX4_body_70 (by decide) (fun h9 => by first | exact absurd h9 (by decide) | exact absurd (by decide) h9) (fun _ => ?_)
            refine lv_iconst (v := 0) hx hb dX4_body_73 (by decide) ?_
            refine W.widen (k := 0) (n := 0) (Nat.le_of_ble_eq_true rfl) (Nat.le_of_ble_eq_true rfl) ?_
            exact W.iret (v := 0) hx hb hr (fun t ht hW9 => ⟨⟨0, (u_71.1, u_71.2), rfl, (by rw [kinc_1 (show kc_body2 mb a b c9 d9 ≠ 0 by rw [show kc_body2 mb a b c9 d9 = 1 from (by simp only [kc_body2, k_4, k_9, k_14, k_19, (Nat.not_le.mp n_70), decide_true, decide_false, Bool.not_true, Bool.not_false, Bool.and_true, Bool.true_and, Bool.and_false, Bool.false_and, Bool.and_self, Bool.false_eq_true, if_true, if_false, ite_true, ite_false, reduceIte] <;> decide)]; decide)]; exact ⟨_, _, hF, hW, (Eq.trans kup_self (congrArg Value.int (Eq.symm (by simp only [kc_body2, k_4, k_9, k_14, k_19, (Nat.not_le.mp n_70), decide_true, decide_false, Bool.not_true, Bool.not_false, Bool.and_true, Bool.true_and, Bool.and_false, Bool.false_and, Bool.and_self, Bool.false_eq_true, if_true, if_false, ite_true, ite_false, reduceIte] <;> decide)))), fun h9 => absurd ((show kc_body2 mb a b c9 d9 = 1 from (by simp only [kc_body2, k_4, k_9, k_14, k_19, (Nat.not_le.mp n_70), decide_true, decide_false, Bool.not_true, Bool.not_false, Bool.and_true, Bool.true_and, Bool.and_false, Bool.false_and, Bool.and_self, Bool.false_eq_true, if_true, if_false, ite_true, ite_false, reduceIte] <;> decide)).symm.trans h9) (by decide), hI⟩), by rw [ht]; exact hP, va_K.moved hW9.alike hK, hD⟩, hS.F ht⟩) hS.2.2 dX4_body_74
      · refine lv_if_eq (tgt := 45) hx hb dX4_body_27 (by decide) (fun _ => ?_) (fun h9 => by first | exact absurd h9 (by decide) | exact absurd (by decide) h9)
        refine lv_iconst (v := 0) hx hb dX4_body_45 (by decide) ?_
        refine lv_istore (lv' := [(5, .int 0), (0, .ref mm), (1, .float a), (2, .float b), (3, .float c9), (4, .float d9)]) hx hb dX4_body_46 hl (by decide) rfl (fun ls hl => ?_)
        refine lv_aload_n hx hb dX4_body_48 rfl (lv_at hl 1 rfl) ?_
        refine lv_iload hx hb dX4_body_49 (lv_at hl 0 rfl) ?_
        refine lv_aload_n hx hb dX4_body_51 rfl (lv_at hl 1 rfl) ?_
        refine kp_get hx hb hts i_X4 hown hK hP hI hW.tm rfl rfl 1 (by decide) (by decide) (hts (.fieldLink RX4 93 "IslandSolverModel" "bodies" "I") (by decide +kernel)) (fun _ h9 => h9) dX4_body_52 (kq_P (v0 := .int (nI mb)) rfl hW.p1 fun h_74 => ?_)
        refine lv_sipush (v := 256) hx hb dX4_body_55 (by decide) ?_
        refine lv_icmp_ge (tgt := 65) hx hb dX4_body_58 (by decide) (fun c_75 => ?_) (fun c_75 => ?_)
        · have n_76 : 256 ≤ mb := (nI_leI (by omega) (by omega)).mp (show nI 256 ≤ nI mb from c_75)
          refine lv_iconst (v := 0) hx hb dX4_body_65 (by decide) ?_
          refine lv_iconst (v := 1) hx hb dX4_body_66 (by decide) ?_
          refine kd_calli (va_runV (As := [.int 0, .int 0, .int 1]) (rest := []) ⟨hx, hb, hml, hown, hts⟩ (k_goes2 l dC dI dA ad _ τ pv _ _ hI mm fa sa aa ia sf mb mr mk mr hW 0 1) (cwV 3 hts gX4_body_X4_goes rfl rfl rfl (by decide +kernel) ⟨Nat.le_of_ble_eq_true rfl, Nat.le_of_ble_eq_true rfl⟩) (kd_preV hP hD hK hS hA hE hI hW.tm rfl rfl) rfl rfl hl.1 rfl (lv_room (Nat.le_of_ble_eq_true rfl)) dX4_body_67 ⟨Nat.le_of_ble_eq_true rfl, Nat.le_of_ble_eq_true rfl⟩) hD hS hA (fun r_78 u_77 H locs hw hP hD hS => ?_)
          obtain ⟨rfl, hI⟩ := hw
          have hF := hF.trans (kFr.up (P := kPx) (w := .int 1) (k := 0) hW.tm rfl)
          have hW := hW.frw (kFr.up (P := kPy mr) (w := .int 1) (k := 0) hW.tm rfl)
          refine lv_if_ne (tgt := 75) hx hb dX4_body_70 (by decide) (fun h9 => by first | exact absurd h9 (by decide) | exact absurd (by decide) h9) (fun _ => ?_)
          refine lv_iconst (v := 0) hx hb dX4_body_73 (by decide) ?_
          refine W.widen (k := 0) (n := 0) (Nat.le_of_ble_eq_true rfl) (Nat.le_of_ble_eq_true rfl) ?_
          exact W.iret (v := 0) hx hb hr (fun t ht hW9 => ⟨⟨0, (u_77.1, u_77.2), rfl, (by rw [kinc_1 (show kc_body2 mb a b c9 d9 ≠ 0 by rw [show kc_body2 mb a b c9 d9 = 1 from (by simp only [kc_body2, k_4, k_9, k_14, (Nat.not_lt.mpr n_76), decide_true, decide_false, Bool.not_true, Bool.not_false, Bool.and_true, Bool.true_and, Bool.and_false, Bool.false_and, Bool.and_self, Bool.false_eq_true, if_true, if_false, ite_true, ite_false, reduceIte] <;> decide)]; decide)]; exact ⟨_, _, hF, hW, (Eq.trans kup_self (congrArg Value.int (Eq.symm (by simp only [kc_body2, k_4, k_9, k_14, (Nat.not_lt.mpr n_76), decide_true, decide_false, Bool.not_true, Bool.not_false, Bool.and_true, Bool.true_and, Bool.and_false, Bool.false_and, Bool.and_self, Bool.false_eq_true, if_true, if_false, ite_true, ite_false, reduceIte] <;> decide)))), fun h9 => absurd ((show kc_body2 mb a b c9 d9 = 1 from (by simp only [kc_body2, k_4, k_9, k_14, (Nat.not_lt.mpr n_76), decide_true, decide_false, Bool.not_true, Bool.not_false, Bool.and_true, Bool.true_and, Bool.and_false, Bool.false_and, Bool.and_self, Bool.false_eq_true, if_true, if_false, ite_true, ite_false, reduceIte] <;> decide)).symm.trans h9) (by decide), hI⟩), by rw [ht]; exact hP, va_K.moved hW9.alike hK, hD⟩, hS.F ht⟩) hS.2.2 dX4_body_74
        · have n_79 : ¬ 256 ≤ mb := fun h9 => (show ¬ nI 256 ≤ nI mb from c_75) ((nI_leI (by omega) (by omega)).mpr h9)
          refine lv_iconst (v := 1) hx hb dX4_body_61 (by decide) ?_
          refine lv_goto (tgt := 66) hx hb dX4_body_62 (by decide) ?_
          refine lv_iconst (v := 1) hx hb dX4_body_66 (by decide) ?_
          refine kd_calli (va_runV (As := [.int 0, .int 1, .int 1]) (rest := []) ⟨hx, hb, hml, hown, hts⟩ (k_goes2 l dC dI dA ad _ τ pv _ _ hI mm fa sa aa ia sf mb mr mk mr hW 1 1) (cwV 3 hts gX4_body_X4_goes rfl rfl rfl (by decide +kernel) ⟨Nat.le_of_ble_eq_true rfl, Nat.le_of_ble_eq_true rfl⟩) (kd_preV hP hD hK hS hA hE hI hW.tm rfl rfl) rfl rfl hl.1 rfl (lv_room (Nat.le_of_ble_eq_true rfl)) dX4_body_67 ⟨Nat.le_of_ble_eq_true rfl, Nat.le_of_ble_eq_true rfl⟩) hD hS hA (fun r_81 u_80 H locs hw hP hD hS => ?_)
          obtain ⟨rfl, hI⟩ := hw
          have hF := hF.trans (kFr.up (P := kPx) (w := .int 1) (k := 0) hW.tm rfl)
          have hW := hW.frw (kFr.up (P := kPy mr) (w := .int 1) (k := 0) hW.tm rfl)
          refine lv_if_ne (tgt := 75) hx hb dX4_body_70 (by decide) (fun h9 => by first | exact absurd h9 (by decide) | exact absurd (by decide) h9) (fun _ => ?_)
          refine lv_iconst (v := 0) hx hb dX4_body_73 (by decide) ?_
          refine W.widen (k := 0) (n := 0) (Nat.le_of_ble_eq_true rfl) (Nat.le_of_ble_eq_true rfl) ?_
          exact W.iret (v := 0) hx hb hr (fun t ht hW9 => ⟨⟨0, (u_80.1, u_80.2), rfl, (by rw [kinc_1 (show kc_body2 mb a b c9 d9 ≠ 0 by rw [show kc_body2 mb a b c9 d9 = 1 from (by simp only [kc_body2, k_4, k_9, k_14, (Nat.not_le.mp n_79), decide_true, decide_false, Bool.not_true, Bool.not_false, Bool.and_true, Bool.true_and, Bool.and_false, Bool.false_and, Bool.and_self, Bool.false_eq_true, if_true, if_false, ite_true, ite_false, reduceIte] <;> decide)]; decide)]; exact ⟨_, _, hF, hW, (Eq.trans kup_self (congrArg Value.int (Eq.symm (by simp only [kc_body2, k_4, k_9, k_14, (Nat.not_le.mp n_79), decide_true, decide_false, Bool.not_true, Bool.not_false, Bool.and_true, Bool.true_and, Bool.and_false, Bool.false_and, Bool.and_self, Bool.false_eq_true, if_true, if_false, ite_true, ite_false, reduceIte] <;> decide)))), fun h9 => absurd ((show kc_body2 mb a b c9 d9 = 1 from (by simp only [kc_body2, k_4, k_9, k_14, (Nat.not_le.mp n_79), decide_true, decide_false, Bool.not_true, Bool.not_false, Bool.and_true, Bool.true_and, Bool.and_false, Bool.false_and, Bool.and_self, Bool.false_eq_true, if_true, if_false, ite_true, ite_false, reduceIte] <;> decide)).symm.trans h9) (by decide), hI⟩), by rw [ht]; exact hP, va_K.moved hW9.alike hK, hD⟩, hS.F ht⟩) hS.2.2 dX4_body_74
    · refine lv_if_eq (tgt := 45) hx hb dX4_body_17 (by decide) (fun _ => ?_) (fun h9 => by first | exact absurd h9 (by decide) | exact absurd (by decide) h9)
      refine lv_iconst (v := 0) hx hb dX4_body_45 (by decide) ?_
      refine lv_istore (lv' := [(5, .int 0), (0, .ref mm), (1, .float a), (2, .float b), (3, .float c9), (4, .float d9)]) hx hb dX4_body_46 hl (by decide) rfl (fun ls hl => ?_)
      refine lv_aload_n hx hb dX4_body_48 rfl (lv_at hl 1 rfl) ?_
      refine lv_iload hx hb dX4_body_49 (lv_at hl 0 rfl) ?_
      refine lv_aload_n hx hb dX4_body_51 rfl (lv_at hl 1 rfl) ?_
      refine kp_get hx hb hts i_X4 hown hK hP hI hW.tm rfl rfl 1 (by decide) (by decide) (hts (.fieldLink RX4 93 "IslandSolverModel" "bodies" "I") (by decide +kernel)) (fun _ h9 => h9) dX4_body_52 (kq_P (v0 := .int (nI mb)) rfl hW.p1 fun h_83 => ?_)
      refine lv_sipush (v := 256) hx hb dX4_body_55 (by decide) ?_
      refine lv_icmp_ge (tgt := 65) hx hb dX4_body_58 (by decide) (fun c_84 => ?_) (fun c_84 => ?_)
      · have n_85 : 256 ≤ mb := (nI_leI (by omega) (by omega)).mp (show nI 256 ≤ nI mb from c_84)
        refine lv_iconst (v := 0) hx hb dX4_body_65 (by decide) ?_
        refine lv_iconst (v := 1) hx hb dX4_body_66 (by decide) ?_
        refine kd_calli (va_runV (As := [.int 0, .int 0, .int 1]) (rest := []) ⟨hx, hb, hml, hown, hts⟩ (k_goes2 l dC dI dA ad _ τ pv _ _ hI mm fa sa aa ia sf mb mr mk mr hW 0 1) (cwV 3 hts gX4_body_X4_goes rfl rfl rfl (by decide +kernel) ⟨Nat.le_of_ble_eq_true rfl, Nat.le_of_ble_eq_true rfl⟩) (kd_preV hP hD hK hS hA hE hI hW.tm rfl rfl) rfl rfl hl.1 rfl (lv_room (Nat.le_of_ble_eq_true rfl)) dX4_body_67 ⟨Nat.le_of_ble_eq_true rfl, Nat.le_of_ble_eq_true rfl⟩) hD hS hA (fun r_87 u_86 H locs hw hP hD hS => ?_)
        obtain ⟨rfl, hI⟩ := hw
        have hF := hF.trans (kFr.up (P := kPx) (w := .int 1) (k := 0) hW.tm rfl)
        have hW := hW.frw (kFr.up (P := kPy mr) (w := .int 1) (k := 0) hW.tm rfl)
        refine lv_if_ne (tgt := 75) hx hb dX4_body_70 (by decide) (fun h9 => by first | exact absurd h9 (by decide) | exact absurd (by decide) h9) (fun _ => ?_)
        refine lv_iconst (v := 0) hx hb dX4_body_73 (by decide) ?_
        refine W.widen (k := 0) (n := 0) (Nat.le_of_ble_eq_true rfl) (Nat.le_of_ble_eq_true rfl) ?_
        exact W.iret (v := 0) hx hb hr (fun t ht hW9 => ⟨⟨0, (u_86.1, u_86.2), rfl, (by rw [kinc_1 (show kc_body2 mb a b c9 d9 ≠ 0 by rw [show kc_body2 mb a b c9 d9 = 1 from (by simp only [kc_body2, k_4, k_9, (Nat.not_lt.mpr n_85), decide_true, decide_false, Bool.not_true, Bool.not_false, Bool.and_true, Bool.true_and, Bool.and_false, Bool.false_and, Bool.and_self, Bool.false_eq_true, if_true, if_false, ite_true, ite_false, reduceIte] <;> decide)]; decide)]; exact ⟨_, _, hF, hW, (Eq.trans kup_self (congrArg Value.int (Eq.symm (by simp only [kc_body2, k_4, k_9, (Nat.not_lt.mpr n_85), decide_true, decide_false, Bool.not_true, Bool.not_false, Bool.and_true, Bool.true_and, Bool.and_false, Bool.false_and, Bool.and_self, Bool.false_eq_true, if_true, if_false, ite_true, ite_false, reduceIte] <;> decide)))), fun h9 => absurd ((show kc_body2 mb a b c9 d9 = 1 from (by simp only [kc_body2, k_4, k_9, (Nat.not_lt.mpr n_85), decide_true, decide_false, Bool.not_true, Bool.not_false, Bool.and_true, Bool.true_and, Bool.and_false, Bool.false_and, Bool.and_self, Bool.false_eq_true, if_true, if_false, ite_true, ite_false, reduceIte] <;> decide)).symm.trans h9) (by decide), hI⟩), by rw [ht]; exact hP, va_K.moved hW9.alike hK, hD⟩, hS.F ht⟩) hS.2.2 dX4_body_74
      · have n_88 : ¬ 256 ≤ mb := fun h9 => (show ¬ nI 256 ≤ nI mb from c_84) ((nI_leI (by omega) (by omega)).mpr h9)
        refine lv_iconst (v := 1) hx hb dX4_body_61 (by decide) ?_
        refine lv_goto (tgt := 66) hx hb dX4_body_62 (by decide) ?_
        refine lv_iconst (v := 1) hx hb dX4_body_66 (by decide) ?_
        refine kd_calli (va_runV (As := [.int 0, .int 1, .int 1]) (rest := []) ⟨hx, hb, hml, hown, hts⟩ (k_goes2 l dC dI dA ad _ τ pv _ _ hI mm fa sa aa ia sf mb mr mk mr hW 1 1) (cwV 3 hts gX4_body_X4_goes rfl rfl rfl (by decide +kernel) ⟨Nat.le_of_ble_eq_true rfl, Nat.le_of_ble_eq_true rfl⟩) (kd_preV hP hD hK hS hA hE hI hW.tm rfl rfl) rfl rfl hl.1 rfl (lv_room (Nat.le_of_ble_eq_true rfl)) dX4_body_67 ⟨Nat.le_of_ble_eq_true rfl, Nat.le_of_ble_eq_true rfl⟩) hD hS hA (fun r_90 u_89 H locs hw hP hD hS => ?_)
        obtain ⟨rfl, hI⟩ := hw
        have hF := hF.trans (kFr.up (P := kPx) (w := .int 1) (k := 0) hW.tm rfl)
        have hW := hW.frw (kFr.up (P := kPy mr) (w := .int 1) (k := 0) hW.tm rfl)
        refine lv_if_ne (tgt := 75) hx hb dX4_body_70 (by decide) (fun h9 => by first | exact absurd h9 (by decide) | exact absurd (by decide) h9) (fun _ => ?_)
        refine lv_iconst (v := 0) hx hb dX4_body_73 (by decide) ?_
        refine W.widen (k := 0) (n := 0) (Nat.le_of_ble_eq_true rfl) (Nat.le_of_ble_eq_true rfl) ?_
        exact W.iret (v := 0) hx hb hr (fun t ht hW9 => ⟨⟨0, (u_89.1, u_89.2), rfl, (by rw [kinc_1 (show kc_body2 mb a b c9 d9 ≠ 0 by rw [show kc_body2 mb a b c9 d9 = 1 from (by simp only [kc_body2, k_4, k_9, (Nat.not_le.mp n_88), decide_true, decide_false, Bool.not_true, Bool.not_false, Bool.and_true, Bool.true_and, Bool.and_false, Bool.false_and, Bool.and_self, Bool.false_eq_true, if_true, if_false, ite_true, ite_false, reduceIte] <;> decide)]; decide)]; exact ⟨_, _, hF, hW, (Eq.trans kup_self (congrArg Value.int (Eq.symm (by simp only [kc_body2, k_4, k_9, (Nat.not_le.mp n_88), decide_true, decide_false, Bool.not_true, Bool.not_false, Bool.and_true, Bool.true_and, Bool.and_false, Bool.false_and, Bool.and_self, Bool.false_eq_true, if_true, if_false, ite_true, ite_false, reduceIte] <;> decide)))), fun h9 => absurd ((show kc_body2 mb a b c9 d9 = 1 from (by simp only [kc_body2, k_4, k_9, (Nat.not_le.mp n_88), decide_true, decide_false, Bool.not_true, Bool.not_false, Bool.and_true, Bool.true_and, Bool.and_false, Bool.false_and, Bool.and_self, Bool.false_eq_true, if_true, if_false, ite_true, ite_false, reduceIte] <;> decide)).symm.trans h9) (by decide), hI⟩), by rw [ht]; exact hP, va_K.moved hW9.alike hK, hD⟩, hS.F ht⟩) hS.2.2 dX4_body_74
  · refine lv_if_eq (tgt := 45) hx hb dX4_body_7 (by decide) (fun _ => ?_) (fun h9 => by first | exact absurd h9 (by decide) | exact absurd (by decide) h9)
    refine lv_iconst (v := 0) hx hb dX4_body_45 (by decide) ?_
    refine lv_istore (lv' := [(5, .int 0), (0, .ref mm), (1, .float a), (2, .float b), (3, .float c9), (4, .float d9)]) hx hb dX4_body_46 hl (by decide) rfl (fun ls hl => ?_)
    refine lv_aload_n hx hb dX4_body_48 rfl (lv_at hl 1 rfl) ?_
    refine lv_iload hx hb dX4_body_49 (lv_at hl 0 rfl) ?_
    refine lv_aload_n hx hb dX4_body_51 rfl (lv_at hl 1 rfl) ?_
    refine kp_get hx hb hts i_X4 hown hK hP hI hW.tm rfl rfl 1 (by decide) (by decide) (hts (.fieldLink RX4 93 "IslandSolverModel" "bodies" "I") (by decide +kernel)) (fun _ h9 => h9) dX4_body_52 (kq_P (v0 := .int (nI mb)) rfl hW.p1 fun h_92 => ?_)
    refine lv_sipush (v := 256) hx hb dX4_body_55 (by decide) ?_
    refine lv_icmp_ge (tgt := 65) hx hb dX4_body_58 (by decide) (fun c_93 => ?_) (fun c_93 => ?_)
    · have n_94 : 256 ≤ mb := (nI_leI (by omega) (by omega)).mp (show nI 256 ≤ nI mb from c_93)
      refine lv_iconst (v := 0) hx hb dX4_body_65 (by decide) ?_
      refine lv_iconst (v := 1) hx hb dX4_body_66 (by decide) ?_
      refine kd_calli (va_runV (As := [.int 0, .int 0, .int 1]) (rest := []) ⟨hx, hb, hml, hown, hts⟩ (k_goes2 l dC dI dA ad _ τ pv _ _ hI mm fa sa aa ia sf mb mr mk mr hW 0 1) (cwV 3 hts gX4_body_X4_goes rfl rfl rfl (by decide +kernel) ⟨Nat.le_of_ble_eq_true rfl, Nat.le_of_ble_eq_true rfl⟩) (kd_preV hP hD hK hS hA hE hI hW.tm rfl rfl) rfl rfl hl.1 rfl (lv_room (Nat.le_of_ble_eq_true rfl)) dX4_body_67 ⟨Nat.le_of_ble_eq_true rfl, Nat.le_of_ble_eq_true rfl⟩) hD hS hA (fun r_96 u_95 H locs hw hP hD hS => ?_)
      obtain ⟨rfl, hI⟩ := hw
      have hF := hF.trans (kFr.up (P := kPx) (w := .int 1) (k := 0) hW.tm rfl)
      have hW := hW.frw (kFr.up (P := kPy mr) (w := .int 1) (k := 0) hW.tm rfl)
      refine lv_if_ne (tgt := 75) hx hb dX4_body_70 (by decide) (fun h9 => by first | exact absurd h9 (by decide) | exact absurd (by decide) h9) (fun _ => ?_)
      refine lv_iconst (v := 0) hx hb dX4_body_73 (by decide) ?_
      refine W.widen (k := 0) (n := 0) (Nat.le_of_ble_eq_true rfl) (Nat.le_of_ble_eq_true rfl) ?_
      exact W.iret (v := 0) hx hb hr (fun t ht hW9 => ⟨⟨0, (u_95.1, u_95.2), rfl, (by rw [kinc_1 (show kc_body2 mb a b c9 d9 ≠ 0 by rw [show kc_body2 mb a b c9 d9 = 1 from (by simp only [kc_body2, k_4, (Nat.not_lt.mpr n_94), decide_true, decide_false, Bool.not_true, Bool.not_false, Bool.and_true, Bool.true_and, Bool.and_false, Bool.false_and, Bool.and_self, Bool.false_eq_true, if_true, if_false, ite_true, ite_false, reduceIte] <;> decide)]; decide)]; exact ⟨_, _, hF, hW, (Eq.trans kup_self (congrArg Value.int (Eq.symm (by simp only [kc_body2, k_4, (Nat.not_lt.mpr n_94), decide_true, decide_false, Bool.not_true, Bool.not_false, Bool.and_true, Bool.true_and, Bool.and_false, Bool.false_and, Bool.and_self, Bool.false_eq_true, if_true, if_false, ite_true, ite_false, reduceIte] <;> decide)))), fun h9 => absurd ((show kc_body2 mb a b c9 d9 = 1 from (by simp only [kc_body2, k_4, (Nat.not_lt.mpr n_94), decide_true, decide_false, Bool.not_true, Bool.not_false, Bool.and_true, Bool.true_and, Bool.and_false, Bool.false_and, Bool.and_self, Bool.false_eq_true, if_true, if_false, ite_true, ite_false, reduceIte] <;> decide)).symm.trans h9) (by decide), hI⟩), by rw [ht]; exact hP, va_K.moved hW9.alike hK, hD⟩, hS.F ht⟩) hS.2.2 dX4_body_74
    · have n_97 : ¬ 256 ≤ mb := fun h9 => (show ¬ nI 256 ≤ nI mb from c_93) ((nI_leI (by omega) (by omega)).mpr h9)
      refine lv_iconst (v := 1) hx hb dX4_body_61 (by decide) ?_
      refine lv_goto (tgt := 66) hx hb dX4_body_62 (by decide) ?_
      refine lv_iconst (v := 1) hx hb dX4_body_66 (by decide) ?_
      refine kd_calli (va_runV (As := [.int 0, .int 1, .int 1]) (rest := []) ⟨hx, hb, hml, hown, hts⟩ (k_goes2 l dC dI dA ad _ τ pv _ _ hI mm fa sa aa ia sf mb mr mk mr hW 1 1) (cwV 3 hts gX4_body_X4_goes rfl rfl rfl (by decide +kernel) ⟨Nat.le_of_ble_eq_true rfl, Nat.le_of_ble_eq_true rfl⟩) (kd_preV hP hD hK hS hA hE hI hW.tm rfl rfl) rfl rfl hl.1 rfl (lv_room (Nat.le_of_ble_eq_true rfl)) dX4_body_67 ⟨Nat.le_of_ble_eq_true rfl, Nat.le_of_ble_eq_true rfl⟩) hD hS hA (fun r_99 u_98 H locs hw hP hD hS => ?_)
      obtain ⟨rfl, hI⟩ := hw
      have hF := hF.trans (kFr.up (P := kPx) (w := .int 1) (k := 0) hW.tm rfl)
      have hW := hW.frw (kFr.up (P := kPy mr) (w := .int 1) (k := 0) hW.tm rfl)
      refine lv_if_ne (tgt := 75) hx hb dX4_body_70 (by decide) (fun h9 => by first | exact absurd h9 (by decide) | exact absurd (by decide) h9) (fun _ => ?_)
      refine lv_iconst (v := 0) hx hb dX4_body_73 (by decide) ?_
      refine W.widen (k := 0) (n := 0) (Nat.le_of_ble_eq_true rfl) (Nat.le_of_ble_eq_true rfl) ?_
      exact W.iret (v := 0) hx hb hr (fun t ht hW9 => ⟨⟨0, (u_98.1, u_98.2), rfl, (by rw [kinc_1 (show kc_body2 mb a b c9 d9 ≠ 0 by rw [show kc_body2 mb a b c9 d9 = 1 from (by simp only [kc_body2, k_4, (Nat.not_le.mp n_97), decide_true, decide_false, Bool.not_true, Bool.not_false, Bool.and_true, Bool.true_and, Bool.and_false, Bool.false_and, Bool.and_self, Bool.false_eq_true, if_true, if_false, ite_true, ite_false, reduceIte] <;> decide)]; decide)]; exact ⟨_, _, hF, hW, (Eq.trans kup_self (congrArg Value.int (Eq.symm (by simp only [kc_body2, k_4, (Nat.not_le.mp n_97), decide_true, decide_false, Bool.not_true, Bool.not_false, Bool.and_true, Bool.true_and, Bool.and_false, Bool.false_and, Bool.and_self, Bool.false_eq_true, if_true, if_false, ite_true, ite_false, reduceIte] <;> decide)))), fun h9 => absurd ((show kc_body2 mb a b c9 d9 = 1 from (by simp only [kc_body2, k_4, (Nat.not_le.mp n_97), decide_true, decide_false, Bool.not_true, Bool.not_false, Bool.and_true, Bool.true_and, Bool.and_false, Bool.false_and, Bool.and_self, Bool.false_eq_true, if_true, if_false, ite_true, ite_false, reduceIte] <;> decide)).symm.trans h9) (by decide), hI⟩), by rw [ht]; exact hP, va_K.moved hW9.alike hK, hD⟩, hS.F ht⟩) hS.2.2 dX4_body_74
set_option maxHeartbeats 4000000 in
set_option maxRecDepth 100000 in
theorem m_p_row (l : Launch) (dC : Nat → ClassId) (dI : Nat → Nat → Nat) (dA : Nat → ClassId) (ad sz : Nat) (τ : Nat → Nat → Nat) (pv : Nat → Nat → Value) (L : List Nat) (f : Nat → va_E) (hI : kI dA τ pv L f) (mm fa sa aa ia sf mb mr mk : Nat) (hW : kMd τ pv mm fa sa aa ia sf mb mr mk mr) (n k : Int32) (a : UInt32) (b : UInt32) (c9 : UInt32) (d9 : UInt32) (ky : Int32) : Met l yX4_row wsX4_row ({ frames := 3, cells := 0, slots := 0, locals := 71 } : Room) (va_Pc [.ref mm, .int n, .int k, .float a, .float b, .float c9, .float d9, .int ky] (kB dC dI dA ad sz L f)) (va_Qi (fun r u => kPostQ dA τ pv mm fa sa aa ia sf mb mr (kinc (kc_row n k mb mr a b c9 d9) mr) (kc_row n k mb mr a b c9 d9) r (nI mr) n k (-1) u) (kR dC dI dA (va_A (va_pl L f) sz)) (va_A (va_pl L f) sz)) 0 0 (va_A (va_pl L f) sz) := by
  refine Met.ofW (cc := cX4_row) (maxL := 9) (ret := (some .int)) (by decide) rfl ?_
  intro p e s m args below meth c s₁ B hml hv
  obtain ⟨rfl, hsz, hP, hK, hD0, hE⟩ := hv
  have hx := B.exec
  have hb := B.bytes
  have hr := B.returns
  have hts := atoms_spec (ws := wsX4_row) B.pre
  have hown : s.vm.findClass RX4 = some m.cls := findClass_of_methodNamed B.named
  have hlocks := B.notSynchronized
  have i_X4 : ∀ w ∈ u_ws RX4 TX4 35, w ∈ wsX4_row := by decide +kernel
  subst hsz
  have hD := hD0.self (sz := s.heap.size)
  generalize hAe : va_A (va_pl L f) s.heap.size = A at hD hE ⊢
  have hA : ∀ q : Nat, s.heap.size ≤ q → A q := fun q h => by rw [← hAe]; exact Or.inr h
  have hS : va_S A s.heap s.heap [] := va_S.rf
  have hP : va_P (dC, dI) vwCl (va_pl L f) s.heap := hP
  have hK : va_K (dC, dI) vwCl (tyA dA) s := hK
  have hl := lv_entry ([.ref mm, .int n, .int k, .float a, .float b, .float c9, .float d9, .int ky]) (n := 9) (Nat.le_of_ble_eq_true rfl)
  rw [lg_entry_eq]
  generalize (lg_sl ([.ref mm, .int n, .int k, .float a, .float b, .float c9, .float d9, .int ky]) ++ List.replicate (9 - (lg_sl ([.ref mm, .int n, .int k, .float a, .float b, .float c9, .float d9, .int ky])).length) Slot.unset).toArray = ls at hl ⊢
  have hl : lv_has ls 9 [(0, .ref mm), (1, .int n), (2, .int k), (3, .float a), (4, .float b), (5, .float c9), (6, .float d9), (7, .int ky)] := hl
  have hnb := hW.lb
  have hnr := hW.lr
  have hnk := hW.lk
  have hni := hW.li
  have hF : kFr (kPxr mr) τ pv τ pv := kFr.rf
  refine lv_fload_n hx hb dX4_row_0 rfl (lv_at hl 3 rfl) ?_
  refine lv_ldcf (v := 3296722944) hx hb hown (hts (.constantFloat RX4 115 (3296722944)) (by decide +kernel)) dX4_row_1 ?_
  have hc_1 : fb 1149239296 3296722944 := by unfold fb; decide +kernel
  refine lv_ldcf (v := 1149239296) hx hb hown (hts (.constantFloat RX4 116 (1149239296)) (by decide +kernel)) dX4_row_3 ?_
  have hc_2 : fb 1149239296 1149239296 := by unfold fb; decide +kernel
  refine kd_calli (va_runS (As := [.float a, .float 3296722944, .float 1149239296]) (rest := []) ⟨hx, hb, hml, hown, hts⟩ (k_within l dC dI dA ad _ τ pv _ _ hI a 3296722944 1149239296) (va_cwS 3 hts gX4_row_X4_within rfl rfl rfl (by decide +kernel) ⟨Nat.le_of_ble_eq_true rfl, Nat.le_of_ble_eq_true rfl⟩) (kd_preS hP hD hK hS hA hE) rfl rfl hl.1 rfl (lv_room (Nat.le_of_ble_eq_true rfl)) dX4_row_5 ⟨Nat.le_of_ble_eq_true rfl, Nat.le_of_ble_eq_true rfl⟩) hD hS hA (fun r_4 u_3 H locs hw hP hD hS => ?_)
  obtain ⟨⟨k_5, rfl⟩ | ⟨k_5, rfl⟩, hI⟩ := hw
  · have fb_6 : fb 1149239296 a := fb_within hc_1 hc_2 (by decide) k_5
    refine lv_if_eq (tgt := 58) hx hb dX4_row_8 (by decide) (fun h9 => by first | exact absurd h9 (by decide) | exact absurd (by decide) h9) (fun _ => ?_)
    refine lv_fload hx hb dX4_row_11 (lv_at hl 4 rfl) ?_
    refine lv_fconst0 hx hb dX4_row_13 ?_
    refine lv_ldcf (v := 1115684864) hx hb hown (hts (.constantFloat RX4 118 (1115684864)) (by decide +kernel)) dX4_row_14 ?_
    have hc_7 : fb 1115684864 1115684864 := by unfold fb; decide +kernel
    refine kd_calli (va_runS (As := [.float b, .float FP.fconst0, .float 1115684864]) (rest := []) ⟨hx, hb, hml, hown, hts⟩ (k_within l dC dI dA ad _ τ pv _ _ hI b FP.fconst0 1115684864) (va_cwS 3 hts gX4_row_X4_within rfl rfl rfl (by decide +kernel) ⟨Nat.le_of_ble_eq_true rfl, Nat.le_of_ble_eq_true rfl⟩) (kd_preS hP hD hK hS hA hE) rfl rfl hl.1 rfl (lv_room (Nat.le_of_ble_eq_true rfl)) dX4_row_16 ⟨Nat.le_of_ble_eq_true rfl, Nat.le_of_ble_eq_true rfl⟩) hD hS hA (fun r_9 u_8 H locs hw hP hD hS => ?_)
    obtain ⟨⟨k_10, rfl⟩ | ⟨k_10, rfl⟩, hI⟩ := hw
    · have fb_11 : fb 1115684864 b := fb_within (fb_le kc_0 (by decide)) hc_7 (by decide) k_10
      refine lv_if_eq (tgt := 58) hx hb dX4_row_19 (by decide) (fun h9 => by first | exact absurd h9 (by decide) | exact absurd (by decide) h9) (fun _ => ?_)
      refine lv_fload hx hb dX4_row_22 (lv_at hl 5 rfl) ?_
      refine lv_ldcf (v := 3347054592) hx hb hown (hts (.constantFloat RX4 140 (3347054592)) (by decide +kernel)) dX4_row_24 ?_
      have hc_12 : fb 1199570944 3347054592 := by unfold fb; decide +kernel
      refine lv_ldcf (v := 1199570944) hx hb hown (hts (.constantFloat RX4 141 (1199570944)) (by decide +kernel)) dX4_row_26 ?_
      have hc_13 : fb 1199570944 1199570944 := by unfold fb; decide +kernel
      refine kd_calli (va_runS (As := [.float c9, .float 3347054592, .float 1199570944]) (rest := []) ⟨hx, hb, hml, hown, hts⟩ (k_within l dC dI dA ad _ τ pv _ _ hI c9 3347054592 1199570944) (va_cwS 3 hts gX4_row_X4_within rfl rfl rfl (by decide +kernel) ⟨Nat.le_of_ble_eq_true rfl, Nat.le_of_ble_eq_true rfl⟩) (kd_preS hP hD hK hS hA hE) rfl rfl hl.1 rfl (lv_room (Nat.le_of_ble_eq_true rfl)) dX4_row_28 ⟨Nat.le_of_ble_eq_true rfl, Nat.le_of_ble_eq_true rfl⟩) hD hS hA (fun r_15 u_14 H locs hw hP hD hS => ?_)
      obtain ⟨⟨k_16, rfl⟩ | ⟨k_16, rfl⟩, hI⟩ := hw
      · have fb_17 : fb 1199570944 c9 := fb_within hc_12 hc_13 (by decide) k_16
        refine lv_if_eq (tgt := 58) hx hb dX4_row_31 (by decide) (fun h9 => by first | exact absurd h9 (by decide) | exact absurd (by decide) h9) (fun _ => ?_)
        refine lv_fload hx hb dX4_row_34 (lv_at hl 6 rfl) ?_
        refine lv_ldcf (v := 3347054592) hx hb hown (hts (.constantFloat RX4 140 (3347054592)) (by decide +kernel)) dX4_row_36 ?_
        have hc_18 : fb 1199570944 3347054592 := by unfold fb; decide +kernel
        refine lv_ldcf (v := 1199570944) hx hb hown (hts (.constantFloat RX4 141 (1199570944)) (by decide +kernel)) dX4_row_38 ?_
        have hc_19 : fb 1199570944 1199570944 := by unfold fb; decide +kernel
        refine kd_calli (va_runS (As := [.float d9, .float 3347054592, .float 1199570944]) (rest := []) ⟨hx, hb, hml, hown, hts⟩ (k_within l dC dI dA ad _ τ pv _ _ hI d9 3347054592 1199570944) (va_cwS 3 hts gX4_row_X4_within rfl rfl rfl (by decide +kernel) ⟨Nat.le_of_ble_eq_true rfl, Nat.le_of_ble_eq_true rfl⟩) (kd_preS hP hD hK hS hA hE) rfl rfl hl.1 rfl (lv_room (Nat.le_of_ble_eq_true rfl)) dX4_row_40 ⟨Nat.le_of_ble_eq_true rfl, Nat.le_of_ble_eq_true rfl⟩) hD hS hA (fun r_21 u_20 H locs hw hP hD hS => ?_)
        obtain ⟨⟨k_22, rfl⟩ | ⟨k_22, rfl⟩, hI⟩ := hw
        · have fb_23 : fb 1199570944 d9 := fb_within hc_18 hc_19 (by decide) k_22
          refine lv_if_eq (tgt := 58) hx hb dX4_row_43 (by decide) (fun h9 => by first | exact absurd h9 (by decide) | exact absurd (by decide) h9) (fun _ => ?_)
          refine lv_fload hx hb dX4_row_46 (lv_at hl 5 rfl) ?_
          refine lv_fload hx hb dX4_row_48 (lv_at hl 6 rfl) ?_
          refine lv_fcmp hx hb dX4_row_50 ?_
          refine lv_if_gt (tgt := 58) hx hb dX4_row_51 (by decide) (fun c_24 => ?_) (fun c_24 => ?_)
          · refine lv_iconst (v := 0) hx hb dX4_row_58 (by decide) ?_
            refine lv_istore (lv' := [(8, .int 0), (0, .ref mm), (1, .int n), (2, .int k), (3, .float a), (4, .float b), (5, .float c9), (6, .float d9), (7, .int ky)]) hx hb dX4_row_59 hl (by decide) rfl (fun ls hl => ?_)
            refine lv_aload_n hx hb dX4_row_61 rfl (lv_at hl 1 rfl) ?_
            refine lv_aload_n hx hb dX4_row_62 rfl (lv_at hl 1 rfl) ?_
            refine lv_iload_n hx hb dX4_row_63 rfl (lv_at hl 2 rfl) ?_
            refine lv_iload_n hx hb dX4_row_64 rfl (lv_at hl 3 rfl) ?_
            refine kd_calli (va_runV (As := [.int n, .int k]) (rest := [.ref mm]) ⟨hx, hb, hml, hown, hts⟩ (k_pair l dC dI dA ad _ τ pv _ _ hI mm fa sa aa ia sf mb mr mk mr hW n k) (cwV 2 hts gX4_row_X4_pair rfl rfl rfl (by decide +kernel) ⟨Nat.le_of_ble_eq_true rfl, Nat.le_of_ble_eq_true rfl⟩) (kd_preV hP hD hK hS hA hE hI hW.tm rfl rfl) rfl rfl hl.1 rfl (lv_room (Nat.le_of_ble_eq_true rfl)) dX4_row_65 ⟨Nat.le_of_ble_eq_true rfl, Nat.le_of_ble_eq_true rfl⟩) hD hS hA (fun r_26 u_25 H locs hw hP hD hS => ?_)
            obtain ⟨⟨rfl, hp_29, ⟨j_27, hj_27, rfl⟩, rfl | ⟨j_28, hj_28, rfl⟩⟩ | ⟨rfl, hp_29⟩, hI⟩ := hw
            · refine lv_iload hx hb dX4_row_68 (lv_at hl 0 rfl) ?_
              refine lv_aload_n hx hb dX4_row_70 rfl (lv_at hl 1 rfl) ?_
              refine kp_get hx hb hts i_X4 hown hK hP hI hW.tm rfl rfl 6 (by decide) (by decide) (hts (.fieldLink RX4 129 "IslandSolverModel" "rows" "I") (by decide +kernel)) (fun _ h9 => h9) dX4_row_71 (kq_P (v0 := .int (nI mr)) rfl hW.p6 fun h_31 => ?_)
              refine lv_sipush (v := 1024) hx hb dX4_row_74 (by decide) ?_
              refine lv_icmp_ge (tgt := 84) hx hb dX4_row_77 (by decide) (fun c_32 => ?_) (fun c_32 => ?_)
              · have n_33 : 1024 ≤ mr := (nI_leI (by omega) (by omega)).mp (show nI 1024 ≤ nI mr from c_32)
                refine lv_iconst (v := 0) hx hb dX4_row_84 (by decide) ?_
                refine kd_calli (va_runV (As := [.int 1, .int 0, .int 0]) (rest := []) ⟨hx, hb, hml, hown, hts⟩ (k_goes3 l dC dI dA ad _ τ pv _ _ hI mm fa sa aa ia sf mb mr mk mr hW 0) (cwV 3 hts gX4_row_X4_goes rfl rfl rfl (by decide +kernel) ⟨Nat.le_of_ble_eq_true rfl, Nat.le_of_ble_eq_true rfl⟩) (kd_preV hP hD hK hS hA hE hI hW.tm rfl rfl) rfl rfl hl.1 rfl (lv_room (Nat.le_of_ble_eq_true rfl)) dX4_row_85 ⟨Nat.le_of_ble_eq_true rfl, Nat.le_of_ble_eq_true rfl⟩) hD hS hA (fun r_35 u_34 H locs hw hP hD hS => ?_)
                obtain ⟨rfl, hI⟩ := hw
                have hF := hF.trans (kFr.up (P := (kPxr mr)) (w := .int 2) (k := 0) hW.tm rfl)
                have hW := hW.frw (kFr.up (P := kPy mr) (w := .int 2) (k := 0) hW.tm rfl)
                refine lv_if_ne (tgt := 93) hx hb dX4_row_88 (by decide) (fun h9 => by first | exact absurd h9 (by decide) | exact absurd (by decide) h9) (fun _ => ?_)
                refine lv_iconst (v := 0) hx hb dX4_row_91 (by decide) ?_
                refine W.widen (k := 0) (n := 0) (Nat.le_of_ble_eq_true rfl) (Nat.le_of_ble_eq_true rfl) ?_
                exact W.iret (v := 0) hx hb hr (fun t ht hW9 => ⟨⟨0, (u_34.1, u_34.2), rfl, (by rw [kinc_1 (show kc_row n k mb mr a b c9 d9 ≠ 0 by rw [show kc_row n k mb mr a b c9 d9 = 2 from (by simp only [kc_row, kFitRow, k_5, k_10, k_16, k_22, c_24, hp_29, (Nat.not_lt.mpr n_33), ← kf_lg fb_17 fb_23 (by decide) (by decide), decide_true, decide_false, Bool.not_true, Bool.not_false, Bool.and_true, Bool.true_and, Bool.and_false, Bool.false_and, Bool.and_self, Bool.false_eq_true, if_true, if_false, ite_true, ite_false, reduceIte] <;> decide)]; decide)]; exact ⟨_, _, hF, hW, (Eq.trans kup_self (congrArg Value.int (Eq.symm (by simp only [kc_row, kFitRow, k_5, k_10, k_16, k_22, c_24, hp_29, (Nat.not_lt.mpr n_33), ← kf_lg fb_17 fb_23 (by decide) (by decide), decide_true, decide_false, Bool.not_true, Bool.not_false, Bool.and_true, Bool.true_and, Bool.and_false, Bool.false_and, Bool.and_self, Bool.false_eq_true, if_true, if_false, ite_true, ite_false, reduceIte] <;> decide)))), fun h9 => absurd ((show kc_row n k mb mr a b c9 d9 = 2 from (by simp only [kc_row, kFitRow, k_5, k_10, k_16, k_22, c_24, hp_29, (Nat.not_lt.mpr n_33), ← kf_lg fb_17 fb_23 (by decide) (by decide), decide_true, decide_false, Bool.not_true, Bool.not_false, Bool.and_true, Bool.true_and, Bool.and_false, Bool.false_and, Bool.and_self, Bool.false_eq_true, if_true, if_false, ite_true, ite_false, reduceIte] <;> decide)).symm.trans h9) (by decide), fun h9 => absurd ((show kc_row n k mb mr a b c9 d9 = 2 from (by simp only [kc_row, kFitRow, k_5, k_10, k_16, k_22, c_24, hp_29, (Nat.not_lt.mpr n_33), ← kf_lg fb_17 fb_23 (by decide) (by decide), decide_true, decide_false, Bool.not_true, Bool.not_false, Bool.and_true, Bool.true_and, Bool.and_false, Bool.false_and, Bool.and_self, Bool.false_eq_true, if_true, if_false, ite_true, ite_false, reduceIte] <;> decide)).symm.trans h9) (by decide), hI⟩), by rw [ht]; exact hP, va_K.moved hW9.alike hK, hD⟩, hS.F ht⟩) hS.2.2 dX4_row_92
              · have n_36 : ¬ 1024 ≤ mr := fun h9 => (show ¬ nI 1024 ≤ nI mr from c_32) ((nI_leI (by omega) (by omega)).mpr h9)
                refine lv_iconst (v := 1) hx hb dX4_row_80 (by decide) ?_
                refine lv_goto (tgt := 85) hx hb dX4_row_81 (by decide) ?_
                refine kd_calli (va_runV (As := [.int 1, .int 0, .int 1]) (rest := []) ⟨hx, hb, hml, hown, hts⟩ (k_goes3 l dC dI dA ad _ τ pv _ _ hI mm fa sa aa ia sf mb mr mk mr hW 1) (cwV 3 hts gX4_row_X4_goes rfl rfl rfl (by decide +kernel) ⟨Nat.le_of_ble_eq_true rfl, Nat.le_of_ble_eq_true rfl⟩) (kd_preV hP hD hK hS hA hE hI hW.tm rfl rfl) rfl rfl hl.1 rfl (lv_room (Nat.le_of_ble_eq_true rfl)) dX4_row_85 ⟨Nat.le_of_ble_eq_true rfl, Nat.le_of_ble_eq_true rfl⟩) hD hS hA (fun r_38 u_37 H locs hw hP hD hS => ?_)
                obtain ⟨rfl, hI⟩ := hw
                have hF := hF.trans (kFr.up (P := (kPxr mr)) (w := .int 2) (k := 0) hW.tm rfl)
                have hW := hW.frw (kFr.up (P := kPy mr) (w := .int 2) (k := 0) hW.tm rfl)
                refine lv_if_ne (tgt := 93) hx hb dX4_row_88 (by decide) (fun h9 => by first | exact absurd h9 (by decide) | exact absurd (by decide) h9) (fun _ => ?_)
                refine lv_iconst (v := 0) hx hb dX4_row_91 (by decide) ?_
                refine W.widen (k := 0) (n := 0) (Nat.le_of_ble_eq_true rfl) (Nat.le_of_ble_eq_true rfl) ?_
                exact W.iret (v := 0) hx hb hr (fun t ht hW9 => ⟨⟨0, (u_37.1, u_37.2), rfl, (by rw [kinc_1 (show kc_row n k mb mr a b c9 d9 ≠ 0 by rw [show kc_row n k mb mr a b c9 d9 = 2 from (by simp only [kc_row, kFitRow, k_5, k_10, k_16, k_22, c_24, hp_29, (Nat.not_le.mp n_36), ← kf_lg fb_17 fb_23 (by decide) (by decide), decide_true, decide_false, Bool.not_true, Bool.not_false, Bool.and_true, Bool.true_and, Bool.and_false, Bool.false_and, Bool.and_self, Bool.false_eq_true, if_true, if_false, ite_true, ite_false, reduceIte] <;> decide)]; decide)]; exact ⟨_, _, hF, hW, (Eq.trans kup_self (congrArg Value.int (Eq.symm (by simp only [kc_row, kFitRow, k_5, k_10, k_16, k_22, c_24, hp_29, (Nat.not_le.mp n_36), ← kf_lg fb_17 fb_23 (by decide) (by decide), decide_true, decide_false, Bool.not_true, Bool.not_false, Bool.and_true, Bool.true_and, Bool.and_false, Bool.false_and, Bool.and_self, Bool.false_eq_true, if_true, if_false, ite_true, ite_false, reduceIte] <;> decide)))), fun h9 => absurd ((show kc_row n k mb mr a b c9 d9 = 2 from (by simp only [kc_row, kFitRow, k_5, k_10, k_16, k_22, c_24, hp_29, (Nat.not_le.mp n_36), ← kf_lg fb_17 fb_23 (by decide) (by decide), decide_true, decide_false, Bool.not_true, Bool.not_false, Bool.and_true, Bool.true_and, Bool.and_false, Bool.false_and, Bool.and_self, Bool.false_eq_true, if_true, if_false, ite_true, ite_false, reduceIte] <;> decide)).symm.trans h9) (by decide), fun h9 => absurd ((show kc_row n k mb mr a b c9 d9 = 2 from (by simp only [kc_row, kFitRow, k_5, k_10, k_16, k_22, c_24, hp_29, (Nat.not_le.mp n_36), ← kf_lg fb_17 fb_23 (by decide) (by decide), decide_true, decide_false, Bool.not_true, Bool.not_false, Bool.and_true, Bool.true_and, Bool.and_false, Bool.false_and, Bool.and_self, Bool.false_eq_true, if_true, if_false, ite_true, ite_false, reduceIte] <;> decide)).symm.trans h9) (by decide), hI⟩), by rw [ht]; exact hP, va_K.moved hW9.alike hK, hD⟩, hS.F ht⟩) hS.2.2 dX4_row_92
            · refine lv_iload hx hb dX4_row_68 (lv_at hl 0 rfl) ?_
              refine lv_aload_n hx hb dX4_row_70 rfl (lv_at hl 1 rfl) ?_
              refine kp_get hx hb hts i_X4 hown hK hP hI hW.tm rfl rfl 6 (by decide) (by decide) (hts (.fieldLink RX4 129 "IslandSolverModel" "rows" "I") (by decide +kernel)) (fun _ h9 => h9) dX4_row_71 (kq_P (v0 := .int (nI mr)) rfl hW.p6 fun h_40 => ?_)
              refine lv_sipush (v := 1024) hx hb dX4_row_74 (by decide) ?_
              refine lv_icmp_ge (tgt := 84) hx hb dX4_row_77 (by decide) (fun c_41 => ?_) (fun c_41 => ?_)
              · have n_42 : 1024 ≤ mr := (nI_leI (by omega) (by omega)).mp (show nI 1024 ≤ nI mr from c_41)
                refine lv_iconst (v := 0) hx hb dX4_row_84 (by decide) ?_
                refine kd_calli (va_runV (As := [.int 1, .int 0, .int 0]) (rest := []) ⟨hx, hb, hml, hown, hts⟩ (k_goes3 l dC dI dA ad _ τ pv _ _ hI mm fa sa aa ia sf mb mr mk mr hW 0) (cwV 3 hts gX4_row_X4_goes rfl rfl rfl (by decide +kernel) ⟨Nat.le_of_ble_eq_true rfl, Nat.le_of_ble_eq_true rfl⟩) (kd_preV hP hD hK hS hA hE hI hW.tm rfl rfl) rfl rfl hl.1 rfl (lv_room (Nat.le_of_ble_eq_true rfl)) dX4_row_85 ⟨Nat.le_of_ble_eq_true rfl, Nat.le_of_ble_eq_true rfl⟩) hD hS hA (fun r_44 u_43 H locs hw hP hD hS => ?_)
                obtain ⟨rfl, hI⟩ := hw
                have hF := hF.trans (kFr.up (P := (kPxr mr)) (w := .int 2) (k := 0) hW.tm rfl)
                have hW := hW.frw (kFr.up (P := kPy mr) (w := .int 2) (k := 0) hW.tm rfl)
                refine lv_if_ne (tgt := 93) hx hb dX4_row_88 (by decide) (fun h9 => by first | exact absurd h9 (by decide) | exact absurd (by decide) h9) (fun _ => ?_)
                refine lv_iconst (v := 0) hx hb dX4_row_91 (by decide) ?_
                refine W.widen (k := 0) (n := 0) (Nat.le_of_ble_eq_true rfl) (Nat.le_of_ble_eq_true rfl) ?_
                exact W.iret (v := 0) hx hb hr (fun t ht hW9 => ⟨⟨0, (u_43.1, u_43.2), rfl, (by rw [kinc_1 (show kc_row n k mb mr a b c9 d9 ≠ 0 by rw [show kc_row n k mb mr a b c9 d9 = 2 from (by simp only [kc_row, kFitRow, k_5, k_10, k_16, k_22, c_24, hp_29, (Nat.not_lt.mpr n_42), ← kf_lg fb_17 fb_23 (by decide) (by decide), decide_true, decide_false, Bool.not_true, Bool.not_false, Bool.and_true, Bool.true_and, Bool.and_false, Bool.false_and, Bool.and_self, Bool.false_eq_true, if_true, if_false, ite_true, ite_false, reduceIte] <;> decide)]; decide)]; exact ⟨_, _, hF, hW, (Eq.trans kup_self (congrArg Value.int (Eq.symm (by simp only [kc_row, kFitRow, k_5, k_10, k_16, k_22, c_24, hp_29, (Nat.not_lt.mpr n_42), ← kf_lg fb_17 fb_23 (by decide) (by decide), decide_true, decide_false, Bool.not_true, Bool.not_false, Bool.and_true, Bool.true_and, Bool.and_false, Bool.false_and, Bool.and_self, Bool.false_eq_true, if_true, if_false, ite_true, ite_false, reduceIte] <;> decide)))), fun h9 => absurd ((show kc_row n k mb mr a b c9 d9 = 2 from (by simp only [kc_row, kFitRow, k_5, k_10, k_16, k_22, c_24, hp_29, (Nat.not_lt.mpr n_42), ← kf_lg fb_17 fb_23 (by decide) (by decide), decide_true, decide_false, Bool.not_true, Bool.not_false, Bool.and_true, Bool.true_and, Bool.and_false, Bool.false_and, Bool.and_self, Bool.false_eq_true, if_true, if_false, ite_true, ite_false, reduceIte] <;> decide)).symm.trans h9) (by decide), fun h9 => absurd ((show kc_row n k mb mr a b c9 d9 = 2 from (by simp only [kc_row, kFitRow, k_5, k_10, k_16, k_22, c_24, hp_29, (Nat.not_lt.mpr n_42), ← kf_lg fb_17 fb_23 (by decide) (by decide), decide_true, decide_false, Bool.not_true, Bool.not_false, Bool.and_true, Bool.true_and, Bool.and_false, Bool.false_and, Bool.and_self, Bool.false_eq_true, if_true, if_false, ite_true, ite_false, reduceIte] <;> decide)).symm.trans h9) (by decide), hI⟩), by rw [ht]; exact hP, va_K.moved hW9.alike hK, hD⟩, hS.F ht⟩) hS.2.2 dX4_row_92
              · have n_45 : ¬ 1024 ≤ mr := fun h9 => (show ¬ nI 1024 ≤ nI mr from c_41) ((nI_leI (by omega) (by omega)).mpr h9)
                refine lv_iconst (v := 1) hx hb dX4_row_80 (by decide) ?_
                refine lv_goto (tgt := 85) hx hb dX4_row_81 (by decide) ?_
                refine kd_calli (va_runV (As := [.int 1, .int 0, .int 1]) (rest := []) ⟨hx, hb, hml, hown, hts⟩ (k_goes3 l dC dI dA ad _ τ pv _ _ hI mm fa sa aa ia sf mb mr mk mr hW 1) (cwV 3 hts gX4_row_X4_goes rfl rfl rfl (by decide +kernel) ⟨Nat.le_of_ble_eq_true rfl, Nat.le_of_ble_eq_true rfl⟩) (kd_preV hP hD hK hS hA hE hI hW.tm rfl rfl) rfl rfl hl.1 rfl (lv_room (Nat.le_of_ble_eq_true rfl)) dX4_row_85 ⟨Nat.le_of_ble_eq_true rfl, Nat.le_of_ble_eq_true rfl⟩) hD hS hA (fun r_47 u_46 H locs hw hP hD hS => ?_)
                obtain ⟨rfl, hI⟩ := hw
                have hF := hF.trans (kFr.up (P := (kPxr mr)) (w := .int 2) (k := 0) hW.tm rfl)
                have hW := hW.frw (kFr.up (P := kPy mr) (w := .int 2) (k := 0) hW.tm rfl)
                refine lv_if_ne (tgt := 93) hx hb dX4_row_88 (by decide) (fun h9 => by first | exact absurd h9 (by decide) | exact absurd (by decide) h9) (fun _ => ?_)
                refine lv_iconst (v := 0) hx hb dX4_row_91 (by decide) ?_
                refine W.widen (k := 0) (n := 0) (Nat.le_of_ble_eq_true rfl) (Nat.le_of_ble_eq_true rfl) ?_
                exact W.iret (v := 0) hx hb hr (fun t ht hW9 => ⟨⟨0, (u_46.1, u_46.2), rfl, (by rw [kinc_1 (show kc_row n k mb mr a b c9 d9 ≠ 0 by rw [show kc_row n k mb mr a b c9 d9 = 2 from (by simp only [kc_row, kFitRow, k_5, k_10, k_16, k_22, c_24, hp_29, (Nat.not_le.mp n_45), ← kf_lg fb_17 fb_23 (by decide) (by decide), decide_true, decide_false, Bool.not_true, Bool.not_false, Bool.and_true, Bool.true_and, Bool.and_false, Bool.false_and, Bool.and_self, Bool.false_eq_true, if_true, if_false, ite_true, ite_false, reduceIte] <;> decide)]; decide)]; exact ⟨_, _, hF, hW, (Eq.trans kup_self (congrArg Value.int (Eq.symm (by simp only [kc_row, kFitRow, k_5, k_10, k_16, k_22, c_24, hp_29, (Nat.not_le.mp n_45), ← kf_lg fb_17 fb_23 (by decide) (by decide), decide_true, decide_false, Bool.not_true, Bool.not_false, Bool.and_true, Bool.true_and, Bool.and_false, Bool.false_and, Bool.and_self, Bool.false_eq_true, if_true, if_false, ite_true, ite_false, reduceIte] <;> decide)))), fun h9 => absurd ((show kc_row n k mb mr a b c9 d9 = 2 from (by simp only [kc_row, kFitRow, k_5, k_10, k_16, k_22, c_24, hp_29, (Nat.not_le.mp n_45), ← kf_lg fb_17 fb_23 (by decide) (by decide), decide_true, decide_false, Bool.not_true, Bool.not_false, Bool.and_true, Bool.true_and, Bool.and_false, Bool.false_and, Bool.and_self, Bool.false_eq_true, if_true, if_false, ite_true, ite_false, reduceIte] <;> decide)).symm.trans h9) (by decide), fun h9 => absurd ((show kc_row n k mb mr a b c9 d9 = 2 from (by simp only [kc_row, kFitRow, k_5, k_10, k_16, k_22, c_24, hp_29, (Nat.not_le.mp n_45), ← kf_lg fb_17 fb_23 (by decide) (by decide), decide_true, decide_false, Bool.not_true, Bool.not_false, Bool.and_true, Bool.true_and, Bool.and_false, Bool.false_and, Bool.and_self, Bool.false_eq_true, if_true, if_false, ite_true, ite_false, reduceIte] <;> decide)).symm.trans h9) (by decide), hI⟩), by rw [ht]; exact hP, va_K.moved hW9.alike hK, hD⟩, hS.F ht⟩) hS.2.2 dX4_row_92
            · refine lv_iload hx hb dX4_row_68 (lv_at hl 0 rfl) ?_
              refine lv_aload_n hx hb dX4_row_70 rfl (lv_at hl 1 rfl) ?_
              refine kp_get hx hb hts i_X4 hown hK hP hI hW.tm rfl rfl 6 (by decide) (by decide) (hts (.fieldLink RX4 129 "IslandSolverModel" "rows" "I") (by decide +kernel)) (fun _ h9 => h9) dX4_row_71 (kq_P (v0 := .int (nI mr)) rfl hW.p6 fun h_49 => ?_)
              refine lv_sipush (v := 1024) hx hb dX4_row_74 (by decide) ?_
              refine lv_icmp_ge (tgt := 84) hx hb dX4_row_77 (by decide) (fun c_50 => ?_) (fun c_50 => ?_)
              · have n_51 : 1024 ≤ mr := (nI_leI (by omega) (by omega)).mp (show nI 1024 ≤ nI mr from c_50)
                refine lv_iconst (v := 0) hx hb dX4_row_84 (by decide) ?_
                refine kd_calli (va_runV (As := [.int 0, .int 0, .int 0]) (rest := []) ⟨hx, hb, hml, hown, hts⟩ (k_goes2 l dC dI dA ad _ τ pv _ _ hI mm fa sa aa ia sf mb mr mk mr hW 0 0) (cwV 3 hts gX4_row_X4_goes rfl rfl rfl (by decide +kernel) ⟨Nat.le_of_ble_eq_true rfl, Nat.le_of_ble_eq_true rfl⟩) (kd_preV hP hD hK hS hA hE hI hW.tm rfl rfl) rfl rfl hl.1 rfl (lv_room (Nat.le_of_ble_eq_true rfl)) dX4_row_85 ⟨Nat.le_of_ble_eq_true rfl, Nat.le_of_ble_eq_true rfl⟩) hD hS hA (fun r_53 u_52 H locs hw hP hD hS => ?_)
                obtain ⟨rfl, hI⟩ := hw
                have hF := hF.trans (kFr.up (P := (kPxr mr)) (w := .int 1) (k := 0) hW.tm rfl)
                have hW := hW.frw (kFr.up (P := kPy mr) (w := .int 1) (k := 0) hW.tm rfl)
                refine lv_if_ne (tgt := 93) hx hb dX4_row_88 (by decide) (fun h9 => by first | exact absurd h9 (by decide) | exact absurd (by decide) h9) (fun _ => ?_)
                refine lv_iconst (v := 0) hx hb dX4_row_91 (by decide) ?_
                refine W.widen (k := 0) (n := 0) (Nat.le_of_ble_eq_true rfl) (Nat.le_of_ble_eq_true rfl) ?_
                exact W.iret (v := 0) hx hb hr (fun t ht hW9 => ⟨⟨0, (u_52.1, u_52.2), rfl, (by rw [kinc_1 (show kc_row n k mb mr a b c9 d9 ≠ 0 by rw [show kc_row n k mb mr a b c9 d9 = 1 from (by simp only [kc_row, kFitRow, k_5, k_10, k_16, k_22, c_24, hp_29, (Nat.not_lt.mpr n_51), ← kf_lg fb_17 fb_23 (by decide) (by decide), decide_true, decide_false, Bool.not_true, Bool.not_false, Bool.and_true, Bool.true_and, Bool.and_false, Bool.false_and, Bool.and_self, Bool.false_eq_true, if_true, if_false, ite_true, ite_false, reduceIte] <;> decide)]; decide)]; exact ⟨_, _, hF, hW, (Eq.trans kup_self (congrArg Value.int (Eq.symm (by simp only [kc_row, kFitRow, k_5, k_10, k_16, k_22, c_24, hp_29, (Nat.not_lt.mpr n_51), ← kf_lg fb_17 fb_23 (by decide) (by decide), decide_true, decide_false, Bool.not_true, Bool.not_false, Bool.and_true, Bool.true_and, Bool.and_false, Bool.false_and, Bool.and_self, Bool.false_eq_true, if_true, if_false, ite_true, ite_false, reduceIte] <;> decide)))), fun h9 => absurd ((show kc_row n k mb mr a b c9 d9 = 1 from (by simp only [kc_row, kFitRow, k_5, k_10, k_16, k_22, c_24, hp_29, (Nat.not_lt.mpr n_51), ← kf_lg fb_17 fb_23 (by decide) (by decide), decide_true, decide_false, Bool.not_true, Bool.not_false, Bool.and_true, Bool.true_and, Bool.and_false, Bool.false_and, Bool.and_self, Bool.false_eq_true, if_true, if_false, ite_true, ite_false, reduceIte] <;> decide)).symm.trans h9) (by decide), fun h9 => absurd ((show kc_row n k mb mr a b c9 d9 = 1 from (by simp only [kc_row, kFitRow, k_5, k_10, k_16, k_22, c_24, hp_29, (Nat.not_lt.mpr n_51), ← kf_lg fb_17 fb_23 (by decide) (by decide), decide_true, decide_false, Bool.not_true, Bool.not_false, Bool.and_true, Bool.true_and, Bool.and_false, Bool.false_and, Bool.and_self, Bool.false_eq_true, if_true, if_false, ite_true, ite_false, reduceIte] <;> decide)).symm.trans h9) (by decide), hI⟩), by rw [ht]; exact hP, va_K.moved hW9.alike hK, hD⟩, hS.F ht⟩) hS.2.2 dX4_row_92
              · have n_54 : ¬ 1024 ≤ mr := fun h9 => (show ¬ nI 1024 ≤ nI mr from c_50) ((nI_leI (by omega) (by omega)).mpr h9)
                refine lv_iconst (v := 1) hx hb dX4_row_80 (by decide) ?_
                refine lv_goto (tgt := 85) hx hb dX4_row_81 (by decide) ?_
                refine kd_calli (va_runV (As := [.int 0, .int 0, .int 1]) (rest := []) ⟨hx, hb, hml, hown, hts⟩ (k_goes2 l dC dI dA ad _ τ pv _ _ hI mm fa sa aa ia sf mb mr mk mr hW 0 1) (cwV 3 hts gX4_row_X4_goes rfl rfl rfl (by decide +kernel) ⟨Nat.le_of_ble_eq_true rfl, Nat.le_of_ble_eq_true rfl⟩) (kd_preV hP hD hK hS hA hE hI hW.tm rfl rfl) rfl rfl hl.1 rfl (lv_room (Nat.le_of_ble_eq_true rfl)) dX4_row_85 ⟨Nat.le_of_ble_eq_true rfl, Nat.le_of_ble_eq_true rfl⟩) hD hS hA (fun r_56 u_55 H locs hw hP hD hS => ?_)
                obtain ⟨rfl, hI⟩ := hw
                have hF := hF.trans (kFr.up (P := (kPxr mr)) (w := .int 1) (k := 0) hW.tm rfl)
                have hW := hW.frw (kFr.up (P := kPy mr) (w := .int 1) (k := 0) hW.tm rfl)
                refine lv_if_ne (tgt := 93) hx hb dX4_row_88 (by decide) (fun h9 => by first | exact absurd h9 (by decide) | exact absurd (by decide) h9) (fun _ => ?_)
                refine lv_iconst (v := 0) hx hb dX4_row_91 (by decide) ?_
                refine W.widen (k := 0) (n := 0) (Nat.le_of_ble_eq_true rfl) (Nat.le_of_ble_eq_true rfl) ?_
                exact W.iret (v := 0) hx hb hr (fun t ht hW9 => ⟨⟨0, (u_55.1, u_55.2), rfl, (by rw [kinc_1 (show kc_row n k mb mr a b c9 d9 ≠ 0 by rw [show kc_row n k mb mr a b c9 d9 = 1 from (by simp only [kc_row, kFitRow, k_5, k_10, k_16, k_22, c_24, hp_29, (Nat.not_le.mp n_54), ← kf_lg fb_17 fb_23 (by decide) (by decide), decide_true, decide_false, Bool.not_true, Bool.not_false, Bool.and_true, Bool.true_and, Bool.and_false, Bool.false_and, Bool.and_self, Bool.false_eq_true, if_true, if_false, ite_true, ite_false, reduceIte] <;> decide)]; decide)]; exact ⟨_, _, hF, hW, (Eq.trans kup_self (congrArg Value.int (Eq.symm (by simp only [kc_row, kFitRow, k_5, k_10, k_16, k_22, c_24, hp_29, (Nat.not_le.mp n_54), ← kf_lg fb_17 fb_23 (by decide) (by decide), decide_true, decide_false, Bool.not_true, Bool.not_false, Bool.and_true, Bool.true_and, Bool.and_false, Bool.false_and, Bool.and_self, Bool.false_eq_true, if_true, if_false, ite_true, ite_false, reduceIte] <;> decide)))), fun h9 => absurd ((show kc_row n k mb mr a b c9 d9 = 1 from (by simp only [kc_row, kFitRow, k_5, k_10, k_16, k_22, c_24, hp_29, (Nat.not_le.mp n_54), ← kf_lg fb_17 fb_23 (by decide) (by decide), decide_true, decide_false, Bool.not_true, Bool.not_false, Bool.and_true, Bool.true_and, Bool.and_false, Bool.false_and, Bool.and_self, Bool.false_eq_true, if_true, if_false, ite_true, ite_false, reduceIte] <;> decide)).symm.trans h9) (by decide), fun h9 => absurd ((show kc_row n k mb mr a b c9 d9 = 1 from (by simp only [kc_row, kFitRow, k_5, k_10, k_16, k_22, c_24, hp_29, (Nat.not_le.mp n_54), ← kf_lg fb_17 fb_23 (by decide) (by decide), decide_true, decide_false, Bool.not_true, Bool.not_false, Bool.and_true, Bool.true_and, Bool.and_false, Bool.false_and, Bool.and_self, Bool.false_eq_true, if_true, if_false, ite_true, ite_false, reduceIte] <;> decide)).symm.trans h9) (by decide), hI⟩), by rw [ht]; exact hP, va_K.moved hW9.alike hK, hD⟩, hS.F ht⟩) hS.2.2 dX4_row_92
          · refine lv_iconst (v := 1) hx hb dX4_row_54 (by decide) ?_
            refine lv_goto (tgt := 59) hx hb dX4_row_55 (by decide) ?_
            refine lv_istore (lv' := [(8, .int 1), (0, .ref mm), (1, .int n), (2, .int k), (3, .float a), (4, .float b), (5, .float c9), (6, .float d9), (7, .int ky)]) hx hb dX4_row_59 hl (by decide) rfl (fun ls hl => ?_)
            refine lv_aload_n hx hb dX4_row_61 rfl (lv_at hl 1 rfl) ?_
            refine lv_aload_n hx hb dX4_row_62 rfl (lv_at hl 1 rfl) ?_
            refine lv_iload_n hx hb dX4_row_63 rfl (lv_at hl 2 rfl) ?_
            refine lv_iload_n hx hb dX4_row_64 rfl (lv_at hl 3 rfl) ?_
            refine kd_calli (va_runV (As := [.int n, .int k]) (rest := [.ref mm]) ⟨hx, hb, hml, hown, hts⟩ (k_pair l dC dI dA ad _ τ pv _ _ hI mm fa sa aa ia sf mb mr mk mr hW n k) (cwV 2 hts gX4_row_X4_pair rfl rfl rfl (by decide +kernel) ⟨Nat.le_of_ble_eq_true rfl, Nat.le_of_ble_eq_true rfl⟩) (kd_preV hP hD hK hS hA hE hI hW.tm rfl rfl) rfl rfl hl.1 rfl (lv_room (Nat.le_of_ble_eq_true rfl)) dX4_row_65 ⟨Nat.le_of_ble_eq_true rfl, Nat.le_of_ble_eq_true rfl⟩) hD hS hA (fun r_58 u_57 H locs hw hP hD hS => ?_)
            obtain ⟨⟨rfl, hp_61, ⟨j_59, hj_59, rfl⟩, rfl | ⟨j_60, hj_60, rfl⟩⟩ | ⟨rfl, hp_61⟩, hI⟩ := hw
            · refine lv_iload hx hb dX4_row_68 (lv_at hl 0 rfl) ?_
              refine lv_aload_n hx hb dX4_row_70 rfl (lv_at hl 1 rfl) ?_
              refine kp_get hx hb hts i_X4 hown hK hP hI hW.tm rfl rfl 6 (by decide) (by decide) (hts (.fieldLink RX4 129 "IslandSolverModel" "rows" "I") (by decide +kernel)) (fun _ h9 => h9) dX4_row_71 (kq_P (v0 := .int (nI mr)) rfl hW.p6 fun h_63 => ?_)
              refine lv_sipush (v := 1024) hx hb dX4_row_74 (by decide) ?_
              refine lv_icmp_ge (tgt := 84) hx hb dX4_row_77 (by decide) (fun c_64 => ?_) (fun c_64 => ?_)
              · have n_65 : 1024 ≤ mr := (nI_leI (by omega) (by omega)).mp (show nI 1024 ≤ nI mr from c_64)
                refine lv_iconst (v := 0) hx hb dX4_row_84 (by decide) ?_
                refine kd_calli (va_runV (As := [.int 1, .int 1, .int 0]) (rest := []) ⟨hx, hb, hml, hown, hts⟩ (k_goes4 l dC dI dA ad _ τ pv _ _ hI mm fa sa aa ia sf mb mr mk mr hW ) (cwV 3 hts gX4_row_X4_goes rfl rfl rfl (by decide +kernel) ⟨Nat.le_of_ble_eq_true rfl, Nat.le_of_ble_eq_true rfl⟩) (kd_preV hP hD hK hS hA hE hI hW.tm rfl rfl) rfl rfl hl.1 rfl (lv_room (Nat.le_of_ble_eq_true rfl)) dX4_row_85 ⟨Nat.le_of_ble_eq_true rfl, Nat.le_of_ble_eq_true rfl⟩) hD hS hA (fun r_67 u_66 H locs hw hP hD hS => ?_)
                obtain ⟨rfl, hI⟩ := hw
                have hF := hF.trans (kFr.up (P := (kPxr mr)) (w := .int 3) (k := 0) hW.tm rfl)
                have hW := hW.frw (kFr.up (P := kPy mr) (w := .int 3) (k := 0) hW.tm rfl)
                refine lv_if_ne (tgt := 93) hx hb dX4_row_88 (by decide) (fun h9 => by first | exact absurd h9 (by decide) | exact absurd (by decide) h9) (fun _ => ?_)
                refine lv_iconst (v := 0) hx hb dX4_row_91 (by decide) ?_
                refine W.widen (k := 0) (n := 0) (Nat.le_of_ble_eq_true rfl) (Nat.le_of_ble_eq_true rfl) ?_
                exact W.iret (v := 0) hx hb hr (fun t ht hW9 => ⟨⟨0, (u_66.1, u_66.2), rfl, (by rw [kinc_1 (show kc_row n k mb mr a b c9 d9 ≠ 0 by rw [show kc_row n k mb mr a b c9 d9 = 3 from (by simp only [kc_row, kFitRow, k_5, k_10, k_16, k_22, c_24, hp_61, (Nat.not_lt.mpr n_65), ← kf_lg fb_17 fb_23 (by decide) (by decide), decide_true, decide_false, Bool.not_true, Bool.not_false, Bool.and_true, Bool.true_and, Bool.and_false, Bool.false_and, Bool.and_self, Bool.false_eq_true, if_true, if_false, ite_true, ite_false, reduceIte] <;> decide)]; decide)]; exact ⟨_, _, hF, hW, (Eq.trans kup_self (congrArg Value.int (Eq.symm (by simp only [kc_row, kFitRow, k_5, k_10, k_16, k_22, c_24, hp_61, (Nat.not_lt.mpr n_65), ← kf_lg fb_17 fb_23 (by decide) (by decide), decide_true, decide_false, Bool.not_true, Bool.not_false, Bool.and_true, Bool.true_and, Bool.and_false, Bool.false_and, Bool.and_self, Bool.false_eq_true, if_true, if_false, ite_true, ite_false, reduceIte] <;> decide)))), fun h9 => absurd ((show kc_row n k mb mr a b c9 d9 = 3 from (by simp only [kc_row, kFitRow, k_5, k_10, k_16, k_22, c_24, hp_61, (Nat.not_lt.mpr n_65), ← kf_lg fb_17 fb_23 (by decide) (by decide), decide_true, decide_false, Bool.not_true, Bool.not_false, Bool.and_true, Bool.true_and, Bool.and_false, Bool.false_and, Bool.and_self, Bool.false_eq_true, if_true, if_false, ite_true, ite_false, reduceIte] <;> decide)).symm.trans h9) (by decide), fun h9 => absurd ((show kc_row n k mb mr a b c9 d9 = 3 from (by simp only [kc_row, kFitRow, k_5, k_10, k_16, k_22, c_24, hp_61, (Nat.not_lt.mpr n_65), ← kf_lg fb_17 fb_23 (by decide) (by decide), decide_true, decide_false, Bool.not_true, Bool.not_false, Bool.and_true, Bool.true_and, Bool.and_false, Bool.false_and, Bool.and_self, Bool.false_eq_true, if_true, if_false, ite_true, ite_false, reduceIte] <;> decide)).symm.trans h9) (by decide), hI⟩), by rw [ht]; exact hP, va_K.moved hW9.alike hK, hD⟩, hS.F ht⟩) hS.2.2 dX4_row_92
              · have n_68 : ¬ 1024 ≤ mr := fun h9 => (show ¬ nI 1024 ≤ nI mr from c_64) ((nI_leI (by omega) (by omega)).mpr h9)
                refine lv_iconst (v := 1) hx hb dX4_row_80 (by decide) ?_
                refine lv_goto (tgt := 85) hx hb dX4_row_81 (by decide) ?_
                refine kd_calli (va_runV (As := [.int 1, .int 1, .int 1]) (rest := []) ⟨hx, hb, hml, hown, hts⟩ (k_goes1 l dC dI dA ad _ τ pv _ _ hI mm fa sa aa ia sf mb mr mk mr hW ) (cwV 3 hts gX4_row_X4_goes rfl rfl rfl (by decide +kernel) ⟨Nat.le_of_ble_eq_true rfl, Nat.le_of_ble_eq_true rfl⟩) (kd_preV hP hD hK hS hA hE hI hW.tm rfl rfl) rfl rfl hl.1 rfl (lv_room (Nat.le_of_ble_eq_true rfl)) dX4_row_85 ⟨Nat.le_of_ble_eq_true rfl, Nat.le_of_ble_eq_true rfl⟩) hD hS hA (fun r_70 u_69 H locs hw hP hD hS => ?_)
                obtain ⟨rfl, hI⟩ := hw
                have hF := hF.trans (kFr.up (P := (kPxr mr)) (w := .int 0) (k := 0) hW.tm rfl)
                have hW := hW.frw (kFr.up (P := kPy mr) (w := .int 0) (k := 0) hW.tm rfl)
                refine lv_if_ne (tgt := 93) hx hb dX4_row_88 (by decide) (fun _ => ?_) (fun h9 => by first | exact absurd h9 (by decide) | exact absurd (by decide) h9)
                refine lv_aload_n hx hb dX4_row_93 rfl (lv_at hl 1 rfl) ?_
                refine kp_get hx hb hts i_X4 hown hK hP hI hW.tm rfl rfl 11 (by decide) (by decide) (hts (.fieldLink RX4 36 "IslandSolverModel" "softs" "[F") (by decide +kernel)) (fun _ h9 => h9) dX4_row_94 (kq_RE 23 (by decide) fun x_71 h_72_e h_72 => ?_)
                refine lv_aload_n hx hb dX4_row_97 rfl (lv_at hl 1 rfl) ?_
                refine kp_get hx hb hts i_X4 hown hK hP hI hW.tm rfl rfl 6 (by decide) (by decide) (hts (.fieldLink RX4 129 "IslandSolverModel" "rows" "I") (by decide +kernel)) (fun _ h9 => h9) dX4_row_98 (kq_P (v0 := .int (nI mr)) rfl hW.p6 fun h_74 => ?_)
                refine lv_fload hx hb dX4_row_101 (lv_at hl 5 rfl) ?_
                have hj_75 : mr < τ 3 x_71 := by rw [show τ 3 x_71 = 1024 from (hI.arr h_72 rfl).2.1]; omega
                refine W.eq (g2 := F0 m 103 ls (.float b :: .int (nI (mr)) :: .ref x_71 :: [])) rfl ?_
                refine kp_fastX (pv' := (kup pv mm 0 (.int 0))) (j := mr) hx hb hK hP hD hS hI h_72 rfl hj_75 (fun _ _ _ => rfl) (show kPr _ 1115684864 _ _ from (kv_F (by decide) fb_11)) (kPn_not rfl (by decide)) dX4_row_103 (fun f H locs hI hP hD hS => ?_)
                refine lv_aload_n hx hb dX4_row_104 rfl (lv_at hl 1 rfl) ?_
                refine kp_get hx hb hts i_X4 hown hK hP hI hW.tm rfl rfl 12 (by decide) (by decide) (hts (.fieldLink RX4 39 "IslandSolverModel" "lows" "[F") (by decide +kernel)) (fun _ h9 => h9) dX4_row_105 (kq_RE 24 (by decide) fun x_76 h_77_e h_77 => ?_)
                refine lv_aload_n hx hb dX4_row_108 rfl (lv_at hl 1 rfl) ?_
                refine kp_get hx hb hts i_X4 hown hK hP hI hW.tm rfl rfl 6 (by decide) (by decide) (hts (.fieldLink RX4 129 "IslandSolverModel" "rows" "I") (by decide +kernel)) (fun _ h9 => h9) dX4_row_109 (kq_P (v0 := .int (nI mr)) rfl hW.p6 fun h_79 => ?_)
                refine lv_fload hx hb dX4_row_112 (lv_at hl 6 rfl) ?_
                have hj_80 : mr < τ 3 x_76 := by rw [show τ 3 x_76 = 1024 from (hI.arr h_77 rfl).2.1]; omega
                refine W.eq (g2 := F0 m 114 ls (.float c9 :: .int (nI (mr)) :: .ref x_76 :: [])) rfl ?_
                refine kp_fastX (pv' := (kup pv mm 0 (.int 0))) (j := mr) hx hb hK hP hD hS hI h_77 rfl hj_80 (fun _ _ _ => rfl) (show kPr _ 1199570944 _ _ from (kv_F (by decide) fb_17)) (kPn_not rfl (by decide)) dX4_row_114 (fun f H locs hI hP hD hS => ?_)
                refine lv_aload_n hx hb dX4_row_115 rfl (lv_at hl 1 rfl) ?_
                refine kp_get hx hb hts i_X4 hown hK hP hI hW.tm rfl rfl 13 (by decide) (by decide) (hts (.fieldLink RX4 42 "IslandSolverModel" "highs" "[F") (by decide +kernel)) (fun _ h9 => h9) dX4_row_116 (kq_RE 25 (by decide) fun x_81 h_82_e h_82 => ?_)
                refine lv_aload_n hx hb dX4_row_119 rfl (lv_at hl 1 rfl) ?_
                refine kp_get hx hb hts i_X4 hown hK hP hI hW.tm rfl rfl 6 (by decide) (by decide) (hts (.fieldLink RX4 129 "IslandSolverModel" "rows" "I") (by decide +kernel)) (fun _ h9 => h9) dX4_row_120 (kq_P (v0 := .int (nI mr)) rfl hW.p6 fun h_84 => ?_)
                refine lv_fload hx hb dX4_row_123 (lv_at hl 7 rfl) ?_
                have hj_85 : mr < τ 3 x_81 := by rw [show τ 3 x_81 = 1024 from (hI.arr h_82 rfl).2.1]; omega
                refine W.eq (g2 := F0 m 125 ls (.float d9 :: .int (nI (mr)) :: .ref x_81 :: [])) rfl ?_
                refine kp_fastX (pv' := (kup pv mm 0 (.int 0))) (j := mr) hx hb hK hP hD hS hI h_82 rfl hj_85 (fun _ _ _ => rfl) (show kPr _ 1199570944 _ _ from (kv_F (by decide) fb_23)) (kPn_not rfl (by decide)) dX4_row_125 (fun f H locs hI hP hD hS => ?_)
                refine lv_aload_n hx hb dX4_row_126 rfl (lv_at hl 1 rfl) ?_
                refine kp_get hx hb hts i_X4 hown hK hP hI hW.tm rfl rfl 14 (by decide) (by decide) (hts (.fieldLink RX4 45 "IslandSolverModel" "frictions" "[F") (by decide +kernel)) (fun _ h9 => h9) dX4_row_127 (kq_RE 26 (by decide) fun x_86 h_87_e h_87 => ?_)
                refine lv_aload_n hx hb dX4_row_130 rfl (lv_at hl 1 rfl) ?_
                refine kp_get hx hb hts i_X4 hown hK hP hI hW.tm rfl rfl 6 (by decide) (by decide) (hts (.fieldLink RX4 129 "IslandSolverModel" "rows" "I") (by decide +kernel)) (fun _ h9 => h9) dX4_row_131 (kq_P (v0 := .int (nI mr)) rfl hW.p6 fun h_89 => ?_)
                refine lv_fconst0 hx hb dX4_row_134 ?_
                have hj_90 : mr < τ 3 x_86 := by rw [show τ 3 x_86 = 1024 from (hI.arr h_87 rfl).2.1]; omega
                refine W.eq (g2 := F0 m 135 ls (.float FP.fconst0 :: .int (nI (mr)) :: .ref x_86 :: [])) rfl ?_
                refine kp_fastX (pv' := (kup pv mm 0 (.int 0))) (j := mr) hx hb hK hP hD hS hI h_87 rfl hj_90 (fun _ _ _ => rfl) (show kPr _ 1090519040 _ _ from (kv_F (by decide) (fb_le kc_0 (by decide)))) (kPn_not rfl (by decide)) dX4_row_135 (fun f H locs hI hP hD hS => ?_)
                refine lv_aload_n hx hb dX4_row_136 rfl (lv_at hl 1 rfl) ?_
                refine kp_get hx hb hts i_X4 hown hK hP hI hW.tm rfl rfl 15 (by decide) (by decide) (hts (.fieldLink RX4 48 "IslandSolverModel" "ats" "[I") (by decide +kernel)) (fun _ h9 => h9) dX4_row_137 (kq_P (v0 := .ref aa) rfl hW.p15 fun h_92 => ?_)
                refine lv_aload_n hx hb dX4_row_140 rfl (lv_at hl 1 rfl) ?_
                refine kp_get hx hb hts i_X4 hown hK hP hI hW.tm rfl rfl 6 (by decide) (by decide) (hts (.fieldLink RX4 129 "IslandSolverModel" "rows" "I") (by decide +kernel)) (fun _ h9 => h9) dX4_row_141 (kq_P (v0 := .int (nI mr)) rfl hW.p6 fun h_94 => ?_)
                refine lv_iconst (v := (-1)) hx hb dX4_row_144 (by decide) ?_
                have hj_95 : mr < τ 3 aa := by rw [show τ 3 aa = 1024 from (hI.arr hW.ta rfl).2.1]; omega
                refine W.eq (g2 := F0 m 145 ls (.int (-1) :: .int (nI (mr)) :: .ref aa :: [])) rfl ?_
                refine kp_iastX (pv' := (kup (kup pv mm 0 (.int 0)) aa (mr) (.int (-1)))) (j := mr) hx hb hK hP hD hS hI hW.ta rfl hj_95 (fun _ _ h9 => kup_ne h9) (show kPr _ 0 _ _ from (kv_I _)) ((kPn_pin rfl).mpr kup_self.symm) dX4_row_145 (fun f H locs hI hP hD hS => ?_)
                have hF := hF.trans (kFr.up (P := kPxr mr) (w := .int (-1)) (k := mr) hW.ta (by simp [kPxr]))
                have hW := hW.frw (kFr.up (P := kPy mr) (w := .int (-1)) (k := mr) hW.ta (by simp [kPy]))
                refine lv_aload_n hx hb dX4_row_146 rfl (lv_at hl 1 rfl) ?_
                refine lv_iload_n hx hb dX4_row_147 rfl (lv_at hl 2 rfl) ?_
                refine lv_iload_n hx hb dX4_row_148 rfl (lv_at hl 3 rfl) ?_
                refine lv_fload_n hx hb dX4_row_149 rfl (lv_at hl 4 rfl) ?_
                refine lv_iload hx hb dX4_row_150 (lv_at hl 8 rfl) ?_
                refine kd_calli (va_runV (As := [.int (nI j_59), .int (-1), .float a, .int ky]) (rest := []) ⟨hx, hb, hml, hown, hts⟩ (k_make0 l dC dI dA ad _ τ (kup (kup pv mm 0 (.int 0)) aa (mr) (.int (-1))) _ _ hI mm fa sa aa ia sf mb mr mk mr hW j_59 (by omega) a fb_6 ky (by omega) rfl 0 kup_self (Nat.zero_le _) (fun k h => by cases h)) (cwV 4 hts gX4_row_X4_make rfl rfl rfl (by decide +kernel) ⟨Nat.le_of_ble_eq_true rfl, Nat.le_of_ble_eq_true rfl⟩) (kd_preV hP hD hK hS hA hE hI hW.tm rfl rfl) rfl rfl hl.1 rfl (lv_room (Nat.le_of_ble_eq_true rfl)) dX4_row_152 ⟨Nat.le_of_ble_eq_true rfl, Nat.le_of_ble_eq_true rfl⟩) hD hS hA (fun r_97 u_96 H locs hw hP hD hS => ?_)
                obtain ⟨rfl, pv, hF9, hW, hm9, hm0, hI⟩ := hw
                have hth9 : pv mm 0 = .int 0 := hm0.trans ((kup_ne (Or.inl hW.ne.2.2.1.symm)).trans kup_self)
                have hF := hF.trans hF9
                refine W.widen (k := 0) (n := 0) (Nat.le_of_ble_eq_true rfl) (Nat.le_of_ble_eq_true rfl) ?_
                exact W.iret (v := nI mr) hx hb hr (fun t ht hW9 => ⟨⟨nI mr, (u_96.1, u_96.2), rfl, (by rw [kinc_0 (show kc_row n k mb mr a b c9 d9 = 0 from (by simp only [kc_row, kFitRow, k_5, k_10, k_16, k_22, c_24, hp_61, (Nat.not_le.mp n_68), ← kf_lg fb_17 fb_23 (by decide) (by decide), decide_true, decide_false, Bool.not_true, Bool.not_false, Bool.and_true, Bool.true_and, Bool.and_false, Bool.false_and, Bool.and_self, Bool.false_eq_true, if_true, if_false, ite_true, ite_false, reduceIte] <;> decide))]; exact ⟨_, _, hF, hW, (Eq.trans hth9 (congrArg Value.int (Eq.symm (by simp only [kc_row, kFitRow, k_5, k_10, k_16, k_22, c_24, hp_61, (Nat.not_le.mp n_68), ← kf_lg fb_17 fb_23 (by decide) (by decide), decide_true, decide_false, Bool.not_true, Bool.not_false, Bool.and_true, Bool.true_and, Bool.and_false, Bool.false_and, Bool.and_self, Bool.false_eq_true, if_true, if_false, ite_true, ite_false, reduceIte] <;> decide)))), fun h9 => rfl, fun h9 => hm9, hI⟩), by rw [ht]; exact hP, va_K.moved hW9.alike hK, hD⟩, hS.F ht⟩) hS.2.2 dX4_row_155
            · refine lv_iload hx hb dX4_row_68 (lv_at hl 0 rfl) ?_
              refine lv_aload_n hx hb dX4_row_70 rfl (lv_at hl 1 rfl) ?_
              refine kp_get hx hb hts i_X4 hown hK hP hI hW.tm rfl rfl 6 (by decide) (by decide) (hts (.fieldLink RX4 129 "IslandSolverModel" "rows" "I") (by decide +kernel)) (fun _ h9 => h9) dX4_row_71 (kq_P (v0 := .int (nI mr)) rfl hW.p6 fun h_99 => ?_)
              refine lv_sipush (v := 1024) hx hb dX4_row_74 (by decide) ?_
              refine lv_icmp_ge (tgt := 84) hx hb dX4_row_77 (by decide) (fun c_100 => ?_) (fun c_100 => ?_)
              · have n_101 : 1024 ≤ mr := (nI_leI (by omega) (by omega)).mp (show nI 1024 ≤ nI mr from c_100)
                refine lv_iconst (v := 0) hx hb dX4_row_84 (by decide) ?_
                refine kd_calli (va_runV (As := [.int 1, .int 1, .int 0]) (rest := []) ⟨hx, hb, hml, hown, hts⟩ (k_goes4 l dC dI dA ad _ τ pv _ _ hI mm fa sa aa ia sf mb mr mk mr hW ) (cwV 3 hts gX4_row_X4_goes rfl rfl rfl (by decide +kernel) ⟨Nat.le_of_ble_eq_true rfl, Nat.le_of_ble_eq_true rfl⟩) (kd_preV hP hD hK hS hA hE hI hW.tm rfl rfl) rfl rfl hl.1 rfl (lv_room (Nat.le_of_ble_eq_true rfl)) dX4_row_85 ⟨Nat.le_of_ble_eq_true rfl, Nat.le_of_ble_eq_true rfl⟩) hD hS hA (fun r_103 u_102 H locs hw hP hD hS => ?_)
                obtain ⟨rfl, hI⟩ := hw
                have hF := hF.trans (kFr.up (P := (kPxr mr)) (w := .int 3) (k := 0) hW.tm rfl)
                have hW := hW.frw (kFr.up (P := kPy mr) (w := .int 3) (k := 0) hW.tm rfl)
                refine lv_if_ne (tgt := 93) hx hb dX4_row_88 (by decide) (fun h9 => by first | exact absurd h9 (by decide) | exact absurd (by decide) h9) (fun _ => ?_)
                refine lv_iconst (v := 0) hx hb dX4_row_91 (by decide) ?_
                refine W.widen (k := 0) (n := 0) (Nat.le_of_ble_eq_true rfl) (Nat.le_of_ble_eq_true rfl) ?_
                exact W.iret (v := 0) hx hb hr (fun t ht hW9 => ⟨⟨0, (u_102.1, u_102.2), rfl, (by rw [kinc_1 (show kc_row n k mb mr a b c9 d9 ≠ 0 by rw [show kc_row n k mb mr a b c9 d9 = 3 from (by simp only [kc_row, kFitRow, k_5, k_10, k_16, k_22, c_24, hp_61, (Nat.not_lt.mpr n_101), ← kf_lg fb_17 fb_23 (by decide) (by decide), decide_true, decide_false, Bool.not_true, Bool.not_false, Bool.and_true, Bool.true_and, Bool.and_false, Bool.false_and, Bool.and_self, Bool.false_eq_true, if_true, if_false, ite_true, ite_false, reduceIte] <;> decide)]; decide)]; exact ⟨_, _, hF, hW, (Eq.trans kup_self (congrArg Value.int (Eq.symm (by simp only [kc_row, kFitRow, k_5, k_10, k_16, k_22, c_24, hp_61, (Nat.not_lt.mpr n_101), ← kf_lg fb_17 fb_23 (by decide) (by decide), decide_true, decide_false, Bool.not_true, Bool.not_false, Bool.and_true, Bool.true_and, Bool.and_false, Bool.false_and, Bool.and_self, Bool.false_eq_true, if_true, if_false, ite_true, ite_false, reduceIte] <;> decide)))), fun h9 => absurd ((show kc_row n k mb mr a b c9 d9 = 3 from (by simp only [kc_row, kFitRow, k_5, k_10, k_16, k_22, c_24, hp_61, (Nat.not_lt.mpr n_101), ← kf_lg fb_17 fb_23 (by decide) (by decide), decide_true, decide_false, Bool.not_true, Bool.not_false, Bool.and_true, Bool.true_and, Bool.and_false, Bool.false_and, Bool.and_self, Bool.false_eq_true, if_true, if_false, ite_true, ite_false, reduceIte] <;> decide)).symm.trans h9) (by decide), fun h9 => absurd ((show kc_row n k mb mr a b c9 d9 = 3 from (by simp only [kc_row, kFitRow, k_5, k_10, k_16, k_22, c_24, hp_61, (Nat.not_lt.mpr n_101), ← kf_lg fb_17 fb_23 (by decide) (by decide), decide_true, decide_false, Bool.not_true, Bool.not_false, Bool.and_true, Bool.true_and, Bool.and_false, Bool.false_and, Bool.and_self, Bool.false_eq_true, if_true, if_false, ite_true, ite_false, reduceIte] <;> decide)).symm.trans h9) (by decide), hI⟩), by rw [ht]; exact hP, va_K.moved hW9.alike hK, hD⟩, hS.F ht⟩) hS.2.2 dX4_row_92
              · have n_104 : ¬ 1024 ≤ mr := fun h9 => (show ¬ nI 1024 ≤ nI mr from c_100) ((nI_leI (by omega) (by omega)).mpr h9)
                refine lv_iconst (v := 1) hx hb dX4_row_80 (by decide) ?_
                refine lv_goto (tgt := 85) hx hb dX4_row_81 (by decide) ?_
                refine kd_calli (va_runV (As := [.int 1, .int 1, .int 1]) (rest := []) ⟨hx, hb, hml, hown, hts⟩ (k_goes1 l dC dI dA ad _ τ pv _ _ hI mm fa sa aa ia sf mb mr mk mr hW ) (cwV 3 hts gX4_row_X4_goes rfl rfl rfl (by decide +kernel) ⟨Nat.le_of_ble_eq_true rfl, Nat.le_of_ble_eq_true rfl⟩) (kd_preV hP hD hK hS hA hE hI hW.tm rfl rfl) rfl rfl hl.1 rfl (lv_room (Nat.le_of_ble_eq_true rfl)) dX4_row_85 ⟨Nat.le_of_ble_eq_true rfl, Nat.le_of_ble_eq_true rfl⟩) hD hS hA (fun r_106 u_105 H locs hw hP hD hS => ?_)
                obtain ⟨rfl, hI⟩ := hw
                have hF := hF.trans (kFr.up (P := (kPxr mr)) (w := .int 0) (k := 0) hW.tm rfl)
                have hW := hW.frw (kFr.up (P := kPy mr) (w := .int 0) (k := 0) hW.tm rfl)
                refine lv_if_ne (tgt := 93) hx hb dX4_row_88 (by decide) (fun _ => ?_) (fun h9 => by first | exact absurd h9 (by decide) | exact absurd (by decide) h9)
                refine lv_aload_n hx hb dX4_row_93 rfl (lv_at hl 1 rfl) ?_
                refine kp_get hx hb hts i_X4 hown hK hP hI hW.tm rfl rfl 11 (by decide) (by decide) (hts (.fieldLink RX4 36 "IslandSolverModel" "softs" "[F") (by decide +kernel)) (fun _ h9 => h9) dX4_row_94 (kq_RE 23 (by decide) fun x_107 h_108_e h_108 => ?_)
                refine lv_aload_n hx hb dX4_row_97 rfl (lv_at hl 1 rfl) ?_
                refine kp_get hx hb hts i_X4 hown hK hP hI hW.tm rfl rfl 6 (by decide) (by decide) (hts (.fieldLink RX4 129 "IslandSolverModel" "rows" "I") (by decide +kernel)) (fun _ h9 => h9) dX4_row_98 (kq_P (v0 := .int (nI mr)) rfl hW.p6 fun h_110 => ?_)
                refine lv_fload hx hb dX4_row_101 (lv_at hl 5 rfl) ?_
                have hj_111 : mr < τ 3 x_107 := by rw [show τ 3 x_107 = 1024 from (hI.arr h_108 rfl).2.1]; omega
                refine W.eq (g2 := F0 m 103 ls (.float b :: .int (nI (mr)) :: .ref x_107 :: [])) rfl ?_
                refine kp_fastX (pv' := (kup pv mm 0 (.int 0))) (j := mr) hx hb hK hP hD hS hI h_108 rfl hj_111 (fun _ _ _ => rfl) (show kPr _ 1115684864 _ _ from (kv_F (by decide) fb_11)) (kPn_not rfl (by decide)) dX4_row_103 (fun f H locs hI hP hD hS => ?_)
                refine lv_aload_n hx hb dX4_row_104 rfl (lv_at hl 1 rfl) ?_
                refine kp_get hx hb hts i_X4 hown hK hP hI hW.tm rfl rfl 12 (by decide) (by decide) (hts (.fieldLink RX4 39 "IslandSolverModel" "lows" "[F") (by decide +kernel)) (fun _ h9 => h9) dX4_row_105 (kq_RE 24 (by decide) fun x_112 h_113_e h_113 => ?_)
                refine lv_aload_n hx hb dX4_row_108 rfl (lv_at hl 1 rfl) ?_
                refine kp_get hx hb hts i_X4 hown hK hP hI hW.tm rfl rfl 6 (by decide) (by decide) (hts (.fieldLink RX4 129 "IslandSolverModel" "rows" "I") (by decide +kernel)) (fun _ h9 => h9) dX4_row_109 (kq_P (v0 := .int (nI mr)) rfl hW.p6 fun h_115 => ?_)
                refine lv_fload hx hb dX4_row_112 (lv_at hl 6 rfl) ?_
                have hj_116 : mr < τ 3 x_112 := by rw [show τ 3 x_112 = 1024 from (hI.arr h_113 rfl).2.1]; omega
                refine W.eq (g2 := F0 m 114 ls (.float c9 :: .int (nI (mr)) :: .ref x_112 :: [])) rfl ?_
                refine kp_fastX (pv' := (kup pv mm 0 (.int 0))) (j := mr) hx hb hK hP hD hS hI h_113 rfl hj_116 (fun _ _ _ => rfl) (show kPr _ 1199570944 _ _ from (kv_F (by decide) fb_17)) (kPn_not rfl (by decide)) dX4_row_114 (fun f H locs hI hP hD hS => ?_)
                refine lv_aload_n hx hb dX4_row_115 rfl (lv_at hl 1 rfl) ?_
                refine kp_get hx hb hts i_X4 hown hK hP hI hW.tm rfl rfl 13 (by decide) (by decide) (hts (.fieldLink RX4 42 "IslandSolverModel" "highs" "[F") (by decide +kernel)) (fun _ h9 => h9) dX4_row_116 (kq_RE 25 (by decide) fun x_117 h_118_e h_118 => ?_)
                refine lv_aload_n hx hb dX4_row_119 rfl (lv_at hl 1 rfl) ?_
                refine kp_get hx hb hts i_X4 hown hK hP hI hW.tm rfl rfl 6 (by decide) (by decide) (hts (.fieldLink RX4 129 "IslandSolverModel" "rows" "I") (by decide +kernel)) (fun _ h9 => h9) dX4_row_120 (kq_P (v0 := .int (nI mr)) rfl hW.p6 fun h_120 => ?_)
                refine lv_fload hx hb dX4_row_123 (lv_at hl 7 rfl) ?_
                have hj_121 : mr < τ 3 x_117 := by rw [show τ 3 x_117 = 1024 from (hI.arr h_118 rfl).2.1]; omega
                refine W.eq (g2 := F0 m 125 ls (.float d9 :: .int (nI (mr)) :: .ref x_117 :: [])) rfl ?_
                refine kp_fastX (pv' := (kup pv mm 0 (.int 0))) (j := mr) hx hb hK hP hD hS hI h_118 rfl hj_121 (fun _ _ _ => rfl) (show kPr _ 1199570944 _ _ from (kv_F (by decide) fb_23)) (kPn_not rfl (by decide)) dX4_row_125 (fun f H locs hI hP hD hS => ?_)
                refine lv_aload_n hx hb dX4_row_126 rfl (lv_at hl 1 rfl) ?_
                refine kp_get hx hb hts i_X4 hown hK hP hI hW.tm rfl rfl 14 (by decide) (by decide) (hts (.fieldLink RX4 45 "IslandSolverModel" "frictions" "[F") (by decide +kernel)) (fun _ h9 => h9) dX4_row_127 (kq_RE 26 (by decide) fun x_122 h_123_e h_123 => ?_)
                refine lv_aload_n hx hb dX4_row_130 rfl (lv_at hl 1 rfl) ?_
                refine kp_get hx hb hts i_X4 hown hK hP hI hW.tm rfl rfl 6 (by decide) (by decide) (hts (.fieldLink RX4 129 "IslandSolverModel" "rows" "I") (by decide +kernel)) (fun _ h9 => h9) dX4_row_131 (kq_P (v0 := .int (nI mr)) rfl hW.p6 fun h_125 => ?_)
                refine lv_fconst0 hx hb dX4_row_134 ?_
                have hj_126 : mr < τ 3 x_122 := by rw [show τ 3 x_122 = 1024 from (hI.arr h_123 rfl).2.1]; omega
                refine W.eq (g2 := F0 m 135 ls (.float FP.fconst0 :: .int (nI (mr)) :: .ref x_122 :: [])) rfl ?_
                refine kp_fastX (pv' := (kup pv mm 0 (.int 0))) (j := mr) hx hb hK hP hD hS hI h_123 rfl hj_126 (fun _ _ _ => rfl) (show kPr _ 1090519040 _ _ from (kv_F (by decide) (fb_le kc_0 (by decide)))) (kPn_not rfl (by decide)) dX4_row_135 (fun f H locs hI hP hD hS => ?_)
                refine lv_aload_n hx hb dX4_row_136 rfl (lv_at hl 1 rfl) ?_
                refine kp_get hx hb hts i_X4 hown hK hP hI hW.tm rfl rfl 15 (by decide) (by decide) (hts (.fieldLink RX4 48 "IslandSolverModel" "ats" "[I") (by decide +kernel)) (fun _ h9 => h9) dX4_row_137 (kq_P (v0 := .ref aa) rfl hW.p15 fun h_128 => ?_)
                refine lv_aload_n hx hb dX4_row_140 rfl (lv_at hl 1 rfl) ?_
                refine kp_get hx hb hts i_X4 hown hK hP hI hW.tm rfl rfl 6 (by decide) (by decide) (hts (.fieldLink RX4 129 "IslandSolverModel" "rows" "I") (by decide +kernel)) (fun _ h9 => h9) dX4_row_141 (kq_P (v0 := .int (nI mr)) rfl hW.p6 fun h_130 => ?_)
                refine lv_iconst (v := (-1)) hx hb dX4_row_144 (by decide) ?_
                have hj_131 : mr < τ 3 aa := by rw [show τ 3 aa = 1024 from (hI.arr hW.ta rfl).2.1]; omega
                refine W.eq (g2 := F0 m 145 ls (.int (-1) :: .int (nI (mr)) :: .ref aa :: [])) rfl ?_
                refine kp_iastX (pv' := (kup (kup pv mm 0 (.int 0)) aa (mr) (.int (-1)))) (j := mr) hx hb hK hP hD hS hI hW.ta rfl hj_131 (fun _ _ h9 => kup_ne h9) (show kPr _ 0 _ _ from (kv_I _)) ((kPn_pin rfl).mpr kup_self.symm) dX4_row_145 (fun f H locs hI hP hD hS => ?_)
                have hF := hF.trans (kFr.up (P := kPxr mr) (w := .int (-1)) (k := mr) hW.ta (by simp [kPxr]))
                have hW := hW.frw (kFr.up (P := kPy mr) (w := .int (-1)) (k := mr) hW.ta (by simp [kPy]))
                refine lv_aload_n hx hb dX4_row_146 rfl (lv_at hl 1 rfl) ?_
                refine lv_iload_n hx hb dX4_row_147 rfl (lv_at hl 2 rfl) ?_
                refine lv_iload_n hx hb dX4_row_148 rfl (lv_at hl 3 rfl) ?_
                refine lv_fload_n hx hb dX4_row_149 rfl (lv_at hl 4 rfl) ?_
                refine lv_iload hx hb dX4_row_150 (lv_at hl 8 rfl) ?_
                refine kd_calli (va_runV (As := [.int (nI j_59), .int (nI j_60), .float a, .int ky]) (rest := []) ⟨hx, hb, hml, hown, hts⟩ (k_make1 l dC dI dA ad _ τ (kup (kup pv mm 0 (.int 0)) aa (mr) (.int (-1))) _ _ hI mm fa sa aa ia sf mb mr mk mr hW j_59 j_60 (by omega) (by omega) a fb_6 ky (by omega) rfl 0 kup_self (Nat.zero_le _) (fun k h => by cases h)) (cwV 4 hts gX4_row_X4_make rfl rfl rfl (by decide +kernel) ⟨Nat.le_of_ble_eq_true rfl, Nat.le_of_ble_eq_true rfl⟩) (kd_preV hP hD hK hS hA hE hI hW.tm rfl rfl) rfl rfl hl.1 rfl (lv_room (Nat.le_of_ble_eq_true rfl)) dX4_row_152 ⟨Nat.le_of_ble_eq_true rfl, Nat.le_of_ble_eq_true rfl⟩) hD hS hA (fun r_133 u_132 H locs hw hP hD hS => ?_)
                obtain ⟨rfl, pv, hF9, hW, hm9, hm0, hI⟩ := hw
                have hth9 : pv mm 0 = .int 0 := hm0.trans ((kup_ne (Or.inl hW.ne.2.2.1.symm)).trans kup_self)
                have hF := hF.trans hF9
                refine W.widen (k := 0) (n := 0) (Nat.le_of_ble_eq_true rfl) (Nat.le_of_ble_eq_true rfl) ?_
                exact W.iret (v := nI mr) hx hb hr (fun t ht hW9 => ⟨⟨nI mr, (u_132.1, u_132.2), rfl, (by rw [kinc_0 (show kc_row n k mb mr a b c9 d9 = 0 from (by simp only [kc_row, kFitRow, k_5, k_10, k_16, k_22, c_24, hp_61, (Nat.not_le.mp n_104), ← kf_lg fb_17 fb_23 (by decide) (by decide), decide_true, decide_false, Bool.not_true, Bool.not_false, Bool.and_true, Bool.true_and, Bool.and_false, Bool.false_and, Bool.and_self, Bool.false_eq_true, if_true, if_false, ite_true, ite_false, reduceIte] <;> decide))]; exact ⟨_, _, hF, hW, (Eq.trans hth9 (congrArg Value.int (Eq.symm (by simp only [kc_row, kFitRow, k_5, k_10, k_16, k_22, c_24, hp_61, (Nat.not_le.mp n_104), ← kf_lg fb_17 fb_23 (by decide) (by decide), decide_true, decide_false, Bool.not_true, Bool.not_false, Bool.and_true, Bool.true_and, Bool.and_false, Bool.false_and, Bool.and_self, Bool.false_eq_true, if_true, if_false, ite_true, ite_false, reduceIte] <;> decide)))), fun h9 => rfl, fun h9 => hm9, hI⟩), by rw [ht]; exact hP, va_K.moved hW9.alike hK, hD⟩, hS.F ht⟩) hS.2.2 dX4_row_155
            · refine lv_iload hx hb dX4_row_68 (lv_at hl 0 rfl) ?_
              refine lv_aload_n hx hb dX4_row_70 rfl (lv_at hl 1 rfl) ?_
              refine kp_get hx hb hts i_X4 hown hK hP hI hW.tm rfl rfl 6 (by decide) (by decide) (hts (.fieldLink RX4 129 "IslandSolverModel" "rows" "I") (by decide +kernel)) (fun _ h9 => h9) dX4_row_71 (kq_P (v0 := .int (nI mr)) rfl hW.p6 fun h_135 => ?_)
              refine lv_sipush (v := 1024) hx hb dX4_row_74 (by decide) ?_
              refine lv_icmp_ge (tgt := 84) hx hb dX4_row_77 (by decide) (fun c_136 => ?_) (fun c_136 => ?_)
              · have n_137 : 1024 ≤ mr := (nI_leI (by omega) (by omega)).mp (show nI 1024 ≤ nI mr from c_136)
                refine lv_iconst (v := 0) hx hb dX4_row_84 (by decide) ?_
                refine kd_calli (va_runV (As := [.int 0, .int 1, .int 0]) (rest := []) ⟨hx, hb, hml, hown, hts⟩ (k_goes2 l dC dI dA ad _ τ pv _ _ hI mm fa sa aa ia sf mb mr mk mr hW 1 0) (cwV 3 hts gX4_row_X4_goes rfl rfl rfl (by decide +kernel) ⟨Nat.le_of_ble_eq_true rfl, Nat.le_of_ble_eq_true rfl⟩) (kd_preV hP hD hK hS hA hE hI hW.tm rfl rfl) rfl rfl hl.1 rfl (lv_room (Nat.le_of_ble_eq_true rfl)) dX4_row_85 ⟨Nat.le_of_ble_eq_true rfl, Nat.le_of_ble_eq_true rfl⟩) hD hS hA (fun r_139 u_138 H locs hw hP hD hS => ?_)
                obtain ⟨rfl, hI⟩ := hw
                have hF := hF.trans (kFr.up (P := (kPxr mr)) (w := .int 1) (k := 0) hW.tm rfl)
                have hW := hW.frw (kFr.up (P := kPy mr) (w := .int 1) (k := 0) hW.tm rfl)
                refine lv_if_ne (tgt := 93) hx hb dX4_row_88 (by decide) (fun h9 => by first | exact absurd h9 (by decide) | exact absurd (by decide) h9) (fun _ => ?_)
                refine lv_iconst (v := 0) hx hb dX4_row_91 (by decide) ?_
                refine W.widen (k := 0) (n := 0) (Nat.le_of_ble_eq_true rfl) (Nat.le_of_ble_eq_true rfl) ?_
                exact W.iret (v := 0) hx hb hr (fun t ht hW9 => ⟨⟨0, (u_138.1, u_138.2), rfl, (by rw [kinc_1 (show kc_row n k mb mr a b c9 d9 ≠ 0 by rw [show kc_row n k mb mr a b c9 d9 = 1 from (by simp only [kc_row, kFitRow, k_5, k_10, k_16, k_22, c_24, hp_61, (Nat.not_lt.mpr n_137), ← kf_lg fb_17 fb_23 (by decide) (by decide), decide_true, decide_false, Bool.not_true, Bool.not_false, Bool.and_true, Bool.true_and, Bool.and_false, Bool.false_and, Bool.and_self, Bool.false_eq_true, if_true, if_false, ite_true, ite_false, reduceIte] <;> decide)]; decide)]; exact ⟨_, _, hF, hW, (Eq.trans kup_self (congrArg Value.int (Eq.symm (by simp only [kc_row, kFitRow, k_5, k_10, k_16, k_22, c_24, hp_61, (Nat.not_lt.mpr n_137), ← kf_lg fb_17 fb_23 (by decide) (by decide), decide_true, decide_false, Bool.not_true, Bool.not_false, Bool.and_true, Bool.true_and, Bool.and_false, Bool.false_and, Bool.and_self, Bool.false_eq_true, if_true, if_false, ite_true, ite_false, reduceIte] <;> decide)))), fun h9 => absurd ((show kc_row n k mb mr a b c9 d9 = 1 from (by simp only [kc_row, kFitRow, k_5, k_10, k_16, k_22, c_24, hp_61, (Nat.not_lt.mpr n_137), ← kf_lg fb_17 fb_23 (by decide) (by decide), decide_true, decide_false, Bool.not_true, Bool.not_false, Bool.and_true, Bool.true_and, Bool.and_false, Bool.false_and, Bool.and_self, Bool.false_eq_true, if_true, if_false, ite_true, ite_false, reduceIte] <;> decide)).symm.trans h9) (by decide), fun h9 => absurd ((show kc_row n k mb mr a b c9 d9 = 1 from (by simp only [kc_row, kFitRow, k_5, k_10, k_16, k_22, c_24, hp_61, (Nat.not_lt.mpr n_137), ← kf_lg fb_17 fb_23 (by decide) (by decide), decide_true, decide_false, Bool.not_true, Bool.not_false, Bool.and_true, Bool.true_and, Bool.and_false, Bool.false_and, Bool.and_self, Bool.false_eq_true, if_true, if_false, ite_true, ite_false, reduceIte] <;> decide)).symm.trans h9) (by decide), hI⟩), by rw [ht]; exact hP, va_K.moved hW9.alike hK, hD⟩, hS.F ht⟩) hS.2.2 dX4_row_92
              · have n_140 : ¬ 1024 ≤ mr := fun h9 => (show ¬ nI 1024 ≤ nI mr from c_136) ((nI_leI (by omega) (by omega)).mpr h9)
                refine lv_iconst (v := 1) hx hb dX4_row_80 (by decide) ?_
                refine lv_goto (tgt := 85) hx hb dX4_row_81 (by decide) ?_
                refine kd_calli (va_runV (As := [.int 0, .int 1, .int 1]) (rest := []) ⟨hx, hb, hml, hown, hts⟩ (k_goes2 l dC dI dA ad _ τ pv _ _ hI mm fa sa aa ia sf mb mr mk mr hW 1 1) (cwV 3 hts gX4_row_X4_goes rfl rfl rfl (by decide +kernel) ⟨Nat.le_of_ble_eq_true rfl, Nat.le_of_ble_eq_true rfl⟩) (kd_preV hP hD hK hS hA hE hI hW.tm rfl rfl) rfl rfl hl.1 rfl (lv_room (Nat.le_of_ble_eq_true rfl)) dX4_row_85 ⟨Nat.le_of_ble_eq_true rfl, Nat.le_of_ble_eq_true rfl⟩) hD hS hA (fun r_142 u_141 H locs hw hP hD hS => ?_)
                obtain ⟨rfl, hI⟩ := hw
                have hF := hF.trans (kFr.up (P := (kPxr mr)) (w := .int 1) (k := 0) hW.tm rfl)
                have hW := hW.frw (kFr.up (P := kPy mr) (w := .int 1) (k := 0) hW.tm rfl)
                refine lv_if_ne (tgt := 93) hx hb dX4_row_88 (by decide) (fun h9 => by first | exact absurd h9 (by decide) | exact absurd (by decide) h9) (fun _ => ?_)
                refine lv_iconst (v := 0) hx hb dX4_row_91 (by decide) ?_
                refine W.widen (k := 0) (n := 0) (Nat.le_of_ble_eq_true rfl) (Nat.le_of_ble_eq_true rfl) ?_
                exact W.iret (v := 0) hx hb hr (fun t ht hW9 => ⟨⟨0, (u_141.1, u_141.2), rfl, (by rw [kinc_1 (show kc_row n k mb mr a b c9 d9 ≠ 0 by rw [show kc_row n k mb mr a b c9 d9 = 1 from (by simp only [kc_row, kFitRow, k_5, k_10, k_16, k_22, c_24, hp_61, (Nat.not_le.mp n_140), ← kf_lg fb_17 fb_23 (by decide) (by decide), decide_true, decide_false, Bool.not_true, Bool.not_false, Bool.and_true, Bool.true_and, Bool.and_false, Bool.false_and, Bool.and_self, Bool.false_eq_true, if_true, if_false, ite_true, ite_false, reduceIte] <;> decide)]; decide)]; exact ⟨_, _, hF, hW, (Eq.trans kup_self (congrArg Value.int (Eq.symm (by simp only [kc_row, kFitRow, k_5, k_10, k_16, k_22, c_24, hp_61, (Nat.not_le.mp n_140), ← kf_lg fb_17 fb_23 (by decide) (by decide), decide_true, decide_false, Bool.not_true, Bool.not_false, Bool.and_true, Bool.true_and, Bool.and_false, Bool.false_and, Bool.and_self, Bool.false_eq_true, if_true, if_false, ite_true, ite_false, reduceIte] <;> decide)))), fun h9 => absurd ((show kc_row n k mb mr a b c9 d9 = 1 from (by simp only [kc_row, kFitRow, k_5, k_10, k_16, k_22, c_24, hp_61, (Nat.not_le.mp n_140), ← kf_lg fb_17 fb_23 (by decide) (by decide), decide_true, decide_false, Bool.not_true, Bool.not_false, Bool.and_true, Bool.true_and, Bool.and_false, Bool.false_and, Bool.and_self, Bool.false_eq_true, if_true, if_false, ite_true, ite_false, reduceIte] <;> decide)).symm.trans h9) (by decide), fun h9 => absurd ((show kc_row n k mb mr a b c9 d9 = 1 from (by simp only [kc_row, kFitRow, k_5, k_10, k_16, k_22, c_24, hp_61, (Nat.not_le.mp n_140), ← kf_lg fb_17 fb_23 (by decide) (by decide), decide_true, decide_false, Bool.not_true, Bool.not_false, Bool.and_true, Bool.true_and, Bool.and_false, Bool.false_and, Bool.and_self, Bool.false_eq_true, if_true, if_false, ite_true, ite_false, reduceIte] <;> decide)).symm.trans h9) (by decide), hI⟩), by rw [ht]; exact hP, va_K.moved hW9.alike hK, hD⟩, hS.F ht⟩) hS.2.2 dX4_row_92
        · refine lv_if_eq (tgt := 58) hx hb dX4_row_43 (by decide) (fun _ => ?_) (fun h9 => by first | exact absurd h9 (by decide) | exact absurd (by decide) h9)
          refine lv_iconst (v := 0) hx hb dX4_row_58 (by decide) ?_
          refine lv_istore (lv' := [(8, .int 0), (0, .ref mm), (1, .int n), (2, .int k), (3, .float a), (4, .float b), (5, .float c9), (6, .float d9), (7, .int ky)]) hx hb dX4_row_59 hl (by decide) rfl (fun ls hl => ?_)
          refine lv_aload_n hx hb dX4_row_61 rfl (lv_at hl 1 rfl) ?_
          refine lv_aload_n hx hb dX4_row_62 rfl (lv_at hl 1 rfl) ?_
          refine lv_iload_n hx hb dX4_row_63 rfl (lv_at hl 2 rfl) ?_
          refine lv_iload_n hx hb dX4_row_64 rfl (lv_at hl 3 rfl) ?_
          refine kd_calli (va_runV (As := [.int n, .int k]) (rest := [.ref mm]) ⟨hx, hb, hml, hown, hts⟩ (k_pair l dC dI dA ad _ τ pv _ _ hI mm fa sa aa ia sf mb mr mk mr hW n k) (cwV 2 hts gX4_row_X4_pair rfl rfl rfl (by decide +kernel) ⟨Nat.le_of_ble_eq_true rfl, Nat.le_of_ble_eq_true rfl⟩) (kd_preV hP hD hK hS hA hE hI hW.tm rfl rfl) rfl rfl hl.1 rfl (lv_room (Nat.le_of_ble_eq_true rfl)) dX4_row_65 ⟨Nat.le_of_ble_eq_true rfl, Nat.le_of_ble_eq_true rfl⟩) hD hS hA (fun r_144 u_143 H locs hw hP hD hS => ?_)
          obtain ⟨⟨rfl, hp_147, ⟨j_145, hj_145, rfl⟩, rfl | ⟨j_146, hj_146, rfl⟩⟩ | ⟨rfl, hp_147⟩, hI⟩ := hw
          · refine lv_iload hx hb dX4_row_68 (lv_at hl 0 rfl) ?_
            refine lv_aload_n hx hb dX4_row_70 rfl (lv_at hl 1 rfl) ?_
            refine kp_get hx hb hts i_X4 hown hK hP hI hW.tm rfl rfl 6 (by decide) (by decide) (hts (.fieldLink RX4 129 "IslandSolverModel" "rows" "I") (by decide +kernel)) (fun _ h9 => h9) dX4_row_71 (kq_P (v0 := .int (nI mr)) rfl hW.p6 fun h_149 => ?_)
            refine lv_sipush (v := 1024) hx hb dX4_row_74 (by decide) ?_
            refine lv_icmp_ge (tgt := 84) hx hb dX4_row_77 (by decide) (fun c_150 => ?_) (fun c_150 => ?_)
            · have n_151 : 1024 ≤ mr := (nI_leI (by omega) (by omega)).mp (show nI 1024 ≤ nI mr from c_150)
              refine lv_iconst (v := 0) hx hb dX4_row_84 (by decide) ?_
              refine kd_calli (va_runV (As := [.int 1, .int 0, .int 0]) (rest := []) ⟨hx, hb, hml, hown, hts⟩ (k_goes3 l dC dI dA ad _ τ pv _ _ hI mm fa sa aa ia sf mb mr mk mr hW 0) (cwV 3 hts gX4_row_X4_goes rfl rfl rfl (by decide +kernel) ⟨Nat.le_of_ble_eq_true rfl, Nat.le_of_ble_eq_true rfl⟩) (kd_preV hP hD hK hS hA hE hI hW.tm rfl rfl) rfl rfl hl.1 rfl (lv_room (Nat.le_of_ble_eq_true rfl)) dX4_row_85 ⟨Nat.le_of_ble_eq_true rfl, Nat.le_of_ble_eq_true rfl⟩) hD hS hA (fun r_153 u_152 H locs hw hP hD hS => ?_)
              obtain ⟨rfl, hI⟩ := hw
              have hF := hF.trans (kFr.up (P := (kPxr mr)) (w := .int 2) (k := 0) hW.tm rfl)
              have hW := hW.frw (kFr.up (P := kPy mr) (w := .int 2) (k := 0) hW.tm rfl)
              refine lv_if_ne (tgt := 93) hx hb dX4_row_88 (by decide) (fun h9 => by first | exact absurd h9 (by decide) | exact absurd (by decide) h9) (fun _ => ?_)
              refine lv_iconst (v := 0) hx hb dX4_row_91 (by decide) ?_
              refine W.widen (k := 0) (n := 0) (Nat.le_of_ble_eq_true rfl) (Nat.le_of_ble_eq_true rfl) ?_
              exact W.iret (v := 0) hx hb hr (fun t ht hW9 => ⟨⟨0, (u_152.1, u_152.2), rfl, (by rw [kinc_1 (show kc_row n k mb mr a b c9 d9 ≠ 0 by rw [show kc_row n k mb mr a b c9 d9 = 2 from (by simp only [kc_row, kFitRow, k_5, k_10, k_16, k_22, hp_147, (Nat.not_lt.mpr n_151), decide_true, decide_false, Bool.not_true, Bool.not_false, Bool.and_true, Bool.true_and, Bool.and_false, Bool.false_and, Bool.and_self, Bool.false_eq_true, if_true, if_false, ite_true, ite_false, reduceIte] <;> decide)]; decide)]; exact ⟨_, _, hF, hW, (Eq.trans kup_self (congrArg Value.int (Eq.symm (by simp only [kc_row, kFitRow, k_5, k_10, k_16, k_22, hp_147, (Nat.not_lt.mpr n_151), decide_true, decide_false, Bool.not_true, Bool.not_false, Bool.and_true, Bool.true_and, Bool.and_false, Bool.false_and, Bool.and_self, Bool.false_eq_true, if_true, if_false, ite_true, ite_false, reduceIte] <;> decide)))), fun h9 => absurd ((show kc_row n k mb mr a b c9 d9 = 2 from (by simp only [kc_row, kFitRow, k_5, k_10, k_16, k_22, hp_147, (Nat.not_lt.mpr n_151), decide_true, decide_false, Bool.not_true, Bool.not_false, Bool.and_true, Bool.true_and, Bool.and_false, Bool.false_and, Bool.and_self, Bool.false_eq_true, if_true, if_false, ite_true, ite_false, reduceIte] <;> decide)).symm.trans h9) (by decide), fun h9 => absurd ((show kc_row n k mb mr a b c9 d9 = 2 from (by simp only [kc_row, kFitRow, k_5, k_10, k_16, k_22, hp_147, (Nat.not_lt.mpr n_151), decide_true, decide_false, Bool.not_true, Bool.not_false, Bool.and_true, Bool.true_and, Bool.and_false, Bool.false_and, Bool.and_self, Bool.false_eq_true, if_true, if_false, ite_true, ite_false, reduceIte] <;> decide)).symm.trans h9) (by decide), hI⟩), by rw [ht]; exact hP, va_K.moved hW9.alike hK, hD⟩, hS.F ht⟩) hS.2.2 dX4_row_92
            · have n_154 : ¬ 1024 ≤ mr := fun h9 => (show ¬ nI 1024 ≤ nI mr from c_150) ((nI_leI (by omega) (by omega)).mpr h9)
              refine lv_iconst (v := 1) hx hb dX4_row_80 (by decide) ?_
              refine lv_goto (tgt := 85) hx hb dX4_row_81 (by decide) ?_
              refine kd_calli (va_runV (As := [.int 1, .int 0, .int 1]) (rest := []) ⟨hx, hb, hml, hown, hts⟩ (k_goes3 l dC dI dA ad _ τ pv _ _ hI mm fa sa aa ia sf mb mr mk mr hW 1) (cwV 3 hts gX4_row_X4_goes rfl rfl rfl (by decide +kernel) ⟨Nat.le_of_ble_eq_true rfl, Nat.le_of_ble_eq_true rfl⟩) (kd_preV hP hD hK hS hA hE hI hW.tm rfl rfl) rfl rfl hl.1 rfl (lv_room (Nat.le_of_ble_eq_true rfl)) dX4_row_85 ⟨Nat.le_of_ble_eq_true rfl, Nat.le_of_ble_eq_true rfl⟩) hD hS hA (fun r_156 u_155 H locs hw hP hD hS => ?_)
              obtain ⟨rfl, hI⟩ := hw
              have hF := hF.trans (kFr.up (P := (kPxr mr)) (w := .int 2) (k := 0) hW.tm rfl)
              have hW := hW.frw (kFr.up (P := kPy mr) (w := .int 2) (k := 0) hW.tm rfl)
              refine lv_if_ne (tgt := 93) hx hb dX4_row_88 (by decide) (fun h9 => by first | exact absurd h9 (by decide) | exact absurd (by decide) h9) (fun _ => ?_)
              refine lv_iconst (v := 0) hx hb dX4_row_91 (by decide) ?_
              refine W.widen (k := 0) (n := 0) (Nat.le_of_ble_eq_true rfl) (Nat.le_of_ble_eq_true rfl) ?_
              exact W.iret (v := 0) hx hb hr (fun t ht hW9 => ⟨⟨0, (u_155.1, u_155.2), rfl, (by rw [kinc_1 (show kc_row n k mb mr a b c9 d9 ≠ 0 by rw [show kc_row n k mb mr a b c9 d9 = 2 from (by simp only [kc_row, kFitRow, k_5, k_10, k_16, k_22, hp_147, (Nat.not_le.mp n_154), decide_true, decide_false, Bool.not_true, Bool.not_false, Bool.and_true, Bool.true_and, Bool.and_false, Bool.false_and, Bool.and_self, Bool.false_eq_true, if_true, if_false, ite_true, ite_false, reduceIte] <;> decide)]; decide)]; exact ⟨_, _, hF, hW, (Eq.trans kup_self (congrArg Value.int (Eq.symm (by simp only [kc_row, kFitRow, k_5, k_10, k_16, k_22, hp_147, (Nat.not_le.mp n_154), decide_true, decide_false, Bool.not_true, Bool.not_false, Bool.and_true, Bool.true_and, Bool.and_false, Bool.false_and, Bool.and_self, Bool.false_eq_true, if_true, if_false, ite_true, ite_false, reduceIte] <;> decide)))), fun h9 => absurd ((show kc_row n k mb mr a b c9 d9 = 2 from (by simp only [kc_row, kFitRow, k_5, k_10, k_16, k_22, hp_147, (Nat.not_le.mp n_154), decide_true, decide_false, Bool.not_true, Bool.not_false, Bool.and_true, Bool.true_and, Bool.and_false, Bool.false_and, Bool.and_self, Bool.false_eq_true, if_true, if_false, ite_true, ite_false, reduceIte] <;> decide)).symm.trans h9) (by decide), fun h9 => absurd ((show kc_row n k mb mr a b c9 d9 = 2 from (by simp only [kc_row, kFitRow, k_5, k_10, k_16, k_22, hp_147, (Nat.not_le.mp n_154), decide_true, decide_false, Bool.not_true, Bool.not_false, Bool.and_true, Bool.true_and, Bool.and_false, Bool.false_and, Bool.and_self, Bool.false_eq_true, if_true, if_false, ite_true, ite_false, reduceIte] <;> decide)).symm.trans h9) (by decide), hI⟩), by rw [ht]; exact hP, va_K.moved hW9.alike hK, hD⟩, hS.F ht⟩) hS.2.2 dX4_row_92
          · refine lv_iload hx hb dX4_row_68 (lv_at hl 0 rfl) ?_
            refine lv_aload_n hx hb dX4_row_70 rfl (lv_at hl 1 rfl) ?_
            refine kp_get hx hb hts i_X4 hown hK hP hI hW.tm rfl rfl 6 (by decide) (by decide) (hts (.fieldLink RX4 129 "IslandSolverModel" "rows" "I") (by decide +kernel)) (fun _ h9 => h9) dX4_row_71 (kq_P (v0 := .int (nI mr)) rfl hW.p6 fun h_158 => ?_)
            refine lv_sipush (v := 1024) hx hb dX4_row_74 (by decide) ?_
            refine lv_icmp_ge (tgt := 84) hx hb dX4_row_77 (by decide) (fun c_159 => ?_) (fun c_159 => ?_)
            · have n_160 : 1024 ≤ mr := (nI_leI (by omega) (by omega)).mp (show nI 1024 ≤ nI mr from c_159)
              refine lv_iconst (v := 0) hx hb dX4_row_84 (by decide) ?_
              refine kd_calli (va_runV (As := [.int 1, .int 0, .int 0]) (rest := []) ⟨hx, hb, hml, hown, hts⟩ (k_goes3 l dC dI dA ad _ τ pv _ _ hI mm fa sa aa ia sf mb mr mk mr hW 0) (cwV 3 hts gX4_row_X4_goes rfl rfl rfl (by decide +kernel) ⟨Nat.le_of_ble_eq_true rfl, Nat.le_of_ble_eq_true rfl⟩) (kd_preV hP hD hK hS hA hE hI hW.tm rfl rfl) rfl rfl hl.1 rfl (lv_room (Nat.le_of_ble_eq_true rfl)) dX4_row_85 ⟨Nat.le_of_ble_eq_true rfl, Nat.le_of_ble_eq_true rfl⟩) hD hS hA (fun r_162 u_161 H locs hw hP hD hS => ?_)
              obtain ⟨rfl, hI⟩ := hw
              have hF := hF.trans (kFr.up (P := (kPxr mr)) (w := .int 2) (k := 0) hW.tm rfl)
              have hW := hW.frw (kFr.up (P := kPy mr) (w := .int 2) (k := 0) hW.tm rfl)
              refine lv_if_ne (tgt := 93) hx hb dX4_row_88 (by decide) (fun h9 => by first | exact absurd h9 (by decide) | exact absurd (by decide) h9) (fun _ => ?_)
              refine lv_iconst (v := 0) hx hb dX4_row_91 (by decide) ?_
              refine W.widen (k := 0) (n := 0) (Nat.le_of_ble_eq_true rfl) (Nat.le_of_ble_eq_true rfl) ?_
              exact W.iret (v := 0) hx hb hr (fun t ht hW9 => ⟨⟨0, (u_161.1, u_161.2), rfl, (by rw [kinc_1 (show kc_row n k mb mr a b c9 d9 ≠ 0 by rw [show kc_row n k mb mr a b c9 d9 = 2 from (by simp only [kc_row, kFitRow, k_5, k_10, k_16, k_22, hp_147, (Nat.not_lt.mpr n_160), decide_true, decide_false, Bool.not_true, Bool.not_false, Bool.and_true, Bool.true_and, Bool.and_false, Bool.false_and, Bool.and_self, Bool.false_eq_true, if_true, if_false, ite_true, ite_false, reduceIte] <;> decide)]; decide)]; exact ⟨_, _, hF, hW, (Eq.trans kup_self (congrArg Value.int (Eq.symm (by simp only [kc_row, kFitRow, k_5, k_10, k_16, k_22, hp_147, (Nat.not_lt.mpr n_160), decide_true, decide_false, Bool.not_true, Bool.not_false, Bool.and_true, Bool.true_and, Bool.and_false, Bool.false_and, Bool.and_self, Bool.false_eq_true, if_true, if_false, ite_true, ite_false, reduceIte] <;> decide)))), fun h9 => absurd ((show kc_row n k mb mr a b c9 d9 = 2 from (by simp only [kc_row, kFitRow, k_5, k_10, k_16, k_22, hp_147, (Nat.not_lt.mpr n_160), decide_true, decide_false, Bool.not_true, Bool.not_false, Bool.and_true, Bool.true_and, Bool.and_false, Bool.false_and, Bool.and_self, Bool.false_eq_true, if_true, if_false, ite_true, ite_false, reduceIte] <;> decide)).symm.trans h9) (by decide), fun h9 => absurd ((show kc_row n k mb mr a b c9 d9 = 2 from (by simp only [kc_row, kFitRow, k_5, k_10, k_16, k_22, hp_147, (Nat.not_lt.mpr n_160), decide_true, decide_false, Bool.not_true, Bool.not_false, Bool.and_true, Bool.true_and, Bool.and_false, Bool.false_and, Bool.and_self, Bool.false_eq_true, if_true, if_false, ite_true, ite_false, reduceIte] <;> decide)).symm.trans h9) (by decide), hI⟩), by rw [ht]; exact hP, va_K.moved hW9.alike hK, hD⟩, hS.F ht⟩) hS.2.2 dX4_row_92
            · have n_163 : ¬ 1024 ≤ mr := fun h9 => (show ¬ nI 1024 ≤ nI mr from c_159) ((nI_leI (by omega) (by omega)).mpr h9)
              refine lv_iconst (v := 1) hx hb dX4_row_80 (by decide) ?_
              refine lv_goto (tgt := 85) hx hb dX4_row_81 (by decide) ?_
              refine kd_calli (va_runV (As := [.int 1, .int 0, .int 1]) (rest := []) ⟨hx, hb, hml, hown, hts⟩ (k_goes3 l dC dI dA ad _ τ pv _ _ hI mm fa sa aa ia sf mb mr mk mr hW 1) (cwV 3 hts gX4_row_X4_goes rfl rfl rfl (by decide +kernel) ⟨Nat.le_of_ble_eq_true rfl, Nat.le_of_ble_eq_true rfl⟩) (kd_preV hP hD hK hS hA hE hI hW.tm rfl rfl) rfl rfl hl.1 rfl (lv_room (Nat.le_of_ble_eq_true rfl)) dX4_row_85 ⟨Nat.le_of_ble_eq_true rfl, Nat.le_of_ble_eq_true rfl⟩) hD hS hA (fun r_165 u_164 H locs hw hP hD hS => ?_)
              obtain ⟨rfl, hI⟩ := hw
              have hF := hF.trans (kFr.up (P := (kPxr mr)) (w := .int 2) (k := 0) hW.tm rfl)
              have hW := hW.frw (kFr.up (P := kPy mr) (w := .int 2) (k := 0) hW.tm rfl)
              refine lv_if_ne (tgt := 93) hx hb dX4_row_88 (by decide) (fun h9 => by first | exact absurd h9 (by decide) | exact absurd (by decide) h9) (fun _ => ?_)
              refine lv_iconst (v := 0) hx hb dX4_row_91 (by decide) ?_
              refine W.widen (k := 0) (n := 0) (Nat.le_of_ble_eq_true rfl) (Nat.le_of_ble_eq_true rfl) ?_
              exact W.iret (v := 0) hx hb hr (fun t ht hW9 => ⟨⟨0, (u_164.1, u_164.2), rfl, (by rw [kinc_1 (show kc_row n k mb mr a b c9 d9 ≠ 0 by rw [show kc_row n k mb mr a b c9 d9 = 2 from (by simp only [kc_row, kFitRow, k_5, k_10, k_16, k_22, hp_147, (Nat.not_le.mp n_163), decide_true, decide_false, Bool.not_true, Bool.not_false, Bool.and_true, Bool.true_and, Bool.and_false, Bool.false_and, Bool.and_self, Bool.false_eq_true, if_true, if_false, ite_true, ite_false, reduceIte] <;> decide)]; decide)]; exact ⟨_, _, hF, hW, (Eq.trans kup_self (congrArg Value.int (Eq.symm (by simp only [kc_row, kFitRow, k_5, k_10, k_16, k_22, hp_147, (Nat.not_le.mp n_163), decide_true, decide_false, Bool.not_true, Bool.not_false, Bool.and_true, Bool.true_and, Bool.and_false, Bool.false_and, Bool.and_self, Bool.false_eq_true, if_true, if_false, ite_true, ite_false, reduceIte] <;> decide)))), fun h9 => absurd ((show kc_row n k mb mr a b c9 d9 = 2 from (by simp only [kc_row, kFitRow, k_5, k_10, k_16, k_22, hp_147, (Nat.not_le.mp n_163), decide_true, decide_false, Bool.not_true, Bool.not_false, Bool.and_true, Bool.true_and, Bool.and_false, Bool.false_and, Bool.and_self, Bool.false_eq_true, if_true, if_false, ite_true, ite_false, reduceIte] <;> decide)).symm.trans h9) (by decide), fun h9 => absurd ((show kc_row n k mb mr a b c9 d9 = 2 from (by simp only [kc_row, kFitRow, k_5, k_10, k_16, k_22, hp_147, (Nat.not_le.mp n_163), decide_true, decide_false, Bool.not_true, Bool.not_false, Bool.and_true, Bool.true_and, Bool.and_false, Bool.false_and, Bool.and_self, Bool.false_eq_true, if_true, if_false, ite_true, ite_false, reduceIte] <;> decide)).symm.trans h9) (by decide), hI⟩), by rw [ht]; exact hP, va_K.moved hW9.alike hK, hD⟩, hS.F ht⟩) hS.2.2 dX4_row_92
          · refine lv_iload hx hb dX4_row_68 (lv_at hl 0 rfl) ?_
            refine lv_aload_n hx hb dX4_row_70 rfl (lv_at hl 1 rfl) ?_
            refine kp_get hx hb hts i_X4 hown hK hP hI hW.tm rfl rfl 6 (by decide) (by decide) (hts (.fieldLink RX4 129 "IslandSolverModel" "rows" "I") (by decide +kernel)) (fun _ h9 => h9) dX4_row_71 (kq_P (v0 := .int (nI mr)) rfl hW.p6 fun h_167 => ?_)
            refine lv_sipush (v := 1024) hx hb dX4_row_74 (by decide) ?_
            refine lv_icmp_ge (tgt := 84) hx hb dX4_row_77 (by decide) (fun c_168 => ?_) (fun c_168 => ?_)
            · have n_169 : 1024 ≤ mr := (nI_leI (by omega) (by omega)).mp (show nI 1024 ≤ nI mr from c_168)
              refine lv_iconst (v := 0) hx hb dX4_row_84 (by decide) ?_
              refine kd_calli (va_runV (As := [.int 0, .int 0, .int 0]) (rest := []) ⟨hx, hb, hml, hown, hts⟩ (k_goes2 l dC dI dA ad _ τ pv _ _ hI mm fa sa aa ia sf mb mr mk mr hW 0 0) (cwV 3 hts gX4_row_X4_goes rfl rfl rfl (by decide +kernel) ⟨Nat.le_of_ble_eq_true rfl, Nat.le_of_ble_eq_true rfl⟩) (kd_preV hP hD hK hS hA hE hI hW.tm rfl rfl) rfl rfl hl.1 rfl (lv_room (Nat.le_of_ble_eq_true rfl)) dX4_row_85 ⟨Nat.le_of_ble_eq_true rfl, Nat.le_of_ble_eq_true rfl⟩) hD hS hA (fun r_171 u_170 H locs hw hP hD hS => ?_)
              obtain ⟨rfl, hI⟩ := hw
              have hF := hF.trans (kFr.up (P := (kPxr mr)) (w := .int 1) (k := 0) hW.tm rfl)
              have hW := hW.frw (kFr.up (P := kPy mr) (w := .int 1) (k := 0) hW.tm rfl)
              refine lv_if_ne (tgt := 93) hx hb dX4_row_88 (by decide) (fun h9 => by first | exact absurd h9 (by decide) | exact absurd (by decide) h9) (fun _ => ?_)
              refine lv_iconst (v := 0) hx hb dX4_row_91 (by decide) ?_
              refine W.widen (k := 0) (n := 0) (Nat.le_of_ble_eq_true rfl) (Nat.le_of_ble_eq_true rfl) ?_
              exact W.iret (v := 0) hx hb hr (fun t ht hW9 => ⟨⟨0, (u_170.1, u_170.2), rfl, (by rw [kinc_1 (show kc_row n k mb mr a b c9 d9 ≠ 0 by rw [show kc_row n k mb mr a b c9 d9 = 1 from (by simp only [kc_row, kFitRow, k_5, k_10, k_16, k_22, hp_147, (Nat.not_lt.mpr n_169), decide_true, decide_false, Bool.not_true, Bool.not_false, Bool.and_true, Bool.true_and, Bool.and_false, Bool.false_and, Bool.and_self, Bool.false_eq_true, if_true, if_false, ite_true, ite_false, reduceIte] <;> decide)]; decide)]; exact ⟨_, _, hF, hW, (Eq.trans kup_self (congrArg Value.int (Eq.symm (by simp only [kc_row, kFitRow, k_5, k_10, k_16, k_22, hp_147, (Nat.not_lt.mpr n_169), decide_true, decide_false, Bool.not_true, Bool.not_false, Bool.and_true, Bool.true_and, Bool.and_false, Bool.false_and, Bool.and_self, Bool.false_eq_true, if_true, if_false, ite_true, ite_false, reduceIte] <;> decide)))), fun h9 => absurd ((show kc_row n k mb mr a b c9 d9 = 1 from (by simp only [kc_row, kFitRow, k_5, k_10, k_16, k_22, hp_147, (Nat.not_lt.mpr n_169), decide_true, decide_false, Bool.not_true, Bool.not_false, Bool.and_true, Bool.true_and, Bool.and_false, Bool.false_and, Bool.and_self, Bool.false_eq_true, if_true, if_false, ite_true, ite_false, reduceIte] <;> decide)).symm.trans h9) (by decide), fun h9 => absurd ((show kc_row n k mb mr a b c9 d9 = 1 from (by simp only [kc_row, kFitRow, k_5, k_10, k_16, k_22, hp_147, (Nat.not_lt.mpr n_169), decide_true, decide_false, Bool.not_true, Bool.not_false, Bool.and_true, Bool.true_and, Bool.and_false, Bool.false_and, Bool.and_self, Bool.false_eq_true, if_true, if_false, ite_true, ite_false, reduceIte] <;> decide)).symm.trans h9) (by decide), hI⟩), by rw [ht]; exact hP, va_K.moved hW9.alike hK, hD⟩, hS.F ht⟩) hS.2.2 dX4_row_92
            · have n_172 : ¬ 1024 ≤ mr := fun h9 => (show ¬ nI 1024 ≤ nI mr from c_168) ((nI_leI (by omega) (by omega)).mpr h9)
              refine lv_iconst (v := 1) hx hb dX4_row_80 (by decide) ?_
              refine lv_goto (tgt := 85) hx hb dX4_row_81 (by decide) ?_
              refine kd_calli (va_runV (As := [.int 0, .int 0, .int 1]) (rest := []) ⟨hx, hb, hml, hown, hts⟩ (k_goes2 l dC dI dA ad _ τ pv _ _ hI mm fa sa aa ia sf mb mr mk mr hW 0 1) (cwV 3 hts gX4_row_X4_goes rfl rfl rfl (by decide +kernel) ⟨Nat.le_of_ble_eq_true rfl, Nat.le_of_ble_eq_true rfl⟩) (kd_preV hP hD hK hS hA hE hI hW.tm rfl rfl) rfl rfl hl.1 rfl (lv_room (Nat.le_of_ble_eq_true rfl)) dX4_row_85 ⟨Nat.le_of_ble_eq_true rfl, Nat.le_of_ble_eq_true rfl⟩) hD hS hA (fun r_174 u_173 H locs hw hP hD hS => ?_)
              obtain ⟨rfl, hI⟩ := hw
              have hF := hF.trans (kFr.up (P := (kPxr mr)) (w := .int 1) (k := 0) hW.tm rfl)
              have hW := hW.frw (kFr.up (P := kPy mr) (w := .int 1) (k := 0) hW.tm rfl)
              refine lv_if_ne (tgt := 93) hx hb dX4_row_88 (by decide) (fun h9 => by first | exact absurd h9 (by decide) | exact absurd (by decide) h9) (fun _ => ?_)
              refine lv_iconst (v := 0) hx hb dX4_row_91 (by decide) ?_
              refine W.widen (k := 0) (n := 0) (Nat.le_of_ble_eq_true rfl) (Nat.le_of_ble_eq_true rfl) ?_
              exact W.iret (v := 0) hx hb hr (fun t ht hW9 => ⟨⟨0, (u_173.1, u_173.2), rfl, (by rw [kinc_1 (show kc_row n k mb mr a b c9 d9 ≠ 0 by rw [show kc_row n k mb mr a b c9 d9 = 1 from (by simp only [kc_row, kFitRow, k_5, k_10, k_16, k_22, hp_147, (Nat.not_le.mp n_172), decide_true, decide_false, Bool.not_true, Bool.not_false, Bool.and_true, Bool.true_and, Bool.and_false, Bool.false_and, Bool.and_self, Bool.false_eq_true, if_true, if_false, ite_true, ite_false, reduceIte] <;> decide)]; decide)]; exact ⟨_, _, hF, hW, (Eq.trans kup_self (congrArg Value.int (Eq.symm (by simp only [kc_row, kFitRow, k_5, k_10, k_16, k_22, hp_147, (Nat.not_le.mp n_172), decide_true, decide_false, Bool.not_true, Bool.not_false, Bool.and_true, Bool.true_and, Bool.and_false, Bool.false_and, Bool.and_self, Bool.false_eq_true, if_true, if_false, ite_true, ite_false, reduceIte] <;> decide)))), fun h9 => absurd ((show kc_row n k mb mr a b c9 d9 = 1 from (by simp only [kc_row, kFitRow, k_5, k_10, k_16, k_22, hp_147, (Nat.not_le.mp n_172), decide_true, decide_false, Bool.not_true, Bool.not_false, Bool.and_true, Bool.true_and, Bool.and_false, Bool.false_and, Bool.and_self, Bool.false_eq_true, if_true, if_false, ite_true, ite_false, reduceIte] <;> decide)).symm.trans h9) (by decide), fun h9 => absurd ((show kc_row n k mb mr a b c9 d9 = 1 from (by simp only [kc_row, kFitRow, k_5, k_10, k_16, k_22, hp_147, (Nat.not_le.mp n_172), decide_true, decide_false, Bool.not_true, Bool.not_false, Bool.and_true, Bool.true_and, Bool.and_false, Bool.false_and, Bool.and_self, Bool.false_eq_true, if_true, if_false, ite_true, ite_false, reduceIte] <;> decide)).symm.trans h9) (by decide), hI⟩), by rw [ht]; exact hP, va_K.moved hW9.alike hK, hD⟩, hS.F ht⟩) hS.2.2 dX4_row_92
      · refine lv_if_eq (tgt := 58) hx hb dX4_row_31 (by decide) (fun _ => ?_) (fun h9 => by first | exact absurd h9 (by decide) | exact absurd (by decide) h9)
        refine lv_iconst (v := 0) hx hb dX4_row_58 (by decide) ?_
        refine lv_istore (lv' := [(8, .int 0), (0, .ref mm), (1, .int n), (2, .int k), (3, .float a), (4, .float b), (5, .float c9), (6, .float d9), (7, .int ky)]) hx hb dX4_row_59 hl (by decide) rfl (fun ls hl => ?_)
        refine lv_aload_n hx hb dX4_row_61 rfl (lv_at hl 1 rfl) ?_
        refine lv_aload_n hx hb dX4_row_62 rfl (lv_at hl 1 rfl) ?_
        refine lv_iload_n hx hb dX4_row_63 rfl (lv_at hl 2 rfl) ?_
        refine lv_iload_n hx hb dX4_row_64 rfl (lv_at hl 3 rfl) ?_
        refine kd_calli (va_runV (As := [.int n, .int k]) (rest := [.ref mm]) ⟨hx, hb, hml, hown, hts⟩ (k_pair l dC dI dA ad _ τ pv _ _ hI mm fa sa aa ia sf mb mr mk mr hW n k) (cwV 2 hts gX4_row_X4_pair rfl rfl rfl (by decide +kernel) ⟨Nat.le_of_ble_eq_true rfl, Nat.le_of_ble_eq_true rfl⟩) (kd_preV hP hD hK hS hA hE hI hW.tm rfl rfl) rfl rfl hl.1 rfl (lv_room (Nat.le_of_ble_eq_true rfl)) dX4_row_65 ⟨Nat.le_of_ble_eq_true rfl, Nat.le_of_ble_eq_true rfl⟩) hD hS hA (fun r_176 u_175 H locs hw hP hD hS => ?_)
        obtain ⟨⟨rfl, hp_179, ⟨j_177, hj_177, rfl⟩, rfl | ⟨j_178, hj_178, rfl⟩⟩ | ⟨rfl, hp_179⟩, hI⟩ := hw
        · refine lv_iload hx hb dX4_row_68 (lv_at hl 0 rfl) ?_
          refine lv_aload_n hx hb dX4_row_70 rfl (lv_at hl 1 rfl) ?_
          refine kp_get hx hb hts i_X4 hown hK hP hI hW.tm rfl rfl 6 (by decide) (by decide) (hts (.fieldLink RX4 129 "IslandSolverModel" "rows" "I") (by decide +kernel)) (fun _ h9 => h9) dX4_row_71 (kq_P (v0 := .int (nI mr)) rfl hW.p6 fun h_181 => ?_)
          refine lv_sipush (v := 1024) hx hb dX4_row_74 (by decide) ?_
          refine lv_icmp_ge (tgt := 84) hx hb dX4_row_77 (by decide) (fun c_182 => ?_) (fun c_182 => ?_)
          · have n_183 : 1024 ≤ mr := (nI_leI (by omega) (by omega)).mp (show nI 1024 ≤ nI mr from c_182)
            refine lv_iconst (v := 0) hx hb dX4_row_84 (by decide) ?_
            refine kd_calli (va_runV (As := [.int 1, .int 0, .int 0]) (rest := []) ⟨hx, hb, hml, hown, hts⟩ (k_goes3 l dC dI dA ad _ τ pv _ _ hI mm fa sa aa ia sf mb mr mk mr hW 0) (cwV 3 hts gX4_row_X4_goes rfl rfl rfl (by decide +kernel) ⟨Nat.le_of_ble_eq_true rfl, Nat.le_of_ble_eq_true rfl⟩) (kd_preV hP hD hK hS hA hE hI hW.tm rfl rfl) rfl rfl hl.1 rfl (lv_room (Nat.le_of_ble_eq_true rfl)) dX4_row_85 ⟨Nat.le_of_ble_eq_true rfl, Nat.le_of_ble_eq_true rfl⟩) hD hS hA (fun r_185 u_184 H locs hw hP hD hS => ?_)
            obtain ⟨rfl, hI⟩ := hw
            have hF := hF.trans (kFr.up (P := (kPxr mr)) (w := .int 2) (k := 0) hW.tm rfl)
            have hW := hW.frw (kFr.up (P := kPy mr) (w := .int 2) (k := 0) hW.tm rfl)
            refine lv_if_ne (tgt := 93) hx hb dX4_row_88 (by decide) (fun h9 => by first | exact absurd h9 (by decide) | exact absurd (by decide) h9) (fun _ => ?_)
            refine lv_iconst (v := 0) hx hb dX4_row_91 (by decide) ?_
            refine W.widen (k := 0) (n := 0) (Nat.le_of_ble_eq_true rfl) (Nat.le_of_ble_eq_true rfl) ?_
            exact W.iret (v := 0) hx hb hr (fun t ht hW9 => ⟨⟨0, (u_184.1, u_184.2), rfl, (by rw [kinc_1 (show kc_row n k mb mr a b c9 d9 ≠ 0 by rw [show kc_row n k mb mr a b c9 d9 = 2 from (by simp only [kc_row, kFitRow, k_5, k_10, k_16, hp_179, (Nat.not_lt.mpr n_183), decide_true, decide_false, Bool.not_true, Bool.not_false, Bool.and_true, Bool.true_and, Bool.and_false, Bool.false_and, Bool.and_self, Bool.false_eq_true, if_true, if_false, ite_true, ite_false, reduceIte] <;> decide)]; decide)]; exact ⟨_, _, hF, hW, (Eq.trans kup_self (congrArg Value.int (Eq.symm (by simp only [kc_row, kFitRow, k_5, k_10, k_16, hp_179, (Nat.not_lt.mpr n_183), decide_true, decide_false, Bool.not_true, Bool.not_false, Bool.and_true, Bool.true_and, Bool.and_false, Bool.false_and, Bool.and_self, Bool.false_eq_true, if_true, if_false, ite_true, ite_false, reduceIte] <;> decide)))), fun h9 => absurd ((show kc_row n k mb mr a b c9 d9 = 2 from (by simp only [kc_row, kFitRow, k_5, k_10, k_16, hp_179, (Nat.not_lt.mpr n_183), decide_true, decide_false, Bool.not_true, Bool.not_false, Bool.and_true, Bool.true_and, Bool.and_false, Bool.false_and, Bool.and_self, Bool.false_eq_true, if_true, if_false, ite_true, ite_false, reduceIte] <;> decide)).symm.trans h9) (by decide), fun h9 => absurd ((show kc_row n k mb mr a b c9 d9 = 2 from (by simp only [kc_row, kFitRow, k_5, k_10, k_16, hp_179, (Nat.not_lt.mpr n_183), decide_true, decide_false, Bool.not_true, Bool.not_false, Bool.and_true, Bool.true_and, Bool.and_false, Bool.false_and, Bool.and_self, Bool.false_eq_true, if_true, if_false, ite_true, ite_false, reduceIte] <;> decide)).symm.trans h9) (by decide), hI⟩), by rw [ht]; exact hP, va_K.moved hW9.alike hK, hD⟩, hS.F ht⟩) hS.2.2 dX4_row_92
          · have n_186 : ¬ 1024 ≤ mr := fun h9 => (show ¬ nI 1024 ≤ nI mr from c_182) ((nI_leI (by omega) (by omega)).mpr h9)
            refine lv_iconst (v := 1) hx hb dX4_row_80 (by decide) ?_
            refine lv_goto (tgt := 85) hx hb dX4_row_81 (by decide) ?_
            refine kd_calli (va_runV (As := [.int 1, .int 0, .int 1]) (rest := []) ⟨hx, hb, hml, hown, hts⟩ (k_goes3 l dC dI dA ad _ τ pv _ _ hI mm fa sa aa ia sf mb mr mk mr hW 1) (cwV 3 hts gX4_row_X4_goes rfl rfl rfl (by decide +kernel) ⟨Nat.le_of_ble_eq_true rfl, Nat.le_of_ble_eq_true rfl⟩) (kd_preV hP hD hK hS hA hE hI hW.tm rfl rfl) rfl rfl hl.1 rfl (lv_room (Nat.le_of_ble_eq_true rfl)) dX4_row_85 ⟨Nat.le_of_ble_eq_true rfl, Nat.le_of_ble_eq_true rfl⟩) hD hS hA (fun r_188 u_187 H locs hw hP hD hS => ?_)
            obtain ⟨rfl, hI⟩ := hw
            have hF := hF.trans (kFr.up (P := (kPxr mr)) (w := .int 2) (k := 0) hW.tm rfl)
            have hW := hW.frw (kFr.up (P := kPy mr) (w := .int 2) (k := 0) hW.tm rfl)
            refine lv_if_ne (tgt := 93) hx hb dX4_row_88 (by decide) (fun h9 => by first | exact absurd h9 (by decide) | exact absurd (by decide) h9) (fun _ => ?_)
            refine lv_iconst (v := 0) hx hb dX4_row_91 (by decide) ?_
            refine W.widen (k := 0) (n := 0) (Nat.le_of_ble_eq_true rfl) (Nat.le_of_ble_eq_true rfl) ?_
            exact W.iret (v := 0) hx hb hr (fun t ht hW9 => ⟨⟨0, (u_187.1, u_187.2), rfl, (by rw [kinc_1 (show kc_row n k mb mr a b c9 d9 ≠ 0 by rw [show kc_row n k mb mr a b c9 d9 = 2 from (by simp only [kc_row, kFitRow, k_5, k_10, k_16, hp_179, (Nat.not_le.mp n_186), decide_true, decide_false, Bool.not_true, Bool.not_false, Bool.and_true, Bool.true_and, Bool.and_false, Bool.false_and, Bool.and_self, Bool.false_eq_true, if_true, if_false, ite_true, ite_false, reduceIte] <;> decide)]; decide)]; exact ⟨_, _, hF, hW, (Eq.trans kup_self (congrArg Value.int (Eq.symm (by simp only [kc_row, kFitRow, k_5, k_10, k_16, hp_179, (Nat.not_le.mp n_186), decide_true, decide_false, Bool.not_true, Bool.not_false, Bool.and_true, Bool.true_and, Bool.and_false, Bool.false_and, Bool.and_self, Bool.false_eq_true, if_true, if_false, ite_true, ite_false, reduceIte] <;> decide)))), fun h9 => absurd ((show kc_row n k mb mr a b c9 d9 = 2 from (by simp only [kc_row, kFitRow, k_5, k_10, k_16, hp_179, (Nat.not_le.mp n_186), decide_true, decide_false, Bool.not_true, Bool.not_false, Bool.and_true, Bool.true_and, Bool.and_false, Bool.false_and, Bool.and_self, Bool.false_eq_true, if_true, if_false, ite_true, ite_false, reduceIte] <;> decide)).symm.trans h9) (by decide), fun h9 => absurd ((show kc_row n k mb mr a b c9 d9 = 2 from (by simp only [kc_row, kFitRow, k_5, k_10, k_16, hp_179, (Nat.not_le.mp n_186), decide_true, decide_false, Bool.not_true, Bool.not_false, Bool.and_true, Bool.true_and, Bool.and_false, Bool.false_and, Bool.and_self, Bool.false_eq_true, if_true, if_false, ite_true, ite_false, reduceIte] <;> decide)).symm.trans h9) (by decide), hI⟩), by rw [ht]; exact hP, va_K.moved hW9.alike hK, hD⟩, hS.F ht⟩) hS.2.2 dX4_row_92
        · refine lv_iload hx hb dX4_row_68 (lv_at hl 0 rfl) ?_
          refine lv_aload_n hx hb dX4_row_70 rfl (lv_at hl 1 rfl) ?_
          refine kp_get hx hb hts i_X4 hown hK hP hI hW.tm rfl rfl 6 (by decide) (by decide) (hts (.fieldLink RX4 129 "IslandSolverModel" "rows" "I") (by decide +kernel)) (fun _ h9 => h9) dX4_row_71 (kq_P (v0 := .int (nI mr)) rfl hW.p6 fun h_190 => ?_)
          refine lv_sipush (v := 1024) hx hb dX4_row_74 (by decide) ?_
          refine lv_icmp_ge (tgt := 84) hx hb dX4_row_77 (by decide) (fun c_191 => ?_) (fun c_191 => ?_)
          · have n_192 : 1024 ≤ mr := (nI_leI (by omega) (by omega)).mp (show nI 1024 ≤ nI mr from c_191)
            refine lv_iconst (v := 0) hx hb dX4_row_84 (by decide) ?_
            refine kd_calli (va_runV (As := [.int 1, .int 0, .int 0]) (rest := []) ⟨hx, hb, hml, hown, hts⟩ (k_goes3 l dC dI dA ad _ τ pv _ _ hI mm fa sa aa ia sf mb mr mk mr hW 0) (cwV 3 hts gX4_row_X4_goes rfl rfl rfl (by decide +kernel) ⟨Nat.le_of_ble_eq_true rfl, Nat.le_of_ble_eq_true rfl⟩) (kd_preV hP hD hK hS hA hE hI hW.tm rfl rfl) rfl rfl hl.1 rfl (lv_room (Nat.le_of_ble_eq_true rfl)) dX4_row_85 ⟨Nat.le_of_ble_eq_true rfl, Nat.le_of_ble_eq_true rfl⟩) hD hS hA (fun r_194 u_193 H locs hw hP hD hS => ?_)
            obtain ⟨rfl, hI⟩ := hw
            have hF := hF.trans (kFr.up (P := (kPxr mr)) (w := .int 2) (k := 0) hW.tm rfl)
            have hW := hW.frw (kFr.up (P := kPy mr) (w := .int 2) (k := 0) hW.tm rfl)
            refine lv_if_ne (tgt := 93) hx hb dX4_row_88 (by decide) (fun h9 => by first | exact absurd h9 (by decide) | exact absurd (by decide) h9) (fun _ => ?_)
            refine lv_iconst (v := 0) hx hb dX4_row_91 (by decide) ?_
            refine W.widen (k := 0) (n := 0) (Nat.le_of_ble_eq_true rfl) (Nat.le_of_ble_eq_true rfl) ?_
            exact W.iret (v := 0) hx hb hr (fun t ht hW9 => ⟨⟨0, (u_193.1, u_193.2), rfl, (by rw [kinc_1 (show kc_row n k mb mr a b c9 d9 ≠ 0 by rw [show kc_row n k mb mr a b c9 d9 = 2 from (by simp only [kc_row, kFitRow, k_5, k_10, k_16, hp_179, (Nat.not_lt.mpr n_192), decide_true, decide_false, Bool.not_true, Bool.not_false, Bool.and_true, Bool.true_and, Bool.and_false, Bool.false_and, Bool.and_self, Bool.false_eq_true, if_true, if_false, ite_true, ite_false, reduceIte] <;> decide)]; decide)]; exact ⟨_, _, hF, hW, (Eq.trans kup_self (congrArg Value.int (Eq.symm (by simp only [kc_row, kFitRow, k_5, k_10, k_16, hp_179, (Nat.not_lt.mpr n_192), decide_true, decide_false, Bool.not_true, Bool.not_false, Bool.and_true, Bool.true_and, Bool.and_false, Bool.false_and, Bool.and_self, Bool.false_eq_true, if_true, if_false, ite_true, ite_false, reduceIte] <;> decide)))), fun h9 => absurd ((show kc_row n k mb mr a b c9 d9 = 2 from (by simp only [kc_row, kFitRow, k_5, k_10, k_16, hp_179, (Nat.not_lt.mpr n_192), decide_true, decide_false, Bool.not_true, Bool.not_false, Bool.and_true, Bool.true_and, Bool.and_false, Bool.false_and, Bool.and_self, Bool.false_eq_true, if_true, if_false, ite_true, ite_false, reduceIte] <;> decide)).symm.trans h9) (by decide), fun h9 => absurd ((show kc_row n k mb mr a b c9 d9 = 2 from (by simp only [kc_row, kFitRow, k_5, k_10, k_16, hp_179, (Nat.not_lt.mpr n_192), decide_true, decide_false, Bool.not_true, Bool.not_false, Bool.and_true, Bool.true_and, Bool.and_false, Bool.false_and, Bool.and_self, Bool.false_eq_true, if_true, if_false, ite_true, ite_false, reduceIte] <;> decide)).symm.trans h9) (by decide), hI⟩), by rw [ht]; exact hP, va_K.moved hW9.alike hK, hD⟩, hS.F ht⟩) hS.2.2 dX4_row_92
          · have n_195 : ¬ 1024 ≤ mr := fun h9 => (show ¬ nI 1024 ≤ nI mr from c_191) ((nI_leI (by omega) (by omega)).mpr h9)
            refine lv_iconst (v := 1) hx hb dX4_row_80 (by decide) ?_
            refine lv_goto (tgt := 85) hx hb dX4_row_81 (by decide) ?_
            refine kd_calli (va_runV (As := [.int 1, .int 0, .int 1]) (rest := []) ⟨hx, hb, hml, hown, hts⟩ (k_goes3 l dC dI dA ad _ τ pv _ _ hI mm fa sa aa ia sf mb mr mk mr hW 1) (cwV 3 hts gX4_row_X4_goes rfl rfl rfl (by decide +kernel) ⟨Nat.le_of_ble_eq_true rfl, Nat.le_of_ble_eq_true rfl⟩) (kd_preV hP hD hK hS hA hE hI hW.tm rfl rfl) rfl rfl hl.1 rfl (lv_room (Nat.le_of_ble_eq_true rfl)) dX4_row_85 ⟨Nat.le_of_ble_eq_true rfl, Nat.le_of_ble_eq_true rfl⟩) hD hS hA (fun r_197 u_196 H locs hw hP hD hS => ?_)
            obtain ⟨rfl, hI⟩ := hw
            have hF := hF.trans (kFr.up (P := (kPxr mr)) (w := .int 2) (k := 0) hW.tm rfl)
            have hW := hW.frw (kFr.up (P := kPy mr) (w := .int 2) (k := 0) hW.tm rfl)
            refine lv_if_ne (tgt := 93) hx hb dX4_row_88 (by decide) (fun h9 => by first | exact absurd h9 (by decide) | exact absurd (by decide) h9) (fun _ => ?_)
            refine lv_iconst (v := 0) hx hb dX4_row_91 (by decide) ?_
            refine W.widen (k := 0) (n := 0) (Nat.le_of_ble_eq_true rfl) (Nat.le_of_ble_eq_true rfl) ?_
            exact W.iret (v := 0) hx hb hr (fun t ht hW9 => ⟨⟨0, (u_196.1, u_196.2), rfl, (by rw [kinc_1 (show kc_row n k mb mr a b c9 d9 ≠ 0 by rw [show kc_row n k mb mr a b c9 d9 = 2 from (by simp only [kc_row, kFitRow, k_5, k_10, k_16, hp_179, (Nat.not_le.mp n_195), decide_true, decide_false, Bool.not_true, Bool.not_false, Bool.and_true, Bool.true_and, Bool.and_false, Bool.false_and, Bool.and_self, Bool.false_eq_true, if_true, if_false, ite_true, ite_false, reduceIte] <;> decide)]; decide)]; exact ⟨_, _, hF, hW, (Eq.trans kup_self (congrArg Value.int (Eq.symm (by simp only [kc_row, kFitRow, k_5, k_10, k_16, hp_179, (Nat.not_le.mp n_195), decide_true, decide_false, Bool.not_true, Bool.not_false, Bool.and_true, Bool.true_and, Bool.and_false, Bool.false_and, Bool.and_self, Bool.false_eq_true, if_true, if_false, ite_true, ite_false, reduceIte] <;> decide)))), fun h9 => absurd ((show kc_row n k mb mr a b c9 d9 = 2 from (by simp only [kc_row, kFitRow, k_5, k_10, k_16, hp_179, (Nat.not_le.mp n_195), decide_true, decide_false, Bool.not_true, Bool.not_false, Bool.and_true, Bool.true_and, Bool.and_false, Bool.false_and, Bool.and_self, Bool.false_eq_true, if_true, if_false, ite_true, ite_false, reduceIte] <;> decide)).symm.trans h9) (by decide), fun h9 => absurd ((show kc_row n k mb mr a b c9 d9 = 2 from (by simp only [kc_row, kFitRow, k_5, k_10, k_16, hp_179, (Nat.not_le.mp n_195), decide_true, decide_false, Bool.not_true, Bool.not_false, Bool.and_true, Bool.true_and, Bool.and_false, Bool.false_and, Bool.and_self, Bool.false_eq_true, if_true, if_false, ite_true, ite_false, reduceIte] <;> decide)).symm.trans h9) (by decide), hI⟩), by rw [ht]; exact hP, va_K.moved hW9.alike hK, hD⟩, hS.F ht⟩) hS.2.2 dX4_row_92
        · refine lv_iload hx hb dX4_row_68 (lv_at hl 0 rfl) ?_
          refine lv_aload_n hx hb dX4_row_70 rfl (lv_at hl 1 rfl) ?_
          refine kp_get hx hb hts i_X4 hown hK hP hI hW.tm rfl rfl 6 (by decide) (by decide) (hts (.fieldLink RX4 129 "IslandSolverModel" "rows" "I") (by decide +kernel)) (fun _ h9 => h9) dX4_row_71 (kq_P (v0 := .int (nI mr)) rfl hW.p6 fun h_199 => ?_)
          refine lv_sipush (v := 1024) hx hb dX4_row_74 (by decide) ?_
          refine lv_icmp_ge (tgt := 84) hx hb dX4_row_77 (by decide) (fun c_200 => ?_) (fun c_200 => ?_)
          · have n_201 : 1024 ≤ mr := (nI_leI (by omega) (by omega)).mp (show nI 1024 ≤ nI mr from c_200)
            refine lv_iconst (v := 0) hx hb dX4_row_84 (by decide) ?_
            refine kd_calli (va_runV (As := [.int 0, .int 0, .int 0]) (rest := []) ⟨hx, hb, hml, hown, hts⟩ (k_goes2 l dC dI dA ad _ τ pv _ _ hI mm fa sa aa ia sf mb mr mk mr hW 0 0) (cwV 3 hts gX4_row_X4_goes rfl rfl rfl (by decide +kernel) ⟨Nat.le_of_ble_eq_true rfl, Nat.le_of_ble_eq_true rfl⟩) (kd_preV hP hD hK hS hA hE hI hW.tm rfl rfl) rfl rfl hl.1 rfl (lv_room (Nat.le_of_ble_eq_true rfl)) dX4_row_85 ⟨Nat.le_of_ble_eq_true rfl, Nat.le_of_ble_eq_true rfl⟩) hD hS hA (fun r_203 u_202 H locs hw hP hD hS => ?_)
            obtain ⟨rfl, hI⟩ := hw
            have hF := hF.trans (kFr.up (P := (kPxr mr)) (w := .int 1) (k := 0) hW.tm rfl)
            have hW := hW.frw (kFr.up (P := kPy mr) (w := .int 1) (k := 0) hW.tm rfl)
            refine lv_if_ne (tgt := 93) hx hb dX4_row_88 (by decide) (fun h9 => by first | exact absurd h9 (by decide) | exact absurd (by decide) h9) (fun _ => ?_)
            refine lv_iconst (v := 0) hx hb dX4_row_91 (by decide) ?_
            refine W.widen (k := 0) (n := 0) (Nat.le_of_ble_eq_true rfl) (Nat.le_of_ble_eq_true rfl) ?_
            exact W.iret (v := 0) hx hb hr (fun t ht hW9 => ⟨⟨0, (u_202.1, u_202.2), rfl, (by rw [kinc_1 (show kc_row n k mb mr a b c9 d9 ≠ 0 by rw [show kc_row n k mb mr a b c9 d9 = 1 from (by simp only [kc_row, kFitRow, k_5, k_10, k_16, hp_179, (Nat.not_lt.mpr n_201), decide_true, decide_false, Bool.not_true, Bool.not_false, Bool.and_true, Bool.true_and, Bool.and_false, Bool.false_and, Bool.and_self, Bool.false_eq_true, if_true, if_false, ite_true, ite_false, reduceIte] <;> decide)]; decide)]; exact ⟨_, _, hF, hW, (Eq.trans kup_self (congrArg Value.int (Eq.symm (by simp only [kc_row, kFitRow, k_5, k_10, k_16, hp_179, (Nat.not_lt.mpr n_201), decide_true, decide_false, Bool.not_true, Bool.not_false, Bool.and_true, Bool.true_and, Bool.and_false, Bool.false_and, Bool.and_self, Bool.false_eq_true, if_true, if_false, ite_true, ite_false, reduceIte] <;> decide)))), fun h9 => absurd ((show kc_row n k mb mr a b c9 d9 = 1 from (by simp only [kc_row, kFitRow, k_5, k_10, k_16, hp_179, (Nat.not_lt.mpr n_201), decide_true, decide_false, Bool.not_true, Bool.not_false, Bool.and_true, Bool.true_and, Bool.and_false, Bool.false_and, Bool.and_self, Bool.false_eq_true, if_true, if_false, ite_true, ite_false, reduceIte] <;> decide)).symm.trans h9) (by decide), fun h9 => absurd ((show kc_row n k mb mr a b c9 d9 = 1 from (by simp only [kc_row, kFitRow, k_5, k_10, k_16, hp_179, (Nat.not_lt.mpr n_201), decide_true, decide_false, Bool.not_true, Bool.not_false, Bool.and_true, Bool.true_and, Bool.and_false, Bool.false_and, Bool.and_self, Bool.false_eq_true, if_true, if_false, ite_true, ite_false, reduceIte] <;> decide)).symm.trans h9) (by decide), hI⟩), by rw [ht]; exact hP, va_K.moved hW9.alike hK, hD⟩, hS.F ht⟩) hS.2.2 dX4_row_92
          · have n_204 : ¬ 1024 ≤ mr := fun h9 => (show ¬ nI 1024 ≤ nI mr from c_200) ((nI_leI (by omega) (by omega)).mpr h9)
            refine lv_iconst (v := 1) hx hb dX4_row_80 (by decide) ?_
            refine lv_goto (tgt := 85) hx hb dX4_row_81 (by decide) ?_
            refine kd_calli (va_runV (As := [.int 0, .int 0, .int 1]) (rest := []) ⟨hx, hb, hml, hown, hts⟩ (k_goes2 l dC dI dA ad _ τ pv _ _ hI mm fa sa aa ia sf mb mr mk mr hW 0 1) (cwV 3 hts gX4_row_X4_goes rfl rfl rfl (by decide +kernel) ⟨Nat.le_of_ble_eq_true rfl, Nat.le_of_ble_eq_true rfl⟩) (kd_preV hP hD hK hS hA hE hI hW.tm rfl rfl) rfl rfl hl.1 rfl (lv_room (Nat.le_of_ble_eq_true rfl)) dX4_row_85 ⟨Nat.le_of_ble_eq_true rfl, Nat.le_of_ble_eq_true rfl⟩) hD hS hA (fun r_206 u_205 H locs hw hP hD hS => ?_)
            obtain ⟨rfl, hI⟩ := hw
            have hF := hF.trans (kFr.up (P := (kPxr mr)) (w := .int 1) (k := 0) hW.tm rfl)
            have hW := hW.frw (kFr.up (P := kPy mr) (w := .int 1) (k := 0) hW.tm rfl)
            refine lv_if_ne (tgt := 93) hx hb dX4_row_88 (by decide) (fun h9 => by first | exact absurd h9 (by decide) | exact absurd (by decide) h9) (fun _ => ?_)
            refine lv_iconst (v := 0) hx hb dX4_row_91 (by decide) ?_
            refine W.widen (k := 0) (n := 0) (Nat.le_of_ble_eq_true rfl) (Nat.le_of_ble_eq_true rfl) ?_
            exact W.iret (v := 0) hx hb hr (fun t ht hW9 => ⟨⟨0, (u_205.1, u_205.2), rfl, (by rw [kinc_1 (show kc_row n k mb mr a b c9 d9 ≠ 0 by rw [show kc_row n k mb mr a b c9 d9 = 1 from (by simp only [kc_row, kFitRow, k_5, k_10, k_16, hp_179, (Nat.not_le.mp n_204), decide_true, decide_false, Bool.not_true, Bool.not_false, Bool.and_true, Bool.true_and, Bool.and_false, Bool.false_and, Bool.and_self, Bool.false_eq_true, if_true, if_false, ite_true, ite_false, reduceIte] <;> decide)]; decide)]; exact ⟨_, _, hF, hW, (Eq.trans kup_self (congrArg Value.int (Eq.symm (by simp only [kc_row, kFitRow, k_5, k_10, k_16, hp_179, (Nat.not_le.mp n_204), decide_true, decide_false, Bool.not_true, Bool.not_false, Bool.and_true, Bool.true_and, Bool.and_false, Bool.false_and, Bool.and_self, Bool.false_eq_true, if_true, if_false, ite_true, ite_false, reduceIte] <;> decide)))), fun h9 => absurd ((show kc_row n k mb mr a b c9 d9 = 1 from (by simp only [kc_row, kFitRow, k_5, k_10, k_16, hp_179, (Nat.not_le.mp n_204), decide_true, decide_false, Bool.not_true, Bool.not_false, Bool.and_true, Bool.true_and, Bool.and_false, Bool.false_and, Bool.and_self, Bool.false_eq_true, if_true, if_false, ite_true, ite_false, reduceIte] <;> decide)).symm.trans h9) (by decide), fun h9 => absurd ((show kc_row n k mb mr a b c9 d9 = 1 from (by simp only [kc_row, kFitRow, k_5, k_10, k_16, hp_179, (Nat.not_le.mp n_204), decide_true, decide_false, Bool.not_true, Bool.not_false, Bool.and_true, Bool.true_and, Bool.and_false, Bool.false_and, Bool.and_self, Bool.false_eq_true, if_true, if_false, ite_true, ite_false, reduceIte] <;> decide)).symm.trans h9) (by decide), hI⟩), by rw [ht]; exact hP, va_K.moved hW9.alike hK, hD⟩, hS.F ht⟩) hS.2.2 dX4_row_92
    · refine lv_if_eq (tgt := 58) hx hb dX4_row_19 (by decide) (fun _ => ?_) (fun h9 => by first | exact absurd h9 (by decide) | exact absurd (by decide) h9)
      refine lv_iconst (v := 0) hx hb dX4_row_58 (by decide) ?_
      refine lv_istore (lv' := [(8, .int 0), (0, .ref mm), (1, .int n), (2, .int k), (3, .float a), (4, .float b), (5, .float c9), (6, .float d9), (7, .int ky)]) hx hb dX4_row_59 hl (by decide) rfl (fun ls hl => ?_)
      refine lv_aload_n hx hb dX4_row_61 rfl (lv_at hl 1 rfl) ?_
      refine lv_aload_n hx hb dX4_row_62 rfl (lv_at hl 1 rfl) ?_
      refine lv_iload_n hx hb dX4_row_63 rfl (lv_at hl 2 rfl) ?_
      refine lv_iload_n hx hb dX4_row_64 rfl (lv_at hl 3 rfl) ?_
      refine kd_calli (va_runV (As := [.int n, .int k]) (rest := [.ref mm]) ⟨hx, hb, hml, hown, hts⟩ (k_pair l dC dI dA ad _ τ pv _ _ hI mm fa sa aa ia sf mb mr mk mr hW n k) (cwV 2 hts gX4_row_X4_pair rfl rfl rfl (by decide +kernel) ⟨Nat.le_of_ble_eq_true rfl, Nat.le_of_ble_eq_true rfl⟩) (kd_preV hP hD hK hS hA hE hI hW.tm rfl rfl) rfl rfl hl.1 rfl (lv_room (Nat.le_of_ble_eq_true rfl)) dX4_row_65 ⟨Nat.le_of_ble_eq_true rfl, Nat.le_of_ble_eq_true rfl⟩) hD hS hA (fun r_208 u_207 H locs hw hP hD hS => ?_)
      obtain ⟨⟨rfl, hp_211, ⟨j_209, hj_209, rfl⟩, rfl | ⟨j_210, hj_210, rfl⟩⟩ | ⟨rfl, hp_211⟩, hI⟩ := hw
      · refine lv_iload hx hb dX4_row_68 (lv_at hl 0 rfl) ?_
        refine lv_aload_n hx hb dX4_row_70 rfl (lv_at hl 1 rfl) ?_
        refine kp_get hx hb hts i_X4 hown hK hP hI hW.tm rfl rfl 6 (by decide) (by decide) (hts (.fieldLink RX4 129 "IslandSolverModel" "rows" "I") (by decide +kernel)) (fun _ h9 => h9) dX4_row_71 (kq_P (v0 := .int (nI mr)) rfl hW.p6 fun h_213 => ?_)
        refine lv_sipush (v := 1024) hx hb dX4_row_74 (by decide) ?_
        refine lv_icmp_ge (tgt := 84) hx hb dX4_row_77 (by decide) (fun c_214 => ?_) (fun c_214 => ?_)
        · have n_215 : 1024 ≤ mr := (nI_leI (by omega) (by omega)).mp (show nI 1024 ≤ nI mr from c_214)
          refine lv_iconst (v := 0) hx hb dX4_row_84 (by decide) ?_
          refine kd_calli (va_runV (As := [.int 1, .int 0, .int 0]) (rest := []) ⟨hx, hb, hml, hown, hts⟩ (k_goes3 l dC dI dA ad _ τ pv _ _ hI mm fa sa aa ia sf mb mr mk mr hW 0) (cwV 3 hts gX4_row_X4_goes rfl rfl rfl (by decide +kernel) ⟨Nat.le_of_ble_eq_true rfl, Nat.le_of_ble_eq_true rfl⟩) (kd_preV hP hD hK hS hA hE hI hW.tm rfl rfl) rfl rfl hl.1 rfl (lv_room (Nat.le_of_ble_eq_true rfl)) dX4_row_85 ⟨Nat.le_of_ble_eq_true rfl, Nat.le_of_ble_eq_true rfl⟩) hD hS hA (fun r_217 u_216 H locs hw hP hD hS => ?_)
          obtain ⟨rfl, hI⟩ := hw
          have hF := hF.trans (kFr.up (P := (kPxr mr)) (w := .int 2) (k := 0) hW.tm rfl)
          have hW := hW.frw (kFr.up (P := kPy mr) (w := .int 2) (k := 0) hW.tm rfl)
          refine lv_if_ne (tgt := 93) hx hb dX4_row_88 (by decide) (fun h9 => by first | exact absurd h9 (by decide) | exact absurd (by decide) h9) (fun _ => ?_)
          refine lv_iconst (v := 0) hx hb dX4_row_91 (by decide) ?_
          refine W.widen (k := 0) (n := 0) (Nat.le_of_ble_eq_true rfl) (Nat.le_of_ble_eq_true rfl) ?_
          exact W.iret (v := 0) hx hb hr (fun t ht hW9 => ⟨⟨0, (u_216.1, u_216.2), rfl, (by rw [kinc_1 (show kc_row n k mb mr a b c9 d9 ≠ 0 by rw [show kc_row n k mb mr a b c9 d9 = 2 from (by simp only [kc_row, kFitRow, k_5, k_10, hp_211, (Nat.not_lt.mpr n_215), decide_true, decide_false, Bool.not_true, Bool.not_false, Bool.and_true, Bool.true_and, Bool.and_false, Bool.false_and, Bool.and_self, Bool.false_eq_true, if_true, if_false, ite_true, ite_false, reduceIte] <;> decide)]; decide)]; exact ⟨_, _, hF, hW, (Eq.trans kup_self (congrArg Value.int (Eq.symm (by simp only [kc_row, kFitRow, k_5, k_10, hp_211, (Nat.not_lt.mpr n_215), decide_true, decide_false, Bool.not_true, Bool.not_false, Bool.and_true, Bool.true_and, Bool.and_false, Bool.false_and, Bool.and_self, Bool.false_eq_true, if_true, if_false, ite_true, ite_false, reduceIte] <;> decide)))), fun h9 => absurd ((show kc_row n k mb mr a b c9 d9 = 2 from (by simp only [kc_row, kFitRow, k_5, k_10, hp_211, (Nat.not_lt.mpr n_215), decide_true, decide_false, Bool.not_true, Bool.not_false, Bool.and_true, Bool.true_and, Bool.and_false, Bool.false_and, Bool.and_self, Bool.false_eq_true, if_true, if_false, ite_true, ite_false, reduceIte] <;> decide)).symm.trans h9) (by decide), fun h9 => absurd ((show kc_row n k mb mr a b c9 d9 = 2 from (by simp only [kc_row, kFitRow, k_5, k_10, hp_211, (Nat.not_lt.mpr n_215), decide_true, decide_false, Bool.not_true, Bool.not_false, Bool.and_true, Bool.true_and, Bool.and_false, Bool.false_and, Bool.and_self, Bool.false_eq_true, if_true, if_false, ite_true, ite_false, reduceIte] <;> decide)).symm.trans h9) (by decide), hI⟩), by rw [ht]; exact hP, va_K.moved hW9.alike hK, hD⟩, hS.F ht⟩) hS.2.2 dX4_row_92
        · have n_218 : ¬ 1024 ≤ mr := fun h9 => (show ¬ nI 1024 ≤ nI mr from c_214) ((nI_leI (by omega) (by omega)).mpr h9)
          refine lv_iconst (v := 1) hx hb dX4_row_80 (by decide) ?_
          refine lv_goto (tgt := 85) hx hb dX4_row_81 (by decide) ?_
          refine kd_calli (va_runV (As := [.int 1, .int 0, .int 1]) (rest := []) ⟨hx, hb, hml, hown, hts⟩ (k_goes3 l dC dI dA ad _ τ pv _ _ hI mm fa sa aa ia sf mb mr mk mr hW 1) (cwV 3 hts gX4_row_X4_goes rfl rfl rfl (by decide +kernel) ⟨Nat.le_of_ble_eq_true rfl, Nat.le_of_ble_eq_true rfl⟩) (kd_preV hP hD hK hS hA hE hI hW.tm rfl rfl) rfl rfl hl.1 rfl (lv_room (Nat.le_of_ble_eq_true rfl)) dX4_row_85 ⟨Nat.le_of_ble_eq_true rfl, Nat.le_of_ble_eq_true rfl⟩) hD hS hA (fun r_220 u_219 H locs hw hP hD hS => ?_)
          obtain ⟨rfl, hI⟩ := hw
          have hF := hF.trans (kFr.up (P := (kPxr mr)) (w := .int 2) (k := 0) hW.tm rfl)
          have hW := hW.frw (kFr.up (P := kPy mr) (w := .int 2) (k := 0) hW.tm rfl)
          refine lv_if_ne (tgt := 93) hx hb dX4_row_88 (by decide) (fun h9 => by first | exact absurd h9 (by decide) | exact absurd (by decide) h9) (fun _ => ?_)
          refine lv_iconst (v := 0) hx hb dX4_row_91 (by decide) ?_
          refine W.widen (k := 0) (n := 0) (Nat.le_of_ble_eq_true rfl) (Nat.le_of_ble_eq_true rfl) ?_
          exact W.iret (v := 0) hx hb hr (fun t ht hW9 => ⟨⟨0, (u_219.1, u_219.2), rfl, (by rw [kinc_1 (show kc_row n k mb mr a b c9 d9 ≠ 0 by rw [show kc_row n k mb mr a b c9 d9 = 2 from (by simp only [kc_row, kFitRow, k_5, k_10, hp_211, (Nat.not_le.mp n_218), decide_true, decide_false, Bool.not_true, Bool.not_false, Bool.and_true, Bool.true_and, Bool.and_false, Bool.false_and, Bool.and_self, Bool.false_eq_true, if_true, if_false, ite_true, ite_false, reduceIte] <;> decide)]; decide)]; exact ⟨_, _, hF, hW, (Eq.trans kup_self (congrArg Value.int (Eq.symm (by simp only [kc_row, kFitRow, k_5, k_10, hp_211, (Nat.not_le.mp n_218), decide_true, decide_false, Bool.not_true, Bool.not_false, Bool.and_true, Bool.true_and, Bool.and_false, Bool.false_and, Bool.and_self, Bool.false_eq_true, if_true, if_false, ite_true, ite_false, reduceIte] <;> decide)))), fun h9 => absurd ((show kc_row n k mb mr a b c9 d9 = 2 from (by simp only [kc_row, kFitRow, k_5, k_10, hp_211, (Nat.not_le.mp n_218), decide_true, decide_false, Bool.not_true, Bool.not_false, Bool.and_true, Bool.true_and, Bool.and_false, Bool.false_and, Bool.and_self, Bool.false_eq_true, if_true, if_false, ite_true, ite_false, reduceIte] <;> decide)).symm.trans h9) (by decide), fun h9 => absurd ((show kc_row n k mb mr a b c9 d9 = 2 from (by simp only [kc_row, kFitRow, k_5, k_10, hp_211, (Nat.not_le.mp n_218), decide_true, decide_false, Bool.not_true, Bool.not_false, Bool.and_true, Bool.true_and, Bool.and_false, Bool.false_and, Bool.and_self, Bool.false_eq_true, if_true, if_false, ite_true, ite_false, reduceIte] <;> decide)).symm.trans h9) (by decide), hI⟩), by rw [ht]; exact hP, va_K.moved hW9.alike hK, hD⟩, hS.F ht⟩) hS.2.2 dX4_row_92
      · refine lv_iload hx hb dX4_row_68 (lv_at hl 0 rfl) ?_
        refine lv_aload_n hx hb dX4_row_70 rfl (lv_at hl 1 rfl) ?_
        refine kp_get hx hb hts i_X4 hown hK hP hI hW.tm rfl rfl 6 (by decide) (by decide) (hts (.fieldLink RX4 129 "IslandSolverModel" "rows" "I") (by decide +kernel)) (fun _ h9 => h9) dX4_row_71 (kq_P (v0 := .int (nI mr)) rfl hW.p6 fun h_222 => ?_)
        refine lv_sipush (v := 1024) hx hb dX4_row_74 (by decide) ?_
        refine lv_icmp_ge (tgt := 84) hx hb dX4_row_77 (by decide) (fun c_223 => ?_) (fun c_223 => ?_)
        · have n_224 : 1024 ≤ mr := (nI_leI (by omega) (by omega)).mp (show nI 1024 ≤ nI mr from c_223)
          refine lv_iconst (v := 0) hx hb dX4_row_84 (by decide) ?_
          refine kd_calli (va_runV (As := [.int 1, .int 0, .int 0]) (rest := []) ⟨hx, hb, hml, hown, hts⟩ (k_goes3 l dC dI dA ad _ τ pv _ _ hI mm fa sa aa ia sf mb mr mk mr hW 0) (cwV 3 hts gX4_row_X4_goes rfl rfl rfl (by decide +kernel) ⟨Nat.le_of_ble_eq_true rfl, Nat.le_of_ble_eq_true rfl⟩) (kd_preV hP hD hK hS hA hE hI hW.tm rfl rfl) rfl rfl hl.1 rfl (lv_room (Nat.le_of_ble_eq_true rfl)) dX4_row_85 ⟨Nat.le_of_ble_eq_true rfl, Nat.le_of_ble_eq_true rfl⟩) hD hS hA (fun r_226 u_225 H locs hw hP hD hS => ?_)
          obtain ⟨rfl, hI⟩ := hw
          have hF := hF.trans (kFr.up (P := (kPxr mr)) (w := .int 2) (k := 0) hW.tm rfl)
          have hW := hW.frw (kFr.up (P := kPy mr) (w := .int 2) (k := 0) hW.tm rfl)
          refine lv_if_ne (tgt := 93) hx hb dX4_row_88 (by decide) (fun h9 => by first | exact absurd h9 (by decide) | exact absurd (by decide) h9) (fun _ => ?_)
          refine lv_iconst (v := 0) hx hb dX4_row_91 (by decide) ?_
          refine W.widen (k := 0) (n := 0) (Nat.le_of_ble_eq_true rfl) (Nat.le_of_ble_eq_true rfl) ?_
          exact W.iret (v := 0) hx hb hr (fun t ht hW9 => ⟨⟨0, (u_225.1, u_225.2), rfl, (by rw [kinc_1 (show kc_row n k mb mr a b c9 d9 ≠ 0 by rw [show kc_row n k mb mr a b c9 d9 = 2 from (by simp only [kc_row, kFitRow, k_5, k_10, hp_211, (Nat.not_lt.mpr n_224), decide_true, decide_false, Bool.not_true, Bool.not_false, Bool.and_true, Bool.true_and, Bool.and_false, Bool.false_and, Bool.and_self, Bool.false_eq_true, if_true, if_false, ite_true, ite_false, reduceIte] <;> decide)]; decide)]; exact ⟨_, _, hF, hW, (Eq.trans kup_self (congrArg Value.int (Eq.symm (by simp only [kc_row, kFitRow, k_5, k_10, hp_211, (Nat.not_lt.mpr n_224), decide_true, decide_false, Bool.not_true, Bool.not_false, Bool.and_true, Bool.true_and, Bool.and_false, Bool.false_and, Bool.and_self, Bool.false_eq_true, if_true, if_false, ite_true, ite_false, reduceIte] <;> decide)))), fun h9 => absurd ((show kc_row n k mb mr a b c9 d9 = 2 from (by simp only [kc_row, kFitRow, k_5, k_10, hp_211, (Nat.not_lt.mpr n_224), decide_true, decide_false, Bool.not_true, Bool.not_false, Bool.and_true, Bool.true_and, Bool.and_false, Bool.false_and, Bool.and_self, Bool.false_eq_true, if_true, if_false, ite_true, ite_false, reduceIte] <;> decide)).symm.trans h9) (by decide), fun h9 => absurd ((show kc_row n k mb mr a b c9 d9 = 2 from (by simp only [kc_row, kFitRow, k_5, k_10, hp_211, (Nat.not_lt.mpr n_224), decide_true, decide_false, Bool.not_true, Bool.not_false, Bool.and_true, Bool.true_and, Bool.and_false, Bool.false_and, Bool.and_self, Bool.false_eq_true, if_true, if_false, ite_true, ite_false, reduceIte] <;> decide)).symm.trans h9) (by decide), hI⟩), by rw [ht]; exact hP, va_K.moved hW9.alike hK, hD⟩, hS.F ht⟩) hS.2.2 dX4_row_92
        · have n_227 : ¬ 1024 ≤ mr := fun h9 => (show ¬ nI 1024 ≤ nI mr from c_223) ((nI_leI (by omega) (by omega)).mpr h9)
          refine lv_iconst (v := 1) hx hb dX4_row_80 (by decide) ?_
          refine lv_goto (tgt := 85) hx hb dX4_row_81 (by decide) ?_
          refine kd_calli (va_runV (As := [.int 1, .int 0, .int 1]) (rest := []) ⟨hx, hb, hml, hown, hts⟩ (k_goes3 l dC dI dA ad _ τ pv _ _ hI mm fa sa aa ia sf mb mr mk mr hW 1) (cwV 3 hts gX4_row_X4_goes rfl rfl rfl (by decide +kernel) ⟨Nat.le_of_ble_eq_true rfl, Nat.le_of_ble_eq_true rfl⟩) (kd_preV hP hD hK hS hA hE hI hW.tm rfl rfl) rfl rfl hl.1 rfl (lv_room (Nat.le_of_ble_eq_true rfl)) dX4_row_85 ⟨Nat.le_of_ble_eq_true rfl, Nat.le_of_ble_eq_true rfl⟩) hD hS hA (fun r_229 u_228 H locs hw hP hD hS => ?_)
          obtain ⟨rfl, hI⟩ := hw
          have hF := hF.trans (kFr.up (P := (kPxr mr)) (w := .int 2) (k := 0) hW.tm rfl)
          have hW := hW.frw (kFr.up (P := kPy mr) (w := .int 2) (k := 0) hW.tm rfl)
          refine lv_if_ne (tgt := 93) hx hb dX4_row_88 (by decide) (fun h9 => by first | exact absurd h9 (by decide) | exact absurd (by decide) h9) (fun _ => ?_)
          refine lv_iconst (v := 0) hx hb dX4_row_91 (by decide) ?_
          refine W.widen (k := 0) (n := 0) (Nat.le_of_ble_eq_true rfl) (Nat.le_of_ble_eq_true rfl) ?_
          exact W.iret (v := 0) hx hb hr (fun t ht hW9 => ⟨⟨0, (u_228.1, u_228.2), rfl, (by rw [kinc_1 (show kc_row n k mb mr a b c9 d9 ≠ 0 by rw [show kc_row n k mb mr a b c9 d9 = 2 from (by simp only [kc_row, kFitRow, k_5, k_10, hp_211, (Nat.not_le.mp n_227), decide_true, decide_false, Bool.not_true, Bool.not_false, Bool.and_true, Bool.true_and, Bool.and_false, Bool.false_and, Bool.and_self, Bool.false_eq_true, if_true, if_false, ite_true, ite_false, reduceIte] <;> decide)]; decide)]; exact ⟨_, _, hF, hW, (Eq.trans kup_self (congrArg Value.int (Eq.symm (by simp only [kc_row, kFitRow, k_5, k_10, hp_211, (Nat.not_le.mp n_227), decide_true, decide_false, Bool.not_true, Bool.not_false, Bool.and_true, Bool.true_and, Bool.and_false, Bool.false_and, Bool.and_self, Bool.false_eq_true, if_true, if_false, ite_true, ite_false, reduceIte] <;> decide)))), fun h9 => absurd ((show kc_row n k mb mr a b c9 d9 = 2 from (by simp only [kc_row, kFitRow, k_5, k_10, hp_211, (Nat.not_le.mp n_227), decide_true, decide_false, Bool.not_true, Bool.not_false, Bool.and_true, Bool.true_and, Bool.and_false, Bool.false_and, Bool.and_self, Bool.false_eq_true, if_true, if_false, ite_true, ite_false, reduceIte] <;> decide)).symm.trans h9) (by decide), fun h9 => absurd ((show kc_row n k mb mr a b c9 d9 = 2 from (by simp only [kc_row, kFitRow, k_5, k_10, hp_211, (Nat.not_le.mp n_227), decide_true, decide_false, Bool.not_true, Bool.not_false, Bool.and_true, Bool.true_and, Bool.and_false, Bool.false_and, Bool.and_self, Bool.false_eq_true, if_true, if_false, ite_true, ite_false, reduceIte] <;> decide)).symm.trans h9) (by decide), hI⟩), by rw [ht]; exact hP, va_K.moved hW9.alike hK, hD⟩, hS.F ht⟩) hS.2.2 dX4_row_92
      · refine lv_iload hx hb dX4_row_68 (lv_at hl 0 rfl) ?_
        refine lv_aload_n hx hb dX4_row_70 rfl (lv_at hl 1 rfl) ?_
        refine kp_get hx hb hts i_X4 hown hK hP hI hW.tm rfl rfl 6 (by decide) (by decide) (hts (.fieldLink RX4 129 "IslandSolverModel" "rows" "I") (by decide +kernel)) (fun _ h9 => h9) dX4_row_71 (kq_P (v0 := .int (nI mr)) rfl hW.p6 fun h_231 => ?_)
        refine lv_sipush (v := 1024) hx hb dX4_row_74 (by decide) ?_
        refine lv_icmp_ge (tgt := 84) hx hb dX4_row_77 (by decide) (fun c_232 => ?_) (fun c_232 => ?_)
        · have n_233 : 1024 ≤ mr := (nI_leI (by omega) (by omega)).mp (show nI 1024 ≤ nI mr from c_232)
          refine lv_iconst (v := 0) hx hb dX4_row_84 (by decide) ?_
          refine kd_calli (va_runV (As := [.int 0, .int 0, .int 0]) (rest := []) ⟨hx, hb, hml, hown, hts⟩ (k_goes2 l dC dI dA ad _ τ pv _ _ hI mm fa sa aa ia sf mb mr mk mr hW 0 0) (cwV 3 hts gX4_row_X4_goes rfl rfl rfl (by decide +kernel) ⟨Nat.le_of_ble_eq_true rfl, Nat.le_of_ble_eq_true rfl⟩) (kd_preV hP hD hK hS hA hE hI hW.tm rfl rfl) rfl rfl hl.1 rfl (lv_room (Nat.le_of_ble_eq_true rfl)) dX4_row_85 ⟨Nat.le_of_ble_eq_true rfl, Nat.le_of_ble_eq_true rfl⟩) hD hS hA (fun r_235 u_234 H locs hw hP hD hS => ?_)
          obtain ⟨rfl, hI⟩ := hw
          have hF := hF.trans (kFr.up (P := (kPxr mr)) (w := .int 1) (k := 0) hW.tm rfl)
          have hW := hW.frw (kFr.up (P := kPy mr) (w := .int 1) (k := 0) hW.tm rfl)
          refine lv_if_ne (tgt := 93) hx hb dX4_row_88 (by decide) (fun h9 => by first | exact absurd h9 (by decide) | exact absurd (by decide) h9) (fun _ => ?_)
          refine lv_iconst (v := 0) hx hb dX4_row_91 (by decide) ?_
          refine W.widen (k := 0) (n := 0) (Nat.le_of_ble_eq_true rfl) (Nat.le_of_ble_eq_true rfl) ?_
          exact W.iret (v := 0) hx hb hr (fun t ht hW9 => ⟨⟨0, (u_234.1, u_234.2), rfl, (by rw [kinc_1 (show kc_row n k mb mr a b c9 d9 ≠ 0 by rw [show kc_row n k mb mr a b c9 d9 = 1 from (by simp only [kc_row, kFitRow, k_5, k_10, hp_211, (Nat.not_lt.mpr n_233), decide_true, decide_false, Bool.not_true, Bool.not_false, Bool.and_true, Bool.true_and, Bool.and_false, Bool.false_and, Bool.and_self, Bool.false_eq_true, if_true, if_false, ite_true, ite_false, reduceIte] <;> decide)]; decide)]; exact ⟨_, _, hF, hW, (Eq.trans kup_self (congrArg Value.int (Eq.symm (by simp only [kc_row, kFitRow, k_5, k_10, hp_211, (Nat.not_lt.mpr n_233), decide_true, decide_false, Bool.not_true, Bool.not_false, Bool.and_true, Bool.true_and, Bool.and_false, Bool.false_and, Bool.and_self, Bool.false_eq_true, if_true, if_false, ite_true, ite_false, reduceIte] <;> decide)))), fun h9 => absurd ((show kc_row n k mb mr a b c9 d9 = 1 from (by simp only [kc_row, kFitRow, k_5, k_10, hp_211, (Nat.not_lt.mpr n_233), decide_true, decide_false, Bool.not_true, Bool.not_false, Bool.and_true, Bool.true_and, Bool.and_false, Bool.false_and, Bool.and_self, Bool.false_eq_true, if_true, if_false, ite_true, ite_false, reduceIte] <;> decide)).symm.trans h9) (by decide), fun h9 => absurd ((show kc_row n k mb mr a b c9 d9 = 1 from (by simp only [kc_row, kFitRow, k_5, k_10, hp_211, (Nat.not_lt.mpr n_233), decide_true, decide_false, Bool.not_true, Bool.not_false, Bool.and_true, Bool.true_and, Bool.and_false, Bool.false_and, Bool.and_self, Bool.false_eq_true, if_true, if_false, ite_true, ite_false, reduceIte] <;> decide)).symm.trans h9) (by decide), hI⟩), by rw [ht]; exact hP, va_K.moved hW9.alike hK, hD⟩, hS.F ht⟩) hS.2.2 dX4_row_92
        · have n_236 : ¬ 1024 ≤ mr := fun h9 => (show ¬ nI 1024 ≤ nI mr from c_232) ((nI_leI (by omega) (by omega)).mpr h9)
          refine lv_iconst (v := 1) hx hb dX4_row_80 (by decide) ?_
          refine lv_goto (tgt := 85) hx hb dX4_row_81 (by decide) ?_
          refine kd_calli (va_runV (As := [.int 0, .int 0, .int 1]) (rest := []) ⟨hx, hb, hml, hown, hts⟩ (k_goes2 l dC dI dA ad _ τ pv _ _ hI mm fa sa aa ia sf mb mr mk mr hW 0 1) (cwV 3 hts gX4_row_X4_goes rfl rfl rfl (by decide +kernel) ⟨Nat.le_of_ble_eq_true rfl, Nat.le_of_ble_eq_true rfl⟩) (kd_preV hP hD hK hS hA hE hI hW.tm rfl rfl) rfl rfl hl.1 rfl (lv_room (Nat.le_of_ble_eq_true rfl)) dX4_row_85 ⟨Nat.le_of_ble_eq_true rfl, Nat.le_of_ble_eq_true rfl⟩) hD hS hA (fun r_238 u_237 H locs hw hP hD hS => ?_)
          obtain ⟨rfl, hI⟩ := hw
          have hF := hF.trans (kFr.up (P := (kPxr mr)) (w := .int 1) (k := 0) hW.tm rfl)
          have hW := hW.frw (kFr.up (P := kPy mr) (w := .int 1) (k := 0) hW.tm rfl)
          refine lv_if_ne (tgt := 93) hx hb dX4_row_88 (by decide) (fun h9 => by first | exact absurd h9 (by decide) | exact absurd (by decide) h9) (fun _ => ?_)
          refine lv_iconst (v := 0) hx hb dX4_row_91 (by decide) ?_
          refine W.widen (k := 0) (n := 0) (Nat.le_of_ble_eq_true rfl) (Nat.le_of_ble_eq_true rfl) ?_
          exact W.iret (v := 0) hx hb hr (fun t ht hW9 => ⟨⟨0, (u_237.1, u_237.2), rfl, (by rw [kinc_1 (show kc_row n k mb mr a b c9 d9 ≠ 0 by rw [show kc_row n k mb mr a b c9 d9 = 1 from (by simp only [kc_row, kFitRow, k_5, k_10, hp_211, (Nat.not_le.mp n_236), decide_true, decide_false, Bool.not_true, Bool.not_false, Bool.and_true, Bool.true_and, Bool.and_false, Bool.false_and, Bool.and_self, Bool.false_eq_true, if_true, if_false, ite_true, ite_false, reduceIte] <;> decide)]; decide)]; exact ⟨_, _, hF, hW, (Eq.trans kup_self (congrArg Value.int (Eq.symm (by simp only [kc_row, kFitRow, k_5, k_10, hp_211, (Nat.not_le.mp n_236), decide_true, decide_false, Bool.not_true, Bool.not_false, Bool.and_true, Bool.true_and, Bool.and_false, Bool.false_and, Bool.and_self, Bool.false_eq_true, if_true, if_false, ite_true, ite_false, reduceIte] <;> decide)))), fun h9 => absurd ((show kc_row n k mb mr a b c9 d9 = 1 from (by simp only [kc_row, kFitRow, k_5, k_10, hp_211, (Nat.not_le.mp n_236), decide_true, decide_false, Bool.not_true, Bool.not_false, Bool.and_true, Bool.true_and, Bool.and_false, Bool.false_and, Bool.and_self, Bool.false_eq_true, if_true, if_false, ite_true, ite_false, reduceIte] <;> decide)).symm.trans h9) (by decide), fun h9 => absurd ((show kc_row n k mb mr a b c9 d9 = 1 from (by simp only [kc_row, kFitRow, k_5, k_10, hp_211, (Nat.not_le.mp n_236), decide_true, decide_false, Bool.not_true, Bool.not_false, Bool.and_true, Bool.true_and, Bool.and_false, Bool.false_and, Bool.and_self, Bool.false_eq_true, if_true, if_false, ite_true, ite_false, reduceIte] <;> decide)).symm.trans h9) (by decide), hI⟩), by rw [ht]; exact hP, va_K.moved hW9.alike hK, hD⟩, hS.F ht⟩) hS.2.2 dX4_row_92
  · refine lv_if_eq (tgt := 58) hx hb dX4_row_8 (by decide) (fun _ => ?_) (fun h9 => by first | exact absurd h9 (by decide) | exact absurd (by decide) h9)
    refine lv_iconst (v := 0) hx hb dX4_row_58 (by decide) ?_
    refine lv_istore (lv' := [(8, .int 0), (0, .ref mm), (1, .int n), (2, .int k), (3, .float a), (4, .float b), (5, .float c9), (6, .float d9), (7, .int ky)]) hx hb dX4_row_59 hl (by decide) rfl (fun ls hl => ?_)
    refine lv_aload_n hx hb dX4_row_61 rfl (lv_at hl 1 rfl) ?_
    refine lv_aload_n hx hb dX4_row_62 rfl (lv_at hl 1 rfl) ?_
    refine lv_iload_n hx hb dX4_row_63 rfl (lv_at hl 2 rfl) ?_
    refine lv_iload_n hx hb dX4_row_64 rfl (lv_at hl 3 rfl) ?_
    refine kd_calli (va_runV (As := [.int n, .int k]) (rest := [.ref mm]) ⟨hx, hb, hml, hown, hts⟩ (k_pair l dC dI dA ad _ τ pv _ _ hI mm fa sa aa ia sf mb mr mk mr hW n k) (cwV 2 hts gX4_row_X4_pair rfl rfl rfl (by decide +kernel) ⟨Nat.le_of_ble_eq_true rfl, Nat.le_of_ble_eq_true rfl⟩) (kd_preV hP hD hK hS hA hE hI hW.tm rfl rfl) rfl rfl hl.1 rfl (lv_room (Nat.le_of_ble_eq_true rfl)) dX4_row_65 ⟨Nat.le_of_ble_eq_true rfl, Nat.le_of_ble_eq_true rfl⟩) hD hS hA (fun r_240 u_239 H locs hw hP hD hS => ?_)
    obtain ⟨⟨rfl, hp_243, ⟨j_241, hj_241, rfl⟩, rfl | ⟨j_242, hj_242, rfl⟩⟩ | ⟨rfl, hp_243⟩, hI⟩ := hw
    · refine lv_iload hx hb dX4_row_68 (lv_at hl 0 rfl) ?_
      refine lv_aload_n hx hb dX4_row_70 rfl (lv_at hl 1 rfl) ?_
      refine kp_get hx hb hts i_X4 hown hK hP hI hW.tm rfl rfl 6 (by decide) (by decide) (hts (.fieldLink RX4 129 "IslandSolverModel" "rows" "I") (by decide +kernel)) (fun _ h9 => h9) dX4_row_71 (kq_P (v0 := .int (nI mr)) rfl hW.p6 fun h_245 => ?_)
      refine lv_sipush (v := 1024) hx hb dX4_row_74 (by decide) ?_
      refine lv_icmp_ge (tgt := 84) hx hb dX4_row_77 (by decide) (fun c_246 => ?_) (fun c_246 => ?_)
      · have n_247 : 1024 ≤ mr := (nI_leI (by omega) (by omega)).mp (show nI 1024 ≤ nI mr from c_246)
        refine lv_iconst (v := 0) hx hb dX4_row_84 (by decide) ?_
        refine kd_calli (va_runV (As := [.int 1, .int 0, .int 0]) (rest := []) ⟨hx, hb, hml, hown, hts⟩ (k_goes3 l dC dI dA ad _ τ pv _ _ hI mm fa sa aa ia sf mb mr mk mr hW 0) (cwV 3 hts gX4_row_X4_goes rfl rfl rfl (by decide +kernel) ⟨Nat.le_of_ble_eq_true rfl, Nat.le_of_ble_eq_true rfl⟩) (kd_preV hP hD hK hS hA hE hI hW.tm rfl rfl) rfl rfl hl.1 rfl (lv_room (Nat.le_of_ble_eq_true rfl)) dX4_row_85 ⟨Nat.le_of_ble_eq_true rfl, Nat.le_of_ble_eq_true rfl⟩) hD hS hA (fun r_249 u_248 H locs hw hP hD hS => ?_)
        obtain ⟨rfl, hI⟩ := hw
        have hF := hF.trans (kFr.up (P := (kPxr mr)) (w := .int 2) (k := 0) hW.tm rfl)
        have hW := hW.frw (kFr.up (P := kPy mr) (w := .int 2) (k := 0) hW.tm rfl)
        refine lv_if_ne (tgt := 93) hx hb dX4_row_88 (by decide) (fun h9 => by first | exact absurd h9 (by decide) | exact absurd (by decide) h9) (fun _ => ?_)
        refine lv_iconst (v := 0) hx hb dX4_row_91 (by decide) ?_
        refine W.widen (k := 0) (n := 0) (Nat.le_of_ble_eq_true rfl) (Nat.le_of_ble_eq_true rfl) ?_
        exact W.iret (v := 0) hx hb hr (fun t ht hW9 => ⟨⟨0, (u_248.1, u_248.2), rfl, (by rw [kinc_1 (show kc_row n k mb mr a b c9 d9 ≠ 0 by rw [show kc_row n k mb mr a b c9 d9 = 2 from (by simp only [kc_row, kFitRow, k_5, hp_243, (Nat.not_lt.mpr n_247), decide_true, decide_false, Bool.not_true, Bool.not_false, Bool.and_true, Bool.true_and, Bool.and_false, Bool.false_and, Bool.and_self, Bool.false_eq_true, if_true, if_false, ite_true, ite_false, reduceIte] <;> decide)]; decide)]; exact ⟨_, _, hF, hW, (Eq.trans kup_self (congrArg Value.int (Eq.symm (by simp only [kc_row, kFitRow, k_5, hp_243, (Nat.not_lt.mpr n_247), decide_true, decide_false, Bool.not_true, Bool.not_false, Bool.and_true, Bool.true_and, Bool.and_false, Bool.false_and, Bool.and_self, Bool.false_eq_true, if_true, if_false, ite_true, ite_false, reduceIte] <;> decide)))), fun h9 => absurd ((show kc_row n k mb mr a b c9 d9 = 2 from (by simp only [kc_row, kFitRow, k_5, hp_243, (Nat.not_lt.mpr n_247), decide_true, decide_false, Bool.not_true, Bool.not_false, Bool.and_true, Bool.true_and, Bool.and_false, Bool.false_and, Bool.and_self, Bool.false_eq_true, if_true, if_false, ite_true, ite_false, reduceIte] <;> decide)).symm.trans h9) (by decide), fun h9 => absurd ((show kc_row n k mb mr a b c9 d9 = 2 from (by simp only [kc_row, kFitRow, k_5, hp_243, (Nat.not_lt.mpr n_247), decide_true, decide_false, Bool.not_true, Bool.not_false, Bool.and_true, Bool.true_and, Bool.and_false, Bool.false_and, Bool.and_self, Bool.false_eq_true, if_true, if_false, ite_true, ite_false, reduceIte] <;> decide)).symm.trans h9) (by decide), hI⟩), by rw [ht]; exact hP, va_K.moved hW9.alike hK, hD⟩, hS.F ht⟩) hS.2.2 dX4_row_92
      · have n_250 : ¬ 1024 ≤ mr := fun h9 => (show ¬ nI 1024 ≤ nI mr from c_246) ((nI_leI (by omega) (by omega)).mpr h9)
        refine lv_iconst (v := 1) hx hb dX4_row_80 (by decide) ?_
        refine lv_goto (tgt := 85) hx hb dX4_row_81 (by decide) ?_
        refine kd_calli (va_runV (As := [.int 1, .int 0, .int 1]) (rest := []) ⟨hx, hb, hml, hown, hts⟩ (k_goes3 l dC dI dA ad _ τ pv _ _ hI mm fa sa aa ia sf mb mr mk mr hW 1) (cwV 3 hts gX4_row_X4_goes rfl rfl rfl (by decide +kernel) ⟨Nat.le_of_ble_eq_true rfl, Nat.le_of_ble_eq_true rfl⟩) (kd_preV hP hD hK hS hA hE hI hW.tm rfl rfl) rfl rfl hl.1 rfl (lv_room (Nat.le_of_ble_eq_true rfl)) dX4_row_85 ⟨Nat.le_of_ble_eq_true rfl, Nat.le_of_ble_eq_true rfl⟩) hD hS hA (fun r_252 u_251 H locs hw hP hD hS => ?_)
        obtain ⟨rfl, hI⟩ := hw
        have hF := hF.trans (kFr.up (P := (kPxr mr)) (w := .int 2) (k := 0) hW.tm rfl)
        have hW := hW.frw (kFr.up (P := kPy mr) (w := .int 2) (k := 0) hW.tm rfl)
        refine lv_if_ne (tgt := 93) hx hb dX4_row_88 (by decide) (fun h9 => by first | exact absurd h9 (by decide) | exact absurd (by decide) h9) (fun _ => ?_)
        refine lv_iconst (v := 0) hx hb dX4_row_91 (by decide) ?_
        refine W.widen (k := 0) (n := 0) (Nat.le_of_ble_eq_true rfl) (Nat.le_of_ble_eq_true rfl) ?_
        exact W.iret (v := 0) hx hb hr (fun t ht hW9 => ⟨⟨0, (u_251.1, u_251.2), rfl, (by rw [kinc_1 (show kc_row n k mb mr a b c9 d9 ≠ 0 by rw [show kc_row n k mb mr a b c9 d9 = 2 from (by simp only [kc_row, kFitRow, k_5, hp_243, (Nat.not_le.mp n_250), decide_true, decide_false, Bool.not_true, Bool.not_false, Bool.and_true, Bool.true_and, Bool.and_false, Bool.false_and, Bool.and_self, Bool.false_eq_true, if_true, if_false, ite_true, ite_false, reduceIte] <;> decide)]; decide)]; exact ⟨_, _, hF, hW, (Eq.trans kup_self (congrArg Value.int (Eq.symm (by simp only [kc_row, kFitRow, k_5, hp_243, (Nat.not_le.mp n_250), decide_true, decide_false, Bool.not_true, Bool.not_false, Bool.and_true, Bool.true_and, Bool.and_false, Bool.false_and, Bool.and_self, Bool.false_eq_true, if_true, if_false, ite_true, ite_false, reduceIte] <;> decide)))), fun h9 => absurd ((show kc_row n k mb mr a b c9 d9 = 2 from (by simp only [kc_row, kFitRow, k_5, hp_243, (Nat.not_le.mp n_250), decide_true, decide_false, Bool.not_true, Bool.not_false, Bool.and_true, Bool.true_and, Bool.and_false, Bool.false_and, Bool.and_self, Bool.false_eq_true, if_true, if_false, ite_true, ite_false, reduceIte] <;> decide)).symm.trans h9) (by decide), fun h9 => absurd ((show kc_row n k mb mr a b c9 d9 = 2 from (by simp only [kc_row, kFitRow, k_5, hp_243, (Nat.not_le.mp n_250), decide_true, decide_false, Bool.not_true, Bool.not_false, Bool.and_true, Bool.true_and, Bool.and_false, Bool.false_and, Bool.and_self, Bool.false_eq_true, if_true, if_false, ite_true, ite_false, reduceIte] <;> decide)).symm.trans h9) (by decide), hI⟩), by rw [ht]; exact hP, va_K.moved hW9.alike hK, hD⟩, hS.F ht⟩) hS.2.2 dX4_row_92
    · refine lv_iload hx hb dX4_row_68 (lv_at hl 0 rfl) ?_
      refine lv_aload_n hx hb dX4_row_70 rfl (lv_at hl 1 rfl) ?_
      refine kp_get hx hb hts i_X4 hown hK hP hI hW.tm rfl rfl 6 (by decide) (by decide) (hts (.fieldLink RX4 129 "IslandSolverModel" "rows" "I") (by decide +kernel)) (fun _ h9 => h9) dX4_row_71 (kq_P (v0 := .int (nI mr)) rfl hW.p6 fun h_254 => ?_)
      refine lv_sipush (v := 1024) hx hb dX4_row_74 (by decide) ?_
      refine lv_icmp_ge (tgt := 84) hx hb dX4_row_77 (by decide) (fun c_255 => ?_) (fun c_255 => ?_)
      · have n_256 : 1024 ≤ mr := (nI_leI (by omega) (by omega)).mp (show nI 1024 ≤ nI mr from c_255)
        refine lv_iconst (v := 0) hx hb dX4_row_84 (by decide) ?_
        refine kd_calli (va_runV (As := [.int 1, .int 0, .int 0]) (rest := []) ⟨hx, hb, hml, hown, hts⟩ (k_goes3 l dC dI dA ad _ τ pv _ _ hI mm fa sa aa ia sf mb mr mk mr hW 0) (cwV 3 hts gX4_row_X4_goes rfl rfl rfl (by decide +kernel) ⟨Nat.le_of_ble_eq_true rfl, Nat.le_of_ble_eq_true rfl⟩) (kd_preV hP hD hK hS hA hE hI hW.tm rfl rfl) rfl rfl hl.1 rfl (lv_room (Nat.le_of_ble_eq_true rfl)) dX4_row_85 ⟨Nat.le_of_ble_eq_true rfl, Nat.le_of_ble_eq_true rfl⟩) hD hS hA (fun r_258 u_257 H locs hw hP hD hS => ?_)
        obtain ⟨rfl, hI⟩ := hw
        have hF := hF.trans (kFr.up (P := (kPxr mr)) (w := .int 2) (k := 0) hW.tm rfl)
        have hW := hW.frw (kFr.up (P := kPy mr) (w := .int 2) (k := 0) hW.tm rfl)
        refine lv_if_ne (tgt := 93) hx hb dX4_row_88 (by decide) (fun h9 => by first | exact absurd h9 (by decide) | exact absurd (by decide) h9) (fun _ => ?_)
        refine lv_iconst (v := 0) hx hb dX4_row_91 (by decide) ?_
        refine W.widen (k := 0) (n := 0) (Nat.le_of_ble_eq_true rfl) (Nat.le_of_ble_eq_true rfl) ?_
        exact W.iret (v := 0) hx hb hr (fun t ht hW9 => ⟨⟨0, (u_257.1, u_257.2), rfl, (by rw [kinc_1 (show kc_row n k mb mr a b c9 d9 ≠ 0 by rw [show kc_row n k mb mr a b c9 d9 = 2 from (by simp only [kc_row, kFitRow, k_5, hp_243, (Nat.not_lt.mpr n_256), decide_true, decide_false, Bool.not_true, Bool.not_false, Bool.and_true, Bool.true_and, Bool.and_false, Bool.false_and, Bool.and_self, Bool.false_eq_true, if_true, if_false, ite_true, ite_false, reduceIte] <;> decide)]; decide)]; exact ⟨_, _, hF, hW, (Eq.trans kup_self (congrArg Value.int (Eq.symm (by simp only [kc_row, kFitRow, k_5, hp_243, (Nat.not_lt.mpr n_256), decide_true, decide_false, Bool.not_true, Bool.not_false, Bool.and_true, Bool.true_and, Bool.and_false, Bool.false_and, Bool.and_self, Bool.false_eq_true, if_true, if_false, ite_true, ite_false, reduceIte] <;> decide)))), fun h9 => absurd ((show kc_row n k mb mr a b c9 d9 = 2 from (by simp only [kc_row, kFitRow, k_5, hp_243, (Nat.not_lt.mpr n_256), decide_true, decide_false, Bool.not_true, Bool.not_false, Bool.and_true, Bool.true_and, Bool.and_false, Bool.false_and, Bool.and_self, Bool.false_eq_true, if_true, if_false, ite_true, ite_false, reduceIte] <;> decide)).symm.trans h9) (by decide), fun h9 => absurd ((show kc_row n k mb mr a b c9 d9 = 2 from (by simp only [kc_row, kFitRow, k_5, hp_243, (Nat.not_lt.mpr n_256), decide_true, decide_false, Bool.not_true, Bool.not_false, Bool.and_true, Bool.true_and, Bool.and_false, Bool.false_and, Bool.and_self, Bool.false_eq_true, if_true, if_false, ite_true, ite_false, reduceIte] <;> decide)).symm.trans h9) (by decide), hI⟩), by rw [ht]; exact hP, va_K.moved hW9.alike hK, hD⟩, hS.F ht⟩) hS.2.2 dX4_row_92
      · have n_259 : ¬ 1024 ≤ mr := fun h9 => (show ¬ nI 1024 ≤ nI mr from c_255) ((nI_leI (by omega) (by omega)).mpr h9)
        refine lv_iconst (v := 1) hx hb dX4_row_80 (by decide) ?_
        refine lv_goto (tgt := 85) hx hb dX4_row_81 (by decide) ?_
        refine kd_calli (va_runV (As := [.int 1, .int 0, .int 1]) (rest := []) ⟨hx, hb, hml, hown, hts⟩ (k_goes3 l dC dI dA ad _ τ pv _ _ hI mm fa sa aa ia sf mb mr mk mr hW 1) (cwV 3 hts gX4_row_X4_goes rfl rfl rfl (by decide +kernel) ⟨Nat.le_of_ble_eq_true rfl, Nat.le_of_ble_eq_true rfl⟩) (kd_preV hP hD hK hS hA hE hI hW.tm rfl rfl) rfl rfl hl.1 rfl (lv_room (Nat.le_of_ble_eq_true rfl)) dX4_row_85 ⟨Nat.le_of_ble_eq_true rfl, Nat.le_of_ble_eq_true rfl⟩) hD hS hA (fun r_261 u_260 H locs hw hP hD hS => ?_)
        obtain ⟨rfl, hI⟩ := hw
        have hF := hF.trans (kFr.up (P := (kPxr mr)) (w := .int 2) (k := 0) hW.tm rfl)
        have hW := hW.frw (kFr.up (P := kPy mr) (w := .int 2) (k := 0) hW.tm rfl)
        refine lv_if_ne (tgt := 93) hx hb dX4_row_88 (by decide) (fun h9 => by first | exact absurd h9 (by decide) | exact absurd (by decide) h9) (fun _ => ?_)
        refine lv_iconst (v := 0) hx hb dX4_row_91 (by decide) ?_
        refine W.widen (k := 0) (n := 0) (Nat.le_of_ble_eq_true rfl) (Nat.le_of_ble_eq_true rfl) ?_
        exact W.iret (v := 0) hx hb hr (fun t ht hW9 => ⟨⟨0, (u_260.1, u_260.2), rfl, (by rw [kinc_1 (show kc_row n k mb mr a b c9 d9 ≠ 0 by rw [show kc_row n k mb mr a b c9 d9 = 2 from (by simp only [kc_row, kFitRow, k_5, hp_243, (Nat.not_le.mp n_259), decide_true, decide_false, Bool.not_true, Bool.not_false, Bool.and_true, Bool.true_and, Bool.and_false, Bool.false_and, Bool.and_self, Bool.false_eq_true, if_true, if_false, ite_true, ite_false, reduceIte] <;> decide)]; decide)]; exact ⟨_, _, hF, hW, (Eq.trans kup_self (congrArg Value.int (Eq.symm (by simp only [kc_row, kFitRow, k_5, hp_243, (Nat.not_le.mp n_259), decide_true, decide_false, Bool.not_true, Bool.not_false, Bool.and_true, Bool.true_and, Bool.and_false, Bool.false_and, Bool.and_self, Bool.false_eq_true, if_true, if_false, ite_true, ite_false, reduceIte] <;> decide)))), fun h9 => absurd ((show kc_row n k mb mr a b c9 d9 = 2 from (by simp only [kc_row, kFitRow, k_5, hp_243, (Nat.not_le.mp n_259), decide_true, decide_false, Bool.not_true, Bool.not_false, Bool.and_true, Bool.true_and, Bool.and_false, Bool.false_and, Bool.and_self, Bool.false_eq_true, if_true, if_false, ite_true, ite_false, reduceIte] <;> decide)).symm.trans h9) (by decide), fun h9 => absurd ((show kc_row n k mb mr a b c9 d9 = 2 from (by simp only [kc_row, kFitRow, k_5, hp_243, (Nat.not_le.mp n_259), decide_true, decide_false, Bool.not_true, Bool.not_false, Bool.and_true, Bool.true_and, Bool.and_false, Bool.false_and, Bool.and_self, Bool.false_eq_true, if_true, if_false, ite_true, ite_false, reduceIte] <;> decide)).symm.trans h9) (by decide), hI⟩), by rw [ht]; exact hP, va_K.moved hW9.alike hK, hD⟩, hS.F ht⟩) hS.2.2 dX4_row_92
    · refine lv_iload hx hb dX4_row_68 (lv_at hl 0 rfl) ?_
      refine lv_aload_n hx hb dX4_row_70 rfl (lv_at hl 1 rfl) ?_
      refine kp_get hx hb hts i_X4 hown hK hP hI hW.tm rfl rfl 6 (by decide) (by decide) (hts (.fieldLink RX4 129 "IslandSolverModel" "rows" "I") (by decide +kernel)) (fun _ h9 => h9) dX4_row_71 (kq_P (v0 := .int (nI mr)) rfl hW.p6 fun h_263 => ?_)
      refine lv_sipush (v := 1024) hx hb dX4_row_74 (by decide) ?_
      refine lv_icmp_ge (tgt := 84) hx hb dX4_row_77 (by decide) (fun c_264 => ?_) (fun c_264 => ?_)
      · have n_265 : 1024 ≤ mr := (nI_leI (by omega) (by omega)).mp (show nI 1024 ≤ nI mr from c_264)
        refine lv_iconst (v := 0) hx hb dX4_row_84 (by decide) ?_
        refine kd_calli (va_runV (As := [.int 0, .int 0, .int 0]) (rest := []) ⟨hx, hb, hml, hown, hts⟩ (k_goes2 l dC dI dA ad _ τ pv _ _ hI mm fa sa aa ia sf mb mr mk mr hW 0 0) (cwV 3 hts gX4_row_X4_goes rfl rfl rfl (by decide +kernel) ⟨Nat.le_of_ble_eq_true rfl, Nat.le_of_ble_eq_true rfl⟩) (kd_preV hP hD hK hS hA hE hI hW.tm rfl rfl) rfl rfl hl.1 rfl (lv_room (Nat.le_of_ble_eq_true rfl)) dX4_row_85 ⟨Nat.le_of_ble_eq_true rfl, Nat.le_of_ble_eq_true rfl⟩) hD hS hA (fun r_267 u_266 H locs hw hP hD hS => ?_)
        obtain ⟨rfl, hI⟩ := hw
        have hF := hF.trans (kFr.up (P := (kPxr mr)) (w := .int 1) (k := 0) hW.tm rfl)
        have hW := hW.frw (kFr.up (P := kPy mr) (w := .int 1) (k := 0) hW.tm rfl)
        refine lv_if_ne (tgt := 93) hx hb dX4_row_88 (by decide) (fun h9 => by first | exact absurd h9 (by decide) | exact absurd (by decide) h9) (fun _ => ?_)
        refine lv_iconst (v := 0) hx hb dX4_row_91 (by decide) ?_
        refine W.widen (k := 0) (n := 0) (Nat.le_of_ble_eq_true rfl) (Nat.le_of_ble_eq_true rfl) ?_
        exact W.iret (v := 0) hx hb hr (fun t ht hW9 => ⟨⟨0, (u_266.1, u_266.2), rfl, (by rw [kinc_1 (show kc_row n k mb mr a b c9 d9 ≠ 0 by rw [show kc_row n k mb mr a b c9 d9 = 1 from (by simp only [kc_row, kFitRow, k_5, hp_243, (Nat.not_lt.mpr n_265), decide_true, decide_false, Bool.not_true, Bool.not_false, Bool.and_true, Bool.true_and, Bool.and_false, Bool.false_and, Bool.and_self, Bool.false_eq_true, if_true, if_false, ite_true, ite_false, reduceIte] <;> decide)]; decide)]; exact ⟨_, _, hF, hW, (Eq.trans kup_self (congrArg Value.int (Eq.symm (by simp only [kc_row, kFitRow, k_5, hp_243, (Nat.not_lt.mpr n_265), decide_true, decide_false, Bool.not_true, Bool.not_false, Bool.and_true, Bool.true_and, Bool.and_false, Bool.false_and, Bool.and_self, Bool.false_eq_true, if_true, if_false, ite_true, ite_false, reduceIte] <;> decide)))), fun h9 => absurd ((show kc_row n k mb mr a b c9 d9 = 1 from (by simp only [kc_row, kFitRow, k_5, hp_243, (Nat.not_lt.mpr n_265), decide_true, decide_false, Bool.not_true, Bool.not_false, Bool.and_true, Bool.true_and, Bool.and_false, Bool.false_and, Bool.and_self, Bool.false_eq_true, if_true, if_false, ite_true, ite_false, reduceIte] <;> decide)).symm.trans h9) (by decide), fun h9 => absurd ((show kc_row n k mb mr a b c9 d9 = 1 from (by simp only [kc_row, kFitRow, k_5, hp_243, (Nat.not_lt.mpr n_265), decide_true, decide_false, Bool.not_true, Bool.not_false, Bool.and_true, Bool.true_and, Bool.and_false, Bool.false_and, Bool.and_self, Bool.false_eq_true, if_true, if_false, ite_true, ite_false, reduceIte] <;> decide)).symm.trans h9) (by decide), hI⟩), by rw [ht]; exact hP, va_K.moved hW9.alike hK, hD⟩, hS.F ht⟩) hS.2.2 dX4_row_92
      · have n_268 : ¬ 1024 ≤ mr := fun h9 => (show ¬ nI 1024 ≤ nI mr from c_264) ((nI_leI (by omega) (by omega)).mpr h9)
        refine lv_iconst (v := 1) hx hb dX4_row_80 (by decide) ?_
        refine lv_goto (tgt := 85) hx hb dX4_row_81 (by decide) ?_
        refine kd_calli (va_runV (As := [.int 0, .int 0, .int 1]) (rest := []) ⟨hx, hb, hml, hown, hts⟩ (k_goes2 l dC dI dA ad _ τ pv _ _ hI mm fa sa aa ia sf mb mr mk mr hW 0 1) (cwV 3 hts gX4_row_X4_goes rfl rfl rfl (by decide +kernel) ⟨Nat.le_of_ble_eq_true rfl, Nat.le_of_ble_eq_true rfl⟩) (kd_preV hP hD hK hS hA hE hI hW.tm rfl rfl) rfl rfl hl.1 rfl (lv_room (Nat.le_of_ble_eq_true rfl)) dX4_row_85 ⟨Nat.le_of_ble_eq_true rfl, Nat.le_of_ble_eq_true rfl⟩) hD hS hA (fun r_270 u_269 H locs hw hP hD hS => ?_)
        obtain ⟨rfl, hI⟩ := hw
        have hF := hF.trans (kFr.up (P := (kPxr mr)) (w := .int 1) (k := 0) hW.tm rfl)
        have hW := hW.frw (kFr.up (P := kPy mr) (w := .int 1) (k := 0) hW.tm rfl)
        refine lv_if_ne (tgt := 93) hx hb dX4_row_88 (by decide) (fun h9 => by first | exact absurd h9 (by decide) | exact absurd (by decide) h9) (fun _ => ?_)
        refine lv_iconst (v := 0) hx hb dX4_row_91 (by decide) ?_
        refine W.widen (k := 0) (n := 0) (Nat.le_of_ble_eq_true rfl) (Nat.le_of_ble_eq_true rfl) ?_
        exact W.iret (v := 0) hx hb hr (fun t ht hW9 => ⟨⟨0, (u_269.1, u_269.2), rfl, (by rw [kinc_1 (show kc_row n k mb mr a b c9 d9 ≠ 0 by rw [show kc_row n k mb mr a b c9 d9 = 1 from (by simp only [kc_row, kFitRow, k_5, hp_243, (Nat.not_le.mp n_268), decide_true, decide_false, Bool.not_true, Bool.not_false, Bool.and_true, Bool.true_and, Bool.and_false, Bool.false_and, Bool.and_self, Bool.false_eq_true, if_true, if_false, ite_true, ite_false, reduceIte] <;> decide)]; decide)]; exact ⟨_, _, hF, hW, (Eq.trans kup_self (congrArg Value.int (Eq.symm (by simp only [kc_row, kFitRow, k_5, hp_243, (Nat.not_le.mp n_268), decide_true, decide_false, Bool.not_true, Bool.not_false, Bool.and_true, Bool.true_and, Bool.and_false, Bool.false_and, Bool.and_self, Bool.false_eq_true, if_true, if_false, ite_true, ite_false, reduceIte] <;> decide)))), fun h9 => absurd ((show kc_row n k mb mr a b c9 d9 = 1 from (by simp only [kc_row, kFitRow, k_5, hp_243, (Nat.not_le.mp n_268), decide_true, decide_false, Bool.not_true, Bool.not_false, Bool.and_true, Bool.true_and, Bool.and_false, Bool.false_and, Bool.and_self, Bool.false_eq_true, if_true, if_false, ite_true, ite_false, reduceIte] <;> decide)).symm.trans h9) (by decide), fun h9 => absurd ((show kc_row n k mb mr a b c9 d9 = 1 from (by simp only [kc_row, kFitRow, k_5, hp_243, (Nat.not_le.mp n_268), decide_true, decide_false, Bool.not_true, Bool.not_false, Bool.and_true, Bool.true_and, Bool.and_false, Bool.false_and, Bool.and_self, Bool.false_eq_true, if_true, if_false, ite_true, ite_false, reduceIte] <;> decide)).symm.trans h9) (by decide), hI⟩), by rw [ht]; exact hP, va_K.moved hW9.alike hK, hD⟩, hS.F ht⟩) hS.2.2 dX4_row_92
