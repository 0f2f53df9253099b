set_option maxHeartbeats 4000000 in
set_option maxRecDepth 100000 in
theorem m_p_body (l : Launch) (dC : Nat → ClassId) (dI : Nat → Nat → Nat) (dA : Nat → ClassId) (ad sz : Nat) (τ : Nat → Nat → Nat) (pv : Nat → Nat → Value) (L : List Nat) (f : Nat → va_E) (hI : kI dA τ pv L f) (mm fa sa aa ia sf mb mr mk : Nat) (hW : kMd τ pv mm fa sa aa ia sf mb mr mk mr) (a : UInt32) (b : UInt32) (c9 : UInt32) (d9 : UInt32) : Met l yX4_body wsX4_body ({ frames := 1, cells := 0, slots := 0, locals := 23 } : Room) (va_Pc [.ref mm, .float a, .float b, .float c9, .float d9] (kB dC dI dA ad sz L f)) (va_Qi (fun r u => kPostR dA τ pv mm fa sa aa ia sf (kinc (kc_body2 mb a b c9 d9) mb) (kc_body2 mb a b c9 d9) r (nI mb) u) (kR dC dI dA (va_A (va_pl L f) sz)) (va_A (va_pl L f) sz)) 0 0 (va_A (va_pl L f) sz) := by
  refine Met.ofW (cc := cX4_body) (maxL := 8) (ret := (some .int)) (by decide) rfl ?_
  intro p e s m args below meth c s₁ B hml hv
  obtain ⟨rfl, hsz, hP, hK, hD0, hE⟩ := hv
  have hx := B.exec
  have hb := B.bytes
  have hr := B.returns
  have hts := atoms_spec (ws := wsX4_body) B.pre
  have hown : s.vm.findClass RX4 = some m.cls := findClass_of_methodNamed B.named
  have hlocks := B.notSynchronized
  have i_X4 : ∀ w ∈ u_ws RX4 TX4 35, w ∈ wsX4_body := by decide +kernel
  subst hsz
  have hD := hD0.self (sz := s.heap.size)
  generalize hAe : va_A (va_pl L f) s.heap.size = A at hD hE ⊢
  have hA : ∀ q : Nat, s.heap.size ≤ q → A q := fun q h => by rw [← hAe]; exact Or.inr h
  have hS : va_S A s.heap s.heap [] := va_S.rf
  have hP : va_P (dC, dI) vwCl (va_pl L f) s.heap := hP
  have hK : va_K (dC, dI) vwCl (tyA dA) s := hK
  have hl := lv_entry ([.ref mm, .float a, .float b, .float c9, .float d9]) (n := 8) (Nat.le_of_ble_eq_true rfl)
  rw [lg_entry_eq]
  generalize (lg_sl ([.ref mm, .float a, .float b, .float c9, .float d9]) ++ List.replicate (8 - (lg_sl ([.ref mm, .float a, .float b, .float c9, .float d9])).length) Slot.unset).toArray = ls at hl ⊢
  have hl : lv_has ls 8 [(0, .ref mm), (1, .float a), (2, .float b), (3, .float c9), (4, .float d9)] := hl
  have hnb := hW.lb
  have hnr := hW.lr
  have hnk := hW.lk
  have hni := hW.li
  have hF : kFr kPx τ pv τ pv := kFr.rf
  refine lv_fload_n hx hb dX4_body_0 rfl (lv_at hl 1 rfl) ?_
  refine lv_fconst0 hx hb dX4_body_1 ?_
  refine lv_ldcf (v := 1098907648) hx hb hown (hts (.constantFloat RX4 96 (1098907648)) (by decide +kernel)) dX4_body_2 ?_
  have hc_1 : fb 1098907648 1098907648 := by unfold fb; decide +kernel
  refine kd_calli (va_runS (As := [.float a, .float FP.fconst0, .float 1098907648]) (rest := []) ⟨hx, hb, hml, hown, hts⟩ (k_within l dC dI dA ad _ τ pv _ _ hI a FP.fconst0 1098907648) (va_cwS 3 hts gX4_body_X4_within rfl rfl rfl (by decide +kernel) ⟨Nat.le_of_ble_eq_true rfl, Nat.le_of_ble_eq_true rfl⟩) (kd_preS hP hD hK hS hA hE) rfl rfl hl.1 rfl (lv_room (Nat.le_of_ble_eq_true rfl)) dX4_body_4 ⟨Nat.le_of_ble_eq_true rfl, Nat.le_of_ble_eq_true rfl⟩) hD hS hA (fun r_3 u_2 H locs hw hP hD hS => ?_)
  obtain ⟨⟨k_4, rfl⟩ | ⟨k_4, rfl⟩, hI⟩ := hw
  · have fb_5 : fb 1098907648 a := fb_within (fb_le kc_0 (by decide)) hc_1 (by decide) k_4
    refine lv_if_eq (tgt := 45) hx hb dX4_body_7 (by decide) (fun h9 => by first | exact absurd h9 (by decide) | exact absurd (by decide) h9) (fun _ => ?_)
    refine lv_fload_n hx hb dX4_body_10 rfl (lv_at hl 2 rfl) ?_
    refine lv_fconst0 hx hb dX4_body_11 ?_
    refine lv_ldcf (v := 1098907648) hx hb hown (hts (.constantFloat RX4 96 (1098907648)) (by decide +kernel)) dX4_body_12 ?_
    have hc_6 : fb 1098907648 1098907648 := by unfold fb; decide +kernel
    refine kd_calli (va_runS (As := [.float b, .float FP.fconst0, .float 1098907648]) (rest := []) ⟨hx, hb, hml, hown, hts⟩ (k_within l dC dI dA ad _ τ pv _ _ hI b FP.fconst0 1098907648) (va_cwS 3 hts gX4_body_X4_within rfl rfl rfl (by decide +kernel) ⟨Nat.le_of_ble_eq_true rfl, Nat.le_of_ble_eq_true rfl⟩) (kd_preS hP hD hK hS hA hE) rfl rfl hl.1 rfl (lv_room (Nat.le_of_ble_eq_true rfl)) dX4_body_14 ⟨Nat.le_of_ble_eq_true rfl, Nat.le_of_ble_eq_true rfl⟩) hD hS hA (fun r_8 u_7 H locs hw hP hD hS => ?_)
    obtain ⟨⟨k_9, rfl⟩ | ⟨k_9, rfl⟩, hI⟩ := hw
    · have fb_10 : fb 1098907648 b := fb_within (fb_le kc_0 (by decide)) hc_6 (by decide) k_9
      refine lv_if_eq (tgt := 45) hx hb dX4_body_17 (by decide) (fun h9 => by first | exact absurd h9 (by decide) | exact absurd (by decide) h9) (fun _ => ?_)
      refine lv_fload_n hx hb dX4_body_20 rfl (lv_at hl 3 rfl) ?_
      refine lv_fconst0 hx hb dX4_body_21 ?_
      refine lv_ldcf (v := 1098907648) hx hb hown (hts (.constantFloat RX4 96 (1098907648)) (by decide +kernel)) dX4_body_22 ?_
      have hc_11 : fb 1098907648 1098907648 := by unfold fb; decide +kernel
      refine kd_calli (va_runS (As := [.float c9, .float FP.fconst0, .float 1098907648]) (rest := []) ⟨hx, hb, hml, hown, hts⟩ (k_within l dC dI dA ad _ τ pv _ _ hI c9 FP.fconst0 1098907648) (va_cwS 3 hts gX4_body_X4_within rfl rfl rfl (by decide +kernel) ⟨Nat.le_of_ble_eq_true rfl, Nat.le_of_ble_eq_true rfl⟩) (kd_preS hP hD hK hS hA hE) rfl rfl hl.1 rfl (lv_room (Nat.le_of_ble_eq_true rfl)) dX4_body_24 ⟨Nat.le_of_ble_eq_true rfl, Nat.le_of_ble_eq_true rfl⟩) hD hS hA (fun r_13 u_12 H locs hw hP hD hS => ?_)
      obtain ⟨⟨k_14, rfl⟩ | ⟨k_14, rfl⟩, hI⟩ := hw
      · have fb_15 : fb 1098907648 c9 := fb_within (fb_le kc_0 (by decide)) hc_11 (by decide) k_14
        refine lv_if_eq (tgt := 45) hx hb dX4_body_27 (by decide) (fun h9 => by first | exact absurd h9 (by decide) | exact absurd (by decide) h9) (fun _ => ?_)
        refine lv_fload hx hb dX4_body_30 (lv_at hl 4 rfl) ?_
        refine lv_fconst0 hx hb dX4_body_32 ?_
        refine lv_ldcf (v := 1098907648) hx hb hown (hts (.constantFloat RX4 96 (1098907648)) (by decide +kernel)) dX4_body_33 ?_
        have hc_16 : fb 1098907648 1098907648 := by unfold fb; decide +kernel
        refine kd_calli (va_runS (As := [.float d9, .float FP.fconst0, .float 1098907648]) (rest := []) ⟨hx, hb, hml, hown, hts⟩ (k_within l dC dI dA ad _ τ pv _ _ hI d9 FP.fconst0 1098907648) (va_cwS 3 hts gX4_body_X4_within rfl rfl rfl (by decide +kernel) ⟨Nat.le_of_ble_eq_true rfl, Nat.le_of_ble_eq_true rfl⟩) (kd_preS hP hD hK hS hA hE) rfl rfl hl.1 rfl (lv_room (Nat.le_of_ble_eq_true rfl)) dX4_body_35 ⟨Nat.le_of_ble_eq_true rfl, Nat.le_of_ble_eq_true rfl⟩) hD hS hA (fun r_18 u_17 H locs hw hP hD hS => ?_)
        obtain ⟨⟨k_19, rfl⟩ | ⟨k_19, rfl⟩, hI⟩ := hw
        · have fb_20 : fb 1098907648 d9 := fb_within (fb_le kc_0 (by decide)) hc_16 (by decide) k_19
          refine lv_if_eq (tgt := 45) hx hb dX4_body_38 (by decide) (fun h9 => by first | exact absurd h9 (by decide) | exact absurd (by decide) h9) (fun _ => ?_)
          refine lv_iconst (v := 1) hx hb dX4_body_41 (by decide) ?_
          refine lv_goto (tgt := 46) hx hb dX4_body_42 (by decide) ?_
          refine lv_istore (lv' := [(5, .int 1), (0, .ref mm), (1, .float a), (2, .float b), (3, .float c9), (4, .float d9)]) hx hb dX4_body_46 hl (by decide) rfl (fun ls hl => ?_)
          refine lv_aload_n hx hb dX4_body_48 rfl (lv_at hl 1 rfl) ?_
          refine lv_iload hx hb dX4_body_49 (lv_at hl 0 rfl) ?_
          refine lv_aload_n hx hb dX4_body_51 rfl (lv_at hl 1 rfl) ?_
          refine kp_get hx hb hts i_X4 hown hK hP hI hW.tm rfl rfl 1 (by decide) (by decide) (hts (.fieldLink RX4 93 "IslandSolverModel" "bodies" "I") (by decide +kernel)) (fun _ h9 => h9) dX4_body_52 (kq_P (v0 := .int (nI mb)) rfl hW.p1 fun h_22 => ?_)
          refine lv_sipush (v := 256) hx hb dX4_body_55 (by decide) ?_
          refine lv_icmp_ge (tgt := 65) hx hb dX4_body_58 (by decide) (fun c_23 => ?_) (fun c_23 => ?_)
          · have n_24 : 256 ≤ mb := (nI_leI (by omega) (by omega)).mp (show nI 256 ≤ nI mb from c_23)
            refine lv_iconst (v := 0) hx hb dX4_body_65 (by decide) ?_
            refine lv_iconst (v := 1) hx hb dX4_body_66 (by decide) ?_
            refine kd_calli (va_runV (As := [.int 1, .int 0, .int 1]) (rest := []) ⟨hx, hb, hml, hown, hts⟩ (k_goes3 l dC dI dA ad _ τ pv _ _ hI mm fa sa aa ia sf mb mr mk mr hW 1) (cwV 3 hts gX4_body_X4_goes rfl rfl rfl (by decide +kernel) ⟨Nat.le_of_ble_eq_true rfl, Nat.le_of_ble_eq_true rfl⟩) (kd_preV hP hD hK hS hA hE hI hW.tm rfl rfl) rfl rfl hl.1 rfl (lv_room (Nat.le_of_ble_eq_true rfl)) dX4_body_67 ⟨Nat.le_of_ble_eq_true rfl, Nat.le_of_ble_eq_true rfl⟩) hD hS hA (fun r_26 u_25 H locs hw hP hD hS => ?_)
            obtain ⟨rfl, hI⟩ := hw
            have hF := hF.trans (kFr.up (P := kPx) (w := .int 2) (k := 0) hW.tm rfl)
            have hW := hW.frw (kFr.up (P := kPy mr) (w := .int 2) (k := 0) hW.tm rfl)
            refine lv_if_ne (tgt := 75) hx hb dX4_body_70 (by decide) (fun h9 => by first | exact absurd h9 (by decide) | exact absurd (by decide) h9) (fun _ => ?_)
            refine lv_iconst (v := 0) hx hb dX4_body_73 (by decide) ?_
            refine W.widen (k := 0) (n := 0) (Nat.le_of_ble_eq_true rfl) (Nat.le_of_ble_eq_true rfl) ?_
            exact W.iret (v := 0) hx hb hr (fun t ht hW9 => ⟨⟨0, (u_25.1, u_25.2), rfl, (by rw [kinc_1 (show kc_body2 mb a b c9 d9 ≠ 0 by rw [show kc_body2 mb a b c9 d9 = 2 from (by simp only [kc_body2, k_4, k_9, k_14, k_19, (Nat.not_lt.mpr n_24), decide_true, decide_false, Bool.not_true, Bool.not_false, Bool.and_true, Bool.true_and, Bool.and_false, Bool.false_and, Bool.and_self, Bool.false_eq_true, if_true, if_false, ite_true, ite_false, reduceIte] <;> decide)]; decide)]; exact ⟨_, _, _, hF, hW, (Eq.trans kup_self (congrArg Value.int (Eq.symm (by simp only [kc_body2, k_4, k_9, k_14, k_19, (Nat.not_lt.mpr n_24), decide_true, decide_false, Bool.not_true, Bool.not_false, Bool.and_true, Bool.true_and, Bool.and_false, Bool.false_and, Bool.and_self, Bool.false_eq_true, if_true, if_false, ite_true, ite_false, reduceIte] <;> decide)))), fun h9 => absurd ((show kc_body2 mb a b c9 d9 = 2 from (by simp only [kc_body2, k_4, k_9, k_14, k_19, (Nat.not_lt.mpr n_24), decide_true, decide_false, Bool.not_true, Bool.not_false, Bool.and_true, Bool.true_and, Bool.and_false, Bool.false_and, Bool.and_self, Bool.false_eq_true, if_true, if_false, ite_true, ite_false, reduceIte] <;> decide)).symm.trans h9) (by decide), hI⟩), by rw [ht]; exact hP, va_K.moved hW9.alike hK, hD⟩, hS.F ht⟩) hS.2.2 dX4_body_74
          · have n_27 : ¬ 256 ≤ mb := fun h9 => (show ¬ nI 256 ≤ nI mb from c_23) ((nI_leI (by omega) (by omega)).mpr h9)
            refine lv_iconst (v := 1) hx hb dX4_body_61 (by decide) ?_
            refine lv_goto (tgt := 66) hx hb dX4_body_62 (by decide) ?_
            refine lv_iconst (v := 1) hx hb dX4_body_66 (by decide) ?_
            refine kd_calli (va_runV (As := [.int 1, .int 1, .int 1]) (rest := []) ⟨hx, hb, hml, hown, hts⟩ (k_goes1 l dC dI dA ad _ τ pv _ _ hI mm fa sa aa ia sf mb mr mk mr hW ) (cwV 3 hts gX4_body_X4_goes rfl rfl rfl (by decide +kernel) ⟨Nat.le_of_ble_eq_true rfl, Nat.le_of_ble_eq_true rfl⟩) (kd_preV hP hD hK hS hA hE hI hW.tm rfl rfl) rfl rfl hl.1 rfl (lv_room (Nat.le_of_ble_eq_true rfl)) dX4_body_67 ⟨Nat.le_of_ble_eq_true rfl, Nat.le_of_ble_eq_true rfl⟩) hD hS hA (fun r_29 u_28 H locs hw hP hD hS => ?_)
            obtain ⟨rfl, hI⟩ := hw
            have hF := hF.trans (kFr.up (P := kPx) (w := .int 0) (k := 0) hW.tm rfl)
            have hW := hW.frw (kFr.up (P := kPy mr) (w := .int 0) (k := 0) hW.tm rfl)
            refine lv_if_ne (tgt := 75) hx hb dX4_body_70 (by decide) (fun _ => ?_) (fun h9 => by first | exact absurd h9 (by decide) | exact absurd (by decide) h9)
            refine lv_bipush (v := 13) hx hb dX4_body_75 (by decide) ?_
            refine lv_aload_n hx hb dX4_body_77 rfl (lv_at hl 1 rfl) ?_
            refine kp_get hx hb hts i_X4 hown hK hP hI hW.tm rfl rfl 1 (by decide) (by decide) (hts (.fieldLink RX4 93 "IslandSolverModel" "bodies" "I") (by decide +kernel)) (fun _ h9 => h9) dX4_body_78 (kq_P (v0 := .int (nI mb)) rfl hW.p1 fun h_31 => ?_)
            refine lv_imul hx hb dX4_body_81 ?_
            refine lv_topi (nm_r (show (13 : Int32) * (nI mb) = nI (13 * mb) from pk_mul 13 mb) ?_)
            refine lv_istore (lv' := [(6, .int (nI (13 * mb))), (5, .int 1), (0, .ref mm), (1, .float a), (2, .float b), (3, .float c9), (4, .float d9)]) hx hb dX4_body_82 hl (by decide) rfl (fun ls hl => ?_)
            refine lv_iconst (v := 0) hx hb dX4_body_84 (by decide) ?_
            refine lv_istore (lv' := [(7, .int 0), (6, .int (nI (13 * mb))), (5, .int 1), (0, .ref mm), (1, .float a), (2, .float b), (3, .float c9), (4, .float d9)]) hx hb dX4_body_85 hl (by decide) rfl (fun ls hl => ?_)
            have hl : lv_has ls 8 [(0, .ref mm), (1, .float a), (2, .float b), (3, .float c9), (4, .float d9), (5, .int 1), (6, .int (nI (13 * mb))), (7, .int 0)] := lv_sub hl [3, 4, 5, 6, 7, 2, 1, 0] rfl
            refine kl_loop (Inv := fun n87 _ L f H locs ls => ∃ (k9 : Nat), 13 - k9 < n87 ∧ kI dA τ (kup pv mm 0 (.int 0)) L f ∧ va_P (dC, dI) vwCl (va_pl L f) H ∧ va_D A (va_pl L f) ∧ va_S A s.heap H locs ∧ lv_has ls 8 [(0, .ref mm), (1, .float a), (2, .float b), (3, .float c9), (4, .float d9), (5, .int 1), (6, .int (nI (13 * mb))), (7, .int (nI k9))] ∧ k9 ≤ 13) (fun _ _ _ _ _ _ h9 => by obtain ⟨_, hn, _⟩ := h9; exact Nat.not_lt_zero _ hn) (fun n87 ih87 _ L f H locs ls h9 => ?_) (13 - 0 + 1) (fun _ _ => .null) _ _ _ _ _ ⟨0, Nat.lt_succ_self _, hI, hP, hD, hS, hl, Nat.zero_le _⟩
            obtain ⟨k9, hn87, hI, hP, hD, hS, hl, hib⟩ := h9
            refine lv_iload hx hb dX4_body_87 (lv_at hl 7 rfl) ?_
            refine lv_bipush (v := 13) hx hb dX4_body_89 (by decide) ?_
            refine lv_icmp_ge (tgt := 111) hx hb dX4_body_91 (by decide) (fun c_32 => ?_) (fun c_32 => ?_)
            · have n_33 : 13 ≤ k9 := (nI_leI (by omega) (by omega)).mp (show nI 13 ≤ nI k9 from c_32)
              refine lv_aload_n hx hb dX4_body_111 rfl (lv_at hl 0 rfl) ?_
              refine kp_get hx hb hts i_X4 hown hK hP hI hW.tm rfl rfl 2 (by decide) (by decide) (hts (.fieldLink RX4 7 "IslandSolverModel" "body" "[F") (by decide +kernel)) (fun _ h9 => h9) dX4_body_112 (kq_RE 15 (by decide) fun x_34 h_35_e h_35 => ?_)
              refine lv_iload hx hb dX4_body_115 (lv_at hl 6 rfl) ?_
              refine lv_bipush (v := 6) hx hb dX4_body_117 (by decide) ?_
              refine lv_iadd hx hb dX4_body_119 ?_
              refine lv_topi (nm_r (show (nI (13 * mb)) + 6 = nI (13 * mb + 6) from nI_add (13 * mb) 6) ?_)
              refine lv_fload_n hx hb dX4_body_120 rfl (lv_at hl 1 rfl) ?_
              have hj_36 : 13 * mb + 6 < τ 3 x_34 := by rw [show τ 3 x_34 = 3328 from (hI.arr h_35 rfl).2.1]; omega
              refine W.eq (g2 := F0 m 121 ls (.float a :: .int (nI (13 * mb + 6)) :: .ref x_34 :: [])) rfl ?_
              refine kp_fastX (pv' := (kup pv mm 0 (.int 0))) (j := 13 * mb + 6) hx hb hK hP hD hS hI h_35 rfl hj_36 (fun _ _ _ => rfl) (show kPr τ (kEc 15 (13 * mb + 6)) _ _ from (show kEc 15 (13 * mb + 6) = 1098907648 from if_neg (by omega)).symm ▸ (kv_F (by decide) fb_5)) (kPn_not rfl (by decide)) dX4_body_121 (fun f H locs hI hP hD hS => ?_)
              refine lv_aload_n hx hb dX4_body_122 rfl (lv_at hl 0 rfl) ?_
              refine kp_get hx hb hts i_X4 hown hK hP hI hW.tm rfl rfl 2 (by decide) (by decide) (hts (.fieldLink RX4 7 "IslandSolverModel" "body" "[F") (by decide +kernel)) (fun _ h9 => h9) dX4_body_123 (kq_RE 15 (by decide) fun x_37 h_38_e h_38 => ?_)
              refine lv_iload hx hb dX4_body_126 (lv_at hl 6 rfl) ?_
              refine lv_bipush (v := 7) hx hb dX4_body_128 (by decide) ?_
              refine lv_iadd hx hb dX4_body_130 ?_
              refine lv_topi (nm_r (show (nI (13 * mb)) + 7 = nI (13 * mb + 7) from nI_add (13 * mb) 7) ?_)
              refine lv_fload_n hx hb dX4_body_131 rfl (lv_at hl 2 rfl) ?_
              have hj_39 : 13 * mb + 7 < τ 3 x_37 := by rw [show τ 3 x_37 = 3328 from (hI.arr h_38 rfl).2.1]; omega
              refine W.eq (g2 := F0 m 132 ls (.float b :: .int (nI (13 * mb + 7)) :: .ref x_37 :: [])) rfl ?_
              refine kp_fastX (pv' := (kup pv mm 0 (.int 0))) (j := 13 * mb + 7) hx hb hK hP hD hS hI h_38 rfl hj_39 (fun _ _ _ => rfl) (show kPr τ (kEc 15 (13 * mb + 7)) _ _ from (show kEc 15 (13 * mb + 7) = 1098907648 from if_neg (by omega)).symm ▸ (kv_F (by decide) fb_10)) (kPn_not rfl (by decide)) dX4_body_132 (fun f H locs hI hP hD hS => ?_)
              refine lv_aload_n hx hb dX4_body_133 rfl (lv_at hl 0 rfl) ?_
              refine kp_get hx hb hts i_X4 hown hK hP hI hW.tm rfl rfl 2 (by decide) (by decide) (hts (.fieldLink RX4 7 "IslandSolverModel" "body" "[F") (by decide +kernel)) (fun _ h9 => h9) dX4_body_134 (kq_RE 15 (by decide) fun x_40 h_41_e h_41 => ?_)
              refine lv_iload hx hb dX4_body_137 (lv_at hl 6 rfl) ?_
              refine lv_bipush (v := 8) hx hb dX4_body_139 (by decide) ?_
              refine lv_iadd hx hb dX4_body_141 ?_
              refine lv_topi (nm_r (show (nI (13 * mb)) + 8 = nI (13 * mb + 8) from nI_add (13 * mb) 8) ?_)
              refine lv_fload_n hx hb dX4_body_142 rfl (lv_at hl 3 rfl) ?_
              have hj_42 : 13 * mb + 8 < τ 3 x_40 := by rw [show τ 3 x_40 = 3328 from (hI.arr h_41 rfl).2.1]; omega
              refine W.eq (g2 := F0 m 143 ls (.float c9 :: .int (nI (13 * mb + 8)) :: .ref x_40 :: [])) rfl ?_
              refine kp_fastX (pv' := (kup pv mm 0 (.int 0))) (j := 13 * mb + 8) hx hb hK hP hD hS hI h_41 rfl hj_42 (fun _ _ _ => rfl) (show kPr τ (kEc 15 (13 * mb + 8)) _ _ from (show kEc 15 (13 * mb + 8) = 1098907648 from if_neg (by omega)).symm ▸ (kv_F (by decide) fb_15)) (kPn_not rfl (by decide)) dX4_body_143 (fun f H locs hI hP hD hS => ?_)
              refine lv_aload_n hx hb dX4_body_144 rfl (lv_at hl 0 rfl) ?_
              refine kp_get hx hb hts i_X4 hown hK hP hI hW.tm rfl rfl 2 (by decide) (by decide) (hts (.fieldLink RX4 7 "IslandSolverModel" "body" "[F") (by decide +kernel)) (fun _ h9 => h9) dX4_body_145 (kq_RE 15 (by decide) fun x_43 h_44_e h_44 => ?_)
              refine lv_iload hx hb dX4_body_148 (lv_at hl 6 rfl) ?_
              refine lv_bipush (v := 9) hx hb dX4_body_150 (by decide) ?_
              refine lv_iadd hx hb dX4_body_152 ?_
              refine lv_topi (nm_r (show (nI (13 * mb)) + 9 = nI (13 * mb + 9) from nI_add (13 * mb) 9) ?_)
              refine lv_fload hx hb dX4_body_153 (lv_at hl 4 rfl) ?_
              have hj_45 : 13 * mb + 9 < τ 3 x_43 := by rw [show τ 3 x_43 = 3328 from (hI.arr h_44 rfl).2.1]; omega
              refine W.eq (g2 := F0 m 155 ls (.float d9 :: .int (nI (13 * mb + 9)) :: .ref x_43 :: [])) rfl ?_
              refine kp_fastX (pv' := (kup pv mm 0 (.int 0))) (j := 13 * mb + 9) hx hb hK hP hD hS hI h_44 rfl hj_45 (fun _ _ _ => rfl) (show kPr τ (kEc 15 (13 * mb + 9)) _ _ from (show kEc 15 (13 * mb + 9) = 1098907648 from if_neg (by omega)).symm ▸ (kv_F (by decide) fb_20)) (kPn_not rfl (by decide)) dX4_body_155 (fun f H locs hI hP hD hS => ?_)
              refine lv_aload_n hx hb dX4_body_156 rfl (lv_at hl 0 rfl) ?_
              refine kp_get hx hb hts i_X4 hown hK hP hI hW.tm rfl rfl 3 (by decide) (by decide) (hts (.fieldLink RX4 13 "IslandSolverModel" "asleep" "[Z") (by decide +kernel)) (fun _ h9 => h9) dX4_body_157 (kq_RE 16 (by decide) fun x_46 h_47_e h_47 => ?_)
              refine lv_aload_n hx hb dX4_body_160 rfl (lv_at hl 0 rfl) ?_
              refine kp_get hx hb hts i_X4 hown hK hP hI hW.tm rfl rfl 1 (by decide) (by decide) (hts (.fieldLink RX4 93 "IslandSolverModel" "bodies" "I") (by decide +kernel)) (fun _ h9 => h9) dX4_body_161 (kq_P (v0 := .int (nI mb)) rfl hW.p1 fun h_49 => ?_)
              refine lv_iconst (v := 0) hx hb dX4_body_164 (by decide) ?_
              have hj_50 : mb < τ 3 x_46 := by rw [show τ 3 x_46 = 256 from (hI.arr h_47 rfl).2.1]; omega
              refine W.eq (g2 := F0 m 165 ls (.int 0 :: .int (nI (mb)) :: .ref x_46 :: [])) rfl ?_
              refine kp_zastX (pv' := (kup pv mm 0 (.int 0))) (j := mb) hx hb hK hP hD hS hI h_47 rfl hj_50 (Or.inl rfl) (fun _ _ _ => rfl) (show kPr _ 1 _ _ from (kv_Z (Or.inl rfl))) (kPn_not rfl (by decide)) dX4_body_165 (fun f H locs hI hP hD hS => ?_)
              refine lv_aload_n hx hb dX4_body_166 rfl (lv_at hl 0 rfl) ?_
              refine kp_get hx hb hts i_X4 hown hK hP hI hW.tm rfl rfl 4 (by decide) (by decide) (hts (.fieldLink RX4 17 "IslandSolverModel" "quiet" "[I") (by decide +kernel)) (fun _ h9 => h9) dX4_body_167 (kq_RE 17 (by decide) fun x_51 h_52_e h_52 => ?_)
              refine lv_aload_n hx hb dX4_body_170 rfl (lv_at hl 0 rfl) ?_
              refine kp_get hx hb hts i_X4 hown hK hP hI hW.tm rfl rfl 1 (by decide) (by decide) (hts (.fieldLink RX4 93 "IslandSolverModel" "bodies" "I") (by decide +kernel)) (fun _ h9 => h9) dX4_body_171 (kq_P (v0 := .int (nI mb)) rfl hW.p1 fun h_54 => ?_)
              refine lv_iconst (v := 0) hx hb dX4_body_174 (by decide) ?_
              have hj_55 : mb < τ 3 x_51 := by rw [show τ 3 x_51 = 256 from (hI.arr h_52 rfl).2.1]; omega
              refine W.eq (g2 := F0 m 175 ls (.int 0 :: .int (nI (mb)) :: .ref x_51 :: [])) rfl ?_
              refine kp_iastX (pv' := (kup pv mm 0 (.int 0))) (j := mb) hx hb hK hP hD hS hI h_52 rfl hj_55 (fun _ _ _ => rfl) (show kPr _ 0 _ _ from (kv_I _)) (kPn_not rfl (by decide)) dX4_body_175 (fun f H locs hI hP hD hS => ?_)
              refine lv_aload_n hx hb dX4_body_176 rfl (lv_at hl 0 rfl) ?_
              refine lv_dup hx hb dX4_body_177 rfl ?_
              refine kp_get hx hb hts i_X4 hown hK hP hI hW.tm rfl rfl 1 (by decide) (by decide) (hts (.fieldLink RX4 93 "IslandSolverModel" "bodies" "I") (by decide +kernel)) (fun _ h9 => h9) dX4_body_178 (kq_P (v0 := .int (nI mb)) rfl hW.p1 fun h_57 => ?_)
              refine lv_iconst (v := 1) hx hb dX4_body_181 (by decide) ?_
              refine lv_iadd hx hb dX4_body_182 ?_
              refine lv_topi (nm_r (show (nI mb) + 1 = nI (mb + 1) from nI_add mb 1) ?_)
              refine kp_putP (v := .int (nI (mb + 1))) (ty := .int) hx hb hts i_X4 tyX4 tyX4_ok nmX4 hown hK hP hD hS hI hW.tm rfl rfl 1 (by decide) (by decide) (hts (.fieldLink RX4 93 "IslandSolverModel" "bodies" "I") (by decide +kernel)) (fun _ h9 => h9) rfl (by decide +kernel) rfl rfl rfl (kv_S (by decide) ⟨mb + 1, rfl, by omega⟩) dX4_body_183 (fun f H locs hI hP hD hS => ?_)
              have hF := hF.trans (kFr.up (P := kPx) (w := .int (nI (mb + 1))) (k := 1) hW.tm rfl)
              have hW := hW.incB (by omega)
              refine lv_aload_n hx hb dX4_body_186 rfl (lv_at hl 0 rfl) ?_
              refine kp_get hx hb hts i_X4 hown hK hP hI hW.tm rfl rfl 1 (by decide) (by decide) (hts (.fieldLink RX4 93 "IslandSolverModel" "bodies" "I") (by decide +kernel)) (fun _ h9 => h9) dX4_body_187 (kq_P (v0 := .int (nI (mb + 1))) rfl hW.p1 fun h_59 => ?_)
              refine lv_iconst (v := 1) hx hb dX4_body_190 (by decide) ?_
              refine lv_isub hx hb dX4_body_191 ?_
              refine lv_topi (nm_r (show (nI (mb + 1)) - 1 = nI (mb + 1 - 1) from pk_sub (a := mb + 1) (b := 1) (by omega)) ?_)
              refine W.widen (k := 0) (n := 0) (Nat.le_of_ble_eq_true rfl) (Nat.le_of_ble_eq_true rfl) ?_
              exact W.iret (v := nI (mb + 1 - 1)) hx hb hr (fun t ht hW9 => ⟨⟨nI (mb + 1 - 1), (L, f), rfl, (by rw [kinc_0 (show kc_body2 mb a b c9 d9 = 0 from (by simp only [kc_body2, k_4, k_9, k_14, k_19, (Nat.not_le.mp n_27), (Nat.not_lt.mpr n_33), decide_true, decide_false, Bool.not_true, Bool.not_false, Bool.and_true, Bool.true_and, Bool.and_false, Bool.false_and, Bool.and_self, Bool.false_eq_true, if_true, if_false, ite_true, ite_false, reduceIte] <;> decide))]; exact ⟨_, _, _, hF, hW, (Eq.trans ((kup_ne (Or.inr (by decide))).trans kup_self) (congrArg Value.int (Eq.symm (by simp only [kc_body2, k_4, k_9, k_14, k_19, (Nat.not_le.mp n_27), (Nat.not_lt.mpr n_33), decide_true, decide_false, Bool.not_true, Bool.not_false, Bool.and_true, Bool.true_and, Bool.and_false, Bool.false_and, Bool.and_self, Bool.false_eq_true, if_true, if_false, ite_true, ite_false, reduceIte] <;> decide)))), fun h9 => rfl, hI⟩), by rw [ht]; exact hP, va_K.moved hW9.alike hK, hD⟩, hS.F ht⟩) hS.2.2 dX4_body_192
            · have n_60 : ¬ 13 ≤ k9 := fun h9 => (show ¬ nI 13 ≤ nI k9 from c_32) ((nI_leI (by omega) (by omega)).mpr h9)
              refine lv_aload_n hx hb dX4_body_94 rfl (lv_at hl 0 rfl) ?_
              refine kp_get hx hb hts i_X4 hown hK hP hI hW.tm rfl rfl 2 (by decide) (by decide) (hts (.fieldLink RX4 7 "IslandSolverModel" "body" "[F") (by decide +kernel)) (fun _ h9 => h9) dX4_body_95 (kq_RE 15 (by decide) fun x_61 h_62_e h_62 => ?_)
              refine lv_iload hx hb dX4_body_98 (lv_at hl 6 rfl) ?_
              refine lv_iload hx hb dX4_body_100 (lv_at hl 7 rfl) ?_
              refine lv_iadd hx hb dX4_body_102 ?_
              refine lv_topi (nm_r (show (nI (13 * mb)) + (nI k9) = nI (13 * mb + k9) from nI_add (13 * mb) k9) ?_)
              refine lv_fconst0 hx hb dX4_body_103 ?_
              have hj_63 : 13 * mb + k9 < τ 3 x_61 := by rw [show τ 3 x_61 = 3328 from (hI.arr h_62 rfl).2.1]; omega
              refine W.eq (g2 := F0 m 104 ls (.float FP.fconst0 :: .int (nI (13 * mb + k9)) :: .ref x_61 :: [])) rfl ?_
              refine kp_fastX (pv' := (kup pv mm 0 (.int 0))) (j := 13 * mb + k9) hx hb hK hP hD hS hI h_62 rfl hj_63 (fun _ _ _ => rfl) kv_15z (kPn_not rfl (by decide)) dX4_body_104 (fun f H locs hI hP hD hS => ?_)
              refine lv_iinc (v := nI (k9 + 1)) (lv' := [(7, .int (nI (k9 + 1))), (0, .ref mm), (1, .float a), (2, .float b), (3, .float c9), (4, .float d9), (5, .int 1), (6, .int (nI (13 * mb)))]) hx hb dX4_body_105 hl (k := 7) rfl (nI_add k9 1) (by decide) rfl (fun ls hl => ?_)
              refine lv_goto (tgt := 87) hx hb dX4_body_108 (by decide) ?_
              have hl : lv_has ls 8 [(0, .ref mm), (1, .float a), (2, .float b), (3, .float c9), (4, .float d9), (5, .int 1), (6, .int (nI (13 * mb))), (7, .int (nI (k9 + 1)))] := lv_sub hl [1, 2, 3, 4, 5, 6, 7, 0] rfl
              exact ih87 (fun _ _ => .null) _ _ _ _ _ ⟨(k9 + 1), by omega, hI, hP, hD, hS, hl, by omega⟩
        · refine lv_if_eq (tgt := 45) hx hb dX4_body_38 (by decide) (fun _ => ?_) (fun h9 => by first | exact absurd h9 (by decide) | exact absurd (by decide) h9)
          refine lv_iconst (v := 0) hx hb dX4_body_45 (by decide) ?_
          refine lv_istore (lv' := [(5, .int 0), (0, .ref mm), (1, .float a), (2, .float b), (3, .float c9), (4, .float d9)]) hx hb dX4_body_46 hl (by decide) rfl (fun ls hl => ?_)
          refine lv_aload_n hx hb dX4_body_48 rfl (lv_at hl 1 rfl) ?_
          refine lv_iload hx hb dX4_body_49 (lv_at hl 0 rfl) ?_
          refine lv_aload_n hx hb dX4_body_51 rfl (lv_at hl 1 rfl) ?_
          refine kp_get hx hb hts i_X4 hown hK hP hI hW.tm rfl rfl 1 (by decide) (by decide) (hts (.fieldLink RX4 93 "IslandSolverModel" "bodies" "I") (by decide +kernel)) (fun _ h9 => h9) dX4_body_52 (kq_P (v0 := .int (nI mb)) rfl hW.p1 fun h_65 => ?_)
          refine lv_sipush (v := 256) hx hb dX4_body_55 (by decide) ?_
          refine lv_icmp_ge (tgt := 65) hx hb dX4_body_58 (by decide) (fun c_66 => ?_) (fun c_66 => ?_)
          · have n_67 : 256 ≤ mb := (nI_leI (by omega) (by omega)).mp (show nI 256 ≤ nI mb from c_66)
            refine lv_iconst (v := 0) hx hb dX4_body_65 (by decide) ?_
            refine lv_iconst (v := 1) hx hb dX4_body_66 (by decide) ?_
            refine kd_calli (va_runV (As := [.int 0, .int 0, .int 1]) (rest := []) ⟨hx, hb, hml, hown, hts⟩ (k_goes2 l dC dI dA ad _ τ pv _ _ hI mm fa sa aa ia sf mb mr mk mr hW 0 1) (cwV 3 hts gX4_body_X4_goes rfl rfl rfl (by decide +kernel) ⟨Nat.le_of_ble_eq_true rfl, Nat.le_of_ble_eq_true rfl⟩) (kd_preV hP hD hK hS hA hE hI hW.tm rfl rfl) rfl rfl hl.1 rfl (lv_room (Nat.le_of_ble_eq_true rfl)) dX4_body_67 ⟨Nat.le_of_ble_eq_true rfl, Nat.le_of_ble_eq_true rfl⟩) hD hS hA (fun r_69 u_68 H locs hw hP hD hS => ?_)
            obtain ⟨rfl, hI⟩ := hw
            have hF := hF.trans (kFr.up (P := kPx) (w := .int 1) (k := 0) hW.tm rfl)
            have hW := hW.frw (kFr.up (P := kPy mr) (w := .int 1) (k := 0) hW.tm rfl)
            refine lv_if_ne (tgt := 75) hx hb dX4_body_70 (by decide) (fun h9 => by first | exact absurd h9 (by decide) | exact absurd (by decide) h9) (fun _ => ?_)
            refine lv_iconst (v := 0) hx hb dX4_body_73 (by decide) ?_
            refine W.widen (k := 0) (n := 0) (Nat.le_of_ble_eq_true rfl) (Nat.le_of_ble_eq_true rfl) ?_
            exact W.iret (v := 0) hx hb hr (fun t ht hW9 => ⟨⟨0, (u_68.1, u_68.2), rfl, (by rw [kinc_1 (show kc_body2 mb a b c9 d9 ≠ 0 by rw [show kc_body2 mb a b c9 d9 = 1 from (by simp only [kc_body2, k_4, k_9, k_14, k_19, (Nat.not_lt.mpr n_67), decide_true, decide_false, Bool.not_true, Bool.not_false, Bool.and_true, Bool.true_and, Bool.and_false, Bool.false_and, Bool.and_self, Bool.false_eq_true, if_true, if_false, ite_true, ite_false, reduceIte] <;> decide)]; decide)]; exact ⟨_, _, _, hF, hW, (Eq.trans kup_self (congrArg Value.int (Eq.symm (by simp only [kc_body2, k_4, k_9, k_14, k_19, (Nat.not_lt.mpr n_67), decide_true, decide_false, Bool.not_true, Bool.not_false, Bool.and_true, Bool.true_and, Bool.and_false, Bool.false_and, Bool.and_self, Bool.false_eq_true, if_true, if_false, ite_true, ite_false, reduceIte] <;> decide)))), fun h9 => absurd ((show kc_body2 mb a b c9 d9 = 1 from (by simp only [kc_body2, k_4, k_9, k_14, k_19, (Nat.not_lt.mpr n_67), decide_true, decide_false, Bool.not_true, Bool.not_false, Bool.and_true, Bool.true_and, Bool.and_false, Bool.false_and, Bool.and_self, Bool.false_eq_true, if_true, if_false, ite_true, ite_false, reduceIte] <;> decide)).symm.trans h9) (by decide), hI⟩), by rw [ht]; exact hP, va_K.moved hW9.alike hK, hD⟩, hS.F ht⟩) hS.2.2 dX4_body_74
          · have n_70 : ¬ 256 ≤ mb := fun h9 => (show ¬ nI 256 ≤ nI mb from c_66) ((nI_leI (by omega) (by omega)).mpr h9)
            refine lv_iconst (v := 1) hx hb dX4_body_61 (by decide) ?_
            refine lv_goto (tgt := 66) hx hb dX4_body_62 (by decide) ?_
            refine lv_iconst (v := 1) hx hb dX4_body_66 (by decide) ?_
            refine kd_calli (va_runV (As := [.int 0, .int 1, .int 1]) (rest := []) ⟨hx, hb, hml, hown, hts⟩ (k_goes2 l dC dI dA ad _ τ pv _ _ hI mm fa sa aa ia sf mb mr mk mr hW 1 1) (cwV 3 hts gX4_body_X4_goes rfl rfl rfl (by decide +kernel) ⟨Nat.le_of_ble_eq_true rfl, Nat.le_of_ble_eq_true rfl⟩) (kd_preV hP hD hK hS hA hE hI hW.tm rfl rfl) rfl rfl hl.1 rfl (lv_room (Nat.le_of_ble_eq_true rfl)) dX4_body_67 ⟨Nat.le_of_ble_eq_true rfl, Nat.le_of_ble_eq_true rfl⟩) hD hS hA (fun r_72 u_71 H locs hw hP hD hS => ?_)
            obtain ⟨rfl, hI⟩ := hw
            have hF := hF.trans (kFr.up (P := kPx) (w := .int 1) (k := 0) hW.tm rfl)
            have hW := hW.frw (kFr.up (P := kPy mr) (w := .int 1) (k := 0) hW.tm rfl)
            refine lv_if_ne (tgt := 75) hx hb dX4_body_70 (by decide) (fun h9 => by first | exact absurd h9 (by decide) | exact absurd (by decide) h9) (fun _ => ?_)
            refine lv_iconst (v := 0) hx hb dX4_body_73 (by decide) ?_
            refine W.widen (k := 0) (n := 0) (Nat.le_of_ble_eq_true rfl) (Nat.le_of_ble_eq_true rfl) ?_
            exact W.iret (v := 0) hx hb hr (fun t ht hW9 => ⟨⟨0, (u_71.1, u_71.2), rfl, (by rw [kinc_1 (show kc_body2 mb a b c9 d9 ≠ 0 by rw [show kc_body2 mb a b c9 d9 = 1 from (by simp only [kc_body2, k_4, k_9, k_14, k_19, (Nat.not_le.mp n_70), decide_true, decide_false, Bool.not_true, Bool.not_false, Bool.and_true, Bool.true_and, Bool.and_false, Bool.false_and, Bool.and_self, Bool.false_eq_true, if_true, if_false, ite_true, ite_false, reduceIte] <;> decide)]; decide)]; exact ⟨_, _, _, hF, hW, (Eq.trans kup_self (congrArg Value.int (Eq.symm (by simp only [kc_body2, k_4, k_9, k_14, k_19, (Nat.not_le.mp n_70), decide_true, decide_false, Bool.not_true, Bool.not_false, Bool.and_true, Bool.true_and, Bool.and_false, Bool.false_and, Bool.and_self, Bool.false_eq_true, if_true, if_false, ite_true, ite_false, reduceIte] <;> decide)))), fun h9 => absurd ((show kc_body2 mb a b c9 d9 = 1 from (by simp only [kc_body2, k_4, k_9, k_14, k_19, (Nat.not_le.mp n_70), decide_true, decide_false, Bool.not_true, Bool.not_false, Bool.and_true, Bool.true_and, Bool.and_false, Bool.false_and, Bool.and_self, Bool.false_eq_true, if_true, if_false, ite_true, ite_false, reduceIte] <;> decide)).symm.trans h9) (by decide), hI⟩), by rw [ht]; exact hP, va_K.moved hW9.alike hK, hD⟩, hS.F ht⟩) hS.2.2 dX4_body_74
      · refine lv_if_eq (tgt := 45) hx hb dX4_body_27 (by decide) (fun _ => ?_) (fun h9 => by first | exact absurd h9 (by decide) | exact absurd (by decide) h9)
        refine lv_iconst (v := 0) hx hb dX4_body_45 (by decide) ?_
        refine lv_istore (lv' := [(5, .int 0), (0, .ref mm), (1, .float a), (2, .float b), (3, .float c9), (4, .float d9)]) hx hb dX4_body_46 hl (by decide) rfl (fun ls hl => ?_)
        refine lv_aload_n hx hb dX4_body_48 rfl (lv_at hl 1 rfl) ?_
        refine lv_iload hx hb dX4_body_49 (lv_at hl 0 rfl) ?_
        refine lv_aload_n hx hb dX4_body_51 rfl (lv_at hl 1 rfl) ?_
        refine kp_get hx hb hts i_X4 hown hK hP hI hW.tm rfl rfl 1 (by decide) (by decide) (hts (.fieldLink RX4 93 "IslandSolverModel" "bodies" "I") (by decide +kernel)) (fun _ h9 => h9) dX4_body_52 (kq_P (v0 := .int (nI mb)) rfl hW.p1 fun h_74 => ?_)
        refine lv_sipush (v := 256) hx hb dX4_body_55 (by decide) ?_
        refine lv_icmp_ge (tgt := 65) hx hb dX4_body_58 (by decide) (fun c_75 => ?_) (fun c_75 => ?_)
        · have n_76 : 256 ≤ mb := (nI_leI (by omega) (by omega)).mp (show nI 256 ≤ nI mb from c_75)
          refine lv_iconst (v := 0) hx hb dX4_body_65 (by decide) ?_
          refine lv_iconst (v := 1) hx hb dX4_body_66 (by decide) ?_
          refine kd_calli (va_runV (As := [.int 0, .int 0, .int 1]) (rest := []) ⟨hx, hb, hml, hown, hts⟩ (k_goes2 l dC dI dA ad _ τ pv _ _ hI mm fa sa aa ia sf mb mr mk mr hW 0 1) (cwV 3 hts gX4_body_X4_goes rfl rfl rfl (by decide +kernel) ⟨Nat.le_of_ble_eq_true rfl, Nat.le_of_ble_eq_true rfl⟩) (kd_preV hP hD hK hS hA hE hI hW.tm rfl rfl) rfl rfl hl.1 rfl (lv_room (Nat.le_of_ble_eq_true rfl)) dX4_body_67 ⟨Nat.le_of_ble_eq_true rfl, Nat.le_of_ble_eq_true rfl⟩) hD hS hA (fun r_78 u_77 H locs hw hP hD hS => ?_)
          obtain ⟨rfl, hI⟩ := hw
          have hF := hF.trans (kFr.up (P := kPx) (w := .int 1) (k := 0) hW.tm rfl)
          have hW := hW.frw (kFr.up (P := kPy mr) (w := .int 1) (k := 0) hW.tm rfl)
          refine lv_if_ne (tgt := 75) hx hb dX4_body_70 (by decide) (fun h9 => by first | exact absurd h9 (by decide) | exact absurd (by decide) h9) (fun _ => ?_)
          refine lv_iconst (v := 0) hx hb dX4_body_73 (by decide) ?_
          refine W.widen (k := 0) (n := 0) (Nat.le_of_ble_eq_true rfl) (Nat.le_of_ble_eq_true rfl) ?_
          exact W.iret (v := 0) hx hb hr (fun t ht hW9 => ⟨⟨0, (u_77.1, u_77.2), rfl, (by rw [kinc_1 (show kc_body2 mb a b c9 d9 ≠ 0 by rw [show kc_body2 mb a b c9 d9 = 1 from (by simp only [kc_body2, k_4, k_9, k_14, (Nat.not_lt.mpr n_76), decide_true, decide_false, Bool.not_true, Bool.not_false, Bool.and_true, Bool.true_and, Bool.and_false, Bool.false_and, Bool.and_self, Bool.false_eq_true, if_true, if_false, ite_true, ite_false, reduceIte] <;> decide)]; decide)]; exact ⟨_, _, _, hF, hW, (Eq.trans kup_self (congrArg Value.int (Eq.symm (by simp only [kc_body2, k_4, k_9, k_14, (Nat.not_lt.mpr n_76), decide_true, decide_false, Bool.not_true, Bool.not_false, Bool.and_true, Bool.true_and, Bool.and_false, Bool.false_and, Bool.and_self, Bool.false_eq_true, if_true, if_false, ite_true, ite_false, reduceIte] <;> decide)))), fun h9 => absurd ((show kc_body2 mb a b c9 d9 = 1 from (by simp only [kc_body2, k_4, k_9, k_14, (Nat.not_lt.mpr n_76), decide_true, decide_false, Bool.not_true, Bool.not_false, Bool.and_true, Bool.true_and, Bool.and_false, Bool.false_and, Bool.and_self, Bool.false_eq_true, if_true, if_false, ite_true, ite_false, reduceIte] <;> decide)).symm.trans h9) (by decide), hI⟩), by rw [ht]; exact hP, va_K.moved hW9.alike hK, hD⟩, hS.F ht⟩) hS.2.2 dX4_body_74
        · have n_79 : ¬ 256 ≤ mb := fun h9 => (show ¬ nI 256 ≤ nI mb from c_75) ((nI_leI (by omega) (by omega)).mpr h9)
          refine lv_iconst (v := 1) hx hb dX4_body_61 (by decide) ?_
          refine lv_goto (tgt := 66) hx hb dX4_body_62 (by decide) ?_
          refine lv_iconst (v := 1) hx hb dX4_body_66 (by decide) ?_
          refine kd_calli (va_runV (As := [.int 0, .int 1, .int 1]) (rest := []) ⟨hx, hb, hml, hown, hts⟩ (k_goes2 l dC dI dA ad _ τ pv _ _ hI mm fa sa aa ia sf mb mr mk mr hW 1 1) (cwV 3 hts gX4_body_X4_goes rfl rfl rfl (by decide +kernel) ⟨Nat.le_of_ble_eq_true rfl, Nat.le_of_ble_eq_true rfl⟩) (kd_preV hP hD hK hS hA hE hI hW.tm rfl rfl) rfl rfl hl.1 rfl (lv_room (Nat.le_of_ble_eq_true rfl)) dX4_body_67 ⟨Nat.le_of_ble_eq_true rfl, Nat.le_of_ble_eq_true rfl⟩) hD hS hA (fun r_81 u_80 H locs hw hP hD hS => ?_)
          obtain ⟨rfl, hI⟩ := hw
          have hF := hF.trans (kFr.up (P := kPx) (w := .int 1) (k := 0) hW.tm rfl)
          have hW := hW.frw (kFr.up (P := kPy mr) (w := .int 1) (k := 0) hW.tm rfl)
          refine lv_if_ne (tgt := 75) hx hb dX4_body_70 (by decide) (fun h9 => by first | exact absurd h9 (by decide) | exact absurd (by decide) h9) (fun _ => ?_)
          refine lv_iconst (v := 0) hx hb dX4_body_73 (by decide) ?_
          refine W.widen (k := 0) (n := 0) (Nat.le_of_ble_eq_true rfl) (Nat.le_of_ble_eq_true rfl) ?_
          exact W.iret (v := 0) hx hb hr (fun t ht hW9 => ⟨⟨0, (u_80.1, u_80.2), rfl, (by rw [kinc_1 (show kc_body2 mb a b c9 d9 ≠ 0 by rw [show kc_body2 mb a b c9 d9 = 1 from (by simp only [kc_body2, k_4, k_9, k_14, (Nat.not_le.mp n_79), decide_true, decide_false, Bool.not_true, Bool.not_false, Bool.and_true, Bool.true_and, Bool.and_false, Bool.false_and, Bool.and_self, Bool.false_eq_true, if_true, if_false, ite_true, ite_false, reduceIte] <;> decide)]; decide)]; exact ⟨_, _, _, hF, hW, (Eq.trans kup_self (congrArg Value.int (Eq.symm (by simp only [kc_body2, k_4, k_9, k_14, (Nat.not_le.mp n_79), decide_true, decide_false, Bool.not_true, Bool.not_false, Bool.and_true, Bool.true_and, Bool.and_false, Bool.false_and, Bool.and_self, Bool.false_eq_true, if_true, if_false, ite_true, ite_false, reduceIte] <;> decide)))), fun h9 => absurd ((show kc_body2 mb a b c9 d9 = 1 from (by simp only [kc_body2, k_4, k_9, k_14, (Nat.not_le.mp n_79), decide_true, decide_false, Bool.not_true, Bool.not_false, Bool.and_true, Bool.true_and, Bool.and_false, Bool.false_and, Bool.and_self, Bool.false_eq_true, if_true, if_false, ite_true, ite_false, reduceIte] <;> decide)).symm.trans h9) (by decide), hI⟩), by rw [ht]; exact hP, va_K.moved hW9.alike hK, hD⟩, hS.F ht⟩) hS.2.2 dX4_body_74
    · refine lv_if_eq (tgt := 45) hx hb dX4_body_17 (by decide) (fun _ => ?_) (fun h9 => by first | exact absurd h9 (by decide) | exact absurd (by decide) h9)
      refine lv_iconst (v := 0) hx hb dX4_body_45 (by decide) ?_
      refine lv_istore (lv' := [(5, .int 0), (0, .ref mm), (1, .float a), (2, .float b), (3, .float c9), (4, .float d9)]) hx hb dX4_body_46 hl (by decide) rfl (fun ls hl => ?_)
      refine lv_aload_n hx hb dX4_body_48 rfl (lv_at hl 1 rfl) ?_
      refine lv_iload hx hb dX4_body_49 (lv_at hl 0 rfl) ?_
      refine lv_aload_n hx hb dX4_body_51 rfl (lv_at hl 1 rfl) ?_
      refine kp_get hx hb hts i_X4 hown hK hP hI hW.tm rfl rfl 1 (by decide) (by decide) (hts (.fieldLink RX4 93 "IslandSolverModel" "bodies" "I") (by decide +kernel)) (fun _ h9 => h9) dX4_body_52 (kq_P (v0 := .int (nI mb)) rfl hW.p1 fun h_83 => ?_)
      refine lv_sipush (v := 256) hx hb dX4_body_55 (by decide) ?_
      refine lv_icmp_ge (tgt := 65) hx hb dX4_body_58 (by decide) (fun c_84 => ?_) (fun c_84 => ?_)
      · have n_85 : 256 ≤ mb := (nI_leI (by omega) (by omega)).mp (show nI 256 ≤ nI mb from c_84)
        refine lv_iconst (v := 0) hx hb dX4_body_65 (by decide) ?_
        refine lv_iconst (v := 1) hx hb dX4_body_66 (by decide) ?_
        refine kd_calli (va_runV (As := [.int 0, .int 0, .int 1]) (rest := []) ⟨hx, hb, hml, hown, hts⟩ (k_goes2 l dC dI dA ad _ τ pv _ _ hI mm fa sa aa ia sf mb mr mk mr hW 0 1) (cwV 3 hts gX4_body_X4_goes rfl rfl rfl (by decide +kernel) ⟨Nat.le_of_ble_eq_true rfl, Nat.le_of_ble_eq_true rfl⟩) (kd_preV hP hD hK hS hA hE hI hW.tm rfl rfl) rfl rfl hl.1 rfl (lv_room (Nat.le_of_ble_eq_true rfl)) dX4_body_67 ⟨Nat.le_of_ble_eq_true rfl, Nat.le_of_ble_eq_true rfl⟩) hD hS hA (fun r_87 u_86 H locs hw hP hD hS => ?_)
        obtain ⟨rfl, hI⟩ := hw
        have hF := hF.trans (kFr.up (P := kPx) (w := .int 1) (k := 0) hW.tm rfl)
        have hW := hW.frw (kFr.up (P := kPy mr) (w := .int 1) (k := 0) hW.tm rfl)
        refine lv_if_ne (tgt := 75) hx hb dX4_body_70 (by decide) (fun h9 => by first | exact absurd h9 (by decide) | exact absurd (by decide) h9) (fun _ => ?_)
        refine lv_iconst (v := 0) hx hb dX4_body_73 (by decide) ?_
        refine W.widen (k := 0) (n := 0) (Nat.le_of_ble_eq_true rfl) (Nat.le_of_ble_eq_true rfl) ?_
        exact W.iret (v := 0) hx hb hr (fun t ht hW9 => ⟨⟨0, (u_86.1, u_86.2), rfl, (by rw [kinc_1 (show kc_body2 mb a b c9 d9 ≠ 0 by rw [show kc_body2 mb a b c9 d9 = 1 from (by simp only [kc_body2, k_4, k_9, (Nat.not_lt.mpr n_85), decide_true, decide_false, Bool.not_true, Bool.not_false, Bool.and_true, Bool.true_and, Bool.and_false, Bool.false_and, Bool.and_self, Bool.false_eq_true, if_true, if_false, ite_true, ite_false, reduceIte] <;> decide)]; decide)]; exact ⟨_, _, _, hF, hW, (Eq.trans kup_self (congrArg Value.int (Eq.symm (by simp only [kc_body2, k_4, k_9, (Nat.not_lt.mpr n_85), decide_true, decide_false, Bool.not_true, Bool.not_false, Bool.and_true, Bool.true_and, Bool.and_false, Bool.false_and, Bool.and_self, Bool.false_eq_true, if_true, if_false, ite_true, ite_false, reduceIte] <;> decide)))), fun h9 => absurd ((show kc_body2 mb a b c9 d9 = 1 from (by simp only [kc_body2, k_4, k_9, (Nat.not_lt.mpr n_85), decide_true, decide_false, Bool.not_true, Bool.not_false, Bool.and_true, Bool.true_and, Bool.and_false, Bool.false_and, Bool.and_self, Bool.false_eq_true, if_true, if_false, ite_true, ite_false, reduceIte] <;> decide)).symm.trans h9) (by decide), hI⟩), by rw [ht]; exact hP, va_K.moved hW9.alike hK, hD⟩, hS.F ht⟩) hS.2.2 dX4_body_74
      · have n_88 : ¬ 256 ≤ mb := fun h9 => (show ¬ nI 256 ≤ nI mb from c_84) ((nI_leI (by omega) (by omega)).mpr h9)
        refine lv_iconst (v := 1) hx hb dX4_body_61 (by decide) ?_
        refine lv_goto (tgt := 66) hx hb dX4_body_62 (by decide) ?_
        refine lv_iconst (v := 1) hx hb dX4_body_66 (by decide) ?_
        refine kd_calli (va_runV (As := [.int 0, .int 1, .int 1]) (rest := []) ⟨hx, hb, hml, hown, hts⟩ (k_goes2 l dC dI dA ad _ τ pv _ _ hI mm fa sa aa ia sf mb mr mk mr hW 1 1) (cwV 3 hts gX4_body_X4_goes rfl rfl rfl (by decide +kernel) ⟨Nat.le_of_ble_eq_true rfl, Nat.le_of_ble_eq_true rfl⟩) (kd_preV hP hD hK hS hA hE hI hW.tm rfl rfl) rfl rfl hl.1 rfl (lv_room (Nat.le_of_ble_eq_true rfl)) dX4_body_67 ⟨Nat.le_of_ble_eq_true rfl, Nat.le_of_ble_eq_true rfl⟩) hD hS hA (fun r_90 u_89 H locs hw hP hD hS => ?_)
        obtain ⟨rfl, hI⟩ := hw
        have hF := hF.trans (kFr.up (P := kPx) (w := .int 1) (k := 0) hW.tm rfl)
        have hW := hW.frw (kFr.up (P := kPy mr) (w := .int 1) (k := 0) hW.tm rfl)
        refine lv_if_ne (tgt := 75) hx hb dX4_body_70 (by decide) (fun h9 => by first | exact absurd h9 (by decide) | exact absurd (by decide) h9) (fun _ => ?_)
        refine lv_iconst (v := 0) hx hb dX4_body_73 (by decide) ?_
        refine W.widen (k := 0) (n := 0) (Nat.le_of_ble_eq_true rfl) (Nat.le_of_ble_eq_true rfl) ?_
        exact W.iret (v := 0) hx hb hr (fun t ht hW9 => ⟨⟨0, (u_89.1, u_89.2), rfl, (by rw [kinc_1 (show kc_body2 mb a b c9 d9 ≠ 0 by rw [show kc_body2 mb a b c9 d9 = 1 from (by simp only [kc_body2, k_4, k_9, (Nat.not_le.mp n_88), decide_true, decide_false, Bool.not_true, Bool.not_false, Bool.and_true, Bool.true_and, Bool.and_false, Bool.false_and, Bool.and_self, Bool.false_eq_true, if_true, if_false, ite_true, ite_false, reduceIte] <;> decide)]; decide)]; exact ⟨_, _, _, hF, hW, (Eq.trans kup_self (congrArg Value.int (Eq.symm (by simp only [kc_body2, k_4, k_9, (Nat.not_le.mp n_88), decide_true, decide_false, Bool.not_true, Bool.not_false, Bool.and_true, Bool.true_and, Bool.and_false, Bool.false_and, Bool.and_self, Bool.false_eq_true, if_true, if_false, ite_true, ite_false, reduceIte] <;> decide)))), fun h9 => absurd ((show kc_body2 mb a b c9 d9 = 1 from (by simp only [kc_body2, k_4, k_9, (Nat.not_le.mp n_88), decide_true, decide_false, Bool.not_true, Bool.not_false, Bool.and_true, Bool.true_and, Bool.and_false, Bool.false_and, Bool.and_self, Bool.false_eq_true, if_true, if_false, ite_true, ite_false, reduceIte] <;> decide)).symm.trans h9) (by decide), hI⟩), by rw [ht]; exact hP, va_K.moved hW9.alike hK, hD⟩, hS.F ht⟩) hS.2.2 dX4_body_74
  · refine lv_if_eq (tgt := 45) hx hb dX4_body_7 (by decide) (fun _ => ?_) (fun h9 => by first | exact absurd h9 (by decide) | exact absurd (by decide) h9)
    refine lv_iconst (v := 0) hx hb dX4_body_45 (by decide) ?_
    refine lv_istore (lv' := [(5, .int 0), (0, .ref mm), (1, .float a), (2, .float b), (3, .float c9), (4, .float d9)]) hx hb dX4_body_46 hl (by decide) rfl (fun ls hl => ?_)
    refine lv_aload_n hx hb dX4_body_48 rfl (lv_at hl 1 rfl) ?_
    refine lv_iload hx hb dX4_body_49 (lv_at hl 0 rfl) ?_
    refine lv_aload_n hx hb dX4_body_51 rfl (lv_at hl 1 rfl) ?_
    refine kp_get hx hb hts i_X4 hown hK hP hI hW.tm rfl rfl 1 (by decide) (by decide) (hts (.fieldLink RX4 93 "IslandSolverModel" "bodies" "I") (by decide +kernel)) (fun _ h9 => h9) dX4_body_52 (kq_P (v0 := .int (nI mb)) rfl hW.p1 fun h_92 => ?_)
    refine lv_sipush (v := 256) hx hb dX4_body_55 (by decide) ?_
    refine lv_icmp_ge (tgt := 65) hx hb dX4_body_58 (by decide) (fun c_93 => ?_) (fun c_93 => ?_)
    · have n_94 : 256 ≤ mb := (nI_leI (by omega) (by omega)).mp (show nI 256 ≤ nI mb from c_93)
      refine lv_iconst (v := 0) hx hb dX4_body_65 (by decide) ?_
      refine lv_iconst (v := 1) hx hb dX4_body_66 (by decide) ?_
      refine kd_calli (va_runV (As := [.int 0, .int 0, .int 1]) (rest := []) ⟨hx, hb, hml, hown, hts⟩ (k_goes2 l dC dI dA ad _ τ pv _ _ hI mm fa sa aa ia sf mb mr mk mr hW 0 1) (cwV 3 hts gX4_body_X4_goes rfl rfl rfl (by decide +kernel) ⟨Nat.le_of_ble_eq_true rfl, Nat.le_of_ble_eq_true rfl⟩) (kd_preV hP hD hK hS hA hE hI hW.tm rfl rfl) rfl rfl hl.1 rfl (lv_room (Nat.le_of_ble_eq_true rfl)) dX4_body_67 ⟨Nat.le_of_ble_eq_true rfl, Nat.le_of_ble_eq_true rfl⟩) hD hS hA (fun r_96 u_95 H locs hw hP hD hS => ?_)
      obtain ⟨rfl, hI⟩ := hw
      have hF := hF.trans (kFr.up (P := kPx) (w := .int 1) (k := 0) hW.tm rfl)
      have hW := hW.frw (kFr.up (P := kPy mr) (w := .int 1) (k := 0) hW.tm rfl)
      refine lv_if_ne (tgt := 75) hx hb dX4_body_70 (by decide) (fun h9 => by first | exact absurd h9 (by decide) | exact absurd (by decide) h9) (fun _ => ?_)
      refine lv_iconst (v := 0) hx hb dX4_body_73 (by decide) ?_
      refine W.widen (k := 0) (n := 0) (Nat.le_of_ble_eq_true rfl) (Nat.le_of_ble_eq_true rfl) ?_
      exact W.iret (v := 0) hx hb hr (fun t ht hW9 => ⟨⟨0, (u_95.1, u_95.2), rfl, (by rw [kinc_1 (show kc_body2 mb a b c9 d9 ≠ 0 by rw [show kc_body2 mb a b c9 d9 = 1 from (by simp only [kc_body2, k_4, (Nat.not_lt.mpr n_94), decide_true, decide_false, Bool.not_true, Bool.not_false, Bool.and_true, Bool.true_and, Bool.and_false, Bool.false_and, Bool.and_self, Bool.false_eq_true, if_true, if_false, ite_true, ite_false, reduceIte] <;> decide)]; decide)]; exact ⟨_, _, _, hF, hW, (Eq.trans kup_self (congrArg Value.int (Eq.symm (by simp only [kc_body2, k_4, (Nat.not_lt.mpr n_94), decide_true, decide_false, Bool.not_true, Bool.not_false, Bool.and_true, Bool.true_and, Bool.and_false, Bool.false_and, Bool.and_self, Bool.false_eq_true, if_true, if_false, ite_true, ite_false, reduceIte] <;> decide)))), fun h9 => absurd ((show kc_body2 mb a b c9 d9 = 1 from (by simp only [kc_body2, k_4, (Nat.not_lt.mpr n_94), decide_true, decide_false, Bool.not_true, Bool.not_false, Bool.and_true, Bool.true_and, Bool.and_false, Bool.false_and, Bool.and_self, Bool.false_eq_true, if_true, if_false, ite_true, ite_false, reduceIte] <;> decide)).symm.trans h9) (by decide), hI⟩), by rw [ht]; exact hP, va_K.moved hW9.alike hK, hD⟩, hS.F ht⟩) hS.2.2 dX4_body_74
    · have n_97 : ¬ 256 ≤ mb := fun h9 => (show ¬ nI 256 ≤ nI mb from c_93) ((nI_leI (by omega) (by omega)).mpr h9)
      refine lv_iconst (v := 1) hx hb dX4_body_61 (by decide) ?_
      refine lv_goto (tgt := 66) hx hb dX4_body_62 (by decide) ?_
      refine lv_iconst (v := 1) hx hb dX4_body_66 (by decide) ?_
      refine kd_calli (va_runV (As := [.int 0, .int 1, .int 1]) (rest := []) ⟨hx, hb, hml, hown, hts⟩ (k_goes2 l dC dI dA ad _ τ pv _ _ hI mm fa sa aa ia sf mb mr mk mr hW 1 1) (cwV 3 hts gX4_body_X4_goes rfl rfl rfl (by decide +kernel) ⟨Nat.le_of_ble_eq_true rfl, Nat.le_of_ble_eq_true rfl⟩) (kd_preV hP hD hK hS hA hE hI hW.tm rfl rfl) rfl rfl hl.1 rfl (lv_room (Nat.le_of_ble_eq_true rfl)) dX4_body_67 ⟨Nat.le_of_ble_eq_true rfl, Nat.le_of_ble_eq_true rfl⟩) hD hS hA (fun r_99 u_98 H locs hw hP hD hS => ?_)
      obtain ⟨rfl, hI⟩ := hw
      have hF := hF.trans (kFr.up (P := kPx) (w := .int 1) (k := 0) hW.tm rfl)
      have hW := hW.frw (kFr.up (P := kPy mr) (w := .int 1) (k := 0) hW.tm rfl)
      refine lv_if_ne (tgt := 75) hx hb dX4_body_70 (by decide) (fun h9 => by first | exact absurd h9 (by decide) | exact absurd (by decide) h9) (fun _ => ?_)
      refine lv_iconst (v := 0) hx hb dX4_body_73 (by decide) ?_
      refine W.widen (k := 0) (n := 0) (Nat.le_of_ble_eq_true rfl) (Nat.le_of_ble_eq_true rfl) ?_
      exact W.iret (v := 0) hx hb hr (fun t ht hW9 => ⟨⟨0, (u_98.1, u_98.2), rfl, (by rw [kinc_1 (show kc_body2 mb a b c9 d9 ≠ 0 by rw [show kc_body2 mb a b c9 d9 = 1 from (by simp only [kc_body2, k_4, (Nat.not_le.mp n_97), decide_true, decide_false, Bool.not_true, Bool.not_false, Bool.and_true, Bool.true_and, Bool.and_false, Bool.false_and, Bool.and_self, Bool.false_eq_true, if_true, if_false, ite_true, ite_false, reduceIte] <;> decide)]; decide)]; exact ⟨_, _, _, hF, hW, (Eq.trans kup_self (congrArg Value.int (Eq.symm (by simp only [kc_body2, k_4, (Nat.not_le.mp n_97), decide_true, decide_false, Bool.not_true, Bool.not_false, Bool.and_true, Bool.true_and, Bool.and_false, Bool.false_and, Bool.and_self, Bool.false_eq_true, if_true, if_false, ite_true, ite_false, reduceIte] <;> decide)))), fun h9 => absurd ((show kc_body2 mb a b c9 d9 = 1 from (by simp only [kc_body2, k_4, (Nat.not_le.mp n_97), decide_true, decide_false, Bool.not_true, Bool.not_false, Bool.and_true, Bool.true_and, Bool.and_false, Bool.false_and, Bool.and_self, Bool.false_eq_true, if_true, if_false, ite_true, ite_false, reduceIte] <;> decide)).symm.trans h9) (by decide), hI⟩), by rw [ht]; exact hP, va_K.moved hW9.alike hK, hD⟩, hS.F ht⟩) hS.2.2 dX4_body_74
set_option maxHeartbeats 4000000 in
set_option maxRecDepth 100000 in
theorem m_p_row (l : Launch) (dC : Nat → ClassId) (dI : Nat → Nat → Nat) (dA : Nat → ClassId) (ad sz : Nat) (τ : Nat → Nat → Nat) (pv : Nat → Nat → Value) (L : List Nat) (f : Nat → va_E) (hI : kI dA τ pv L f) (mm fa sa aa ia sf mb mr mk : Nat) (hW : kMd τ pv mm fa sa aa ia sf mb mr mk mr) (n k : Int32) (a : UInt32) (b : UInt32) (c9 : UInt32) (d9 : UInt32) (ky : Int32) : Met l yX4_row wsX4_row ({ frames := 3, cells := 0, slots := 0, locals := 71 } : Room) (va_Pc [.ref mm, .int n, .int k, .float a, .float b, .float c9, .float d9, .int ky] (kB dC dI dA ad sz L f)) (va_Qi (fun r u => kPostM dA τ pv mm fa sa aa ia sf mb u) (kR dC dI dA (va_A (va_pl L f) sz)) (va_A (va_pl L f) sz)) 0 0 (va_A (va_pl L f) sz) := by
  refine Met.ofW (cc := cX4_row) (maxL := 9) (ret := (some .int)) (by decide) rfl ?_
  intro p e s m args below meth c s₁ B hml hv
  obtain ⟨rfl, hsz, hP, hK, hD0, hE⟩ := hv
  have hx := B.exec
  have hb := B.bytes
  have hr := B.returns
  have hts := atoms_spec (ws := wsX4_row) B.pre
  have hown : s.vm.findClass RX4 = some m.cls := findClass_of_methodNamed B.named
  have hlocks := B.notSynchronized
  have i_X4 : ∀ w ∈ u_ws RX4 TX4 35, w ∈ wsX4_row := by decide +kernel
  subst hsz
  have hD := hD0.self (sz := s.heap.size)
  generalize hAe : va_A (va_pl L f) s.heap.size = A at hD hE ⊢
  have hA : ∀ q : Nat, s.heap.size ≤ q → A q := fun q h => by rw [← hAe]; exact Or.inr h
  have hS : va_S A s.heap s.heap [] := va_S.rf
  have hP : va_P (dC, dI) vwCl (va_pl L f) s.heap := hP
  have hK : va_K (dC, dI) vwCl (tyA dA) s := hK
  have hl := lv_entry ([.ref mm, .int n, .int k, .float a, .float b, .float c9, .float d9, .int ky]) (n := 9) (Nat.le_of_ble_eq_true rfl)
  rw [lg_entry_eq]
  generalize (lg_sl ([.ref mm, .int n, .int k, .float a, .float b, .float c9, .float d9, .int ky]) ++ List.replicate (9 - (lg_sl ([.ref mm, .int n, .int k, .float a, .float b, .float c9, .float d9, .int ky])).length) Slot.unset).toArray = ls at hl ⊢
  have hl : lv_has ls 9 [(0, .ref mm), (1, .int n), (2, .int k), (3, .float a), (4, .float b), (5, .float c9), (6, .float d9), (7, .int ky)] := hl
  have hnb := hW.lb
  have hnr := hW.lr
  have hnk := hW.lk
  have hni := hW.li
  have hF : kFr kPx τ pv τ pv := kFr.rf
  refine lv_fload_n hx hb dX4_row_0 rfl (lv_at hl 3 rfl) ?_
  refine lv_ldcf (v := 3296722944) hx hb hown (hts (.constantFloat RX4 115 (3296722944)) (by decide +kernel)) dX4_row_1 ?_
  have hc_1 : fb 1149239296 3296722944 := by unfold fb; decide +kernel
  refine lv_ldcf (v := 1149239296) hx hb hown (hts (.constantFloat RX4 116 (1149239296)) (by decide +kernel)) dX4_row_3 ?_
  have hc_2 : fb 1149239296 1149239296 := by unfold fb; decide +kernel
  refine kd_calli (va_runS (As := [.float a, .float 3296722944, .float 1149239296]) (rest := []) ⟨hx, hb, hml, hown, hts⟩ (k_within l dC dI dA ad _ τ pv _ _ hI a 3296722944 1149239296) (va_cwS 3 hts gX4_row_X4_within rfl rfl rfl (by decide +kernel) ⟨Nat.le_of_ble_eq_true rfl, Nat.le_of_ble_eq_true rfl⟩) (kd_preS hP hD hK hS hA hE) rfl rfl hl.1 rfl (lv_room (Nat.le_of_ble_eq_true rfl)) dX4_row_5 ⟨Nat.le_of_ble_eq_true rfl, Nat.le_of_ble_eq_true rfl⟩) hD hS hA (fun r_4 u_3 H locs hw hP hD hS => ?_)
  obtain ⟨⟨k_5, rfl⟩ | ⟨k_5, rfl⟩, hI⟩ := hw
  · have fb_6 : fb 1149239296 a := fb_within hc_1 hc_2 (by decide) k_5
    refine lv_if_eq (tgt := 58) hx hb dX4_row_8 (by decide) (fun h9 => by first | exact absurd h9 (by decide) | exact absurd (by decide) h9) (fun _ => ?_)
    refine lv_fload hx hb dX4_row_11 (lv_at hl 4 rfl) ?_
    refine lv_fconst0 hx hb dX4_row_13 ?_
    refine lv_ldcf (v := 1115684864) hx hb hown (hts (.constantFloat RX4 118 (1115684864)) (by decide +kernel)) dX4_row_14 ?_
    have hc_7 : fb 1115684864 1115684864 := by unfold fb; decide +kernel
    refine kd_calli (va_runS (As := [.float b, .float FP.fconst0, .float 1115684864]) (rest := []) ⟨hx, hb, hml, hown, hts⟩ (k_within l dC dI dA ad _ τ pv _ _ hI b FP.fconst0 1115684864) (va_cwS 3 hts gX4_row_X4_within rfl rfl rfl (by decide +kernel) ⟨Nat.le_of_ble_eq_true rfl, Nat.le_of_ble_eq_true rfl⟩) (kd_preS hP hD hK hS hA hE) rfl rfl hl.1 rfl (lv_room (Nat.le_of_ble_eq_true rfl)) dX4_row_16 ⟨Nat.le_of_ble_eq_true rfl, Nat.le_of_ble_eq_true rfl⟩) hD hS hA (fun r_9 u_8 H locs hw hP hD hS => ?_)
    obtain ⟨⟨k_10, rfl⟩ | ⟨k_10, rfl⟩, hI⟩ := hw
    · have fb_11 : fb 1115684864 b := fb_within (fb_le kc_0 (by decide)) hc_7 (by decide) k_10
      refine lv_if_eq (tgt := 58) hx hb dX4_row_19 (by decide) (fun h9 => by first | exact absurd h9 (by decide) | exact absurd (by decide) h9) (fun _ => ?_)
      refine lv_fload hx hb dX4_row_22 (lv_at hl 5 rfl) ?_
      refine lv_ldcf (v := 3347054592) hx hb hown (hts (.constantFloat RX4 140 (3347054592)) (by decide +kernel)) dX4_row_24 ?_
      have hc_12 : fb 1199570944 3347054592 := by unfold fb; decide +kernel
      refine lv_ldcf (v := 1199570944) hx hb hown (hts (.constantFloat RX4 141 (1199570944)) (by decide +kernel)) dX4_row_26 ?_
      have hc_13 : fb 1199570944 1199570944 := by unfold fb; decide +kernel
      refine kd_calli (va_runS (As := [.float c9, .float 3347054592, .float 1199570944]) (rest := []) ⟨hx, hb, hml, hown, hts⟩ (k_within l dC dI dA ad _ τ pv _ _ hI c9 3347054592 1199570944) (va_cwS 3 hts gX4_row_X4_within rfl rfl rfl (by decide +kernel) ⟨Nat.le_of_ble_eq_true rfl, Nat.le_of_ble_eq_true rfl⟩) (kd_preS hP hD hK hS hA hE) rfl rfl hl.1 rfl (lv_room (Nat.le_of_ble_eq_true rfl)) dX4_row_28 ⟨Nat.le_of_ble_eq_true rfl, Nat.le_of_ble_eq_true rfl⟩) hD hS hA (fun r_15 u_14 H locs hw hP hD hS => ?_)
      obtain ⟨⟨k_16, rfl⟩ | ⟨k_16, rfl⟩, hI⟩ := hw
      · have fb_17 : fb 1199570944 c9 := fb_within hc_12 hc_13 (by decide) k_16
        refine lv_if_eq (tgt := 58) hx hb dX4_row_31 (by decide) (fun h9 => by first | exact absurd h9 (by decide) | exact absurd (by decide) h9) (fun _ => ?_)
        refine lv_fload hx hb dX4_row_34 (lv_at hl 6 rfl) ?_
        refine lv_ldcf (v := 3347054592) hx hb hown (hts (.constantFloat RX4 140 (3347054592)) (by decide +kernel)) dX4_row_36 ?_
        have hc_18 : fb 1199570944 3347054592 := by unfold fb; decide +kernel
        refine lv_ldcf (v := 1199570944) hx hb hown (hts (.constantFloat RX4 141 (1199570944)) (by decide +kernel)) dX4_row_38 ?_
        have hc_19 : fb 1199570944 1199570944 := by unfold fb; decide +kernel
        refine kd_calli (va_runS (As := [.float d9, .float 3347054592, .float 1199570944]) (rest := []) ⟨hx, hb, hml, hown, hts⟩ (k_within l dC dI dA ad _ τ pv _ _ hI d9 3347054592 1199570944) (va_cwS 3 hts gX4_row_X4_within rfl rfl rfl (by decide +kernel) ⟨Nat.le_of_ble_eq_true rfl, Nat.le_of_ble_eq_true rfl⟩) (kd_preS hP hD hK hS hA hE) rfl rfl hl.1 rfl (lv_room (Nat.le_of_ble_eq_true rfl)) dX4_row_40 ⟨Nat.le_of_ble_eq_true rfl, Nat.le_of_ble_eq_true rfl⟩) hD hS hA (fun r_21 u_20 H locs hw hP hD hS => ?_)
        obtain ⟨⟨k_22, rfl⟩ | ⟨k_22, rfl⟩, hI⟩ := hw
        · have fb_23 : fb 1199570944 d9 := fb_within hc_18 hc_19 (by decide) k_22
          refine lv_if_eq (tgt := 58) hx hb dX4_row_43 (by decide) (fun h9 => by first | exact absurd h9 (by decide) | exact absurd (by decide) h9) (fun _ => ?_)
          refine lv_fload hx hb dX4_row_46 (lv_at hl 5 rfl) ?_
          refine lv_fload hx hb dX4_row_48 (lv_at hl 6 rfl) ?_
          refine lv_fcmp hx hb dX4_row_50 ?_
          refine lv_if_gt (tgt := 58) hx hb dX4_row_51 (by decide) (fun c_24 => ?_) (fun c_24 => ?_)
          · refine lv_iconst (v := 0) hx hb dX4_row_58 (by decide) ?_
            refine lv_istore (lv' := [(8, .int 0), (0, .ref mm), (1, .int n), (2, .int k), (3, .float a), (4, .float b), (5, .float c9), (6, .float d9), (7, .int ky)]) hx hb dX4_row_59 hl (by decide) rfl (fun ls hl => ?_)
            refine lv_aload_n hx hb dX4_row_61 rfl (lv_at hl 1 rfl) ?_
            refine lv_aload_n hx hb dX4_row_62 rfl (lv_at hl 1 rfl) ?_
            refine lv_iload_n hx hb dX4_row_63 rfl (lv_at hl 2 rfl) ?_
            refine lv_iload_n hx hb dX4_row_64 rfl (lv_at hl 3 rfl) ?_
            refine kd_calli (va_runV (As := [.int n, .int k]) (rest := [.ref mm]) ⟨hx, hb, hml, hown, hts⟩ (k_pair l dC dI dA ad _ τ pv _ _ hI mm fa sa aa ia sf mb mr mk mr hW n k) (cwV 2 hts gX4_row_X4_pair rfl rfl rfl (by decide +kernel) ⟨Nat.le_of_ble_eq_true rfl, Nat.le_of_ble_eq_true rfl⟩) (kd_preV hP hD hK hS hA hE hI hW.tm rfl rfl) rfl rfl hl.1 rfl (lv_room (Nat.le_of_ble_eq_true rfl)) dX4_row_65 ⟨Nat.le_of_ble_eq_true rfl, Nat.le_of_ble_eq_true rfl⟩) hD hS hA (fun r_26 u_25 H locs hw hP hD hS => ?_)
            obtain ⟨⟨rfl, ⟨j_27, hj_27, rfl⟩, rfl | ⟨j_28, hj_28, rfl⟩⟩ | rfl, hI⟩ := hw
            · refine lv_iload hx hb dX4_row_68 (lv_at hl 0 rfl) ?_
              refine lv_aload_n hx hb dX4_row_70 rfl (lv_at hl 1 rfl) ?_
              refine kp_get hx hb hts i_X4 hown hK hP hI hW.tm rfl rfl 6 (by decide) (by decide) (hts (.fieldLink RX4 129 "IslandSolverModel" "rows" "I") (by decide +kernel)) (fun _ h9 => h9) dX4_row_71 (kq_P (v0 := .int (nI mr)) rfl hW.p6 fun h_30 => ?_)
              refine lv_sipush (v := 1024) hx hb dX4_row_74 (by decide) ?_
              refine lv_icmp_ge (tgt := 84) hx hb dX4_row_77 (by decide) (fun c_31 => ?_) (fun c_31 => ?_)
              · have n_32 : 1024 ≤ mr := (nI_leI (by omega) (by omega)).mp (show nI 1024 ≤ nI mr from c_31)
                refine lv_iconst (v := 0) hx hb dX4_row_84 (by decide) ?_
                refine kd_calli (va_runV (As := [.int 1, .int 0, .int 0]) (rest := []) ⟨hx, hb, hml, hown, hts⟩ (k_goes3 l dC dI dA ad _ τ pv _ _ hI mm fa sa aa ia sf mb mr mk mr hW 0) (cwV 3 hts gX4_row_X4_goes rfl rfl rfl (by decide +kernel) ⟨Nat.le_of_ble_eq_true rfl, Nat.le_of_ble_eq_true rfl⟩) (kd_preV hP hD hK hS hA hE hI hW.tm rfl rfl) rfl rfl hl.1 rfl (lv_room (Nat.le_of_ble_eq_true rfl)) dX4_row_85 ⟨Nat.le_of_ble_eq_true rfl, Nat.le_of_ble_eq_true rfl⟩) hD hS hA (fun r_34 u_33 H locs hw hP hD hS => ?_)
                obtain ⟨rfl, hI⟩ := hw
                have hF := hF.trans (kFr.up (P := kPx) (w := .int 2) (k := 0) hW.tm rfl)
                have hW := hW.frw (kFr.up (P := kPy mr) (w := .int 2) (k := 0) hW.tm rfl)
                refine lv_if_ne (tgt := 93) hx hb dX4_row_88 (by decide) (fun h9 => by first | exact absurd h9 (by decide) | exact absurd (by decide) h9) (fun _ => ?_)
                refine lv_iconst (v := 0) hx hb dX4_row_91 (by decide) ?_
                refine W.widen (k := 0) (n := 0) (Nat.le_of_ble_eq_true rfl) (Nat.le_of_ble_eq_true rfl) ?_
                exact W.iret (v := 0) hx hb hr (fun t ht hW9 => ⟨⟨0, (u_33.1, u_33.2), rfl, ⟨_, _, _, hF, hW, hI⟩, by rw [ht]; exact hP, va_K.moved hW9.alike hK, hD⟩, hS.F ht⟩) hS.2.2 dX4_row_92
              · have n_35 : ¬ 1024 ≤ mr := fun h9 => (show ¬ nI 1024 ≤ nI mr from c_31) ((nI_leI (by omega) (by omega)).mpr h9)
                refine lv_iconst (v := 1) hx hb dX4_row_80 (by decide) ?_
                refine lv_goto (tgt := 85) hx hb dX4_row_81 (by decide) ?_
                refine kd_calli (va_runV (As := [.int 1, .int 0, .int 1]) (rest := []) ⟨hx, hb, hml, hown, hts⟩ (k_goes3 l dC dI dA ad _ τ pv _ _ hI mm fa sa aa ia sf mb mr mk mr hW 1) (cwV 3 hts gX4_row_X4_goes rfl rfl rfl (by decide +kernel) ⟨Nat.le_of_ble_eq_true rfl, Nat.le_of_ble_eq_true rfl⟩) (kd_preV hP hD hK hS hA hE hI hW.tm rfl rfl) rfl rfl hl.1 rfl (lv_room (Nat.le_of_ble_eq_true rfl)) dX4_row_85 ⟨Nat.le_of_ble_eq_true rfl, Nat.le_of_ble_eq_true rfl⟩) hD hS hA (fun r_37 u_36 H locs hw hP hD hS => ?_)
                obtain ⟨rfl, hI⟩ := hw
                have hF := hF.trans (kFr.up (P := kPx) (w := .int 2) (k := 0) hW.tm rfl)
                have hW := hW.frw (kFr.up (P := kPy mr) (w := .int 2) (k := 0) hW.tm rfl)
                refine lv_if_ne (tgt := 93) hx hb dX4_row_88 (by decide) (fun h9 => by first | exact absurd h9 (by decide) | exact absurd (by decide) h9) (fun _ => ?_)
                refine lv_iconst (v := 0) hx hb dX4_row_91 (by decide) ?_
                refine W.widen (k := 0) (n := 0) (Nat.le_of_ble_eq_true rfl) (Nat.le_of_ble_eq_true rfl) ?_
                exact W.iret (v := 0) hx hb hr (fun t ht hW9 => ⟨⟨0, (u_36.1, u_36.2), rfl, ⟨_, _, _, hF, hW, hI⟩, by rw [ht]; exact hP, va_K.moved hW9.alike hK, hD⟩, hS.F ht⟩) hS.2.2 dX4_row_92
            · refine lv_iload hx hb dX4_row_68 (lv_at hl 0 rfl) ?_
              refine lv_aload_n hx hb dX4_row_70 rfl (lv_at hl 1 rfl) ?_
              refine kp_get hx hb hts i_X4 hown hK hP hI hW.tm rfl rfl 6 (by decide) (by decide) (hts (.fieldLink RX4 129 "IslandSolverModel" "rows" "I") (by decide +kernel)) (fun _ h9 => h9) dX4_row_71 (kq_P (v0 := .int (nI mr)) rfl hW.p6 fun h_39 => ?_)
              refine lv_sipush (v := 1024) hx hb dX4_row_74 (by decide) ?_
              refine lv_icmp_ge (tgt := 84) hx hb dX4_row_77 (by decide) (fun c_40 => ?_) (fun c_40 => ?_)
              · have n_41 : 1024 ≤ mr := (nI_leI (by omega) (by omega)).mp (show nI 1024 ≤ nI mr from c_40)
                refine lv_iconst (v := 0) hx hb dX4_row_84 (by decide) ?_
                refine kd_calli (va_runV (As := [.int 1, .int 0, .int 0]) (rest := []) ⟨hx, hb, hml, hown, hts⟩ (k_goes3 l dC dI dA ad _ τ pv _ _ hI mm fa sa aa ia sf mb mr mk mr hW 0) (cwV 3 hts gX4_row_X4_goes rfl rfl rfl (by decide +kernel) ⟨Nat.le_of_ble_eq_true rfl, Nat.le_of_ble_eq_true rfl⟩) (kd_preV hP hD hK hS hA hE hI hW.tm rfl rfl) rfl rfl hl.1 rfl (lv_room (Nat.le_of_ble_eq_true rfl)) dX4_row_85 ⟨Nat.le_of_ble_eq_true rfl, Nat.le_of_ble_eq_true rfl⟩) hD hS hA (fun r_43 u_42 H locs hw hP hD hS => ?_)
                obtain ⟨rfl, hI⟩ := hw
                have hF := hF.trans (kFr.up (P := kPx) (w := .int 2) (k := 0) hW.tm rfl)
                have hW := hW.frw (kFr.up (P := kPy mr) (w := .int 2) (k := 0) hW.tm rfl)
                refine lv_if_ne (tgt := 93) hx hb dX4_row_88 (by decide) (fun h9 => by first | exact absurd h9 (by decide) | exact absurd (by decide) h9) (fun _ => ?_)
                refine lv_iconst (v := 0) hx hb dX4_row_91 (by decide) ?_
                refine W.widen (k := 0) (n := 0) (Nat.le_of_ble_eq_true rfl) (Nat.le_of_ble_eq_true rfl) ?_
                exact W.iret (v := 0) hx hb hr (fun t ht hW9 => ⟨⟨0, (u_42.1, u_42.2), rfl, ⟨_, _, _, hF, hW, hI⟩, by rw [ht]; exact hP, va_K.moved hW9.alike hK, hD⟩, hS.F ht⟩) hS.2.2 dX4_row_92
              · have n_44 : ¬ 1024 ≤ mr := fun h9 => (show ¬ nI 1024 ≤ nI mr from c_40) ((nI_leI (by omega) (by omega)).mpr h9)
                refine lv_iconst (v := 1) hx hb dX4_row_80 (by decide) ?_
                refine lv_goto (tgt := 85) hx hb dX4_row_81 (by decide) ?_
                refine kd_calli (va_runV (As := [.int 1, .int 0, .int 1]) (rest := []) ⟨hx, hb, hml, hown, hts⟩ (k_goes3 l dC dI dA ad _ τ pv _ _ hI mm fa sa aa ia sf mb mr mk mr hW 1) (cwV 3 hts gX4_row_X4_goes rfl rfl rfl (by decide +kernel) ⟨Nat.le_of_ble_eq_true rfl, Nat.le_of_ble_eq_true rfl⟩) (kd_preV hP hD hK hS hA hE hI hW.tm rfl rfl) rfl rfl hl.1 rfl (lv_room (Nat.le_of_ble_eq_true rfl)) dX4_row_85 ⟨Nat.le_of_ble_eq_true rfl, Nat.le_of_ble_eq_true rfl⟩) hD hS hA (fun r_46 u_45 H locs hw hP hD hS => ?_)
                obtain ⟨rfl, hI⟩ := hw
                have hF := hF.trans (kFr.up (P := kPx) (w := .int 2) (k := 0) hW.tm rfl)
                have hW := hW.frw (kFr.up (P := kPy mr) (w := .int 2) (k := 0) hW.tm rfl)
                refine lv_if_ne (tgt := 93) hx hb dX4_row_88 (by decide) (fun h9 => by first | exact absurd h9 (by decide) | exact absurd (by decide) h9) (fun _ => ?_)
                refine lv_iconst (v := 0) hx hb dX4_row_91 (by decide) ?_
                refine W.widen (k := 0) (n := 0) (Nat.le_of_ble_eq_true rfl) (Nat.le_of_ble_eq_true rfl) ?_
                exact W.iret (v := 0) hx hb hr (fun t ht hW9 => ⟨⟨0, (u_45.1, u_45.2), rfl, ⟨_, _, _, hF, hW, hI⟩, by rw [ht]; exact hP, va_K.moved hW9.alike hK, hD⟩, hS.F ht⟩) hS.2.2 dX4_row_92
            · refine lv_iload hx hb dX4_row_68 (lv_at hl 0 rfl) ?_
              refine lv_aload_n hx hb dX4_row_70 rfl (lv_at hl 1 rfl) ?_
              refine kp_get hx hb hts i_X4 hown hK hP hI hW.tm rfl rfl 6 (by decide) (by decide) (hts (.fieldLink RX4 129 "IslandSolverModel" "rows" "I") (by decide +kernel)) (fun _ h9 => h9) dX4_row_71 (kq_P (v0 := .int (nI mr)) rfl hW.p6 fun h_48 => ?_)
              refine lv_sipush (v := 1024) hx hb dX4_row_74 (by decide) ?_
              refine lv_icmp_ge (tgt := 84) hx hb dX4_row_77 (by decide) (fun c_49 => ?_) (fun c_49 => ?_)
              · have n_50 : 1024 ≤ mr := (nI_leI (by omega) (by omega)).mp (show nI 1024 ≤ nI mr from c_49)
                refine lv_iconst (v := 0) hx hb dX4_row_84 (by decide) ?_
                refine kd_calli (va_runV (As := [.int 0, .int 0, .int 0]) (rest := []) ⟨hx, hb, hml, hown, hts⟩ (k_goes2 l dC dI dA ad _ τ pv _ _ hI mm fa sa aa ia sf mb mr mk mr hW 0 0) (cwV 3 hts gX4_row_X4_goes rfl rfl rfl (by decide +kernel) ⟨Nat.le_of_ble_eq_true rfl, Nat.le_of_ble_eq_true rfl⟩) (kd_preV hP hD hK hS hA hE hI hW.tm rfl rfl) rfl rfl hl.1 rfl (lv_room (Nat.le_of_ble_eq_true rfl)) dX4_row_85 ⟨Nat.le_of_ble_eq_true rfl, Nat.le_of_ble_eq_true rfl⟩) hD hS hA (fun r_52 u_51 H locs hw hP hD hS => ?_)
                obtain ⟨rfl, hI⟩ := hw
                have hF := hF.trans (kFr.up (P := kPx) (w := .int 1) (k := 0) hW.tm rfl)
                have hW := hW.frw (kFr.up (P := kPy mr) (w := .int 1) (k := 0) hW.tm rfl)
                refine lv_if_ne (tgt := 93) hx hb dX4_row_88 (by decide) (fun h9 => by first | exact absurd h9 (by decide) | exact absurd (by decide) h9) (fun _ => ?_)
                refine lv_iconst (v := 0) hx hb dX4_row_91 (by decide) ?_
                refine W.widen (k := 0) (n := 0) (Nat.le_of_ble_eq_true rfl) (Nat.le_of_ble_eq_true rfl) ?_
                exact W.iret (v := 0) hx hb hr (fun t ht hW9 => ⟨⟨0, (u_51.1, u_51.2), rfl, ⟨_, _, _, hF, hW, hI⟩, by rw [ht]; exact hP, va_K.moved hW9.alike hK, hD⟩, hS.F ht⟩) hS.2.2 dX4_row_92
              · have n_53 : ¬ 1024 ≤ mr := fun h9 => (show ¬ nI 1024 ≤ nI mr from c_49) ((nI_leI (by omega) (by omega)).mpr h9)
                refine lv_iconst (v := 1) hx hb dX4_row_80 (by decide) ?_
                refine lv_goto (tgt := 85) hx hb dX4_row_81 (by decide) ?_
                refine kd_calli (va_runV (As := [.int 0, .int 0, .int 1]) (rest := []) ⟨hx, hb, hml, hown, hts⟩ (k_goes2 l dC dI dA ad _ τ pv _ _ hI mm fa sa aa ia sf mb mr mk mr hW 0 1) (cwV 3 hts gX4_row_X4_goes rfl rfl rfl (by decide +kernel) ⟨Nat.le_of_ble_eq_true rfl, Nat.le_of_ble_eq_true rfl⟩) (kd_preV hP hD hK hS hA hE hI hW.tm rfl rfl) rfl rfl hl.1 rfl (lv_room (Nat.le_of_ble_eq_true rfl)) dX4_row_85 ⟨Nat.le_of_ble_eq_true rfl, Nat.le_of_ble_eq_true rfl⟩) hD hS hA (fun r_55 u_54 H locs hw hP hD hS => ?_)
                obtain ⟨rfl, hI⟩ := hw
                have hF := hF.trans (kFr.up (P := kPx) (w := .int 1) (k := 0) hW.tm rfl)
                have hW := hW.frw (kFr.up (P := kPy mr) (w := .int 1) (k := 0) hW.tm rfl)
                refine lv_if_ne (tgt := 93) hx hb dX4_row_88 (by decide) (fun h9 => by first | exact absurd h9 (by decide) | exact absurd (by decide) h9) (fun _ => ?_)
                refine lv_iconst (v := 0) hx hb dX4_row_91 (by decide) ?_
                refine W.widen (k := 0) (n := 0) (Nat.le_of_ble_eq_true rfl) (Nat.le_of_ble_eq_true rfl) ?_
                exact W.iret (v := 0) hx hb hr (fun t ht hW9 => ⟨⟨0, (u_54.1, u_54.2), rfl, ⟨_, _, _, hF, hW, hI⟩, by rw [ht]; exact hP, va_K.moved hW9.alike hK, hD⟩, hS.F ht⟩) hS.2.2 dX4_row_92
          · refine lv_iconst (v := 1) hx hb dX4_row_54 (by decide) ?_
            refine lv_goto (tgt := 59) hx hb dX4_row_55 (by decide) ?_
            refine lv_istore (lv' := [(8, .int 1), (0, .ref mm), (1, .int n), (2, .int k), (3, .float a), (4, .float b), (5, .float c9), (6, .float d9), (7, .int ky)]) hx hb dX4_row_59 hl (by decide) rfl (fun ls hl => ?_)
            refine lv_aload_n hx hb dX4_row_61 rfl (lv_at hl 1 rfl) ?_
            refine lv_aload_n hx hb dX4_row_62 rfl (lv_at hl 1 rfl) ?_
            refine lv_iload_n hx hb dX4_row_63 rfl (lv_at hl 2 rfl) ?_
            refine lv_iload_n hx hb dX4_row_64 rfl (lv_at hl 3 rfl) ?_
            refine kd_calli (va_runV (As := [.int n, .int k]) (rest := [.ref mm]) ⟨hx, hb, hml, hown, hts⟩ (k_pair l dC dI dA ad _ τ pv _ _ hI mm fa sa aa ia sf mb mr mk mr hW n k) (cwV 2 hts gX4_row_X4_pair rfl rfl rfl (by decide +kernel) ⟨Nat.le_of_ble_eq_true rfl, Nat.le_of_ble_eq_true rfl⟩) (kd_preV hP hD hK hS hA hE hI hW.tm rfl rfl) rfl rfl hl.1 rfl (lv_room (Nat.le_of_ble_eq_true rfl)) dX4_row_65 ⟨Nat.le_of_ble_eq_true rfl, Nat.le_of_ble_eq_true rfl⟩) hD hS hA (fun r_57 u_56 H locs hw hP hD hS => ?_)
            obtain ⟨⟨rfl, ⟨j_58, hj_58, rfl⟩, rfl | ⟨j_59, hj_59, rfl⟩⟩ | rfl, hI⟩ := hw
            · refine lv_iload hx hb dX4_row_68 (lv_at hl 0 rfl) ?_
              refine lv_aload_n hx hb dX4_row_70 rfl (lv_at hl 1 rfl) ?_
              refine kp_get hx hb hts i_X4 hown hK hP hI hW.tm rfl rfl 6 (by decide) (by decide) (hts (.fieldLink RX4 129 "IslandSolverModel" "rows" "I") (by decide +kernel)) (fun _ h9 => h9) dX4_row_71 (kq_P (v0 := .int (nI mr)) rfl hW.p6 fun h_61 => ?_)
              refine lv_sipush (v := 1024) hx hb dX4_row_74 (by decide) ?_
              refine lv_icmp_ge (tgt := 84) hx hb dX4_row_77 (by decide) (fun c_62 => ?_) (fun c_62 => ?_)
              · have n_63 : 1024 ≤ mr := (nI_leI (by omega) (by omega)).mp (show nI 1024 ≤ nI mr from c_62)
                refine lv_iconst (v := 0) hx hb dX4_row_84 (by decide) ?_
                refine kd_calli (va_runV (As := [.int 1, .int 1, .int 0]) (rest := []) ⟨hx, hb, hml, hown, hts⟩ (k_goes4 l dC dI dA ad _ τ pv _ _ hI mm fa sa aa ia sf mb mr mk mr hW ) (cwV 3 hts gX4_row_X4_goes rfl rfl rfl (by decide +kernel) ⟨Nat.le_of_ble_eq_true rfl, Nat.le_of_ble_eq_true rfl⟩) (kd_preV hP hD hK hS hA hE hI hW.tm rfl rfl) rfl rfl hl.1 rfl (lv_room (Nat.le_of_ble_eq_true rfl)) dX4_row_85 ⟨Nat.le_of_ble_eq_true rfl, Nat.le_of_ble_eq_true rfl⟩) hD hS hA (fun r_65 u_64 H locs hw hP hD hS => ?_)
                obtain ⟨rfl, hI⟩ := hw
                have hF := hF.trans (kFr.up (P := kPx) (w := .int 3) (k := 0) hW.tm rfl)
                have hW := hW.frw (kFr.up (P := kPy mr) (w := .int 3) (k := 0) hW.tm rfl)
                refine lv_if_ne (tgt := 93) hx hb dX4_row_88 (by decide) (fun h9 => by first | exact absurd h9 (by decide) | exact absurd (by decide) h9) (fun _ => ?_)
                refine lv_iconst (v := 0) hx hb dX4_row_91 (by decide) ?_
                refine W.widen (k := 0) (n := 0) (Nat.le_of_ble_eq_true rfl) (Nat.le_of_ble_eq_true rfl) ?_
                exact W.iret (v := 0) hx hb hr (fun t ht hW9 => ⟨⟨0, (u_64.1, u_64.2), rfl, ⟨_, _, _, hF, hW, hI⟩, by rw [ht]; exact hP, va_K.moved hW9.alike hK, hD⟩, hS.F ht⟩) hS.2.2 dX4_row_92
              · have n_66 : ¬ 1024 ≤ mr := fun h9 => (show ¬ nI 1024 ≤ nI mr from c_62) ((nI_leI (by omega) (by omega)).mpr h9)
                refine lv_iconst (v := 1) hx hb dX4_row_80 (by decide) ?_
                refine lv_goto (tgt := 85) hx hb dX4_row_81 (by decide) ?_
                refine kd_calli (va_runV (As := [.int 1, .int 1, .int 1]) (rest := []) ⟨hx, hb, hml, hown, hts⟩ (k_goes1 l dC dI dA ad _ τ pv _ _ hI mm fa sa aa ia sf mb mr mk mr hW ) (cwV 3 hts gX4_row_X4_goes rfl rfl rfl (by decide +kernel) ⟨Nat.le_of_ble_eq_true rfl, Nat.le_of_ble_eq_true rfl⟩) (kd_preV hP hD hK hS hA hE hI hW.tm rfl rfl) rfl rfl hl.1 rfl (lv_room (Nat.le_of_ble_eq_true rfl)) dX4_row_85 ⟨Nat.le_of_ble_eq_true rfl, Nat.le_of_ble_eq_true rfl⟩) hD hS hA (fun r_68 u_67 H locs hw hP hD hS => ?_)
                obtain ⟨rfl, hI⟩ := hw
                have hF := hF.trans (kFr.up (P := kPx) (w := .int 0) (k := 0) hW.tm rfl)
                have hW := hW.frw (kFr.up (P := kPy mr) (w := .int 0) (k := 0) hW.tm rfl)
                refine lv_if_ne (tgt := 93) hx hb dX4_row_88 (by decide) (fun _ => ?_) (fun h9 => by first | exact absurd h9 (by decide) | exact absurd (by decide) h9)
                refine lv_aload_n hx hb dX4_row_93 rfl (lv_at hl 1 rfl) ?_
                refine kp_get hx hb hts i_X4 hown hK hP hI hW.tm rfl rfl 11 (by decide) (by decide) (hts (.fieldLink RX4 36 "IslandSolverModel" "softs" "[F") (by decide +kernel)) (fun _ h9 => h9) dX4_row_94 (kq_RE 23 (by decide) fun x_69 h_70_e h_70 => ?_)
                refine lv_aload_n hx hb dX4_row_97 rfl (lv_at hl 1 rfl) ?_
                refine kp_get hx hb hts i_X4 hown hK hP hI hW.tm rfl rfl 6 (by decide) (by decide) (hts (.fieldLink RX4 129 "IslandSolverModel" "rows" "I") (by decide +kernel)) (fun _ h9 => h9) dX4_row_98 (kq_P (v0 := .int (nI mr)) rfl hW.p6 fun h_72 => ?_)
                refine lv_fload hx hb dX4_row_101 (lv_at hl 5 rfl) ?_
                have hj_73 : mr < τ 3 x_69 := by rw [show τ 3 x_69 = 1024 from (hI.arr h_70 rfl).2.1]; omega
                refine W.eq (g2 := F0 m 103 ls (.float b :: .int (nI (mr)) :: .ref x_69 :: [])) rfl ?_
                refine kp_fastX (pv' := (kup pv mm 0 (.int 0))) (j := mr) hx hb hK hP hD hS hI h_70 rfl hj_73 (fun _ _ _ => rfl) (show kPr _ 1115684864 _ _ from (kv_F (by decide) fb_11)) (kPn_not rfl (by decide)) dX4_row_103 (fun f H locs hI hP hD hS => ?_)
                refine lv_aload_n hx hb dX4_row_104 rfl (lv_at hl 1 rfl) ?_
                refine kp_get hx hb hts i_X4 hown hK hP hI hW.tm rfl rfl 12 (by decide) (by decide) (hts (.fieldLink RX4 39 "IslandSolverModel" "lows" "[F") (by decide +kernel)) (fun _ h9 => h9) dX4_row_105 (kq_RE 24 (by decide) fun x_74 h_75_e h_75 => ?_)
                refine lv_aload_n hx hb dX4_row_108 rfl (lv_at hl 1 rfl) ?_
                refine kp_get hx hb hts i_X4 hown hK hP hI hW.tm rfl rfl 6 (by decide) (by decide) (hts (.fieldLink RX4 129 "IslandSolverModel" "rows" "I") (by decide +kernel)) (fun _ h9 => h9) dX4_row_109 (kq_P (v0 := .int (nI mr)) rfl hW.p6 fun h_77 => ?_)
                refine lv_fload hx hb dX4_row_112 (lv_at hl 6 rfl) ?_
                have hj_78 : mr < τ 3 x_74 := by rw [show τ 3 x_74 = 1024 from (hI.arr h_75 rfl).2.1]; omega
                refine W.eq (g2 := F0 m 114 ls (.float c9 :: .int (nI (mr)) :: .ref x_74 :: [])) rfl ?_
                refine kp_fastX (pv' := (kup pv mm 0 (.int 0))) (j := mr) hx hb hK hP hD hS hI h_75 rfl hj_78 (fun _ _ _ => rfl) (show kPr _ 1199570944 _ _ from (kv_F (by decide) fb_17)) (kPn_not rfl (by decide)) dX4_row_114 (fun f H locs hI hP hD hS => ?_)
                refine lv_aload_n hx hb dX4_row_115 rfl (lv_at hl 1 rfl) ?_
                refine kp_get hx hb hts i_X4 hown hK hP hI hW.tm rfl rfl 13 (by decide) (by decide) (hts (.fieldLink RX4 42 "IslandSolverModel" "highs" "[F") (by decide +kernel)) (fun _ h9 => h9) dX4_row_116 (kq_RE 25 (by decide) fun x_79 h_80_e h_80 => ?_)
                refine lv_aload_n hx hb dX4_row_119 rfl (lv_at hl 1 rfl) ?_
                refine kp_get hx hb hts i_X4 hown hK hP hI hW.tm rfl rfl 6 (by decide) (by decide) (hts (.fieldLink RX4 129 "IslandSolverModel" "rows" "I") (by decide +kernel)) (fun _ h9 => h9) dX4_row_120 (kq_P (v0 := .int (nI mr)) rfl hW.p6 fun h_82 => ?_)
                refine lv_fload hx hb dX4_row_123 (lv_at hl 7 rfl) ?_
                have hj_83 : mr < τ 3 x_79 := by rw [show τ 3 x_79 = 1024 from (hI.arr h_80 rfl).2.1]; omega
                refine W.eq (g2 := F0 m 125 ls (.float d9 :: .int (nI (mr)) :: .ref x_79 :: [])) rfl ?_
                refine kp_fastX (pv' := (kup pv mm 0 (.int 0))) (j := mr) hx hb hK hP hD hS hI h_80 rfl hj_83 (fun _ _ _ => rfl) (show kPr _ 1199570944 _ _ from (kv_F (by decide) fb_23)) (kPn_not rfl (by decide)) dX4_row_125 (fun f H locs hI hP hD hS => ?_)
                refine lv_aload_n hx hb dX4_row_126 rfl (lv_at hl 1 rfl) ?_
                refine kp_get hx hb hts i_X4 hown hK hP hI hW.tm rfl rfl 14 (by decide) (by decide) (hts (.fieldLink RX4 45 "IslandSolverModel" "frictions" "[F") (by decide +kernel)) (fun _ h9 => h9) dX4_row_127 (kq_RE 26 (by decide) fun x_84 h_85_e h_85 => ?_)
                refine lv_aload_n hx hb dX4_row_130 rfl (lv_at hl 1 rfl) ?_
                refine kp_get hx hb hts i_X4 hown hK hP hI hW.tm rfl rfl 6 (by decide) (by decide) (hts (.fieldLink RX4 129 "IslandSolverModel" "rows" "I") (by decide +kernel)) (fun _ h9 => h9) dX4_row_131 (kq_P (v0 := .int (nI mr)) rfl hW.p6 fun h_87 => ?_)
                refine lv_fconst0 hx hb dX4_row_134 ?_
                have hj_88 : mr < τ 3 x_84 := by rw [show τ 3 x_84 = 1024 from (hI.arr h_85 rfl).2.1]; omega
                refine W.eq (g2 := F0 m 135 ls (.float FP.fconst0 :: .int (nI (mr)) :: .ref x_84 :: [])) rfl ?_
                refine kp_fastX (pv' := (kup pv mm 0 (.int 0))) (j := mr) hx hb hK hP hD hS hI h_85 rfl hj_88 (fun _ _ _ => rfl) (show kPr _ 1090519040 _ _ from (kv_F (by decide) (fb_le kc_0 (by decide)))) (kPn_not rfl (by decide)) dX4_row_135 (fun f H locs hI hP hD hS => ?_)
                refine lv_aload_n hx hb dX4_row_136 rfl (lv_at hl 1 rfl) ?_
                refine kp_get hx hb hts i_X4 hown hK hP hI hW.tm rfl rfl 15 (by decide) (by decide) (hts (.fieldLink RX4 48 "IslandSolverModel" "ats" "[I") (by decide +kernel)) (fun _ h9 => h9) dX4_row_137 (kq_P (v0 := .ref aa) rfl hW.p15 fun h_90 => ?_)
                refine lv_aload_n hx hb dX4_row_140 rfl (lv_at hl 1 rfl) ?_
                refine kp_get hx hb hts i_X4 hown hK hP hI hW.tm rfl rfl 6 (by decide) (by decide) (hts (.fieldLink RX4 129 "IslandSolverModel" "rows" "I") (by decide +kernel)) (fun _ h9 => h9) dX4_row_141 (kq_P (v0 := .int (nI mr)) rfl hW.p6 fun h_92 => ?_)
                refine lv_iconst (v := (-1)) hx hb dX4_row_144 (by decide) ?_
                have hj_93 : mr < τ 3 aa := by rw [show τ 3 aa = 1024 from (hI.arr hW.ta rfl).2.1]; omega
                refine W.eq (g2 := F0 m 145 ls (.int (-1) :: .int (nI (mr)) :: .ref aa :: [])) rfl ?_
                refine kp_iastX (pv' := (kup (kup pv mm 0 (.int 0)) aa (mr) (.int (-1)))) (j := mr) hx hb hK hP hD hS hI hW.ta rfl hj_93 (fun _ _ h9 => kup_ne h9) (show kPr _ 0 _ _ from (kv_I _)) ((kPn_pin rfl).mpr kup_self.symm) dX4_row_145 (fun f H locs hI hP hD hS => ?_)
                have hF := hF.trans (kFr.up (P := kPx) (w := .int (-1)) (k := mr) hW.ta rfl)
                have hW := hW.frw (kFr.up (P := kPy mr) (w := .int (-1)) (k := mr) hW.ta (by simp [kPy]))
                refine lv_aload_n hx hb dX4_row_146 rfl (lv_at hl 1 rfl) ?_
                refine lv_iload_n hx hb dX4_row_147 rfl (lv_at hl 2 rfl) ?_
                refine lv_iload_n hx hb dX4_row_148 rfl (lv_at hl 3 rfl) ?_
                refine lv_fload_n hx hb dX4_row_149 rfl (lv_at hl 4 rfl) ?_
                refine lv_iload hx hb dX4_row_150 (lv_at hl 8 rfl) ?_
                refine kd_calli (va_runV (As := [.int (nI j_58), .int (-1), .float a, .int ky]) (rest := []) ⟨hx, hb, hml, hown, hts⟩ (k_make0 l dC dI dA ad _ τ (kup (kup pv mm 0 (.int 0)) aa (mr) (.int (-1))) _ _ hI mm fa sa aa ia sf mb mr mk mr hW j_58 (by omega) a fb_6 ky (by omega) rfl 0 kup_self (Nat.zero_le _) (fun k h => by cases h)) (cwV 4 hts gX4_row_X4_make rfl rfl rfl (by decide +kernel) ⟨Nat.le_of_ble_eq_true rfl, Nat.le_of_ble_eq_true rfl⟩) (kd_preV hP hD hK hS hA hE hI hW.tm rfl rfl) rfl rfl hl.1 rfl (lv_room (Nat.le_of_ble_eq_true rfl)) dX4_row_152 ⟨Nat.le_of_ble_eq_true rfl, Nat.le_of_ble_eq_true rfl⟩) hD hS hA (fun r_95 u_94 H locs hw hP hD hS => ?_)
                obtain ⟨rfl, pv, hF9, hW, hI⟩ := hw
                have hF := hF.trans hF9
                refine W.widen (k := 0) (n := 0) (Nat.le_of_ble_eq_true rfl) (Nat.le_of_ble_eq_true rfl) ?_
                exact W.iret (v := nI mr) hx hb hr (fun t ht hW9 => ⟨⟨nI mr, (u_94.1, u_94.2), rfl, ⟨_, (mr + 1), _, hF, hW, hI⟩, by rw [ht]; exact hP, va_K.moved hW9.alike hK, hD⟩, hS.F ht⟩) hS.2.2 dX4_row_155
            · refine lv_iload hx hb dX4_row_68 (lv_at hl 0 rfl) ?_
              refine lv_aload_n hx hb dX4_row_70 rfl (lv_at hl 1 rfl) ?_
              refine kp_get hx hb hts i_X4 hown hK hP hI hW.tm rfl rfl 6 (by decide) (by decide) (hts (.fieldLink RX4 129 "IslandSolverModel" "rows" "I") (by decide +kernel)) (fun _ h9 => h9) dX4_row_71 (kq_P (v0 := .int (nI mr)) rfl hW.p6 fun h_97 => ?_)
              refine lv_sipush (v := 1024) hx hb dX4_row_74 (by decide) ?_
              refine lv_icmp_ge (tgt := 84) hx hb dX4_row_77 (by decide) (fun c_98 => ?_) (fun c_98 => ?_)
              · have n_99 : 1024 ≤ mr := (nI_leI (by omega) (by omega)).mp (show nI 1024 ≤ nI mr from c_98)
                refine lv_iconst (v := 0) hx hb dX4_row_84 (by decide) ?_
                refine kd_calli (va_runV (As := [.int 1, .int 1, .int 0]) (rest := []) ⟨hx, hb, hml, hown, hts⟩ (k_goes4 l dC dI dA ad _ τ pv _ _ hI mm fa sa aa ia sf mb mr mk mr hW ) (cwV 3 hts gX4_row_X4_goes rfl rfl rfl (by decide +kernel) ⟨Nat.le_of_ble_eq_true rfl, Nat.le_of_ble_eq_true rfl⟩) (kd_preV hP hD hK hS hA hE hI hW.tm rfl rfl) rfl rfl hl.1 rfl (lv_room (Nat.le_of_ble_eq_true rfl)) dX4_row_85 ⟨Nat.le_of_ble_eq_true rfl, Nat.le_of_ble_eq_true rfl⟩) hD hS hA (fun r_101 u_100 H locs hw hP hD hS => ?_)
                obtain ⟨rfl, hI⟩ := hw
                have hF := hF.trans (kFr.up (P := kPx) (w := .int 3) (k := 0) hW.tm rfl)
                have hW := hW.frw (kFr.up (P := kPy mr) (w := .int 3) (k := 0) hW.tm rfl)
                refine lv_if_ne (tgt := 93) hx hb dX4_row_88 (by decide) (fun h9 => by first | exact absurd h9 (by decide) | exact absurd (by decide) h9) (fun _ => ?_)
                refine lv_iconst (v := 0) hx hb dX4_row_91 (by decide) ?_
                refine W.widen (k := 0) (n := 0) (Nat.le_of_ble_eq_true rfl) (Nat.le_of_ble_eq_true rfl) ?_
                exact W.iret (v := 0) hx hb hr (fun t ht hW9 => ⟨⟨0, (u_100.1, u_100.2), rfl, ⟨_, _, _, hF, hW, hI⟩, by rw [ht]; exact hP, va_K.moved hW9.alike hK, hD⟩, hS.F ht⟩) hS.2.2 dX4_row_92
              · have n_102 : ¬ 1024 ≤ mr := fun h9 => (show ¬ nI 1024 ≤ nI mr from c_98) ((nI_leI (by omega) (by omega)).mpr h9)
                refine lv_iconst (v := 1) hx hb dX4_row_80 (by decide) ?_
                refine lv_goto (tgt := 85) hx hb dX4_row_81 (by decide) ?_
                refine kd_calli (va_runV (As := [.int 1, .int 1, .int 1]) (rest := []) ⟨hx, hb, hml, hown, hts⟩ (k_goes1 l dC dI dA ad _ τ pv _ _ hI mm fa sa aa ia sf mb mr mk mr hW ) (cwV 3 hts gX4_row_X4_goes rfl rfl rfl (by decide +kernel) ⟨Nat.le_of_ble_eq_true rfl, Nat.le_of_ble_eq_true rfl⟩) (kd_preV hP hD hK hS hA hE hI hW.tm rfl rfl) rfl rfl hl.1 rfl (lv_room (Nat.le_of_ble_eq_true rfl)) dX4_row_85 ⟨Nat.le_of_ble_eq_true rfl, Nat.le_of_ble_eq_true rfl⟩) hD hS hA (fun r_104 u_103 H locs hw hP hD hS => ?_)
                obtain ⟨rfl, hI⟩ := hw
                have hF := hF.trans (kFr.up (P := kPx) (w := .int 0) (k := 0) hW.tm rfl)
                have hW := hW.frw (kFr.up (P := kPy mr) (w := .int 0) (k := 0) hW.tm rfl)
                refine lv_if_ne (tgt := 93) hx hb dX4_row_88 (by decide) (fun _ => ?_) (fun h9 => by first | exact absurd h9 (by decide) | exact absurd (by decide) h9)
                refine lv_aload_n hx hb dX4_row_93 rfl (lv_at hl 1 rfl) ?_
                refine kp_get hx hb hts i_X4 hown hK hP hI hW.tm rfl rfl 11 (by decide) (by decide) (hts (.fieldLink RX4 36 "IslandSolverModel" "softs" "[F") (by decide +kernel)) (fun _ h9 => h9) dX4_row_94 (kq_RE 23 (by decide) fun x_105 h_106_e h_106 => ?_)
                refine lv_aload_n hx hb dX4_row_97 rfl (lv_at hl 1 rfl) ?_
                refine kp_get hx hb hts i_X4 hown hK hP hI hW.tm rfl rfl 6 (by decide) (by decide) (hts (.fieldLink RX4 129 "IslandSolverModel" "rows" "I") (by decide +kernel)) (fun _ h9 => h9) dX4_row_98 (kq_P (v0 := .int (nI mr)) rfl hW.p6 fun h_108 => ?_)
                refine lv_fload hx hb dX4_row_101 (lv_at hl 5 rfl) ?_
                have hj_109 : mr < τ 3 x_105 := by rw [show τ 3 x_105 = 1024 from (hI.arr h_106 rfl).2.1]; omega
                refine W.eq (g2 := F0 m 103 ls (.float b :: .int (nI (mr)) :: .ref x_105 :: [])) rfl ?_
                refine kp_fastX (pv' := (kup pv mm 0 (.int 0))) (j := mr) hx hb hK hP hD hS hI h_106 rfl hj_109 (fun _ _ _ => rfl) (show kPr _ 1115684864 _ _ from (kv_F (by decide) fb_11)) (kPn_not rfl (by decide)) dX4_row_103 (fun f H locs hI hP hD hS => ?_)
                refine lv_aload_n hx hb dX4_row_104 rfl (lv_at hl 1 rfl) ?_
                refine kp_get hx hb hts i_X4 hown hK hP hI hW.tm rfl rfl 12 (by decide) (by decide) (hts (.fieldLink RX4 39 "IslandSolverModel" "lows" "[F") (by decide +kernel)) (fun _ h9 => h9) dX4_row_105 (kq_RE 24 (by decide) fun x_110 h_111_e h_111 => ?_)
                refine lv_aload_n hx hb dX4_row_108 rfl (lv_at hl 1 rfl) ?_
                refine kp_get hx hb hts i_X4 hown hK hP hI hW.tm rfl rfl 6 (by decide) (by decide) (hts (.fieldLink RX4 129 "IslandSolverModel" "rows" "I") (by decide +kernel)) (fun _ h9 => h9) dX4_row_109 (kq_P (v0 := .int (nI mr)) rfl hW.p6 fun h_113 => ?_)
                refine lv_fload hx hb dX4_row_112 (lv_at hl 6 rfl) ?_
                have hj_114 : mr < τ 3 x_110 := by rw [show τ 3 x_110 = 1024 from (hI.arr h_111 rfl).2.1]; omega
                refine W.eq (g2 := F0 m 114 ls (.float c9 :: .int (nI (mr)) :: .ref x_110 :: [])) rfl ?_
                refine kp_fastX (pv' := (kup pv mm 0 (.int 0))) (j := mr) hx hb hK hP hD hS hI h_111 rfl hj_114 (fun _ _ _ => rfl) (show kPr _ 1199570944 _ _ from (kv_F (by decide) fb_17)) (kPn_not rfl (by decide)) dX4_row_114 (fun f H locs hI hP hD hS => ?_)
                refine lv_aload_n hx hb dX4_row_115 rfl (lv_at hl 1 rfl) ?_
                refine kp_get hx hb hts i_X4 hown hK hP hI hW.tm rfl rfl 13 (by decide) (by decide) (hts (.fieldLink RX4 42 "IslandSolverModel" "highs" "[F") (by decide +kernel)) (fun _ h9 => h9) dX4_row_116 (kq_RE 25 (by decide) fun x_115 h_116_e h_116 => ?_)
                refine lv_aload_n hx hb dX4_row_119 rfl (lv_at hl 1 rfl) ?_
                refine kp_get hx hb hts i_X4 hown hK hP hI hW.tm rfl rfl 6 (by decide) (by decide) (hts (.fieldLink RX4 129 "IslandSolverModel" "rows" "I") (by decide +kernel)) (fun _ h9 => h9) dX4_row_120 (kq_P (v0 := .int (nI mr)) rfl hW.p6 fun h_118 => ?_)
                refine lv_fload hx hb dX4_row_123 (lv_at hl 7 rfl) ?_
                have hj_119 : mr < τ 3 x_115 := by rw [show τ 3 x_115 = 1024 from (hI.arr h_116 rfl).2.1]; omega
                refine W.eq (g2 := F0 m 125 ls (.float d9 :: .int (nI (mr)) :: .ref x_115 :: [])) rfl ?_
                refine kp_fastX (pv' := (kup pv mm 0 (.int 0))) (j := mr) hx hb hK hP hD hS hI h_116 rfl hj_119 (fun _ _ _ => rfl) (show kPr _ 1199570944 _ _ from (kv_F (by decide) fb_23)) (kPn_not rfl (by decide)) dX4_row_125 (fun f H locs hI hP hD hS => ?_)
                refine lv_aload_n hx hb dX4_row_126 rfl (lv_at hl 1 rfl) ?_
                refine kp_get hx hb hts i_X4 hown hK hP hI hW.tm rfl rfl 14 (by decide) (by decide) (hts (.fieldLink RX4 45 "IslandSolverModel" "frictions" "[F") (by decide +kernel)) (fun _ h9 => h9) dX4_row_127 (kq_RE 26 (by decide) fun x_120 h_121_e h_121 => ?_)
                refine lv_aload_n hx hb dX4_row_130 rfl (lv_at hl 1 rfl) ?_
                refine kp_get hx hb hts i_X4 hown hK hP hI hW.tm rfl rfl 6 (by decide) (by decide) (hts (.fieldLink RX4 129 "IslandSolverModel" "rows" "I") (by decide +kernel)) (fun _ h9 => h9) dX4_row_131 (kq_P (v0 := .int (nI mr)) rfl hW.p6 fun h_123 => ?_)
                refine lv_fconst0 hx hb dX4_row_134 ?_
                have hj_124 : mr < τ 3 x_120 := by rw [show τ 3 x_120 = 1024 from (hI.arr h_121 rfl).2.1]; omega
                refine W.eq (g2 := F0 m 135 ls (.float FP.fconst0 :: .int (nI (mr)) :: .ref x_120 :: [])) rfl ?_
                refine kp_fastX (pv' := (kup pv mm 0 (.int 0))) (j := mr) hx hb hK hP hD hS hI h_121 rfl hj_124 (fun _ _ _ => rfl) (show kPr _ 1090519040 _ _ from (kv_F (by decide) (fb_le kc_0 (by decide)))) (kPn_not rfl (by decide)) dX4_row_135 (fun f H locs hI hP hD hS => ?_)
                refine lv_aload_n hx hb dX4_row_136 rfl (lv_at hl 1 rfl) ?_
                refine kp_get hx hb hts i_X4 hown hK hP hI hW.tm rfl rfl 15 (by decide) (by decide) (hts (.fieldLink RX4 48 "IslandSolverModel" "ats" "[I") (by decide +kernel)) (fun _ h9 => h9) dX4_row_137 (kq_P (v0 := .ref aa) rfl hW.p15 fun h_126 => ?_)
                refine lv_aload_n hx hb dX4_row_140 rfl (lv_at hl 1 rfl) ?_
                refine kp_get hx hb hts i_X4 hown hK hP hI hW.tm rfl rfl 6 (by decide) (by decide) (hts (.fieldLink RX4 129 "IslandSolverModel" "rows" "I") (by decide +kernel)) (fun _ h9 => h9) dX4_row_141 (kq_P (v0 := .int (nI mr)) rfl hW.p6 fun h_128 => ?_)
                refine lv_iconst (v := (-1)) hx hb dX4_row_144 (by decide) ?_
                have hj_129 : mr < τ 3 aa := by rw [show τ 3 aa = 1024 from (hI.arr hW.ta rfl).2.1]; omega
                refine W.eq (g2 := F0 m 145 ls (.int (-1) :: .int (nI (mr)) :: .ref aa :: [])) rfl ?_
                refine kp_iastX (pv' := (kup (kup pv mm 0 (.int 0)) aa (mr) (.int (-1)))) (j := mr) hx hb hK hP hD hS hI hW.ta rfl hj_129 (fun _ _ h9 => kup_ne h9) (show kPr _ 0 _ _ from (kv_I _)) ((kPn_pin rfl).mpr kup_self.symm) dX4_row_145 (fun f H locs hI hP hD hS => ?_)
                have hF := hF.trans (kFr.up (P := kPx) (w := .int (-1)) (k := mr) hW.ta rfl)
                have hW := hW.frw (kFr.up (P := kPy mr) (w := .int (-1)) (k := mr) hW.ta (by simp [kPy]))
                refine lv_aload_n hx hb dX4_row_146 rfl (lv_at hl 1 rfl) ?_
                refine lv_iload_n hx hb dX4_row_147 rfl (lv_at hl 2 rfl) ?_
                refine lv_iload_n hx hb dX4_row_148 rfl (lv_at hl 3 rfl) ?_
                refine lv_fload_n hx hb dX4_row_149 rfl (lv_at hl 4 rfl) ?_
                refine lv_iload hx hb dX4_row_150 (lv_at hl 8 rfl) ?_
                refine kd_calli (va_runV (As := [.int (nI j_58), .int (nI j_59), .float a, .int ky]) (rest := []) ⟨hx, hb, hml, hown, hts⟩ (k_make1 l dC dI dA ad _ τ (kup (kup pv mm 0 (.int 0)) aa (mr) (.int (-1))) _ _ hI mm fa sa aa ia sf mb mr mk mr hW j_58 j_59 (by omega) (by omega) a fb_6 ky (by omega) rfl 0 kup_self (Nat.zero_le _) (fun k h => by cases h)) (cwV 4 hts gX4_row_X4_make rfl rfl rfl (by decide +kernel) ⟨Nat.le_of_ble_eq_true rfl, Nat.le_of_ble_eq_true rfl⟩) (kd_preV hP hD hK hS hA hE hI hW.tm rfl rfl) rfl rfl hl.1 rfl (lv_room (Nat.le_of_ble_eq_true rfl)) dX4_row_152 ⟨Nat.le_of_ble_eq_true rfl, Nat.le_of_ble_eq_true rfl⟩) hD hS hA (fun r_131 u_130 H locs hw hP hD hS => ?_)
                obtain ⟨rfl, pv, hF9, hW, hI⟩ := hw
                have hF := hF.trans hF9
                refine W.widen (k := 0) (n := 0) (Nat.le_of_ble_eq_true rfl) (Nat.le_of_ble_eq_true rfl) ?_
                exact W.iret (v := nI mr) hx hb hr (fun t ht hW9 => ⟨⟨nI mr, (u_130.1, u_130.2), rfl, ⟨_, (mr + 1), _, hF, hW, hI⟩, by rw [ht]; exact hP, va_K.moved hW9.alike hK, hD⟩, hS.F ht⟩) hS.2.2 dX4_row_155
            · refine lv_iload hx hb dX4_row_68 (lv_at hl 0 rfl) ?_
              refine lv_aload_n hx hb dX4_row_70 rfl (lv_at hl 1 rfl) ?_
              refine kp_get hx hb hts i_X4 hown hK hP hI hW.tm rfl rfl 6 (by decide) (by decide) (hts (.fieldLink RX4 129 "IslandSolverModel" "rows" "I") (by decide +kernel)) (fun _ h9 => h9) dX4_row_71 (kq_P (v0 := .int (nI mr)) rfl hW.p6 fun h_133 => ?_)
              refine lv_sipush (v := 1024) hx hb dX4_row_74 (by decide) ?_
              refine lv_icmp_ge (tgt := 84) hx hb dX4_row_77 (by decide) (fun c_134 => ?_) (fun c_134 => ?_)
              · have n_135 : 1024 ≤ mr := (nI_leI (by omega) (by omega)).mp (show nI 1024 ≤ nI mr from c_134)
                refine lv_iconst (v := 0) hx hb dX4_row_84 (by decide) ?_
                refine kd_calli (va_runV (As := [.int 0, .int 1, .int 0]) (rest := []) ⟨hx, hb, hml, hown, hts⟩ (k_goes2 l dC dI dA ad _ τ pv _ _ hI mm fa sa aa ia sf mb mr mk mr hW 1 0) (cwV 3 hts gX4_row_X4_goes rfl rfl rfl (by decide +kernel) ⟨Nat.le_of_ble_eq_true rfl, Nat.le_of_ble_eq_true rfl⟩) (kd_preV hP hD hK hS hA hE hI hW.tm rfl rfl) rfl rfl hl.1 rfl (lv_room (Nat.le_of_ble_eq_true rfl)) dX4_row_85 ⟨Nat.le_of_ble_eq_true rfl, Nat.le_of_ble_eq_true rfl⟩) hD hS hA (fun r_137 u_136 H locs hw hP hD hS => ?_)
                obtain ⟨rfl, hI⟩ := hw
                have hF := hF.trans (kFr.up (P := kPx) (w := .int 1) (k := 0) hW.tm rfl)
                have hW := hW.frw (kFr.up (P := kPy mr) (w := .int 1) (k := 0) hW.tm rfl)
                refine lv_if_ne (tgt := 93) hx hb dX4_row_88 (by decide) (fun h9 => by first | exact absurd h9 (by decide) | exact absurd (by decide) h9) (fun _ => ?_)
                refine lv_iconst (v := 0) hx hb dX4_row_91 (by decide) ?_
                refine W.widen (k := 0) (n := 0) (Nat.le_of_ble_eq_true rfl) (Nat.le_of_ble_eq_true rfl) ?_
                exact W.iret (v := 0) hx hb hr (fun t ht hW9 => ⟨⟨0, (u_136.1, u_136.2), rfl, ⟨_, _, _, hF, hW, hI⟩, by rw [ht]; exact hP, va_K.moved hW9.alike hK, hD⟩, hS.F ht⟩) hS.2.2 dX4_row_92
              · have n_138 : ¬ 1024 ≤ mr := fun h9 => (show ¬ nI 1024 ≤ nI mr from c_134) ((nI_leI (by omega) (by omega)).mpr h9)
                refine lv_iconst (v := 1) hx hb dX4_row_80 (by decide) ?_
                refine lv_goto (tgt := 85) hx hb dX4_row_81 (by decide) ?_
                refine kd_calli (va_runV (As := [.int 0, .int 1, .int 1]) (rest := []) ⟨hx, hb, hml, hown, hts⟩ (k_goes2 l dC dI dA ad _ τ pv _ _ hI mm fa sa aa ia sf mb mr mk mr hW 1 1) (cwV 3 hts gX4_row_X4_goes rfl rfl rfl (by decide +kernel) ⟨Nat.le_of_ble_eq_true rfl, Nat.le_of_ble_eq_true rfl⟩) (kd_preV hP hD hK hS hA hE hI hW.tm rfl rfl) rfl rfl hl.1 rfl (lv_room (Nat.le_of_ble_eq_true rfl)) dX4_row_85 ⟨Nat.le_of_ble_eq_true rfl, Nat.le_of_ble_eq_true rfl⟩) hD hS hA (fun r_140 u_139 H locs hw hP hD hS => ?_)
                obtain ⟨rfl, hI⟩ := hw
                have hF := hF.trans (kFr.up (P := kPx) (w := .int 1) (k := 0) hW.tm rfl)
                have hW := hW.frw (kFr.up (P := kPy mr) (w := .int 1) (k := 0) hW.tm rfl)
                refine lv_if_ne (tgt := 93) hx hb dX4_row_88 (by decide) (fun h9 => by first | exact absurd h9 (by decide) | exact absurd (by decide) h9) (fun _ => ?_)
                refine lv_iconst (v := 0) hx hb dX4_row_91 (by decide) ?_
                refine W.widen (k := 0) (n := 0) (Nat.le_of_ble_eq_true rfl) (Nat.le_of_ble_eq_true rfl) ?_
                exact W.iret (v := 0) hx hb hr (fun t ht hW9 => ⟨⟨0, (u_139.1, u_139.2), rfl, ⟨_, _, _, hF, hW, hI⟩, by rw [ht]; exact hP, va_K.moved hW9.alike hK, hD⟩, hS.F ht⟩) hS.2.2 dX4_row_92
        · refine lv_if_eq (tgt := 58) hx hb dX4_row_43 (by decide) (fun _ => ?_) (fun h9 => by first | exact absurd h9 (by decide) | exact absurd (by decide) h9)
          refine lv_iconst (v := 0) hx hb dX4_row_58 (by decide) ?_
          refine lv_istore (lv' := [(8, .int 0), (0, .ref mm), (1, .int n), (2, .int k), (3, .float a), (4, .float b), (5, .float c9), (6, .float d9), (7, .int ky)]) hx hb dX4_row_59 hl (by decide) rfl (fun ls hl => ?_)
          refine lv_aload_n hx hb dX4_row_61 rfl (lv_at hl 1 rfl) ?_
          refine lv_aload_n hx hb dX4_row_62 rfl (lv_at hl 1 rfl) ?_
          refine lv_iload_n hx hb dX4_row_63 rfl (lv_at hl 2 rfl) ?_
          refine lv_iload_n hx hb dX4_row_64 rfl (lv_at hl 3 rfl) ?_
          refine kd_calli (va_runV (As := [.int n, .int k]) (rest := [.ref mm]) ⟨hx, hb, hml, hown, hts⟩ (k_pair l dC dI dA ad _ τ pv _ _ hI mm fa sa aa ia sf mb mr mk mr hW n k) (cwV 2 hts gX4_row_X4_pair rfl rfl rfl (by decide +kernel) ⟨Nat.le_of_ble_eq_true rfl, Nat.le_of_ble_eq_true rfl⟩) (kd_preV hP hD hK hS hA hE hI hW.tm rfl rfl) rfl rfl hl.1 rfl (lv_room (Nat.le_of_ble_eq_true rfl)) dX4_row_65 ⟨Nat.le_of_ble_eq_true rfl, Nat.le_of_ble_eq_true rfl⟩) hD hS hA (fun r_142 u_141 H locs hw hP hD hS => ?_)
          obtain ⟨⟨rfl, ⟨j_143, hj_143, rfl⟩, rfl | ⟨j_144, hj_144, rfl⟩⟩ | rfl, hI⟩ := hw
          · refine lv_iload hx hb dX4_row_68 (lv_at hl 0 rfl) ?_
            refine lv_aload_n hx hb dX4_row_70 rfl (lv_at hl 1 rfl) ?_
            refine kp_get hx hb hts i_X4 hown hK hP hI hW.tm rfl rfl 6 (by decide) (by decide) (hts (.fieldLink RX4 129 "IslandSolverModel" "rows" "I") (by decide +kernel)) (fun _ h9 => h9) dX4_row_71 (kq_P (v0 := .int (nI mr)) rfl hW.p6 fun h_146 => ?_)
            refine lv_sipush (v := 1024) hx hb dX4_row_74 (by decide) ?_
            refine lv_icmp_ge (tgt := 84) hx hb dX4_row_77 (by decide) (fun c_147 => ?_) (fun c_147 => ?_)
            · have n_148 : 1024 ≤ mr := (nI_leI (by omega) (by omega)).mp (show nI 1024 ≤ nI mr from c_147)
              refine lv_iconst (v := 0) hx hb dX4_row_84 (by decide) ?_
              refine kd_calli (va_runV (As := [.int 1, .int 0, .int 0]) (rest := []) ⟨hx, hb, hml, hown, hts⟩ (k_goes3 l dC dI dA ad _ τ pv _ _ hI mm fa sa aa ia sf mb mr mk mr hW 0) (cwV 3 hts gX4_row_X4_goes rfl rfl rfl (by decide +kernel) ⟨Nat.le_of_ble_eq_true rfl, Nat.le_of_ble_eq_true rfl⟩) (kd_preV hP hD hK hS hA hE hI hW.tm rfl rfl) rfl rfl hl.1 rfl (lv_room (Nat.le_of_ble_eq_true rfl)) dX4_row_85 ⟨Nat.le_of_ble_eq_true rfl, Nat.le_of_ble_eq_true rfl⟩) hD hS hA (fun r_150 u_149 H locs hw hP hD hS => ?_)
              obtain ⟨rfl, hI⟩ := hw
              have hF := hF.trans (kFr.up (P := kPx) (w := .int 2) (k := 0) hW.tm rfl)
              have hW := hW.frw (kFr.up (P := kPy mr) (w := .int 2) (k := 0) hW.tm rfl)
              refine lv_if_ne (tgt := 93) hx hb dX4_row_88 (by decide) (fun h9 => by first | exact absurd h9 (by decide) | exact absurd (by decide) h9) (fun _ => ?_)
              refine lv_iconst (v := 0) hx hb dX4_row_91 (by decide) ?_
              refine W.widen (k := 0) (n := 0) (Nat.le_of_ble_eq_true rfl) (Nat.le_of_ble_eq_true rfl) ?_
              exact W.iret (v := 0) hx hb hr (fun t ht hW9 => ⟨⟨0, (u_149.1, u_149.2), rfl, ⟨_, _, _, hF, hW, hI⟩, by rw [ht]; exact hP, va_K.moved hW9.alike hK, hD⟩, hS.F ht⟩) hS.2.2 dX4_row_92
            · have n_151 : ¬ 1024 ≤ mr := fun h9 => (show ¬ nI 1024 ≤ nI mr from c_147) ((nI_leI (by omega) (by omega)).mpr h9)
              refine lv_iconst (v := 1) hx hb dX4_row_80 (by decide) ?_
              refine lv_goto (tgt := 85) hx hb dX4_row_81 (by decide) ?_
              refine kd_calli (va_runV (As := [.int 1, .int 0, .int 1]) (rest := []) ⟨hx, hb, hml, hown, hts⟩ (k_goes3 l dC dI dA ad _ τ pv _ _ hI mm fa sa aa ia sf mb mr mk mr hW 1) (cwV 3 hts gX4_row_X4_goes rfl rfl rfl (by decide +kernel) ⟨Nat.le_of_ble_eq_true rfl, Nat.le_of_ble_eq_true rfl⟩) (kd_preV hP hD hK hS hA hE hI hW.tm rfl rfl) rfl rfl hl.1 rfl (lv_room (Nat.le_of_ble_eq_true rfl)) dX4_row_85 ⟨Nat.le_of_ble_eq_true rfl, Nat.le_of_ble_eq_true rfl⟩) hD hS hA (fun r_153 u_152 H locs hw hP hD hS => ?_)
              obtain ⟨rfl, hI⟩ := hw
              have hF := hF.trans (kFr.up (P := kPx) (w := .int 2) (k := 0) hW.tm rfl)
              have hW := hW.frw (kFr.up (P := kPy mr) (w := .int 2) (k := 0) hW.tm rfl)
              refine lv_if_ne (tgt := 93) hx hb dX4_row_88 (by decide) (fun h9 => by first | exact absurd h9 (by decide) | exact absurd (by decide) h9) (fun _ => ?_)
              refine lv_iconst (v := 0) hx hb dX4_row_91 (by decide) ?_
              refine W.widen (k := 0) (n := 0) (Nat.le_of_ble_eq_true rfl) (Nat.le_of_ble_eq_true rfl) ?_
              exact W.iret (v := 0) hx hb hr (fun t ht hW9 => ⟨⟨0, (u_152.1, u_152.2), rfl, ⟨_, _, _, hF, hW, hI⟩, by rw [ht]; exact hP, va_K.moved hW9.alike hK, hD⟩, hS.F ht⟩) hS.2.2 dX4_row_92
          · refine lv_iload hx hb dX4_row_68 (lv_at hl 0 rfl) ?_
            refine lv_aload_n hx hb dX4_row_70 rfl (lv_at hl 1 rfl) ?_
            refine kp_get hx hb hts i_X4 hown hK hP hI hW.tm rfl rfl 6 (by decide) (by decide) (hts (.fieldLink RX4 129 "IslandSolverModel" "rows" "I") (by decide +kernel)) (fun _ h9 => h9) dX4_row_71 (kq_P (v0 := .int (nI mr)) rfl hW.p6 fun h_155 => ?_)
            refine lv_sipush (v := 1024) hx hb dX4_row_74 (by decide) ?_
            refine lv_icmp_ge (tgt := 84) hx hb dX4_row_77 (by decide) (fun c_156 => ?_) (fun c_156 => ?_)
            · have n_157 : 1024 ≤ mr := (nI_leI (by omega) (by omega)).mp (show nI 1024 ≤ nI mr from c_156)
              refine lv_iconst (v := 0) hx hb dX4_row_84 (by decide) ?_
              refine kd_calli (va_runV (As := [.int 1, .int 0, .int 0]) (rest := []) ⟨hx, hb, hml, hown, hts⟩ (k_goes3 l dC dI dA ad _ τ pv _ _ hI mm fa sa aa ia sf mb mr mk mr hW 0) (cwV 3 hts gX4_row_X4_goes rfl rfl rfl (by decide +kernel) ⟨Nat.le_of_ble_eq_true rfl, Nat.le_of_ble_eq_true rfl⟩) (kd_preV hP hD hK hS hA hE hI hW.tm rfl rfl) rfl rfl hl.1 rfl (lv_room (Nat.le_of_ble_eq_true rfl)) dX4_row_85 ⟨Nat.le_of_ble_eq_true rfl, Nat.le_of_ble_eq_true rfl⟩) hD hS hA (fun r_159 u_158 H locs hw hP hD hS => ?_)
              obtain ⟨rfl, hI⟩ := hw
              have hF := hF.trans (kFr.up (P := kPx) (w := .int 2) (k := 0) hW.tm rfl)
              have hW := hW.frw (kFr.up (P := kPy mr) (w := .int 2) (k := 0) hW.tm rfl)
              refine lv_if_ne (tgt := 93) hx hb dX4_row_88 (by decide) (fun h9 => by first | exact absurd h9 (by decide) | exact absurd (by decide) h9) (fun _ => ?_)
              refine lv_iconst (v := 0) hx hb dX4_row_91 (by decide) ?_
              refine W.widen (k := 0) (n := 0) (Nat.le_of_ble_eq_true rfl) (Nat.le_of_ble_eq_true rfl) ?_
              exact W.iret (v := 0) hx hb hr (fun t ht hW9 => ⟨⟨0, (u_158.1, u_158.2), rfl, ⟨_, _, _, hF, hW, hI⟩, by rw [ht]; exact hP, va_K.moved hW9.alike hK, hD⟩, hS.F ht⟩) hS.2.2 dX4_row_92
            · have n_160 : ¬ 1024 ≤ mr := fun h9 => (show ¬ nI 1024 ≤ nI mr from c_156) ((nI_leI (by omega) (by omega)).mpr h9)
              refine lv_iconst (v := 1) hx hb dX4_row_80 (by decide) ?_
              refine lv_goto (tgt := 85) hx hb dX4_row_81 (by decide) ?_
              refine kd_calli (va_runV (As := [.int 1, .int 0, .int 1]) (rest := []) ⟨hx, hb, hml, hown, hts⟩ (k_goes3 l dC dI dA ad _ τ pv _ _ hI mm fa sa aa ia sf mb mr mk mr hW 1) (cwV 3 hts gX4_row_X4_goes rfl rfl rfl (by decide +kernel) ⟨Nat.le_of_ble_eq_true rfl, Nat.le_of_ble_eq_true rfl⟩) (kd_preV hP hD hK hS hA hE hI hW.tm rfl rfl) rfl rfl hl.1 rfl (lv_room (Nat.le_of_ble_eq_true rfl)) dX4_row_85 ⟨Nat.le_of_ble_eq_true rfl, Nat.le_of_ble_eq_true rfl⟩) hD hS hA (fun r_162 u_161 H locs hw hP hD hS => ?_)
              obtain ⟨rfl, hI⟩ := hw
              have hF := hF.trans (kFr.up (P := kPx) (w := .int 2) (k := 0) hW.tm rfl)
              have hW := hW.frw (kFr.up (P := kPy mr) (w := .int 2) (k := 0) hW.tm rfl)
              refine lv_if_ne (tgt := 93) hx hb dX4_row_88 (by decide) (fun h9 => by first | exact absurd h9 (by decide) | exact absurd (by decide) h9) (fun _ => ?_)
              refine lv_iconst (v := 0) hx hb dX4_row_91 (by decide) ?_
              refine W.widen (k := 0) (n := 0) (Nat.le_of_ble_eq_true rfl) (Nat.le_of_ble_eq_true rfl) ?_
              exact W.iret (v := 0) hx hb hr (fun t ht hW9 => ⟨⟨0, (u_161.1, u_161.2), rfl, ⟨_, _, _, hF, hW, hI⟩, by rw [ht]; exact hP, va_K.moved hW9.alike hK, hD⟩, hS.F ht⟩) hS.2.2 dX4_row_92
          · refine lv_iload hx hb dX4_row_68 (lv_at hl 0 rfl) ?_
            refine lv_aload_n hx hb dX4_row_70 rfl (lv_at hl 1 rfl) ?_
            refine kp_get hx hb hts i_X4 hown hK hP hI hW.tm rfl rfl 6 (by decide) (by decide) (hts (.fieldLink RX4 129 "IslandSolverModel" "rows" "I") (by decide +kernel)) (fun _ h9 => h9) dX4_row_71 (kq_P (v0 := .int (nI mr)) rfl hW.p6 fun h_164 => ?_)
            refine lv_sipush (v := 1024) hx hb dX4_row_74 (by decide) ?_
            refine lv_icmp_ge (tgt := 84) hx hb dX4_row_77 (by decide) (fun c_165 => ?_) (fun c_165 => ?_)
            · have n_166 : 1024 ≤ mr := (nI_leI (by omega) (by omega)).mp (show nI 1024 ≤ nI mr from c_165)
              refine lv_iconst (v := 0) hx hb dX4_row_84 (by decide) ?_
              refine kd_calli (va_runV (As := [.int 0, .int 0, .int 0]) (rest := []) ⟨hx, hb, hml, hown, hts⟩ (k_goes2 l dC dI dA ad _ τ pv _ _ hI mm fa sa aa ia sf mb mr mk mr hW 0 0) (cwV 3 hts gX4_row_X4_goes rfl rfl rfl (by decide +kernel) ⟨Nat.le_of_ble_eq_true rfl, Nat.le_of_ble_eq_true rfl⟩) (kd_preV hP hD hK hS hA hE hI hW.tm rfl rfl) rfl rfl hl.1 rfl (lv_room (Nat.le_of_ble_eq_true rfl)) dX4_row_85 ⟨Nat.le_of_ble_eq_true rfl, Nat.le_of_ble_eq_true rfl⟩) hD hS hA (fun r_168 u_167 H locs hw hP hD hS => ?_)
              obtain ⟨rfl, hI⟩ := hw
              have hF := hF.trans (kFr.up (P := kPx) (w := .int 1) (k := 0) hW.tm rfl)
              have hW := hW.frw (kFr.up (P := kPy mr) (w := .int 1) (k := 0) hW.tm rfl)
              refine lv_if_ne (tgt := 93) hx hb dX4_row_88 (by decide) (fun h9 => by first | exact absurd h9 (by decide) | exact absurd (by decide) h9) (fun _ => ?_)
              refine lv_iconst (v := 0) hx hb dX4_row_91 (by decide) ?_
              refine W.widen (k := 0) (n := 0) (Nat.le_of_ble_eq_true rfl) (Nat.le_of_ble_eq_true rfl) ?_
              exact W.iret (v := 0) hx hb hr (fun t ht hW9 => ⟨⟨0, (u_167.1, u_167.2), rfl, ⟨_, _, _, hF, hW, hI⟩, by rw [ht]; exact hP, va_K.moved hW9.alike hK, hD⟩, hS.F ht⟩) hS.2.2 dX4_row_92
            · have n_169 : ¬ 1024 ≤ mr := fun h9 => (show ¬ nI 1024 ≤ nI mr from c_165) ((nI_leI (by omega) (by omega)).mpr h9)
              refine lv_iconst (v := 1) hx hb dX4_row_80 (by decide) ?_
              refine lv_goto (tgt := 85) hx hb dX4_row_81 (by decide) ?_
              refine kd_calli (va_runV (As := [.int 0, .int 0, .int 1]) (rest := []) ⟨hx, hb, hml, hown, hts⟩ (k_goes2 l dC dI dA ad _ τ pv _ _ hI mm fa sa aa ia sf mb mr mk mr hW 0 1) (cwV 3 hts gX4_row_X4_goes rfl rfl rfl (by decide +kernel) ⟨Nat.le_of_ble_eq_true rfl, Nat.le_of_ble_eq_true rfl⟩) (kd_preV hP hD hK hS hA hE hI hW.tm rfl rfl) rfl rfl hl.1 rfl (lv_room (Nat.le_of_ble_eq_true rfl)) dX4_row_85 ⟨Nat.le_of_ble_eq_true rfl, Nat.le_of_ble_eq_true rfl⟩) hD hS hA (fun r_171 u_170 H locs hw hP hD hS => ?_)
              obtain ⟨rfl, hI⟩ := hw
              have hF := hF.trans (kFr.up (P := kPx) (w := .int 1) (k := 0) hW.tm rfl)
              have hW := hW.frw (kFr.up (P := kPy mr) (w := .int 1) (k := 0) hW.tm rfl)
              refine lv_if_ne (tgt := 93) hx hb dX4_row_88 (by decide) (fun h9 => by first | exact absurd h9 (by decide) | exact absurd (by decide) h9) (fun _ => ?_)
              refine lv_iconst (v := 0) hx hb dX4_row_91 (by decide) ?_
              refine W.widen (k := 0) (n := 0) (Nat.le_of_ble_eq_true rfl) (Nat.le_of_ble_eq_true rfl) ?_
              exact W.iret (v := 0) hx hb hr (fun t ht hW9 => ⟨⟨0, (u_170.1, u_170.2), rfl, ⟨_, _, _, hF, hW, hI⟩, by rw [ht]; exact hP, va_K.moved hW9.alike hK, hD⟩, hS.F ht⟩) hS.2.2 dX4_row_92
      · refine lv_if_eq (tgt := 58) hx hb dX4_row_31 (by decide) (fun _ => ?_) (fun h9 => by first | exact absurd h9 (by decide) | exact absurd (by decide) h9)
        refine lv_iconst (v := 0) hx hb dX4_row_58 (by decide) ?_
        refine lv_istore (lv' := [(8, .int 0), (0, .ref mm), (1, .int n), (2, .int k), (3, .float a), (4, .float b), (5, .float c9), (6, .float d9), (7, .int ky)]) hx hb dX4_row_59 hl (by decide) rfl (fun ls hl => ?_)
        refine lv_aload_n hx hb dX4_row_61 rfl (lv_at hl 1 rfl) ?_
        refine lv_aload_n hx hb dX4_row_62 rfl (lv_at hl 1 rfl) ?_
        refine lv_iload_n hx hb dX4_row_63 rfl (lv_at hl 2 rfl) ?_
        refine lv_iload_n hx hb dX4_row_64 rfl (lv_at hl 3 rfl) ?_
        refine kd_calli (va_runV (As := [.int n, .int k]) (rest := [.ref mm]) ⟨hx, hb, hml, hown, hts⟩ (k_pair l dC dI dA ad _ τ pv _ _ hI mm fa sa aa ia sf mb mr mk mr hW n k) (cwV 2 hts gX4_row_X4_pair rfl rfl rfl (by decide +kernel) ⟨Nat.le_of_ble_eq_true rfl, Nat.le_of_ble_eq_true rfl⟩) (kd_preV hP hD hK hS hA hE hI hW.tm rfl rfl) rfl rfl hl.1 rfl (lv_room (Nat.le_of_ble_eq_true rfl)) dX4_row_65 ⟨Nat.le_of_ble_eq_true rfl, Nat.le_of_ble_eq_true rfl⟩) hD hS hA (fun r_173 u_172 H locs hw hP hD hS => ?_)
        obtain ⟨⟨rfl, ⟨j_174, hj_174, rfl⟩, rfl | ⟨j_175, hj_175, rfl⟩⟩ | rfl, hI⟩ := hw
        · refine lv_iload hx hb dX4_row_68 (lv_at hl 0 rfl) ?_
          refine lv_aload_n hx hb dX4_row_70 rfl (lv_at hl 1 rfl) ?_
          refine kp_get hx hb hts i_X4 hown hK hP hI hW.tm rfl rfl 6 (by decide) (by decide) (hts (.fieldLink RX4 129 "IslandSolverModel" "rows" "I") (by decide +kernel)) (fun _ h9 => h9) dX4_row_71 (kq_P (v0 := .int (nI mr)) rfl hW.p6 fun h_177 => ?_)
          refine lv_sipush (v := 1024) hx hb dX4_row_74 (by decide) ?_
          refine lv_icmp_ge (tgt := 84) hx hb dX4_row_77 (by decide) (fun c_178 => ?_) (fun c_178 => ?_)
          · have n_179 : 1024 ≤ mr := (nI_leI (by omega) (by omega)).mp (show nI 1024 ≤ nI mr from c_178)
            refine lv_iconst (v := 0) hx hb dX4_row_84 (by decide) ?_
            refine kd_calli (va_runV (As := [.int 1, .int 0, .int 0]) (rest := []) ⟨hx, hb, hml, hown, hts⟩ (k_goes3 l dC dI dA ad _ τ pv _ _ hI mm fa sa aa ia sf mb mr mk mr hW 0) (cwV 3 hts gX4_row_X4_goes rfl rfl rfl (by decide +kernel) ⟨Nat.le_of_ble_eq_true rfl, Nat.le_of_ble_eq_true rfl⟩) (kd_preV hP hD hK hS hA hE hI hW.tm rfl rfl) rfl rfl hl.1 rfl (lv_room (Nat.le_of_ble_eq_true rfl)) dX4_row_85 ⟨Nat.le_of_ble_eq_true rfl, Nat.le_of_ble_eq_true rfl⟩) hD hS hA (fun r_181 u_180 H locs hw hP hD hS => ?_)
            obtain ⟨rfl, hI⟩ := hw
            have hF := hF.trans (kFr.up (P := kPx) (w := .int 2) (k := 0) hW.tm rfl)
            have hW := hW.frw (kFr.up (P := kPy mr) (w := .int 2) (k := 0) hW.tm rfl)
            refine lv_if_ne (tgt := 93) hx hb dX4_row_88 (by decide) (fun h9 => by first | exact absurd h9 (by decide) | exact absurd (by decide) h9) (fun _ => ?_)
            refine lv_iconst (v := 0) hx hb dX4_row_91 (by decide) ?_
            refine W.widen (k := 0) (n := 0) (Nat.le_of_ble_eq_true rfl) (Nat.le_of_ble_eq_true rfl) ?_
            exact W.iret (v := 0) hx hb hr (fun t ht hW9 => ⟨⟨0, (u_180.1, u_180.2), rfl, ⟨_, _, _, hF, hW, hI⟩, by rw [ht]; exact hP, va_K.moved hW9.alike hK, hD⟩, hS.F ht⟩) hS.2.2 dX4_row_92
          · have n_182 : ¬ 1024 ≤ mr := fun h9 => (show ¬ nI 1024 ≤ nI mr from c_178) ((nI_leI (by omega) (by omega)).mpr h9)
            refine lv_iconst (v := 1) hx hb dX4_row_80 (by decide) ?_
            refine lv_goto (tgt := 85) hx hb dX4_row_81 (by decide) ?_
            refine kd_calli (va_runV (As := [.int 1, .int 0, .int 1]) (rest := []) ⟨hx, hb, hml, hown, hts⟩ (k_goes3 l dC dI dA ad _ τ pv _ _ hI mm fa sa aa ia sf mb mr mk mr hW 1) (cwV 3 hts gX4_row_X4_goes rfl rfl rfl (by decide +kernel) ⟨Nat.le_of_ble_eq_true rfl, Nat.le_of_ble_eq_true rfl⟩) (kd_preV hP hD hK hS hA hE hI hW.tm rfl rfl) rfl rfl hl.1 rfl (lv_room (Nat.le_of_ble_eq_true rfl)) dX4_row_85 ⟨Nat.le_of_ble_eq_true rfl, Nat.le_of_ble_eq_true rfl⟩) hD hS hA (fun r_184 u_183 H locs hw hP hD hS => ?_)
            obtain ⟨rfl, hI⟩ := hw
            have hF := hF.trans (kFr.up (P := kPx) (w := .int 2) (k := 0) hW.tm rfl)
            have hW := hW.frw (kFr.up (P := kPy mr) (w := .int 2) (k := 0) hW.tm rfl)
            refine lv_if_ne (tgt := 93) hx hb dX4_row_88 (by decide) (fun h9 => by first | exact absurd h9 (by decide) | exact absurd (by decide) h9) (fun _ => ?_)
            refine lv_iconst (v := 0) hx hb dX4_row_91 (by decide) ?_
            refine W.widen (k := 0) (n := 0) (Nat.le_of_ble_eq_true rfl) (Nat.le_of_ble_eq_true rfl) ?_
            exact W.iret (v := 0) hx hb hr (fun t ht hW9 => ⟨⟨0, (u_183.1, u_183.2), rfl, ⟨_, _, _, hF, hW, hI⟩, by rw [ht]; exact hP, va_K.moved hW9.alike hK, hD⟩, hS.F ht⟩) hS.2.2 dX4_row_92
        · refine lv_iload hx hb dX4_row_68 (lv_at hl 0 rfl) ?_
          refine lv_aload_n hx hb dX4_row_70 rfl (lv_at hl 1 rfl) ?_
          refine kp_get hx hb hts i_X4 hown hK hP hI hW.tm rfl rfl 6 (by decide) (by decide) (hts (.fieldLink RX4 129 "IslandSolverModel" "rows" "I") (by decide +kernel)) (fun _ h9 => h9) dX4_row_71 (kq_P (v0 := .int (nI mr)) rfl hW.p6 fun h_186 => ?_)
          refine lv_sipush (v := 1024) hx hb dX4_row_74 (by decide) ?_
          refine lv_icmp_ge (tgt := 84) hx hb dX4_row_77 (by decide) (fun c_187 => ?_) (fun c_187 => ?_)
          · have n_188 : 1024 ≤ mr := (nI_leI (by omega) (by omega)).mp (show nI 1024 ≤ nI mr from c_187)
            refine lv_iconst (v := 0) hx hb dX4_row_84 (by decide) ?_
            refine kd_calli (va_runV (As := [.int 1, .int 0, .int 0]) (rest := []) ⟨hx, hb, hml, hown, hts⟩ (k_goes3 l dC dI dA ad _ τ pv _ _ hI mm fa sa aa ia sf mb mr mk mr hW 0) (cwV 3 hts gX4_row_X4_goes rfl rfl rfl (by decide +kernel) ⟨Nat.le_of_ble_eq_true rfl, Nat.le_of_ble_eq_true rfl⟩) (kd_preV hP hD hK hS hA hE hI hW.tm rfl rfl) rfl rfl hl.1 rfl (lv_room (Nat.le_of_ble_eq_true rfl)) dX4_row_85 ⟨Nat.le_of_ble_eq_true rfl, Nat.le_of_ble_eq_true rfl⟩) hD hS hA (fun r_190 u_189 H locs hw hP hD hS => ?_)
            obtain ⟨rfl, hI⟩ := hw
            have hF := hF.trans (kFr.up (P := kPx) (w := .int 2) (k := 0) hW.tm rfl)
            have hW := hW.frw (kFr.up (P := kPy mr) (w := .int 2) (k := 0) hW.tm rfl)
            refine lv_if_ne (tgt := 93) hx hb dX4_row_88 (by decide) (fun h9 => by first | exact absurd h9 (by decide) | exact absurd (by decide) h9) (fun _ => ?_)
            refine lv_iconst (v := 0) hx hb dX4_row_91 (by decide) ?_
            refine W.widen (k := 0) (n := 0) (Nat.le_of_ble_eq_true rfl) (Nat.le_of_ble_eq_true rfl) ?_
            exact W.iret (v := 0) hx hb hr (fun t ht hW9 => ⟨⟨0, (u_189.1, u_189.2), rfl, ⟨_, _, _, hF, hW, hI⟩, by rw [ht]; exact hP, va_K.moved hW9.alike hK, hD⟩, hS.F ht⟩) hS.2.2 dX4_row_92
          · have n_191 : ¬ 1024 ≤ mr := fun h9 => (show ¬ nI 1024 ≤ nI mr from c_187) ((nI_leI (by omega) (by omega)).mpr h9)
            refine lv_iconst (v := 1) hx hb dX4_row_80 (by decide) ?_
            refine lv_goto (tgt := 85) hx hb dX4_row_81 (by decide) ?_
            refine kd_calli (va_runV (As := [.int 1, .int 0, .int 1]) (rest := []) ⟨hx, hb, hml, hown, hts⟩ (k_goes3 l dC dI dA ad _ τ pv _ _ hI mm fa sa aa ia sf mb mr mk mr hW 1) (cwV 3 hts gX4_row_X4_goes rfl rfl rfl (by decide +kernel) ⟨Nat.le_of_ble_eq_true rfl, Nat.le_of_ble_eq_true rfl⟩) (kd_preV hP hD hK hS hA hE hI hW.tm rfl rfl) rfl rfl hl.1 rfl (lv_room (Nat.le_of_ble_eq_true rfl)) dX4_row_85 ⟨Nat.le_of_ble_eq_true rfl, Nat.le_of_ble_eq_true rfl⟩) hD hS hA (fun r_193 u_192 H locs hw hP hD hS => ?_)
            obtain ⟨rfl, hI⟩ := hw
            have hF := hF.trans (kFr.up (P := kPx) (w := .int 2) (k := 0) hW.tm rfl)
            have hW := hW.frw (kFr.up (P := kPy mr) (w := .int 2) (k := 0) hW.tm rfl)
            refine lv_if_ne (tgt := 93) hx hb dX4_row_88 (by decide) (fun h9 => by first | exact absurd h9 (by decide) | exact absurd (by decide) h9) (fun _ => ?_)
            refine lv_iconst (v := 0) hx hb dX4_row_91 (by decide) ?_
            refine W.widen (k := 0) (n := 0) (Nat.le_of_ble_eq_true rfl) (Nat.le_of_ble_eq_true rfl) ?_
            exact W.iret (v := 0) hx hb hr (fun t ht hW9 => ⟨⟨0, (u_192.1, u_192.2), rfl, ⟨_, _, _, hF, hW, hI⟩, by rw [ht]; exact hP, va_K.moved hW9.alike hK, hD⟩, hS.F ht⟩) hS.2.2 dX4_row_92
        · refine lv_iload hx hb dX4_row_68 (lv_at hl 0 rfl) ?_
          refine lv_aload_n hx hb dX4_row_70 rfl (lv_at hl 1 rfl) ?_
          refine kp_get hx hb hts i_X4 hown hK hP hI hW.tm rfl rfl 6 (by decide) (by decide) (hts (.fieldLink RX4 129 "IslandSolverModel" "rows" "I") (by decide +kernel)) (fun _ h9 => h9) dX4_row_71 (kq_P (v0 := .int (nI mr)) rfl hW.p6 fun h_195 => ?_)
          refine lv_sipush (v := 1024) hx hb dX4_row_74 (by decide) ?_
          refine lv_icmp_ge (tgt := 84) hx hb dX4_row_77 (by decide) (fun c_196 => ?_) (fun c_196 => ?_)
          · have n_197 : 1024 ≤ mr := (nI_leI (by omega) (by omega)).mp (show nI 1024 ≤ nI mr from c_196)
            refine lv_iconst (v := 0) hx hb dX4_row_84 (by decide) ?_
            refine kd_calli (va_runV (As := [.int 0, .int 0, .int 0]) (rest := []) ⟨hx, hb, hml, hown, hts⟩ (k_goes2 l dC dI dA ad _ τ pv _ _ hI mm fa sa aa ia sf mb mr mk mr hW 0 0) (cwV 3 hts gX4_row_X4_goes rfl rfl rfl (by decide +kernel) ⟨Nat.le_of_ble_eq_true rfl, Nat.le_of_ble_eq_true rfl⟩) (kd_preV hP hD hK hS hA hE hI hW.tm rfl rfl) rfl rfl hl.1 rfl (lv_room (Nat.le_of_ble_eq_true rfl)) dX4_row_85 ⟨Nat.le_of_ble_eq_true rfl, Nat.le_of_ble_eq_true rfl⟩) hD hS hA (fun r_199 u_198 H locs hw hP hD hS => ?_)
            obtain ⟨rfl, hI⟩ := hw
            have hF := hF.trans (kFr.up (P := kPx) (w := .int 1) (k := 0) hW.tm rfl)
            have hW := hW.frw (kFr.up (P := kPy mr) (w := .int 1) (k := 0) hW.tm rfl)
            refine lv_if_ne (tgt := 93) hx hb dX4_row_88 (by decide) (fun h9 => by first | exact absurd h9 (by decide) | exact absurd (by decide) h9) (fun _ => ?_)
            refine lv_iconst (v := 0) hx hb dX4_row_91 (by decide) ?_
            refine W.widen (k := 0) (n := 0) (Nat.le_of_ble_eq_true rfl) (Nat.le_of_ble_eq_true rfl) ?_
            exact W.iret (v := 0) hx hb hr (fun t ht hW9 => ⟨⟨0, (u_198.1, u_198.2), rfl, ⟨_, _, _, hF, hW, hI⟩, by rw [ht]; exact hP, va_K.moved hW9.alike hK, hD⟩, hS.F ht⟩) hS.2.2 dX4_row_92
          · have n_200 : ¬ 1024 ≤ mr := fun h9 => (show ¬ nI 1024 ≤ nI mr from c_196) ((nI_leI (by omega) (by omega)).mpr h9)
            refine lv_iconst (v := 1) hx hb dX4_row_80 (by decide) ?_
            refine lv_goto (tgt := 85) hx hb dX4_row_81 (by decide) ?_
            refine kd_calli (va_runV (As := [.int 0, .int 0, .int 1]) (rest := []) ⟨hx, hb, hml, hown, hts⟩ (k_goes2 l dC dI dA ad _ τ pv _ _ hI mm fa sa aa ia sf mb mr mk mr hW 0 1) (cwV 3 hts gX4_row_X4_goes rfl rfl rfl (by decide +kernel) ⟨Nat.le_of_ble_eq_true rfl, Nat.le_of_ble_eq_true rfl⟩) (kd_preV hP hD hK hS hA hE hI hW.tm rfl rfl) rfl rfl hl.1 rfl (lv_room (Nat.le_of_ble_eq_true rfl)) dX4_row_85 ⟨Nat.le_of_ble_eq_true rfl, Nat.le_of_ble_eq_true rfl⟩) hD hS hA (fun r_202 u_201 H locs hw hP hD hS => ?_)
            obtain ⟨rfl, hI⟩ := hw
            have hF := hF.trans (kFr.up (P := kPx) (w := .int 1) (k := 0) hW.tm rfl)
            have hW := hW.frw (kFr.up (P := kPy mr) (w := .int 1) (k := 0) hW.tm rfl)
            refine lv_if_ne (tgt := 93) hx hb dX4_row_88 (by decide) (fun h9 => by first | exact absurd h9 (by decide) | exact absurd (by decide) h9) (fun _ => ?_)
            refine lv_iconst (v := 0) hx hb dX4_row_91 (by decide) ?_
            refine W.widen (k := 0) (n := 0) (Nat.le_of_ble_eq_true rfl) (Nat.le_of_ble_eq_true rfl) ?_
            exact W.iret (v := 0) hx hb hr (fun t ht hW9 => ⟨⟨0, (u_201.1, u_201.2), rfl, ⟨_, _, _, hF, hW, hI⟩, by rw [ht]; exact hP, va_K.moved hW9.alike hK, hD⟩, hS.F ht⟩) hS.2.2 dX4_row_92
    · refine lv_if_eq (tgt := 58) hx hb dX4_row_19 (by decide) (fun _ => ?_) (fun h9 => by first | exact absurd h9 (by decide) | exact absurd (by decide) h9)
      refine lv_iconst (v := 0) hx hb dX4_row_58 (by decide) ?_
      refine lv_istore (lv' := [(8, .int 0), (0, .ref mm), (1, .int n), (2, .int k), (3, .float a), (4, .float b), (5, .float c9), (6, .float d9), (7, .int ky)]) hx hb dX4_row_59 hl (by decide) rfl (fun ls hl => ?_)
      refine lv_aload_n hx hb dX4_row_61 rfl (lv_at hl 1 rfl) ?_
      refine lv_aload_n hx hb dX4_row_62 rfl (lv_at hl 1 rfl) ?_
      refine lv_iload_n hx hb dX4_row_63 rfl (lv_at hl 2 rfl) ?_
      refine lv_iload_n hx hb dX4_row_64 rfl (lv_at hl 3 rfl) ?_
      refine kd_calli (va_runV (As := [.int n, .int k]) (rest := [.ref mm]) ⟨hx, hb, hml, hown, hts⟩ (k_pair l dC dI dA ad _ τ pv _ _ hI mm fa sa aa ia sf mb mr mk mr hW n k) (cwV 2 hts gX4_row_X4_pair rfl rfl rfl (by decide +kernel) ⟨Nat.le_of_ble_eq_true rfl, Nat.le_of_ble_eq_true rfl⟩) (kd_preV hP hD hK hS hA hE hI hW.tm rfl rfl) rfl rfl hl.1 rfl (lv_room (Nat.le_of_ble_eq_true rfl)) dX4_row_65 ⟨Nat.le_of_ble_eq_true rfl, Nat.le_of_ble_eq_true rfl⟩) hD hS hA (fun r_204 u_203 H locs hw hP hD hS => ?_)
      obtain ⟨⟨rfl, ⟨j_205, hj_205, rfl⟩, rfl | ⟨j_206, hj_206, rfl⟩⟩ | rfl, hI⟩ := hw
      · refine lv_iload hx hb dX4_row_68 (lv_at hl 0 rfl) ?_
        refine lv_aload_n hx hb dX4_row_70 rfl (lv_at hl 1 rfl) ?_
        refine kp_get hx hb hts i_X4 hown hK hP hI hW.tm rfl rfl 6 (by decide) (by decide) (hts (.fieldLink RX4 129 "IslandSolverModel" "rows" "I") (by decide +kernel)) (fun _ h9 => h9) dX4_row_71 (kq_P (v0 := .int (nI mr)) rfl hW.p6 fun h_208 => ?_)
        refine lv_sipush (v := 1024) hx hb dX4_row_74 (by decide) ?_
        refine lv_icmp_ge (tgt := 84) hx hb dX4_row_77 (by decide) (fun c_209 => ?_) (fun c_209 => ?_)
        · have n_210 : 1024 ≤ mr := (nI_leI (by omega) (by omega)).mp (show nI 1024 ≤ nI mr from c_209)
          refine lv_iconst (v := 0) hx hb dX4_row_84 (by decide) ?_
          refine kd_calli (va_runV (As := [.int 1, .int 0, .int 0]) (rest := []) ⟨hx, hb, hml, hown, hts⟩ (k_goes3 l dC dI dA ad _ τ pv _ _ hI mm fa sa aa ia sf mb mr mk mr hW 0) (cwV 3 hts gX4_row_X4_goes rfl rfl rfl (by decide +kernel) ⟨Nat.le_of_ble_eq_true rfl, Nat.le_of_ble_eq_true rfl⟩) (kd_preV hP hD hK hS hA hE hI hW.tm rfl rfl) rfl rfl hl.1 rfl (lv_room (Nat.le_of_ble_eq_true rfl)) dX4_row_85 ⟨Nat.le_of_ble_eq_true rfl, Nat.le_of_ble_eq_true rfl⟩) hD hS hA (fun r_212 u_211 H locs hw hP hD hS => ?_)
          obtain ⟨rfl, hI⟩ := hw
          have hF := hF.trans (kFr.up (P := kPx) (w := .int 2) (k := 0) hW.tm rfl)
          have hW := hW.frw (kFr.up (P := kPy mr) (w := .int 2) (k := 0) hW.tm rfl)
          refine lv_if_ne (tgt := 93) hx hb dX4_row_88 (by decide) (fun h9 => by first | exact absurd h9 (by decide) | exact absurd (by decide) h9) (fun _ => ?_)
          refine lv_iconst (v := 0) hx hb dX4_row_91 (by decide) ?_
          refine W.widen (k := 0) (n := 0) (Nat.le_of_ble_eq_true rfl) (Nat.le_of_ble_eq_true rfl) ?_
          exact W.iret (v := 0) hx hb hr (fun t ht hW9 => ⟨⟨0, (u_211.1, u_211.2), rfl, ⟨_, _, _, hF, hW, hI⟩, by rw [ht]; exact hP, va_K.moved hW9.alike hK, hD⟩, hS.F ht⟩) hS.2.2 dX4_row_92
        · have n_213 : ¬ 1024 ≤ mr := fun h9 => (show ¬ nI 1024 ≤ nI mr from c_209) ((nI_leI (by omega) (by omega)).mpr h9)
          refine lv_iconst (v := 1) hx hb dX4_row_80 (by decide) ?_
          refine lv_goto (tgt := 85) hx hb dX4_row_81 (by decide) ?_
          refine kd_calli (va_runV (As := [.int 1, .int 0, .int 1]) (rest := []) ⟨hx, hb, hml, hown, hts⟩ (k_goes3 l dC dI dA ad _ τ pv _ _ hI mm fa sa aa ia sf mb mr mk mr hW 1) (cwV 3 hts gX4_row_X4_goes rfl rfl rfl (by decide +kernel) ⟨Nat.le_of_ble_eq_true rfl, Nat.le_of_ble_eq_true rfl⟩) (kd_preV hP hD hK hS hA hE hI hW.tm rfl rfl) rfl rfl hl.1 rfl (lv_room (Nat.le_of_ble_eq_true rfl)) dX4_row_85 ⟨Nat.le_of_ble_eq_true rfl, Nat.le_of_ble_eq_true rfl⟩) hD hS hA (fun r_215 u_214 H locs hw hP hD hS => ?_)
          obtain ⟨rfl, hI⟩ := hw
          have hF := hF.trans (kFr.up (P := kPx) (w := .int 2) (k := 0) hW.tm rfl)
          have hW := hW.frw (kFr.up (P := kPy mr) (w := .int 2) (k := 0) hW.tm rfl)
          refine lv_if_ne (tgt := 93) hx hb dX4_row_88 (by decide) (fun h9 => by first | exact absurd h9 (by decide) | exact absurd (by decide) h9) (fun _ => ?_)
          refine lv_iconst (v := 0) hx hb dX4_row_91 (by decide) ?_
          refine W.widen (k := 0) (n := 0) (Nat.le_of_ble_eq_true rfl) (Nat.le_of_ble_eq_true rfl) ?_
          exact W.iret (v := 0) hx hb hr (fun t ht hW9 => ⟨⟨0, (u_214.1, u_214.2), rfl, ⟨_, _, _, hF, hW, hI⟩, by rw [ht]; exact hP, va_K.moved hW9.alike hK, hD⟩, hS.F ht⟩) hS.2.2 dX4_row_92
      · refine lv_iload hx hb dX4_row_68 (lv_at hl 0 rfl) ?_
        refine lv_aload_n hx hb dX4_row_70 rfl (lv_at hl 1 rfl) ?_
        refine kp_get hx hb hts i_X4 hown hK hP hI hW.tm rfl rfl 6 (by decide) (by decide) (hts (.fieldLink RX4 129 "IslandSolverModel" "rows" "I") (by decide +kernel)) (fun _ h9 => h9) dX4_row_71 (kq_P (v0 := .int (nI mr)) rfl hW.p6 fun h_217 => ?_)
        refine lv_sipush (v := 1024) hx hb dX4_row_74 (by decide) ?_
        refine lv_icmp_ge (tgt := 84) hx hb dX4_row_77 (by decide) (fun c_218 => ?_) (fun c_218 => ?_)
        · have n_219 : 1024 ≤ mr := (nI_leI (by omega) (by omega)).mp (show nI 1024 ≤ nI mr from c_218)
          refine lv_iconst (v := 0) hx hb dX4_row_84 (by decide) ?_
          refine kd_calli (va_runV (As := [.int 1, .int 0, .int 0]) (rest := []) ⟨hx, hb, hml, hown, hts⟩ (k_goes3 l dC dI dA ad _ τ pv _ _ hI mm fa sa aa ia sf mb mr mk mr hW 0) (cwV 3 hts gX4_row_X4_goes rfl rfl rfl (by decide +kernel) ⟨Nat.le_of_ble_eq_true rfl, Nat.le_of_ble_eq_true rfl⟩) (kd_preV hP hD hK hS hA hE hI hW.tm rfl rfl) rfl rfl hl.1 rfl (lv_room (Nat.le_of_ble_eq_true rfl)) dX4_row_85 ⟨Nat.le_of_ble_eq_true rfl, Nat.le_of_ble_eq_true rfl⟩) hD hS hA (fun r_221 u_220 H locs hw hP hD hS => ?_)
          obtain ⟨rfl, hI⟩ := hw
          have hF := hF.trans (kFr.up (P := kPx) (w := .int 2) (k := 0) hW.tm rfl)
          have hW := hW.frw (kFr.up (P := kPy mr) (w := .int 2) (k := 0) hW.tm rfl)
          refine lv_if_ne (tgt := 93) hx hb dX4_row_88 (by decide) (fun h9 => by first | exact absurd h9 (by decide) | exact absurd (by decide) h9) (fun _ => ?_)
          refine lv_iconst (v := 0) hx hb dX4_row_91 (by decide) ?_
          refine W.widen (k := 0) (n := 0) (Nat.le_of_ble_eq_true rfl) (Nat.le_of_ble_eq_true rfl) ?_
          exact W.iret (v := 0) hx hb hr (fun t ht hW9 => ⟨⟨0, (u_220.1, u_220.2), rfl, ⟨_, _, _, hF, hW, hI⟩, by rw [ht]; exact hP, va_K.moved hW9.alike hK, hD⟩, hS.F ht⟩) hS.2.2 dX4_row_92
        · have n_222 : ¬ 1024 ≤ mr := fun h9 => (show ¬ nI 1024 ≤ nI mr from c_218) ((nI_leI (by omega) (by omega)).mpr h9)
          refine lv_iconst (v := 1) hx hb dX4_row_80 (by decide) ?_
          refine lv_goto (tgt := 85) hx hb dX4_row_81 (by decide) ?_
          refine kd_calli (va_runV (As := [.int 1, .int 0, .int 1]) (rest := []) ⟨hx, hb, hml, hown, hts⟩ (k_goes3 l dC dI dA ad _ τ pv _ _ hI mm fa sa aa ia sf mb mr mk mr hW 1) (cwV 3 hts gX4_row_X4_goes rfl rfl rfl (by decide +kernel) ⟨Nat.le_of_ble_eq_true rfl, Nat.le_of_ble_eq_true rfl⟩) (kd_preV hP hD hK hS hA hE hI hW.tm rfl rfl) rfl rfl hl.1 rfl (lv_room (Nat.le_of_ble_eq_true rfl)) dX4_row_85 ⟨Nat.le_of_ble_eq_true rfl, Nat.le_of_ble_eq_true rfl⟩) hD hS hA (fun r_224 u_223 H locs hw hP hD hS => ?_)
          obtain ⟨rfl, hI⟩ := hw
          have hF := hF.trans (kFr.up (P := kPx) (w := .int 2) (k := 0) hW.tm rfl)
          have hW := hW.frw (kFr.up (P := kPy mr) (w := .int 2) (k := 0) hW.tm rfl)
          refine lv_if_ne (tgt := 93) hx hb dX4_row_88 (by decide) (fun h9 => by first | exact absurd h9 (by decide) | exact absurd (by decide) h9) (fun _ => ?_)
          refine lv_iconst (v := 0) hx hb dX4_row_91 (by decide) ?_
          refine W.widen (k := 0) (n := 0) (Nat.le_of_ble_eq_true rfl) (Nat.le_of_ble_eq_true rfl) ?_
          exact W.iret (v := 0) hx hb hr (fun t ht hW9 => ⟨⟨0, (u_223.1, u_223.2), rfl, ⟨_, _, _, hF, hW, hI⟩, by rw [ht]; exact hP, va_K.moved hW9.alike hK, hD⟩, hS.F ht⟩) hS.2.2 dX4_row_92
      · refine lv_iload hx hb dX4_row_68 (lv_at hl 0 rfl) ?_
        refine lv_aload_n hx hb dX4_row_70 rfl (lv_at hl 1 rfl) ?_
        refine kp_get hx hb hts i_X4 hown hK hP hI hW.tm rfl rfl 6 (by decide) (by decide) (hts (.fieldLink RX4 129 "IslandSolverModel" "rows" "I") (by decide +kernel)) (fun _ h9 => h9) dX4_row_71 (kq_P (v0 := .int (nI mr)) rfl hW.p6 fun h_226 => ?_)
        refine lv_sipush (v := 1024) hx hb dX4_row_74 (by decide) ?_
        refine lv_icmp_ge (tgt := 84) hx hb dX4_row_77 (by decide) (fun c_227 => ?_) (fun c_227 => ?_)
        · have n_228 : 1024 ≤ mr := (nI_leI (by omega) (by omega)).mp (show nI 1024 ≤ nI mr from c_227)
          refine lv_iconst (v := 0) hx hb dX4_row_84 (by decide) ?_
          refine kd_calli (va_runV (As := [.int 0, .int 0, .int 0]) (rest := []) ⟨hx, hb, hml, hown, hts⟩ (k_goes2 l dC dI dA ad _ τ pv _ _ hI mm fa sa aa ia sf mb mr mk mr hW 0 0) (cwV 3 hts gX4_row_X4_goes rfl rfl rfl (by decide +kernel) ⟨Nat.le_of_ble_eq_true rfl, Nat.le_of_ble_eq_true rfl⟩) (kd_preV hP hD hK hS hA hE hI hW.tm rfl rfl) rfl rfl hl.1 rfl (lv_room (Nat.le_of_ble_eq_true rfl)) dX4_row_85 ⟨Nat.le_of_ble_eq_true rfl, Nat.le_of_ble_eq_true rfl⟩) hD hS hA (fun r_230 u_229 H locs hw hP hD hS => ?_)
          obtain ⟨rfl, hI⟩ := hw
          have hF := hF.trans (kFr.up (P := kPx) (w := .int 1) (k := 0) hW.tm rfl)
          have hW := hW.frw (kFr.up (P := kPy mr) (w := .int 1) (k := 0) hW.tm rfl)
          refine lv_if_ne (tgt := 93) hx hb dX4_row_88 (by decide) (fun h9 => by first | exact absurd h9 (by decide) | exact absurd (by decide) h9) (fun _ => ?_)
          refine lv_iconst (v := 0) hx hb dX4_row_91 (by decide) ?_
          refine W.widen (k := 0) (n := 0) (Nat.le_of_ble_eq_true rfl) (Nat.le_of_ble_eq_true rfl) ?_
          exact W.iret (v := 0) hx hb hr (fun t ht hW9 => ⟨⟨0, (u_229.1, u_229.2), rfl, ⟨_, _, _, hF, hW, hI⟩, by rw [ht]; exact hP, va_K.moved hW9.alike hK, hD⟩, hS.F ht⟩) hS.2.2 dX4_row_92
        · have n_231 : ¬ 1024 ≤ mr := fun h9 => (show ¬ nI 1024 ≤ nI mr from c_227) ((nI_leI (by omega) (by omega)).mpr h9)
          refine lv_iconst (v := 1) hx hb dX4_row_80 (by decide) ?_
          refine lv_goto (tgt := 85) hx hb dX4_row_81 (by decide) ?_
          refine kd_calli (va_runV (As := [.int 0, .int 0, .int 1]) (rest := []) ⟨hx, hb, hml, hown, hts⟩ (k_goes2 l dC dI dA ad _ τ pv _ _ hI mm fa sa aa ia sf mb mr mk mr hW 0 1) (cwV 3 hts gX4_row_X4_goes rfl rfl rfl (by decide +kernel) ⟨Nat.le_of_ble_eq_true rfl, Nat.le_of_ble_eq_true rfl⟩) (kd_preV hP hD hK hS hA hE hI hW.tm rfl rfl) rfl rfl hl.1 rfl (lv_room (Nat.le_of_ble_eq_true rfl)) dX4_row_85 ⟨Nat.le_of_ble_eq_true rfl, Nat.le_of_ble_eq_true rfl⟩) hD hS hA (fun r_233 u_232 H locs hw hP hD hS => ?_)
          obtain ⟨rfl, hI⟩ := hw
          have hF := hF.trans (kFr.up (P := kPx) (w := .int 1) (k := 0) hW.tm rfl)
          have hW := hW.frw (kFr.up (P := kPy mr) (w := .int 1) (k := 0) hW.tm rfl)
          refine lv_if_ne (tgt := 93) hx hb dX4_row_88 (by decide) (fun h9 => by first | exact absurd h9 (by decide) | exact absurd (by decide) h9) (fun _ => ?_)
          refine lv_iconst (v := 0) hx hb dX4_row_91 (by decide) ?_
          refine W.widen (k := 0) (n := 0) (Nat.le_of_ble_eq_true rfl) (Nat.le_of_ble_eq_true rfl) ?_
          exact W.iret (v := 0) hx hb hr (fun t ht hW9 => ⟨⟨0, (u_232.1, u_232.2), rfl, ⟨_, _, _, hF, hW, hI⟩, by rw [ht]; exact hP, va_K.moved hW9.alike hK, hD⟩, hS.F ht⟩) hS.2.2 dX4_row_92
  · refine lv_if_eq (tgt := 58) hx hb dX4_row_8 (by decide) (fun _ => ?_) (fun h9 => by first | exact absurd h9 (by decide) | exact absurd (by decide) h9)
    refine lv_iconst (v := 0) hx hb dX4_row_58 (by decide) ?_
    refine lv_istore (lv' := [(8, .int 0), (0, .ref mm), (1, .int n), (2, .int k), (3, .float a), (4, .float b), (5, .float c9), (6, .float d9), (7, .int ky)]) hx hb dX4_row_59 hl (by decide) rfl (fun ls hl => ?_)
    refine lv_aload_n hx hb dX4_row_61 rfl (lv_at hl 1 rfl) ?_
    refine lv_aload_n hx hb dX4_row_62 rfl (lv_at hl 1 rfl) ?_
    refine lv_iload_n hx hb dX4_row_63 rfl (lv_at hl 2 rfl) ?_
    refine lv_iload_n hx hb dX4_row_64 rfl (lv_at hl 3 rfl) ?_
    refine kd_calli (va_runV (As := [.int n, .int k]) (rest := [.ref mm]) ⟨hx, hb, hml, hown, hts⟩ (k_pair l dC dI dA ad _ τ pv _ _ hI mm fa sa aa ia sf mb mr mk mr hW n k) (cwV 2 hts gX4_row_X4_pair rfl rfl rfl (by decide +kernel) ⟨Nat.le_of_ble_eq_true rfl, Nat.le_of_ble_eq_true rfl⟩) (kd_preV hP hD hK hS hA hE hI hW.tm rfl rfl) rfl rfl hl.1 rfl (lv_room (Nat.le_of_ble_eq_true rfl)) dX4_row_65 ⟨Nat.le_of_ble_eq_true rfl, Nat.le_of_ble_eq_true rfl⟩) hD hS hA (fun r_235 u_234 H locs hw hP hD hS => ?_)
    obtain ⟨⟨rfl, ⟨j_236, hj_236, rfl⟩, rfl | ⟨j_237, hj_237, rfl⟩⟩ | rfl, hI⟩ := hw
    · refine lv_iload hx hb dX4_row_68 (lv_at hl 0 rfl) ?_
      refine lv_aload_n hx hb dX4_row_70 rfl (lv_at hl 1 rfl) ?_
      refine kp_get hx hb hts i_X4 hown hK hP hI hW.tm rfl rfl 6 (by decide) (by decide) (hts (.fieldLink RX4 129 "IslandSolverModel" "rows" "I") (by decide +kernel)) (fun _ h9 => h9) dX4_row_71 (kq_P (v0 := .int (nI mr)) rfl hW.p6 fun h_239 => ?_)
      refine lv_sipush (v := 1024) hx hb dX4_row_74 (by decide) ?_
      refine lv_icmp_ge (tgt := 84) hx hb dX4_row_77 (by decide) (fun c_240 => ?_) (fun c_240 => ?_)
      · have n_241 : 1024 ≤ mr := (nI_leI (by omega) (by omega)).mp (show nI 1024 ≤ nI mr from c_240)
        refine lv_iconst (v := 0) hx hb dX4_row_84 (by decide) ?_
        refine kd_calli (va_runV (As := [.int 1, .int 0, .int 0]) (rest := []) ⟨hx, hb, hml, hown, hts⟩ (k_goes3 l dC dI dA ad _ τ pv _ _ hI mm fa sa aa ia sf mb mr mk mr hW 0) (cwV 3 hts gX4_row_X4_goes rfl rfl rfl (by decide +kernel) ⟨Nat.le_of_ble_eq_true rfl, Nat.le_of_ble_eq_true rfl⟩) (kd_preV hP hD hK hS hA hE hI hW.tm rfl rfl) rfl rfl hl.1 rfl (lv_room (Nat.le_of_ble_eq_true rfl)) dX4_row_85 ⟨Nat.le_of_ble_eq_true rfl, Nat.le_of_ble_eq_true rfl⟩) hD hS hA (fun r_243 u_242 H locs hw hP hD hS => ?_)
        obtain ⟨rfl, hI⟩ := hw
        have hF := hF.trans (kFr.up (P := kPx) (w := .int 2) (k := 0) hW.tm rfl)
        have hW := hW.frw (kFr.up (P := kPy mr) (w := .int 2) (k := 0) hW.tm rfl)
        refine lv_if_ne (tgt := 93) hx hb dX4_row_88 (by decide) (fun h9 => by first | exact absurd h9 (by decide) | exact absurd (by decide) h9) (fun _ => ?_)
        refine lv_iconst (v := 0) hx hb dX4_row_91 (by decide) ?_
        refine W.widen (k := 0) (n := 0) (Nat.le_of_ble_eq_true rfl) (Nat.le_of_ble_eq_true rfl) ?_
        exact W.iret (v := 0) hx hb hr (fun t ht hW9 => ⟨⟨0, (u_242.1, u_242.2), rfl, ⟨_, _, _, hF, hW, hI⟩, by rw [ht]; exact hP, va_K.moved hW9.alike hK, hD⟩, hS.F ht⟩) hS.2.2 dX4_row_92
      · have n_244 : ¬ 1024 ≤ mr := fun h9 => (show ¬ nI 1024 ≤ nI mr from c_240) ((nI_leI (by omega) (by omega)).mpr h9)
        refine lv_iconst (v := 1) hx hb dX4_row_80 (by decide) ?_
        refine lv_goto (tgt := 85) hx hb dX4_row_81 (by decide) ?_
        refine kd_calli (va_runV (As := [.int 1, .int 0, .int 1]) (rest := []) ⟨hx, hb, hml, hown, hts⟩ (k_goes3 l dC dI dA ad _ τ pv _ _ hI mm fa sa aa ia sf mb mr mk mr hW 1) (cwV 3 hts gX4_row_X4_goes rfl rfl rfl (by decide +kernel) ⟨Nat.le_of_ble_eq_true rfl, Nat.le_of_ble_eq_true rfl⟩) (kd_preV hP hD hK hS hA hE hI hW.tm rfl rfl) rfl rfl hl.1 rfl (lv_room (Nat.le_of_ble_eq_true rfl)) dX4_row_85 ⟨Nat.le_of_ble_eq_true rfl, Nat.le_of_ble_eq_true rfl⟩) hD hS hA (fun r_246 u_245 H locs hw hP hD hS => ?_)
        obtain ⟨rfl, hI⟩ := hw
        have hF := hF.trans (kFr.up (P := kPx) (w := .int 2) (k := 0) hW.tm rfl)
        have hW := hW.frw (kFr.up (P := kPy mr) (w := .int 2) (k := 0) hW.tm rfl)
        refine lv_if_ne (tgt := 93) hx hb dX4_row_88 (by decide) (fun h9 => by first | exact absurd h9 (by decide) | exact absurd (by decide) h9) (fun _ => ?_)
        refine lv_iconst (v := 0) hx hb dX4_row_91 (by decide) ?_
        refine W.widen (k := 0) (n := 0) (Nat.le_of_ble_eq_true rfl) (Nat.le_of_ble_eq_true rfl) ?_
        exact W.iret (v := 0) hx hb hr (fun t ht hW9 => ⟨⟨0, (u_245.1, u_245.2), rfl, ⟨_, _, _, hF, hW, hI⟩, by rw [ht]; exact hP, va_K.moved hW9.alike hK, hD⟩, hS.F ht⟩) hS.2.2 dX4_row_92
    · refine lv_iload hx hb dX4_row_68 (lv_at hl 0 rfl) ?_
      refine lv_aload_n hx hb dX4_row_70 rfl (lv_at hl 1 rfl) ?_
      refine kp_get hx hb hts i_X4 hown hK hP hI hW.tm rfl rfl 6 (by decide) (by decide) (hts (.fieldLink RX4 129 "IslandSolverModel" "rows" "I") (by decide +kernel)) (fun _ h9 => h9) dX4_row_71 (kq_P (v0 := .int (nI mr)) rfl hW.p6 fun h_248 => ?_)
      refine lv_sipush (v := 1024) hx hb dX4_row_74 (by decide) ?_
      refine lv_icmp_ge (tgt := 84) hx hb dX4_row_77 (by decide) (fun c_249 => ?_) (fun c_249 => ?_)
      · have n_250 : 1024 ≤ mr := (nI_leI (by omega) (by omega)).mp (show nI 1024 ≤ nI mr from c_249)
        refine lv_iconst (v := 0) hx hb dX4_row_84 (by decide) ?_
        refine kd_calli (va_runV (As := [.int 1, .int 0, .int 0]) (rest := []) ⟨hx, hb, hml, hown, hts⟩ (k_goes3 l dC dI dA ad _ τ pv _ _ hI mm fa sa aa ia sf mb mr mk mr hW 0) (cwV 3 hts gX4_row_X4_goes rfl rfl rfl (by decide +kernel) ⟨Nat.le_of_ble_eq_true rfl, Nat.le_of_ble_eq_true rfl⟩) (kd_preV hP hD hK hS hA hE hI hW.tm rfl rfl) rfl rfl hl.1 rfl (lv_room (Nat.le_of_ble_eq_true rfl)) dX4_row_85 ⟨Nat.le_of_ble_eq_true rfl, Nat.le_of_ble_eq_true rfl⟩) hD hS hA (fun r_252 u_251 H locs hw hP hD hS => ?_)
        obtain ⟨rfl, hI⟩ := hw
        have hF := hF.trans (kFr.up (P := kPx) (w := .int 2) (k := 0) hW.tm rfl)
        have hW := hW.frw (kFr.up (P := kPy mr) (w := .int 2) (k := 0) hW.tm rfl)
        refine lv_if_ne (tgt := 93) hx hb dX4_row_88 (by decide) (fun h9 => by first | exact absurd h9 (by decide) | exact absurd (by decide) h9) (fun _ => ?_)
        refine lv_iconst (v := 0) hx hb dX4_row_91 (by decide) ?_
        refine W.widen (k := 0) (n := 0) (Nat.le_of_ble_eq_true rfl) (Nat.le_of_ble_eq_true rfl) ?_
        exact W.iret (v := 0) hx hb hr (fun t ht hW9 => ⟨⟨0, (u_251.1, u_251.2), rfl, ⟨_, _, _, hF, hW, hI⟩, by rw [ht]; exact hP, va_K.moved hW9.alike hK, hD⟩, hS.F ht⟩) hS.2.2 dX4_row_92
      · have n_253 : ¬ 1024 ≤ mr := fun h9 => (show ¬ nI 1024 ≤ nI mr from c_249) ((nI_leI (by omega) (by omega)).mpr h9)
        refine lv_iconst (v := 1) hx hb dX4_row_80 (by decide) ?_
        refine lv_goto (tgt := 85) hx hb dX4_row_81 (by decide) ?_
        refine kd_calli (va_runV (As := [.int 1, .int 0, .int 1]) (rest := []) ⟨hx, hb, hml, hown, hts⟩ (k_goes3 l dC dI dA ad _ τ pv _ _ hI mm fa sa aa ia sf mb mr mk mr hW 1) (cwV 3 hts gX4_row_X4_goes rfl rfl rfl (by decide +kernel) ⟨Nat.le_of_ble_eq_true rfl, Nat.le_of_ble_eq_true rfl⟩) (kd_preV hP hD hK hS hA hE hI hW.tm rfl rfl) rfl rfl hl.1 rfl (lv_room (Nat.le_of_ble_eq_true rfl)) dX4_row_85 ⟨Nat.le_of_ble_eq_true rfl, Nat.le_of_ble_eq_true rfl⟩) hD hS hA (fun r_255 u_254 H locs hw hP hD hS => ?_)
        obtain ⟨rfl, hI⟩ := hw
        have hF := hF.trans (kFr.up (P := kPx) (w := .int 2) (k := 0) hW.tm rfl)
        have hW := hW.frw (kFr.up (P := kPy mr) (w := .int 2) (k := 0) hW.tm rfl)
        refine lv_if_ne (tgt := 93) hx hb dX4_row_88 (by decide) (fun h9 => by first | exact absurd h9 (by decide) | exact absurd (by decide) h9) (fun _ => ?_)
        refine lv_iconst (v := 0) hx hb dX4_row_91 (by decide) ?_
        refine W.widen (k := 0) (n := 0) (Nat.le_of_ble_eq_true rfl) (Nat.le_of_ble_eq_true rfl) ?_
        exact W.iret (v := 0) hx hb hr (fun t ht hW9 => ⟨⟨0, (u_254.1, u_254.2), rfl, ⟨_, _, _, hF, hW, hI⟩, by rw [ht]; exact hP, va_K.moved hW9.alike hK, hD⟩, hS.F ht⟩) hS.2.2 dX4_row_92
    · refine lv_iload hx hb dX4_row_68 (lv_at hl 0 rfl) ?_
      refine lv_aload_n hx hb dX4_row_70 rfl (lv_at hl 1 rfl) ?_
      refine kp_get hx hb hts i_X4 hown hK hP hI hW.tm rfl rfl 6 (by decide) (by decide) (hts (.fieldLink RX4 129 "IslandSolverModel" "rows" "I") (by decide +kernel)) (fun _ h9 => h9) dX4_row_71 (kq_P (v0 := .int (nI mr)) rfl hW.p6 fun h_257 => ?_)
      refine lv_sipush (v := 1024) hx hb dX4_row_74 (by decide) ?_
      refine lv_icmp_ge (tgt := 84) hx hb dX4_row_77 (by decide) (fun c_258 => ?_) (fun c_258 => ?_)
      · have n_259 : 1024 ≤ mr := (nI_leI (by omega) (by omega)).mp (show nI 1024 ≤ nI mr from c_258)
        refine lv_iconst (v := 0) hx hb dX4_row_84 (by decide) ?_
        refine kd_calli (va_runV (As := [.int 0, .int 0, .int 0]) (rest := []) ⟨hx, hb, hml, hown, hts⟩ (k_goes2 l dC dI dA ad _ τ pv _ _ hI mm fa sa aa ia sf mb mr mk mr hW 0 0) (cwV 3 hts gX4_row_X4_goes rfl rfl rfl (by decide +kernel) ⟨Nat.le_of_ble_eq_true rfl, Nat.le_of_ble_eq_true rfl⟩) (kd_preV hP hD hK hS hA hE hI hW.tm rfl rfl) rfl rfl hl.1 rfl (lv_room (Nat.le_of_ble_eq_true rfl)) dX4_row_85 ⟨Nat.le_of_ble_eq_true rfl, Nat.le_of_ble_eq_true rfl⟩) hD hS hA (fun r_261 u_260 H locs hw hP hD hS => ?_)
        obtain ⟨rfl, hI⟩ := hw
        have hF := hF.trans (kFr.up (P := kPx) (w := .int 1) (k := 0) hW.tm rfl)
        have hW := hW.frw (kFr.up (P := kPy mr) (w := .int 1) (k := 0) hW.tm rfl)
        refine lv_if_ne (tgt := 93) hx hb dX4_row_88 (by decide) (fun h9 => by first | exact absurd h9 (by decide) | exact absurd (by decide) h9) (fun _ => ?_)
        refine lv_iconst (v := 0) hx hb dX4_row_91 (by decide) ?_
        refine W.widen (k := 0) (n := 0) (Nat.le_of_ble_eq_true rfl) (Nat.le_of_ble_eq_true rfl) ?_
        exact W.iret (v := 0) hx hb hr (fun t ht hW9 => ⟨⟨0, (u_260.1, u_260.2), rfl, ⟨_, _, _, hF, hW, hI⟩, by rw [ht]; exact hP, va_K.moved hW9.alike hK, hD⟩, hS.F ht⟩) hS.2.2 dX4_row_92
      · have n_262 : ¬ 1024 ≤ mr := fun h9 => (show ¬ nI 1024 ≤ nI mr from c_258) ((nI_leI (by omega) (by omega)).mpr h9)
        refine lv_iconst (v := 1) hx hb dX4_row_80 (by decide) ?_
        refine lv_goto (tgt := 85) hx hb dX4_row_81 (by decide) ?_
        refine kd_calli (va_runV (As := [.int 0, .int 0, .int 1]) (rest := []) ⟨hx, hb, hml, hown, hts⟩ (k_goes2 l dC dI dA ad _ τ pv _ _ hI mm fa sa aa ia sf mb mr mk mr hW 0 1) (cwV 3 hts gX4_row_X4_goes rfl rfl rfl (by decide +kernel) ⟨Nat.le_of_ble_eq_true rfl, Nat.le_of_ble_eq_true rfl⟩) (kd_preV hP hD hK hS hA hE hI hW.tm rfl rfl) rfl rfl hl.1 rfl (lv_room (Nat.le_of_ble_eq_true rfl)) dX4_row_85 ⟨Nat.le_of_ble_eq_true rfl, Nat.le_of_ble_eq_true rfl⟩) hD hS hA (fun r_264 u_263 H locs hw hP hD hS => ?_)
        obtain ⟨rfl, hI⟩ := hw
        have hF := hF.trans (kFr.up (P := kPx) (w := .int 1) (k := 0) hW.tm rfl)
        have hW := hW.frw (kFr.up (P := kPy mr) (w := .int 1) (k := 0) hW.tm rfl)
        refine lv_if_ne (tgt := 93) hx hb dX4_row_88 (by decide) (fun h9 => by first | exact absurd h9 (by decide) | exact absurd (by decide) h9) (fun _ => ?_)
        refine lv_iconst (v := 0) hx hb dX4_row_91 (by decide) ?_
        refine W.widen (k := 0) (n := 0) (Nat.le_of_ble_eq_true rfl) (Nat.le_of_ble_eq_true rfl) ?_
        exact W.iret (v := 0) hx hb hr (fun t ht hW9 => ⟨⟨0, (u_263.1, u_263.2), rfl, ⟨_, _, _, hF, hW, hI⟩, by rw [ht]; exact hP, va_K.moved hW9.alike hK, hD⟩, hS.F ht⟩) hS.2.2 dX4_row_92
