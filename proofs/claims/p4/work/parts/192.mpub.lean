set_option maxHeartbeats 4000000 in
set_option maxRecDepth 100000 in
theorem m_p_rub (l : Launch) (dC : Nat → ClassId) (dI : Nat → Nat → Nat) (dA : Nat → ClassId) (ad sz : Nat) (τ : Nat → Nat → Nat) (pv : Nat → Nat → Value) (L : List Nat) (f : Nat → va_E) (hI : kI dA τ pv L f) (mm fa sa aa ia sf mb mr mk : Nat) (hW : kMd τ pv mm fa sa aa ia sf mb mr mk mr) (n k : Int32) (a : UInt32) (at9 : Int32) (b : UInt32) (ky : Int32) (g9 : Bool) (hg9 : g9 = kGm pv fa sa aa mr n k at9) : Met l yX4_rub wsX4_rub ({ frames := 3, cells := 0, slots := 0, locals := 71 } : Room) (va_Pc [.ref mm, .int n, .int k, .float a, .int at9, .float b, .int ky] (kB dC dI dA ad sz L f)) (va_Qi (fun r u => kPostQ dA τ pv mm fa sa aa ia sf mb mr (kinc (kc_rub n k mb mr a at9 b g9) mr) (kc_rub n k mb mr a at9 b g9) r (nI mr) n k at9 u) (kR dC dI dA (va_A (va_pl L f) sz)) (va_A (va_pl L f) sz)) 0 0 (va_A (va_pl L f) sz) := by
  refine Met.ofW (cc := cX4_rub) (maxL := 9) (ret := (some .int)) (by decide) rfl ?_
  intro p e s m args below meth c s₁ B hml hv
  obtain ⟨rfl, hsz, hP, hK, hD0, hE⟩ := hv
  have hx := B.exec
  have hb := B.bytes
  have hr := B.returns
  have hts := atoms_spec (ws := wsX4_rub) B.pre
  have hown : s.vm.findClass RX4 = some m.cls := findClass_of_methodNamed B.named
  have hlocks := B.notSynchronized
  have i_X4 : ∀ w ∈ u_ws RX4 TX4 35, w ∈ wsX4_rub := by decide +kernel
  subst hsz
  have hD := hD0.self (sz := s.heap.size)
  generalize hAe : va_A (va_pl L f) s.heap.size = A at hD hE ⊢
  have hA : ∀ q : Nat, s.heap.size ≤ q → A q := fun q h => by rw [← hAe]; exact Or.inr h
  have hS : va_S A s.heap s.heap [] := va_S.rf
  have hP : va_P (dC, dI) vwCl (va_pl L f) s.heap := hP
  have hK : va_K (dC, dI) vwCl (tyA dA) s := hK
  have hl := lv_entry ([.ref mm, .int n, .int k, .float a, .int at9, .float b, .int ky]) (n := 9) (Nat.le_of_ble_eq_true rfl)
  rw [lg_entry_eq]
  generalize (lg_sl ([.ref mm, .int n, .int k, .float a, .int at9, .float b, .int ky]) ++ List.replicate (9 - (lg_sl ([.ref mm, .int n, .int k, .float a, .int at9, .float b, .int ky])).length) Slot.unset).toArray = ls at hl ⊢
  have hl : lv_has ls 9 [(0, .ref mm), (1, .int n), (2, .int k), (3, .float a), (4, .int at9), (5, .float b), (6, .int ky)] := hl
  have hnb := hW.lb
  have hnr := hW.lr
  have hnk := hW.lk
  have hni := hW.li
  have hF : kFr (kPxr mr) τ pv τ pv := kFr.rf
  refine kl_cut (P := 99) (Inv := fun _ L f H locs ls => ∃ (z7 : Int32) (z8 : Int32), kI dA τ pv L f ∧ va_P (dC, dI) vwCl (va_pl L f) H ∧ va_D A (va_pl L f) ∧ va_S A s.heap H locs ∧ lv_has ls 9 [(0, .ref mm), (1, .int n), (2, .int k), (3, .float a), (4, .int at9), (5, .float b), (6, .int ky), (7, .int z7), (8, .int z8)] ∧ ((z7 = 0 ∧ kKn at9 mr = false) ∨ (z7 = 1 ∧ kKn at9 mr = true)) ∧ ((z8 = 0 ∧ (z7 = 1 → (kFitRub a b && g9) = false)) ∨ (z8 = 1 ∧ z7 = 1 ∧ (kFitRub a b && g9) = true ∧ fb 1149239296 a ∧ fb 1090519040 b ∧ ∃ j, j < mr ∧ at9 = nI j ∧ pv aa j = .int (-1)))) (fun _ L f H locs ls h9 => ?_) (fun cut99 => ?_)
  · obtain ⟨z7, z8, hI, hP, hD, hS, hl, hz7, hz8⟩ := h9
    rcases hz8 with ⟨rfl, hz8⟩ | ⟨rfl, rfl, hz8, hfa, hfb, j9, hj9, rfl, hp9⟩
    · rcases hz7 with ⟨rfl, hz7⟩ | ⟨rfl, hz7⟩
      · refine lv_aload_n hx hb dX4_rub_99 rfl (lv_at hl 0 rfl) ?_
        refine lv_aload_n hx hb dX4_rub_100 rfl (lv_at hl 0 rfl) ?_
        refine lv_iload_n hx hb dX4_rub_101 rfl (lv_at hl 1 rfl) ?_
        refine lv_iload_n hx hb dX4_rub_102 rfl (lv_at hl 2 rfl) ?_
        refine kd_calli (va_runV (As := [.int n, .int k]) (rest := [.ref mm]) ⟨hx, hb, hml, hown, hts⟩ (k_pair l dC dI dA ad _ τ pv _ _ hI mm fa sa aa ia sf mb mr mk mr hW n k) (cwV 2 hts gX4_rub_X4_pair rfl rfl rfl (by decide +kernel) ⟨Nat.le_of_ble_eq_true rfl, Nat.le_of_ble_eq_true rfl⟩) (kd_preV hP hD hK hS hA hE hI hW.tm rfl rfl) rfl rfl hl.1 rfl (lv_room (Nat.le_of_ble_eq_true rfl)) dX4_rub_103 ⟨Nat.le_of_ble_eq_true rfl, Nat.le_of_ble_eq_true rfl⟩) hD hS hA (fun r_2 u_1 H locs hw hP hD hS => ?_)
        obtain ⟨⟨rfl, hp_5, ⟨j_3, hj_3, rfl⟩, rfl | ⟨j_4, hj_4, rfl⟩⟩ | ⟨rfl, hp_5⟩, hI⟩ := hw
        · refine lv_if_eq (tgt := 118) hx hb dX4_rub_106 (by decide) (fun h9 => by first | exact absurd h9 (by decide) | exact absurd (by decide) h9) (fun _ => ?_)
          refine lv_iload hx hb dX4_rub_109 (lv_at hl 7 rfl) ?_
          refine lv_if_eq (tgt := 118) hx hb dX4_rub_111 (by decide) (fun _ => ?_) (fun h9 => by first | exact absurd h9 (by decide) | exact absurd (by decide) h9)
          refine lv_iconst (v := 0) hx hb dX4_rub_118 (by decide) ?_
          refine lv_iload hx hb dX4_rub_119 (lv_at hl 8 rfl) ?_
          refine lv_aload_n hx hb dX4_rub_121 rfl (lv_at hl 0 rfl) ?_
          refine kp_get hx hb hts i_X4 hown hK hP hI hW.tm rfl rfl 6 (by decide) (by decide) (hts (.fieldLink RX4 129 "IslandSolverModel" "rows" "I") (by decide +kernel)) (fun _ h9 => h9) dX4_rub_122 (kq_P (v0 := .int (nI mr)) rfl hW.p6 fun h_7 => ?_)
          refine lv_sipush (v := 1024) hx hb dX4_rub_125 (by decide) ?_
          refine lv_icmp_ge (tgt := 135) hx hb dX4_rub_128 (by decide) (fun c_8 => ?_) (fun c_8 => ?_)
          · have n_9 : 1024 ≤ mr := (nI_leI (by omega) (by omega)).mp (show nI 1024 ≤ nI mr from c_8)
            refine lv_iconst (v := 0) hx hb dX4_rub_135 (by decide) ?_
            refine kd_calli (va_runV (As := [.int 0, .int 0, .int 0]) (rest := []) ⟨hx, hb, hml, hown, hts⟩ (k_goes2 l dC dI dA ad _ τ pv _ _ hI mm fa sa aa ia sf mb mr mk mr hW 0 0) (cwV 3 hts gX4_rub_X4_goes rfl rfl rfl (by decide +kernel) ⟨Nat.le_of_ble_eq_true rfl, Nat.le_of_ble_eq_true rfl⟩) (kd_preV hP hD hK hS hA hE hI hW.tm rfl rfl) rfl rfl hl.1 rfl (lv_room (Nat.le_of_ble_eq_true rfl)) dX4_rub_136 ⟨Nat.le_of_ble_eq_true rfl, Nat.le_of_ble_eq_true rfl⟩) hD hS hA (fun r_11 u_10 H locs hw hP hD hS => ?_)
            obtain ⟨rfl, hI⟩ := hw
            have hF := hF.trans (kFr.up (P := (kPxr mr)) (w := .int 1) (k := 0) hW.tm rfl)
            have hW := hW.frw (kFr.up (P := kPy mr) (w := .int 1) (k := 0) hW.tm rfl)
            refine lv_if_ne (tgt := 144) hx hb dX4_rub_139 (by decide) (fun h9 => by first | exact absurd h9 (by decide) | exact absurd (by decide) h9) (fun _ => ?_)
            refine lv_iconst (v := 0) hx hb dX4_rub_142 (by decide) ?_
            refine W.widen (k := 0) (n := 0) (Nat.le_of_ble_eq_true rfl) (Nat.le_of_ble_eq_true rfl) ?_
            exact W.iret (v := 0) hx hb hr (fun t ht hW9 => ⟨⟨0, (u_10.1, u_10.2), rfl, (by rw [kinc_1 (show kc_rub (nI j_3) (-1) mb mr a at9 b g9 ≠ 0 by rw [show kc_rub (nI j_3) (-1) mb mr a at9 b g9 = 1 from (by simp only [kc_rub, hz7, hp_5, (Nat.not_lt.mpr n_9), decide_true, decide_false, Bool.not_true, Bool.not_false, Bool.and_true, Bool.true_and, Bool.and_false, Bool.false_and, Bool.and_self, Bool.false_eq_true, if_true, if_false, ite_true, ite_false, reduceIte] <;> decide)]; decide)]; exact ⟨_, _, hF, hW, (Eq.trans kup_self (congrArg Value.int (Eq.symm (by simp only [kc_rub, hz7, hp_5, (Nat.not_lt.mpr n_9), decide_true, decide_false, Bool.not_true, Bool.not_false, Bool.and_true, Bool.true_and, Bool.and_false, Bool.false_and, Bool.and_self, Bool.false_eq_true, if_true, if_false, ite_true, ite_false, reduceIte] <;> decide)))), fun h9 => absurd ((show kc_rub (nI j_3) (-1) mb mr a at9 b g9 = 1 from (by simp only [kc_rub, hz7, hp_5, (Nat.not_lt.mpr n_9), decide_true, decide_false, Bool.not_true, Bool.not_false, Bool.and_true, Bool.true_and, Bool.and_false, Bool.false_and, Bool.and_self, Bool.false_eq_true, if_true, if_false, ite_true, ite_false, reduceIte] <;> decide)).symm.trans h9) (by decide), fun h9 => absurd ((show kc_rub (nI j_3) (-1) mb mr a at9 b g9 = 1 from (by simp only [kc_rub, hz7, hp_5, (Nat.not_lt.mpr n_9), decide_true, decide_false, Bool.not_true, Bool.not_false, Bool.and_true, Bool.true_and, Bool.and_false, Bool.false_and, Bool.and_self, Bool.false_eq_true, if_true, if_false, ite_true, ite_false, reduceIte] <;> decide)).symm.trans h9) (by decide), hI⟩), by rw [ht]; exact hP, va_K.moved hW9.alike hK, hD⟩, hS.F ht⟩) hS.2.2 dX4_rub_143
          · have n_12 : ¬ 1024 ≤ mr := fun h9 => (show ¬ nI 1024 ≤ nI mr from c_8) ((nI_leI (by omega) (by omega)).mpr h9)
            refine lv_iconst (v := 1) hx hb dX4_rub_131 (by decide) ?_
            refine lv_goto (tgt := 136) hx hb dX4_rub_132 (by decide) ?_
            refine kd_calli (va_runV (As := [.int 0, .int 0, .int 1]) (rest := []) ⟨hx, hb, hml, hown, hts⟩ (k_goes2 l dC dI dA ad _ τ pv _ _ hI mm fa sa aa ia sf mb mr mk mr hW 0 1) (cwV 3 hts gX4_rub_X4_goes rfl rfl rfl (by decide +kernel) ⟨Nat.le_of_ble_eq_true rfl, Nat.le_of_ble_eq_true rfl⟩) (kd_preV hP hD hK hS hA hE hI hW.tm rfl rfl) rfl rfl hl.1 rfl (lv_room (Nat.le_of_ble_eq_true rfl)) dX4_rub_136 ⟨Nat.le_of_ble_eq_true rfl, Nat.le_of_ble_eq_true rfl⟩) hD hS hA (fun r_14 u_13 H locs hw hP hD hS => ?_)
            obtain ⟨rfl, hI⟩ := hw
            have hF := hF.trans (kFr.up (P := (kPxr mr)) (w := .int 1) (k := 0) hW.tm rfl)
            have hW := hW.frw (kFr.up (P := kPy mr) (w := .int 1) (k := 0) hW.tm rfl)
            refine lv_if_ne (tgt := 144) hx hb dX4_rub_139 (by decide) (fun h9 => by first | exact absurd h9 (by decide) | exact absurd (by decide) h9) (fun _ => ?_)
            refine lv_iconst (v := 0) hx hb dX4_rub_142 (by decide) ?_
            refine W.widen (k := 0) (n := 0) (Nat.le_of_ble_eq_true rfl) (Nat.le_of_ble_eq_true rfl) ?_
            exact W.iret (v := 0) hx hb hr (fun t ht hW9 => ⟨⟨0, (u_13.1, u_13.2), rfl, (by rw [kinc_1 (show kc_rub (nI j_3) (-1) mb mr a at9 b g9 ≠ 0 by rw [show kc_rub (nI j_3) (-1) mb mr a at9 b g9 = 1 from (by simp only [kc_rub, hz7, hp_5, (Nat.not_le.mp n_12), decide_true, decide_false, Bool.not_true, Bool.not_false, Bool.and_true, Bool.true_and, Bool.and_false, Bool.false_and, Bool.and_self, Bool.false_eq_true, if_true, if_false, ite_true, ite_false, reduceIte] <;> decide)]; decide)]; exact ⟨_, _, hF, hW, (Eq.trans kup_self (congrArg Value.int (Eq.symm (by simp only [kc_rub, hz7, hp_5, (Nat.not_le.mp n_12), decide_true, decide_false, Bool.not_true, Bool.not_false, Bool.and_true, Bool.true_and, Bool.and_false, Bool.false_and, Bool.and_self, Bool.false_eq_true, if_true, if_false, ite_true, ite_false, reduceIte] <;> decide)))), fun h9 => absurd ((show kc_rub (nI j_3) (-1) mb mr a at9 b g9 = 1 from (by simp only [kc_rub, hz7, hp_5, (Nat.not_le.mp n_12), decide_true, decide_false, Bool.not_true, Bool.not_false, Bool.and_true, Bool.true_and, Bool.and_false, Bool.false_and, Bool.and_self, Bool.false_eq_true, if_true, if_false, ite_true, ite_false, reduceIte] <;> decide)).symm.trans h9) (by decide), fun h9 => absurd ((show kc_rub (nI j_3) (-1) mb mr a at9 b g9 = 1 from (by simp only [kc_rub, hz7, hp_5, (Nat.not_le.mp n_12), decide_true, decide_false, Bool.not_true, Bool.not_false, Bool.and_true, Bool.true_and, Bool.and_false, Bool.false_and, Bool.and_self, Bool.false_eq_true, if_true, if_false, ite_true, ite_false, reduceIte] <;> decide)).symm.trans h9) (by decide), hI⟩), by rw [ht]; exact hP, va_K.moved hW9.alike hK, hD⟩, hS.F ht⟩) hS.2.2 dX4_rub_143
        · refine lv_if_eq (tgt := 118) hx hb dX4_rub_106 (by decide) (fun h9 => by first | exact absurd h9 (by decide) | exact absurd (by decide) h9) (fun _ => ?_)
          refine lv_iload hx hb dX4_rub_109 (lv_at hl 7 rfl) ?_
          refine lv_if_eq (tgt := 118) hx hb dX4_rub_111 (by decide) (fun _ => ?_) (fun h9 => by first | exact absurd h9 (by decide) | exact absurd (by decide) h9)
          refine lv_iconst (v := 0) hx hb dX4_rub_118 (by decide) ?_
          refine lv_iload hx hb dX4_rub_119 (lv_at hl 8 rfl) ?_
          refine lv_aload_n hx hb dX4_rub_121 rfl (lv_at hl 0 rfl) ?_
          refine kp_get hx hb hts i_X4 hown hK hP hI hW.tm rfl rfl 6 (by decide) (by decide) (hts (.fieldLink RX4 129 "IslandSolverModel" "rows" "I") (by decide +kernel)) (fun _ h9 => h9) dX4_rub_122 (kq_P (v0 := .int (nI mr)) rfl hW.p6 fun h_16 => ?_)
          refine lv_sipush (v := 1024) hx hb dX4_rub_125 (by decide) ?_
          refine lv_icmp_ge (tgt := 135) hx hb dX4_rub_128 (by decide) (fun c_17 => ?_) (fun c_17 => ?_)
          · have n_18 : 1024 ≤ mr := (nI_leI (by omega) (by omega)).mp (show nI 1024 ≤ nI mr from c_17)
            refine lv_iconst (v := 0) hx hb dX4_rub_135 (by decide) ?_
            refine kd_calli (va_runV (As := [.int 0, .int 0, .int 0]) (rest := []) ⟨hx, hb, hml, hown, hts⟩ (k_goes2 l dC dI dA ad _ τ pv _ _ hI mm fa sa aa ia sf mb mr mk mr hW 0 0) (cwV 3 hts gX4_rub_X4_goes rfl rfl rfl (by decide +kernel) ⟨Nat.le_of_ble_eq_true rfl, Nat.le_of_ble_eq_true rfl⟩) (kd_preV hP hD hK hS hA hE hI hW.tm rfl rfl) rfl rfl hl.1 rfl (lv_room (Nat.le_of_ble_eq_true rfl)) dX4_rub_136 ⟨Nat.le_of_ble_eq_true rfl, Nat.le_of_ble_eq_true rfl⟩) hD hS hA (fun r_20 u_19 H locs hw hP hD hS => ?_)
            obtain ⟨rfl, hI⟩ := hw
            have hF := hF.trans (kFr.up (P := (kPxr mr)) (w := .int 1) (k := 0) hW.tm rfl)
            have hW := hW.frw (kFr.up (P := kPy mr) (w := .int 1) (k := 0) hW.tm rfl)
            refine lv_if_ne (tgt := 144) hx hb dX4_rub_139 (by decide) (fun h9 => by first | exact absurd h9 (by decide) | exact absurd (by decide) h9) (fun _ => ?_)
            refine lv_iconst (v := 0) hx hb dX4_rub_142 (by decide) ?_
            refine W.widen (k := 0) (n := 0) (Nat.le_of_ble_eq_true rfl) (Nat.le_of_ble_eq_true rfl) ?_
            exact W.iret (v := 0) hx hb hr (fun t ht hW9 => ⟨⟨0, (u_19.1, u_19.2), rfl, (by rw [kinc_1 (show kc_rub (nI j_3) (nI j_4) mb mr a at9 b g9 ≠ 0 by rw [show kc_rub (nI j_3) (nI j_4) mb mr a at9 b g9 = 1 from (by simp only [kc_rub, hz7, hp_5, (Nat.not_lt.mpr n_18), decide_true, decide_false, Bool.not_true, Bool.not_false, Bool.and_true, Bool.true_and, Bool.and_false, Bool.false_and, Bool.and_self, Bool.false_eq_true, if_true, if_false, ite_true, ite_false, reduceIte] <;> decide)]; decide)]; exact ⟨_, _, hF, hW, (Eq.trans kup_self (congrArg Value.int (Eq.symm (by simp only [kc_rub, hz7, hp_5, (Nat.not_lt.mpr n_18), decide_true, decide_false, Bool.not_true, Bool.not_false, Bool.and_true, Bool.true_and, Bool.and_false, Bool.false_and, Bool.and_self, Bool.false_eq_true, if_true, if_false, ite_true, ite_false, reduceIte] <;> decide)))), fun h9 => absurd ((show kc_rub (nI j_3) (nI j_4) mb mr a at9 b g9 = 1 from (by simp only [kc_rub, hz7, hp_5, (Nat.not_lt.mpr n_18), decide_true, decide_false, Bool.not_true, Bool.not_false, Bool.and_true, Bool.true_and, Bool.and_false, Bool.false_and, Bool.and_self, Bool.false_eq_true, if_true, if_false, ite_true, ite_false, reduceIte] <;> decide)).symm.trans h9) (by decide), fun h9 => absurd ((show kc_rub (nI j_3) (nI j_4) mb mr a at9 b g9 = 1 from (by simp only [kc_rub, hz7, hp_5, (Nat.not_lt.mpr n_18), decide_true, decide_false, Bool.not_true, Bool.not_false, Bool.and_true, Bool.true_and, Bool.and_false, Bool.false_and, Bool.and_self, Bool.false_eq_true, if_true, if_false, ite_true, ite_false, reduceIte] <;> decide)).symm.trans h9) (by decide), hI⟩), by rw [ht]; exact hP, va_K.moved hW9.alike hK, hD⟩, hS.F ht⟩) hS.2.2 dX4_rub_143
          · have n_21 : ¬ 1024 ≤ mr := fun h9 => (show ¬ nI 1024 ≤ nI mr from c_17) ((nI_leI (by omega) (by omega)).mpr h9)
            refine lv_iconst (v := 1) hx hb dX4_rub_131 (by decide) ?_
            refine lv_goto (tgt := 136) hx hb dX4_rub_132 (by decide) ?_
            refine kd_calli (va_runV (As := [.int 0, .int 0, .int 1]) (rest := []) ⟨hx, hb, hml, hown, hts⟩ (k_goes2 l dC dI dA ad _ τ pv _ _ hI mm fa sa aa ia sf mb mr mk mr hW 0 1) (cwV 3 hts gX4_rub_X4_goes rfl rfl rfl (by decide +kernel) ⟨Nat.le_of_ble_eq_true rfl, Nat.le_of_ble_eq_true rfl⟩) (kd_preV hP hD hK hS hA hE hI hW.tm rfl rfl) rfl rfl hl.1 rfl (lv_room (Nat.le_of_ble_eq_true rfl)) dX4_rub_136 ⟨Nat.le_of_ble_eq_true rfl, Nat.le_of_ble_eq_true rfl⟩) hD hS hA (fun r_23 u_22 H locs hw hP hD hS => ?_)
            obtain ⟨rfl, hI⟩ := hw
            have hF := hF.trans (kFr.up (P := (kPxr mr)) (w := .int 1) (k := 0) hW.tm rfl)
            have hW := hW.frw (kFr.up (P := kPy mr) (w := .int 1) (k := 0) hW.tm rfl)
            refine lv_if_ne (tgt := 144) hx hb dX4_rub_139 (by decide) (fun h9 => by first | exact absurd h9 (by decide) | exact absurd (by decide) h9) (fun _ => ?_)
            refine lv_iconst (v := 0) hx hb dX4_rub_142 (by decide) ?_
            refine W.widen (k := 0) (n := 0) (Nat.le_of_ble_eq_true rfl) (Nat.le_of_ble_eq_true rfl) ?_
            exact W.iret (v := 0) hx hb hr (fun t ht hW9 => ⟨⟨0, (u_22.1, u_22.2), rfl, (by rw [kinc_1 (show kc_rub (nI j_3) (nI j_4) mb mr a at9 b g9 ≠ 0 by rw [show kc_rub (nI j_3) (nI j_4) mb mr a at9 b g9 = 1 from (by simp only [kc_rub, hz7, hp_5, (Nat.not_le.mp n_21), decide_true, decide_false, Bool.not_true, Bool.not_false, Bool.and_true, Bool.true_and, Bool.and_false, Bool.false_and, Bool.and_self, Bool.false_eq_true, if_true, if_false, ite_true, ite_false, reduceIte] <;> decide)]; decide)]; exact ⟨_, _, hF, hW, (Eq.trans kup_self (congrArg Value.int (Eq.symm (by simp only [kc_rub, hz7, hp_5, (Nat.not_le.mp n_21), decide_true, decide_false, Bool.not_true, Bool.not_false, Bool.and_true, Bool.true_and, Bool.and_false, Bool.false_and, Bool.and_self, Bool.false_eq_true, if_true, if_false, ite_true, ite_false, reduceIte] <;> decide)))), fun h9 => absurd ((show kc_rub (nI j_3) (nI j_4) mb mr a at9 b g9 = 1 from (by simp only [kc_rub, hz7, hp_5, (Nat.not_le.mp n_21), decide_true, decide_false, Bool.not_true, Bool.not_false, Bool.and_true, Bool.true_and, Bool.and_false, Bool.false_and, Bool.and_self, Bool.false_eq_true, if_true, if_false, ite_true, ite_false, reduceIte] <;> decide)).symm.trans h9) (by decide), fun h9 => absurd ((show kc_rub (nI j_3) (nI j_4) mb mr a at9 b g9 = 1 from (by simp only [kc_rub, hz7, hp_5, (Nat.not_le.mp n_21), decide_true, decide_false, Bool.not_true, Bool.not_false, Bool.and_true, Bool.true_and, Bool.and_false, Bool.false_and, Bool.and_self, Bool.false_eq_true, if_true, if_false, ite_true, ite_false, reduceIte] <;> decide)).symm.trans h9) (by decide), hI⟩), by rw [ht]; exact hP, va_K.moved hW9.alike hK, hD⟩, hS.F ht⟩) hS.2.2 dX4_rub_143
        · refine lv_if_eq (tgt := 118) hx hb dX4_rub_106 (by decide) (fun _ => ?_) (fun h9 => by first | exact absurd h9 (by decide) | exact absurd (by decide) h9)
          refine lv_iconst (v := 0) hx hb dX4_rub_118 (by decide) ?_
          refine lv_iload hx hb dX4_rub_119 (lv_at hl 8 rfl) ?_
          refine lv_aload_n hx hb dX4_rub_121 rfl (lv_at hl 0 rfl) ?_
          refine kp_get hx hb hts i_X4 hown hK hP hI hW.tm rfl rfl 6 (by decide) (by decide) (hts (.fieldLink RX4 129 "IslandSolverModel" "rows" "I") (by decide +kernel)) (fun _ h9 => h9) dX4_rub_122 (kq_P (v0 := .int (nI mr)) rfl hW.p6 fun h_25 => ?_)
          refine lv_sipush (v := 1024) hx hb dX4_rub_125 (by decide) ?_
          refine lv_icmp_ge (tgt := 135) hx hb dX4_rub_128 (by decide) (fun c_26 => ?_) (fun c_26 => ?_)
          · have n_27 : 1024 ≤ mr := (nI_leI (by omega) (by omega)).mp (show nI 1024 ≤ nI mr from c_26)
            refine lv_iconst (v := 0) hx hb dX4_rub_135 (by decide) ?_
            refine kd_calli (va_runV (As := [.int 0, .int 0, .int 0]) (rest := []) ⟨hx, hb, hml, hown, hts⟩ (k_goes2 l dC dI dA ad _ τ pv _ _ hI mm fa sa aa ia sf mb mr mk mr hW 0 0) (cwV 3 hts gX4_rub_X4_goes rfl rfl rfl (by decide +kernel) ⟨Nat.le_of_ble_eq_true rfl, Nat.le_of_ble_eq_true rfl⟩) (kd_preV hP hD hK hS hA hE hI hW.tm rfl rfl) rfl rfl hl.1 rfl (lv_room (Nat.le_of_ble_eq_true rfl)) dX4_rub_136 ⟨Nat.le_of_ble_eq_true rfl, Nat.le_of_ble_eq_true rfl⟩) hD hS hA (fun r_29 u_28 H locs hw hP hD hS => ?_)
            obtain ⟨rfl, hI⟩ := hw
            have hF := hF.trans (kFr.up (P := (kPxr mr)) (w := .int 1) (k := 0) hW.tm rfl)
            have hW := hW.frw (kFr.up (P := kPy mr) (w := .int 1) (k := 0) hW.tm rfl)
            refine lv_if_ne (tgt := 144) hx hb dX4_rub_139 (by decide) (fun h9 => by first | exact absurd h9 (by decide) | exact absurd (by decide) h9) (fun _ => ?_)
            refine lv_iconst (v := 0) hx hb dX4_rub_142 (by decide) ?_
            refine W.widen (k := 0) (n := 0) (Nat.le_of_ble_eq_true rfl) (Nat.le_of_ble_eq_true rfl) ?_
            exact W.iret (v := 0) hx hb hr (fun t ht hW9 => ⟨⟨0, (u_28.1, u_28.2), rfl, (by rw [kinc_1 (show kc_rub n k mb mr a at9 b g9 ≠ 0 by rw [show kc_rub n k mb mr a at9 b g9 = 1 from (by simp only [kc_rub, hz7, hp_5, (Nat.not_lt.mpr n_27), decide_true, decide_false, Bool.not_true, Bool.not_false, Bool.and_true, Bool.true_and, Bool.and_false, Bool.false_and, Bool.and_self, Bool.false_eq_true, if_true, if_false, ite_true, ite_false, reduceIte] <;> decide)]; decide)]; exact ⟨_, _, hF, hW, (Eq.trans kup_self (congrArg Value.int (Eq.symm (by simp only [kc_rub, hz7, hp_5, (Nat.not_lt.mpr n_27), decide_true, decide_false, Bool.not_true, Bool.not_false, Bool.and_true, Bool.true_and, Bool.and_false, Bool.false_and, Bool.and_self, Bool.false_eq_true, if_true, if_false, ite_true, ite_false, reduceIte] <;> decide)))), fun h9 => absurd ((show kc_rub n k mb mr a at9 b g9 = 1 from (by simp only [kc_rub, hz7, hp_5, (Nat.not_lt.mpr n_27), decide_true, decide_false, Bool.not_true, Bool.not_false, Bool.and_true, Bool.true_and, Bool.and_false, Bool.false_and, Bool.and_self, Bool.false_eq_true, if_true, if_false, ite_true, ite_false, reduceIte] <;> decide)).symm.trans h9) (by decide), fun h9 => absurd ((show kc_rub n k mb mr a at9 b g9 = 1 from (by simp only [kc_rub, hz7, hp_5, (Nat.not_lt.mpr n_27), decide_true, decide_false, Bool.not_true, Bool.not_false, Bool.and_true, Bool.true_and, Bool.and_false, Bool.false_and, Bool.and_self, Bool.false_eq_true, if_true, if_false, ite_true, ite_false, reduceIte] <;> decide)).symm.trans h9) (by decide), hI⟩), by rw [ht]; exact hP, va_K.moved hW9.alike hK, hD⟩, hS.F ht⟩) hS.2.2 dX4_rub_143
          · have n_30 : ¬ 1024 ≤ mr := fun h9 => (show ¬ nI 1024 ≤ nI mr from c_26) ((nI_leI (by omega) (by omega)).mpr h9)
            refine lv_iconst (v := 1) hx hb dX4_rub_131 (by decide) ?_
            refine lv_goto (tgt := 136) hx hb dX4_rub_132 (by decide) ?_
            refine kd_calli (va_runV (As := [.int 0, .int 0, .int 1]) (rest := []) ⟨hx, hb, hml, hown, hts⟩ (k_goes2 l dC dI dA ad _ τ pv _ _ hI mm fa sa aa ia sf mb mr mk mr hW 0 1) (cwV 3 hts gX4_rub_X4_goes rfl rfl rfl (by decide +kernel) ⟨Nat.le_of_ble_eq_true rfl, Nat.le_of_ble_eq_true rfl⟩) (kd_preV hP hD hK hS hA hE hI hW.tm rfl rfl) rfl rfl hl.1 rfl (lv_room (Nat.le_of_ble_eq_true rfl)) dX4_rub_136 ⟨Nat.le_of_ble_eq_true rfl, Nat.le_of_ble_eq_true rfl⟩) hD hS hA (fun r_32 u_31 H locs hw hP hD hS => ?_)
            obtain ⟨rfl, hI⟩ := hw
            have hF := hF.trans (kFr.up (P := (kPxr mr)) (w := .int 1) (k := 0) hW.tm rfl)
            have hW := hW.frw (kFr.up (P := kPy mr) (w := .int 1) (k := 0) hW.tm rfl)
            refine lv_if_ne (tgt := 144) hx hb dX4_rub_139 (by decide) (fun h9 => by first | exact absurd h9 (by decide) | exact absurd (by decide) h9) (fun _ => ?_)
            refine lv_iconst (v := 0) hx hb dX4_rub_142 (by decide) ?_
            refine W.widen (k := 0) (n := 0) (Nat.le_of_ble_eq_true rfl) (Nat.le_of_ble_eq_true rfl) ?_
            exact W.iret (v := 0) hx hb hr (fun t ht hW9 => ⟨⟨0, (u_31.1, u_31.2), rfl, (by rw [kinc_1 (show kc_rub n k mb mr a at9 b g9 ≠ 0 by rw [show kc_rub n k mb mr a at9 b g9 = 1 from (by simp only [kc_rub, hz7, hp_5, (Nat.not_le.mp n_30), decide_true, decide_false, Bool.not_true, Bool.not_false, Bool.and_true, Bool.true_and, Bool.and_false, Bool.false_and, Bool.and_self, Bool.false_eq_true, if_true, if_false, ite_true, ite_false, reduceIte] <;> decide)]; decide)]; exact ⟨_, _, hF, hW, (Eq.trans kup_self (congrArg Value.int (Eq.symm (by simp only [kc_rub, hz7, hp_5, (Nat.not_le.mp n_30), decide_true, decide_false, Bool.not_true, Bool.not_false, Bool.and_true, Bool.true_and, Bool.and_false, Bool.false_and, Bool.and_self, Bool.false_eq_true, if_true, if_false, ite_true, ite_false, reduceIte] <;> decide)))), fun h9 => absurd ((show kc_rub n k mb mr a at9 b g9 = 1 from (by simp only [kc_rub, hz7, hp_5, (Nat.not_le.mp n_30), decide_true, decide_false, Bool.not_true, Bool.not_false, Bool.and_true, Bool.true_and, Bool.and_false, Bool.false_and, Bool.and_self, Bool.false_eq_true, if_true, if_false, ite_true, ite_false, reduceIte] <;> decide)).symm.trans h9) (by decide), fun h9 => absurd ((show kc_rub n k mb mr a at9 b g9 = 1 from (by simp only [kc_rub, hz7, hp_5, (Nat.not_le.mp n_30), decide_true, decide_false, Bool.not_true, Bool.not_false, Bool.and_true, Bool.true_and, Bool.and_false, Bool.false_and, Bool.and_self, Bool.false_eq_true, if_true, if_false, ite_true, ite_false, reduceIte] <;> decide)).symm.trans h9) (by decide), hI⟩), by rw [ht]; exact hP, va_K.moved hW9.alike hK, hD⟩, hS.F ht⟩) hS.2.2 dX4_rub_143
      · have hz8 := hz8 rfl
        refine lv_aload_n hx hb dX4_rub_99 rfl (lv_at hl 0 rfl) ?_
        refine lv_aload_n hx hb dX4_rub_100 rfl (lv_at hl 0 rfl) ?_
        refine lv_iload_n hx hb dX4_rub_101 rfl (lv_at hl 1 rfl) ?_
        refine lv_iload_n hx hb dX4_rub_102 rfl (lv_at hl 2 rfl) ?_
        refine kd_calli (va_runV (As := [.int n, .int k]) (rest := [.ref mm]) ⟨hx, hb, hml, hown, hts⟩ (k_pair l dC dI dA ad _ τ pv _ _ hI mm fa sa aa ia sf mb mr mk mr hW n k) (cwV 2 hts gX4_rub_X4_pair rfl rfl rfl (by decide +kernel) ⟨Nat.le_of_ble_eq_true rfl, Nat.le_of_ble_eq_true rfl⟩) (kd_preV hP hD hK hS hA hE hI hW.tm rfl rfl) rfl rfl hl.1 rfl (lv_room (Nat.le_of_ble_eq_true rfl)) dX4_rub_103 ⟨Nat.le_of_ble_eq_true rfl, Nat.le_of_ble_eq_true rfl⟩) hD hS hA (fun r_34 u_33 H locs hw hP hD hS => ?_)
        obtain ⟨⟨rfl, hp_37, ⟨j_35, hj_35, rfl⟩, rfl | ⟨j_36, hj_36, rfl⟩⟩ | ⟨rfl, hp_37⟩, hI⟩ := hw
        · refine lv_if_eq (tgt := 118) hx hb dX4_rub_106 (by decide) (fun h9 => by first | exact absurd h9 (by decide) | exact absurd (by decide) h9) (fun _ => ?_)
          refine lv_iload hx hb dX4_rub_109 (lv_at hl 7 rfl) ?_
          refine lv_if_eq (tgt := 118) hx hb dX4_rub_111 (by decide) (fun h9 => by first | exact absurd h9 (by decide) | exact absurd (by decide) h9) (fun _ => ?_)
          refine lv_iconst (v := 1) hx hb dX4_rub_114 (by decide) ?_
          refine lv_goto (tgt := 119) hx hb dX4_rub_115 (by decide) ?_
          refine lv_iload hx hb dX4_rub_119 (lv_at hl 8 rfl) ?_
          refine lv_aload_n hx hb dX4_rub_121 rfl (lv_at hl 0 rfl) ?_
          refine kp_get hx hb hts i_X4 hown hK hP hI hW.tm rfl rfl 6 (by decide) (by decide) (hts (.fieldLink RX4 129 "IslandSolverModel" "rows" "I") (by decide +kernel)) (fun _ h9 => h9) dX4_rub_122 (kq_P (v0 := .int (nI mr)) rfl hW.p6 fun h_39 => ?_)
          refine lv_sipush (v := 1024) hx hb dX4_rub_125 (by decide) ?_
          refine lv_icmp_ge (tgt := 135) hx hb dX4_rub_128 (by decide) (fun c_40 => ?_) (fun c_40 => ?_)
          · have n_41 : 1024 ≤ mr := (nI_leI (by omega) (by omega)).mp (show nI 1024 ≤ nI mr from c_40)
            refine lv_iconst (v := 0) hx hb dX4_rub_135 (by decide) ?_
            refine kd_calli (va_runV (As := [.int 1, .int 0, .int 0]) (rest := []) ⟨hx, hb, hml, hown, hts⟩ (k_goes3 l dC dI dA ad _ τ pv _ _ hI mm fa sa aa ia sf mb mr mk mr hW 0) (cwV 3 hts gX4_rub_X4_goes rfl rfl rfl (by decide +kernel) ⟨Nat.le_of_ble_eq_true rfl, Nat.le_of_ble_eq_true rfl⟩) (kd_preV hP hD hK hS hA hE hI hW.tm rfl rfl) rfl rfl hl.1 rfl (lv_room (Nat.le_of_ble_eq_true rfl)) dX4_rub_136 ⟨Nat.le_of_ble_eq_true rfl, Nat.le_of_ble_eq_true rfl⟩) hD hS hA (fun r_43 u_42 H locs hw hP hD hS => ?_)
            obtain ⟨rfl, hI⟩ := hw
            have hF := hF.trans (kFr.up (P := (kPxr mr)) (w := .int 2) (k := 0) hW.tm rfl)
            have hW := hW.frw (kFr.up (P := kPy mr) (w := .int 2) (k := 0) hW.tm rfl)
            refine lv_if_ne (tgt := 144) hx hb dX4_rub_139 (by decide) (fun h9 => by first | exact absurd h9 (by decide) | exact absurd (by decide) h9) (fun _ => ?_)
            refine lv_iconst (v := 0) hx hb dX4_rub_142 (by decide) ?_
            refine W.widen (k := 0) (n := 0) (Nat.le_of_ble_eq_true rfl) (Nat.le_of_ble_eq_true rfl) ?_
            exact W.iret (v := 0) hx hb hr (fun t ht hW9 => ⟨⟨0, (u_42.1, u_42.2), rfl, (by rw [kinc_1 (show kc_rub (nI j_35) (-1) mb mr a at9 b g9 ≠ 0 by rw [show kc_rub (nI j_35) (-1) mb mr a at9 b g9 = 2 from (by simp only [kc_rub, hz7, hz8, hp_37, (Nat.not_lt.mpr n_41), decide_true, decide_false, Bool.not_true, Bool.not_false, Bool.and_true, Bool.true_and, Bool.and_false, Bool.false_and, Bool.and_self, Bool.false_eq_true, if_true, if_false, ite_true, ite_false, reduceIte] <;> decide)]; decide)]; exact ⟨_, _, hF, hW, (Eq.trans kup_self (congrArg Value.int (Eq.symm (by simp only [kc_rub, hz7, hz8, hp_37, (Nat.not_lt.mpr n_41), decide_true, decide_false, Bool.not_true, Bool.not_false, Bool.and_true, Bool.true_and, Bool.and_false, Bool.false_and, Bool.and_self, Bool.false_eq_true, if_true, if_false, ite_true, ite_false, reduceIte] <;> decide)))), fun h9 => absurd ((show kc_rub (nI j_35) (-1) mb mr a at9 b g9 = 2 from (by simp only [kc_rub, hz7, hz8, hp_37, (Nat.not_lt.mpr n_41), decide_true, decide_false, Bool.not_true, Bool.not_false, Bool.and_true, Bool.true_and, Bool.and_false, Bool.false_and, Bool.and_self, Bool.false_eq_true, if_true, if_false, ite_true, ite_false, reduceIte] <;> decide)).symm.trans h9) (by decide), fun h9 => absurd ((show kc_rub (nI j_35) (-1) mb mr a at9 b g9 = 2 from (by simp only [kc_rub, hz7, hz8, hp_37, (Nat.not_lt.mpr n_41), decide_true, decide_false, Bool.not_true, Bool.not_false, Bool.and_true, Bool.true_and, Bool.and_false, Bool.false_and, Bool.and_self, Bool.false_eq_true, if_true, if_false, ite_true, ite_false, reduceIte] <;> decide)).symm.trans h9) (by decide), hI⟩), by rw [ht]; exact hP, va_K.moved hW9.alike hK, hD⟩, hS.F ht⟩) hS.2.2 dX4_rub_143
          · have n_44 : ¬ 1024 ≤ mr := fun h9 => (show ¬ nI 1024 ≤ nI mr from c_40) ((nI_leI (by omega) (by omega)).mpr h9)
            refine lv_iconst (v := 1) hx hb dX4_rub_131 (by decide) ?_
            refine lv_goto (tgt := 136) hx hb dX4_rub_132 (by decide) ?_
            refine kd_calli (va_runV (As := [.int 1, .int 0, .int 1]) (rest := []) ⟨hx, hb, hml, hown, hts⟩ (k_goes3 l dC dI dA ad _ τ pv _ _ hI mm fa sa aa ia sf mb mr mk mr hW 1) (cwV 3 hts gX4_rub_X4_goes rfl rfl rfl (by decide +kernel) ⟨Nat.le_of_ble_eq_true rfl, Nat.le_of_ble_eq_true rfl⟩) (kd_preV hP hD hK hS hA hE hI hW.tm rfl rfl) rfl rfl hl.1 rfl (lv_room (Nat.le_of_ble_eq_true rfl)) dX4_rub_136 ⟨Nat.le_of_ble_eq_true rfl, Nat.le_of_ble_eq_true rfl⟩) hD hS hA (fun r_46 u_45 H locs hw hP hD hS => ?_)
            obtain ⟨rfl, hI⟩ := hw
            have hF := hF.trans (kFr.up (P := (kPxr mr)) (w := .int 2) (k := 0) hW.tm rfl)
            have hW := hW.frw (kFr.up (P := kPy mr) (w := .int 2) (k := 0) hW.tm rfl)
            refine lv_if_ne (tgt := 144) hx hb dX4_rub_139 (by decide) (fun h9 => by first | exact absurd h9 (by decide) | exact absurd (by decide) h9) (fun _ => ?_)
            refine lv_iconst (v := 0) hx hb dX4_rub_142 (by decide) ?_
            refine W.widen (k := 0) (n := 0) (Nat.le_of_ble_eq_true rfl) (Nat.le_of_ble_eq_true rfl) ?_
            exact W.iret (v := 0) hx hb hr (fun t ht hW9 => ⟨⟨0, (u_45.1, u_45.2), rfl, (by rw [kinc_1 (show kc_rub (nI j_35) (-1) mb mr a at9 b g9 ≠ 0 by rw [show kc_rub (nI j_35) (-1) mb mr a at9 b g9 = 2 from (by simp only [kc_rub, hz7, hz8, hp_37, (Nat.not_le.mp n_44), decide_true, decide_false, Bool.not_true, Bool.not_false, Bool.and_true, Bool.true_and, Bool.and_false, Bool.false_and, Bool.and_self, Bool.false_eq_true, if_true, if_false, ite_true, ite_false, reduceIte] <;> decide)]; decide)]; exact ⟨_, _, hF, hW, (Eq.trans kup_self (congrArg Value.int (Eq.symm (by simp only [kc_rub, hz7, hz8, hp_37, (Nat.not_le.mp n_44), decide_true, decide_false, Bool.not_true, Bool.not_false, Bool.and_true, Bool.true_and, Bool.and_false, Bool.false_and, Bool.and_self, Bool.false_eq_true, if_true, if_false, ite_true, ite_false, reduceIte] <;> decide)))), fun h9 => absurd ((show kc_rub (nI j_35) (-1) mb mr a at9 b g9 = 2 from (by simp only [kc_rub, hz7, hz8, hp_37, (Nat.not_le.mp n_44), decide_true, decide_false, Bool.not_true, Bool.not_false, Bool.and_true, Bool.true_and, Bool.and_false, Bool.false_and, Bool.and_self, Bool.false_eq_true, if_true, if_false, ite_true, ite_false, reduceIte] <;> decide)).symm.trans h9) (by decide), fun h9 => absurd ((show kc_rub (nI j_35) (-1) mb mr a at9 b g9 = 2 from (by simp only [kc_rub, hz7, hz8, hp_37, (Nat.not_le.mp n_44), decide_true, decide_false, Bool.not_true, Bool.not_false, Bool.and_true, Bool.true_and, Bool.and_false, Bool.false_and, Bool.and_self, Bool.false_eq_true, if_true, if_false, ite_true, ite_false, reduceIte] <;> decide)).symm.trans h9) (by decide), hI⟩), by rw [ht]; exact hP, va_K.moved hW9.alike hK, hD⟩, hS.F ht⟩) hS.2.2 dX4_rub_143
        · refine lv_if_eq (tgt := 118) hx hb dX4_rub_106 (by decide) (fun h9 => by first | exact absurd h9 (by decide) | exact absurd (by decide) h9) (fun _ => ?_)
          refine lv_iload hx hb dX4_rub_109 (lv_at hl 7 rfl) ?_
          refine lv_if_eq (tgt := 118) hx hb dX4_rub_111 (by decide) (fun h9 => by first | exact absurd h9 (by decide) | exact absurd (by decide) h9) (fun _ => ?_)
          refine lv_iconst (v := 1) hx hb dX4_rub_114 (by decide) ?_
          refine lv_goto (tgt := 119) hx hb dX4_rub_115 (by decide) ?_
          refine lv_iload hx hb dX4_rub_119 (lv_at hl 8 rfl) ?_
          refine lv_aload_n hx hb dX4_rub_121 rfl (lv_at hl 0 rfl) ?_
          refine kp_get hx hb hts i_X4 hown hK hP hI hW.tm rfl rfl 6 (by decide) (by decide) (hts (.fieldLink RX4 129 "IslandSolverModel" "rows" "I") (by decide +kernel)) (fun _ h9 => h9) dX4_rub_122 (kq_P (v0 := .int (nI mr)) rfl hW.p6 fun h_48 => ?_)
          refine lv_sipush (v := 1024) hx hb dX4_rub_125 (by decide) ?_
          refine lv_icmp_ge (tgt := 135) hx hb dX4_rub_128 (by decide) (fun c_49 => ?_) (fun c_49 => ?_)
          · have n_50 : 1024 ≤ mr := (nI_leI (by omega) (by omega)).mp (show nI 1024 ≤ nI mr from c_49)
            refine lv_iconst (v := 0) hx hb dX4_rub_135 (by decide) ?_
            refine kd_calli (va_runV (As := [.int 1, .int 0, .int 0]) (rest := []) ⟨hx, hb, hml, hown, hts⟩ (k_goes3 l dC dI dA ad _ τ pv _ _ hI mm fa sa aa ia sf mb mr mk mr hW 0) (cwV 3 hts gX4_rub_X4_goes rfl rfl rfl (by decide +kernel) ⟨Nat.le_of_ble_eq_true rfl, Nat.le_of_ble_eq_true rfl⟩) (kd_preV hP hD hK hS hA hE hI hW.tm rfl rfl) rfl rfl hl.1 rfl (lv_room (Nat.le_of_ble_eq_true rfl)) dX4_rub_136 ⟨Nat.le_of_ble_eq_true rfl, Nat.le_of_ble_eq_true rfl⟩) hD hS hA (fun r_52 u_51 H locs hw hP hD hS => ?_)
            obtain ⟨rfl, hI⟩ := hw
            have hF := hF.trans (kFr.up (P := (kPxr mr)) (w := .int 2) (k := 0) hW.tm rfl)
            have hW := hW.frw (kFr.up (P := kPy mr) (w := .int 2) (k := 0) hW.tm rfl)
            refine lv_if_ne (tgt := 144) hx hb dX4_rub_139 (by decide) (fun h9 => by first | exact absurd h9 (by decide) | exact absurd (by decide) h9) (fun _ => ?_)
            refine lv_iconst (v := 0) hx hb dX4_rub_142 (by decide) ?_
            refine W.widen (k := 0) (n := 0) (Nat.le_of_ble_eq_true rfl) (Nat.le_of_ble_eq_true rfl) ?_
            exact W.iret (v := 0) hx hb hr (fun t ht hW9 => ⟨⟨0, (u_51.1, u_51.2), rfl, (by rw [kinc_1 (show kc_rub (nI j_35) (nI j_36) mb mr a at9 b g9 ≠ 0 by rw [show kc_rub (nI j_35) (nI j_36) mb mr a at9 b g9 = 2 from (by simp only [kc_rub, hz7, hz8, hp_37, (Nat.not_lt.mpr n_50), decide_true, decide_false, Bool.not_true, Bool.not_false, Bool.and_true, Bool.true_and, Bool.and_false, Bool.false_and, Bool.and_self, Bool.false_eq_true, if_true, if_false, ite_true, ite_false, reduceIte] <;> decide)]; decide)]; exact ⟨_, _, hF, hW, (Eq.trans kup_self (congrArg Value.int (Eq.symm (by simp only [kc_rub, hz7, hz8, hp_37, (Nat.not_lt.mpr n_50), decide_true, decide_false, Bool.not_true, Bool.not_false, Bool.and_true, Bool.true_and, Bool.and_false, Bool.false_and, Bool.and_self, Bool.false_eq_true, if_true, if_false, ite_true, ite_false, reduceIte] <;> decide)))), fun h9 => absurd ((show kc_rub (nI j_35) (nI j_36) mb mr a at9 b g9 = 2 from (by simp only [kc_rub, hz7, hz8, hp_37, (Nat.not_lt.mpr n_50), decide_true, decide_false, Bool.not_true, Bool.not_false, Bool.and_true, Bool.true_and, Bool.and_false, Bool.false_and, Bool.and_self, Bool.false_eq_true, if_true, if_false, ite_true, ite_false, reduceIte] <;> decide)).symm.trans h9) (by decide), fun h9 => absurd ((show kc_rub (nI j_35) (nI j_36) mb mr a at9 b g9 = 2 from (by simp only [kc_rub, hz7, hz8, hp_37, (Nat.not_lt.mpr n_50), decide_true, decide_false, Bool.not_true, Bool.not_false, Bool.and_true, Bool.true_and, Bool.and_false, Bool.false_and, Bool.and_self, Bool.false_eq_true, if_true, if_false, ite_true, ite_false, reduceIte] <;> decide)).symm.trans h9) (by decide), hI⟩), by rw [ht]; exact hP, va_K.moved hW9.alike hK, hD⟩, hS.F ht⟩) hS.2.2 dX4_rub_143
          · have n_53 : ¬ 1024 ≤ mr := fun h9 => (show ¬ nI 1024 ≤ nI mr from c_49) ((nI_leI (by omega) (by omega)).mpr h9)
            refine lv_iconst (v := 1) hx hb dX4_rub_131 (by decide) ?_
            refine lv_goto (tgt := 136) hx hb dX4_rub_132 (by decide) ?_
            refine kd_calli (va_runV (As := [.int 1, .int 0, .int 1]) (rest := []) ⟨hx, hb, hml, hown, hts⟩ (k_goes3 l dC dI dA ad _ τ pv _ _ hI mm fa sa aa ia sf mb mr mk mr hW 1) (cwV 3 hts gX4_rub_X4_goes rfl rfl rfl (by decide +kernel) ⟨Nat.le_of_ble_eq_true rfl, Nat.le_of_ble_eq_true rfl⟩) (kd_preV hP hD hK hS hA hE hI hW.tm rfl rfl) rfl rfl hl.1 rfl (lv_room (Nat.le_of_ble_eq_true rfl)) dX4_rub_136 ⟨Nat.le_of_ble_eq_true rfl, Nat.le_of_ble_eq_true rfl⟩) hD hS hA (fun r_55 u_54 H locs hw hP hD hS => ?_)
            obtain ⟨rfl, hI⟩ := hw
            have hF := hF.trans (kFr.up (P := (kPxr mr)) (w := .int 2) (k := 0) hW.tm rfl)
            have hW := hW.frw (kFr.up (P := kPy mr) (w := .int 2) (k := 0) hW.tm rfl)
            refine lv_if_ne (tgt := 144) hx hb dX4_rub_139 (by decide) (fun h9 => by first | exact absurd h9 (by decide) | exact absurd (by decide) h9) (fun _ => ?_)
            refine lv_iconst (v := 0) hx hb dX4_rub_142 (by decide) ?_
            refine W.widen (k := 0) (n := 0) (Nat.le_of_ble_eq_true rfl) (Nat.le_of_ble_eq_true rfl) ?_
            exact W.iret (v := 0) hx hb hr (fun t ht hW9 => ⟨⟨0, (u_54.1, u_54.2), rfl, (by rw [kinc_1 (show kc_rub (nI j_35) (nI j_36) mb mr a at9 b g9 ≠ 0 by rw [show kc_rub (nI j_35) (nI j_36) mb mr a at9 b g9 = 2 from (by simp only [kc_rub, hz7, hz8, hp_37, (Nat.not_le.mp n_53), decide_true, decide_false, Bool.not_true, Bool.not_false, Bool.and_true, Bool.true_and, Bool.and_false, Bool.false_and, Bool.and_self, Bool.false_eq_true, if_true, if_false, ite_true, ite_false, reduceIte] <;> decide)]; decide)]; exact ⟨_, _, hF, hW, (Eq.trans kup_self (congrArg Value.int (Eq.symm (by simp only [kc_rub, hz7, hz8, hp_37, (Nat.not_le.mp n_53), decide_true, decide_false, Bool.not_true, Bool.not_false, Bool.and_true, Bool.true_and, Bool.and_false, Bool.false_and, Bool.and_self, Bool.false_eq_true, if_true, if_false, ite_true, ite_false, reduceIte] <;> decide)))), fun h9 => absurd ((show kc_rub (nI j_35) (nI j_36) mb mr a at9 b g9 = 2 from (by simp only [kc_rub, hz7, hz8, hp_37, (Nat.not_le.mp n_53), decide_true, decide_false, Bool.not_true, Bool.not_false, Bool.and_true, Bool.true_and, Bool.and_false, Bool.false_and, Bool.and_self, Bool.false_eq_true, if_true, if_false, ite_true, ite_false, reduceIte] <;> decide)).symm.trans h9) (by decide), fun h9 => absurd ((show kc_rub (nI j_35) (nI j_36) mb mr a at9 b g9 = 2 from (by simp only [kc_rub, hz7, hz8, hp_37, (Nat.not_le.mp n_53), decide_true, decide_false, Bool.not_true, Bool.not_false, Bool.and_true, Bool.true_and, Bool.and_false, Bool.false_and, Bool.and_self, Bool.false_eq_true, if_true, if_false, ite_true, ite_false, reduceIte] <;> decide)).symm.trans h9) (by decide), hI⟩), by rw [ht]; exact hP, va_K.moved hW9.alike hK, hD⟩, hS.F ht⟩) hS.2.2 dX4_rub_143
        · refine lv_if_eq (tgt := 118) hx hb dX4_rub_106 (by decide) (fun _ => ?_) (fun h9 => by first | exact absurd h9 (by decide) | exact absurd (by decide) h9)
          refine lv_iconst (v := 0) hx hb dX4_rub_118 (by decide) ?_
          refine lv_iload hx hb dX4_rub_119 (lv_at hl 8 rfl) ?_
          refine lv_aload_n hx hb dX4_rub_121 rfl (lv_at hl 0 rfl) ?_
          refine kp_get hx hb hts i_X4 hown hK hP hI hW.tm rfl rfl 6 (by decide) (by decide) (hts (.fieldLink RX4 129 "IslandSolverModel" "rows" "I") (by decide +kernel)) (fun _ h9 => h9) dX4_rub_122 (kq_P (v0 := .int (nI mr)) rfl hW.p6 fun h_57 => ?_)
          refine lv_sipush (v := 1024) hx hb dX4_rub_125 (by decide) ?_
          refine lv_icmp_ge (tgt := 135) hx hb dX4_rub_128 (by decide) (fun c_58 => ?_) (fun c_58 => ?_)
          · have n_59 : 1024 ≤ mr := (nI_leI (by omega) (by omega)).mp (show nI 1024 ≤ nI mr from c_58)
            refine lv_iconst (v := 0) hx hb dX4_rub_135 (by decide) ?_
            refine kd_calli (va_runV (As := [.int 0, .int 0, .int 0]) (rest := []) ⟨hx, hb, hml, hown, hts⟩ (k_goes2 l dC dI dA ad _ τ pv _ _ hI mm fa sa aa ia sf mb mr mk mr hW 0 0) (cwV 3 hts gX4_rub_X4_goes rfl rfl rfl (by decide +kernel) ⟨Nat.le_of_ble_eq_true rfl, Nat.le_of_ble_eq_true rfl⟩) (kd_preV hP hD hK hS hA hE hI hW.tm rfl rfl) rfl rfl hl.1 rfl (lv_room (Nat.le_of_ble_eq_true rfl)) dX4_rub_136 ⟨Nat.le_of_ble_eq_true rfl, Nat.le_of_ble_eq_true rfl⟩) hD hS hA (fun r_61 u_60 H locs hw hP hD hS => ?_)
            obtain ⟨rfl, hI⟩ := hw
            have hF := hF.trans (kFr.up (P := (kPxr mr)) (w := .int 1) (k := 0) hW.tm rfl)
            have hW := hW.frw (kFr.up (P := kPy mr) (w := .int 1) (k := 0) hW.tm rfl)
            refine lv_if_ne (tgt := 144) hx hb dX4_rub_139 (by decide) (fun h9 => by first | exact absurd h9 (by decide) | exact absurd (by decide) h9) (fun _ => ?_)
            refine lv_iconst (v := 0) hx hb dX4_rub_142 (by decide) ?_
            refine W.widen (k := 0) (n := 0) (Nat.le_of_ble_eq_true rfl) (Nat.le_of_ble_eq_true rfl) ?_
            exact W.iret (v := 0) hx hb hr (fun t ht hW9 => ⟨⟨0, (u_60.1, u_60.2), rfl, (by rw [kinc_1 (show kc_rub n k mb mr a at9 b g9 ≠ 0 by rw [show kc_rub n k mb mr a at9 b g9 = 1 from (by simp only [kc_rub, hz7, hz8, hp_37, (Nat.not_lt.mpr n_59), decide_true, decide_false, Bool.not_true, Bool.not_false, Bool.and_true, Bool.true_and, Bool.and_false, Bool.false_and, Bool.and_self, Bool.false_eq_true, if_true, if_false, ite_true, ite_false, reduceIte] <;> decide)]; decide)]; exact ⟨_, _, hF, hW, (Eq.trans kup_self (congrArg Value.int (Eq.symm (by simp only [kc_rub, hz7, hz8, hp_37, (Nat.not_lt.mpr n_59), decide_true, decide_false, Bool.not_true, Bool.not_false, Bool.and_true, Bool.true_and, Bool.and_false, Bool.false_and, Bool.and_self, Bool.false_eq_true, if_true, if_false, ite_true, ite_false, reduceIte] <;> decide)))), fun h9 => absurd ((show kc_rub n k mb mr a at9 b g9 = 1 from (by simp only [kc_rub, hz7, hz8, hp_37, (Nat.not_lt.mpr n_59), decide_true, decide_false, Bool.not_true, Bool.not_false, Bool.and_true, Bool.true_and, Bool.and_false, Bool.false_and, Bool.and_self, Bool.false_eq_true, if_true, if_false, ite_true, ite_false, reduceIte] <;> decide)).symm.trans h9) (by decide), fun h9 => absurd ((show kc_rub n k mb mr a at9 b g9 = 1 from (by simp only [kc_rub, hz7, hz8, hp_37, (Nat.not_lt.mpr n_59), decide_true, decide_false, Bool.not_true, Bool.not_false, Bool.and_true, Bool.true_and, Bool.and_false, Bool.false_and, Bool.and_self, Bool.false_eq_true, if_true, if_false, ite_true, ite_false, reduceIte] <;> decide)).symm.trans h9) (by decide), hI⟩), by rw [ht]; exact hP, va_K.moved hW9.alike hK, hD⟩, hS.F ht⟩) hS.2.2 dX4_rub_143
          · have n_62 : ¬ 1024 ≤ mr := fun h9 => (show ¬ nI 1024 ≤ nI mr from c_58) ((nI_leI (by omega) (by omega)).mpr h9)
            refine lv_iconst (v := 1) hx hb dX4_rub_131 (by decide) ?_
            refine lv_goto (tgt := 136) hx hb dX4_rub_132 (by decide) ?_
            refine kd_calli (va_runV (As := [.int 0, .int 0, .int 1]) (rest := []) ⟨hx, hb, hml, hown, hts⟩ (k_goes2 l dC dI dA ad _ τ pv _ _ hI mm fa sa aa ia sf mb mr mk mr hW 0 1) (cwV 3 hts gX4_rub_X4_goes rfl rfl rfl (by decide +kernel) ⟨Nat.le_of_ble_eq_true rfl, Nat.le_of_ble_eq_true rfl⟩) (kd_preV hP hD hK hS hA hE hI hW.tm rfl rfl) rfl rfl hl.1 rfl (lv_room (Nat.le_of_ble_eq_true rfl)) dX4_rub_136 ⟨Nat.le_of_ble_eq_true rfl, Nat.le_of_ble_eq_true rfl⟩) hD hS hA (fun r_64 u_63 H locs hw hP hD hS => ?_)
            obtain ⟨rfl, hI⟩ := hw
            have hF := hF.trans (kFr.up (P := (kPxr mr)) (w := .int 1) (k := 0) hW.tm rfl)
            have hW := hW.frw (kFr.up (P := kPy mr) (w := .int 1) (k := 0) hW.tm rfl)
            refine lv_if_ne (tgt := 144) hx hb dX4_rub_139 (by decide) (fun h9 => by first | exact absurd h9 (by decide) | exact absurd (by decide) h9) (fun _ => ?_)
            refine lv_iconst (v := 0) hx hb dX4_rub_142 (by decide) ?_
            refine W.widen (k := 0) (n := 0) (Nat.le_of_ble_eq_true rfl) (Nat.le_of_ble_eq_true rfl) ?_
            exact W.iret (v := 0) hx hb hr (fun t ht hW9 => ⟨⟨0, (u_63.1, u_63.2), rfl, (by rw [kinc_1 (show kc_rub n k mb mr a at9 b g9 ≠ 0 by rw [show kc_rub n k mb mr a at9 b g9 = 1 from (by simp only [kc_rub, hz7, hz8, hp_37, (Nat.not_le.mp n_62), decide_true, decide_false, Bool.not_true, Bool.not_false, Bool.and_true, Bool.true_and, Bool.and_false, Bool.false_and, Bool.and_self, Bool.false_eq_true, if_true, if_false, ite_true, ite_false, reduceIte] <;> decide)]; decide)]; exact ⟨_, _, hF, hW, (Eq.trans kup_self (congrArg Value.int (Eq.symm (by simp only [kc_rub, hz7, hz8, hp_37, (Nat.not_le.mp n_62), decide_true, decide_false, Bool.not_true, Bool.not_false, Bool.and_true, Bool.true_and, Bool.and_false, Bool.false_and, Bool.and_self, Bool.false_eq_true, if_true, if_false, ite_true, ite_false, reduceIte] <;> decide)))), fun h9 => absurd ((show kc_rub n k mb mr a at9 b g9 = 1 from (by simp only [kc_rub, hz7, hz8, hp_37, (Nat.not_le.mp n_62), decide_true, decide_false, Bool.not_true, Bool.not_false, Bool.and_true, Bool.true_and, Bool.and_false, Bool.false_and, Bool.and_self, Bool.false_eq_true, if_true, if_false, ite_true, ite_false, reduceIte] <;> decide)).symm.trans h9) (by decide), fun h9 => absurd ((show kc_rub n k mb mr a at9 b g9 = 1 from (by simp only [kc_rub, hz7, hz8, hp_37, (Nat.not_le.mp n_62), decide_true, decide_false, Bool.not_true, Bool.not_false, Bool.and_true, Bool.true_and, Bool.and_false, Bool.false_and, Bool.and_self, Bool.false_eq_true, if_true, if_false, ite_true, ite_false, reduceIte] <;> decide)).symm.trans h9) (by decide), hI⟩), by rw [ht]; exact hP, va_K.moved hW9.alike hK, hD⟩, hS.F ht⟩) hS.2.2 dX4_rub_143
    · refine lv_aload_n hx hb dX4_rub_99 rfl (lv_at hl 0 rfl) ?_
      refine lv_aload_n hx hb dX4_rub_100 rfl (lv_at hl 0 rfl) ?_
      refine lv_iload_n hx hb dX4_rub_101 rfl (lv_at hl 1 rfl) ?_
      refine lv_iload_n hx hb dX4_rub_102 rfl (lv_at hl 2 rfl) ?_
      refine kd_calli (va_runV (As := [.int n, .int k]) (rest := [.ref mm]) ⟨hx, hb, hml, hown, hts⟩ (k_pair l dC dI dA ad _ τ pv _ _ hI mm fa sa aa ia sf mb mr mk mr hW n k) (cwV 2 hts gX4_rub_X4_pair rfl rfl rfl (by decide +kernel) ⟨Nat.le_of_ble_eq_true rfl, Nat.le_of_ble_eq_true rfl⟩) (kd_preV hP hD hK hS hA hE hI hW.tm rfl rfl) rfl rfl hl.1 rfl (lv_room (Nat.le_of_ble_eq_true rfl)) dX4_rub_103 ⟨Nat.le_of_ble_eq_true rfl, Nat.le_of_ble_eq_true rfl⟩) hD hS hA (fun r_66 u_65 H locs hw hP hD hS => ?_)
      obtain ⟨⟨rfl, hp_69, ⟨j_67, hj_67, rfl⟩, rfl | ⟨j_68, hj_68, rfl⟩⟩ | ⟨rfl, hp_69⟩, hI⟩ := hw
      · refine lv_if_eq (tgt := 118) hx hb dX4_rub_106 (by decide) (fun h9 => by first | exact absurd h9 (by decide) | exact absurd (by decide) h9) (fun _ => ?_)
        refine lv_iload hx hb dX4_rub_109 (lv_at hl 7 rfl) ?_
        refine lv_if_eq (tgt := 118) hx hb dX4_rub_111 (by decide) (fun h9 => by first | exact absurd h9 (by decide) | exact absurd (by decide) h9) (fun _ => ?_)
        refine lv_iconst (v := 1) hx hb dX4_rub_114 (by decide) ?_
        refine lv_goto (tgt := 119) hx hb dX4_rub_115 (by decide) ?_
        refine lv_iload hx hb dX4_rub_119 (lv_at hl 8 rfl) ?_
        refine lv_aload_n hx hb dX4_rub_121 rfl (lv_at hl 0 rfl) ?_
        refine kp_get hx hb hts i_X4 hown hK hP hI hW.tm rfl rfl 6 (by decide) (by decide) (hts (.fieldLink RX4 129 "IslandSolverModel" "rows" "I") (by decide +kernel)) (fun _ h9 => h9) dX4_rub_122 (kq_P (v0 := .int (nI mr)) rfl hW.p6 fun h_71 => ?_)
        refine lv_sipush (v := 1024) hx hb dX4_rub_125 (by decide) ?_
        refine lv_icmp_ge (tgt := 135) hx hb dX4_rub_128 (by decide) (fun c_72 => ?_) (fun c_72 => ?_)
        · have n_73 : 1024 ≤ mr := (nI_leI (by omega) (by omega)).mp (show nI 1024 ≤ nI mr from c_72)
          refine lv_iconst (v := 0) hx hb dX4_rub_135 (by decide) ?_
          refine kd_calli (va_runV (As := [.int 1, .int 1, .int 0]) (rest := []) ⟨hx, hb, hml, hown, hts⟩ (k_goes4 l dC dI dA ad _ τ pv _ _ hI mm fa sa aa ia sf mb mr mk mr hW ) (cwV 3 hts gX4_rub_X4_goes rfl rfl rfl (by decide +kernel) ⟨Nat.le_of_ble_eq_true rfl, Nat.le_of_ble_eq_true rfl⟩) (kd_preV hP hD hK hS hA hE hI hW.tm rfl rfl) rfl rfl hl.1 rfl (lv_room (Nat.le_of_ble_eq_true rfl)) dX4_rub_136 ⟨Nat.le_of_ble_eq_true rfl, Nat.le_of_ble_eq_true rfl⟩) hD hS hA (fun r_75 u_74 H locs hw hP hD hS => ?_)
          obtain ⟨rfl, hI⟩ := hw
          have hF := hF.trans (kFr.up (P := (kPxr mr)) (w := .int 3) (k := 0) hW.tm rfl)
          have hW := hW.frw (kFr.up (P := kPy mr) (w := .int 3) (k := 0) hW.tm rfl)
          refine lv_if_ne (tgt := 144) hx hb dX4_rub_139 (by decide) (fun h9 => by first | exact absurd h9 (by decide) | exact absurd (by decide) h9) (fun _ => ?_)
          refine lv_iconst (v := 0) hx hb dX4_rub_142 (by decide) ?_
          refine W.widen (k := 0) (n := 0) (Nat.le_of_ble_eq_true rfl) (Nat.le_of_ble_eq_true rfl) ?_
          exact W.iret (v := 0) hx hb hr (fun t ht hW9 => ⟨⟨0, (u_74.1, u_74.2), rfl, (by rw [kinc_1 (show kc_rub (nI j_67) (-1) mb mr a (nI j9) b g9 ≠ 0 by rw [show kc_rub (nI j_67) (-1) mb mr a (nI j9) b g9 = 3 from (by simp only [kc_rub, hz8, (kKn_t hj9 (by omega)), hp_69, (Nat.not_lt.mpr n_73), decide_true, decide_false, Bool.not_true, Bool.not_false, Bool.and_true, Bool.true_and, Bool.and_false, Bool.false_and, Bool.and_self, Bool.false_eq_true, if_true, if_false, ite_true, ite_false, reduceIte] <;> decide)]; decide)]; exact ⟨_, _, hF, hW, (Eq.trans kup_self (congrArg Value.int (Eq.symm (by simp only [kc_rub, hz8, (kKn_t hj9 (by omega)), hp_69, (Nat.not_lt.mpr n_73), decide_true, decide_false, Bool.not_true, Bool.not_false, Bool.and_true, Bool.true_and, Bool.and_false, Bool.false_and, Bool.and_self, Bool.false_eq_true, if_true, if_false, ite_true, ite_false, reduceIte] <;> decide)))), fun h9 => absurd ((show kc_rub (nI j_67) (-1) mb mr a (nI j9) b g9 = 3 from (by simp only [kc_rub, hz8, (kKn_t hj9 (by omega)), hp_69, (Nat.not_lt.mpr n_73), decide_true, decide_false, Bool.not_true, Bool.not_false, Bool.and_true, Bool.true_and, Bool.and_false, Bool.false_and, Bool.and_self, Bool.false_eq_true, if_true, if_false, ite_true, ite_false, reduceIte] <;> decide)).symm.trans h9) (by decide), fun h9 => absurd ((show kc_rub (nI j_67) (-1) mb mr a (nI j9) b g9 = 3 from (by simp only [kc_rub, hz8, (kKn_t hj9 (by omega)), hp_69, (Nat.not_lt.mpr n_73), decide_true, decide_false, Bool.not_true, Bool.not_false, Bool.and_true, Bool.true_and, Bool.and_false, Bool.false_and, Bool.and_self, Bool.false_eq_true, if_true, if_false, ite_true, ite_false, reduceIte] <;> decide)).symm.trans h9) (by decide), hI⟩), by rw [ht]; exact hP, va_K.moved hW9.alike hK, hD⟩, hS.F ht⟩) hS.2.2 dX4_rub_143
        · have n_76 : ¬ 1024 ≤ mr := fun h9 => (show ¬ nI 1024 ≤ nI mr from c_72) ((nI_leI (by omega) (by omega)).mpr h9)
          refine lv_iconst (v := 1) hx hb dX4_rub_131 (by decide) ?_
          refine lv_goto (tgt := 136) hx hb dX4_rub_132 (by decide) ?_
          refine kd_calli (va_runV (As := [.int 1, .int 1, .int 1]) (rest := []) ⟨hx, hb, hml, hown, hts⟩ (k_goes1 l dC dI dA ad _ τ pv _ _ hI mm fa sa aa ia sf mb mr mk mr hW ) (cwV 3 hts gX4_rub_X4_goes rfl rfl rfl (by decide +kernel) ⟨Nat.le_of_ble_eq_true rfl, Nat.le_of_ble_eq_true rfl⟩) (kd_preV hP hD hK hS hA hE hI hW.tm rfl rfl) rfl rfl hl.1 rfl (lv_room (Nat.le_of_ble_eq_true rfl)) dX4_rub_136 ⟨Nat.le_of_ble_eq_true rfl, Nat.le_of_ble_eq_true rfl⟩) hD hS hA (fun r_78 u_77 H locs hw hP hD hS => ?_)
          obtain ⟨rfl, hI⟩ := hw
          have hF := hF.trans (kFr.up (P := (kPxr mr)) (w := .int 0) (k := 0) hW.tm rfl)
          have hW := hW.frw (kFr.up (P := kPy mr) (w := .int 0) (k := 0) hW.tm rfl)
          refine lv_if_ne (tgt := 144) hx hb dX4_rub_139 (by decide) (fun _ => ?_) (fun h9 => by first | exact absurd h9 (by decide) | exact absurd (by decide) h9)
          refine lv_aload_n hx hb dX4_rub_144 rfl (lv_at hl 0 rfl) ?_
          refine kp_get hx hb hts i_X4 hown hK hP hI hW.tm rfl rfl 11 (by decide) (by decide) (hts (.fieldLink RX4 36 "IslandSolverModel" "softs" "[F") (by decide +kernel)) (fun _ h9 => h9) dX4_rub_145 (kq_RE 23 (by decide) fun x_79 h_80_e h_80 => ?_)
          refine lv_aload_n hx hb dX4_rub_148 rfl (lv_at hl 0 rfl) ?_
          refine kp_get hx hb hts i_X4 hown hK hP hI hW.tm rfl rfl 6 (by decide) (by decide) (hts (.fieldLink RX4 129 "IslandSolverModel" "rows" "I") (by decide +kernel)) (fun _ h9 => h9) dX4_rub_149 (kq_P (v0 := .int (nI mr)) rfl hW.p6 fun h_82 => ?_)
          refine lv_fconst0 hx hb dX4_rub_152 ?_
          have hj_83 : mr < τ 3 x_79 := by rw [show τ 3 x_79 = 1024 from (hI.arr h_80 rfl).2.1]; omega
          refine W.eq (g2 := F0 m 153 ls (.float FP.fconst0 :: .int (nI (mr)) :: .ref x_79 :: [])) rfl ?_
          refine kp_fastX (pv' := (kup pv mm 0 (.int 0))) (j := mr) hx hb hK hP hD hS hI h_80 rfl hj_83 (fun _ _ _ => rfl) (show kPr _ 1115684864 _ _ from (kv_F (by decide) (fb_le kc_0 (by decide)))) (kPn_not rfl (by decide)) dX4_rub_153 (fun f H locs hI hP hD hS => ?_)
          refine lv_aload_n hx hb dX4_rub_154 rfl (lv_at hl 0 rfl) ?_
          refine kp_get hx hb hts i_X4 hown hK hP hI hW.tm rfl rfl 14 (by decide) (by decide) (hts (.fieldLink RX4 45 "IslandSolverModel" "frictions" "[F") (by decide +kernel)) (fun _ h9 => h9) dX4_rub_155 (kq_RE 26 (by decide) fun x_84 h_85_e h_85 => ?_)
          refine lv_aload_n hx hb dX4_rub_158 rfl (lv_at hl 0 rfl) ?_
          refine kp_get hx hb hts i_X4 hown hK hP hI hW.tm rfl rfl 6 (by decide) (by decide) (hts (.fieldLink RX4 129 "IslandSolverModel" "rows" "I") (by decide +kernel)) (fun _ h9 => h9) dX4_rub_159 (kq_P (v0 := .int (nI mr)) rfl hW.p6 fun h_87 => ?_)
          refine lv_fload hx hb dX4_rub_162 (lv_at hl 5 rfl) ?_
          have hj_88 : mr < τ 3 x_84 := by rw [show τ 3 x_84 = 1024 from (hI.arr h_85 rfl).2.1]; omega
          refine W.eq (g2 := F0 m 164 ls (.float b :: .int (nI (mr)) :: .ref x_84 :: [])) rfl ?_
          refine kp_fastX (pv' := (kup pv mm 0 (.int 0))) (j := mr) hx hb hK hP hD hS hI h_85 rfl hj_88 (fun _ _ _ => rfl) (show kPr _ 1090519040 _ _ from (kv_F (by decide) hfb)) (kPn_not rfl (by decide)) dX4_rub_164 (fun f H locs hI hP hD hS => ?_)
          refine lv_aload_n hx hb dX4_rub_165 rfl (lv_at hl 0 rfl) ?_
          refine kp_get hx hb hts i_X4 hown hK hP hI hW.tm rfl rfl 15 (by decide) (by decide) (hts (.fieldLink RX4 48 "IslandSolverModel" "ats" "[I") (by decide +kernel)) (fun _ h9 => h9) dX4_rub_166 (kq_P (v0 := .ref aa) rfl hW.p15 fun h_90 => ?_)
          refine lv_aload_n hx hb dX4_rub_169 rfl (lv_at hl 0 rfl) ?_
          refine kp_get hx hb hts i_X4 hown hK hP hI hW.tm rfl rfl 6 (by decide) (by decide) (hts (.fieldLink RX4 129 "IslandSolverModel" "rows" "I") (by decide +kernel)) (fun _ h9 => h9) dX4_rub_170 (kq_P (v0 := .int (nI mr)) rfl hW.p6 fun h_92 => ?_)
          refine lv_iload hx hb dX4_rub_173 (lv_at hl 4 rfl) ?_
          have hj_93 : mr < τ 3 aa := by rw [show τ 3 aa = 1024 from (hI.arr hW.ta rfl).2.1]; omega
          refine W.eq (g2 := F0 m 175 ls (.int (nI j9) :: .int (nI (mr)) :: .ref aa :: [])) rfl ?_
          refine kp_iastX (pv' := (kup (kup pv mm 0 (.int 0)) aa (mr) (.int (nI j9)))) (j := mr) hx hb hK hP hD hS hI hW.ta rfl hj_93 (fun _ _ h9 => kup_ne h9) (show kPr _ 0 _ _ from (kv_I _)) ((kPn_pin rfl).mpr kup_self.symm) dX4_rub_175 (fun f H locs hI hP hD hS => ?_)
          have hF := hF.trans (kFr.up (P := kPxr mr) (w := .int (nI j9)) (k := mr) hW.ta (by simp [kPxr]))
          have hW := hW.frw (kFr.up (P := kPy mr) (w := .int (nI j9)) (k := mr) hW.ta (by simp [kPy]))
          refine lv_aload_n hx hb dX4_rub_176 rfl (lv_at hl 0 rfl) ?_
          refine lv_iload_n hx hb dX4_rub_177 rfl (lv_at hl 1 rfl) ?_
          refine lv_iload_n hx hb dX4_rub_178 rfl (lv_at hl 2 rfl) ?_
          refine lv_fload_n hx hb dX4_rub_179 rfl (lv_at hl 3 rfl) ?_
          refine lv_iload hx hb dX4_rub_180 (lv_at hl 6 rfl) ?_
          refine kd_calli (va_runV (As := [.int (nI j_67), .int (-1), .float a, .int ky]) (rest := []) ⟨hx, hb, hml, hown, hts⟩ (k_make0 l dC dI dA ad _ τ (kup (kup pv mm 0 (.int 0)) aa (mr) (.int (nI j9))) _ _ hI mm fa sa aa ia sf mb mr mk mr hW j_67 (by omega) a hfa ky (by omega) rfl (j9 + 1) kup_self (by omega) (fun k h => by cases h; exact (kup_ne (Or.inr (by omega))).trans ((kup_ne (Or.inl hW.ne.2.2.1)).trans hp9))) (cwV 4 hts gX4_rub_X4_make rfl rfl rfl (by decide +kernel) ⟨Nat.le_of_ble_eq_true rfl, Nat.le_of_ble_eq_true rfl⟩) (kd_preV hP hD hK hS hA hE hI hW.tm rfl rfl) rfl rfl hl.1 rfl (lv_room (Nat.le_of_ble_eq_true rfl)) dX4_rub_182 ⟨Nat.le_of_ble_eq_true rfl, Nat.le_of_ble_eq_true rfl⟩) hD hS hA (fun r_95 u_94 H locs hw hP hD hS => ?_)
          obtain ⟨rfl, pv, hF9, hW, hm9, hm0, hI⟩ := hw
          have hth9 : pv mm 0 = .int 0 := hm0.trans ((kup_ne (Or.inl hW.ne.2.2.1.symm)).trans kup_self)
          have hF := hF.trans hF9
          refine W.widen (k := 0) (n := 0) (Nat.le_of_ble_eq_true rfl) (Nat.le_of_ble_eq_true rfl) ?_
          exact W.iret (v := nI mr) hx hb hr (fun t ht hW9 => ⟨⟨nI mr, (u_94.1, u_94.2), rfl, (by rw [kinc_0 (show kc_rub (nI j_67) (-1) mb mr a (nI j9) b g9 = 0 from (by simp only [kc_rub, hz8, (kKn_t hj9 (by omega)), hp_69, (Nat.not_le.mp n_76), decide_true, decide_false, Bool.not_true, Bool.not_false, Bool.and_true, Bool.true_and, Bool.and_false, Bool.false_and, Bool.and_self, Bool.false_eq_true, if_true, if_false, ite_true, ite_false, reduceIte] <;> decide))]; exact ⟨_, _, hF, hW, (Eq.trans hth9 (congrArg Value.int (Eq.symm (by simp only [kc_rub, hz8, (kKn_t hj9 (by omega)), hp_69, (Nat.not_le.mp n_76), decide_true, decide_false, Bool.not_true, Bool.not_false, Bool.and_true, Bool.true_and, Bool.and_false, Bool.false_and, Bool.and_self, Bool.false_eq_true, if_true, if_false, ite_true, ite_false, reduceIte] <;> decide)))), fun h9 => rfl, fun h9 => hm9, hI⟩), by rw [ht]; exact hP, va_K.moved hW9.alike hK, hD⟩, hS.F ht⟩) hS.2.2 dX4_rub_185
      · refine lv_if_eq (tgt := 118) hx hb dX4_rub_106 (by decide) (fun h9 => by first | exact absurd h9 (by decide) | exact absurd (by decide) h9) (fun _ => ?_)
        refine lv_iload hx hb dX4_rub_109 (lv_at hl 7 rfl) ?_
        refine lv_if_eq (tgt := 118) hx hb dX4_rub_111 (by decide) (fun h9 => by first | exact absurd h9 (by decide) | exact absurd (by decide) h9) (fun _ => ?_)
        refine lv_iconst (v := 1) hx hb dX4_rub_114 (by decide) ?_
        refine lv_goto (tgt := 119) hx hb dX4_rub_115 (by decide) ?_
        refine lv_iload hx hb dX4_rub_119 (lv_at hl 8 rfl) ?_
        refine lv_aload_n hx hb dX4_rub_121 rfl (lv_at hl 0 rfl) ?_
        refine kp_get hx hb hts i_X4 hown hK hP hI hW.tm rfl rfl 6 (by decide) (by decide) (hts (.fieldLink RX4 129 "IslandSolverModel" "rows" "I") (by decide +kernel)) (fun _ h9 => h9) dX4_rub_122 (kq_P (v0 := .int (nI mr)) rfl hW.p6 fun h_97 => ?_)
        refine lv_sipush (v := 1024) hx hb dX4_rub_125 (by decide) ?_
        refine lv_icmp_ge (tgt := 135) hx hb dX4_rub_128 (by decide) (fun c_98 => ?_) (fun c_98 => ?_)
        · have n_99 : 1024 ≤ mr := (nI_leI (by omega) (by omega)).mp (show nI 1024 ≤ nI mr from c_98)
          refine lv_iconst (v := 0) hx hb dX4_rub_135 (by decide) ?_
          refine kd_calli (va_runV (As := [.int 1, .int 1, .int 0]) (rest := []) ⟨hx, hb, hml, hown, hts⟩ (k_goes4 l dC dI dA ad _ τ pv _ _ hI mm fa sa aa ia sf mb mr mk mr hW ) (cwV 3 hts gX4_rub_X4_goes rfl rfl rfl (by decide +kernel) ⟨Nat.le_of_ble_eq_true rfl, Nat.le_of_ble_eq_true rfl⟩) (kd_preV hP hD hK hS hA hE hI hW.tm rfl rfl) rfl rfl hl.1 rfl (lv_room (Nat.le_of_ble_eq_true rfl)) dX4_rub_136 ⟨Nat.le_of_ble_eq_true rfl, Nat.le_of_ble_eq_true rfl⟩) hD hS hA (fun r_101 u_100 H locs hw hP hD hS => ?_)
          obtain ⟨rfl, hI⟩ := hw
          have hF := hF.trans (kFr.up (P := (kPxr mr)) (w := .int 3) (k := 0) hW.tm rfl)
          have hW := hW.frw (kFr.up (P := kPy mr) (w := .int 3) (k := 0) hW.tm rfl)
          refine lv_if_ne (tgt := 144) hx hb dX4_rub_139 (by decide) (fun h9 => by first | exact absurd h9 (by decide) | exact absurd (by decide) h9) (fun _ => ?_)
          refine lv_iconst (v := 0) hx hb dX4_rub_142 (by decide) ?_
          refine W.widen (k := 0) (n := 0) (Nat.le_of_ble_eq_true rfl) (Nat.le_of_ble_eq_true rfl) ?_
          exact W.iret (v := 0) hx hb hr (fun t ht hW9 => ⟨⟨0, (u_100.1, u_100.2), rfl, (by rw [kinc_1 (show kc_rub (nI j_67) (nI j_68) mb mr a (nI j9) b g9 ≠ 0 by rw [show kc_rub (nI j_67) (nI j_68) mb mr a (nI j9) b g9 = 3 from (by simp only [kc_rub, hz8, (kKn_t hj9 (by omega)), hp_69, (Nat.not_lt.mpr n_99), decide_true, decide_false, Bool.not_true, Bool.not_false, Bool.and_true, Bool.true_and, Bool.and_false, Bool.false_and, Bool.and_self, Bool.false_eq_true, if_true, if_false, ite_true, ite_false, reduceIte] <;> decide)]; decide)]; exact ⟨_, _, hF, hW, (Eq.trans kup_self (congrArg Value.int (Eq.symm (by simp only [kc_rub, hz8, (kKn_t hj9 (by omega)), hp_69, (Nat.not_lt.mpr n_99), decide_true, decide_false, Bool.not_true, Bool.not_false, Bool.and_true, Bool.true_and, Bool.and_false, Bool.false_and, Bool.and_self, Bool.false_eq_true, if_true, if_false, ite_true, ite_false, reduceIte] <;> decide)))), fun h9 => absurd ((show kc_rub (nI j_67) (nI j_68) mb mr a (nI j9) b g9 = 3 from (by simp only [kc_rub, hz8, (kKn_t hj9 (by omega)), hp_69, (Nat.not_lt.mpr n_99), decide_true, decide_false, Bool.not_true, Bool.not_false, Bool.and_true, Bool.true_and, Bool.and_false, Bool.false_and, Bool.and_self, Bool.false_eq_true, if_true, if_false, ite_true, ite_false, reduceIte] <;> decide)).symm.trans h9) (by decide), fun h9 => absurd ((show kc_rub (nI j_67) (nI j_68) mb mr a (nI j9) b g9 = 3 from (by simp only [kc_rub, hz8, (kKn_t hj9 (by omega)), hp_69, (Nat.not_lt.mpr n_99), decide_true, decide_false, Bool.not_true, Bool.not_false, Bool.and_true, Bool.true_and, Bool.and_false, Bool.false_and, Bool.and_self, Bool.false_eq_true, if_true, if_false, ite_true, ite_false, reduceIte] <;> decide)).symm.trans h9) (by decide), hI⟩), by rw [ht]; exact hP, va_K.moved hW9.alike hK, hD⟩, hS.F ht⟩) hS.2.2 dX4_rub_143
        · have n_102 : ¬ 1024 ≤ mr := fun h9 => (show ¬ nI 1024 ≤ nI mr from c_98) ((nI_leI (by omega) (by omega)).mpr h9)
          refine lv_iconst (v := 1) hx hb dX4_rub_131 (by decide) ?_
          refine lv_goto (tgt := 136) hx hb dX4_rub_132 (by decide) ?_
          refine kd_calli (va_runV (As := [.int 1, .int 1, .int 1]) (rest := []) ⟨hx, hb, hml, hown, hts⟩ (k_goes1 l dC dI dA ad _ τ pv _ _ hI mm fa sa aa ia sf mb mr mk mr hW ) (cwV 3 hts gX4_rub_X4_goes rfl rfl rfl (by decide +kernel) ⟨Nat.le_of_ble_eq_true rfl, Nat.le_of_ble_eq_true rfl⟩) (kd_preV hP hD hK hS hA hE hI hW.tm rfl rfl) rfl rfl hl.1 rfl (lv_room (Nat.le_of_ble_eq_true rfl)) dX4_rub_136 ⟨Nat.le_of_ble_eq_true rfl, Nat.le_of_ble_eq_true rfl⟩) hD hS hA (fun r_104 u_103 H locs hw hP hD hS => ?_)
          obtain ⟨rfl, hI⟩ := hw
          have hF := hF.trans (kFr.up (P := (kPxr mr)) (w := .int 0) (k := 0) hW.tm rfl)
          have hW := hW.frw (kFr.up (P := kPy mr) (w := .int 0) (k := 0) hW.tm rfl)
          refine lv_if_ne (tgt := 144) hx hb dX4_rub_139 (by decide) (fun _ => ?_) (fun h9 => by first | exact absurd h9 (by decide) | exact absurd (by decide) h9)
          refine lv_aload_n hx hb dX4_rub_144 rfl (lv_at hl 0 rfl) ?_
          refine kp_get hx hb hts i_X4 hown hK hP hI hW.tm rfl rfl 11 (by decide) (by decide) (hts (.fieldLink RX4 36 "IslandSolverModel" "softs" "[F") (by decide +kernel)) (fun _ h9 => h9) dX4_rub_145 (kq_RE 23 (by decide) fun x_105 h_106_e h_106 => ?_)
          refine lv_aload_n hx hb dX4_rub_148 rfl (lv_at hl 0 rfl) ?_
          refine kp_get hx hb hts i_X4 hown hK hP hI hW.tm rfl rfl 6 (by decide) (by decide) (hts (.fieldLink RX4 129 "IslandSolverModel" "rows" "I") (by decide +kernel)) (fun _ h9 => h9) dX4_rub_149 (kq_P (v0 := .int (nI mr)) rfl hW.p6 fun h_108 => ?_)
          refine lv_fconst0 hx hb dX4_rub_152 ?_
          have hj_109 : mr < τ 3 x_105 := by rw [show τ 3 x_105 = 1024 from (hI.arr h_106 rfl).2.1]; omega
          refine W.eq (g2 := F0 m 153 ls (.float FP.fconst0 :: .int (nI (mr)) :: .ref x_105 :: [])) rfl ?_
          refine kp_fastX (pv' := (kup pv mm 0 (.int 0))) (j := mr) hx hb hK hP hD hS hI h_106 rfl hj_109 (fun _ _ _ => rfl) (show kPr _ 1115684864 _ _ from (kv_F (by decide) (fb_le kc_0 (by decide)))) (kPn_not rfl (by decide)) dX4_rub_153 (fun f H locs hI hP hD hS => ?_)
          refine lv_aload_n hx hb dX4_rub_154 rfl (lv_at hl 0 rfl) ?_
          refine kp_get hx hb hts i_X4 hown hK hP hI hW.tm rfl rfl 14 (by decide) (by decide) (hts (.fieldLink RX4 45 "IslandSolverModel" "frictions" "[F") (by decide +kernel)) (fun _ h9 => h9) dX4_rub_155 (kq_RE 26 (by decide) fun x_110 h_111_e h_111 => ?_)
          refine lv_aload_n hx hb dX4_rub_158 rfl (lv_at hl 0 rfl) ?_
          refine kp_get hx hb hts i_X4 hown hK hP hI hW.tm rfl rfl 6 (by decide) (by decide) (hts (.fieldLink RX4 129 "IslandSolverModel" "rows" "I") (by decide +kernel)) (fun _ h9 => h9) dX4_rub_159 (kq_P (v0 := .int (nI mr)) rfl hW.p6 fun h_113 => ?_)
          refine lv_fload hx hb dX4_rub_162 (lv_at hl 5 rfl) ?_
          have hj_114 : mr < τ 3 x_110 := by rw [show τ 3 x_110 = 1024 from (hI.arr h_111 rfl).2.1]; omega
          refine W.eq (g2 := F0 m 164 ls (.float b :: .int (nI (mr)) :: .ref x_110 :: [])) rfl ?_
          refine kp_fastX (pv' := (kup pv mm 0 (.int 0))) (j := mr) hx hb hK hP hD hS hI h_111 rfl hj_114 (fun _ _ _ => rfl) (show kPr _ 1090519040 _ _ from (kv_F (by decide) hfb)) (kPn_not rfl (by decide)) dX4_rub_164 (fun f H locs hI hP hD hS => ?_)
          refine lv_aload_n hx hb dX4_rub_165 rfl (lv_at hl 0 rfl) ?_
          refine kp_get hx hb hts i_X4 hown hK hP hI hW.tm rfl rfl 15 (by decide) (by decide) (hts (.fieldLink RX4 48 "IslandSolverModel" "ats" "[I") (by decide +kernel)) (fun _ h9 => h9) dX4_rub_166 (kq_P (v0 := .ref aa) rfl hW.p15 fun h_116 => ?_)
          refine lv_aload_n hx hb dX4_rub_169 rfl (lv_at hl 0 rfl) ?_
          refine kp_get hx hb hts i_X4 hown hK hP hI hW.tm rfl rfl 6 (by decide) (by decide) (hts (.fieldLink RX4 129 "IslandSolverModel" "rows" "I") (by decide +kernel)) (fun _ h9 => h9) dX4_rub_170 (kq_P (v0 := .int (nI mr)) rfl hW.p6 fun h_118 => ?_)
          refine lv_iload hx hb dX4_rub_173 (lv_at hl 4 rfl) ?_
          have hj_119 : mr < τ 3 aa := by rw [show τ 3 aa = 1024 from (hI.arr hW.ta rfl).2.1]; omega
          refine W.eq (g2 := F0 m 175 ls (.int (nI j9) :: .int (nI (mr)) :: .ref aa :: [])) rfl ?_
          refine kp_iastX (pv' := (kup (kup pv mm 0 (.int 0)) aa (mr) (.int (nI j9)))) (j := mr) hx hb hK hP hD hS hI hW.ta rfl hj_119 (fun _ _ h9 => kup_ne h9) (show kPr _ 0 _ _ from (kv_I _)) ((kPn_pin rfl).mpr kup_self.symm) dX4_rub_175 (fun f H locs hI hP hD hS => ?_)
          have hF := hF.trans (kFr.up (P := kPxr mr) (w := .int (nI j9)) (k := mr) hW.ta (by simp [kPxr]))
          have hW := hW.frw (kFr.up (P := kPy mr) (w := .int (nI j9)) (k := mr) hW.ta (by simp [kPy]))
          refine lv_aload_n hx hb dX4_rub_176 rfl (lv_at hl 0 rfl) ?_
          refine lv_iload_n hx hb dX4_rub_177 rfl (lv_at hl 1 rfl) ?_
          refine lv_iload_n hx hb dX4_rub_178 rfl (lv_at hl 2 rfl) ?_
          refine lv_fload_n hx hb dX4_rub_179 rfl (lv_at hl 3 rfl) ?_
          refine lv_iload hx hb dX4_rub_180 (lv_at hl 6 rfl) ?_
          refine kd_calli (va_runV (As := [.int (nI j_67), .int (nI j_68), .float a, .int ky]) (rest := []) ⟨hx, hb, hml, hown, hts⟩ (k_make1 l dC dI dA ad _ τ (kup (kup pv mm 0 (.int 0)) aa (mr) (.int (nI j9))) _ _ hI mm fa sa aa ia sf mb mr mk mr hW j_67 j_68 (by omega) (by omega) a hfa ky (by omega) rfl (j9 + 1) kup_self (by omega) (fun k h => by cases h; exact (kup_ne (Or.inr (by omega))).trans ((kup_ne (Or.inl hW.ne.2.2.1)).trans hp9))) (cwV 4 hts gX4_rub_X4_make rfl rfl rfl (by decide +kernel) ⟨Nat.le_of_ble_eq_true rfl, Nat.le_of_ble_eq_true rfl⟩) (kd_preV hP hD hK hS hA hE hI hW.tm rfl rfl) rfl rfl hl.1 rfl (lv_room (Nat.le_of_ble_eq_true rfl)) dX4_rub_182 ⟨Nat.le_of_ble_eq_true rfl, Nat.le_of_ble_eq_true rfl⟩) hD hS hA (fun r_121 u_120 H locs hw hP hD hS => ?_)
          obtain ⟨rfl, pv, hF9, hW, hm9, hm0, hI⟩ := hw
          have hth9 : pv mm 0 = .int 0 := hm0.trans ((kup_ne (Or.inl hW.ne.2.2.1.symm)).trans kup_self)
          have hF := hF.trans hF9
          refine W.widen (k := 0) (n := 0) (Nat.le_of_ble_eq_true rfl) (Nat.le_of_ble_eq_true rfl) ?_
          exact W.iret (v := nI mr) hx hb hr (fun t ht hW9 => ⟨⟨nI mr, (u_120.1, u_120.2), rfl, (by rw [kinc_0 (show kc_rub (nI j_67) (nI j_68) mb mr a (nI j9) b g9 = 0 from (by simp only [kc_rub, hz8, (kKn_t hj9 (by omega)), hp_69, (Nat.not_le.mp n_102), decide_true, decide_false, Bool.not_true, Bool.not_false, Bool.and_true, Bool.true_and, Bool.and_false, Bool.false_and, Bool.and_self, Bool.false_eq_true, if_true, if_false, ite_true, ite_false, reduceIte] <;> decide))]; exact ⟨_, _, hF, hW, (Eq.trans hth9 (congrArg Value.int (Eq.symm (by simp only [kc_rub, hz8, (kKn_t hj9 (by omega)), hp_69, (Nat.not_le.mp n_102), decide_true, decide_false, Bool.not_true, Bool.not_false, Bool.and_true, Bool.true_and, Bool.and_false, Bool.false_and, Bool.and_self, Bool.false_eq_true, if_true, if_false, ite_true, ite_false, reduceIte] <;> decide)))), fun h9 => rfl, fun h9 => hm9, hI⟩), by rw [ht]; exact hP, va_K.moved hW9.alike hK, hD⟩, hS.F ht⟩) hS.2.2 dX4_rub_185
      · refine lv_if_eq (tgt := 118) hx hb dX4_rub_106 (by decide) (fun _ => ?_) (fun h9 => by first | exact absurd h9 (by decide) | exact absurd (by decide) h9)
        refine lv_iconst (v := 0) hx hb dX4_rub_118 (by decide) ?_
        refine lv_iload hx hb dX4_rub_119 (lv_at hl 8 rfl) ?_
        refine lv_aload_n hx hb dX4_rub_121 rfl (lv_at hl 0 rfl) ?_
        refine kp_get hx hb hts i_X4 hown hK hP hI hW.tm rfl rfl 6 (by decide) (by decide) (hts (.fieldLink RX4 129 "IslandSolverModel" "rows" "I") (by decide +kernel)) (fun _ h9 => h9) dX4_rub_122 (kq_P (v0 := .int (nI mr)) rfl hW.p6 fun h_123 => ?_)
        refine lv_sipush (v := 1024) hx hb dX4_rub_125 (by decide) ?_
        refine lv_icmp_ge (tgt := 135) hx hb dX4_rub_128 (by decide) (fun c_124 => ?_) (fun c_124 => ?_)
        · have n_125 : 1024 ≤ mr := (nI_leI (by omega) (by omega)).mp (show nI 1024 ≤ nI mr from c_124)
          refine lv_iconst (v := 0) hx hb dX4_rub_135 (by decide) ?_
          refine kd_calli (va_runV (As := [.int 0, .int 1, .int 0]) (rest := []) ⟨hx, hb, hml, hown, hts⟩ (k_goes2 l dC dI dA ad _ τ pv _ _ hI mm fa sa aa ia sf mb mr mk mr hW 1 0) (cwV 3 hts gX4_rub_X4_goes rfl rfl rfl (by decide +kernel) ⟨Nat.le_of_ble_eq_true rfl, Nat.le_of_ble_eq_true rfl⟩) (kd_preV hP hD hK hS hA hE hI hW.tm rfl rfl) rfl rfl hl.1 rfl (lv_room (Nat.le_of_ble_eq_true rfl)) dX4_rub_136 ⟨Nat.le_of_ble_eq_true rfl, Nat.le_of_ble_eq_true rfl⟩) hD hS hA (fun r_127 u_126 H locs hw hP hD hS => ?_)
          obtain ⟨rfl, hI⟩ := hw
          have hF := hF.trans (kFr.up (P := (kPxr mr)) (w := .int 1) (k := 0) hW.tm rfl)
          have hW := hW.frw (kFr.up (P := kPy mr) (w := .int 1) (k := 0) hW.tm rfl)
          refine lv_if_ne (tgt := 144) hx hb dX4_rub_139 (by decide) (fun h9 => by first | exact absurd h9 (by decide) | exact absurd (by decide) h9) (fun _ => ?_)
          refine lv_iconst (v := 0) hx hb dX4_rub_142 (by decide) ?_
          refine W.widen (k := 0) (n := 0) (Nat.le_of_ble_eq_true rfl) (Nat.le_of_ble_eq_true rfl) ?_
          exact W.iret (v := 0) hx hb hr (fun t ht hW9 => ⟨⟨0, (u_126.1, u_126.2), rfl, (by rw [kinc_1 (show kc_rub n k mb mr a (nI j9) b g9 ≠ 0 by rw [show kc_rub n k mb mr a (nI j9) b g9 = 1 from (by simp only [kc_rub, hz8, (kKn_t hj9 (by omega)), hp_69, (Nat.not_lt.mpr n_125), decide_true, decide_false, Bool.not_true, Bool.not_false, Bool.and_true, Bool.true_and, Bool.and_false, Bool.false_and, Bool.and_self, Bool.false_eq_true, if_true, if_false, ite_true, ite_false, reduceIte] <;> decide)]; decide)]; exact ⟨_, _, hF, hW, (Eq.trans kup_self (congrArg Value.int (Eq.symm (by simp only [kc_rub, hz8, (kKn_t hj9 (by omega)), hp_69, (Nat.not_lt.mpr n_125), decide_true, decide_false, Bool.not_true, Bool.not_false, Bool.and_true, Bool.true_and, Bool.and_false, Bool.false_and, Bool.and_self, Bool.false_eq_true, if_true, if_false, ite_true, ite_false, reduceIte] <;> decide)))), fun h9 => absurd ((show kc_rub n k mb mr a (nI j9) b g9 = 1 from (by simp only [kc_rub, hz8, (kKn_t hj9 (by omega)), hp_69, (Nat.not_lt.mpr n_125), decide_true, decide_false, Bool.not_true, Bool.not_false, Bool.and_true, Bool.true_and, Bool.and_false, Bool.false_and, Bool.and_self, Bool.false_eq_true, if_true, if_false, ite_true, ite_false, reduceIte] <;> decide)).symm.trans h9) (by decide), fun h9 => absurd ((show kc_rub n k mb mr a (nI j9) b g9 = 1 from (by simp only [kc_rub, hz8, (kKn_t hj9 (by omega)), hp_69, (Nat.not_lt.mpr n_125), decide_true, decide_false, Bool.not_true, Bool.not_false, Bool.and_true, Bool.true_and, Bool.and_false, Bool.false_and, Bool.and_self, Bool.false_eq_true, if_true, if_false, ite_true, ite_false, reduceIte] <;> decide)).symm.trans h9) (by decide), hI⟩), by rw [ht]; exact hP, va_K.moved hW9.alike hK, hD⟩, hS.F ht⟩) hS.2.2 dX4_rub_143
        · have n_128 : ¬ 1024 ≤ mr := fun h9 => (show ¬ nI 1024 ≤ nI mr from c_124) ((nI_leI (by omega) (by omega)).mpr h9)
          refine lv_iconst (v := 1) hx hb dX4_rub_131 (by decide) ?_
          refine lv_goto (tgt := 136) hx hb dX4_rub_132 (by decide) ?_
          refine kd_calli (va_runV (As := [.int 0, .int 1, .int 1]) (rest := []) ⟨hx, hb, hml, hown, hts⟩ (k_goes2 l dC dI dA ad _ τ pv _ _ hI mm fa sa aa ia sf mb mr mk mr hW 1 1) (cwV 3 hts gX4_rub_X4_goes rfl rfl rfl (by decide +kernel) ⟨Nat.le_of_ble_eq_true rfl, Nat.le_of_ble_eq_true rfl⟩) (kd_preV hP hD hK hS hA hE hI hW.tm rfl rfl) rfl rfl hl.1 rfl (lv_room (Nat.le_of_ble_eq_true rfl)) dX4_rub_136 ⟨Nat.le_of_ble_eq_true rfl, Nat.le_of_ble_eq_true rfl⟩) hD hS hA (fun r_130 u_129 H locs hw hP hD hS => ?_)
          obtain ⟨rfl, hI⟩ := hw
          have hF := hF.trans (kFr.up (P := (kPxr mr)) (w := .int 1) (k := 0) hW.tm rfl)
          have hW := hW.frw (kFr.up (P := kPy mr) (w := .int 1) (k := 0) hW.tm rfl)
          refine lv_if_ne (tgt := 144) hx hb dX4_rub_139 (by decide) (fun h9 => by first | exact absurd h9 (by decide) | exact absurd (by decide) h9) (fun _ => ?_)
          refine lv_iconst (v := 0) hx hb dX4_rub_142 (by decide) ?_
          refine W.widen (k := 0) (n := 0) (Nat.le_of_ble_eq_true rfl) (Nat.le_of_ble_eq_true rfl) ?_
          exact W.iret (v := 0) hx hb hr (fun t ht hW9 => ⟨⟨0, (u_129.1, u_129.2), rfl, (by rw [kinc_1 (show kc_rub n k mb mr a (nI j9) b g9 ≠ 0 by rw [show kc_rub n k mb mr a (nI j9) b g9 = 1 from (by simp only [kc_rub, hz8, (kKn_t hj9 (by omega)), hp_69, (Nat.not_le.mp n_128), decide_true, decide_false, Bool.not_true, Bool.not_false, Bool.and_true, Bool.true_and, Bool.and_false, Bool.false_and, Bool.and_self, Bool.false_eq_true, if_true, if_false, ite_true, ite_false, reduceIte] <;> decide)]; decide)]; exact ⟨_, _, hF, hW, (Eq.trans kup_self (congrArg Value.int (Eq.symm (by simp only [kc_rub, hz8, (kKn_t hj9 (by omega)), hp_69, (Nat.not_le.mp n_128), decide_true, decide_false, Bool.not_true, Bool.not_false, Bool.and_true, Bool.true_and, Bool.and_false, Bool.false_and, Bool.and_self, Bool.false_eq_true, if_true, if_false, ite_true, ite_false, reduceIte] <;> decide)))), fun h9 => absurd ((show kc_rub n k mb mr a (nI j9) b g9 = 1 from (by simp only [kc_rub, hz8, (kKn_t hj9 (by omega)), hp_69, (Nat.not_le.mp n_128), decide_true, decide_false, Bool.not_true, Bool.not_false, Bool.and_true, Bool.true_and, Bool.and_false, Bool.false_and, Bool.and_self, Bool.false_eq_true, if_true, if_false, ite_true, ite_false, reduceIte] <;> decide)).symm.trans h9) (by decide), fun h9 => absurd ((show kc_rub n k mb mr a (nI j9) b g9 = 1 from (by simp only [kc_rub, hz8, (kKn_t hj9 (by omega)), hp_69, (Nat.not_le.mp n_128), decide_true, decide_false, Bool.not_true, Bool.not_false, Bool.and_true, Bool.true_and, Bool.and_false, Bool.false_and, Bool.and_self, Bool.false_eq_true, if_true, if_false, ite_true, ite_false, reduceIte] <;> decide)).symm.trans h9) (by decide), hI⟩), by rw [ht]; exact hP, va_K.moved hW9.alike hK, hD⟩, hS.F ht⟩) hS.2.2 dX4_rub_143
  · refine lv_iload hx hb dX4_rub_0 (lv_at hl 4 rfl) ?_
    refine lv_if_lt (tgt := 18) hx hb dX4_rub_2 (by decide) (fun c_131 => ?_) (fun c_131 => ?_)
    · refine lv_iconst (v := 0) hx hb dX4_rub_18 (by decide) ?_
      refine lv_istore (lv' := [(7, .int 0), (0, .ref mm), (1, .int n), (2, .int k), (3, .float a), (4, .int at9), (5, .float b), (6, .int ky)]) hx hb dX4_rub_19 hl (by decide) rfl (fun ls hl => ?_)
      refine lv_fload_n hx hb dX4_rub_21 rfl (lv_at hl 4 rfl) ?_
      refine lv_ldcf (v := 3296722944) hx hb hown (hts (.constantFloat RX4 115 (3296722944)) (by decide +kernel)) dX4_rub_22 ?_
      have hc_132 : fb 1149239296 3296722944 := by unfold fb; decide +kernel
      refine lv_ldcf (v := 1149239296) hx hb hown (hts (.constantFloat RX4 116 (1149239296)) (by decide +kernel)) dX4_rub_24 ?_
      have hc_133 : fb 1149239296 1149239296 := by unfold fb; decide +kernel
      refine kd_calli (va_runS (As := [.float a, .float 3296722944, .float 1149239296]) (rest := []) ⟨hx, hb, hml, hown, hts⟩ (k_within l dC dI dA ad _ τ pv _ _ hI a 3296722944 1149239296) (va_cwS 3 hts gX4_rub_X4_within rfl rfl rfl (by decide +kernel) ⟨Nat.le_of_ble_eq_true rfl, Nat.le_of_ble_eq_true rfl⟩) (kd_preS hP hD hK hS hA hE) rfl rfl hl.1 rfl (lv_room (Nat.le_of_ble_eq_true rfl)) dX4_rub_26 ⟨Nat.le_of_ble_eq_true rfl, Nat.le_of_ble_eq_true rfl⟩) hD hS hA (fun r_135 u_134 H locs hw hP hD hS => ?_)
      obtain ⟨⟨k_136, rfl⟩ | ⟨k_136, rfl⟩, hI⟩ := hw
      · have fb_137 : fb 1149239296 a := fb_within hc_132 hc_133 (by decide) k_136
        refine lv_if_eq (tgt := 47) hx hb dX4_rub_29 (by decide) (fun h9 => by first | exact absurd h9 (by decide) | exact absurd (by decide) h9) (fun _ => ?_)
        refine lv_fload hx hb dX4_rub_32 (lv_at hl 6 rfl) ?_
        refine lv_fconst0 hx hb dX4_rub_34 ?_
        refine lv_ldcf (v := 1090519040) hx hb hown (hts (.constantFloat RX4 150 (1090519040)) (by decide +kernel)) dX4_rub_35 ?_
        have hc_138 : fb 1090519040 1090519040 := by unfold fb; decide +kernel
        refine kd_calli (va_runS (As := [.float b, .float FP.fconst0, .float 1090519040]) (rest := []) ⟨hx, hb, hml, hown, hts⟩ (k_within l dC dI dA ad _ τ pv _ _ hI b FP.fconst0 1090519040) (va_cwS 3 hts gX4_rub_X4_within rfl rfl rfl (by decide +kernel) ⟨Nat.le_of_ble_eq_true rfl, Nat.le_of_ble_eq_true rfl⟩) (kd_preS hP hD hK hS hA hE) rfl rfl hl.1 rfl (lv_room (Nat.le_of_ble_eq_true rfl)) dX4_rub_37 ⟨Nat.le_of_ble_eq_true rfl, Nat.le_of_ble_eq_true rfl⟩) hD hS hA (fun r_140 u_139 H locs hw hP hD hS => ?_)
        obtain ⟨⟨k_141, rfl⟩ | ⟨k_141, rfl⟩, hI⟩ := hw
        · have fb_142 : fb 1090519040 b := fb_within (fb_le kc_0 (by decide)) hc_138 (by decide) k_141
          refine lv_if_eq (tgt := 47) hx hb dX4_rub_40 (by decide) (fun h9 => by first | exact absurd h9 (by decide) | exact absurd (by decide) h9) (fun _ => ?_)
          refine lv_iconst (v := 1) hx hb dX4_rub_43 (by decide) ?_
          refine lv_goto (tgt := 48) hx hb dX4_rub_44 (by decide) ?_
          refine lv_istore (lv' := [(8, .int 1), (7, .int 0), (0, .ref mm), (1, .int n), (2, .int k), (3, .float a), (4, .int at9), (5, .float b), (6, .int ky)]) hx hb dX4_rub_48 hl (by decide) rfl (fun ls hl => ?_)
          refine lv_iload hx hb dX4_rub_50 (lv_at hl 0 rfl) ?_
          refine lv_if_eq (tgt := 96) hx hb dX4_rub_52 (by decide) (fun h9 => by first | exact absurd h9 (by decide) | exact absurd (by decide) h9) (fun _ => ?_)
          refine lv_iload hx hb dX4_rub_55 (lv_at hl 1 rfl) ?_
          refine lv_if_eq (tgt := 96) hx hb dX4_rub_57 (by decide) (fun _ => ?_) (fun h9 => by first | exact absurd h9 (by decide) | exact absurd (by decide) h9)
          refine lv_iconst (v := 0) hx hb dX4_rub_96 (by decide) ?_
          refine lv_istore (lv' := [(8, .int 0), (7, .int 0), (0, .ref mm), (1, .int n), (2, .int k), (3, .float a), (4, .int at9), (5, .float b), (6, .int ky)]) hx hb dX4_rub_97 hl (by decide) rfl (fun ls hl => ?_)
          have hl : lv_has ls 9 [(0, .ref mm), (1, .int n), (2, .int k), (3, .float a), (4, .int at9), (5, .float b), (6, .int ky), (7, .int 0), (8, .int 0)] := lv_sub hl [2, 3, 4, 5, 6, 7, 8, 1, 0] rfl
          exact cut99 (fun _ _ => .null) _ _ _ _ _ ⟨0, 0, hI, hP, hD, hS, hl, Or.inl ⟨rfl, kKn_f (Or.inl c_131)⟩, Or.inl ⟨rfl, fun h9 => absurd h9 (by decide)⟩⟩
        · refine lv_if_eq (tgt := 47) hx hb dX4_rub_40 (by decide) (fun _ => ?_) (fun h9 => by first | exact absurd h9 (by decide) | exact absurd (by decide) h9)
          refine lv_iconst (v := 0) hx hb dX4_rub_47 (by decide) ?_
          refine lv_istore (lv' := [(8, .int 0), (7, .int 0), (0, .ref mm), (1, .int n), (2, .int k), (3, .float a), (4, .int at9), (5, .float b), (6, .int ky)]) hx hb dX4_rub_48 hl (by decide) rfl (fun ls hl => ?_)
          refine lv_iload hx hb dX4_rub_50 (lv_at hl 0 rfl) ?_
          refine lv_if_eq (tgt := 96) hx hb dX4_rub_52 (by decide) (fun _ => ?_) (fun h9 => by first | exact absurd h9 (by decide) | exact absurd (by decide) h9)
          refine lv_iconst (v := 0) hx hb dX4_rub_96 (by decide) ?_
          refine lv_istore (lv' := [(8, .int 0), (7, .int 0), (0, .ref mm), (1, .int n), (2, .int k), (3, .float a), (4, .int at9), (5, .float b), (6, .int ky)]) hx hb dX4_rub_97 hl (by decide) rfl (fun ls hl => ?_)
          have hl : lv_has ls 9 [(0, .ref mm), (1, .int n), (2, .int k), (3, .float a), (4, .int at9), (5, .float b), (6, .int ky), (7, .int 0), (8, .int 0)] := lv_sub hl [2, 3, 4, 5, 6, 7, 8, 1, 0] rfl
          exact cut99 (fun _ _ => .null) _ _ _ _ _ ⟨0, 0, hI, hP, hD, hS, hl, Or.inl ⟨rfl, kKn_f (Or.inl c_131)⟩, Or.inl ⟨rfl, fun h9 => absurd h9 (by decide)⟩⟩
      · refine lv_if_eq (tgt := 47) hx hb dX4_rub_29 (by decide) (fun _ => ?_) (fun h9 => by first | exact absurd h9 (by decide) | exact absurd (by decide) h9)
        refine lv_iconst (v := 0) hx hb dX4_rub_47 (by decide) ?_
        refine lv_istore (lv' := [(8, .int 0), (7, .int 0), (0, .ref mm), (1, .int n), (2, .int k), (3, .float a), (4, .int at9), (5, .float b), (6, .int ky)]) hx hb dX4_rub_48 hl (by decide) rfl (fun ls hl => ?_)
        refine lv_iload hx hb dX4_rub_50 (lv_at hl 0 rfl) ?_
        refine lv_if_eq (tgt := 96) hx hb dX4_rub_52 (by decide) (fun _ => ?_) (fun h9 => by first | exact absurd h9 (by decide) | exact absurd (by decide) h9)
        refine lv_iconst (v := 0) hx hb dX4_rub_96 (by decide) ?_
        refine lv_istore (lv' := [(8, .int 0), (7, .int 0), (0, .ref mm), (1, .int n), (2, .int k), (3, .float a), (4, .int at9), (5, .float b), (6, .int ky)]) hx hb dX4_rub_97 hl (by decide) rfl (fun ls hl => ?_)
        have hl : lv_has ls 9 [(0, .ref mm), (1, .int n), (2, .int k), (3, .float a), (4, .int at9), (5, .float b), (6, .int ky), (7, .int 0), (8, .int 0)] := lv_sub hl [2, 3, 4, 5, 6, 7, 8, 1, 0] rfl
        exact cut99 (fun _ _ => .null) _ _ _ _ _ ⟨0, 0, hI, hP, hD, hS, hl, Or.inl ⟨rfl, kKn_f (Or.inl c_131)⟩, Or.inl ⟨rfl, fun h9 => absurd h9 (by decide)⟩⟩
    · refine lv_iload hx hb dX4_rub_5 (lv_at hl 4 rfl) ?_
      refine lv_aload_n hx hb dX4_rub_7 rfl (lv_at hl 0 rfl) ?_
      refine kp_get hx hb hts i_X4 hown hK hP hI hW.tm rfl rfl 6 (by decide) (by decide) (hts (.fieldLink RX4 129 "IslandSolverModel" "rows" "I") (by decide +kernel)) (fun _ h9 => h9) dX4_rub_8 (kq_P (v0 := .int (nI mr)) rfl hW.p6 fun h_144 => ?_)
      refine lv_icmp_ge (tgt := 18) hx hb dX4_rub_11 (by decide) (fun c_145 => ?_) (fun c_145 => ?_)
      · refine lv_iconst (v := 0) hx hb dX4_rub_18 (by decide) ?_
        refine lv_istore (lv' := [(7, .int 0), (0, .ref mm), (1, .int n), (2, .int k), (3, .float a), (4, .int at9), (5, .float b), (6, .int ky)]) hx hb dX4_rub_19 hl (by decide) rfl (fun ls hl => ?_)
        refine lv_fload_n hx hb dX4_rub_21 rfl (lv_at hl 4 rfl) ?_
        refine lv_ldcf (v := 3296722944) hx hb hown (hts (.constantFloat RX4 115 (3296722944)) (by decide +kernel)) dX4_rub_22 ?_
        have hc_146 : fb 1149239296 3296722944 := by unfold fb; decide +kernel
        refine lv_ldcf (v := 1149239296) hx hb hown (hts (.constantFloat RX4 116 (1149239296)) (by decide +kernel)) dX4_rub_24 ?_
        have hc_147 : fb 1149239296 1149239296 := by unfold fb; decide +kernel
        refine kd_calli (va_runS (As := [.float a, .float 3296722944, .float 1149239296]) (rest := []) ⟨hx, hb, hml, hown, hts⟩ (k_within l dC dI dA ad _ τ pv _ _ hI a 3296722944 1149239296) (va_cwS 3 hts gX4_rub_X4_within rfl rfl rfl (by decide +kernel) ⟨Nat.le_of_ble_eq_true rfl, Nat.le_of_ble_eq_true rfl⟩) (kd_preS hP hD hK hS hA hE) rfl rfl hl.1 rfl (lv_room (Nat.le_of_ble_eq_true rfl)) dX4_rub_26 ⟨Nat.le_of_ble_eq_true rfl, Nat.le_of_ble_eq_true rfl⟩) hD hS hA (fun r_149 u_148 H locs hw hP hD hS => ?_)
        obtain ⟨⟨k_150, rfl⟩ | ⟨k_150, rfl⟩, hI⟩ := hw
        · have fb_151 : fb 1149239296 a := fb_within hc_146 hc_147 (by decide) k_150
          refine lv_if_eq (tgt := 47) hx hb dX4_rub_29 (by decide) (fun h9 => by first | exact absurd h9 (by decide) | exact absurd (by decide) h9) (fun _ => ?_)
          refine lv_fload hx hb dX4_rub_32 (lv_at hl 6 rfl) ?_
          refine lv_fconst0 hx hb dX4_rub_34 ?_
          refine lv_ldcf (v := 1090519040) hx hb hown (hts (.constantFloat RX4 150 (1090519040)) (by decide +kernel)) dX4_rub_35 ?_
          have hc_152 : fb 1090519040 1090519040 := by unfold fb; decide +kernel
          refine kd_calli (va_runS (As := [.float b, .float FP.fconst0, .float 1090519040]) (rest := []) ⟨hx, hb, hml, hown, hts⟩ (k_within l dC dI dA ad _ τ pv _ _ hI b FP.fconst0 1090519040) (va_cwS 3 hts gX4_rub_X4_within rfl rfl rfl (by decide +kernel) ⟨Nat.le_of_ble_eq_true rfl, Nat.le_of_ble_eq_true rfl⟩) (kd_preS hP hD hK hS hA hE) rfl rfl hl.1 rfl (lv_room (Nat.le_of_ble_eq_true rfl)) dX4_rub_37 ⟨Nat.le_of_ble_eq_true rfl, Nat.le_of_ble_eq_true rfl⟩) hD hS hA (fun r_154 u_153 H locs hw hP hD hS => ?_)
          obtain ⟨⟨k_155, rfl⟩ | ⟨k_155, rfl⟩, hI⟩ := hw
          · have fb_156 : fb 1090519040 b := fb_within (fb_le kc_0 (by decide)) hc_152 (by decide) k_155
            refine lv_if_eq (tgt := 47) hx hb dX4_rub_40 (by decide) (fun h9 => by first | exact absurd h9 (by decide) | exact absurd (by decide) h9) (fun _ => ?_)
            refine lv_iconst (v := 1) hx hb dX4_rub_43 (by decide) ?_
            refine lv_goto (tgt := 48) hx hb dX4_rub_44 (by decide) ?_
            refine lv_istore (lv' := [(8, .int 1), (7, .int 0), (0, .ref mm), (1, .int n), (2, .int k), (3, .float a), (4, .int at9), (5, .float b), (6, .int ky)]) hx hb dX4_rub_48 hl (by decide) rfl (fun ls hl => ?_)
            refine lv_iload hx hb dX4_rub_50 (lv_at hl 0 rfl) ?_
            refine lv_if_eq (tgt := 96) hx hb dX4_rub_52 (by decide) (fun h9 => by first | exact absurd h9 (by decide) | exact absurd (by decide) h9) (fun _ => ?_)
            refine lv_iload hx hb dX4_rub_55 (lv_at hl 1 rfl) ?_
            refine lv_if_eq (tgt := 96) hx hb dX4_rub_57 (by decide) (fun _ => ?_) (fun h9 => by first | exact absurd h9 (by decide) | exact absurd (by decide) h9)
            refine lv_iconst (v := 0) hx hb dX4_rub_96 (by decide) ?_
            refine lv_istore (lv' := [(8, .int 0), (7, .int 0), (0, .ref mm), (1, .int n), (2, .int k), (3, .float a), (4, .int at9), (5, .float b), (6, .int ky)]) hx hb dX4_rub_97 hl (by decide) rfl (fun ls hl => ?_)
            have hl : lv_has ls 9 [(0, .ref mm), (1, .int n), (2, .int k), (3, .float a), (4, .int at9), (5, .float b), (6, .int ky), (7, .int 0), (8, .int 0)] := lv_sub hl [2, 3, 4, 5, 6, 7, 8, 1, 0] rfl
            exact cut99 (fun _ _ => .null) _ _ _ _ _ ⟨0, 0, hI, hP, hD, hS, hl, Or.inl ⟨rfl, kKn_f (Or.inr c_145)⟩, Or.inl ⟨rfl, fun h9 => absurd h9 (by decide)⟩⟩
          · refine lv_if_eq (tgt := 47) hx hb dX4_rub_40 (by decide) (fun _ => ?_) (fun h9 => by first | exact absurd h9 (by decide) | exact absurd (by decide) h9)
            refine lv_iconst (v := 0) hx hb dX4_rub_47 (by decide) ?_
            refine lv_istore (lv' := [(8, .int 0), (7, .int 0), (0, .ref mm), (1, .int n), (2, .int k), (3, .float a), (4, .int at9), (5, .float b), (6, .int ky)]) hx hb dX4_rub_48 hl (by decide) rfl (fun ls hl => ?_)
            refine lv_iload hx hb dX4_rub_50 (lv_at hl 0 rfl) ?_
            refine lv_if_eq (tgt := 96) hx hb dX4_rub_52 (by decide) (fun _ => ?_) (fun h9 => by first | exact absurd h9 (by decide) | exact absurd (by decide) h9)
            refine lv_iconst (v := 0) hx hb dX4_rub_96 (by decide) ?_
            refine lv_istore (lv' := [(8, .int 0), (7, .int 0), (0, .ref mm), (1, .int n), (2, .int k), (3, .float a), (4, .int at9), (5, .float b), (6, .int ky)]) hx hb dX4_rub_97 hl (by decide) rfl (fun ls hl => ?_)
            have hl : lv_has ls 9 [(0, .ref mm), (1, .int n), (2, .int k), (3, .float a), (4, .int at9), (5, .float b), (6, .int ky), (7, .int 0), (8, .int 0)] := lv_sub hl [2, 3, 4, 5, 6, 7, 8, 1, 0] rfl
            exact cut99 (fun _ _ => .null) _ _ _ _ _ ⟨0, 0, hI, hP, hD, hS, hl, Or.inl ⟨rfl, kKn_f (Or.inr c_145)⟩, Or.inl ⟨rfl, fun h9 => absurd h9 (by decide)⟩⟩
        · refine lv_if_eq (tgt := 47) hx hb dX4_rub_29 (by decide) (fun _ => ?_) (fun h9 => by first | exact absurd h9 (by decide) | exact absurd (by decide) h9)
          refine lv_iconst (v := 0) hx hb dX4_rub_47 (by decide) ?_
          refine lv_istore (lv' := [(8, .int 0), (7, .int 0), (0, .ref mm), (1, .int n), (2, .int k), (3, .float a), (4, .int at9), (5, .float b), (6, .int ky)]) hx hb dX4_rub_48 hl (by decide) rfl (fun ls hl => ?_)
          refine lv_iload hx hb dX4_rub_50 (lv_at hl 0 rfl) ?_
          refine lv_if_eq (tgt := 96) hx hb dX4_rub_52 (by decide) (fun _ => ?_) (fun h9 => by first | exact absurd h9 (by decide) | exact absurd (by decide) h9)
          refine lv_iconst (v := 0) hx hb dX4_rub_96 (by decide) ?_
          refine lv_istore (lv' := [(8, .int 0), (7, .int 0), (0, .ref mm), (1, .int n), (2, .int k), (3, .float a), (4, .int at9), (5, .float b), (6, .int ky)]) hx hb dX4_rub_97 hl (by decide) rfl (fun ls hl => ?_)
          have hl : lv_has ls 9 [(0, .ref mm), (1, .int n), (2, .int k), (3, .float a), (4, .int at9), (5, .float b), (6, .int ky), (7, .int 0), (8, .int 0)] := lv_sub hl [2, 3, 4, 5, 6, 7, 8, 1, 0] rfl
          exact cut99 (fun _ _ => .null) _ _ _ _ _ ⟨0, 0, hI, hP, hD, hS, hl, Or.inl ⟨rfl, kKn_f (Or.inr c_145)⟩, Or.inl ⟨rfl, fun h9 => absurd h9 (by decide)⟩⟩
      · obtain ⟨j_157, hj_157, rfl⟩ := kz_is (n := mr) c_131 c_145 (by omega)
        refine lv_iconst (v := 1) hx hb dX4_rub_14 (by decide) ?_
        refine lv_goto (tgt := 19) hx hb dX4_rub_15 (by decide) ?_
        refine lv_istore (lv' := [(7, .int 1), (0, .ref mm), (1, .int n), (2, .int k), (3, .float a), (4, .int (nI j_157)), (5, .float b), (6, .int ky)]) hx hb dX4_rub_19 hl (by decide) rfl (fun ls hl => ?_)
        refine lv_fload_n hx hb dX4_rub_21 rfl (lv_at hl 4 rfl) ?_
        refine lv_ldcf (v := 3296722944) hx hb hown (hts (.constantFloat RX4 115 (3296722944)) (by decide +kernel)) dX4_rub_22 ?_
        have hc_158 : fb 1149239296 3296722944 := by unfold fb; decide +kernel
        refine lv_ldcf (v := 1149239296) hx hb hown (hts (.constantFloat RX4 116 (1149239296)) (by decide +kernel)) dX4_rub_24 ?_
        have hc_159 : fb 1149239296 1149239296 := by unfold fb; decide +kernel
        refine kd_calli (va_runS (As := [.float a, .float 3296722944, .float 1149239296]) (rest := []) ⟨hx, hb, hml, hown, hts⟩ (k_within l dC dI dA ad _ τ pv _ _ hI a 3296722944 1149239296) (va_cwS 3 hts gX4_rub_X4_within rfl rfl rfl (by decide +kernel) ⟨Nat.le_of_ble_eq_true rfl, Nat.le_of_ble_eq_true rfl⟩) (kd_preS hP hD hK hS hA hE) rfl rfl hl.1 rfl (lv_room (Nat.le_of_ble_eq_true rfl)) dX4_rub_26 ⟨Nat.le_of_ble_eq_true rfl, Nat.le_of_ble_eq_true rfl⟩) hD hS hA (fun r_161 u_160 H locs hw hP hD hS => ?_)
        obtain ⟨⟨k_162, rfl⟩ | ⟨k_162, rfl⟩, hI⟩ := hw
        · have fb_163 : fb 1149239296 a := fb_within hc_158 hc_159 (by decide) k_162
          refine lv_if_eq (tgt := 47) hx hb dX4_rub_29 (by decide) (fun h9 => by first | exact absurd h9 (by decide) | exact absurd (by decide) h9) (fun _ => ?_)
          refine lv_fload hx hb dX4_rub_32 (lv_at hl 6 rfl) ?_
          refine lv_fconst0 hx hb dX4_rub_34 ?_
          refine lv_ldcf (v := 1090519040) hx hb hown (hts (.constantFloat RX4 150 (1090519040)) (by decide +kernel)) dX4_rub_35 ?_
          have hc_164 : fb 1090519040 1090519040 := by unfold fb; decide +kernel
          refine kd_calli (va_runS (As := [.float b, .float FP.fconst0, .float 1090519040]) (rest := []) ⟨hx, hb, hml, hown, hts⟩ (k_within l dC dI dA ad _ τ pv _ _ hI b FP.fconst0 1090519040) (va_cwS 3 hts gX4_rub_X4_within rfl rfl rfl (by decide +kernel) ⟨Nat.le_of_ble_eq_true rfl, Nat.le_of_ble_eq_true rfl⟩) (kd_preS hP hD hK hS hA hE) rfl rfl hl.1 rfl (lv_room (Nat.le_of_ble_eq_true rfl)) dX4_rub_37 ⟨Nat.le_of_ble_eq_true rfl, Nat.le_of_ble_eq_true rfl⟩) hD hS hA (fun r_166 u_165 H locs hw hP hD hS => ?_)
          obtain ⟨⟨k_167, rfl⟩ | ⟨k_167, rfl⟩, hI⟩ := hw
          · have fb_168 : fb 1090519040 b := fb_within (fb_le kc_0 (by decide)) hc_164 (by decide) k_167
            refine lv_if_eq (tgt := 47) hx hb dX4_rub_40 (by decide) (fun h9 => by first | exact absurd h9 (by decide) | exact absurd (by decide) h9) (fun _ => ?_)
            refine lv_iconst (v := 1) hx hb dX4_rub_43 (by decide) ?_
            refine lv_goto (tgt := 48) hx hb dX4_rub_44 (by decide) ?_
            refine lv_istore (lv' := [(8, .int 1), (7, .int 1), (0, .ref mm), (1, .int n), (2, .int k), (3, .float a), (4, .int (nI j_157)), (5, .float b), (6, .int ky)]) hx hb dX4_rub_48 hl (by decide) rfl (fun ls hl => ?_)
            refine lv_iload hx hb dX4_rub_50 (lv_at hl 0 rfl) ?_
            refine lv_if_eq (tgt := 96) hx hb dX4_rub_52 (by decide) (fun h9 => by first | exact absurd h9 (by decide) | exact absurd (by decide) h9) (fun _ => ?_)
            refine lv_iload hx hb dX4_rub_55 (lv_at hl 1 rfl) ?_
            refine lv_if_eq (tgt := 96) hx hb dX4_rub_57 (by decide) (fun h9 => by first | exact absurd h9 (by decide) | exact absurd (by decide) h9) (fun _ => ?_)
            refine lv_aload_n hx hb dX4_rub_60 rfl (lv_at hl 2 rfl) ?_
            refine kp_get hx hb hts i_X4 hown hK hP hI hW.tm rfl rfl 15 (by decide) (by decide) (hts (.fieldLink RX4 48 "IslandSolverModel" "ats" "[I") (by decide +kernel)) (fun _ h9 => h9) dX4_rub_61 (kq_P (v0 := .ref aa) rfl hW.p15 fun h_170 => ?_)
            refine lv_iload hx hb dX4_rub_64 (lv_at hl 6 rfl) ?_
            have hj_171 : j_157 < τ 3 aa := by rw [show τ 3 aa = 1024 from (hI.arr hW.ta rfl).2.1]; omega
            refine W.eq (g2 := F0 m 66 ls (.int (nI (j_157)) :: .ref aa :: [])) rfl ?_
            obtain ⟨ra174, rb174, rt174, ja174, la174, jb174, lb174, jt174, lt174, kt174⟩ := hW.rw (r := j_157) (by omega)
            rcases rt174 with _ | rt174_2
            · refine kp_iald (j := j_157) hx hb hK hP hI hW.ta rfl hj_171 dX4_rub_66 (ka_P (x0 := (-1)) rfl jt174 ?_)
              refine lv_if_ge (tgt := 96) hx hb dX4_rub_67 (by decide) (fun h9 => by first | exact absurd h9 (by decide) | exact absurd (by decide) h9) (fun _ => ?_)
              refine lv_aload_n hx hb dX4_rub_70 rfl (lv_at hl 2 rfl) ?_
              refine kp_get hx hb hts i_X4 hown hK hP hI hW.tm rfl rfl 7 (by decide) (by decide) (hts (.fieldLink RX4 24 "IslandSolverModel" "firsts" "[I") (by decide +kernel)) (fun _ h9 => h9) dX4_rub_71 (kq_P (v0 := .ref fa) rfl hW.p7 fun h_176 => ?_)
              refine lv_iload hx hb dX4_rub_74 (lv_at hl 6 rfl) ?_
              have hj_177 : j_157 < τ 3 fa := by rw [show τ 3 fa = 1024 from (hI.arr hW.tf rfl).2.1]; omega
              refine W.eq (g2 := F0 m 76 ls (.int (nI (j_157)) :: .ref fa :: [])) rfl ?_
              refine kp_iald (j := j_157) hx hb hK hP hI hW.tf rfl hj_177 dX4_rub_76 (ka_P (x0 := nI ra174) rfl ja174 ?_)
              refine lv_iload_n hx hb dX4_rub_77 rfl (lv_at hl 3 rfl) ?_
              refine lv_icmp_ne (tgt := 96) hx hb dX4_rub_78 (by decide) (fun c_180 => ?_) (fun c_180 => ?_)
              · refine lv_iconst (v := 0) hx hb dX4_rub_96 (by decide) ?_
                refine lv_istore (lv' := [(8, .int 0), (7, .int 1), (0, .ref mm), (1, .int n), (2, .int k), (3, .float a), (4, .int (nI j_157)), (5, .float b), (6, .int ky)]) hx hb dX4_rub_97 hl (by decide) rfl (fun ls hl => ?_)
                have hl : lv_has ls 9 [(0, .ref mm), (1, .int n), (2, .int k), (3, .float a), (4, .int (nI j_157)), (5, .float b), (6, .int ky), (7, .int 1), (8, .int 0)] := lv_sub hl [2, 3, 4, 5, 6, 7, 8, 1, 0] rfl
                exact cut99 (fun _ _ => .null) _ _ _ _ _ ⟨1, 0, hI, hP, hD, hS, hl, Or.inr ⟨rfl, kKn_t (by omega) (by omega)⟩, Or.inl ⟨rfl, fun h9 => (by simp only [kFitRub, hg9.trans (kGm_ff hnr (by omega) ja174 c_180), c_131, (Int32.not_le.mp c_145), k_162, k_167, decide_true, decide_false, Bool.not_true, Bool.not_false, Bool.and_true, Bool.true_and, Bool.and_false, Bool.false_and, Bool.and_self, Bool.false_eq_true, if_true, if_false, ite_true, ite_false, reduceIte] <;> decide)⟩⟩
              · refine lv_aload_n hx hb dX4_rub_81 rfl (lv_at hl 2 rfl) ?_
                refine kp_get hx hb hts i_X4 hown hK hP hI hW.tm rfl rfl 8 (by decide) (by decide) (hts (.fieldLink RX4 27 "IslandSolverModel" "seconds" "[I") (by decide +kernel)) (fun _ h9 => h9) dX4_rub_82 (kq_P (v0 := .ref sa) rfl hW.p8 fun h_182 => ?_)
                refine lv_iload hx hb dX4_rub_85 (lv_at hl 6 rfl) ?_
                have hj_183 : j_157 < τ 3 sa := by rw [show τ 3 sa = 1024 from (hI.arr hW.ts rfl).2.1]; omega
                refine W.eq (g2 := F0 m 87 ls (.int (nI (j_157)) :: .ref sa :: [])) rfl ?_
                rcases rb174 with _ | rb174_2
                · refine kp_iald (j := j_157) hx hb hK hP hI hW.ts rfl hj_183 dX4_rub_87 (ka_P (x0 := (-1)) rfl jb174 ?_)
                  refine lv_iload_n hx hb dX4_rub_88 rfl (lv_at hl 4 rfl) ?_
                  refine lv_icmp_ne (tgt := 96) hx hb dX4_rub_89 (by decide) (fun c_186 => ?_) (fun c_186 => ?_)
                  · refine lv_iconst (v := 0) hx hb dX4_rub_96 (by decide) ?_
                    refine lv_istore (lv' := [(8, .int 0), (7, .int 1), (0, .ref mm), (1, .int n), (2, .int k), (3, .float a), (4, .int (nI j_157)), (5, .float b), (6, .int ky)]) hx hb dX4_rub_97 hl (by decide) rfl (fun ls hl => ?_)
                    have hl : lv_has ls 9 [(0, .ref mm), (1, .int n), (2, .int k), (3, .float a), (4, .int (nI j_157)), (5, .float b), (6, .int ky), (7, .int 1), (8, .int 0)] := lv_sub hl [2, 3, 4, 5, 6, 7, 8, 1, 0] rfl
                    exact cut99 (fun _ _ => .null) _ _ _ _ _ ⟨1, 0, hI, hP, hD, hS, hl, Or.inr ⟨rfl, kKn_t (by omega) (by omega)⟩, Or.inl ⟨rfl, fun h9 => (by simp only [kFitRub, hg9.trans (kGm_fs hnr (by omega) jb174 c_186), c_131, (Int32.not_le.mp c_145), k_162, k_167, decide_true, decide_false, Bool.not_true, Bool.not_false, Bool.and_true, Bool.true_and, Bool.and_false, Bool.false_and, Bool.and_self, Bool.false_eq_true, if_true, if_false, ite_true, ite_false, reduceIte] <;> decide)⟩⟩
                  · refine lv_iconst (v := 1) hx hb dX4_rub_92 (by decide) ?_
                    refine lv_goto (tgt := 97) hx hb dX4_rub_93 (by decide) ?_
                    refine lv_istore (lv' := [(8, .int 1), (7, .int 1), (0, .ref mm), (1, .int n), (2, .int k), (3, .float a), (4, .int (nI j_157)), (5, .float b), (6, .int ky)]) hx hb dX4_rub_97 hl (by decide) rfl (fun ls hl => ?_)
                    have hl : lv_has ls 9 [(0, .ref mm), (1, .int n), (2, .int k), (3, .float a), (4, .int (nI j_157)), (5, .float b), (6, .int ky), (7, .int 1), (8, .int 1)] := lv_sub hl [2, 3, 4, 5, 6, 7, 8, 1, 0] rfl
                    exact cut99 (fun _ _ => .null) _ _ _ _ _ ⟨1, 1, hI, hP, hD, hS, hl, Or.inr ⟨rfl, kKn_t (by omega) (by omega)⟩, Or.inr ⟨rfl, rfl, (by simp only [kFitRub, hg9.trans (kGm_tt (by omega) ja174 jb174 jt174 c_180 c_186), c_131, (Int32.not_le.mp c_145), k_162, k_167, decide_true, decide_false, Bool.not_true, Bool.not_false, Bool.and_true, Bool.true_and, Bool.and_false, Bool.false_and, Bool.and_self, Bool.false_eq_true, if_true, if_false, ite_true, ite_false, reduceIte] <;> decide), fb_163, fb_168, j_157, by omega, rfl, jt174⟩⟩
                · refine kp_iald (j := j_157) hx hb hK hP hI hW.ts rfl hj_183 dX4_rub_87 (ka_P (x0 := (nI rb174_2)) rfl jb174 ?_)
                  refine lv_iload_n hx hb dX4_rub_88 rfl (lv_at hl 4 rfl) ?_
                  refine lv_icmp_ne (tgt := 96) hx hb dX4_rub_89 (by decide) (fun c_187 => ?_) (fun c_187 => ?_)
                  · refine lv_iconst (v := 0) hx hb dX4_rub_96 (by decide) ?_
                    refine lv_istore (lv' := [(8, .int 0), (7, .int 1), (0, .ref mm), (1, .int n), (2, .int k), (3, .float a), (4, .int (nI j_157)), (5, .float b), (6, .int ky)]) hx hb dX4_rub_97 hl (by decide) rfl (fun ls hl => ?_)
                    have hl : lv_has ls 9 [(0, .ref mm), (1, .int n), (2, .int k), (3, .float a), (4, .int (nI j_157)), (5, .float b), (6, .int ky), (7, .int 1), (8, .int 0)] := lv_sub hl [2, 3, 4, 5, 6, 7, 8, 1, 0] rfl
                    exact cut99 (fun _ _ => .null) _ _ _ _ _ ⟨1, 0, hI, hP, hD, hS, hl, Or.inr ⟨rfl, kKn_t (by omega) (by omega)⟩, Or.inl ⟨rfl, fun h9 => (by simp only [kFitRub, hg9.trans (kGm_fs hnr (by omega) jb174 c_187), c_131, (Int32.not_le.mp c_145), k_162, k_167, decide_true, decide_false, Bool.not_true, Bool.not_false, Bool.and_true, Bool.true_and, Bool.and_false, Bool.false_and, Bool.and_self, Bool.false_eq_true, if_true, if_false, ite_true, ite_false, reduceIte] <;> decide)⟩⟩
                  · refine lv_iconst (v := 1) hx hb dX4_rub_92 (by decide) ?_
                    refine lv_goto (tgt := 97) hx hb dX4_rub_93 (by decide) ?_
                    refine lv_istore (lv' := [(8, .int 1), (7, .int 1), (0, .ref mm), (1, .int n), (2, .int k), (3, .float a), (4, .int (nI j_157)), (5, .float b), (6, .int ky)]) hx hb dX4_rub_97 hl (by decide) rfl (fun ls hl => ?_)
                    have hl : lv_has ls 9 [(0, .ref mm), (1, .int n), (2, .int k), (3, .float a), (4, .int (nI j_157)), (5, .float b), (6, .int ky), (7, .int 1), (8, .int 1)] := lv_sub hl [2, 3, 4, 5, 6, 7, 8, 1, 0] rfl
                    exact cut99 (fun _ _ => .null) _ _ _ _ _ ⟨1, 1, hI, hP, hD, hS, hl, Or.inr ⟨rfl, kKn_t (by omega) (by omega)⟩, Or.inr ⟨rfl, rfl, (by simp only [kFitRub, hg9.trans (kGm_tt (by omega) ja174 jb174 jt174 c_180 c_187), c_131, (Int32.not_le.mp c_145), k_162, k_167, decide_true, decide_false, Bool.not_true, Bool.not_false, Bool.and_true, Bool.true_and, Bool.and_false, Bool.false_and, Bool.and_self, Bool.false_eq_true, if_true, if_false, ite_true, ite_false, reduceIte] <;> decide), fb_163, fb_168, j_157, by omega, rfl, jt174⟩⟩
            · refine kp_iald (j := j_157) hx hb hK hP hI hW.ta rfl hj_171 dX4_rub_66 (ka_P (x0 := (nI rt174_2)) rfl jt174 ?_)
              have ka174 := kt174 rt174_2 rfl
              refine lv_if_ge (tgt := 96) hx hb dX4_rub_67 (by decide) (fun _ => ?_) (fun h9 => absurd (nI_pos' (n := rt174_2) (by omega)) h9)
              refine lv_iconst (v := 0) hx hb dX4_rub_96 (by decide) ?_
              refine lv_istore (lv' := [(8, .int 0), (7, .int 1), (0, .ref mm), (1, .int n), (2, .int k), (3, .float a), (4, .int (nI j_157)), (5, .float b), (6, .int ky)]) hx hb dX4_rub_97 hl (by decide) rfl (fun ls hl => ?_)
              have hl : lv_has ls 9 [(0, .ref mm), (1, .int n), (2, .int k), (3, .float a), (4, .int (nI j_157)), (5, .float b), (6, .int ky), (7, .int 1), (8, .int 0)] := lv_sub hl [2, 3, 4, 5, 6, 7, 8, 1, 0] rfl
              exact cut99 (fun _ _ => .null) _ _ _ _ _ ⟨1, 0, hI, hP, hD, hS, hl, Or.inr ⟨rfl, kKn_t (by omega) (by omega)⟩, Or.inl ⟨rfl, fun h9 => (by simp only [kFitRub, hg9.trans (kGm_fa hnr (by omega) jt174 (fun h9 => nI_pos (n := rt174_2) (by omega) (by rw [show nI rt174_2 = -1 from h9]; decide))), c_131, (Int32.not_le.mp c_145), k_162, k_167, decide_true, decide_false, Bool.not_true, Bool.not_false, Bool.and_true, Bool.true_and, Bool.and_false, Bool.false_and, Bool.and_self, Bool.false_eq_true, if_true, if_false, ite_true, ite_false, reduceIte] <;> decide)⟩⟩
          · refine lv_if_eq (tgt := 47) hx hb dX4_rub_40 (by decide) (fun _ => ?_) (fun h9 => by first | exact absurd h9 (by decide) | exact absurd (by decide) h9)
            refine lv_iconst (v := 0) hx hb dX4_rub_47 (by decide) ?_
            refine lv_istore (lv' := [(8, .int 0), (7, .int 1), (0, .ref mm), (1, .int n), (2, .int k), (3, .float a), (4, .int (nI j_157)), (5, .float b), (6, .int ky)]) hx hb dX4_rub_48 hl (by decide) rfl (fun ls hl => ?_)
            refine lv_iload hx hb dX4_rub_50 (lv_at hl 0 rfl) ?_
            refine lv_if_eq (tgt := 96) hx hb dX4_rub_52 (by decide) (fun _ => ?_) (fun h9 => by first | exact absurd h9 (by decide) | exact absurd (by decide) h9)
            refine lv_iconst (v := 0) hx hb dX4_rub_96 (by decide) ?_
            refine lv_istore (lv' := [(8, .int 0), (7, .int 1), (0, .ref mm), (1, .int n), (2, .int k), (3, .float a), (4, .int (nI j_157)), (5, .float b), (6, .int ky)]) hx hb dX4_rub_97 hl (by decide) rfl (fun ls hl => ?_)
            have hl : lv_has ls 9 [(0, .ref mm), (1, .int n), (2, .int k), (3, .float a), (4, .int (nI j_157)), (5, .float b), (6, .int ky), (7, .int 1), (8, .int 0)] := lv_sub hl [2, 3, 4, 5, 6, 7, 8, 1, 0] rfl
            exact cut99 (fun _ _ => .null) _ _ _ _ _ ⟨1, 0, hI, hP, hD, hS, hl, Or.inr ⟨rfl, kKn_t (by omega) (by omega)⟩, Or.inl ⟨rfl, fun h9 => (by simp only [kFitRub, c_131, (Int32.not_le.mp c_145), k_162, k_167, decide_true, decide_false, Bool.not_true, Bool.not_false, Bool.and_true, Bool.true_and, Bool.and_false, Bool.false_and, Bool.and_self, Bool.false_eq_true, if_true, if_false, ite_true, ite_false, reduceIte] <;> decide)⟩⟩
        · refine lv_if_eq (tgt := 47) hx hb dX4_rub_29 (by decide) (fun _ => ?_) (fun h9 => by first | exact absurd h9 (by decide) | exact absurd (by decide) h9)
          refine lv_iconst (v := 0) hx hb dX4_rub_47 (by decide) ?_
          refine lv_istore (lv' := [(8, .int 0), (7, .int 1), (0, .ref mm), (1, .int n), (2, .int k), (3, .float a), (4, .int (nI j_157)), (5, .float b), (6, .int ky)]) hx hb dX4_rub_48 hl (by decide) rfl (fun ls hl => ?_)
          refine lv_iload hx hb dX4_rub_50 (lv_at hl 0 rfl) ?_
          refine lv_if_eq (tgt := 96) hx hb dX4_rub_52 (by decide) (fun _ => ?_) (fun h9 => by first | exact absurd h9 (by decide) | exact absurd (by decide) h9)
          refine lv_iconst (v := 0) hx hb dX4_rub_96 (by decide) ?_
          refine lv_istore (lv' := [(8, .int 0), (7, .int 1), (0, .ref mm), (1, .int n), (2, .int k), (3, .float a), (4, .int (nI j_157)), (5, .float b), (6, .int ky)]) hx hb dX4_rub_97 hl (by decide) rfl (fun ls hl => ?_)
          have hl : lv_has ls 9 [(0, .ref mm), (1, .int n), (2, .int k), (3, .float a), (4, .int (nI j_157)), (5, .float b), (6, .int ky), (7, .int 1), (8, .int 0)] := lv_sub hl [2, 3, 4, 5, 6, 7, 8, 1, 0] rfl
          exact cut99 (fun _ _ => .null) _ _ _ _ _ ⟨1, 0, hI, hP, hD, hS, hl, Or.inr ⟨rfl, kKn_t (by omega) (by omega)⟩, Or.inl ⟨rfl, fun h9 => (by simp only [kFitRub, c_131, (Int32.not_le.mp c_145), k_162, decide_true, decide_false, Bool.not_true, Bool.not_false, Bool.and_true, Bool.true_and, Bool.and_false, Bool.false_and, Bool.and_self, Bool.false_eq_true, if_true, if_false, ite_true, ite_false, reduceIte] <;> decide)⟩⟩
