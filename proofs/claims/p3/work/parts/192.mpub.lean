set_option maxHeartbeats 4000000 in
set_option maxRecDepth 100000 in
theorem m_p_rub (l : Launch) (dC : Nat → ClassId) (dI : Nat → Nat → Nat) (dA : Nat → ClassId) (ad sz : Nat) (τ : Nat → Nat → Nat) (pv : Nat → Nat → Value) (L : List Nat) (f : Nat → va_E) (hI : kI dA τ pv L f) (mm fa sa aa ia sf mb mr mk : Nat) (hW : kMd τ pv mm fa sa aa ia sf mb mr mk mr) (n k : Int32) (a : UInt32) (at9 : Int32) (b : UInt32) (ky : Int32) : Met l yX4_rub wsX4_rub ({ frames := 3, cells := 0, slots := 0, locals := 71 } : Room) (va_Pc [.ref mm, .int n, .int k, .float a, .int at9, .float b, .int ky] (kB dC dI dA ad sz L f)) (va_Qi (fun r u => kPostM dA τ pv mm fa sa aa ia sf mb u) (kR dC dI dA (va_A (va_pl L f) sz)) (va_A (va_pl L f) sz)) 0 0 (va_A (va_pl L f) sz) := by
  refine Met.ofW (cc := cX4_rub) (maxL := 9) (ret := (some .int)) (by decide) rfl ?_
  intro p e s m args below meth c s₁ B hml hv
  obtain ⟨rfl, hsz, hP, hK, hD0, hE⟩ := hv
  have hx := B.exec
  have hb := B.bytes
  have hr := B.returns
  have hts := atoms_spec (ws := wsX4_rub) B.pre
  have hown : s.vm.findClass RX4 = some m.cls := findClass_of_methodNamed B.named
  have hlocks := B.notSynchronized
  have i_X4 : ∀ w ∈ u_ws RX4 TX4 35, w ∈ wsX4_rub := by decide +kernel
  subst hsz
  have hD := hD0.self (sz := s.heap.size)
  generalize hAe : va_A (va_pl L f) s.heap.size = A at hD hE ⊢
  have hA : ∀ q : Nat, s.heap.size ≤ q → A q := fun q h => by rw [← hAe]; exact Or.inr h
  have hS : va_S A s.heap s.heap [] := va_S.rf
  have hP : va_P (dC, dI) vwCl (va_pl L f) s.heap := hP
  have hK : va_K (dC, dI) vwCl (tyA dA) s := hK
  have hl := lv_entry ([.ref mm, .int n, .int k, .float a, .int at9, .float b, .int ky]) (n := 9) (Nat.le_of_ble_eq_true rfl)
  rw [lg_entry_eq]
  generalize (lg_sl ([.ref mm, .int n, .int k, .float a, .int at9, .float b, .int ky]) ++ List.replicate (9 - (lg_sl ([.ref mm, .int n, .int k, .float a, .int at9, .float b, .int ky])).length) Slot.unset).toArray = ls at hl ⊢
  have hl : lv_has ls 9 [(0, .ref mm), (1, .int n), (2, .int k), (3, .float a), (4, .int at9), (5, .float b), (6, .int ky)] := hl
  have hnb := hW.lb
  have hnr := hW.lr
  have hnk := hW.lk
  have hni := hW.li
  have hF : kFr kPx τ pv τ pv := kFr.rf
  refine kl_cut (P := 99) (Inv := fun _ L f H locs ls => ∃ (z7 : Int32) (z8 : Int32), kI dA τ pv L f ∧ va_P (dC, dI) vwCl (va_pl L f) H ∧ va_D A (va_pl L f) ∧ va_S A s.heap H locs ∧ lv_has ls 9 [(0, .ref mm), (1, .int n), (2, .int k), (3, .float a), (4, .int at9), (5, .float b), (6, .int ky), (7, .int z7), (8, .int z8)] ∧ (z7 = 0 ∨ z7 = 1) ∧ (z8 = 0 ∨ (z8 = 1 ∧ z7 = 1 ∧ fb 1149239296 a ∧ fb 1090519040 b ∧ ∃ j, j < mr ∧ at9 = nI j ∧ pv aa j = .int (-1)))) (fun _ L f H locs ls h9 => ?_) (fun cut99 => ?_)
  · obtain ⟨z7, z8, hI, hP, hD, hS, hl, hz7, hz8⟩ := h9
    rcases hz8 with rfl | ⟨rfl, rfl, hfa, hfb, j9, hj9, rfl, hp9⟩
    · rcases hz7 with rfl | rfl
      · refine lv_aload_n hx hb dX4_rub_99 rfl (lv_at hl 0 rfl) ?_
        refine lv_aload_n hx hb dX4_rub_100 rfl (lv_at hl 0 rfl) ?_
        refine lv_iload_n hx hb dX4_rub_101 rfl (lv_at hl 1 rfl) ?_
        refine lv_iload_n hx hb dX4_rub_102 rfl (lv_at hl 2 rfl) ?_
        refine kd_calli (va_runV (As := [.int n, .int k]) (rest := [.ref mm]) ⟨hx, hb, hml, hown, hts⟩ (k_pair l dC dI dA ad _ τ pv _ _ hI mm fa sa aa ia sf mb mr mk mr hW n k) (cwV 2 hts gX4_rub_X4_pair rfl rfl rfl (by decide +kernel) ⟨Nat.le_of_ble_eq_true rfl, Nat.le_of_ble_eq_true rfl⟩) (kd_preV hP hD hK hS hA hE hI hW.tm rfl rfl) rfl rfl hl.1 rfl (lv_room (Nat.le_of_ble_eq_true rfl)) dX4_rub_103 ⟨Nat.le_of_ble_eq_true rfl, Nat.le_of_ble_eq_true rfl⟩) hD hS hA (fun r_2 u_1 H locs hw hP hD hS => ?_)
        obtain ⟨⟨rfl, ⟨j_3, hj_3, rfl⟩, rfl | ⟨j_4, hj_4, rfl⟩⟩ | rfl, hI⟩ := hw
        · refine lv_if_eq (tgt := 118) hx hb dX4_rub_106 (by decide) (fun h9 => by first | exact absurd h9 (by decide) | exact absurd (by decide) h9) (fun _ => ?_)
          refine lv_iload hx hb dX4_rub_109 (lv_at hl 7 rfl) ?_
          refine lv_if_eq (tgt := 118) hx hb dX4_rub_111 (by decide) (fun _ => ?_) (fun h9 => by first | exact absurd h9 (by decide) | exact absurd (by decide) h9)
          refine lv_iconst (v := 0) hx hb dX4_rub_118 (by decide) ?_
          refine lv_iload hx hb dX4_rub_119 (lv_at hl 8 rfl) ?_
          refine lv_aload_n hx hb dX4_rub_121 rfl (lv_at hl 0 rfl) ?_
          refine kp_get hx hb hts i_X4 hown hK hP hI hW.tm rfl rfl 6 (by decide) (by decide) (hts (.fieldLink RX4 129 "IslandSolverModel" "rows" "I") (by decide +kernel)) (fun _ h9 => h9) dX4_rub_122 (kq_P (v0 := .int (nI mr)) rfl hW.p6 fun h_6 => ?_)
          refine lv_sipush (v := 1024) hx hb dX4_rub_125 (by decide) ?_
          refine lv_icmp_ge (tgt := 135) hx hb dX4_rub_128 (by decide) (fun c_7 => ?_) (fun c_7 => ?_)
          · have n_8 : 1024 ≤ mr := (nI_leI (by omega) (by omega)).mp (show nI 1024 ≤ nI mr from c_7)
            refine lv_iconst (v := 0) hx hb dX4_rub_135 (by decide) ?_
            refine kd_calli (va_runV (As := [.int 0, .int 0, .int 0]) (rest := []) ⟨hx, hb, hml, hown, hts⟩ (k_goes2 l dC dI dA ad _ τ pv _ _ hI mm fa sa aa ia sf mb mr mk mr hW 0 0) (cwV 3 hts gX4_rub_X4_goes rfl rfl rfl (by decide +kernel) ⟨Nat.le_of_ble_eq_true rfl, Nat.le_of_ble_eq_true rfl⟩) (kd_preV hP hD hK hS hA hE hI hW.tm rfl rfl) rfl rfl hl.1 rfl (lv_room (Nat.le_of_ble_eq_true rfl)) dX4_rub_136 ⟨Nat.le_of_ble_eq_true rfl, Nat.le_of_ble_eq_true rfl⟩) hD hS hA (fun r_10 u_9 H locs hw hP hD hS => ?_)
            obtain ⟨rfl, hI⟩ := hw
            have hF := hF.trans (kFr.up (P := kPx) (w := .int 1) (k := 0) hW.tm rfl)
            have hW := hW.frw (kFr.up (P := kPy mr) (w := .int 1) (k := 0) hW.tm rfl)
            refine lv_if_ne (tgt := 144) hx hb dX4_rub_139 (by decide) (fun h9 => by first | exact absurd h9 (by decide) | exact absurd (by decide) h9) (fun _ => ?_)
            refine lv_iconst (v := 0) hx hb dX4_rub_142 (by decide) ?_
            refine W.widen (k := 0) (n := 0) (Nat.le_of_ble_eq_true rfl) (Nat.le_of_ble_eq_true rfl) ?_
            exact W.iret (v := 0) hx hb hr (fun t ht hW9 => ⟨⟨0, (u_9.1, u_9.2), rfl, ⟨_, _, _, hF, hW, hI⟩, by rw [ht]; exact hP, va_K.moved hW9.alike hK, hD⟩, hS.F ht⟩) hS.2.2 dX4_rub_143
          · have n_11 : ¬ 1024 ≤ mr := fun h9 => (show ¬ nI 1024 ≤ nI mr from c_7) ((nI_leI (by omega) (by omega)).mpr h9)
            refine lv_iconst (v := 1) hx hb dX4_rub_131 (by decide) ?_
            refine lv_goto (tgt := 136) hx hb dX4_rub_132 (by decide) ?_
            refine kd_calli (va_runV (As := [.int 0, .int 0, .int 1]) (rest := []) ⟨hx, hb, hml, hown, hts⟩ (k_goes2 l dC dI dA ad _ τ pv _ _ hI mm fa sa aa ia sf mb mr mk mr hW 0 1) (cwV 3 hts gX4_rub_X4_goes rfl rfl rfl (by decide +kernel) ⟨Nat.le_of_ble_eq_true rfl, Nat.le_of_ble_eq_true rfl⟩) (kd_preV hP hD hK hS hA hE hI hW.tm rfl rfl) rfl rfl hl.1 rfl (lv_room (Nat.le_of_ble_eq_true rfl)) dX4_rub_136 ⟨Nat.le_of_ble_eq_true rfl, Nat.le_of_ble_eq_true rfl⟩) hD hS hA (fun r_13 u_12 H locs hw hP hD hS => ?_)
            obtain ⟨rfl, hI⟩ := hw
            have hF := hF.trans (kFr.up (P := kPx) (w := .int 1) (k := 0) hW.tm rfl)
            have hW := hW.frw (kFr.up (P := kPy mr) (w := .int 1) (k := 0) hW.tm rfl)
            refine lv_if_ne (tgt := 144) hx hb dX4_rub_139 (by decide) (fun h9 => by first | exact absurd h9 (by decide) | exact absurd (by decide) h9) (fun _ => ?_)
            refine lv_iconst (v := 0) hx hb dX4_rub_142 (by decide) ?_
            refine W.widen (k := 0) (n := 0) (Nat.le_of_ble_eq_true rfl) (Nat.le_of_ble_eq_true rfl) ?_
            exact W.iret (v := 0) hx hb hr (fun t ht hW9 => ⟨⟨0, (u_12.1, u_12.2), rfl, ⟨_, _, _, hF, hW, hI⟩, by rw [ht]; exact hP, va_K.moved hW9.alike hK, hD⟩, hS.F ht⟩) hS.2.2 dX4_rub_143
        · refine lv_if_eq (tgt := 118) hx hb dX4_rub_106 (by decide) (fun h9 => by first | exact absurd h9 (by decide) | exact absurd (by decide) h9) (fun _ => ?_)
          refine lv_iload hx hb dX4_rub_109 (lv_at hl 7 rfl) ?_
          refine lv_if_eq (tgt := 118) hx hb dX4_rub_111 (by decide) (fun _ => ?_) (fun h9 => by first | exact absurd h9 (by decide) | exact absurd (by decide) h9)
          refine lv_iconst (v := 0) hx hb dX4_rub_118 (by decide) ?_
          refine lv_iload hx hb dX4_rub_119 (lv_at hl 8 rfl) ?_
          refine lv_aload_n hx hb dX4_rub_121 rfl (lv_at hl 0 rfl) ?_
          refine kp_get hx hb hts i_X4 hown hK hP hI hW.tm rfl rfl 6 (by decide) (by decide) (hts (.fieldLink RX4 129 "IslandSolverModel" "rows" "I") (by decide +kernel)) (fun _ h9 => h9) dX4_rub_122 (kq_P (v0 := .int (nI mr)) rfl hW.p6 fun h_15 => ?_)
          refine lv_sipush (v := 1024) hx hb dX4_rub_125 (by decide) ?_
          refine lv_icmp_ge (tgt := 135) hx hb dX4_rub_128 (by decide) (fun c_16 => ?_) (fun c_16 => ?_)
          · have n_17 : 1024 ≤ mr := (nI_leI (by omega) (by omega)).mp (show nI 1024 ≤ nI mr from c_16)
            refine lv_iconst (v := 0) hx hb dX4_rub_135 (by decide) ?_
            refine kd_calli (va_runV (As := [.int 0, .int 0, .int 0]) (rest := []) ⟨hx, hb, hml, hown, hts⟩ (k_goes2 l dC dI dA ad _ τ pv _ _ hI mm fa sa aa ia sf mb mr mk mr hW 0 0) (cwV 3 hts gX4_rub_X4_goes rfl rfl rfl (by decide +kernel) ⟨Nat.le_of_ble_eq_true rfl, Nat.le_of_ble_eq_true rfl⟩) (kd_preV hP hD hK hS hA hE hI hW.tm rfl rfl) rfl rfl hl.1 rfl (lv_room (Nat.le_of_ble_eq_true rfl)) dX4_rub_136 ⟨Nat.le_of_ble_eq_true rfl, Nat.le_of_ble_eq_true rfl⟩) hD hS hA (fun r_19 u_18 H locs hw hP hD hS => ?_)
            obtain ⟨rfl, hI⟩ := hw
            have hF := hF.trans (kFr.up (P := kPx) (w := .int 1) (k := 0) hW.tm rfl)
            have hW := hW.frw (kFr.up (P := kPy mr) (w := .int 1) (k := 0) hW.tm rfl)
            refine lv_if_ne (tgt := 144) hx hb dX4_rub_139 (by decide) (fun h9 => by first | exact absurd h9 (by decide) | exact absurd (by decide) h9) (fun _ => ?_)
            refine lv_iconst (v := 0) hx hb dX4_rub_142 (by decide) ?_
            refine W.widen (k := 0) (n := 0) (Nat.le_of_ble_eq_true rfl) (Nat.le_of_ble_eq_true rfl) ?_
            exact W.iret (v := 0) hx hb hr (fun t ht hW9 => ⟨⟨0, (u_18.1, u_18.2), rfl, ⟨_, _, _, hF, hW, hI⟩, by rw [ht]; exact hP, va_K.moved hW9.alike hK, hD⟩, hS.F ht⟩) hS.2.2 dX4_rub_143
          · have n_20 : ¬ 1024 ≤ mr := fun h9 => (show ¬ nI 1024 ≤ nI mr from c_16) ((nI_leI (by omega) (by omega)).mpr h9)
            refine lv_iconst (v := 1) hx hb dX4_rub_131 (by decide) ?_
            refine lv_goto (tgt := 136) hx hb dX4_rub_132 (by decide) ?_
            refine kd_calli (va_runV (As := [.int 0, .int 0, .int 1]) (rest := []) ⟨hx, hb, hml, hown, hts⟩ (k_goes2 l dC dI dA ad _ τ pv _ _ hI mm fa sa aa ia sf mb mr mk mr hW 0 1) (cwV 3 hts gX4_rub_X4_goes rfl rfl rfl (by decide +kernel) ⟨Nat.le_of_ble_eq_true rfl, Nat.le_of_ble_eq_true rfl⟩) (kd_preV hP hD hK hS hA hE hI hW.tm rfl rfl) rfl rfl hl.1 rfl (lv_room (Nat.le_of_ble_eq_true rfl)) dX4_rub_136 ⟨Nat.le_of_ble_eq_true rfl, Nat.le_of_ble_eq_true rfl⟩) hD hS hA (fun r_22 u_21 H locs hw hP hD hS => ?_)
            obtain ⟨rfl, hI⟩ := hw
            have hF := hF.trans (kFr.up (P := kPx) (w := .int 1) (k := 0) hW.tm rfl)
            have hW := hW.frw (kFr.up (P := kPy mr) (w := .int 1) (k := 0) hW.tm rfl)
            refine lv_if_ne (tgt := 144) hx hb dX4_rub_139 (by decide) (fun h9 => by first | exact absurd h9 (by decide) | exact absurd (by decide) h9) (fun _ => ?_)
            refine lv_iconst (v := 0) hx hb dX4_rub_142 (by decide) ?_
            refine W.widen (k := 0) (n := 0) (Nat.le_of_ble_eq_true rfl) (Nat.le_of_ble_eq_true rfl) ?_
            exact W.iret (v := 0) hx hb hr (fun t ht hW9 => ⟨⟨0, (u_21.1, u_21.2), rfl, ⟨_, _, _, hF, hW, hI⟩, by rw [ht]; exact hP, va_K.moved hW9.alike hK, hD⟩, hS.F ht⟩) hS.2.2 dX4_rub_143
        · refine lv_if_eq (tgt := 118) hx hb dX4_rub_106 (by decide) (fun _ => ?_) (fun h9 => by first | exact absurd h9 (by decide) | exact absurd (by decide) h9)
          refine lv_iconst (v := 0) hx hb dX4_rub_118 (by decide) ?_
          refine lv_iload hx hb dX4_rub_119 (lv_at hl 8 rfl) ?_
          refine lv_aload_n hx hb dX4_rub_121 rfl (lv_at hl 0 rfl) ?_
          refine kp_get hx hb hts i_X4 hown hK hP hI hW.tm rfl rfl 6 (by decide) (by decide) (hts (.fieldLink RX4 129 "IslandSolverModel" "rows" "I") (by decide +kernel)) (fun _ h9 => h9) dX4_rub_122 (kq_P (v0 := .int (nI mr)) rfl hW.p6 fun h_24 => ?_)
          refine lv_sipush (v := 1024) hx hb dX4_rub_125 (by decide) ?_
          refine lv_icmp_ge (tgt := 135) hx hb dX4_rub_128 (by decide) (fun c_25 => ?_) (fun c_25 => ?_)
          · have n_26 : 1024 ≤ mr := (nI_leI (by omega) (by omega)).mp (show nI 1024 ≤ nI mr from c_25)
            refine lv_iconst (v := 0) hx hb dX4_rub_135 (by decide) ?_
            refine kd_calli (va_runV (As := [.int 0, .int 0, .int 0]) (rest := []) ⟨hx, hb, hml, hown, hts⟩ (k_goes2 l dC dI dA ad _ τ pv _ _ hI mm fa sa aa ia sf mb mr mk mr hW 0 0) (cwV 3 hts gX4_rub_X4_goes rfl rfl rfl (by decide +kernel) ⟨Nat.le_of_ble_eq_true rfl, Nat.le_of_ble_eq_true rfl⟩) (kd_preV hP hD hK hS hA hE hI hW.tm rfl rfl) rfl rfl hl.1 rfl (lv_room (Nat.le_of_ble_eq_true rfl)) dX4_rub_136 ⟨Nat.le_of_ble_eq_true rfl, Nat.le_of_ble_eq_true rfl⟩) hD hS hA (fun r_28 u_27 H locs hw hP hD hS => ?_)
            obtain ⟨rfl, hI⟩ := hw
            have hF := hF.trans (kFr.up (P := kPx) (w := .int 1) (k := 0) hW.tm rfl)
            have hW := hW.frw (kFr.up (P := kPy mr) (w := .int 1) (k := 0) hW.tm rfl)
            refine lv_if_ne (tgt := 144) hx hb dX4_rub_139 (by decide) (fun h9 => by first | exact absurd h9 (by decide) | exact absurd (by decide) h9) (fun _ => ?_)
            refine lv_iconst (v := 0) hx hb dX4_rub_142 (by decide) ?_
            refine W.widen (k := 0) (n := 0) (Nat.le_of_ble_eq_true rfl) (Nat.le_of_ble_eq_true rfl) ?_
            exact W.iret (v := 0) hx hb hr (fun t ht hW9 => ⟨⟨0, (u_27.1, u_27.2), rfl, ⟨_, _, _, hF, hW, hI⟩, by rw [ht]; exact hP, va_K.moved hW9.alike hK, hD⟩, hS.F ht⟩) hS.2.2 dX4_rub_143
          · have n_29 : ¬ 1024 ≤ mr := fun h9 => (show ¬ nI 1024 ≤ nI mr from c_25) ((nI_leI (by omega) (by omega)).mpr h9)
            refine lv_iconst (v := 1) hx hb dX4_rub_131 (by decide) ?_
            refine lv_goto (tgt := 136) hx hb dX4_rub_132 (by decide) ?_
            refine kd_calli (va_runV (As := [.int 0, .int 0, .int 1]) (rest := []) ⟨hx, hb, hml, hown, hts⟩ (k_goes2 l dC dI dA ad _ τ pv _ _ hI mm fa sa aa ia sf mb mr mk mr hW 0 1) (cwV 3 hts gX4_rub_X4_goes rfl rfl rfl (by decide +kernel) ⟨Nat.le_of_ble_eq_true rfl, Nat.le_of_ble_eq_true rfl⟩) (kd_preV hP hD hK hS hA hE hI hW.tm rfl rfl) rfl rfl hl.1 rfl (lv_room (Nat.le_of_ble_eq_true rfl)) dX4_rub_136 ⟨Nat.le_of_ble_eq_true rfl, Nat.le_of_ble_eq_true rfl⟩) hD hS hA (fun r_31 u_30 H locs hw hP hD hS => ?_)
            obtain ⟨rfl, hI⟩ := hw
            have hF := hF.trans (kFr.up (P := kPx) (w := .int 1) (k := 0) hW.tm rfl)
            have hW := hW.frw (kFr.up (P := kPy mr) (w := .int 1) (k := 0) hW.tm rfl)
            refine lv_if_ne (tgt := 144) hx hb dX4_rub_139 (by decide) (fun h9 => by first | exact absurd h9 (by decide) | exact absurd (by decide) h9) (fun _ => ?_)
            refine lv_iconst (v := 0) hx hb dX4_rub_142 (by decide) ?_
            refine W.widen (k := 0) (n := 0) (Nat.le_of_ble_eq_true rfl) (Nat.le_of_ble_eq_true rfl) ?_
            exact W.iret (v := 0) hx hb hr (fun t ht hW9 => ⟨⟨0, (u_30.1, u_30.2), rfl, ⟨_, _, _, hF, hW, hI⟩, by rw [ht]; exact hP, va_K.moved hW9.alike hK, hD⟩, hS.F ht⟩) hS.2.2 dX4_rub_143
      · refine lv_aload_n hx hb dX4_rub_99 rfl (lv_at hl 0 rfl) ?_
        refine lv_aload_n hx hb dX4_rub_100 rfl (lv_at hl 0 rfl) ?_
        refine lv_iload_n hx hb dX4_rub_101 rfl (lv_at hl 1 rfl) ?_
        refine lv_iload_n hx hb dX4_rub_102 rfl (lv_at hl 2 rfl) ?_
        refine kd_calli (va_runV (As := [.int n, .int k]) (rest := [.ref mm]) ⟨hx, hb, hml, hown, hts⟩ (k_pair l dC dI dA ad _ τ pv _ _ hI mm fa sa aa ia sf mb mr mk mr hW n k) (cwV 2 hts gX4_rub_X4_pair rfl rfl rfl (by decide +kernel) ⟨Nat.le_of_ble_eq_true rfl, Nat.le_of_ble_eq_true rfl⟩) (kd_preV hP hD hK hS hA hE hI hW.tm rfl rfl) rfl rfl hl.1 rfl (lv_room (Nat.le_of_ble_eq_true rfl)) dX4_rub_103 ⟨Nat.le_of_ble_eq_true rfl, Nat.le_of_ble_eq_true rfl⟩) hD hS hA (fun r_33 u_32 H locs hw hP hD hS => ?_)
        obtain ⟨⟨rfl, ⟨j_34, hj_34, rfl⟩, rfl | ⟨j_35, hj_35, rfl⟩⟩ | rfl, hI⟩ := hw
        · refine lv_if_eq (tgt := 118) hx hb dX4_rub_106 (by decide) (fun h9 => by first | exact absurd h9 (by decide) | exact absurd (by decide) h9) (fun _ => ?_)
          refine lv_iload hx hb dX4_rub_109 (lv_at hl 7 rfl) ?_
          refine lv_if_eq (tgt := 118) hx hb dX4_rub_111 (by decide) (fun h9 => by first | exact absurd h9 (by decide) | exact absurd (by decide) h9) (fun _ => ?_)
          refine lv_iconst (v := 1) hx hb dX4_rub_114 (by decide) ?_
          refine lv_goto (tgt := 119) hx hb dX4_rub_115 (by decide) ?_
          refine lv_iload hx hb dX4_rub_119 (lv_at hl 8 rfl) ?_
          refine lv_aload_n hx hb dX4_rub_121 rfl (lv_at hl 0 rfl) ?_
          refine kp_get hx hb hts i_X4 hown hK hP hI hW.tm rfl rfl 6 (by decide) (by decide) (hts (.fieldLink RX4 129 "IslandSolverModel" "rows" "I") (by decide +kernel)) (fun _ h9 => h9) dX4_rub_122 (kq_P (v0 := .int (nI mr)) rfl hW.p6 fun h_37 => ?_)
          refine lv_sipush (v := 1024) hx hb dX4_rub_125 (by decide) ?_
          refine lv_icmp_ge (tgt := 135) hx hb dX4_rub_128 (by decide) (fun c_38 => ?_) (fun c_38 => ?_)
          · have n_39 : 1024 ≤ mr := (nI_leI (by omega) (by omega)).mp (show nI 1024 ≤ nI mr from c_38)
            refine lv_iconst (v := 0) hx hb dX4_rub_135 (by decide) ?_
            refine kd_calli (va_runV (As := [.int 1, .int 0, .int 0]) (rest := []) ⟨hx, hb, hml, hown, hts⟩ (k_goes3 l dC dI dA ad _ τ pv _ _ hI mm fa sa aa ia sf mb mr mk mr hW 0) (cwV 3 hts gX4_rub_X4_goes rfl rfl rfl (by decide +kernel) ⟨Nat.le_of_ble_eq_true rfl, Nat.le_of_ble_eq_true rfl⟩) (kd_preV hP hD hK hS hA hE hI hW.tm rfl rfl) rfl rfl hl.1 rfl (lv_room (Nat.le_of_ble_eq_true rfl)) dX4_rub_136 ⟨Nat.le_of_ble_eq_true rfl, Nat.le_of_ble_eq_true rfl⟩) hD hS hA (fun r_41 u_40 H locs hw hP hD hS => ?_)
            obtain ⟨rfl, hI⟩ := hw
            have hF := hF.trans (kFr.up (P := kPx) (w := .int 2) (k := 0) hW.tm rfl)
            have hW := hW.frw (kFr.up (P := kPy mr) (w := .int 2) (k := 0) hW.tm rfl)
            refine lv_if_ne (tgt := 144) hx hb dX4_rub_139 (by decide) (fun h9 => by first | exact absurd h9 (by decide) | exact absurd (by decide) h9) (fun _ => ?_)
            refine lv_iconst (v := 0) hx hb dX4_rub_142 (by decide) ?_
            refine W.widen (k := 0) (n := 0) (Nat.le_of_ble_eq_true rfl) (Nat.le_of_ble_eq_true rfl) ?_
            exact W.iret (v := 0) hx hb hr (fun t ht hW9 => ⟨⟨0, (u_40.1, u_40.2), rfl, ⟨_, _, _, hF, hW, hI⟩, by rw [ht]; exact hP, va_K.moved hW9.alike hK, hD⟩, hS.F ht⟩) hS.2.2 dX4_rub_143
          · have n_42 : ¬ 1024 ≤ mr := fun h9 => (show ¬ nI 1024 ≤ nI mr from c_38) ((nI_leI (by omega) (by omega)).mpr h9)
            refine lv_iconst (v := 1) hx hb dX4_rub_131 (by decide) ?_
            refine lv_goto (tgt := 136) hx hb dX4_rub_132 (by decide) ?_
            refine kd_calli (va_runV (As := [.int 1, .int 0, .int 1]) (rest := []) ⟨hx, hb, hml, hown, hts⟩ (k_goes3 l dC dI dA ad _ τ pv _ _ hI mm fa sa aa ia sf mb mr mk mr hW 1) (cwV 3 hts gX4_rub_X4_goes rfl rfl rfl (by decide +kernel) ⟨Nat.le_of_ble_eq_true rfl, Nat.le_of_ble_eq_true rfl⟩) (kd_preV hP hD hK hS hA hE hI hW.tm rfl rfl) rfl rfl hl.1 rfl (lv_room (Nat.le_of_ble_eq_true rfl)) dX4_rub_136 ⟨Nat.le_of_ble_eq_true rfl, Nat.le_of_ble_eq_true rfl⟩) hD hS hA (fun r_44 u_43 H locs hw hP hD hS => ?_)
            obtain ⟨rfl, hI⟩ := hw
            have hF := hF.trans (kFr.up (P := kPx) (w := .int 2) (k := 0) hW.tm rfl)
            have hW := hW.frw (kFr.up (P := kPy mr) (w := .int 2) (k := 0) hW.tm rfl)
            refine lv_if_ne (tgt := 144) hx hb dX4_rub_139 (by decide) (fun h9 => by first | exact absurd h9 (by decide) | exact absurd (by decide) h9) (fun _ => ?_)
            refine lv_iconst (v := 0) hx hb dX4_rub_142 (by decide) ?_
            refine W.widen (k := 0) (n := 0) (Nat.le_of_ble_eq_true rfl) (Nat.le_of_ble_eq_true rfl) ?_
            exact W.iret (v := 0) hx hb hr (fun t ht hW9 => ⟨⟨0, (u_43.1, u_43.2), rfl, ⟨_, _, _, hF, hW, hI⟩, by rw [ht]; exact hP, va_K.moved hW9.alike hK, hD⟩, hS.F ht⟩) hS.2.2 dX4_rub_143
        · refine lv_if_eq (tgt := 118) hx hb dX4_rub_106 (by decide) (fun h9 => by first | exact absurd h9 (by decide) | exact absurd (by decide) h9) (fun _ => ?_)
          refine lv_iload hx hb dX4_rub_109 (lv_at hl 7 rfl) ?_
          refine lv_if_eq (tgt := 118) hx hb dX4_rub_111 (by decide) (fun h9 => by first | exact absurd h9 (by decide) | exact absurd (by decide) h9) (fun _ => ?_)
          refine lv_iconst (v := 1) hx hb dX4_rub_114 (by decide) ?_
          refine lv_goto (tgt := 119) hx hb dX4_rub_115 (by decide) ?_
          refine lv_iload hx hb dX4_rub_119 (lv_at hl 8 rfl) ?_
          refine lv_aload_n hx hb dX4_rub_121 rfl (lv_at hl 0 rfl) ?_
          refine kp_get hx hb hts i_X4 hown hK hP hI hW.tm rfl rfl 6 (by decide) (by decide) (hts (.fieldLink RX4 129 "IslandSolverModel" "rows" "I") (by decide +kernel)) (fun _ h9 => h9) dX4_rub_122 (kq_P (v0 := .int (nI mr)) rfl hW.p6 fun h_46 => ?_)
          refine lv_sipush (v := 1024) hx hb dX4_rub_125 (by decide) ?_
          refine lv_icmp_ge (tgt := 135) hx hb dX4_rub_128 (by decide) (fun c_47 => ?_) (fun c_47 => ?_)
          · have n_48 : 1024 ≤ mr := (nI_leI (by omega) (by omega)).mp (show nI 1024 ≤ nI mr from c_47)
            refine lv_iconst (v := 0) hx hb dX4_rub_135 (by decide) ?_
            refine kd_calli (va_runV (As := [.int 1, .int 0, .int 0]) (rest := []) ⟨hx, hb, hml, hown, hts⟩ (k_goes3 l dC dI dA ad _ τ pv _ _ hI mm fa sa aa ia sf mb mr mk mr hW 0) (cwV 3 hts gX4_rub_X4_goes rfl rfl rfl (by decide +kernel) ⟨Nat.le_of_ble_eq_true rfl, Nat.le_of_ble_eq_true rfl⟩) (kd_preV hP hD hK hS hA hE hI hW.tm rfl rfl) rfl rfl hl.1 rfl (lv_room (Nat.le_of_ble_eq_true rfl)) dX4_rub_136 ⟨Nat.le_of_ble_eq_true rfl, Nat.le_of_ble_eq_true rfl⟩) hD hS hA (fun r_50 u_49 H locs hw hP hD hS => ?_)
            obtain ⟨rfl, hI⟩ := hw
            have hF := hF.trans (kFr.up (P := kPx) (w := .int 2) (k := 0) hW.tm rfl)
            have hW := hW.frw (kFr.up (P := kPy mr) (w := .int 2) (k := 0) hW.tm rfl)
            refine lv_if_ne (tgt := 144) hx hb dX4_rub_139 (by decide) (fun h9 => by first | exact absurd h9 (by decide) | exact absurd (by decide) h9) (fun _ => ?_)
            refine lv_iconst (v := 0) hx hb dX4_rub_142 (by decide) ?_
            refine W.widen (k := 0) (n := 0) (Nat.le_of_ble_eq_true rfl) (Nat.le_of_ble_eq_true rfl) ?_
            exact W.iret (v := 0) hx hb hr (fun t ht hW9 => ⟨⟨0, (u_49.1, u_49.2), rfl, ⟨_, _, _, hF, hW, hI⟩, by rw [ht]; exact hP, va_K.moved hW9.alike hK, hD⟩, hS.F ht⟩) hS.2.2 dX4_rub_143
          · have n_51 : ¬ 1024 ≤ mr := fun h9 => (show ¬ nI 1024 ≤ nI mr from c_47) ((nI_leI (by omega) (by omega)).mpr h9)
            refine lv_iconst (v := 1) hx hb dX4_rub_131 (by decide) ?_
            refine lv_goto (tgt := 136) hx hb dX4_rub_132 (by decide) ?_
            refine kd_calli (va_runV (As := [.int 1, .int 0, .int 1]) (rest := []) ⟨hx, hb, hml, hown, hts⟩ (k_goes3 l dC dI dA ad _ τ pv _ _ hI mm fa sa aa ia sf mb mr mk mr hW 1) (cwV 3 hts gX4_rub_X4_goes rfl rfl rfl (by decide +kernel) ⟨Nat.le_of_ble_eq_true rfl, Nat.le_of_ble_eq_true rfl⟩) (kd_preV hP hD hK hS hA hE hI hW.tm rfl rfl) rfl rfl hl.1 rfl (lv_room (Nat.le_of_ble_eq_true rfl)) dX4_rub_136 ⟨Nat.le_of_ble_eq_true rfl, Nat.le_of_ble_eq_true rfl⟩) hD hS hA (fun r_53 u_52 H locs hw hP hD hS => ?_)
            obtain ⟨rfl, hI⟩ := hw
            have hF := hF.trans (kFr.up (P := kPx) (w := .int 2) (k := 0) hW.tm rfl)
            have hW := hW.frw (kFr.up (P := kPy mr) (w := .int 2) (k := 0) hW.tm rfl)
            refine lv_if_ne (tgt := 144) hx hb dX4_rub_139 (by decide) (fun h9 => by first | exact absurd h9 (by decide) | exact absurd (by decide) h9) (fun _ => ?_)
            refine lv_iconst (v := 0) hx hb dX4_rub_142 (by decide) ?_
            refine W.widen (k := 0) (n := 0) (Nat.le_of_ble_eq_true rfl) (Nat.le_of_ble_eq_true rfl) ?_
            exact W.iret (v := 0) hx hb hr (fun t ht hW9 => ⟨⟨0, (u_52.1, u_52.2), rfl, ⟨_, _, _, hF, hW, hI⟩, by rw [ht]; exact hP, va_K.moved hW9.alike hK, hD⟩, hS.F ht⟩) hS.2.2 dX4_rub_143
        · refine lv_if_eq (tgt := 118) hx hb dX4_rub_106 (by decide) (fun _ => ?_) (fun h9 => by first | exact absurd h9 (by decide) | exact absurd (by decide) h9)
          refine lv_iconst (v := 0) hx hb dX4_rub_118 (by decide) ?_
          refine lv_iload hx hb dX4_rub_119 (lv_at hl 8 rfl) ?_
          refine lv_aload_n hx hb dX4_rub_121 rfl (lv_at hl 0 rfl) ?_
          refine kp_get hx hb hts i_X4 hown hK hP hI hW.tm rfl rfl 6 (by decide) (by decide) (hts (.fieldLink RX4 129 "IslandSolverModel" "rows" "I") (by decide +kernel)) (fun _ h9 => h9) dX4_rub_122 (kq_P (v0 := .int (nI mr)) rfl hW.p6 fun h_55 => ?_)
          refine lv_sipush (v := 1024) hx hb dX4_rub_125 (by decide) ?_
          refine lv_icmp_ge (tgt := 135) hx hb dX4_rub_128 (by decide) (fun c_56 => ?_) (fun c_56 => ?_)
          · have n_57 : 1024 ≤ mr := (nI_leI (by omega) (by omega)).mp (show nI 1024 ≤ nI mr from c_56)
            refine lv_iconst (v := 0) hx hb dX4_rub_135 (by decide) ?_
            refine kd_calli (va_runV (As := [.int 0, .int 0, .int 0]) (rest := []) ⟨hx, hb, hml, hown, hts⟩ (k_goes2 l dC dI dA ad _ τ pv _ _ hI mm fa sa aa ia sf mb mr mk mr hW 0 0) (cwV 3 hts gX4_rub_X4_goes rfl rfl rfl (by decide +kernel) ⟨Nat.le_of_ble_eq_true rfl, Nat.le_of_ble_eq_true rfl⟩) (kd_preV hP hD hK hS hA hE hI hW.tm rfl rfl) rfl rfl hl.1 rfl (lv_room (Nat.le_of_ble_eq_true rfl)) dX4_rub_136 ⟨Nat.le_of_ble_eq_true rfl, Nat.le_of_ble_eq_true rfl⟩) hD hS hA (fun r_59 u_58 H locs hw hP hD hS => ?_)
            obtain ⟨rfl, hI⟩ := hw
            have hF := hF.trans (kFr.up (P := kPx) (w := .int 1) (k := 0) hW.tm rfl)
            have hW := hW.frw (kFr.up (P := kPy mr) (w := .int 1) (k := 0) hW.tm rfl)
            refine lv_if_ne (tgt := 144) hx hb dX4_rub_139 (by decide) (fun h9 => by first | exact absurd h9 (by decide) | exact absurd (by decide) h9) (fun _ => ?_)
            refine lv_iconst (v := 0) hx hb dX4_rub_142 (by decide) ?_
            refine W.widen (k := 0) (n := 0) (Nat.le_of_ble_eq_true rfl) (Nat.le_of_ble_eq_true rfl) ?_
            exact W.iret (v := 0) hx hb hr (fun t ht hW9 => ⟨⟨0, (u_58.1, u_58.2), rfl, ⟨_, _, _, hF, hW, hI⟩, by rw [ht]; exact hP, va_K.moved hW9.alike hK, hD⟩, hS.F ht⟩) hS.2.2 dX4_rub_143
          · have n_60 : ¬ 1024 ≤ mr := fun h9 => (show ¬ nI 1024 ≤ nI mr from c_56) ((nI_leI (by omega) (by omega)).mpr h9)
            refine lv_iconst (v := 1) hx hb dX4_rub_131 (by decide) ?_
            refine lv_goto (tgt := 136) hx hb dX4_rub_132 (by decide) ?_
            refine kd_calli (va_runV (As := [.int 0, .int 0, .int 1]) (rest := []) ⟨hx, hb, hml, hown, hts⟩ (k_goes2 l dC dI dA ad _ τ pv _ _ hI mm fa sa aa ia sf mb mr mk mr hW 0 1) (cwV 3 hts gX4_rub_X4_goes rfl rfl rfl (by decide +kernel) ⟨Nat.le_of_ble_eq_true rfl, Nat.le_of_ble_eq_true rfl⟩) (kd_preV hP hD hK hS hA hE hI hW.tm rfl rfl) rfl rfl hl.1 rfl (lv_room (Nat.le_of_ble_eq_true rfl)) dX4_rub_136 ⟨Nat.le_of_ble_eq_true rfl, Nat.le_of_ble_eq_true rfl⟩) hD hS hA (fun r_62 u_61 H locs hw hP hD hS => ?_)
            obtain ⟨rfl, hI⟩ := hw
            have hF := hF.trans (kFr.up (P := kPx) (w := .int 1) (k := 0) hW.tm rfl)
            have hW := hW.frw (kFr.up (P := kPy mr) (w := .int 1) (k := 0) hW.tm rfl)
            refine lv_if_ne (tgt := 144) hx hb dX4_rub_139 (by decide) (fun h9 => by first | exact absurd h9 (by decide) | exact absurd (by decide) h9) (fun _ => ?_)
            refine lv_iconst (v := 0) hx hb dX4_rub_142 (by decide) ?_
            refine W.widen (k := 0) (n := 0) (Nat.le_of_ble_eq_true rfl) (Nat.le_of_ble_eq_true rfl) ?_
            exact W.iret (v := 0) hx hb hr (fun t ht hW9 => ⟨⟨0, (u_61.1, u_61.2), rfl, ⟨_, _, _, hF, hW, hI⟩, by rw [ht]; exact hP, va_K.moved hW9.alike hK, hD⟩, hS.F ht⟩) hS.2.2 dX4_rub_143
    · refine lv_aload_n hx hb dX4_rub_99 rfl (lv_at hl 0 rfl) ?_
      refine lv_aload_n hx hb dX4_rub_100 rfl (lv_at hl 0 rfl) ?_
      refine lv_iload_n hx hb dX4_rub_101 rfl (lv_at hl 1 rfl) ?_
      refine lv_iload_n hx hb dX4_rub_102 rfl (lv_at hl 2 rfl) ?_
      refine kd_calli (va_runV (As := [.int n, .int k]) (rest := [.ref mm]) ⟨hx, hb, hml, hown, hts⟩ (k_pair l dC dI dA ad _ τ pv _ _ hI mm fa sa aa ia sf mb mr mk mr hW n k) (cwV 2 hts gX4_rub_X4_pair rfl rfl rfl (by decide +kernel) ⟨Nat.le_of_ble_eq_true rfl, Nat.le_of_ble_eq_true rfl⟩) (kd_preV hP hD hK hS hA hE hI hW.tm rfl rfl) rfl rfl hl.1 rfl (lv_room (Nat.le_of_ble_eq_true rfl)) dX4_rub_103 ⟨Nat.le_of_ble_eq_true rfl, Nat.le_of_ble_eq_true rfl⟩) hD hS hA (fun r_64 u_63 H locs hw hP hD hS => ?_)
      obtain ⟨⟨rfl, ⟨j_65, hj_65, rfl⟩, rfl | ⟨j_66, hj_66, rfl⟩⟩ | rfl, hI⟩ := hw
      · refine lv_if_eq (tgt := 118) hx hb dX4_rub_106 (by decide) (fun h9 => by first | exact absurd h9 (by decide) | exact absurd (by decide) h9) (fun _ => ?_)
        refine lv_iload hx hb dX4_rub_109 (lv_at hl 7 rfl) ?_
        refine lv_if_eq (tgt := 118) hx hb dX4_rub_111 (by decide) (fun h9 => by first | exact absurd h9 (by decide) | exact absurd (by decide) h9) (fun _ => ?_)
        refine lv_iconst (v := 1) hx hb dX4_rub_114 (by decide) ?_
        refine lv_goto (tgt := 119) hx hb dX4_rub_115 (by decide) ?_
        refine lv_iload hx hb dX4_rub_119 (lv_at hl 8 rfl) ?_
        refine lv_aload_n hx hb dX4_rub_121 rfl (lv_at hl 0 rfl) ?_
        refine kp_get hx hb hts i_X4 hown hK hP hI hW.tm rfl rfl 6 (by decide) (by decide) (hts (.fieldLink RX4 129 "IslandSolverModel" "rows" "I") (by decide +kernel)) (fun _ h9 => h9) dX4_rub_122 (kq_P (v0 := .int (nI mr)) rfl hW.p6 fun h_68 => ?_)
        refine lv_sipush (v := 1024) hx hb dX4_rub_125 (by decide) ?_
        refine lv_icmp_ge (tgt := 135) hx hb dX4_rub_128 (by decide) (fun c_69 => ?_) (fun c_69 => ?_)
        · have n_70 : 1024 ≤ mr := (nI_leI (by omega) (by omega)).mp (show nI 1024 ≤ nI mr from c_69)
          refine lv_iconst (v := 0) hx hb dX4_rub_135 (by decide) ?_
          refine kd_calli (va_runV (As := [.int 1, .int 1, .int 0]) (rest := []) ⟨hx, hb, hml, hown, hts⟩ (k_goes4 l dC dI dA ad _ τ pv _ _ hI mm fa sa aa ia sf mb mr mk mr hW ) (cwV 3 hts gX4_rub_X4_goes rfl rfl rfl (by decide +kernel) ⟨Nat.le_of_ble_eq_true rfl, Nat.le_of_ble_eq_true rfl⟩) (kd_preV hP hD hK hS hA hE hI hW.tm rfl rfl) rfl rfl hl.1 rfl (lv_room (Nat.le_of_ble_eq_true rfl)) dX4_rub_136 ⟨Nat.le_of_ble_eq_true rfl, Nat.le_of_ble_eq_true rfl⟩) hD hS hA (fun r_72 u_71 H locs hw hP hD hS => ?_)
          obtain ⟨rfl, hI⟩ := hw
          have hF := hF.trans (kFr.up (P := kPx) (w := .int 3) (k := 0) hW.tm rfl)
          have hW := hW.frw (kFr.up (P := kPy mr) (w := .int 3) (k := 0) hW.tm rfl)
          refine lv_if_ne (tgt := 144) hx hb dX4_rub_139 (by decide) (fun h9 => by first | exact absurd h9 (by decide) | exact absurd (by decide) h9) (fun _ => ?_)
          refine lv_iconst (v := 0) hx hb dX4_rub_142 (by decide) ?_
          refine W.widen (k := 0) (n := 0) (Nat.le_of_ble_eq_true rfl) (Nat.le_of_ble_eq_true rfl) ?_
          exact W.iret (v := 0) hx hb hr (fun t ht hW9 => ⟨⟨0, (u_71.1, u_71.2), rfl, ⟨_, _, _, hF, hW, hI⟩, by rw [ht]; exact hP, va_K.moved hW9.alike hK, hD⟩, hS.F ht⟩) hS.2.2 dX4_rub_143
        · have n_73 : ¬ 1024 ≤ mr := fun h9 => (show ¬ nI 1024 ≤ nI mr from c_69) ((nI_leI (by omega) (by omega)).mpr h9)
          refine lv_iconst (v := 1) hx hb dX4_rub_131 (by decide) ?_
          refine lv_goto (tgt := 136) hx hb dX4_rub_132 (by decide) ?_
          refine kd_calli (va_runV (As := [.int 1, .int 1, .int 1]) (rest := []) ⟨hx, hb, hml, hown, hts⟩ (k_goes1 l dC dI dA ad _ τ pv _ _ hI mm fa sa aa ia sf mb mr mk mr hW ) (cwV 3 hts gX4_rub_X4_goes rfl rfl rfl (by decide +kernel) ⟨Nat.le_of_ble_eq_true rfl, Nat.le_of_ble_eq_true rfl⟩) (kd_preV hP hD hK hS hA hE hI hW.tm rfl rfl) rfl rfl hl.1 rfl (lv_room (Nat.le_of_ble_eq_true rfl)) dX4_rub_136 ⟨Nat.le_of_ble_eq_true rfl, Nat.le_of_ble_eq_true rfl⟩) hD hS hA (fun r_75 u_74 H locs hw hP hD hS => ?_)
          obtain ⟨rfl, hI⟩ := hw
          have hF := hF.trans (kFr.up (P := kPx) (w := .int 0) (k := 0) hW.tm rfl)
          have hW := hW.frw (kFr.up (P := kPy mr) (w := .int 0) (k := 0) hW.tm rfl)
          refine lv_if_ne (tgt := 144) hx hb dX4_rub_139 (by decide) (fun _ => ?_) (fun h9 => by first | exact absurd h9 (by decide) | exact absurd (by decide) h9)
          refine lv_aload_n hx hb dX4_rub_144 rfl (lv_at hl 0 rfl) ?_
          refine kp_get hx hb hts i_X4 hown hK hP hI hW.tm rfl rfl 11 (by decide) (by decide) (hts (.fieldLink RX4 36 "IslandSolverModel" "softs" "[F") (by decide +kernel)) (fun _ h9 => h9) dX4_rub_145 (kq_RE 23 (by decide) fun x_76 h_77_e h_77 => ?_)
          refine lv_aload_n hx hb dX4_rub_148 rfl (lv_at hl 0 rfl) ?_
          refine kp_get hx hb hts i_X4 hown hK hP hI hW.tm rfl rfl 6 (by decide) (by decide) (hts (.fieldLink RX4 129 "IslandSolverModel" "rows" "I") (by decide +kernel)) (fun _ h9 => h9) dX4_rub_149 (kq_P (v0 := .int (nI mr)) rfl hW.p6 fun h_79 => ?_)
          refine lv_fconst0 hx hb dX4_rub_152 ?_
          have hj_80 : mr < τ 3 x_76 := by rw [show τ 3 x_76 = 1024 from (hI.arr h_77 rfl).2.1]; omega
          refine W.eq (g2 := F0 m 153 ls (.float FP.fconst0 :: .int (nI (mr)) :: .ref x_76 :: [])) rfl ?_
          refine kp_fastX (pv' := (kup pv mm 0 (.int 0))) (j := mr) hx hb hK hP hD hS hI h_77 rfl hj_80 (fun _ _ _ => rfl) (show kPr _ 1115684864 _ _ from (kv_F (by decide) (fb_le kc_0 (by decide)))) (kPn_not rfl (by decide)) dX4_rub_153 (fun f H locs hI hP hD hS => ?_)
          refine lv_aload_n hx hb dX4_rub_154 rfl (lv_at hl 0 rfl) ?_
          refine kp_get hx hb hts i_X4 hown hK hP hI hW.tm rfl rfl 14 (by decide) (by decide) (hts (.fieldLink RX4 45 "IslandSolverModel" "frictions" "[F") (by decide +kernel)) (fun _ h9 => h9) dX4_rub_155 (kq_RE 26 (by decide) fun x_81 h_82_e h_82 => ?_)
          refine lv_aload_n hx hb dX4_rub_158 rfl (lv_at hl 0 rfl) ?_
          refine kp_get hx hb hts i_X4 hown hK hP hI hW.tm rfl rfl 6 (by decide) (by decide) (hts (.fieldLink RX4 129 "IslandSolverModel" "rows" "I") (by decide +kernel)) (fun _ h9 => h9) dX4_rub_159 (kq_P (v0 := .int (nI mr)) rfl hW.p6 fun h_84 => ?_)
          refine lv_fload hx hb dX4_rub_162 (lv_at hl 5 rfl) ?_
          have hj_85 : mr < τ 3 x_81 := by rw [show τ 3 x_81 = 1024 from (hI.arr h_82 rfl).2.1]; omega
          refine W.eq (g2 := F0 m 164 ls (.float b :: .int (nI (mr)) :: .ref x_81 :: [])) rfl ?_
          refine kp_fastX (pv' := (kup pv mm 0 (.int 0))) (j := mr) hx hb hK hP hD hS hI h_82 rfl hj_85 (fun _ _ _ => rfl) (show kPr _ 1090519040 _ _ from (kv_F (by decide) hfb)) (kPn_not rfl (by decide)) dX4_rub_164 (fun f H locs hI hP hD hS => ?_)
          refine lv_aload_n hx hb dX4_rub_165 rfl (lv_at hl 0 rfl) ?_
          refine kp_get hx hb hts i_X4 hown hK hP hI hW.tm rfl rfl 15 (by decide) (by decide) (hts (.fieldLink RX4 48 "IslandSolverModel" "ats" "[I") (by decide +kernel)) (fun _ h9 => h9) dX4_rub_166 (kq_P (v0 := .ref aa) rfl hW.p15 fun h_87 => ?_)
          refine lv_aload_n hx hb dX4_rub_169 rfl (lv_at hl 0 rfl) ?_
          refine kp_get hx hb hts i_X4 hown hK hP hI hW.tm rfl rfl 6 (by decide) (by decide) (hts (.fieldLink RX4 129 "IslandSolverModel" "rows" "I") (by decide +kernel)) (fun _ h9 => h9) dX4_rub_170 (kq_P (v0 := .int (nI mr)) rfl hW.p6 fun h_89 => ?_)
          refine lv_iload hx hb dX4_rub_173 (lv_at hl 4 rfl) ?_
          have hj_90 : mr < τ 3 aa := by rw [show τ 3 aa = 1024 from (hI.arr hW.ta rfl).2.1]; omega
          refine W.eq (g2 := F0 m 175 ls (.int (nI j9) :: .int (nI (mr)) :: .ref aa :: [])) rfl ?_
          refine kp_iastX (pv' := (kup (kup pv mm 0 (.int 0)) aa (mr) (.int (nI j9)))) (j := mr) hx hb hK hP hD hS hI hW.ta rfl hj_90 (fun _ _ h9 => kup_ne h9) (show kPr _ 0 _ _ from (kv_I _)) ((kPn_pin rfl).mpr kup_self.symm) dX4_rub_175 (fun f H locs hI hP hD hS => ?_)
          have hF := hF.trans (kFr.up (P := kPx) (w := .int (nI j9)) (k := mr) hW.ta rfl)
          have hW := hW.frw (kFr.up (P := kPy mr) (w := .int (nI j9)) (k := mr) hW.ta (by simp [kPy]))
          refine lv_aload_n hx hb dX4_rub_176 rfl (lv_at hl 0 rfl) ?_
          refine lv_iload_n hx hb dX4_rub_177 rfl (lv_at hl 1 rfl) ?_
          refine lv_iload_n hx hb dX4_rub_178 rfl (lv_at hl 2 rfl) ?_
          refine lv_fload_n hx hb dX4_rub_179 rfl (lv_at hl 3 rfl) ?_
          refine lv_iload hx hb dX4_rub_180 (lv_at hl 6 rfl) ?_
          refine kd_calli (va_runV (As := [.int (nI j_65), .int (-1), .float a, .int ky]) (rest := []) ⟨hx, hb, hml, hown, hts⟩ (k_make0 l dC dI dA ad _ τ (kup (kup pv mm 0 (.int 0)) aa (mr) (.int (nI j9))) _ _ hI mm fa sa aa ia sf mb mr mk mr hW j_65 (by omega) a hfa ky (by omega) rfl (j9 + 1) kup_self (by omega) (fun k h => by cases h; exact (kup_ne (Or.inr (by omega))).trans ((kup_ne (Or.inl hW.ne.2.2.1)).trans hp9))) (cwV 4 hts gX4_rub_X4_make rfl rfl rfl (by decide +kernel) ⟨Nat.le_of_ble_eq_true rfl, Nat.le_of_ble_eq_true rfl⟩) (kd_preV hP hD hK hS hA hE hI hW.tm rfl rfl) rfl rfl hl.1 rfl (lv_room (Nat.le_of_ble_eq_true rfl)) dX4_rub_182 ⟨Nat.le_of_ble_eq_true rfl, Nat.le_of_ble_eq_true rfl⟩) hD hS hA (fun r_92 u_91 H locs hw hP hD hS => ?_)
          obtain ⟨rfl, pv, hF9, hW, hI⟩ := hw
          have hF := hF.trans hF9
          refine W.widen (k := 0) (n := 0) (Nat.le_of_ble_eq_true rfl) (Nat.le_of_ble_eq_true rfl) ?_
          exact W.iret (v := nI mr) hx hb hr (fun t ht hW9 => ⟨⟨nI mr, (u_91.1, u_91.2), rfl, ⟨_, (mr + 1), _, hF, hW, hI⟩, by rw [ht]; exact hP, va_K.moved hW9.alike hK, hD⟩, hS.F ht⟩) hS.2.2 dX4_rub_185
      · refine lv_if_eq (tgt := 118) hx hb dX4_rub_106 (by decide) (fun h9 => by first | exact absurd h9 (by decide) | exact absurd (by decide) h9) (fun _ => ?_)
        refine lv_iload hx hb dX4_rub_109 (lv_at hl 7 rfl) ?_
        refine lv_if_eq (tgt := 118) hx hb dX4_rub_111 (by decide) (fun h9 => by first | exact absurd h9 (by decide) | exact absurd (by decide) h9) (fun _ => ?_)
        refine lv_iconst (v := 1) hx hb dX4_rub_114 (by decide) ?_
        refine lv_goto (tgt := 119) hx hb dX4_rub_115 (by decide) ?_
        refine lv_iload hx hb dX4_rub_119 (lv_at hl 8 rfl) ?_
        refine lv_aload_n hx hb dX4_rub_121 rfl (lv_at hl 0 rfl) ?_
        refine kp_get hx hb hts i_X4 hown hK hP hI hW.tm rfl rfl 6 (by decide) (by decide) (hts (.fieldLink RX4 129 "IslandSolverModel" "rows" "I") (by decide +kernel)) (fun _ h9 => h9) dX4_rub_122 (kq_P (v0 := .int (nI mr)) rfl hW.p6 fun h_94 => ?_)
        refine lv_sipush (v := 1024) hx hb dX4_rub_125 (by decide) ?_
        refine lv_icmp_ge (tgt := 135) hx hb dX4_rub_128 (by decide) (fun c_95 => ?_) (fun c_95 => ?_)
        · have n_96 : 1024 ≤ mr := (nI_leI (by omega) (by omega)).mp (show nI 1024 ≤ nI mr from c_95)
          refine lv_iconst (v := 0) hx hb dX4_rub_135 (by decide) ?_
          refine kd_calli (va_runV (As := [.int 1, .int 1, .int 0]) (rest := []) ⟨hx, hb, hml, hown, hts⟩ (k_goes4 l dC dI dA ad _ τ pv _ _ hI mm fa sa aa ia sf mb mr mk mr hW ) (cwV 3 hts gX4_rub_X4_goes rfl rfl rfl (by decide +kernel) ⟨Nat.le_of_ble_eq_true rfl, Nat.le_of_ble_eq_true rfl⟩) (kd_preV hP hD hK hS hA hE hI hW.tm rfl rfl) rfl rfl hl.1 rfl (lv_room (Nat.le_of_ble_eq_true rfl)) dX4_rub_136 ⟨Nat.le_of_ble_eq_true rfl, Nat.le_of_ble_eq_true rfl⟩) hD hS hA (fun r_98 u_97 H locs hw hP hD hS => ?_)
          obtain ⟨rfl, hI⟩ := hw
          have hF := hF.trans (kFr.up (P := kPx) (w := .int 3) (k := 0) hW.tm rfl)
          have hW := hW.frw (kFr.up (P := kPy mr) (w := .int 3) (k := 0) hW.tm rfl)
          refine lv_if_ne (tgt := 144) hx hb dX4_rub_139 (by decide) (fun h9 => by first | exact absurd h9 (by decide) | exact absurd (by decide) h9) (fun _ => ?_)
          refine lv_iconst (v := 0) hx hb dX4_rub_142 (by decide) ?_
          refine W.widen (k := 0) (n := 0) (Nat.le_of_ble_eq_true rfl) (Nat.le_of_ble_eq_true rfl) ?_
          exact W.iret (v := 0) hx hb hr (fun t ht hW9 => ⟨⟨0, (u_97.1, u_97.2), rfl, ⟨_, _, _, hF, hW, hI⟩, by rw [ht]; exact hP, va_K.moved hW9.alike hK, hD⟩, hS.F ht⟩) hS.2.2 dX4_rub_143
        · have n_99 : ¬ 1024 ≤ mr := fun h9 => (show ¬ nI 1024 ≤ nI mr from c_95) ((nI_leI (by omega) (by omega)).mpr h9)
          refine lv_iconst (v := 1) hx hb dX4_rub_131 (by decide) ?_
          refine lv_goto (tgt := 136) hx hb dX4_rub_132 (by decide) ?_
          refine kd_calli (va_runV (As := [.int 1, .int 1, .int 1]) (rest := []) ⟨hx, hb, hml, hown, hts⟩ (k_goes1 l dC dI dA ad _ τ pv _ _ hI mm fa sa aa ia sf mb mr mk mr hW ) (cwV 3 hts gX4_rub_X4_goes rfl rfl rfl (by decide +kernel) ⟨Nat.le_of_ble_eq_true rfl, Nat.le_of_ble_eq_true rfl⟩) (kd_preV hP hD hK hS hA hE hI hW.tm rfl rfl) rfl rfl hl.1 rfl (lv_room (Nat.le_of_ble_eq_true rfl)) dX4_rub_136 ⟨Nat.le_of_ble_eq_true rfl, Nat.le_of_ble_eq_true rfl⟩) hD hS hA (fun r_101 u_100 H locs hw hP hD hS => ?_)
          obtain ⟨rfl, hI⟩ := hw
          have hF := hF.trans (kFr.up (P := kPx) (w := .int 0) (k := 0) hW.tm rfl)
          have hW := hW.frw (kFr.up (P := kPy mr) (w := .int 0) (k := 0) hW.tm rfl)
          refine lv_if_ne (tgt := 144) hx hb dX4_rub_139 (by decide) (fun _ => ?_) (fun h9 => by first | exact absurd h9 (by decide) | exact absurd (by decide) h9)
          refine lv_aload_n hx hb dX4_rub_144 rfl (lv_at hl 0 rfl) ?_
          refine kp_get hx hb hts i_X4 hown hK hP hI hW.tm rfl rfl 11 (by decide) (by decide) (hts (.fieldLink RX4 36 "IslandSolverModel" "softs" "[F") (by decide +kernel)) (fun _ h9 => h9) dX4_rub_145 (kq_RE 23 (by decide) fun x_102 h_103_e h_103 => ?_)
          refine lv_aload_n hx hb dX4_rub_148 rfl (lv_at hl 0 rfl) ?_
          refine kp_get hx hb hts i_X4 hown hK hP hI hW.tm rfl rfl 6 (by decide) (by decide) (hts (.fieldLink RX4 129 "IslandSolverModel" "rows" "I") (by decide +kernel)) (fun _ h9 => h9) dX4_rub_149 (kq_P (v0 := .int (nI mr)) rfl hW.p6 fun h_105 => ?_)
          refine lv_fconst0 hx hb dX4_rub_152 ?_
          have hj_106 : mr < τ 3 x_102 := by rw [show τ 3 x_102 = 1024 from (hI.arr h_103 rfl).2.1]; omega
          refine W.eq (g2 := F0 m 153 ls (.float FP.fconst0 :: .int (nI (mr)) :: .ref x_102 :: [])) rfl ?_
          refine kp_fastX (pv' := (kup pv mm 0 (.int 0))) (j := mr) hx hb hK hP hD hS hI h_103 rfl hj_106 (fun _ _ _ => rfl) (show kPr _ 1115684864 _ _ from (kv_F (by decide) (fb_le kc_0 (by decide)))) (kPn_not rfl (by decide)) dX4_rub_153 (fun f H locs hI hP hD hS => ?_)
          refine lv_aload_n hx hb dX4_rub_154 rfl (lv_at hl 0 rfl) ?_
          refine kp_get hx hb hts i_X4 hown hK hP hI hW.tm rfl rfl 14 (by decide) (by decide) (hts (.fieldLink RX4 45 "IslandSolverModel" "frictions" "[F") (by decide +kernel)) (fun _ h9 => h9) dX4_rub_155 (kq_RE 26 (by decide) fun x_107 h_108_e h_108 => ?_)
          refine lv_aload_n hx hb dX4_rub_158 rfl (lv_at hl 0 rfl) ?_
          refine kp_get hx hb hts i_X4 hown hK hP hI hW.tm rfl rfl 6 (by decide) (by decide) (hts (.fieldLink RX4 129 "IslandSolverModel" "rows" "I") (by decide +kernel)) (fun _ h9 => h9) dX4_rub_159 (kq_P (v0 := .int (nI mr)) rfl hW.p6 fun h_110 => ?_)
          refine lv_fload hx hb dX4_rub_162 (lv_at hl 5 rfl) ?_
          have hj_111 : mr < τ 3 x_107 := by rw [show τ 3 x_107 = 1024 from (hI.arr h_108 rfl).2.1]; omega
          refine W.eq (g2 := F0 m 164 ls (.float b :: .int (nI (mr)) :: .ref x_107 :: [])) rfl ?_
          refine kp_fastX (pv' := (kup pv mm 0 (.int 0))) (j := mr) hx hb hK hP hD hS hI h_108 rfl hj_111 (fun _ _ _ => rfl) (show kPr _ 1090519040 _ _ from (kv_F (by decide) hfb)) (kPn_not rfl (by decide)) dX4_rub_164 (fun f H locs hI hP hD hS => ?_)
          refine lv_aload_n hx hb dX4_rub_165 rfl (lv_at hl 0 rfl) ?_
          refine kp_get hx hb hts i_X4 hown hK hP hI hW.tm rfl rfl 15 (by decide) (by decide) (hts (.fieldLink RX4 48 "IslandSolverModel" "ats" "[I") (by decide +kernel)) (fun _ h9 => h9) dX4_rub_166 (kq_P (v0 := .ref aa) rfl hW.p15 fun h_113 => ?_)
          refine lv_aload_n hx hb dX4_rub_169 rfl (lv_at hl 0 rfl) ?_
          refine kp_get hx hb hts i_X4 hown hK hP hI hW.tm rfl rfl 6 (by decide) (by decide) (hts (.fieldLink RX4 129 "IslandSolverModel" "rows" "I") (by decide +kernel)) (fun _ h9 => h9) dX4_rub_170 (kq_P (v0 := .int (nI mr)) rfl hW.p6 fun h_115 => ?_)
          refine lv_iload hx hb dX4_rub_173 (lv_at hl 4 rfl) ?_
          have hj_116 : mr < τ 3 aa := by rw [show τ 3 aa = 1024 from (hI.arr hW.ta rfl).2.1]; omega
          refine W.eq (g2 := F0 m 175 ls (.int (nI j9) :: .int (nI (mr)) :: .ref aa :: [])) rfl ?_
          refine kp_iastX (pv' := (kup (kup pv mm 0 (.int 0)) aa (mr) (.int (nI j9)))) (j := mr) hx hb hK hP hD hS hI hW.ta rfl hj_116 (fun _ _ h9 => kup_ne h9) (show kPr _ 0 _ _ from (kv_I _)) ((kPn_pin rfl).mpr kup_self.symm) dX4_rub_175 (fun f H locs hI hP hD hS => ?_)
          have hF := hF.trans (kFr.up (P := kPx) (w := .int (nI j9)) (k := mr) hW.ta rfl)
          have hW := hW.frw (kFr.up (P := kPy mr) (w := .int (nI j9)) (k := mr) hW.ta (by simp [kPy]))
          refine lv_aload_n hx hb dX4_rub_176 rfl (lv_at hl 0 rfl) ?_
          refine lv_iload_n hx hb dX4_rub_177 rfl (lv_at hl 1 rfl) ?_
          refine lv_iload_n hx hb dX4_rub_178 rfl (lv_at hl 2 rfl) ?_
          refine lv_fload_n hx hb dX4_rub_179 rfl (lv_at hl 3 rfl) ?_
          refine lv_iload hx hb dX4_rub_180 (lv_at hl 6 rfl) ?_
          refine kd_calli (va_runV (As := [.int (nI j_65), .int (nI j_66), .float a, .int ky]) (rest := []) ⟨hx, hb, hml, hown, hts⟩ (k_make1 l dC dI dA ad _ τ (kup (kup pv mm 0 (.int 0)) aa (mr) (.int (nI j9))) _ _ hI mm fa sa aa ia sf mb mr mk mr hW j_65 j_66 (by omega) (by omega) a hfa ky (by omega) rfl (j9 + 1) kup_self (by omega) (fun k h => by cases h; exact (kup_ne (Or.inr (by omega))).trans ((kup_ne (Or.inl hW.ne.2.2.1)).trans hp9))) (cwV 4 hts gX4_rub_X4_make rfl rfl rfl (by decide +kernel) ⟨Nat.le_of_ble_eq_true rfl, Nat.le_of_ble_eq_true rfl⟩) (kd_preV hP hD hK hS hA hE hI hW.tm rfl rfl) rfl rfl hl.1 rfl (lv_room (Nat.le_of_ble_eq_true rfl)) dX4_rub_182 ⟨Nat.le_of_ble_eq_true rfl, Nat.le_of_ble_eq_true rfl⟩) hD hS hA (fun r_118 u_117 H locs hw hP hD hS => ?_)
          obtain ⟨rfl, pv, hF9, hW, hI⟩ := hw
          have hF := hF.trans hF9
          refine W.widen (k := 0) (n := 0) (Nat.le_of_ble_eq_true rfl) (Nat.le_of_ble_eq_true rfl) ?_
          exact W.iret (v := nI mr) hx hb hr (fun t ht hW9 => ⟨⟨nI mr, (u_117.1, u_117.2), rfl, ⟨_, (mr + 1), _, hF, hW, hI⟩, by rw [ht]; exact hP, va_K.moved hW9.alike hK, hD⟩, hS.F ht⟩) hS.2.2 dX4_rub_185
      · refine lv_if_eq (tgt := 118) hx hb dX4_rub_106 (by decide) (fun _ => ?_) (fun h9 => by first | exact absurd h9 (by decide) | exact absurd (by decide) h9)
        refine lv_iconst (v := 0) hx hb dX4_rub_118 (by decide) ?_
        refine lv_iload hx hb dX4_rub_119 (lv_at hl 8 rfl) ?_
        refine lv_aload_n hx hb dX4_rub_121 rfl (lv_at hl 0 rfl) ?_
        refine kp_get hx hb hts i_X4 hown hK hP hI hW.tm rfl rfl 6 (by decide) (by decide) (hts (.fieldLink RX4 129 "IslandSolverModel" "rows" "I") (by decide +kernel)) (fun _ h9 => h9) dX4_rub_122 (kq_P (v0 := .int (nI mr)) rfl hW.p6 fun h_120 => ?_)
        refine lv_sipush (v := 1024) hx hb dX4_rub_125 (by decide) ?_
        refine lv_icmp_ge (tgt := 135) hx hb dX4_rub_128 (by decide) (fun c_121 => ?_) (fun c_121 => ?_)
        · have n_122 : 1024 ≤ mr := (nI_leI (by omega) (by omega)).mp (show nI 1024 ≤ nI mr from c_121)
          refine lv_iconst (v := 0) hx hb dX4_rub_135 (by decide) ?_
          refine kd_calli (va_runV (As := [.int 0, .int 1, .int 0]) (rest := []) ⟨hx, hb, hml, hown, hts⟩ (k_goes2 l dC dI dA ad _ τ pv _ _ hI mm fa sa aa ia sf mb mr mk mr hW 1 0) (cwV 3 hts gX4_rub_X4_goes rfl rfl rfl (by decide +kernel) ⟨Nat.le_of_ble_eq_true rfl, Nat.le_of_ble_eq_true rfl⟩) (kd_preV hP hD hK hS hA hE hI hW.tm rfl rfl) rfl rfl hl.1 rfl (lv_room (Nat.le_of_ble_eq_true rfl)) dX4_rub_136 ⟨Nat.le_of_ble_eq_true rfl, Nat.le_of_ble_eq_true rfl⟩) hD hS hA (fun r_124 u_123 H locs hw hP hD hS => ?_)
          obtain ⟨rfl, hI⟩ := hw
          have hF := hF.trans (kFr.up (P := kPx) (w := .int 1) (k := 0) hW.tm rfl)
          have hW := hW.frw (kFr.up (P := kPy mr) (w := .int 1) (k := 0) hW.tm rfl)
          refine lv_if_ne (tgt := 144) hx hb dX4_rub_139 (by decide) (fun h9 => by first | exact absurd h9 (by decide) | exact absurd (by decide) h9) (fun _ => ?_)
          refine lv_iconst (v := 0) hx hb dX4_rub_142 (by decide) ?_
          refine W.widen (k := 0) (n := 0) (Nat.le_of_ble_eq_true rfl) (Nat.le_of_ble_eq_true rfl) ?_
          exact W.iret (v := 0) hx hb hr (fun t ht hW9 => ⟨⟨0, (u_123.1, u_123.2), rfl, ⟨_, _, _, hF, hW, hI⟩, by rw [ht]; exact hP, va_K.moved hW9.alike hK, hD⟩, hS.F ht⟩) hS.2.2 dX4_rub_143
        · have n_125 : ¬ 1024 ≤ mr := fun h9 => (show ¬ nI 1024 ≤ nI mr from c_121) ((nI_leI (by omega) (by omega)).mpr h9)
          refine lv_iconst (v := 1) hx hb dX4_rub_131 (by decide) ?_
          refine lv_goto (tgt := 136) hx hb dX4_rub_132 (by decide) ?_
          refine kd_calli (va_runV (As := [.int 0, .int 1, .int 1]) (rest := []) ⟨hx, hb, hml, hown, hts⟩ (k_goes2 l dC dI dA ad _ τ pv _ _ hI mm fa sa aa ia sf mb mr mk mr hW 1 1) (cwV 3 hts gX4_rub_X4_goes rfl rfl rfl (by decide +kernel) ⟨Nat.le_of_ble_eq_true rfl, Nat.le_of_ble_eq_true rfl⟩) (kd_preV hP hD hK hS hA hE hI hW.tm rfl rfl) rfl rfl hl.1 rfl (lv_room (Nat.le_of_ble_eq_true rfl)) dX4_rub_136 ⟨Nat.le_of_ble_eq_true rfl, Nat.le_of_ble_eq_true rfl⟩) hD hS hA (fun r_127 u_126 H locs hw hP hD hS => ?_)
          obtain ⟨rfl, hI⟩ := hw
          have hF := hF.trans (kFr.up (P := kPx) (w := .int 1) (k := 0) hW.tm rfl)
          have hW := hW.frw (kFr.up (P := kPy mr) (w := .int 1) (k := 0) hW.tm rfl)
          refine lv_if_ne (tgt := 144) hx hb dX4_rub_139 (by decide) (fun h9 => by first | exact absurd h9 (by decide) | exact absurd (by decide) h9) (fun _ => ?_)
          refine lv_iconst (v := 0) hx hb dX4_rub_142 (by decide) ?_
          refine W.widen (k := 0) (n := 0) (Nat.le_of_ble_eq_true rfl) (Nat.le_of_ble_eq_true rfl) ?_
          exact W.iret (v := 0) hx hb hr (fun t ht hW9 => ⟨⟨0, (u_126.1, u_126.2), rfl, ⟨_, _, _, hF, hW, hI⟩, by rw [ht]; exact hP, va_K.moved hW9.alike hK, hD⟩, hS.F ht⟩) hS.2.2 dX4_rub_143
  · refine lv_iload hx hb dX4_rub_0 (lv_at hl 4 rfl) ?_
    refine lv_if_lt (tgt := 18) hx hb dX4_rub_2 (by decide) (fun c_128 => ?_) (fun c_128 => ?_)
    · refine lv_iconst (v := 0) hx hb dX4_rub_18 (by decide) ?_
      refine lv_istore (lv' := [(7, .int 0), (0, .ref mm), (1, .int n), (2, .int k), (3, .float a), (4, .int at9), (5, .float b), (6, .int ky)]) hx hb dX4_rub_19 hl (by decide) rfl (fun ls hl => ?_)
      refine lv_fload_n hx hb dX4_rub_21 rfl (lv_at hl 4 rfl) ?_
      refine lv_ldcf (v := 3296722944) hx hb hown (hts (.constantFloat RX4 115 (3296722944)) (by decide +kernel)) dX4_rub_22 ?_
      have hc_129 : fb 1149239296 3296722944 := by unfold fb; decide +kernel
      refine lv_ldcf (v := 1149239296) hx hb hown (hts (.constantFloat RX4 116 (1149239296)) (by decide +kernel)) dX4_rub_24 ?_
      have hc_130 : fb 1149239296 1149239296 := by unfold fb; decide +kernel
      refine kd_calli (va_runS (As := [.float a, .float 3296722944, .float 1149239296]) (rest := []) ⟨hx, hb, hml, hown, hts⟩ (k_within l dC dI dA ad _ τ pv _ _ hI a 3296722944 1149239296) (va_cwS 3 hts gX4_rub_X4_within rfl rfl rfl (by decide +kernel) ⟨Nat.le_of_ble_eq_true rfl, Nat.le_of_ble_eq_true rfl⟩) (kd_preS hP hD hK hS hA hE) rfl rfl hl.1 rfl (lv_room (Nat.le_of_ble_eq_true rfl)) dX4_rub_26 ⟨Nat.le_of_ble_eq_true rfl, Nat.le_of_ble_eq_true rfl⟩) hD hS hA (fun r_132 u_131 H locs hw hP hD hS => ?_)
      obtain ⟨⟨k_133, rfl⟩ | ⟨k_133, rfl⟩, hI⟩ := hw
      · have fb_134 : fb 1149239296 a := fb_within hc_129 hc_130 (by decide) k_133
        refine lv_if_eq (tgt := 47) hx hb dX4_rub_29 (by decide) (fun h9 => by first | exact absurd h9 (by decide) | exact absurd (by decide) h9) (fun _ => ?_)
        refine lv_fload hx hb dX4_rub_32 (lv_at hl 6 rfl) ?_
        refine lv_fconst0 hx hb dX4_rub_34 ?_
        refine lv_ldcf (v := 1090519040) hx hb hown (hts (.constantFloat RX4 150 (1090519040)) (by decide +kernel)) dX4_rub_35 ?_
        have hc_135 : fb 1090519040 1090519040 := by unfold fb; decide +kernel
        refine kd_calli (va_runS (As := [.float b, .float FP.fconst0, .float 1090519040]) (rest := []) ⟨hx, hb, hml, hown, hts⟩ (k_within l dC dI dA ad _ τ pv _ _ hI b FP.fconst0 1090519040) (va_cwS 3 hts gX4_rub_X4_within rfl rfl rfl (by decide +kernel) ⟨Nat.le_of_ble_eq_true rfl, Nat.le_of_ble_eq_true rfl⟩) (kd_preS hP hD hK hS hA hE) rfl rfl hl.1 rfl (lv_room (Nat.le_of_ble_eq_true rfl)) dX4_rub_37 ⟨Nat.le_of_ble_eq_true rfl, Nat.le_of_ble_eq_true rfl⟩) hD hS hA (fun r_137 u_136 H locs hw hP hD hS => ?_)
        obtain ⟨⟨k_138, rfl⟩ | ⟨k_138, rfl⟩, hI⟩ := hw
        · have fb_139 : fb 1090519040 b := fb_within (fb_le kc_0 (by decide)) hc_135 (by decide) k_138
          refine lv_if_eq (tgt := 47) hx hb dX4_rub_40 (by decide) (fun h9 => by first | exact absurd h9 (by decide) | exact absurd (by decide) h9) (fun _ => ?_)
          refine lv_iconst (v := 1) hx hb dX4_rub_43 (by decide) ?_
          refine lv_goto (tgt := 48) hx hb dX4_rub_44 (by decide) ?_
          refine lv_istore (lv' := [(8, .int 1), (7, .int 0), (0, .ref mm), (1, .int n), (2, .int k), (3, .float a), (4, .int at9), (5, .float b), (6, .int ky)]) hx hb dX4_rub_48 hl (by decide) rfl (fun ls hl => ?_)
          refine lv_iload hx hb dX4_rub_50 (lv_at hl 0 rfl) ?_
          refine lv_if_eq (tgt := 96) hx hb dX4_rub_52 (by decide) (fun h9 => by first | exact absurd h9 (by decide) | exact absurd (by decide) h9) (fun _ => ?_)
          refine lv_iload hx hb dX4_rub_55 (lv_at hl 1 rfl) ?_
          refine lv_if_eq (tgt := 96) hx hb dX4_rub_57 (by decide) (fun _ => ?_) (fun h9 => by first | exact absurd h9 (by decide) | exact absurd (by decide) h9)
          refine lv_iconst (v := 0) hx hb dX4_rub_96 (by decide) ?_
          refine lv_istore (lv' := [(8, .int 0), (7, .int 0), (0, .ref mm), (1, .int n), (2, .int k), (3, .float a), (4, .int at9), (5, .float b), (6, .int ky)]) hx hb dX4_rub_97 hl (by decide) rfl (fun ls hl => ?_)
          have hl : lv_has ls 9 [(0, .ref mm), (1, .int n), (2, .int k), (3, .float a), (4, .int at9), (5, .float b), (6, .int ky), (7, .int 0), (8, .int 0)] := lv_sub hl [2, 3, 4, 5, 6, 7, 8, 1, 0] rfl
          exact cut99 (fun _ _ => .null) _ _ _ _ _ ⟨0, 0, hI, hP, hD, hS, hl, (Or.inl rfl), Or.inl rfl⟩
        · refine lv_if_eq (tgt := 47) hx hb dX4_rub_40 (by decide) (fun _ => ?_) (fun h9 => by first | exact absurd h9 (by decide) | exact absurd (by decide) h9)
          refine lv_iconst (v := 0) hx hb dX4_rub_47 (by decide) ?_
          refine lv_istore (lv' := [(8, .int 0), (7, .int 0), (0, .ref mm), (1, .int n), (2, .int k), (3, .float a), (4, .int at9), (5, .float b), (6, .int ky)]) hx hb dX4_rub_48 hl (by decide) rfl (fun ls hl => ?_)
          refine lv_iload hx hb dX4_rub_50 (lv_at hl 0 rfl) ?_
          refine lv_if_eq (tgt := 96) hx hb dX4_rub_52 (by decide) (fun _ => ?_) (fun h9 => by first | exact absurd h9 (by decide) | exact absurd (by decide) h9)
          refine lv_iconst (v := 0) hx hb dX4_rub_96 (by decide) ?_
          refine lv_istore (lv' := [(8, .int 0), (7, .int 0), (0, .ref mm), (1, .int n), (2, .int k), (3, .float a), (4, .int at9), (5, .float b), (6, .int ky)]) hx hb dX4_rub_97 hl (by decide) rfl (fun ls hl => ?_)
          have hl : lv_has ls 9 [(0, .ref mm), (1, .int n), (2, .int k), (3, .float a), (4, .int at9), (5, .float b), (6, .int ky), (7, .int 0), (8, .int 0)] := lv_sub hl [2, 3, 4, 5, 6, 7, 8, 1, 0] rfl
          exact cut99 (fun _ _ => .null) _ _ _ _ _ ⟨0, 0, hI, hP, hD, hS, hl, (Or.inl rfl), Or.inl rfl⟩
      · refine lv_if_eq (tgt := 47) hx hb dX4_rub_29 (by decide) (fun _ => ?_) (fun h9 => by first | exact absurd h9 (by decide) | exact absurd (by decide) h9)
        refine lv_iconst (v := 0) hx hb dX4_rub_47 (by decide) ?_
        refine lv_istore (lv' := [(8, .int 0), (7, .int 0), (0, .ref mm), (1, .int n), (2, .int k), (3, .float a), (4, .int at9), (5, .float b), (6, .int ky)]) hx hb dX4_rub_48 hl (by decide) rfl (fun ls hl => ?_)
        refine lv_iload hx hb dX4_rub_50 (lv_at hl 0 rfl) ?_
        refine lv_if_eq (tgt := 96) hx hb dX4_rub_52 (by decide) (fun _ => ?_) (fun h9 => by first | exact absurd h9 (by decide) | exact absurd (by decide) h9)
        refine lv_iconst (v := 0) hx hb dX4_rub_96 (by decide) ?_
        refine lv_istore (lv' := [(8, .int 0), (7, .int 0), (0, .ref mm), (1, .int n), (2, .int k), (3, .float a), (4, .int at9), (5, .float b), (6, .int ky)]) hx hb dX4_rub_97 hl (by decide) rfl (fun ls hl => ?_)
        have hl : lv_has ls 9 [(0, .ref mm), (1, .int n), (2, .int k), (3, .float a), (4, .int at9), (5, .float b), (6, .int ky), (7, .int 0), (8, .int 0)] := lv_sub hl [2, 3, 4, 5, 6, 7, 8, 1, 0] rfl
        exact cut99 (fun _ _ => .null) _ _ _ _ _ ⟨0, 0, hI, hP, hD, hS, hl, (Or.inl rfl), Or.inl rfl⟩
    · refine lv_iload hx hb dX4_rub_5 (lv_at hl 4 rfl) ?_
      refine lv_aload_n hx hb dX4_rub_7 rfl (lv_at hl 0 rfl) ?_
      refine kp_get hx hb hts i_X4 hown hK hP hI hW.tm rfl rfl 6 (by decide) (by decide) (hts (.fieldLink RX4 129 "IslandSolverModel" "rows" "I") (by decide +kernel)) (fun _ h9 => h9) dX4_rub_8 (kq_P (v0 := .int (nI mr)) rfl hW.p6 fun h_141 => ?_)
      refine lv_icmp_ge (tgt := 18) hx hb dX4_rub_11 (by decide) (fun c_142 => ?_) (fun c_142 => ?_)
      · refine lv_iconst (v := 0) hx hb dX4_rub_18 (by decide) ?_
        refine lv_istore (lv' := [(7, .int 0), (0, .ref mm), (1, .int n), (2, .int k), (3, .float a), (4, .int at9), (5, .float b), (6, .int ky)]) hx hb dX4_rub_19 hl (by decide) rfl (fun ls hl => ?_)
        refine lv_fload_n hx hb dX4_rub_21 rfl (lv_at hl 4 rfl) ?_
        refine lv_ldcf (v := 3296722944) hx hb hown (hts (.constantFloat RX4 115 (3296722944)) (by decide +kernel)) dX4_rub_22 ?_
        have hc_143 : fb 1149239296 3296722944 := by unfold fb; decide +kernel
        refine lv_ldcf (v := 1149239296) hx hb hown (hts (.constantFloat RX4 116 (1149239296)) (by decide +kernel)) dX4_rub_24 ?_
        have hc_144 : fb 1149239296 1149239296 := by unfold fb; decide +kernel
        refine kd_calli (va_runS (As := [.float a, .float 3296722944, .float 1149239296]) (rest := []) ⟨hx, hb, hml, hown, hts⟩ (k_within l dC dI dA ad _ τ pv _ _ hI a 3296722944 1149239296) (va_cwS 3 hts gX4_rub_X4_within rfl rfl rfl (by decide +kernel) ⟨Nat.le_of_ble_eq_true rfl, Nat.le_of_ble_eq_true rfl⟩) (kd_preS hP hD hK hS hA hE) rfl rfl hl.1 rfl (lv_room (Nat.le_of_ble_eq_true rfl)) dX4_rub_26 ⟨Nat.le_of_ble_eq_true rfl, Nat.le_of_ble_eq_true rfl⟩) hD hS hA (fun r_146 u_145 H locs hw hP hD hS => ?_)
        obtain ⟨⟨k_147, rfl⟩ | ⟨k_147, rfl⟩, hI⟩ := hw
        · have fb_148 : fb 1149239296 a := fb_within hc_143 hc_144 (by decide) k_147
          refine lv_if_eq (tgt := 47) hx hb dX4_rub_29 (by decide) (fun h9 => by first | exact absurd h9 (by decide) | exact absurd (by decide) h9) (fun _ => ?_)
          refine lv_fload hx hb dX4_rub_32 (lv_at hl 6 rfl) ?_
          refine lv_fconst0 hx hb dX4_rub_34 ?_
          refine lv_ldcf (v := 1090519040) hx hb hown (hts (.constantFloat RX4 150 (1090519040)) (by decide +kernel)) dX4_rub_35 ?_
          have hc_149 : fb 1090519040 1090519040 := by unfold fb; decide +kernel
          refine kd_calli (va_runS (As := [.float b, .float FP.fconst0, .float 1090519040]) (rest := []) ⟨hx, hb, hml, hown, hts⟩ (k_within l dC dI dA ad _ τ pv _ _ hI b FP.fconst0 1090519040) (va_cwS 3 hts gX4_rub_X4_within rfl rfl rfl (by decide +kernel) ⟨Nat.le_of_ble_eq_true rfl, Nat.le_of_ble_eq_true rfl⟩) (kd_preS hP hD hK hS hA hE) rfl rfl hl.1 rfl (lv_room (Nat.le_of_ble_eq_true rfl)) dX4_rub_37 ⟨Nat.le_of_ble_eq_true rfl, Nat.le_of_ble_eq_true rfl⟩) hD hS hA (fun r_151 u_150 H locs hw hP hD hS => ?_)
          obtain ⟨⟨k_152, rfl⟩ | ⟨k_152, rfl⟩, hI⟩ := hw
          · have fb_153 : fb 1090519040 b := fb_within (fb_le kc_0 (by decide)) hc_149 (by decide) k_152
            refine lv_if_eq (tgt := 47) hx hb dX4_rub_40 (by decide) (fun h9 => by first | exact absurd h9 (by decide) | exact absurd (by decide) h9) (fun _ => ?_)
            refine lv_iconst (v := 1) hx hb dX4_rub_43 (by decide) ?_
            refine lv_goto (tgt := 48) hx hb dX4_rub_44 (by decide) ?_
            refine lv_istore (lv' := [(8, .int 1), (7, .int 0), (0, .ref mm), (1, .int n), (2, .int k), (3, .float a), (4, .int at9), (5, .float b), (6, .int ky)]) hx hb dX4_rub_48 hl (by decide) rfl (fun ls hl => ?_)
            refine lv_iload hx hb dX4_rub_50 (lv_at hl 0 rfl) ?_
            refine lv_if_eq (tgt := 96) hx hb dX4_rub_52 (by decide) (fun h9 => by first | exact absurd h9 (by decide) | exact absurd (by decide) h9) (fun _ => ?_)
            refine lv_iload hx hb dX4_rub_55 (lv_at hl 1 rfl) ?_
            refine lv_if_eq (tgt := 96) hx hb dX4_rub_57 (by decide) (fun _ => ?_) (fun h9 => by first | exact absurd h9 (by decide) | exact absurd (by decide) h9)
            refine lv_iconst (v := 0) hx hb dX4_rub_96 (by decide) ?_
            refine lv_istore (lv' := [(8, .int 0), (7, .int 0), (0, .ref mm), (1, .int n), (2, .int k), (3, .float a), (4, .int at9), (5, .float b), (6, .int ky)]) hx hb dX4_rub_97 hl (by decide) rfl (fun ls hl => ?_)
            have hl : lv_has ls 9 [(0, .ref mm), (1, .int n), (2, .int k), (3, .float a), (4, .int at9), (5, .float b), (6, .int ky), (7, .int 0), (8, .int 0)] := lv_sub hl [2, 3, 4, 5, 6, 7, 8, 1, 0] rfl
            exact cut99 (fun _ _ => .null) _ _ _ _ _ ⟨0, 0, hI, hP, hD, hS, hl, (Or.inl rfl), Or.inl rfl⟩
          · refine lv_if_eq (tgt := 47) hx hb dX4_rub_40 (by decide) (fun _ => ?_) (fun h9 => by first | exact absurd h9 (by decide) | exact absurd (by decide) h9)
            refine lv_iconst (v := 0) hx hb dX4_rub_47 (by decide) ?_
            refine lv_istore (lv' := [(8, .int 0), (7, .int 0), (0, .ref mm), (1, .int n), (2, .int k), (3, .float a), (4, .int at9), (5, .float b), (6, .int ky)]) hx hb dX4_rub_48 hl (by decide) rfl (fun ls hl => ?_)
            refine lv_iload hx hb dX4_rub_50 (lv_at hl 0 rfl) ?_
            refine lv_if_eq (tgt := 96) hx hb dX4_rub_52 (by decide) (fun _ => ?_) (fun h9 => by first | exact absurd h9 (by decide) | exact absurd (by decide) h9)
            refine lv_iconst (v := 0) hx hb dX4_rub_96 (by decide) ?_
            refine lv_istore (lv' := [(8, .int 0), (7, .int 0), (0, .ref mm), (1, .int n), (2, .int k), (3, .float a), (4, .int at9), (5, .float b), (6, .int ky)]) hx hb dX4_rub_97 hl (by decide) rfl (fun ls hl => ?_)
            have hl : lv_has ls 9 [(0, .ref mm), (1, .int n), (2, .int k), (3, .float a), (4, .int at9), (5, .float b), (6, .int ky), (7, .int 0), (8, .int 0)] := lv_sub hl [2, 3, 4, 5, 6, 7, 8, 1, 0] rfl
            exact cut99 (fun _ _ => .null) _ _ _ _ _ ⟨0, 0, hI, hP, hD, hS, hl, (Or.inl rfl), Or.inl rfl⟩
        · refine lv_if_eq (tgt := 47) hx hb dX4_rub_29 (by decide) (fun _ => ?_) (fun h9 => by first | exact absurd h9 (by decide) | exact absurd (by decide) h9)
          refine lv_iconst (v := 0) hx hb dX4_rub_47 (by decide) ?_
          refine lv_istore (lv' := [(8, .int 0), (7, .int 0), (0, .ref mm), (1, .int n), (2, .int k), (3, .float a), (4, .int at9), (5, .float b), (6, .int ky)]) hx hb dX4_rub_48 hl (by decide) rfl (fun ls hl => ?_)
          refine lv_iload hx hb dX4_rub_50 (lv_at hl 0 rfl) ?_
          refine lv_if_eq (tgt := 96) hx hb dX4_rub_52 (by decide) (fun _ => ?_) (fun h9 => by first | exact absurd h9 (by decide) | exact absurd (by decide) h9)
          refine lv_iconst (v := 0) hx hb dX4_rub_96 (by decide) ?_
          refine lv_istore (lv' := [(8, .int 0), (7, .int 0), (0, .ref mm), (1, .int n), (2, .int k), (3, .float a), (4, .int at9), (5, .float b), (6, .int ky)]) hx hb dX4_rub_97 hl (by decide) rfl (fun ls hl => ?_)
          have hl : lv_has ls 9 [(0, .ref mm), (1, .int n), (2, .int k), (3, .float a), (4, .int at9), (5, .float b), (6, .int ky), (7, .int 0), (8, .int 0)] := lv_sub hl [2, 3, 4, 5, 6, 7, 8, 1, 0] rfl
          exact cut99 (fun _ _ => .null) _ _ _ _ _ ⟨0, 0, hI, hP, hD, hS, hl, (Or.inl rfl), Or.inl rfl⟩
      · obtain ⟨j_154, hj_154, rfl⟩ := kz_is (n := mr) c_128 c_142 (by omega)
        refine lv_iconst (v := 1) hx hb dX4_rub_14 (by decide) ?_
        refine lv_goto (tgt := 19) hx hb dX4_rub_15 (by decide) ?_
        refine lv_istore (lv' := [(7, .int 1), (0, .ref mm), (1, .int n), (2, .int k), (3, .float a), (4, .int (nI j_154)), (5, .float b), (6, .int ky)]) hx hb dX4_rub_19 hl (by decide) rfl (fun ls hl => ?_)
        refine lv_fload_n hx hb dX4_rub_21 rfl (lv_at hl 4 rfl) ?_
        refine lv_ldcf (v := 3296722944) hx hb hown (hts (.constantFloat RX4 115 (3296722944)) (by decide +kernel)) dX4_rub_22 ?_
        have hc_155 : fb 1149239296 3296722944 := by unfold fb; decide +kernel
        refine lv_ldcf (v := 1149239296) hx hb hown (hts (.constantFloat RX4 116 (1149239296)) (by decide +kernel)) dX4_rub_24 ?_
        have hc_156 : fb 1149239296 1149239296 := by unfold fb; decide +kernel
        refine kd_calli (va_runS (As := [.float a, .float 3296722944, .float 1149239296]) (rest := []) ⟨hx, hb, hml, hown, hts⟩ (k_within l dC dI dA ad _ τ pv _ _ hI a 3296722944 1149239296) (va_cwS 3 hts gX4_rub_X4_within rfl rfl rfl (by decide +kernel) ⟨Nat.le_of_ble_eq_true rfl, Nat.le_of_ble_eq_true rfl⟩) (kd_preS hP hD hK hS hA hE) rfl rfl hl.1 rfl (lv_room (Nat.le_of_ble_eq_true rfl)) dX4_rub_26 ⟨Nat.le_of_ble_eq_true rfl, Nat.le_of_ble_eq_true rfl⟩) hD hS hA (fun r_158 u_157 H locs hw hP hD hS => ?_)
        obtain ⟨⟨k_159, rfl⟩ | ⟨k_159, rfl⟩, hI⟩ := hw
        · have fb_160 : fb 1149239296 a := fb_within hc_155 hc_156 (by decide) k_159
          refine lv_if_eq (tgt := 47) hx hb dX4_rub_29 (by decide) (fun h9 => by first | exact absurd h9 (by decide) | exact absurd (by decide) h9) (fun _ => ?_)
          refine lv_fload hx hb dX4_rub_32 (lv_at hl 6 rfl) ?_
          refine lv_fconst0 hx hb dX4_rub_34 ?_
          refine lv_ldcf (v := 1090519040) hx hb hown (hts (.constantFloat RX4 150 (1090519040)) (by decide +kernel)) dX4_rub_35 ?_
          have hc_161 : fb 1090519040 1090519040 := by unfold fb; decide +kernel
          refine kd_calli (va_runS (As := [.float b, .float FP.fconst0, .float 1090519040]) (rest := []) ⟨hx, hb, hml, hown, hts⟩ (k_within l dC dI dA ad _ τ pv _ _ hI b FP.fconst0 1090519040) (va_cwS 3 hts gX4_rub_X4_within rfl rfl rfl (by decide +kernel) ⟨Nat.le_of_ble_eq_true rfl, Nat.le_of_ble_eq_true rfl⟩) (kd_preS hP hD hK hS hA hE) rfl rfl hl.1 rfl (lv_room (Nat.le_of_ble_eq_true rfl)) dX4_rub_37 ⟨Nat.le_of_ble_eq_true rfl, Nat.le_of_ble_eq_true rfl⟩) hD hS hA (fun r_163 u_162 H locs hw hP hD hS => ?_)
          obtain ⟨⟨k_164, rfl⟩ | ⟨k_164, rfl⟩, hI⟩ := hw
          · have fb_165 : fb 1090519040 b := fb_within (fb_le kc_0 (by decide)) hc_161 (by decide) k_164
            refine lv_if_eq (tgt := 47) hx hb dX4_rub_40 (by decide) (fun h9 => by first | exact absurd h9 (by decide) | exact absurd (by decide) h9) (fun _ => ?_)
            refine lv_iconst (v := 1) hx hb dX4_rub_43 (by decide) ?_
            refine lv_goto (tgt := 48) hx hb dX4_rub_44 (by decide) ?_
            refine lv_istore (lv' := [(8, .int 1), (7, .int 1), (0, .ref mm), (1, .int n), (2, .int k), (3, .float a), (4, .int (nI j_154)), (5, .float b), (6, .int ky)]) hx hb dX4_rub_48 hl (by decide) rfl (fun ls hl => ?_)
            refine lv_iload hx hb dX4_rub_50 (lv_at hl 0 rfl) ?_
            refine lv_if_eq (tgt := 96) hx hb dX4_rub_52 (by decide) (fun h9 => by first | exact absurd h9 (by decide) | exact absurd (by decide) h9) (fun _ => ?_)
            refine lv_iload hx hb dX4_rub_55 (lv_at hl 1 rfl) ?_
            refine lv_if_eq (tgt := 96) hx hb dX4_rub_57 (by decide) (fun h9 => by first | exact absurd h9 (by decide) | exact absurd (by decide) h9) (fun _ => ?_)
            refine lv_aload_n hx hb dX4_rub_60 rfl (lv_at hl 2 rfl) ?_
            refine kp_get hx hb hts i_X4 hown hK hP hI hW.tm rfl rfl 15 (by decide) (by decide) (hts (.fieldLink RX4 48 "IslandSolverModel" "ats" "[I") (by decide +kernel)) (fun _ h9 => h9) dX4_rub_61 (kq_P (v0 := .ref aa) rfl hW.p15 fun h_167 => ?_)
            refine lv_iload hx hb dX4_rub_64 (lv_at hl 6 rfl) ?_
            have hj_168 : j_154 < τ 3 aa := by rw [show τ 3 aa = 1024 from (hI.arr hW.ta rfl).2.1]; omega
            refine W.eq (g2 := F0 m 66 ls (.int (nI (j_154)) :: .ref aa :: [])) rfl ?_
            obtain ⟨ra171, rb171, rt171, ja171, la171, jb171, lb171, jt171, lt171, kt171⟩ := hW.rw (r := j_154) (by omega)
            rcases rt171 with _ | rt171_2
            · refine kp_iald (j := j_154) hx hb hK hP hI hW.ta rfl hj_168 dX4_rub_66 (ka_P (x0 := (-1)) rfl jt171 ?_)
              refine lv_if_ge (tgt := 96) hx hb dX4_rub_67 (by decide) (fun h9 => by first | exact absurd h9 (by decide) | exact absurd (by decide) h9) (fun _ => ?_)
              refine lv_aload_n hx hb dX4_rub_70 rfl (lv_at hl 2 rfl) ?_
              refine kp_get hx hb hts i_X4 hown hK hP hI hW.tm rfl rfl 7 (by decide) (by decide) (hts (.fieldLink RX4 24 "IslandSolverModel" "firsts" "[I") (by decide +kernel)) (fun _ h9 => h9) dX4_rub_71 (kq_P (v0 := .ref fa) rfl hW.p7 fun h_173 => ?_)
              refine lv_iload hx hb dX4_rub_74 (lv_at hl 6 rfl) ?_
              have hj_174 : j_154 < τ 3 fa := by rw [show τ 3 fa = 1024 from (hI.arr hW.tf rfl).2.1]; omega
              refine W.eq (g2 := F0 m 76 ls (.int (nI (j_154)) :: .ref fa :: [])) rfl ?_
              refine kp_iald (j := j_154) hx hb hK hP hI hW.tf rfl hj_174 dX4_rub_76 (ka_P (x0 := nI ra171) rfl ja171 ?_)
              refine lv_iload_n hx hb dX4_rub_77 rfl (lv_at hl 3 rfl) ?_
              refine lv_icmp_ne (tgt := 96) hx hb dX4_rub_78 (by decide) (fun c_177 => ?_) (fun c_177 => ?_)
              · refine lv_iconst (v := 0) hx hb dX4_rub_96 (by decide) ?_
                refine lv_istore (lv' := [(8, .int 0), (7, .int 1), (0, .ref mm), (1, .int n), (2, .int k), (3, .float a), (4, .int (nI j_154)), (5, .float b), (6, .int ky)]) hx hb dX4_rub_97 hl (by decide) rfl (fun ls hl => ?_)
                have hl : lv_has ls 9 [(0, .ref mm), (1, .int n), (2, .int k), (3, .float a), (4, .int (nI j_154)), (5, .float b), (6, .int ky), (7, .int 1), (8, .int 0)] := lv_sub hl [2, 3, 4, 5, 6, 7, 8, 1, 0] rfl
                exact cut99 (fun _ _ => .null) _ _ _ _ _ ⟨1, 0, hI, hP, hD, hS, hl, (Or.inr rfl), Or.inl rfl⟩
              · refine lv_aload_n hx hb dX4_rub_81 rfl (lv_at hl 2 rfl) ?_
                refine kp_get hx hb hts i_X4 hown hK hP hI hW.tm rfl rfl 8 (by decide) (by decide) (hts (.fieldLink RX4 27 "IslandSolverModel" "seconds" "[I") (by decide +kernel)) (fun _ h9 => h9) dX4_rub_82 (kq_P (v0 := .ref sa) rfl hW.p8 fun h_179 => ?_)
                refine lv_iload hx hb dX4_rub_85 (lv_at hl 6 rfl) ?_
                have hj_180 : j_154 < τ 3 sa := by rw [show τ 3 sa = 1024 from (hI.arr hW.ts rfl).2.1]; omega
                refine W.eq (g2 := F0 m 87 ls (.int (nI (j_154)) :: .ref sa :: [])) rfl ?_
                rcases rb171 with _ | rb171_2
                · refine kp_iald (j := j_154) hx hb hK hP hI hW.ts rfl hj_180 dX4_rub_87 (ka_P (x0 := (-1)) rfl jb171 ?_)
                  refine lv_iload_n hx hb dX4_rub_88 rfl (lv_at hl 4 rfl) ?_
                  refine lv_icmp_ne (tgt := 96) hx hb dX4_rub_89 (by decide) (fun c_183 => ?_) (fun c_183 => ?_)
                  · refine lv_iconst (v := 0) hx hb dX4_rub_96 (by decide) ?_
                    refine lv_istore (lv' := [(8, .int 0), (7, .int 1), (0, .ref mm), (1, .int n), (2, .int k), (3, .float a), (4, .int (nI j_154)), (5, .float b), (6, .int ky)]) hx hb dX4_rub_97 hl (by decide) rfl (fun ls hl => ?_)
                    have hl : lv_has ls 9 [(0, .ref mm), (1, .int n), (2, .int k), (3, .float a), (4, .int (nI j_154)), (5, .float b), (6, .int ky), (7, .int 1), (8, .int 0)] := lv_sub hl [2, 3, 4, 5, 6, 7, 8, 1, 0] rfl
                    exact cut99 (fun _ _ => .null) _ _ _ _ _ ⟨1, 0, hI, hP, hD, hS, hl, (Or.inr rfl), Or.inl rfl⟩
                  · refine lv_iconst (v := 1) hx hb dX4_rub_92 (by decide) ?_
                    refine lv_goto (tgt := 97) hx hb dX4_rub_93 (by decide) ?_
                    refine lv_istore (lv' := [(8, .int 1), (7, .int 1), (0, .ref mm), (1, .int n), (2, .int k), (3, .float a), (4, .int (nI j_154)), (5, .float b), (6, .int ky)]) hx hb dX4_rub_97 hl (by decide) rfl (fun ls hl => ?_)
                    have hl : lv_has ls 9 [(0, .ref mm), (1, .int n), (2, .int k), (3, .float a), (4, .int (nI j_154)), (5, .float b), (6, .int ky), (7, .int 1), (8, .int 1)] := lv_sub hl [2, 3, 4, 5, 6, 7, 8, 1, 0] rfl
                    exact cut99 (fun _ _ => .null) _ _ _ _ _ ⟨1, 1, hI, hP, hD, hS, hl, (Or.inr rfl), Or.inr ⟨rfl, rfl, fb_160, fb_165, j_154, by omega, rfl, jt171⟩⟩
                · refine kp_iald (j := j_154) hx hb hK hP hI hW.ts rfl hj_180 dX4_rub_87 (ka_P (x0 := (nI rb171_2)) rfl jb171 ?_)
                  refine lv_iload_n hx hb dX4_rub_88 rfl (lv_at hl 4 rfl) ?_
                  refine lv_icmp_ne (tgt := 96) hx hb dX4_rub_89 (by decide) (fun c_184 => ?_) (fun c_184 => ?_)
                  · refine lv_iconst (v := 0) hx hb dX4_rub_96 (by decide) ?_
                    refine lv_istore (lv' := [(8, .int 0), (7, .int 1), (0, .ref mm), (1, .int n), (2, .int k), (3, .float a), (4, .int (nI j_154)), (5, .float b), (6, .int ky)]) hx hb dX4_rub_97 hl (by decide) rfl (fun ls hl => ?_)
                    have hl : lv_has ls 9 [(0, .ref mm), (1, .int n), (2, .int k), (3, .float a), (4, .int (nI j_154)), (5, .float b), (6, .int ky), (7, .int 1), (8, .int 0)] := lv_sub hl [2, 3, 4, 5, 6, 7, 8, 1, 0] rfl
                    exact cut99 (fun _ _ => .null) _ _ _ _ _ ⟨1, 0, hI, hP, hD, hS, hl, (Or.inr rfl), Or.inl rfl⟩
                  · refine lv_iconst (v := 1) hx hb dX4_rub_92 (by decide) ?_
                    refine lv_goto (tgt := 97) hx hb dX4_rub_93 (by decide) ?_
                    refine lv_istore (lv' := [(8, .int 1), (7, .int 1), (0, .ref mm), (1, .int n), (2, .int k), (3, .float a), (4, .int (nI j_154)), (5, .float b), (6, .int ky)]) hx hb dX4_rub_97 hl (by decide) rfl (fun ls hl => ?_)
                    have hl : lv_has ls 9 [(0, .ref mm), (1, .int n), (2, .int k), (3, .float a), (4, .int (nI j_154)), (5, .float b), (6, .int ky), (7, .int 1), (8, .int 1)] := lv_sub hl [2, 3, 4, 5, 6, 7, 8, 1, 0] rfl
                    exact cut99 (fun _ _ => .null) _ _ _ _ _ ⟨1, 1, hI, hP, hD, hS, hl, (Or.inr rfl), Or.inr ⟨rfl, rfl, fb_160, fb_165, j_154, by omega, rfl, jt171⟩⟩
            · refine kp_iald (j := j_154) hx hb hK hP hI hW.ta rfl hj_168 dX4_rub_66 (ka_P (x0 := (nI rt171_2)) rfl jt171 ?_)
              have ka171 := kt171 rt171_2 rfl
              refine lv_if_ge (tgt := 96) hx hb dX4_rub_67 (by decide) (fun _ => ?_) (fun h9 => absurd (nI_pos' (n := rt171_2) (by omega)) h9)
              refine lv_iconst (v := 0) hx hb dX4_rub_96 (by decide) ?_
              refine lv_istore (lv' := [(8, .int 0), (7, .int 1), (0, .ref mm), (1, .int n), (2, .int k), (3, .float a), (4, .int (nI j_154)), (5, .float b), (6, .int ky)]) hx hb dX4_rub_97 hl (by decide) rfl (fun ls hl => ?_)
              have hl : lv_has ls 9 [(0, .ref mm), (1, .int n), (2, .int k), (3, .float a), (4, .int (nI j_154)), (5, .float b), (6, .int ky), (7, .int 1), (8, .int 0)] := lv_sub hl [2, 3, 4, 5, 6, 7, 8, 1, 0] rfl
              exact cut99 (fun _ _ => .null) _ _ _ _ _ ⟨1, 0, hI, hP, hD, hS, hl, (Or.inr rfl), Or.inl rfl⟩
          · refine lv_if_eq (tgt := 47) hx hb dX4_rub_40 (by decide) (fun _ => ?_) (fun h9 => by first | exact absurd h9 (by decide) | exact absurd (by decide) h9)
            refine lv_iconst (v := 0) hx hb dX4_rub_47 (by decide) ?_
            refine lv_istore (lv' := [(8, .int 0), (7, .int 1), (0, .ref mm), (1, .int n), (2, .int k), (3, .float a), (4, .int (nI j_154)), (5, .float b), (6, .int ky)]) hx hb dX4_rub_48 hl (by decide) rfl (fun ls hl => ?_)
            refine lv_iload hx hb dX4_rub_50 (lv_at hl 0 rfl) ?_
            refine lv_if_eq (tgt := 96) hx hb dX4_rub_52 (by decide) (fun _ => ?_) (fun h9 => by first | exact absurd h9 (by decide) | exact absurd (by decide) h9)
            refine lv_iconst (v := 0) hx hb dX4_rub_96 (by decide) ?_
            refine lv_istore (lv' := [(8, .int 0), (7, .int 1), (0, .ref mm), (1, .int n), (2, .int k), (3, .float a), (4, .int (nI j_154)), (5, .float b), (6, .int ky)]) hx hb dX4_rub_97 hl (by decide) rfl (fun ls hl => ?_)
            have hl : lv_has ls 9 [(0, .ref mm), (1, .int n), (2, .int k), (3, .float a), (4, .int (nI j_154)), (5, .float b), (6, .int ky), (7, .int 1), (8, .int 0)] := lv_sub hl [2, 3, 4, 5, 6, 7, 8, 1, 0] rfl
            exact cut99 (fun _ _ => .null) _ _ _ _ _ ⟨1, 0, hI, hP, hD, hS, hl, (Or.inr rfl), Or.inl rfl⟩
        · refine lv_if_eq (tgt := 47) hx hb dX4_rub_29 (by decide) (fun _ => ?_) (fun h9 => by first | exact absurd h9 (by decide) | exact absurd (by decide) h9)
          refine lv_iconst (v := 0) hx hb dX4_rub_47 (by decide) ?_
          refine lv_istore (lv' := [(8, .int 0), (7, .int 1), (0, .ref mm), (1, .int n), (2, .int k), (3, .float a), (4, .int (nI j_154)), (5, .float b), (6, .int ky)]) hx hb dX4_rub_48 hl (by decide) rfl (fun ls hl => ?_)
          refine lv_iload hx hb dX4_rub_50 (lv_at hl 0 rfl) ?_
          refine lv_if_eq (tgt := 96) hx hb dX4_rub_52 (by decide) (fun _ => ?_) (fun h9 => by first | exact absurd h9 (by decide) | exact absurd (by decide) h9)
          refine lv_iconst (v := 0) hx hb dX4_rub_96 (by decide) ?_
          refine lv_istore (lv' := [(8, .int 0), (7, .int 1), (0, .ref mm), (1, .int n), (2, .int k), (3, .float a), (4, .int (nI j_154)), (5, .float b), (6, .int ky)]) hx hb dX4_rub_97 hl (by decide) rfl (fun ls hl => ?_)
          have hl : lv_has ls 9 [(0, .ref mm), (1, .int n), (2, .int k), (3, .float a), (4, .int (nI j_154)), (5, .float b), (6, .int ky), (7, .int 1), (8, .int 0)] := lv_sub hl [2, 3, 4, 5, 6, 7, 8, 1, 0] rfl
          exact cut99 (fun _ _ => .null) _ _ _ _ _ ⟨1, 0, hI, hP, hD, hS, hl, (Or.inr rfl), Or.inl rfl⟩
