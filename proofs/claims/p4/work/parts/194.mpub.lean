set_option maxHeartbeats 4000000 in
set_option maxRecDepth 100000 in
theorem m_p_about (l : Launch) (dC : Nat → ClassId) (dI : Nat → Nat → Nat) (dA : Nat → ClassId) (ad sz : Nat) (τ : Nat → Nat → Nat) (pv0 : Nat → Nat → Value) (L : List Nat) (f : Nat → va_E) (hI : kI dA τ pv0 L f) (mm fa sa aa ia sf mb mr mk : Nat) (hW : kMd τ pv0 mm fa sa aa ia sf mb mr mk mr) (n k : Int32) : Met l yX4_about wsX4_about ({ frames := 2, cells := 0, slots := 0, locals := 48 } : Room) (va_Pc [.ref mm, .int n, .int k] (kB dC dI dA ad sz L f)) (va_Qi (fun r u => kPostM dA τ pv0 mm fa sa aa ia sf mb mr u) (kR dC dI dA (va_A (va_pl L f) sz)) (va_A (va_pl L f) sz)) 0 0 (va_A (va_pl L f) sz) := by
  refine Met.ofW (cc := cX4_about) (maxL := 3) (ret := (some .int)) (by decide) rfl ?_
  intro p e s m args below meth c s₁ B hml hv
  obtain ⟨rfl, hsz, hP, hK, hD0, hE⟩ := hv
  have hx := B.exec
  have hb := B.bytes
  have hr := B.returns
  have hts := atoms_spec (ws := wsX4_about) B.pre
  have hown : s.vm.findClass RX4 = some m.cls := findClass_of_methodNamed B.named
  have hlocks := B.notSynchronized
  have i_X4 : ∀ w ∈ u_ws RX4 TX4 35, w ∈ wsX4_about := by decide +kernel
  subst hsz
  have hD := hD0.self (sz := s.heap.size)
  generalize hAe : va_A (va_pl L f) s.heap.size = A at hD hE ⊢
  have hA : ∀ q : Nat, s.heap.size ≤ q → A q := fun q h => by rw [← hAe]; exact Or.inr h
  have hS : va_S A s.heap s.heap [] := va_S.rf
  have hP : va_P (dC, dI) vwCl (va_pl L f) s.heap := hP
  have hK : va_K (dC, dI) vwCl (tyA dA) s := hK
  have hl := lv_entry ([.ref mm, .int n, .int k]) (n := 3) (Nat.le_of_ble_eq_true rfl)
  rw [lg_entry_eq]
  generalize (lg_sl ([.ref mm, .int n, .int k]) ++ List.replicate (3 - (lg_sl ([.ref mm, .int n, .int k])).length) Slot.unset).toArray = ls at hl ⊢
  have hl : lv_has ls 3 [(0, .ref mm), (1, .int n), (2, .int k)] := hl
  have hnb := hW.lb
  have hnr := hW.lr
  have hnk := hW.lk
  have hni := hW.li
  have hF : kFr kPx τ pv0 τ pv0 := kFr.rf
  refine lv_aload_n hx hb dX4_about_0 rfl (lv_at hl 0 rfl) ?_
  refine lv_aload_n hx hb dX4_about_1 rfl (lv_at hl 0 rfl) ?_
  refine lv_iload_n hx hb dX4_about_2 rfl (lv_at hl 1 rfl) ?_
  refine kd_calli (va_runV (As := [.int n]) (rest := [.ref mm]) ⟨hx, hb, hml, hown, hts⟩ (k_known l dC dI dA ad _ τ pv0 _ _ hI mm fa sa aa ia sf mb mr mk mr hW n) (cwV 1 hts gX4_about_X4_known rfl rfl rfl (by decide +kernel) ⟨Nat.le_of_ble_eq_true rfl, Nat.le_of_ble_eq_true rfl⟩) (kd_preV hP hD hK hS hA hE hI hW.tm rfl rfl) rfl rfl hl.1 rfl (lv_room (Nat.le_of_ble_eq_true rfl)) dX4_about_3 ⟨Nat.le_of_ble_eq_true rfl, Nat.le_of_ble_eq_true rfl⟩) hD hS hA (fun r_2 u_1 H locs hw hP hD hS => ?_)
  obtain ⟨⟨rfl, ⟨j_3, hj_3, rfl⟩⟩ | ⟨rfl, h_4⟩, hI⟩ := hw
  · refine lv_if_eq (tgt := 22) hx hb dX4_about_6 (by decide) (fun h9 => by first | exact absurd h9 (by decide) | exact absurd (by decide) h9) (fun _ => ?_)
    refine lv_iload_n hx hb dX4_about_9 rfl (lv_at hl 2 rfl) ?_
    refine lv_if_lt (tgt := 22) hx hb dX4_about_10 (by decide) (fun c_5 => ?_) (fun c_5 => ?_)
    · refine lv_iconst (v := 0) hx hb dX4_about_22 (by decide) ?_
      refine lv_iconst (v := 1) hx hb dX4_about_23 (by decide) ?_
      refine lv_iconst (v := 1) hx hb dX4_about_24 (by decide) ?_
      refine kd_calli (va_runV (As := [.int 0, .int 1, .int 1]) (rest := []) ⟨hx, hb, hml, hown, hts⟩ (k_goes2 l dC dI dA ad _ τ pv0 _ _ hI mm fa sa aa ia sf mb mr mk mr hW 1 1) (cwV 3 hts gX4_about_X4_goes rfl rfl rfl (by decide +kernel) ⟨Nat.le_of_ble_eq_true rfl, Nat.le_of_ble_eq_true rfl⟩) (kd_preV hP hD hK hS hA hE hI hW.tm rfl rfl) rfl rfl hl.1 rfl (lv_room (Nat.le_of_ble_eq_true rfl)) dX4_about_25 ⟨Nat.le_of_ble_eq_true rfl, Nat.le_of_ble_eq_true rfl⟩) hD hS hA (fun r_7 u_6 H locs hw hP hD hS => ?_)
      obtain ⟨rfl, hI⟩ := hw
      have hF := hF.trans (kFr.up (P := kPx) (w := .int 1) (k := 0) hW.tm rfl)
      have hW := hW.frw (kFr.up (P := kPy mr) (w := .int 1) (k := 0) hW.tm rfl)
      refine lv_if_ne (tgt := 33) hx hb dX4_about_28 (by decide) (fun h9 => by first | exact absurd h9 (by decide) | exact absurd (by decide) h9) (fun _ => ?_)
      refine lv_iconst (v := 0) hx hb dX4_about_31 (by decide) ?_
      refine W.widen (k := 0) (n := 0) (Nat.le_of_ble_eq_true rfl) (Nat.le_of_ble_eq_true rfl) ?_
      exact W.iret (v := 0) hx hb hr (fun t ht hW9 => ⟨⟨0, (u_6.1, u_6.2), rfl, ⟨_, _, hF, hW, hI⟩, by rw [ht]; exact hP, va_K.moved hW9.alike hK, hD⟩, hS.F ht⟩) hS.2.2 dX4_about_32
    · refine lv_iload_n hx hb dX4_about_13 rfl (lv_at hl 2 rfl) ?_
      refine lv_iconst (v := 3) hx hb dX4_about_14 (by decide) ?_
      refine lv_icmp_gt (tgt := 22) hx hb dX4_about_15 (by decide) (fun c_8 => ?_) (fun c_8 => ?_)
      · refine lv_iconst (v := 0) hx hb dX4_about_22 (by decide) ?_
        refine lv_iconst (v := 1) hx hb dX4_about_23 (by decide) ?_
        refine lv_iconst (v := 1) hx hb dX4_about_24 (by decide) ?_
        refine kd_calli (va_runV (As := [.int 0, .int 1, .int 1]) (rest := []) ⟨hx, hb, hml, hown, hts⟩ (k_goes2 l dC dI dA ad _ τ pv0 _ _ hI mm fa sa aa ia sf mb mr mk mr hW 1 1) (cwV 3 hts gX4_about_X4_goes rfl rfl rfl (by decide +kernel) ⟨Nat.le_of_ble_eq_true rfl, Nat.le_of_ble_eq_true rfl⟩) (kd_preV hP hD hK hS hA hE hI hW.tm rfl rfl) rfl rfl hl.1 rfl (lv_room (Nat.le_of_ble_eq_true rfl)) dX4_about_25 ⟨Nat.le_of_ble_eq_true rfl, Nat.le_of_ble_eq_true rfl⟩) hD hS hA (fun r_10 u_9 H locs hw hP hD hS => ?_)
        obtain ⟨rfl, hI⟩ := hw
        have hF := hF.trans (kFr.up (P := kPx) (w := .int 1) (k := 0) hW.tm rfl)
        have hW := hW.frw (kFr.up (P := kPy mr) (w := .int 1) (k := 0) hW.tm rfl)
        refine lv_if_ne (tgt := 33) hx hb dX4_about_28 (by decide) (fun h9 => by first | exact absurd h9 (by decide) | exact absurd (by decide) h9) (fun _ => ?_)
        refine lv_iconst (v := 0) hx hb dX4_about_31 (by decide) ?_
        refine W.widen (k := 0) (n := 0) (Nat.le_of_ble_eq_true rfl) (Nat.le_of_ble_eq_true rfl) ?_
        exact W.iret (v := 0) hx hb hr (fun t ht hW9 => ⟨⟨0, (u_9.1, u_9.2), rfl, ⟨_, _, hF, hW, hI⟩, by rw [ht]; exact hP, va_K.moved hW9.alike hK, hD⟩, hS.F ht⟩) hS.2.2 dX4_about_32
      · refine lv_iconst (v := 1) hx hb dX4_about_18 (by decide) ?_
        refine lv_goto (tgt := 23) hx hb dX4_about_19 (by decide) ?_
        refine lv_iconst (v := 1) hx hb dX4_about_23 (by decide) ?_
        refine lv_iconst (v := 1) hx hb dX4_about_24 (by decide) ?_
        refine kd_calli (va_runV (As := [.int 1, .int 1, .int 1]) (rest := []) ⟨hx, hb, hml, hown, hts⟩ (k_goes1 l dC dI dA ad _ τ pv0 _ _ hI mm fa sa aa ia sf mb mr mk mr hW ) (cwV 3 hts gX4_about_X4_goes rfl rfl rfl (by decide +kernel) ⟨Nat.le_of_ble_eq_true rfl, Nat.le_of_ble_eq_true rfl⟩) (kd_preV hP hD hK hS hA hE hI hW.tm rfl rfl) rfl rfl hl.1 rfl (lv_room (Nat.le_of_ble_eq_true rfl)) dX4_about_25 ⟨Nat.le_of_ble_eq_true rfl, Nat.le_of_ble_eq_true rfl⟩) hD hS hA (fun r_12 u_11 H locs hw hP hD hS => ?_)
        obtain ⟨rfl, hI⟩ := hw
        have hF := hF.trans (kFr.up (P := kPx) (w := .int 0) (k := 0) hW.tm rfl)
        have hW := hW.frw (kFr.up (P := kPy mr) (w := .int 0) (k := 0) hW.tm rfl)
        refine lv_if_ne (tgt := 33) hx hb dX4_about_28 (by decide) (fun _ => ?_) (fun h9 => by first | exact absurd h9 (by decide) | exact absurd (by decide) h9)
        refine lv_aload_n hx hb dX4_about_33 rfl (lv_at hl 0 rfl) ?_
        refine kd_callv (va_runV (As := []) (rest := []) ⟨hx, hb, hml, hown, hts⟩ (k_findIsl l dC dI dA ad _ τ (kup pv0 mm 0 (.int 0)) _ _ hI mm fa sa aa ia sf mb mr mk mr hW ) (cwV 0 hts gX4_about_X4_findIslands rfl rfl rfl (by decide +kernel) ⟨Nat.le_of_ble_eq_true rfl, Nat.le_of_ble_eq_true rfl⟩) (kd_preV hP hD hK hS hA hE hI hW.tm rfl rfl) rfl rfl hl.1 rfl (lv_room (Nat.le_of_ble_eq_true rfl)) dX4_about_34 ⟨Nat.le_of_ble_eq_true rfl, Nat.le_of_ble_eq_true rfl⟩) hD hS hA (fun u_13 H locs hw hP hD hS => ?_)
        obtain ⟨pv, hF9, hI⟩ := hw
        have hF := hF.trans (hF9.weak kPx_q)
        have hW := hW.frq hF9
        refine lv_iload_n hx hb dX4_about_37 rfl (lv_at hl 2 rfl) ?_
        refine lv_if_ne (tgt := 50) hx hb dX4_about_38 (by decide) (fun c_14 => ?_) (fun c_14 => ?_)
        · refine lv_iload_n hx hb dX4_about_50 rfl (lv_at hl 2 rfl) ?_
          refine lv_iconst (v := 1) hx hb dX4_about_51 (by decide) ?_
          refine lv_icmp_ne (tgt := 72) hx hb dX4_about_52 (by decide) (fun c_15 => ?_) (fun c_15 => ?_)
          · refine lv_iload_n hx hb dX4_about_72 rfl (lv_at hl 2 rfl) ?_
            refine lv_iconst (v := 2) hx hb dX4_about_73 (by decide) ?_
            refine lv_icmp_ne (tgt := 86) hx hb dX4_about_74 (by decide) (fun c_16 => ?_) (fun c_16 => ?_)
            · refine lv_aload_n hx hb dX4_about_86 rfl (lv_at hl 0 rfl) ?_
              refine lv_iload_n hx hb dX4_about_87 rfl (lv_at hl 1 rfl) ?_
              refine kd_calli (va_runV (As := [.int (nI j_3)]) (rest := []) ⟨hx, hb, hml, hown, hts⟩ (k_rowsOf l dC dI dA ad _ τ pv _ _ hI mm fa sa aa ia sf mb mr mk mr hW j_3 (by omega)) (cwV 1 hts gX4_about_X4_rowsOf rfl rfl rfl (by decide +kernel) ⟨Nat.le_of_ble_eq_true rfl, Nat.le_of_ble_eq_true rfl⟩) (kd_preV hP hD hK hS hA hE hI hW.tm rfl rfl) rfl rfl hl.1 rfl (lv_room (Nat.le_of_ble_eq_true rfl)) dX4_about_88 ⟨Nat.le_of_ble_eq_true rfl, Nat.le_of_ble_eq_true rfl⟩) hD hS hA (fun r_18 u_17 H locs hw hP hD hS => ?_)
              have hI := hw
              refine W.widen (k := 0) (n := 0) (Nat.le_of_ble_eq_true rfl) (Nat.le_of_ble_eq_true rfl) ?_
              exact W.iret (v := r_18) hx hb hr (fun t ht hW9 => ⟨⟨r_18, (u_17.1, u_17.2), rfl, ⟨_, _, hF, hW, hI⟩, by rw [ht]; exact hP, va_K.moved hW9.alike hK, hD⟩, hS.F ht⟩) hS.2.2 dX4_about_91
            · refine lv_aload_n hx hb dX4_about_77 rfl (lv_at hl 0 rfl) ?_
              refine kp_get hx hb hts i_X4 hown hK hP hI hW.tm rfl rfl 4 (by decide) (by decide) (hts (.fieldLink RX4 17 "IslandSolverModel" "quiet" "[I") (by decide +kernel)) (fun _ h9 => h9) dX4_about_78 (kq_RE 17 (by decide) fun x_19 h_20_e h_20 => ?_)
              refine lv_iload_n hx hb dX4_about_81 rfl (lv_at hl 1 rfl) ?_
              have hj_21 : j_3 < τ 3 x_19 := by rw [show τ 3 x_19 = 256 from (hI.arr h_20 rfl).2.1]; omega
              refine W.eq (g2 := F0 m 82 ls (.int (nI (j_3)) :: .ref x_19 :: [])) rfl ?_
              refine kp_iald (j := j_3) hx hb hK hP hI h_20 rfl hj_21 dX4_about_82 (ka_I fun x_22 => ?_)
              refine lv_goto (tgt := 91) hx hb dX4_about_83 (by decide) ?_
              refine W.widen (k := 0) (n := 0) (Nat.le_of_ble_eq_true rfl) (Nat.le_of_ble_eq_true rfl) ?_
              exact W.iret (v := x_22) hx hb hr (fun t ht hW9 => ⟨⟨x_22, (u_13.1, u_13.2), rfl, ⟨_, _, hF, hW, hI⟩, by rw [ht]; exact hP, va_K.moved hW9.alike hK, hD⟩, hS.F ht⟩) hS.2.2 dX4_about_91
          · refine lv_aload_n hx hb dX4_about_55 rfl (lv_at hl 0 rfl) ?_
            refine kp_get hx hb hts i_X4 hown hK hP hI hW.tm rfl rfl 3 (by decide) (by decide) (hts (.fieldLink RX4 13 "IslandSolverModel" "asleep" "[Z") (by decide +kernel)) (fun _ h9 => h9) dX4_about_56 (kq_RE 16 (by decide) fun x_24 h_25_e h_25 => ?_)
            refine lv_iload_n hx hb dX4_about_59 rfl (lv_at hl 1 rfl) ?_
            have hj_26 : j_3 < τ 3 x_24 := by rw [show τ 3 x_24 = 256 from (hI.arr h_25 rfl).2.1]; omega
            refine W.eq (g2 := F0 m 60 ls (.int (nI (j_3)) :: .ref x_24 :: [])) rfl ?_
            refine kp_zald (j := j_3) hx hb hK hP hI h_25 rfl hj_26 dX4_about_60 (ka_Z fun x_27 h_28 => ?_)
            refine lv_if_eq (tgt := 68) hx hb dX4_about_61 (by decide) (fun c_29 => ?_) (fun c_29 => ?_)
            · subst c_29
              refine lv_iconst (v := 0) hx hb dX4_about_68 (by decide) ?_
              refine lv_goto (tgt := 91) hx hb dX4_about_69 (by decide) ?_
              refine W.widen (k := 0) (n := 0) (Nat.le_of_ble_eq_true rfl) (Nat.le_of_ble_eq_true rfl) ?_
              exact W.iret (v := 0) hx hb hr (fun t ht hW9 => ⟨⟨0, (u_13.1, u_13.2), rfl, ⟨_, _, hF, hW, hI⟩, by rw [ht]; exact hP, va_K.moved hW9.alike hK, hD⟩, hS.F ht⟩) hS.2.2 dX4_about_91
            · obtain rfl : x_27 = 1 := (h_28).resolve_left c_29
              refine lv_iconst (v := 1) hx hb dX4_about_64 (by decide) ?_
              refine lv_goto (tgt := 91) hx hb dX4_about_65 (by decide) ?_
              refine W.widen (k := 0) (n := 0) (Nat.le_of_ble_eq_true rfl) (Nat.le_of_ble_eq_true rfl) ?_
              exact W.iret (v := 1) hx hb hr (fun t ht hW9 => ⟨⟨1, (u_13.1, u_13.2), rfl, ⟨_, _, hF, hW, hI⟩, by rw [ht]; exact hP, va_K.moved hW9.alike hK, hD⟩, hS.F ht⟩) hS.2.2 dX4_about_91
        · refine lv_aload_n hx hb dX4_about_41 rfl (lv_at hl 0 rfl) ?_
          refine kp_get hx hb hts i_X4 hown hK hP hI hW.tm rfl rfl 29 (by decide) (by decide) (hts (.fieldLink RX4 81 "IslandSolverModel" "island" "[I") (by decide +kernel)) (fun _ h9 => h9) dX4_about_42 (kq_RE 33 (by decide) fun x_30 h_31_e h_31 => ?_)
          refine lv_iload_n hx hb dX4_about_45 rfl (lv_at hl 1 rfl) ?_
          have hj_32 : j_3 < τ 3 x_30 := by rw [show τ 3 x_30 = 256 from (hI.arr h_31 rfl).2.1]; omega
          refine W.eq (g2 := F0 m 46 ls (.int (nI (j_3)) :: .ref x_30 :: [])) rfl ?_
          refine kp_iald (j := j_3) hx hb hK hP hI h_31 rfl hj_32 dX4_about_46 (ka_3E fun x_33 h_34 h_34_2 h_34_3 => ?_)
          refine lv_goto (tgt := 91) hx hb dX4_about_47 (by decide) ?_
          refine W.widen (k := 0) (n := 0) (Nat.le_of_ble_eq_true rfl) (Nat.le_of_ble_eq_true rfl) ?_
          exact W.iret (v := x_33) hx hb hr (fun t ht hW9 => ⟨⟨x_33, (u_13.1, u_13.2), rfl, ⟨_, _, hF, hW, hI⟩, by rw [ht]; exact hP, va_K.moved hW9.alike hK, hD⟩, hS.F ht⟩) hS.2.2 dX4_about_91
  · refine lv_if_eq (tgt := 22) hx hb dX4_about_6 (by decide) (fun _ => ?_) (fun h9 => by first | exact absurd h9 (by decide) | exact absurd (by decide) h9)
    refine lv_iconst (v := 0) hx hb dX4_about_22 (by decide) ?_
    refine lv_iconst (v := 1) hx hb dX4_about_23 (by decide) ?_
    refine lv_iconst (v := 1) hx hb dX4_about_24 (by decide) ?_
    refine kd_calli (va_runV (As := [.int 0, .int 1, .int 1]) (rest := []) ⟨hx, hb, hml, hown, hts⟩ (k_goes2 l dC dI dA ad _ τ pv0 _ _ hI mm fa sa aa ia sf mb mr mk mr hW 1 1) (cwV 3 hts gX4_about_X4_goes rfl rfl rfl (by decide +kernel) ⟨Nat.le_of_ble_eq_true rfl, Nat.le_of_ble_eq_true rfl⟩) (kd_preV hP hD hK hS hA hE hI hW.tm rfl rfl) rfl rfl hl.1 rfl (lv_room (Nat.le_of_ble_eq_true rfl)) dX4_about_25 ⟨Nat.le_of_ble_eq_true rfl, Nat.le_of_ble_eq_true rfl⟩) hD hS hA (fun r_36 u_35 H locs hw hP hD hS => ?_)
    obtain ⟨rfl, hI⟩ := hw
    have hF := hF.trans (kFr.up (P := kPx) (w := .int 1) (k := 0) hW.tm rfl)
    have hW := hW.frw (kFr.up (P := kPy mr) (w := .int 1) (k := 0) hW.tm rfl)
    refine lv_if_ne (tgt := 33) hx hb dX4_about_28 (by decide) (fun h9 => by first | exact absurd h9 (by decide) | exact absurd (by decide) h9) (fun _ => ?_)
    refine lv_iconst (v := 0) hx hb dX4_about_31 (by decide) ?_
    refine W.widen (k := 0) (n := 0) (Nat.le_of_ble_eq_true rfl) (Nat.le_of_ble_eq_true rfl) ?_
    exact W.iret (v := 0) hx hb hr (fun t ht hW9 => ⟨⟨0, (u_35.1, u_35.2), rfl, ⟨_, _, hF, hW, hI⟩, by rw [ht]; exact hP, va_K.moved hW9.alike hK, hD⟩, hS.F ht⟩) hS.2.2 dX4_about_32
set_option maxHeartbeats 4000000 in
set_option maxRecDepth 100000 in
theorem m_p_ofRow (l : Launch) (dC : Nat → ClassId) (dI : Nat → Nat → Nat) (dA : Nat → ClassId) (ad sz : Nat) (τ : Nat → Nat → Nat) (pv : Nat → Nat → Value) (L : List Nat) (f : Nat → va_E) (hI : kI dA τ pv L f) (mm fa sa aa ia sf mb mr mk : Nat) (hW : kMd τ pv mm fa sa aa ia sf mb mr mk mr) (n k : Int32) : Met l yX4_ofRow wsX4_ofRow ({ frames := 3, cells := 0, slots := 0, locals := 75 } : Room) (va_Pc [.ref mm, .int n, .int k] (kB dC dI dA ad sz L f)) (va_Qf (fun r u => fb 1904214016 r ∧ kPostM dA τ pv mm fa sa aa ia sf mb mr u) (kR dC dI dA (va_A (va_pl L f) sz)) (va_A (va_pl L f) sz)) 0 0 (va_A (va_pl L f) sz) := by
  refine Met.ofW (cc := cX4_ofRow) (maxL := 3) (ret := (some .float)) (by decide) rfl ?_
  intro p e s m args below meth c s₁ B hml hv
  obtain ⟨rfl, hsz, hP, hK, hD0, hE⟩ := hv
  have hx := B.exec
  have hb := B.bytes
  have hr := B.returns
  have hts := atoms_spec (ws := wsX4_ofRow) B.pre
  have hown : s.vm.findClass RX4 = some m.cls := findClass_of_methodNamed B.named
  have hlocks := B.notSynchronized
  have i_X4 : ∀ w ∈ u_ws RX4 TX4 35, w ∈ wsX4_ofRow := by decide +kernel
  subst hsz
  have hD := hD0.self (sz := s.heap.size)
  generalize hAe : va_A (va_pl L f) s.heap.size = A at hD hE ⊢
  have hA : ∀ q : Nat, s.heap.size ≤ q → A q := fun q h => by rw [← hAe]; exact Or.inr h
  have hS : va_S A s.heap s.heap [] := va_S.rf
  have hP : va_P (dC, dI) vwCl (va_pl L f) s.heap := hP
  have hK : va_K (dC, dI) vwCl (tyA dA) s := hK
  have hl := lv_entry ([.ref mm, .int n, .int k]) (n := 3) (Nat.le_of_ble_eq_true rfl)
  rw [lg_entry_eq]
  generalize (lg_sl ([.ref mm, .int n, .int k]) ++ List.replicate (3 - (lg_sl ([.ref mm, .int n, .int k])).length) Slot.unset).toArray = ls at hl ⊢
  have hl : lv_has ls 3 [(0, .ref mm), (1, .int n), (2, .int k)] := hl
  have hnb := hW.lb
  have hnr := hW.lr
  have hnk := hW.lk
  have hni := hW.li
  have hF : kFr kPx τ pv τ pv := kFr.rf
  refine lv_aload_n hx hb dX4_ofRow_0 rfl (lv_at hl 0 rfl) ?_
  refine lv_iload_n hx hb dX4_ofRow_1 rfl (lv_at hl 1 rfl) ?_
  refine lv_if_lt (tgt := 26) hx hb dX4_ofRow_2 (by decide) (fun c_1 => ?_) (fun c_1 => ?_)
  · refine lv_iconst (v := 0) hx hb dX4_ofRow_26 (by decide) ?_
    refine lv_iconst (v := 1) hx hb dX4_ofRow_27 (by decide) ?_
    refine lv_iconst (v := 1) hx hb dX4_ofRow_28 (by decide) ?_
    refine kd_calli (va_runV (As := [.int 0, .int 1, .int 1]) (rest := []) ⟨hx, hb, hml, hown, hts⟩ (k_goes2 l dC dI dA ad _ τ pv _ _ hI mm fa sa aa ia sf mb mr mk mr hW 1 1) (cwV 3 hts gX4_ofRow_X4_goes rfl rfl rfl (by decide +kernel) ⟨Nat.le_of_ble_eq_true rfl, Nat.le_of_ble_eq_true rfl⟩) (kd_preV hP hD hK hS hA hE hI hW.tm rfl rfl) rfl rfl hl.1 rfl (lv_room (Nat.le_of_ble_eq_true rfl)) dX4_ofRow_29 ⟨Nat.le_of_ble_eq_true rfl, Nat.le_of_ble_eq_true rfl⟩) hD hS hA (fun r_3 u_2 H locs hw hP hD hS => ?_)
    obtain ⟨rfl, hI⟩ := hw
    have hF := hF.trans (kFr.up (P := kPx) (w := .int 1) (k := 0) hW.tm rfl)
    have hW := hW.frw (kFr.up (P := kPy mr) (w := .int 1) (k := 0) hW.tm rfl)
    refine lv_if_ne (tgt := 37) hx hb dX4_ofRow_32 (by decide) (fun h9 => by first | exact absurd h9 (by decide) | exact absurd (by decide) h9) (fun _ => ?_)
    refine lv_fconst0 hx hb dX4_ofRow_35 ?_
    refine W.widen (k := 0) (n := 0) (Nat.le_of_ble_eq_true rfl) (Nat.le_of_ble_eq_true rfl) ?_
    exact W.fret (v := FP.fconst0) hx hb hr (fun t ht hW9 => ⟨⟨FP.fconst0, (u_2.1, u_2.2), rfl, ⟨(fb_le kc_0 (by decide)), ⟨_, _, hF, hW, hI⟩⟩, by rw [ht]; exact hP, va_K.moved hW9.alike hK, hD⟩, hS.F ht⟩) hS.2.2 dX4_ofRow_36
  · refine lv_iload_n hx hb dX4_ofRow_5 rfl (lv_at hl 1 rfl) ?_
    refine lv_aload_n hx hb dX4_ofRow_6 rfl (lv_at hl 0 rfl) ?_
    refine kp_get hx hb hts i_X4 hown hK hP hI hW.tm rfl rfl 6 (by decide) (by decide) (hts (.fieldLink RX4 129 "IslandSolverModel" "rows" "I") (by decide +kernel)) (fun _ h9 => h9) dX4_ofRow_7 (kq_P (v0 := .int (nI mr)) rfl hW.p6 fun h_5 => ?_)
    refine lv_icmp_ge (tgt := 26) hx hb dX4_ofRow_10 (by decide) (fun c_6 => ?_) (fun c_6 => ?_)
    · refine lv_iconst (v := 0) hx hb dX4_ofRow_26 (by decide) ?_
      refine lv_iconst (v := 1) hx hb dX4_ofRow_27 (by decide) ?_
      refine lv_iconst (v := 1) hx hb dX4_ofRow_28 (by decide) ?_
      refine kd_calli (va_runV (As := [.int 0, .int 1, .int 1]) (rest := []) ⟨hx, hb, hml, hown, hts⟩ (k_goes2 l dC dI dA ad _ τ pv _ _ hI mm fa sa aa ia sf mb mr mk mr hW 1 1) (cwV 3 hts gX4_ofRow_X4_goes rfl rfl rfl (by decide +kernel) ⟨Nat.le_of_ble_eq_true rfl, Nat.le_of_ble_eq_true rfl⟩) (kd_preV hP hD hK hS hA hE hI hW.tm rfl rfl) rfl rfl hl.1 rfl (lv_room (Nat.le_of_ble_eq_true rfl)) dX4_ofRow_29 ⟨Nat.le_of_ble_eq_true rfl, Nat.le_of_ble_eq_true rfl⟩) hD hS hA (fun r_8 u_7 H locs hw hP hD hS => ?_)
      obtain ⟨rfl, hI⟩ := hw
      have hF := hF.trans (kFr.up (P := kPx) (w := .int 1) (k := 0) hW.tm rfl)
      have hW := hW.frw (kFr.up (P := kPy mr) (w := .int 1) (k := 0) hW.tm rfl)
      refine lv_if_ne (tgt := 37) hx hb dX4_ofRow_32 (by decide) (fun h9 => by first | exact absurd h9 (by decide) | exact absurd (by decide) h9) (fun _ => ?_)
      refine lv_fconst0 hx hb dX4_ofRow_35 ?_
      refine W.widen (k := 0) (n := 0) (Nat.le_of_ble_eq_true rfl) (Nat.le_of_ble_eq_true rfl) ?_
      exact W.fret (v := FP.fconst0) hx hb hr (fun t ht hW9 => ⟨⟨FP.fconst0, (u_7.1, u_7.2), rfl, ⟨(fb_le kc_0 (by decide)), ⟨_, _, hF, hW, hI⟩⟩, by rw [ht]; exact hP, va_K.moved hW9.alike hK, hD⟩, hS.F ht⟩) hS.2.2 dX4_ofRow_36
    · refine lv_iload_n hx hb dX4_ofRow_13 rfl (lv_at hl 2 rfl) ?_
      refine lv_if_lt (tgt := 26) hx hb dX4_ofRow_14 (by decide) (fun c_9 => ?_) (fun c_9 => ?_)
      · refine lv_iconst (v := 0) hx hb dX4_ofRow_26 (by decide) ?_
        refine lv_iconst (v := 1) hx hb dX4_ofRow_27 (by decide) ?_
        refine lv_iconst (v := 1) hx hb dX4_ofRow_28 (by decide) ?_
        refine kd_calli (va_runV (As := [.int 0, .int 1, .int 1]) (rest := []) ⟨hx, hb, hml, hown, hts⟩ (k_goes2 l dC dI dA ad _ τ pv _ _ hI mm fa sa aa ia sf mb mr mk mr hW 1 1) (cwV 3 hts gX4_ofRow_X4_goes rfl rfl rfl (by decide +kernel) ⟨Nat.le_of_ble_eq_true rfl, Nat.le_of_ble_eq_true rfl⟩) (kd_preV hP hD hK hS hA hE hI hW.tm rfl rfl) rfl rfl hl.1 rfl (lv_room (Nat.le_of_ble_eq_true rfl)) dX4_ofRow_29 ⟨Nat.le_of_ble_eq_true rfl, Nat.le_of_ble_eq_true rfl⟩) hD hS hA (fun r_11 u_10 H locs hw hP hD hS => ?_)
        obtain ⟨rfl, hI⟩ := hw
        have hF := hF.trans (kFr.up (P := kPx) (w := .int 1) (k := 0) hW.tm rfl)
        have hW := hW.frw (kFr.up (P := kPy mr) (w := .int 1) (k := 0) hW.tm rfl)
        refine lv_if_ne (tgt := 37) hx hb dX4_ofRow_32 (by decide) (fun h9 => by first | exact absurd h9 (by decide) | exact absurd (by decide) h9) (fun _ => ?_)
        refine lv_fconst0 hx hb dX4_ofRow_35 ?_
        refine W.widen (k := 0) (n := 0) (Nat.le_of_ble_eq_true rfl) (Nat.le_of_ble_eq_true rfl) ?_
        exact W.fret (v := FP.fconst0) hx hb hr (fun t ht hW9 => ⟨⟨FP.fconst0, (u_10.1, u_10.2), rfl, ⟨(fb_le kc_0 (by decide)), ⟨_, _, hF, hW, hI⟩⟩, by rw [ht]; exact hP, va_K.moved hW9.alike hK, hD⟩, hS.F ht⟩) hS.2.2 dX4_ofRow_36
      · refine lv_iload_n hx hb dX4_ofRow_17 rfl (lv_at hl 2 rfl) ?_
        refine lv_iconst (v := 2) hx hb dX4_ofRow_18 (by decide) ?_
        refine lv_icmp_gt (tgt := 26) hx hb dX4_ofRow_19 (by decide) (fun c_12 => ?_) (fun c_12 => ?_)
        · refine lv_iconst (v := 0) hx hb dX4_ofRow_26 (by decide) ?_
          refine lv_iconst (v := 1) hx hb dX4_ofRow_27 (by decide) ?_
          refine lv_iconst (v := 1) hx hb dX4_ofRow_28 (by decide) ?_
          refine kd_calli (va_runV (As := [.int 0, .int 1, .int 1]) (rest := []) ⟨hx, hb, hml, hown, hts⟩ (k_goes2 l dC dI dA ad _ τ pv _ _ hI mm fa sa aa ia sf mb mr mk mr hW 1 1) (cwV 3 hts gX4_ofRow_X4_goes rfl rfl rfl (by decide +kernel) ⟨Nat.le_of_ble_eq_true rfl, Nat.le_of_ble_eq_true rfl⟩) (kd_preV hP hD hK hS hA hE hI hW.tm rfl rfl) rfl rfl hl.1 rfl (lv_room (Nat.le_of_ble_eq_true rfl)) dX4_ofRow_29 ⟨Nat.le_of_ble_eq_true rfl, Nat.le_of_ble_eq_true rfl⟩) hD hS hA (fun r_14 u_13 H locs hw hP hD hS => ?_)
          obtain ⟨rfl, hI⟩ := hw
          have hF := hF.trans (kFr.up (P := kPx) (w := .int 1) (k := 0) hW.tm rfl)
          have hW := hW.frw (kFr.up (P := kPy mr) (w := .int 1) (k := 0) hW.tm rfl)
          refine lv_if_ne (tgt := 37) hx hb dX4_ofRow_32 (by decide) (fun h9 => by first | exact absurd h9 (by decide) | exact absurd (by decide) h9) (fun _ => ?_)
          refine lv_fconst0 hx hb dX4_ofRow_35 ?_
          refine W.widen (k := 0) (n := 0) (Nat.le_of_ble_eq_true rfl) (Nat.le_of_ble_eq_true rfl) ?_
          exact W.fret (v := FP.fconst0) hx hb hr (fun t ht hW9 => ⟨⟨FP.fconst0, (u_13.1, u_13.2), rfl, ⟨(fb_le kc_0 (by decide)), ⟨_, _, hF, hW, hI⟩⟩, by rw [ht]; exact hP, va_K.moved hW9.alike hK, hD⟩, hS.F ht⟩) hS.2.2 dX4_ofRow_36
        · refine lv_iconst (v := 1) hx hb dX4_ofRow_22 (by decide) ?_
          refine lv_goto (tgt := 27) hx hb dX4_ofRow_23 (by decide) ?_
          refine lv_iconst (v := 1) hx hb dX4_ofRow_27 (by decide) ?_
          refine lv_iconst (v := 1) hx hb dX4_ofRow_28 (by decide) ?_
          refine kd_calli (va_runV (As := [.int 1, .int 1, .int 1]) (rest := []) ⟨hx, hb, hml, hown, hts⟩ (k_goes1 l dC dI dA ad _ τ pv _ _ hI mm fa sa aa ia sf mb mr mk mr hW ) (cwV 3 hts gX4_ofRow_X4_goes rfl rfl rfl (by decide +kernel) ⟨Nat.le_of_ble_eq_true rfl, Nat.le_of_ble_eq_true rfl⟩) (kd_preV hP hD hK hS hA hE hI hW.tm rfl rfl) rfl rfl hl.1 rfl (lv_room (Nat.le_of_ble_eq_true rfl)) dX4_ofRow_29 ⟨Nat.le_of_ble_eq_true rfl, Nat.le_of_ble_eq_true rfl⟩) hD hS hA (fun r_16 u_15 H locs hw hP hD hS => ?_)
          obtain ⟨rfl, hI⟩ := hw
          have hF := hF.trans (kFr.up (P := kPx) (w := .int 0) (k := 0) hW.tm rfl)
          have hW := hW.frw (kFr.up (P := kPy mr) (w := .int 0) (k := 0) hW.tm rfl)
          refine lv_if_ne (tgt := 37) hx hb dX4_ofRow_32 (by decide) (fun _ => ?_) (fun h9 => by first | exact absurd h9 (by decide) | exact absurd (by decide) h9)
          obtain ⟨j_17, hj_17, rfl⟩ := kz_is (n := mr) c_1 c_6 (by omega)
          refine lv_iload_n hx hb dX4_ofRow_37 rfl (lv_at hl 2 rfl) ?_
          refine lv_if_ne (tgt := 50) hx hb dX4_ofRow_38 (by decide) (fun c_18 => ?_) (fun c_18 => ?_)
          · refine lv_iload_n hx hb dX4_ofRow_50 rfl (lv_at hl 2 rfl) ?_
            refine lv_iconst (v := 1) hx hb dX4_ofRow_51 (by decide) ?_
            refine lv_icmp_ne (tgt := 63) hx hb dX4_ofRow_52 (by decide) (fun c_19 => ?_) (fun c_19 => ?_)
            · refine lv_aload_n hx hb dX4_ofRow_63 rfl (lv_at hl 0 rfl) ?_
              refine lv_iload_n hx hb dX4_ofRow_64 rfl (lv_at hl 1 rfl) ?_
              refine kd_callf (va_runV (As := [.int (nI j_17)]) (rest := []) ⟨hx, hb, hml, hown, hts⟩ (k_stiff4 l dC dI dA ad _ τ (kup pv mm 0 (.int 0)) _ _ hI mm fa sa aa ia sf mb mr mk mr hW j_17 (by omega)) (cwV 1 hts gX4_ofRow_X4_stiffness rfl rfl rfl (by decide +kernel) ⟨Nat.le_of_ble_eq_true rfl, Nat.le_of_ble_eq_true rfl⟩) (kd_preV hP hD hK hS hA hE hI hW.tm rfl rfl) rfl rfl hl.1 rfl (lv_room (Nat.le_of_ble_eq_true rfl)) dX4_ofRow_65 ⟨Nat.le_of_ble_eq_true rfl, Nat.le_of_ble_eq_true rfl⟩) hD hS hA (fun r_21 u_20 H locs hw hP hD hS => ?_)
              obtain ⟨hr_21, hI⟩ := hw
              refine W.widen (k := 0) (n := 0) (Nat.le_of_ble_eq_true rfl) (Nat.le_of_ble_eq_true rfl) ?_
              exact W.fret (v := r_21) hx hb hr (fun t ht hW9 => ⟨⟨r_21, (u_20.1, u_20.2), rfl, ⟨(fb_le hr_21 (by decide)), ⟨_, _, hF, hW, hI⟩⟩, by rw [ht]; exact hP, va_K.moved hW9.alike hK, hD⟩, hS.F ht⟩) hS.2.2 dX4_ofRow_68
            · refine lv_aload_n hx hb dX4_ofRow_55 rfl (lv_at hl 0 rfl) ?_
              refine lv_iload_n hx hb dX4_ofRow_56 rfl (lv_at hl 1 rfl) ?_
              refine kd_callf (va_runV (As := [.int (nI j_17)]) (rest := []) ⟨hx, hb, hml, hown, hts⟩ (k_speed4 l dC dI dA ad _ τ (kup pv mm 0 (.int 0)) _ _ hI mm fa sa aa ia sf mb mr mk mr hW j_17 (by omega)) (cwV 1 hts gX4_ofRow_X4_speed rfl rfl rfl (by decide +kernel) ⟨Nat.le_of_ble_eq_true rfl, Nat.le_of_ble_eq_true rfl⟩) (kd_preV hP hD hK hS hA hE hI hW.tm rfl rfl) rfl rfl hl.1 rfl (lv_room (Nat.le_of_ble_eq_true rfl)) dX4_ofRow_57 ⟨Nat.le_of_ble_eq_true rfl, Nat.le_of_ble_eq_true rfl⟩) hD hS hA (fun r_23 u_22 H locs hw hP hD hS => ?_)
              obtain ⟨hr_23, hI⟩ := hw
              refine lv_goto (tgt := 68) hx hb dX4_ofRow_60 (by decide) ?_
              refine W.widen (k := 0) (n := 0) (Nat.le_of_ble_eq_true rfl) (Nat.le_of_ble_eq_true rfl) ?_
              exact W.fret (v := r_23) hx hb hr (fun t ht hW9 => ⟨⟨r_23, (u_22.1, u_22.2), rfl, ⟨(fb_le hr_23 (by decide)), ⟨_, _, hF, hW, hI⟩⟩, by rw [ht]; exact hP, va_K.moved hW9.alike hK, hD⟩, hS.F ht⟩) hS.2.2 dX4_ofRow_68
          · refine lv_aload_n hx hb dX4_ofRow_41 rfl (lv_at hl 0 rfl) ?_
            refine kp_get hx hb hts i_X4 hown hK hP hI hW.tm rfl rfl 17 (by decide) (by decide) (hts (.fieldLink RX4 54 "IslandSolverModel" "impulses" "[F") (by decide +kernel)) (fun _ h9 => h9) dX4_ofRow_42 (kq_P (v0 := .ref ia) rfl hW.p17 fun h_25 => ?_)
            refine lv_iload_n hx hb dX4_ofRow_45 rfl (lv_at hl 1 rfl) ?_
            have hj_26 : j_17 < τ 3 ia := by rw [show τ 3 ia = 1024 from (hI.arr hW.ti rfl).2.1]; omega
            refine W.eq (g2 := F0 m 46 ls (.int (nI (j_17)) :: .ref ia :: [])) rfl ?_
            refine kp_fald (j := j_17) hx hb hK hP hI hW.ti rfl hj_26 dX4_ofRow_46 (ka_29 fun x_27 h_28 h_28_2 => ?_)
            refine lv_goto (tgt := 68) hx hb dX4_ofRow_47 (by decide) ?_
            refine W.widen (k := 0) (n := 0) (Nat.le_of_ble_eq_true rfl) (Nat.le_of_ble_eq_true rfl) ?_
            exact W.fret (v := x_27) hx hb hr (fun t ht hW9 => ⟨⟨x_27, (u_15.1, u_15.2), rfl, ⟨(fb_le h_28 (by decide)), ⟨_, _, hF, hW, hI⟩⟩, by rw [ht]; exact hP, va_K.moved hW9.alike hK, hD⟩, hS.F ht⟩) hS.2.2 dX4_ofRow_68
set_option maxHeartbeats 4000000 in
set_option maxRecDepth 100000 in
theorem m_p_count (l : Launch) (dC : Nat → ClassId) (dI : Nat → Nat → Nat) (dA : Nat → ClassId) (ad sz : Nat) (τ : Nat → Nat → Nat) (pv0 : Nat → Nat → Value) (L : List Nat) (f : Nat → va_E) (hI : kI dA τ pv0 L f) (mm fa sa aa ia sf mb mr mk : Nat) (hW : kMd τ pv0 mm fa sa aa ia sf mb mr mk mr) (n : Int32) : Met l yX4_count wsX4_count ({ frames := 4, cells := 0, slots := 0, locals := 97 } : Room) (va_Pc [.ref mm, .int n] (kB dC dI dA ad sz L f)) (va_Qi (fun r u => kPostM dA τ pv0 mm fa sa aa ia sf mb mr u) (kR dC dI dA (va_A (va_pl L f) sz)) (va_A (va_pl L f) sz)) 0 0 (va_A (va_pl L f) sz) := by
  refine Met.ofW (cc := cX4_count) (maxL := 4) (ret := (some .int)) (by decide) rfl ?_
  intro p e s m args below meth c s₁ B hml hv
  obtain ⟨rfl, hsz, hP, hK, hD0, hE⟩ := hv
  have hx := B.exec
  have hb := B.bytes
  have hr := B.returns
  have hts := atoms_spec (ws := wsX4_count) B.pre
  have hown : s.vm.findClass RX4 = some m.cls := findClass_of_methodNamed B.named
  have hlocks := B.notSynchronized
  have i_X4 : ∀ w ∈ u_ws RX4 TX4 35, w ∈ wsX4_count := by decide +kernel
  subst hsz
  have hD := hD0.self (sz := s.heap.size)
  generalize hAe : va_A (va_pl L f) s.heap.size = A at hD hE ⊢
  have hA : ∀ q : Nat, s.heap.size ≤ q → A q := fun q h => by rw [← hAe]; exact Or.inr h
  have hS : va_S A s.heap s.heap [] := va_S.rf
  have hP : va_P (dC, dI) vwCl (va_pl L f) s.heap := hP
  have hK : va_K (dC, dI) vwCl (tyA dA) s := hK
  have hl := lv_entry ([.ref mm, .int n]) (n := 4) (Nat.le_of_ble_eq_true rfl)
  rw [lg_entry_eq]
  generalize (lg_sl ([.ref mm, .int n]) ++ List.replicate (4 - (lg_sl ([.ref mm, .int n])).length) Slot.unset).toArray = ls at hl ⊢
  have hl : lv_has ls 4 [(0, .ref mm), (1, .int n)] := hl
  have hnb := hW.lb
  have hnr := hW.lr
  have hnk := hW.lk
  have hni := hW.li
  have hF : kFr kPx τ pv0 τ pv0 := kFr.rf
  refine lv_aload_n hx hb dX4_count_0 rfl (lv_at hl 0 rfl) ?_
  refine lv_iload_n hx hb dX4_count_1 rfl (lv_at hl 1 rfl) ?_
  refine lv_if_lt (tgt := 15) hx hb dX4_count_2 (by decide) (fun c_1 => ?_) (fun c_1 => ?_)
  · refine lv_iconst (v := 0) hx hb dX4_count_15 (by decide) ?_
    refine lv_iconst (v := 1) hx hb dX4_count_16 (by decide) ?_
    refine lv_iconst (v := 1) hx hb dX4_count_17 (by decide) ?_
    refine kd_calli (va_runV (As := [.int 0, .int 1, .int 1]) (rest := []) ⟨hx, hb, hml, hown, hts⟩ (k_goes2 l dC dI dA ad _ τ pv0 _ _ hI mm fa sa aa ia sf mb mr mk mr hW 1 1) (cwV 3 hts gX4_count_X4_goes rfl rfl rfl (by decide +kernel) ⟨Nat.le_of_ble_eq_true rfl, Nat.le_of_ble_eq_true rfl⟩) (kd_preV hP hD hK hS hA hE hI hW.tm rfl rfl) rfl rfl hl.1 rfl (lv_room (Nat.le_of_ble_eq_true rfl)) dX4_count_18 ⟨Nat.le_of_ble_eq_true rfl, Nat.le_of_ble_eq_true rfl⟩) hD hS hA (fun r_3 u_2 H locs hw hP hD hS => ?_)
    obtain ⟨rfl, hI⟩ := hw
    have hF := hF.trans (kFr.up (P := kPx) (w := .int 1) (k := 0) hW.tm rfl)
    have hW := hW.frw (kFr.up (P := kPy mr) (w := .int 1) (k := 0) hW.tm rfl)
    refine lv_if_ne (tgt := 26) hx hb dX4_count_21 (by decide) (fun h9 => by first | exact absurd h9 (by decide) | exact absurd (by decide) h9) (fun _ => ?_)
    refine lv_iconst (v := 0) hx hb dX4_count_24 (by decide) ?_
    refine W.widen (k := 0) (n := 0) (Nat.le_of_ble_eq_true rfl) (Nat.le_of_ble_eq_true rfl) ?_
    exact W.iret (v := 0) hx hb hr (fun t ht hW9 => ⟨⟨0, (u_2.1, u_2.2), rfl, ⟨_, _, hF, hW, hI⟩, by rw [ht]; exact hP, va_K.moved hW9.alike hK, hD⟩, hS.F ht⟩) hS.2.2 dX4_count_25
  · refine lv_iload_n hx hb dX4_count_5 rfl (lv_at hl 1 rfl) ?_
    refine lv_bipush (v := 6) hx hb dX4_count_6 (by decide) ?_
    refine lv_icmp_gt (tgt := 15) hx hb dX4_count_8 (by decide) (fun c_4 => ?_) (fun c_4 => ?_)
    · refine lv_iconst (v := 0) hx hb dX4_count_15 (by decide) ?_
      refine lv_iconst (v := 1) hx hb dX4_count_16 (by decide) ?_
      refine lv_iconst (v := 1) hx hb dX4_count_17 (by decide) ?_
      refine kd_calli (va_runV (As := [.int 0, .int 1, .int 1]) (rest := []) ⟨hx, hb, hml, hown, hts⟩ (k_goes2 l dC dI dA ad _ τ pv0 _ _ hI mm fa sa aa ia sf mb mr mk mr hW 1 1) (cwV 3 hts gX4_count_X4_goes rfl rfl rfl (by decide +kernel) ⟨Nat.le_of_ble_eq_true rfl, Nat.le_of_ble_eq_true rfl⟩) (kd_preV hP hD hK hS hA hE hI hW.tm rfl rfl) rfl rfl hl.1 rfl (lv_room (Nat.le_of_ble_eq_true rfl)) dX4_count_18 ⟨Nat.le_of_ble_eq_true rfl, Nat.le_of_ble_eq_true rfl⟩) hD hS hA (fun r_6 u_5 H locs hw hP hD hS => ?_)
      obtain ⟨rfl, hI⟩ := hw
      have hF := hF.trans (kFr.up (P := kPx) (w := .int 1) (k := 0) hW.tm rfl)
      have hW := hW.frw (kFr.up (P := kPy mr) (w := .int 1) (k := 0) hW.tm rfl)
      refine lv_if_ne (tgt := 26) hx hb dX4_count_21 (by decide) (fun h9 => by first | exact absurd h9 (by decide) | exact absurd (by decide) h9) (fun _ => ?_)
      refine lv_iconst (v := 0) hx hb dX4_count_24 (by decide) ?_
      refine W.widen (k := 0) (n := 0) (Nat.le_of_ble_eq_true rfl) (Nat.le_of_ble_eq_true rfl) ?_
      exact W.iret (v := 0) hx hb hr (fun t ht hW9 => ⟨⟨0, (u_5.1, u_5.2), rfl, ⟨_, _, hF, hW, hI⟩, by rw [ht]; exact hP, va_K.moved hW9.alike hK, hD⟩, hS.F ht⟩) hS.2.2 dX4_count_25
    · refine lv_iconst (v := 1) hx hb dX4_count_11 (by decide) ?_
      refine lv_goto (tgt := 16) hx hb dX4_count_12 (by decide) ?_
      refine lv_iconst (v := 1) hx hb dX4_count_16 (by decide) ?_
      refine lv_iconst (v := 1) hx hb dX4_count_17 (by decide) ?_
      refine kd_calli (va_runV (As := [.int 1, .int 1, .int 1]) (rest := []) ⟨hx, hb, hml, hown, hts⟩ (k_goes1 l dC dI dA ad _ τ pv0 _ _ hI mm fa sa aa ia sf mb mr mk mr hW ) (cwV 3 hts gX4_count_X4_goes rfl rfl rfl (by decide +kernel) ⟨Nat.le_of_ble_eq_true rfl, Nat.le_of_ble_eq_true rfl⟩) (kd_preV hP hD hK hS hA hE hI hW.tm rfl rfl) rfl rfl hl.1 rfl (lv_room (Nat.le_of_ble_eq_true rfl)) dX4_count_18 ⟨Nat.le_of_ble_eq_true rfl, Nat.le_of_ble_eq_true rfl⟩) hD hS hA (fun r_8 u_7 H locs hw hP hD hS => ?_)
      obtain ⟨rfl, hI⟩ := hw
      have hF := hF.trans (kFr.up (P := kPx) (w := .int 0) (k := 0) hW.tm rfl)
      have hW := hW.frw (kFr.up (P := kPy mr) (w := .int 0) (k := 0) hW.tm rfl)
      refine lv_if_ne (tgt := 26) hx hb dX4_count_21 (by decide) (fun _ => ?_) (fun h9 => by first | exact absurd h9 (by decide) | exact absurd (by decide) h9)
      refine lv_iconst (v := 0) hx hb dX4_count_26 (by decide) ?_
      refine lv_istore_n (lv' := [(2, .int 0), (0, .ref mm), (1, .int n)]) hx hb dX4_count_27 rfl hl (by decide) rfl (fun ls hl => ?_)
      refine lv_iconst (v := 0) hx hb dX4_count_28 (by decide) ?_
      refine lv_istore_n (lv' := [(3, .int 0), (2, .int 0), (0, .ref mm), (1, .int n)]) hx hb dX4_count_29 rfl hl (by decide) rfl (fun ls hl => ?_)
      have hl : lv_has ls 4 [(0, .ref mm), (1, .int n), (2, .int 0), (3, .int 0)] := lv_sub hl [2, 3, 1, 0] rfl
      refine kl_loop (Inv := fun n30 _ L f H locs ls => ∃ (i : Nat) (c8 : Int32), mb - i < n30 ∧ kI dA τ (kup pv0 mm 0 (.int 0)) L f ∧ va_P (dC, dI) vwCl (va_pl L f) H ∧ va_D A (va_pl L f) ∧ va_S A s.heap H locs ∧ lv_has ls 4 [(0, .ref mm), (1, .int n), (2, .int c8), (3, .int (nI i))] ∧ i ≤ mb) (fun _ _ _ _ _ _ h9 => by obtain ⟨_, _, hn, _⟩ := h9; exact Nat.not_lt_zero _ hn) (fun n30 ih30 _ L f H locs ls h9 => ?_) (mb - 0 + 1) (fun _ _ => .null) _ _ _ _ _ ⟨0, 0, Nat.lt_succ_self _, hI, hP, hD, hS, hl, Nat.zero_le _⟩
      obtain ⟨i, c8, hn30, hI, hP, hD, hS, hl, hib⟩ := h9
      refine lv_iload_n hx hb dX4_count_30 rfl (lv_at hl 3 rfl) ?_
      refine lv_aload_n hx hb dX4_count_31 rfl (lv_at hl 0 rfl) ?_
      refine kp_get hx hb hts i_X4 hown hK hP hI hW.tm rfl rfl 1 (by decide) (by decide) (hts (.fieldLink RX4 93 "IslandSolverModel" "bodies" "I") (by decide +kernel)) (fun _ h9 => h9) dX4_count_32 (kq_P (v0 := .int (nI mb)) rfl hW.p1 fun h_10 => ?_)
      refine lv_icmp_ge (tgt := 61) hx hb dX4_count_35 (by decide) (fun c_11 => ?_) (fun c_11 => ?_)
      · have n_12 : mb ≤ i := (nI_leI (by omega) (by omega)).mp (show nI mb ≤ nI i from c_11)
        refine lv_aload_n hx hb dX4_count_61 rfl (lv_at hl 0 rfl) ?_
        refine kd_calli (va_runV (As := []) (rest := []) ⟨hx, hb, hml, hown, hts⟩ (k_sleeping l dC dI dA ad _ τ (kup pv0 mm 0 (.int 0)) _ _ hI mm fa sa aa ia sf mb mr mk mr hW ) (cwV 0 hts gX4_count_X4_sleeping rfl rfl rfl (by decide +kernel) ⟨Nat.le_of_ble_eq_true rfl, Nat.le_of_ble_eq_true rfl⟩) (kd_preV hP hD hK hS hA hE hI hW.tm rfl rfl) rfl rfl hl.1 rfl (lv_room (Nat.le_of_ble_eq_true rfl)) dX4_count_62 ⟨Nat.le_of_ble_eq_true rfl, Nat.le_of_ble_eq_true rfl⟩) hD hS hA (fun r_14 u_13 H locs hw hP hD hS => ?_)
        obtain ⟨pv, hF9, hI⟩ := hw
        have hF := hF.trans (hF9.weak kPx_q)
        have hW := hW.frq hF9
        refine lv_istore_n (lv' := [(3, .int r_14), (0, .ref mm), (1, .int n), (2, .int c8)]) hx hb dX4_count_65 rfl hl (by decide) rfl (fun ls hl => ?_)
        refine lv_iload_n hx hb dX4_count_66 rfl (lv_at hl 2 rfl) ?_
        rcases kz_spl (n := n) (M := 5) 5 (by decide) with hout | ⟨j9, hj9, hj8⟩
        · refine lv_tableOut (tgt := 128) hx hb dX4_count_67 (kz_out hout) (by decide) ?_
          refine lv_aload_n hx hb dX4_count_128 rfl (lv_at hl 1 rfl) ?_
          refine kd_calli (va_runV (As := []) (rest := []) ⟨hx, hb, hml, hown, hts⟩ (k_deadR4 l dC dI dA ad _ τ pv _ _ hI mm fa sa aa ia sf mb mr mk mr hW ) (cwV 0 hts gX4_count_X4_deadRows rfl rfl rfl (by decide +kernel) ⟨Nat.le_of_ble_eq_true rfl, Nat.le_of_ble_eq_true rfl⟩) (kd_preV hP hD hK hS hA hE hI hW.tm rfl rfl) rfl rfl hl.1 rfl (lv_room (Nat.le_of_ble_eq_true rfl)) dX4_count_129 ⟨Nat.le_of_ble_eq_true rfl, Nat.le_of_ble_eq_true rfl⟩) hD hS hA (fun r_16 u_15 H locs hw hP hD hS => ?_)
          have hI := hw
          refine W.widen (k := 0) (n := 0) (Nat.le_of_ble_eq_true rfl) (Nat.le_of_ble_eq_true rfl) ?_
          exact W.iret (v := r_16) hx hb hr (fun t ht hW9 => ⟨⟨r_16, (u_15.1, u_15.2), rfl, ⟨_, _, hF, hW, hI⟩, by rw [ht]; exact hP, va_K.moved hW9.alike hK, hD⟩, hS.F ht⟩) hS.2.2 dX4_count_132
        · rcases (show j9 = 0 ∨ j9 = 1 ∨ j9 = 2 ∨ j9 = 3 ∨ j9 = 4 ∨ j9 = 5 by omega) with rfl | rfl | rfl | rfl | rfl | rfl
          · obtain rfl : n = 0 := hj8
            refine lv_tableIn (tgt := 104) hx hb dX4_count_67 (by decide) (by decide) rfl (by decide) ?_
            refine lv_aload_n hx hb dX4_count_104 rfl (lv_at hl 1 rfl) ?_
            refine kp_get hx hb hts i_X4 hown hK hP hI hW.tm rfl rfl 1 (by decide) (by decide) (hts (.fieldLink RX4 93 "IslandSolverModel" "bodies" "I") (by decide +kernel)) (fun _ h9 => h9) dX4_count_105 (kq_P (v0 := .int (nI mb)) rfl hW.p1 fun h_18 => ?_)
            refine W.widen (k := 0) (n := 0) (Nat.le_of_ble_eq_true rfl) (Nat.le_of_ble_eq_true rfl) ?_
            exact W.iret (v := nI mb) hx hb hr (fun t ht hW9 => ⟨⟨nI mb, (u_13.1, u_13.2), rfl, ⟨_, _, hF, hW, hI⟩, by rw [ht]; exact hP, va_K.moved hW9.alike hK, hD⟩, hS.F ht⟩) hS.2.2 dX4_count_108
          · obtain rfl : n = 1 := hj8
            refine lv_tableIn (tgt := 109) hx hb dX4_count_67 (by decide) (by decide) rfl (by decide) ?_
            refine lv_aload_n hx hb dX4_count_109 rfl (lv_at hl 1 rfl) ?_
            refine kp_get hx hb hts i_X4 hown hK hP hI hW.tm rfl rfl 6 (by decide) (by decide) (hts (.fieldLink RX4 129 "IslandSolverModel" "rows" "I") (by decide +kernel)) (fun _ h9 => h9) dX4_count_110 (kq_P (v0 := .int (nI mr)) rfl hW.p6 fun h_20 => ?_)
            refine W.widen (k := 0) (n := 0) (Nat.le_of_ble_eq_true rfl) (Nat.le_of_ble_eq_true rfl) ?_
            exact W.iret (v := nI mr) hx hb hr (fun t ht hW9 => ⟨⟨nI mr, (u_13.1, u_13.2), rfl, ⟨_, _, hF, hW, hI⟩, by rw [ht]; exact hP, va_K.moved hW9.alike hK, hD⟩, hS.F ht⟩) hS.2.2 dX4_count_113
          · obtain rfl : n = 2 := hj8
            refine lv_tableIn (tgt := 114) hx hb dX4_count_67 (by decide) (by decide) rfl (by decide) ?_
            refine lv_aload_n hx hb dX4_count_114 rfl (lv_at hl 1 rfl) ?_
            refine kp_get hx hb hts i_X4 hown hK hP hI hW.tm rfl rfl 28 (by decide) (by decide) (hts (.fieldLink RX4 189 "IslandSolverModel" "islands" "I") (by decide +kernel)) (fun _ h9 => h9) dX4_count_115 (kq_L6 rfl fun x_21 w_23 h_22 => ?_)
            refine W.widen (k := 0) (n := 0) (Nat.le_of_ble_eq_true rfl) (Nat.le_of_ble_eq_true rfl) ?_
            exact W.iret (v := nI x_21) hx hb hr (fun t ht hW9 => ⟨⟨nI x_21, (u_13.1, u_13.2), rfl, ⟨_, _, hF, hW, hI⟩, by rw [ht]; exact hP, va_K.moved hW9.alike hK, hD⟩, hS.F ht⟩) hS.2.2 dX4_count_118
          · obtain rfl : n = 3 := hj8
            refine lv_tableIn (tgt := 119) hx hb dX4_count_67 (by decide) (by decide) rfl (by decide) ?_
            refine lv_iload_n hx hb dX4_count_119 rfl (lv_at hl 0 rfl) ?_
            refine W.widen (k := 0) (n := 0) (Nat.le_of_ble_eq_true rfl) (Nat.le_of_ble_eq_true rfl) ?_
            exact W.iret (v := r_14) hx hb hr (fun t ht hW9 => ⟨⟨r_14, (u_13.1, u_13.2), rfl, ⟨_, _, hF, hW, hI⟩, by rw [ht]; exact hP, va_K.moved hW9.alike hK, hD⟩, hS.F ht⟩) hS.2.2 dX4_count_120
          · obtain rfl : n = 4 := hj8
            refine lv_tableIn (tgt := 121) hx hb dX4_count_67 (by decide) (by decide) rfl (by decide) ?_
            refine lv_iload_n hx hb dX4_count_121 rfl (lv_at hl 3 rfl) ?_
            refine W.widen (k := 0) (n := 0) (Nat.le_of_ble_eq_true rfl) (Nat.le_of_ble_eq_true rfl) ?_
            exact W.iret (v := c8) hx hb hr (fun t ht hW9 => ⟨⟨c8, (u_13.1, u_13.2), rfl, ⟨_, _, hF, hW, hI⟩, by rw [ht]; exact hP, va_K.moved hW9.alike hK, hD⟩, hS.F ht⟩) hS.2.2 dX4_count_122
          · obtain rfl : n = 5 := hj8
            refine lv_tableIn (tgt := 123) hx hb dX4_count_67 (by decide) (by decide) rfl (by decide) ?_
            refine lv_aload_n hx hb dX4_count_123 rfl (lv_at hl 1 rfl) ?_
            refine kp_get hx hb hts i_X4 hown hK hP hI hW.tm rfl rfl 27 (by decide) (by decide) (hts (.fieldLink RX4 219 "IslandSolverModel" "steps" "I") (by decide +kernel)) (fun _ h9 => h9) dX4_count_124 (kq_I fun x_24 => ?_)
            refine W.widen (k := 0) (n := 0) (Nat.le_of_ble_eq_true rfl) (Nat.le_of_ble_eq_true rfl) ?_
            exact W.iret (v := x_24) hx hb hr (fun t ht hW9 => ⟨⟨x_24, (u_13.1, u_13.2), rfl, ⟨_, _, hF, hW, hI⟩, by rw [ht]; exact hP, va_K.moved hW9.alike hK, hD⟩, hS.F ht⟩) hS.2.2 dX4_count_127
      · have n_26 : ¬ mb ≤ i := fun h9 => (show ¬ nI mb ≤ nI i from c_11) ((nI_leI (by omega) (by omega)).mpr h9)
        refine lv_aload_n hx hb dX4_count_38 rfl (lv_at hl 0 rfl) ?_
        refine kp_get hx hb hts i_X4 hown hK hP hI hW.tm rfl rfl 3 (by decide) (by decide) (hts (.fieldLink RX4 13 "IslandSolverModel" "asleep" "[Z") (by decide +kernel)) (fun _ h9 => h9) dX4_count_39 (kq_RE 16 (by decide) fun x_27 h_28_e h_28 => ?_)
        refine lv_iload_n hx hb dX4_count_42 rfl (lv_at hl 3 rfl) ?_
        have hj_29 : i < τ 3 x_27 := by rw [show τ 3 x_27 = 256 from (hI.arr h_28 rfl).2.1]; omega
        refine W.eq (g2 := F0 m 43 ls (.int (nI (i)) :: .ref x_27 :: [])) rfl ?_
        refine kp_zald (j := i) hx hb hK hP hI h_28 rfl hj_29 dX4_count_43 (ka_Z fun x_30 h_31 => ?_)
        refine lv_if_eq (tgt := 53) hx hb dX4_count_44 (by decide) (fun c_32 => ?_) (fun c_32 => ?_)
        · subst c_32
          refine lv_iload_n hx hb dX4_count_53 rfl (lv_at hl 2 rfl) ?_
          refine lv_istore_n (lv' := [(2, .int c8), (0, .ref mm), (1, .int n), (3, .int (nI i))]) hx hb dX4_count_54 rfl hl (by decide) rfl (fun ls hl => ?_)
          refine lv_iinc (v := nI (i + 1)) (lv' := [(3, .int (nI (i + 1))), (2, .int c8), (0, .ref mm), (1, .int n)]) hx hb dX4_count_55 hl (k := 3) rfl (nI_add i 1) (by decide) rfl (fun ls hl => ?_)
          refine lv_goto (tgt := 30) hx hb dX4_count_58 (by decide) ?_
          have hl : lv_has ls 4 [(0, .ref mm), (1, .int n), (2, .int c8), (3, .int (nI (i + 1)))] := lv_sub hl [2, 3, 1, 0] rfl
          exact ih30 (fun _ _ => .null) _ _ _ _ _ ⟨(i + 1), c8, by omega, hI, hP, hD, hS, hl, by omega⟩
        · obtain rfl : x_30 = 1 := (h_31).resolve_left c_32
          refine lv_iload_n hx hb dX4_count_47 rfl (lv_at hl 2 rfl) ?_
          refine lv_iconst (v := 1) hx hb dX4_count_48 (by decide) ?_
          refine lv_iadd hx hb dX4_count_49 ?_
          refine lv_topi (fun x_33 ex_33 => ?_)
          refine lv_goto (tgt := 54) hx hb dX4_count_50 (by decide) ?_
          refine lv_istore_n (lv' := [(2, .int x_33), (0, .ref mm), (1, .int n), (3, .int (nI i))]) hx hb dX4_count_54 rfl hl (by decide) rfl (fun ls hl => ?_)
          refine lv_iinc (v := nI (i + 1)) (lv' := [(3, .int (nI (i + 1))), (2, .int x_33), (0, .ref mm), (1, .int n)]) hx hb dX4_count_55 hl (k := 3) rfl (nI_add i 1) (by decide) rfl (fun ls hl => ?_)
          refine lv_goto (tgt := 30) hx hb dX4_count_58 (by decide) ?_
          have hl : lv_has ls 4 [(0, .ref mm), (1, .int n), (2, .int x_33), (3, .int (nI (i + 1)))] := lv_sub hl [2, 3, 1, 0] rfl
          exact ih30 (fun _ _ => .null) _ _ _ _ _ ⟨(i + 1), x_33, by omega, hI, hP, hD, hS, hl, by omega⟩
set_option maxHeartbeats 4000000 in
set_option maxRecDepth 100000 in
theorem m_p_motion (l : Launch) (dC : Nat → ClassId) (dI : Nat → Nat → Nat) (dA : Nat → ClassId) (ad sz : Nat) (τ : Nat → Nat → Nat) (pv : Nat → Nat → Value) (L : List Nat) (f : Nat → va_E) (hI : kI dA τ pv L f) (mm fa sa aa ia sf mb mr mk : Nat) (hW : kMd τ pv mm fa sa aa ia sf mb mr mk mr)  : Met l yX4_motion wsX4_motion ({ frames := 1, cells := 0, slots := 0, locals := 24 } : Room) (va_Pc [.ref mm] (kB dC dI dA ad sz L f)) (va_Qf (fun r u => nn r ∧ kPostM dA τ pv mm fa sa aa ia sf mb mr u) (kR dC dI dA (va_A (va_pl L f) sz)) (va_A (va_pl L f) sz)) 0 0 (va_A (va_pl L f) sz) := by
  refine Met.ofW (cc := cX4_motion) (maxL := 3) (ret := (some .float)) (by decide) rfl ?_
  intro p e s m args below meth c s₁ B hml hv
  obtain ⟨rfl, hsz, hP, hK, hD0, hE⟩ := hv
  have hx := B.exec
  have hb := B.bytes
  have hr := B.returns
  have hts := atoms_spec (ws := wsX4_motion) B.pre
  have hown : s.vm.findClass RX4 = some m.cls := findClass_of_methodNamed B.named
  have hlocks := B.notSynchronized
  have i_X4 : ∀ w ∈ u_ws RX4 TX4 35, w ∈ wsX4_motion := by decide +kernel
  subst hsz
  have hD := hD0.self (sz := s.heap.size)
  generalize hAe : va_A (va_pl L f) s.heap.size = A at hD hE ⊢
  have hA : ∀ q : Nat, s.heap.size ≤ q → A q := fun q h => by rw [← hAe]; exact Or.inr h
  have hS : va_S A s.heap s.heap [] := va_S.rf
  have hP : va_P (dC, dI) vwCl (va_pl L f) s.heap := hP
  have hK : va_K (dC, dI) vwCl (tyA dA) s := hK
  have hl := lv_entry ([.ref mm]) (n := 3) (Nat.le_of_ble_eq_true rfl)
  rw [lg_entry_eq]
  generalize (lg_sl ([.ref mm]) ++ List.replicate (3 - (lg_sl ([.ref mm])).length) Slot.unset).toArray = ls at hl ⊢
  have hl : lv_has ls 3 [(0, .ref mm)] := hl
  have hnb := hW.lb
  have hnr := hW.lr
  have hnk := hW.lk
  have hni := hW.li
  have hF : kFr kPx τ pv τ pv := kFr.rf
  refine lv_aload_n hx hb dX4_motion_0 rfl (lv_at hl 0 rfl) ?_
  refine lv_iconst (v := 0) hx hb dX4_motion_1 (by decide) ?_
  refine kp_putP (v := .int 0) (ty := .int) hx hb hts i_X4 tyX4 tyX4_ok nmX4 hown hK hP hD hS hI hW.tm rfl rfl 0 (by decide) (by decide) (hts (.fieldLink RX4 90 "IslandSolverModel" "thrown" "I") (by decide +kernel)) (fun _ h9 => h9) rfl (by decide +kernel) rfl rfl rfl (kv_I _) dX4_motion_2 (fun f H locs hI hP hD hS => ?_)
  have hF := hF.trans (kFr.up (P := kPx) (w := .int 0) (k := 0) hW.tm rfl)
  have hW := hW.frw (kFr.up (P := kPy mr) (w := .int 0) (k := 0) hW.tm rfl)
  refine lv_fconst0 hx hb dX4_motion_5 ?_
  refine lv_fstore_n (lv' := [(1, .float FP.fconst0), (0, .ref mm)]) hx hb dX4_motion_6 rfl hl (by decide) rfl (fun ls hl => ?_)
  refine lv_iconst (v := 0) hx hb dX4_motion_7 (by decide) ?_
  refine lv_istore_n (lv' := [(2, .int 0), (1, .float FP.fconst0), (0, .ref mm)]) hx hb dX4_motion_8 rfl hl (by decide) rfl (fun ls hl => ?_)
  have hl : lv_has ls 3 [(0, .ref mm), (1, .float FP.fconst0), (2, .int 0)] := lv_sub hl [2, 1, 0] rfl
  refine kl_loop (Inv := fun n9 _ L f H locs ls => ∃ (i : Nat) (s9 : UInt32), mb - i < n9 ∧ kI dA τ (kup pv mm 0 (.int 0)) L f ∧ va_P (dC, dI) vwCl (va_pl L f) H ∧ va_D A (va_pl L f) ∧ va_S A s.heap H locs ∧ lv_has ls 3 [(0, .ref mm), (1, .float s9), (2, .int (nI i))] ∧ nn s9 ∧ i ≤ mb) (fun _ _ _ _ _ _ h9 => by obtain ⟨_, _, hn, _⟩ := h9; exact Nat.not_lt_zero _ hn) (fun n9 ih9 _ L f H locs ls h9 => ?_) (mb - 0 + 1) (fun _ _ => .null) _ _ _ _ _ ⟨0, FP.fconst0, Nat.lt_succ_self _, hI, hP, hD, hS, hl, nn_0, Nat.zero_le _⟩
  obtain ⟨i, s9, hn9, hI, hP, hD, hS, hl, hs9, hib⟩ := h9
  refine lv_iload_n hx hb dX4_motion_9 rfl (lv_at hl 2 rfl) ?_
  refine lv_aload_n hx hb dX4_motion_10 rfl (lv_at hl 0 rfl) ?_
  refine kp_get hx hb hts i_X4 hown hK hP hI hW.tm rfl rfl 1 (by decide) (by decide) (hts (.fieldLink RX4 93 "IslandSolverModel" "bodies" "I") (by decide +kernel)) (fun _ h9 => h9) dX4_motion_11 (kq_P (v0 := .int (nI mb)) rfl hW.p1 fun h_2 => ?_)
  refine lv_icmp_ge (tgt := 43) hx hb dX4_motion_14 (by decide) (fun c_3 => ?_) (fun c_3 => ?_)
  · have n_4 : mb ≤ i := (nI_leI (by omega) (by omega)).mp (show nI mb ≤ nI i from c_3)
    refine lv_fload_n hx hb dX4_motion_43 rfl (lv_at hl 1 rfl) ?_
    refine W.widen (k := 0) (n := 0) (Nat.le_of_ble_eq_true rfl) (Nat.le_of_ble_eq_true rfl) ?_
    exact W.fret (v := s9) hx hb hr (fun t ht hW9 => ⟨⟨s9, (L, f), rfl, ⟨hs9, ⟨_, _, hF, hW, hI⟩⟩, by rw [ht]; exact hP, va_K.moved hW9.alike hK, hD⟩, hS.F ht⟩) hS.2.2 dX4_motion_44
  · have n_5 : ¬ mb ≤ i := fun h9 => (show ¬ nI mb ≤ nI i from c_3) ((nI_leI (by omega) (by omega)).mpr h9)
    refine lv_aload_n hx hb dX4_motion_17 rfl (lv_at hl 0 rfl) ?_
    refine lv_iload_n hx hb dX4_motion_18 rfl (lv_at hl 2 rfl) ?_
    refine kd_calli (va_runV (As := [.int (nI i)]) (rest := []) ⟨hx, hb, hml, hown, hts⟩ (k_movN l dC dI dA ad _ τ (kup pv mm 0 (.int 0)) _ _ hI mm fa sa aa ia sf mb mr mk mr hW i (by omega)) (cwV 1 hts gX4_motion_X4_movable rfl rfl rfl (by decide +kernel) ⟨Nat.le_of_ble_eq_true rfl, Nat.le_of_ble_eq_true rfl⟩) (kd_preV hP hD hK hS hA hE hI hW.tm rfl rfl) rfl rfl hl.1 rfl (lv_room (Nat.le_of_ble_eq_true rfl)) dX4_motion_19 ⟨Nat.le_of_ble_eq_true rfl, Nat.le_of_ble_eq_true rfl⟩) hD hS hA (fun r_7 u_6 H locs hw hP hD hS => ?_)
    obtain ⟨hr_7, hI⟩ := hw
    refine lv_if_eq (tgt := 35) hx hb dX4_motion_22 (by decide) (fun c_8 => ?_) (fun c_8 => ?_)
    · subst c_8
      refine lv_fload_n hx hb dX4_motion_35 rfl (lv_at hl 1 rfl) ?_
      refine lv_fstore_n (lv' := [(1, .float s9), (0, .ref mm), (2, .int (nI i))]) hx hb dX4_motion_36 rfl hl (by decide) rfl (fun ls hl => ?_)
      refine lv_iinc (v := nI (i + 1)) (lv' := [(2, .int (nI (i + 1))), (1, .float s9), (0, .ref mm)]) hx hb dX4_motion_37 hl (k := 2) rfl (nI_add i 1) (by decide) rfl (fun ls hl => ?_)
      refine lv_goto (tgt := 9) hx hb dX4_motion_40 (by decide) ?_
      have hl : lv_has ls 3 [(0, .ref mm), (1, .float s9), (2, .int (nI (i + 1)))] := lv_sub hl [2, 1, 0] rfl
      exact ih9 (fun _ _ => .null) _ _ _ _ _ ⟨(i + 1), s9, by omega, hI, hP, hD, hS, hl, hs9, by omega⟩
    · obtain rfl : r_7 = 1 := (hr_7).resolve_left c_8
      refine lv_fload_n hx hb dX4_motion_25 rfl (lv_at hl 1 rfl) ?_
      refine lv_aload_n hx hb dX4_motion_26 rfl (lv_at hl 0 rfl) ?_
      refine lv_iload_n hx hb dX4_motion_27 rfl (lv_at hl 2 rfl) ?_
      refine kd_callf (va_runV (As := [.int (nI i)]) (rest := [.float s9]) ⟨hx, hb, hml, hown, hts⟩ (k_square l dC dI dA ad _ τ (kup pv mm 0 (.int 0)) _ _ hI mm fa sa aa ia sf mb mr mk mr hW i (by omega)) (cwV 1 hts gX4_motion_X4_square rfl rfl rfl (by decide +kernel) ⟨Nat.le_of_ble_eq_true rfl, Nat.le_of_ble_eq_true rfl⟩) (kd_preV hP hD hK hS hA hE hI hW.tm rfl rfl) rfl rfl hl.1 rfl (lv_room (Nat.le_of_ble_eq_true rfl)) dX4_motion_28 ⟨Nat.le_of_ble_eq_true rfl, Nat.le_of_ble_eq_true rfl⟩) hD hS hA (fun r_10 u_9 H locs hw hP hD hS => ?_)
      obtain ⟨hr_10, nr_10, hI⟩ := hw
      refine kw_nnA hx hb dX4_motion_31 hs9 nr_10 (fun z_11 hz_12 => ?_)
      refine lv_goto (tgt := 36) hx hb dX4_motion_32 (by decide) ?_
      refine lv_fstore_n (lv' := [(1, .float z_11), (0, .ref mm), (2, .int (nI i))]) hx hb dX4_motion_36 rfl hl (by decide) rfl (fun ls hl => ?_)
      refine lv_iinc (v := nI (i + 1)) (lv' := [(2, .int (nI (i + 1))), (1, .float z_11), (0, .ref mm)]) hx hb dX4_motion_37 hl (k := 2) rfl (nI_add i 1) (by decide) rfl (fun ls hl => ?_)
      refine lv_goto (tgt := 9) hx hb dX4_motion_40 (by decide) ?_
      have hl : lv_has ls 3 [(0, .ref mm), (1, .float z_11), (2, .int (nI (i + 1)))] := lv_sub hl [2, 1, 0] rfl
      exact ih9 (fun _ _ => .null) _ _ _ _ _ ⟨(i + 1), z_11, by omega, hI, hP, hD, hS, hl, hz_12, by omega⟩
