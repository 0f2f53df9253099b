set_option maxHeartbeats 4000000 in
set_option maxRecDepth 100000 in
theorem m_p_clear (l : Launch) (dC : Nat → ClassId) (dI : Nat → Nat → Nat) (dA : Nat → ClassId) (ad sz : Nat) (τ : Nat → Nat → Nat) (pv0 : Nat → Nat → Value) (L : List Nat) (f : Nat → va_E) (hI : kI dA τ pv0 L f) (mm fa sa aa ia sf mb mr mk : Nat) (hW : kMd τ pv0 mm fa sa aa ia sf mb mr mk mr)  : Met l yX4_clear wsX4_clear ({ frames := 0, cells := 0, slots := 0, locals := 0 } : Room) (va_Pc [.ref mm] (kB dC dI dA ad sz L f)) (va_Qi (fun r u => r = nI mr ∧ kPostM dA τ pv0 mm fa sa aa ia sf mb 0 u) (kR dC dI dA (va_A (va_pl L f) sz)) (va_A (va_pl L f) sz)) 0 0 (va_A (va_pl L f) sz) := by
  refine Met.ofW (cc := cX4_clear) (maxL := 4) (ret := (some .int)) (by decide) rfl ?_
  intro p e s m args below meth c s₁ B hml hv
  obtain ⟨rfl, hsz, hP, hK, hD0, hE⟩ := hv
  have hx := B.exec
  have hb := B.bytes
  have hr := B.returns
  have hts := atoms_spec (ws := wsX4_clear) B.pre
  have hown : s.vm.findClass RX4 = some m.cls := findClass_of_methodNamed B.named
  have hlocks := B.notSynchronized
  have i_X4 : ∀ w ∈ u_ws RX4 TX4 35, w ∈ wsX4_clear := by decide +kernel
  subst hsz
  have hD := hD0.self (sz := s.heap.size)
  generalize hAe : va_A (va_pl L f) s.heap.size = A at hD hE ⊢
  have hA : ∀ q : Nat, s.heap.size ≤ q → A q := fun q h => by rw [← hAe]; exact Or.inr h
  have hS : va_S A s.heap s.heap [] := va_S.rf
  have hP : va_P (dC, dI) vwCl (va_pl L f) s.heap := hP
  have hK : va_K (dC, dI) vwCl (tyA dA) s := hK
  have hl := lv_entry ([.ref mm]) (n := 4) (Nat.le_of_ble_eq_true rfl)
  rw [lg_entry_eq]
  generalize (lg_sl ([.ref mm]) ++ List.replicate (4 - (lg_sl ([.ref mm])).length) Slot.unset).toArray = ls at hl ⊢
  have hl : lv_has ls 4 [(0, .ref mm)] := hl
  have hnb := hW.lb
  have hnr := hW.lr
  have hnk := hW.lk
  have hni := hW.li
  have hF : kFr kPx τ pv0 τ pv0 := kFr.rf
  refine lv_aload_n hx hb dX4_clear_0 rfl (lv_at hl 0 rfl) ?_
  refine lv_iconst (v := 0) hx hb dX4_clear_1 (by decide) ?_
  refine kp_putP (v := .int 0) (ty := .int) hx hb hts i_X4 tyX4 tyX4_ok nmX4 hown hK hP hD hS hI hW.tm rfl rfl 0 (by decide) (by decide) (hts (.fieldLink RX4 90 "IslandSolverModel" "thrown" "I") (by decide +kernel)) (fun _ h9 => h9) rfl (by decide +kernel) rfl rfl rfl (kv_I _) dX4_clear_2 (fun f H locs hI hP hD hS => ?_)
  have hF := hF.trans (kFr.up (P := kPx) (w := .int 0) (k := 0) hW.tm rfl)
  have hW := hW.frw (kFr.up (P := kPy mr) (w := .int 0) (k := 0) hW.tm rfl)
  refine lv_aload_n hx hb dX4_clear_5 rfl (lv_at hl 0 rfl) ?_
  refine lv_iconst (v := 0) hx hb dX4_clear_6 (by decide) ?_
  refine kp_putP (v := .int 0) (ty := .int) hx hb hts i_X4 tyX4 tyX4_ok nmX4 hown hK hP hD hS hI hW.tm rfl rfl 19 (by decide) (by decide) (hts (.fieldLink RX4 122 "IslandSolverModel" "kept" "I") (by decide +kernel)) (fun _ h9 => h9) rfl (by decide +kernel) rfl rfl rfl (kv_S (by decide) ⟨0, rfl, by omega⟩) dX4_clear_7 (fun f H locs hI hP hD hS => ?_)
  have hF := hF.trans (kFr.up (P := kPx) (w := .int 0) (k := 19) hW.tm rfl)
  have hW := hW.setK (k9 := 0) (by omega)
  refine lv_iconst (v := 0) hx hb dX4_clear_10 (by decide) ?_
  refine lv_istore_n (lv' := [(1, .int 0), (0, .ref mm)]) hx hb dX4_clear_11 rfl hl (by decide) rfl (fun ls hl => ?_)
  have hl : lv_has ls 4 [(0, .ref mm), (1, .int 0)] := lv_sub hl [1, 0] rfl
  refine kl_loop (Inv := fun n12 pv L f H locs ls => ∃ (i : Nat) (k9 : Nat), mr - i < n12 ∧ kI dA τ pv L f ∧ va_P (dC, dI) vwCl (va_pl L f) H ∧ va_D A (va_pl L f) ∧ va_S A s.heap H locs ∧ lv_has ls 4 [(0, .ref mm), (1, .int (nI i))] ∧ kFr kPx τ pv0 τ pv ∧ kMd τ pv mm fa sa aa ia sf mb mr k9 mr ∧ k9 ≤ i ∧ i ≤ mr) (fun _ _ _ _ _ _ h9 => by obtain ⟨_, _, hn, _⟩ := h9; exact Nat.not_lt_zero _ hn) (fun n12 ih12 pv L f H locs ls h9 => ?_) (mr - 0 + 1) ((kup (kup pv0 mm 0 (.int 0)) mm 19 (.int 0))) _ _ _ _ _ ⟨0, 0, Nat.lt_succ_self _, hI, hP, hD, hS, hl, hF, hW, Nat.zero_le _, Nat.zero_le _⟩
  obtain ⟨i, k9, hn12, hI, hP, hD, hS, hl, hF, hW, hki, hib⟩ := h9
  refine lv_iload_n hx hb dX4_clear_12 rfl (lv_at hl 1 rfl) ?_
  refine lv_aload_n hx hb dX4_clear_13 rfl (lv_at hl 0 rfl) ?_
  refine kp_get hx hb hts i_X4 hown hK hP hI hW.tm rfl rfl 6 (by decide) (by decide) (hts (.fieldLink RX4 129 "IslandSolverModel" "rows" "I") (by decide +kernel)) (fun _ h9 => h9) dX4_clear_14 (kq_P (v0 := .int (nI mr)) rfl hW.p6 fun h_2 => ?_)
  refine lv_icmp_ge (tgt := 126) hx hb dX4_clear_17 (by decide) (fun c_3 => ?_) (fun c_3 => ?_)
  · have n_4 : mr ≤ i := (nI_leI (by omega) (by omega)).mp (show nI mr ≤ nI i from c_3)
    refine lv_aload_n hx hb dX4_clear_126 rfl (lv_at hl 0 rfl) ?_
    refine kp_get hx hb hts i_X4 hown hK hP hI hW.tm rfl rfl 6 (by decide) (by decide) (hts (.fieldLink RX4 129 "IslandSolverModel" "rows" "I") (by decide +kernel)) (fun _ h9 => h9) dX4_clear_127 (kq_P (v0 := .int (nI mr)) rfl hW.p6 fun h_6 => ?_)
    refine lv_istore_n (lv' := [(1, .int (nI mr)), (0, .ref mm)]) hx hb dX4_clear_130 rfl hl (by decide) rfl (fun ls hl => ?_)
    refine lv_aload_n hx hb dX4_clear_131 rfl (lv_at hl 1 rfl) ?_
    refine lv_iconst (v := 0) hx hb dX4_clear_132 (by decide) ?_
    refine kp_putP (v := .int 0) (ty := .int) hx hb hts i_X4 tyX4 tyX4_ok nmX4 hown hK hP hD hS hI hW.tm rfl rfl 6 (by decide) (by decide) (hts (.fieldLink RX4 129 "IslandSolverModel" "rows" "I") (by decide +kernel)) (fun _ h9 => h9) rfl (by decide +kernel) rfl rfl rfl (kv_S (by decide) ⟨0, rfl, by omega⟩) dX4_clear_133 (fun f H locs hI hP hD hS => ?_)
    have hF := hF.trans (kFr.up (P := kPx) (w := .int 0) (k := 6) hW.tm rfl)
    have hW := hW.setR0
    refine lv_iload_n hx hb dX4_clear_136 rfl (lv_at hl 0 rfl) ?_
    refine W.widen (k := 0) (n := 0) (Nat.le_of_ble_eq_true rfl) (Nat.le_of_ble_eq_true rfl) ?_
    exact W.iret (v := nI mr) hx hb hr (fun t ht hW9 => ⟨⟨nI mr, (L, f), rfl, ⟨rfl, ⟨_, k9, hF, hW, hI⟩⟩, by rw [ht]; exact hP, va_K.moved hW9.alike hK, hD⟩, hS.F ht⟩) hS.2.2 dX4_clear_137
  · have n_7 : ¬ mr ≤ i := fun h9 => (show ¬ nI mr ≤ nI i from c_3) ((nI_leI (by omega) (by omega)).mpr h9)
    refine lv_aload_n hx hb dX4_clear_20 rfl (lv_at hl 0 rfl) ?_
    refine kp_get hx hb hts i_X4 hown hK hP hI hW.tm rfl rfl 16 (by decide) (by decide) (hts (.fieldLink RX4 51 "IslandSolverModel" "keys" "[I") (by decide +kernel)) (fun _ h9 => h9) dX4_clear_21 (kq_RE 28 (by decide) fun x_8 h_9_e h_9 => ?_)
    refine lv_iload_n hx hb dX4_clear_24 rfl (lv_at hl 1 rfl) ?_
    have hj_10 : i < τ 3 x_8 := by rw [show τ 3 x_8 = 1024 from (hI.arr h_9 rfl).2.1]; omega
    refine W.eq (g2 := F0 m 25 ls (.int (nI (i)) :: .ref x_8 :: [])) rfl ?_
    refine kp_iald (j := i) hx hb hK hP hI h_9 rfl hj_10 dX4_clear_25 (ka_I fun x_11 => ?_)
    refine lv_if_ge (tgt := 33) hx hb dX4_clear_26 (by decide) (fun c_13 => ?_) (fun c_13 => ?_)
    · refine lv_iconst (v := 0) hx hb dX4_clear_33 (by decide) ?_
      refine lv_istore_n (lv' := [(2, .int 0), (0, .ref mm), (1, .int (nI i))]) hx hb dX4_clear_34 rfl hl (by decide) rfl (fun ls hl => ?_)
      refine lv_iconst (v := 0) hx hb dX4_clear_35 (by decide) ?_
      refine lv_istore_n (lv' := [(3, .int 0), (2, .int 0), (0, .ref mm), (1, .int (nI i))]) hx hb dX4_clear_36 rfl hl (by decide) rfl (fun ls hl => ?_)
      have hl : lv_has ls 4 [(0, .ref mm), (1, .int (nI i)), (2, .int 0), (3, .int 0)] := lv_sub hl [2, 3, 1, 0] rfl
      refine kl_loop (Inv := fun n37 _ L f H locs ls => ∃ (i3 : Nat) (z2 : Int32), k9 - i3 < n37 ∧ kI dA τ pv L f ∧ va_P (dC, dI) vwCl (va_pl L f) H ∧ va_D A (va_pl L f) ∧ va_S A s.heap H locs ∧ lv_has ls 4 [(0, .ref mm), (1, .int (nI i)), (2, .int z2), (3, .int (nI i3))] ∧ i3 ≤ k9 ∧ (z2 = 0 ∨ z2 = 1)) (fun _ _ _ _ _ _ h9 => by obtain ⟨_, _, hn, _⟩ := h9; exact Nat.not_lt_zero _ hn) (fun n37 ih37 _ L f H locs ls h9 => ?_) (k9 - 0 + 1) (fun _ _ => .null) _ _ _ _ _ ⟨0, 0, Nat.lt_succ_self _, hI, hP, hD, hS, hl, Nat.zero_le _, (Or.inl rfl)⟩
      obtain ⟨i3, z2, hn37, hI, hP, hD, hS, hl, hib, hz2⟩ := h9
      refine lv_iload_n hx hb dX4_clear_37 rfl (lv_at hl 3 rfl) ?_
      refine lv_aload_n hx hb dX4_clear_38 rfl (lv_at hl 0 rfl) ?_
      refine kp_get hx hb hts i_X4 hown hK hP hI hW.tm rfl rfl 19 (by decide) (by decide) (hts (.fieldLink RX4 122 "IslandSolverModel" "kept" "I") (by decide +kernel)) (fun _ h9 => h9) dX4_clear_39 (kq_P (v0 := .int (nI k9)) rfl hW.p19 fun h_15 => ?_)
      refine lv_icmp_ge (tgt := 76) hx hb dX4_clear_42 (by decide) (fun c_16 => ?_) (fun c_16 => ?_)
      · have n_17 : k9 ≤ i3 := (nI_leI (by omega) (by omega)).mp (show nI k9 ≤ nI i3 from c_16)
        refine lv_iload_n hx hb dX4_clear_76 rfl (lv_at hl 2 rfl) ?_
        refine lv_if_ne (tgt := 120) hx hb dX4_clear_77 (by decide) (fun c_18 => ?_) (fun c_18 => ?_)
        · obtain rfl : z2 = 1 := (hz2).resolve_left c_18
          refine lv_iinc (v := nI (i + 1)) (lv' := [(1, .int (nI (i + 1))), (0, .ref mm), (2, .int 1), (3, .int (nI i3))]) hx hb dX4_clear_120 hl (k := 1) rfl (nI_add i 1) (by decide) rfl (fun ls hl => ?_)
          refine lv_goto (tgt := 12) hx hb dX4_clear_123 (by decide) ?_
          have hl : lv_has ls 4 [(0, .ref mm), (1, .int (nI (i + 1)))] := lv_sub hl [1, 0] rfl
          exact ih12 (pv) _ _ _ _ _ ⟨(i + 1), k9, by omega, hI, hP, hD, hS, hl, hF, hW, by omega, by omega⟩
        · subst c_18
          refine lv_aload_n hx hb dX4_clear_80 rfl (lv_at hl 0 rfl) ?_
          refine kp_get hx hb hts i_X4 hown hK hP hI hW.tm rfl rfl 20 (by decide) (by decide) (hts (.fieldLink RX4 60 "IslandSolverModel" "keptKeys" "[I") (by decide +kernel)) (fun _ h9 => h9) dX4_clear_81 (kq_RE 31 (by decide) fun x_19 h_20_e h_20 => ?_)
          refine lv_aload_n hx hb dX4_clear_84 rfl (lv_at hl 0 rfl) ?_
          refine kp_get hx hb hts i_X4 hown hK hP hI hW.tm rfl rfl 19 (by decide) (by decide) (hts (.fieldLink RX4 122 "IslandSolverModel" "kept" "I") (by decide +kernel)) (fun _ h9 => h9) dX4_clear_85 (kq_P (v0 := .int (nI k9)) rfl hW.p19 fun h_22 => ?_)
          refine lv_aload_n hx hb dX4_clear_88 rfl (lv_at hl 0 rfl) ?_
          refine kp_get hx hb hts i_X4 hown hK hP hI hW.tm rfl rfl 16 (by decide) (by decide) (hts (.fieldLink RX4 51 "IslandSolverModel" "keys" "[I") (by decide +kernel)) (fun _ h9 => h9) dX4_clear_89 (kq_RE 28 (by decide) fun x_23 h_24_e h_24 => ?_)
          refine lv_iload_n hx hb dX4_clear_92 rfl (lv_at hl 1 rfl) ?_
          have hj_25 : i < τ 3 x_23 := by rw [show τ 3 x_23 = 1024 from (hI.arr h_24 rfl).2.1]; omega
          refine W.eq (g2 := F0 m 93 ls (.int (nI (i)) :: .ref x_23 :: [.int (nI k9), .ref x_19])) rfl ?_
          refine kp_iald (j := i) hx hb hK hP hI h_24 rfl hj_25 dX4_clear_93 (ka_I fun x_26 => ?_)
          have hj_28 : k9 < τ 3 x_19 := by rw [show τ 3 x_19 = 1024 from (hI.arr h_20 rfl).2.1]; omega
          refine W.eq (g2 := F0 m 94 ls (.int x_26 :: .int (nI (k9)) :: .ref x_19 :: [])) rfl ?_
          refine kp_iastX (pv' := pv) (j := k9) hx hb hK hP hD hS hI h_20 rfl hj_28 (fun _ _ _ => rfl) (show kPr _ 0 _ _ from (kv_I _)) (kPn_not rfl (by decide)) dX4_clear_94 (fun f H locs hI hP hD hS => ?_)
          refine lv_aload_n hx hb dX4_clear_95 rfl (lv_at hl 0 rfl) ?_
          refine kp_get hx hb hts i_X4 hown hK hP hI hW.tm rfl rfl 21 (by decide) (by decide) (hts (.fieldLink RX4 63 "IslandSolverModel" "keptImpulses" "[F") (by decide +kernel)) (fun _ h9 => h9) dX4_clear_96 (kq_RE 32 (by decide) fun x_29 h_30_e h_30 => ?_)
          refine lv_aload_n hx hb dX4_clear_99 rfl (lv_at hl 0 rfl) ?_
          refine kp_get hx hb hts i_X4 hown hK hP hI hW.tm rfl rfl 19 (by decide) (by decide) (hts (.fieldLink RX4 122 "IslandSolverModel" "kept" "I") (by decide +kernel)) (fun _ h9 => h9) dX4_clear_100 (kq_P (v0 := .int (nI k9)) rfl hW.p19 fun h_32 => ?_)
          refine lv_aload_n hx hb dX4_clear_103 rfl (lv_at hl 0 rfl) ?_
          refine kp_get hx hb hts i_X4 hown hK hP hI hW.tm rfl rfl 17 (by decide) (by decide) (hts (.fieldLink RX4 54 "IslandSolverModel" "impulses" "[F") (by decide +kernel)) (fun _ h9 => h9) dX4_clear_104 (kq_P (v0 := .ref ia) rfl hW.p17 fun h_34 => ?_)
          refine lv_iload_n hx hb dX4_clear_107 rfl (lv_at hl 1 rfl) ?_
          have hj_35 : i < τ 3 ia := by rw [show τ 3 ia = 1024 from (hI.arr hW.ti rfl).2.1]; omega
          refine W.eq (g2 := F0 m 108 ls (.int (nI (i)) :: .ref ia :: [.int (nI k9), .ref x_29])) rfl ?_
          refine kp_fald (j := i) hx hb hK hP hI hW.ti rfl hj_35 dX4_clear_108 (ka_29 fun x_36 h_37 h_37_2 => ?_)
          have hj_38 : k9 < τ 3 x_29 := by rw [show τ 3 x_29 = 1024 from (hI.arr h_30 rfl).2.1]; omega
          refine W.eq (g2 := F0 m 109 ls (.float x_36 :: .int (nI (k9)) :: .ref x_29 :: [])) rfl ?_
          refine kp_fastX (pv' := pv) (j := k9) hx hb hK hP hD hS hI h_30 rfl hj_38 (fun _ _ _ => rfl) (show kPr _ 1224736768 _ _ from (kv_F (by decide) h_37)) (kPn_not rfl (by decide)) dX4_clear_109 (fun f H locs hI hP hD hS => ?_)
          refine lv_aload_n hx hb dX4_clear_110 rfl (lv_at hl 0 rfl) ?_
          refine lv_dup hx hb dX4_clear_111 rfl ?_
          refine kp_get hx hb hts i_X4 hown hK hP hI hW.tm rfl rfl 19 (by decide) (by decide) (hts (.fieldLink RX4 122 "IslandSolverModel" "kept" "I") (by decide +kernel)) (fun _ h9 => h9) dX4_clear_112 (kq_P (v0 := .int (nI k9)) rfl hW.p19 fun h_40 => ?_)
          refine lv_iconst (v := 1) hx hb dX4_clear_115 (by decide) ?_
          refine lv_iadd hx hb dX4_clear_116 ?_
          refine lv_topi (nm_r (show (nI k9) + 1 = nI (k9 + 1) from nI_add k9 1) ?_)
          refine kp_putP (v := .int (nI (k9 + 1))) (ty := .int) hx hb hts i_X4 tyX4 tyX4_ok nmX4 hown hK hP hD hS hI hW.tm rfl rfl 19 (by decide) (by decide) (hts (.fieldLink RX4 122 "IslandSolverModel" "kept" "I") (by decide +kernel)) (fun _ h9 => h9) rfl (by decide +kernel) rfl rfl rfl (kv_S (by decide) ⟨k9 + 1, rfl, by omega⟩) dX4_clear_117 (fun f H locs hI hP hD hS => ?_)
          have hF := hF.trans (kFr.up (P := kPx) (w := .int (nI (k9 + 1))) (k := 19) hW.tm rfl)
          have hW := hW.setK (k9 := k9 + 1) (by omega)
          refine lv_iinc (v := nI (i + 1)) (lv' := [(1, .int (nI (i + 1))), (0, .ref mm), (2, .int 0), (3, .int (nI i3))]) hx hb dX4_clear_120 hl (k := 1) rfl (nI_add i 1) (by decide) rfl (fun ls hl => ?_)
          refine lv_goto (tgt := 12) hx hb dX4_clear_123 (by decide) ?_
          have hl : lv_has ls 4 [(0, .ref mm), (1, .int (nI (i + 1)))] := lv_sub hl [1, 0] rfl
          exact ih12 ((kup pv mm 19 (.int (nI (k9 + 1))))) _ _ _ _ _ ⟨(i + 1), (k9 + 1), by omega, hI, hP, hD, hS, hl, hF, hW, by omega, by omega⟩
      · have n_41 : ¬ k9 ≤ i3 := fun h9 => (show ¬ nI k9 ≤ nI i3 from c_16) ((nI_leI (by omega) (by omega)).mpr h9)
        refine lv_iload_n hx hb dX4_clear_45 rfl (lv_at hl 2 rfl) ?_
        refine lv_if_ne (tgt := 64) hx hb dX4_clear_46 (by decide) (fun c_42 => ?_) (fun c_42 => ?_)
        · obtain rfl : z2 = 1 := (hz2).resolve_left c_42
          refine lv_iconst (v := 1) hx hb dX4_clear_64 (by decide) ?_
          refine lv_goto (tgt := 69) hx hb dX4_clear_65 (by decide) ?_
          refine lv_istore_n (lv' := [(2, .int 1), (0, .ref mm), (1, .int (nI i)), (3, .int (nI i3))]) hx hb dX4_clear_69 rfl hl (by decide) rfl (fun ls hl => ?_)
          refine lv_iinc (v := nI (i3 + 1)) (lv' := [(3, .int (nI (i3 + 1))), (2, .int 1), (0, .ref mm), (1, .int (nI i))]) hx hb dX4_clear_70 hl (k := 3) rfl (nI_add i3 1) (by decide) rfl (fun ls hl => ?_)
          refine lv_goto (tgt := 37) hx hb dX4_clear_73 (by decide) ?_
          have hl : lv_has ls 4 [(0, .ref mm), (1, .int (nI i)), (2, .int 1), (3, .int (nI (i3 + 1)))] := lv_sub hl [2, 3, 1, 0] rfl
          exact ih37 (fun _ _ => .null) _ _ _ _ _ ⟨(i3 + 1), 1, by omega, hI, hP, hD, hS, hl, by omega, (Or.inr rfl)⟩
        · subst c_42
          refine lv_aload_n hx hb dX4_clear_49 rfl (lv_at hl 0 rfl) ?_
          refine kp_get hx hb hts i_X4 hown hK hP hI hW.tm rfl rfl 20 (by decide) (by decide) (hts (.fieldLink RX4 60 "IslandSolverModel" "keptKeys" "[I") (by decide +kernel)) (fun _ h9 => h9) dX4_clear_50 (kq_RE 31 (by decide) fun x_43 h_44_e h_44 => ?_)
          refine lv_iload_n hx hb dX4_clear_53 rfl (lv_at hl 3 rfl) ?_
          have hj_45 : i3 < τ 3 x_43 := by rw [show τ 3 x_43 = 1024 from (hI.arr h_44 rfl).2.1]; omega
          refine W.eq (g2 := F0 m 54 ls (.int (nI (i3)) :: .ref x_43 :: [])) rfl ?_
          refine kp_iald (j := i3) hx hb hK hP hI h_44 rfl hj_45 dX4_clear_54 (ka_I fun x_46 => ?_)
          refine lv_aload_n hx hb dX4_clear_55 rfl (lv_at hl 0 rfl) ?_
          refine kp_get hx hb hts i_X4 hown hK hP hI hW.tm rfl rfl 16 (by decide) (by decide) (hts (.fieldLink RX4 51 "IslandSolverModel" "keys" "[I") (by decide +kernel)) (fun _ h9 => h9) dX4_clear_56 (kq_RE 28 (by decide) fun x_48 h_49_e h_49 => ?_)
          refine lv_iload_n hx hb dX4_clear_59 rfl (lv_at hl 1 rfl) ?_
          have hj_50 : i < τ 3 x_48 := by rw [show τ 3 x_48 = 1024 from (hI.arr h_49 rfl).2.1]; omega
          refine W.eq (g2 := F0 m 60 ls (.int (nI (i)) :: .ref x_48 :: [.int x_46])) rfl ?_
          refine kp_iald (j := i) hx hb hK hP hI h_49 rfl hj_50 dX4_clear_60 (ka_I fun x_51 => ?_)
          refine lv_icmp_ne (tgt := 68) hx hb dX4_clear_61 (by decide) (fun c_53 => ?_) (fun c_53 => ?_)
          · refine lv_iconst (v := 0) hx hb dX4_clear_68 (by decide) ?_
            refine lv_istore_n (lv' := [(2, .int 0), (0, .ref mm), (1, .int (nI i)), (3, .int (nI i3))]) hx hb dX4_clear_69 rfl hl (by decide) rfl (fun ls hl => ?_)
            refine lv_iinc (v := nI (i3 + 1)) (lv' := [(3, .int (nI (i3 + 1))), (2, .int 0), (0, .ref mm), (1, .int (nI i))]) hx hb dX4_clear_70 hl (k := 3) rfl (nI_add i3 1) (by decide) rfl (fun ls hl => ?_)
            refine lv_goto (tgt := 37) hx hb dX4_clear_73 (by decide) ?_
            have hl : lv_has ls 4 [(0, .ref mm), (1, .int (nI i)), (2, .int 0), (3, .int (nI (i3 + 1)))] := lv_sub hl [2, 3, 1, 0] rfl
            exact ih37 (fun _ _ => .null) _ _ _ _ _ ⟨(i3 + 1), 0, by omega, hI, hP, hD, hS, hl, by omega, (Or.inl rfl)⟩
          · refine lv_iconst (v := 1) hx hb dX4_clear_64 (by decide) ?_
            refine lv_goto (tgt := 69) hx hb dX4_clear_65 (by decide) ?_
            refine lv_istore_n (lv' := [(2, .int 1), (0, .ref mm), (1, .int (nI i)), (3, .int (nI i3))]) hx hb dX4_clear_69 rfl hl (by decide) rfl (fun ls hl => ?_)
            refine lv_iinc (v := nI (i3 + 1)) (lv' := [(3, .int (nI (i3 + 1))), (2, .int 1), (0, .ref mm), (1, .int (nI i))]) hx hb dX4_clear_70 hl (k := 3) rfl (nI_add i3 1) (by decide) rfl (fun ls hl => ?_)
            refine lv_goto (tgt := 37) hx hb dX4_clear_73 (by decide) ?_
            have hl : lv_has ls 4 [(0, .ref mm), (1, .int (nI i)), (2, .int 1), (3, .int (nI (i3 + 1)))] := lv_sub hl [2, 3, 1, 0] rfl
            exact ih37 (fun _ _ => .null) _ _ _ _ _ ⟨(i3 + 1), 1, by omega, hI, hP, hD, hS, hl, by omega, (Or.inr rfl)⟩
    · refine lv_iconst (v := 1) hx hb dX4_clear_29 (by decide) ?_
      refine lv_goto (tgt := 34) hx hb dX4_clear_30 (by decide) ?_
      refine lv_istore_n (lv' := [(2, .int 1), (0, .ref mm), (1, .int (nI i))]) hx hb dX4_clear_34 rfl hl (by decide) rfl (fun ls hl => ?_)
      refine lv_iconst (v := 0) hx hb dX4_clear_35 (by decide) ?_
      refine lv_istore_n (lv' := [(3, .int 0), (2, .int 1), (0, .ref mm), (1, .int (nI i))]) hx hb dX4_clear_36 rfl hl (by decide) rfl (fun ls hl => ?_)
      have hl : lv_has ls 4 [(0, .ref mm), (1, .int (nI i)), (2, .int 1), (3, .int 0)] := lv_sub hl [2, 3, 1, 0] rfl
      refine kl_loop (Inv := fun n37 _ L f H locs ls => ∃ (i3 : Nat) (z2 : Int32), k9 - i3 < n37 ∧ kI dA τ pv L f ∧ va_P (dC, dI) vwCl (va_pl L f) H ∧ va_D A (va_pl L f) ∧ va_S A s.heap H locs ∧ lv_has ls 4 [(0, .ref mm), (1, .int (nI i)), (2, .int z2), (3, .int (nI i3))] ∧ i3 ≤ k9 ∧ (z2 = 0 ∨ z2 = 1)) (fun _ _ _ _ _ _ h9 => by obtain ⟨_, _, hn, _⟩ := h9; exact Nat.not_lt_zero _ hn) (fun n37 ih37 _ L f H locs ls h9 => ?_) (k9 - 0 + 1) (fun _ _ => .null) _ _ _ _ _ ⟨0, 1, Nat.lt_succ_self _, hI, hP, hD, hS, hl, Nat.zero_le _, (Or.inr rfl)⟩
      obtain ⟨i3, z2, hn37, hI, hP, hD, hS, hl, hib, hz2⟩ := h9
      refine lv_iload_n hx hb dX4_clear_37 rfl (lv_at hl 3 rfl) ?_
      refine lv_aload_n hx hb dX4_clear_38 rfl (lv_at hl 0 rfl) ?_
      refine kp_get hx hb hts i_X4 hown hK hP hI hW.tm rfl rfl 19 (by decide) (by decide) (hts (.fieldLink RX4 122 "IslandSolverModel" "kept" "I") (by decide +kernel)) (fun _ h9 => h9) dX4_clear_39 (kq_P (v0 := .int (nI k9)) rfl hW.p19 fun h_55 => ?_)
      refine lv_icmp_ge (tgt := 76) hx hb dX4_clear_42 (by decide) (fun c_56 => ?_) (fun c_56 => ?_)
      · have n_57 : k9 ≤ i3 := (nI_leI (by omega) (by omega)).mp (show nI k9 ≤ nI i3 from c_56)
        refine lv_iload_n hx hb dX4_clear_76 rfl (lv_at hl 2 rfl) ?_
        refine lv_if_ne (tgt := 120) hx hb dX4_clear_77 (by decide) (fun c_58 => ?_) (fun c_58 => ?_)
        · obtain rfl : z2 = 1 := (hz2).resolve_left c_58
          refine lv_iinc (v := nI (i + 1)) (lv' := [(1, .int (nI (i + 1))), (0, .ref mm), (2, .int 1), (3, .int (nI i3))]) hx hb dX4_clear_120 hl (k := 1) rfl (nI_add i 1) (by decide) rfl (fun ls hl => ?_)
          refine lv_goto (tgt := 12) hx hb dX4_clear_123 (by decide) ?_
          have hl : lv_has ls 4 [(0, .ref mm), (1, .int (nI (i + 1)))] := lv_sub hl [1, 0] rfl
          exact ih12 (pv) _ _ _ _ _ ⟨(i + 1), k9, by omega, hI, hP, hD, hS, hl, hF, hW, by omega, by omega⟩
        · subst c_58
          refine lv_aload_n hx hb dX4_clear_80 rfl (lv_at hl 0 rfl) ?_
          refine kp_get hx hb hts i_X4 hown hK hP hI hW.tm rfl rfl 20 (by decide) (by decide) (hts (.fieldLink RX4 60 "IslandSolverModel" "keptKeys" "[I") (by decide +kernel)) (fun _ h9 => h9) dX4_clear_81 (kq_RE 31 (by decide) fun x_59 h_60_e h_60 => ?_)
          refine lv_aload_n hx hb dX4_clear_84 rfl (lv_at hl 0 rfl) ?_
          refine kp_get hx hb hts i_X4 hown hK hP hI hW.tm rfl rfl 19 (by decide) (by decide) (hts (.fieldLink RX4 122 "IslandSolverModel" "kept" "I") (by decide +kernel)) (fun _ h9 => h9) dX4_clear_85 (kq_P (v0 := .int (nI k9)) rfl hW.p19 fun h_62 => ?_)
          refine lv_aload_n hx hb dX4_clear_88 rfl (lv_at hl 0 rfl) ?_
          refine kp_get hx hb hts i_X4 hown hK hP hI hW.tm rfl rfl 16 (by decide) (by decide) (hts (.fieldLink RX4 51 "IslandSolverModel" "keys" "[I") (by decide +kernel)) (fun _ h9 => h9) dX4_clear_89 (kq_RE 28 (by decide) fun x_63 h_64_e h_64 => ?_)
          refine lv_iload_n hx hb dX4_clear_92 rfl (lv_at hl 1 rfl) ?_
          have hj_65 : i < τ 3 x_63 := by rw [show τ 3 x_63 = 1024 from (hI.arr h_64 rfl).2.1]; omega
          refine W.eq (g2 := F0 m 93 ls (.int (nI (i)) :: .ref x_63 :: [.int (nI k9), .ref x_59])) rfl ?_
          refine kp_iald (j := i) hx hb hK hP hI h_64 rfl hj_65 dX4_clear_93 (ka_I fun x_66 => ?_)
          have hj_68 : k9 < τ 3 x_59 := by rw [show τ 3 x_59 = 1024 from (hI.arr h_60 rfl).2.1]; omega
          refine W.eq (g2 := F0 m 94 ls (.int x_66 :: .int (nI (k9)) :: .ref x_59 :: [])) rfl ?_
          refine kp_iastX (pv' := pv) (j := k9) hx hb hK hP hD hS hI h_60 rfl hj_68 (fun _ _ _ => rfl) (show kPr _ 0 _ _ from (kv_I _)) (kPn_not rfl (by decide)) dX4_clear_94 (fun f H locs hI hP hD hS => ?_)
          refine lv_aload_n hx hb dX4_clear_95 rfl (lv_at hl 0 rfl) ?_
          refine kp_get hx hb hts i_X4 hown hK hP hI hW.tm rfl rfl 21 (by decide) (by decide) (hts (.fieldLink RX4 63 "IslandSolverModel" "keptImpulses" "[F") (by decide +kernel)) (fun _ h9 => h9) dX4_clear_96 (kq_RE 32 (by decide) fun x_69 h_70_e h_70 => ?_)
          refine lv_aload_n hx hb dX4_clear_99 rfl (lv_at hl 0 rfl) ?_
          refine kp_get hx hb hts i_X4 hown hK hP hI hW.tm rfl rfl 19 (by decide) (by decide) (hts (.fieldLink RX4 122 "IslandSolverModel" "kept" "I") (by decide +kernel)) (fun _ h9 => h9) dX4_clear_100 (kq_P (v0 := .int (nI k9)) rfl hW.p19 fun h_72 => ?_)
          refine lv_aload_n hx hb dX4_clear_103 rfl (lv_at hl 0 rfl) ?_
          refine kp_get hx hb hts i_X4 hown hK hP hI hW.tm rfl rfl 17 (by decide) (by decide) (hts (.fieldLink RX4 54 "IslandSolverModel" "impulses" "[F") (by decide +kernel)) (fun _ h9 => h9) dX4_clear_104 (kq_P (v0 := .ref ia) rfl hW.p17 fun h_74 => ?_)
          refine lv_iload_n hx hb dX4_clear_107 rfl (lv_at hl 1 rfl) ?_
          have hj_75 : i < τ 3 ia := by rw [show τ 3 ia = 1024 from (hI.arr hW.ti rfl).2.1]; omega
          refine W.eq (g2 := F0 m 108 ls (.int (nI (i)) :: .ref ia :: [.int (nI k9), .ref x_69])) rfl ?_
          refine kp_fald (j := i) hx hb hK hP hI hW.ti rfl hj_75 dX4_clear_108 (ka_29 fun x_76 h_77 h_77_2 => ?_)
          have hj_78 : k9 < τ 3 x_69 := by rw [show τ 3 x_69 = 1024 from (hI.arr h_70 rfl).2.1]; omega
          refine W.eq (g2 := F0 m 109 ls (.float x_76 :: .int (nI (k9)) :: .ref x_69 :: [])) rfl ?_
          refine kp_fastX (pv' := pv) (j := k9) hx hb hK hP hD hS hI h_70 rfl hj_78 (fun _ _ _ => rfl) (show kPr _ 1224736768 _ _ from (kv_F (by decide) h_77)) (kPn_not rfl (by decide)) dX4_clear_109 (fun f H locs hI hP hD hS => ?_)
          refine lv_aload_n hx hb dX4_clear_110 rfl (lv_at hl 0 rfl) ?_
          refine lv_dup hx hb dX4_clear_111 rfl ?_
          refine kp_get hx hb hts i_X4 hown hK hP hI hW.tm rfl rfl 19 (by decide) (by decide) (hts (.fieldLink RX4 122 "IslandSolverModel" "kept" "I") (by decide +kernel)) (fun _ h9 => h9) dX4_clear_112 (kq_P (v0 := .int (nI k9)) rfl hW.p19 fun h_80 => ?_)
          refine lv_iconst (v := 1) hx hb dX4_clear_115 (by decide) ?_
          refine lv_iadd hx hb dX4_clear_116 ?_
          refine lv_topi (nm_r (show (nI k9) + 1 = nI (k9 + 1) from nI_add k9 1) ?_)
          refine kp_putP (v := .int (nI (k9 + 1))) (ty := .int) hx hb hts i_X4 tyX4 tyX4_ok nmX4 hown hK hP hD hS hI hW.tm rfl rfl 19 (by decide) (by decide) (hts (.fieldLink RX4 122 "IslandSolverModel" "kept" "I") (by decide +kernel)) (fun _ h9 => h9) rfl (by decide +kernel) rfl rfl rfl (kv_S (by decide) ⟨k9 + 1, rfl, by omega⟩) dX4_clear_117 (fun f H locs hI hP hD hS => ?_)
          have hF := hF.trans (kFr.up (P := kPx) (w := .int (nI (k9 + 1))) (k := 19) hW.tm rfl)
          have hW := hW.setK (k9 := k9 + 1) (by omega)
          refine lv_iinc (v := nI (i + 1)) (lv' := [(1, .int (nI (i + 1))), (0, .ref mm), (2, .int 0), (3, .int (nI i3))]) hx hb dX4_clear_120 hl (k := 1) rfl (nI_add i 1) (by decide) rfl (fun ls hl => ?_)
          refine lv_goto (tgt := 12) hx hb dX4_clear_123 (by decide) ?_
          have hl : lv_has ls 4 [(0, .ref mm), (1, .int (nI (i + 1)))] := lv_sub hl [1, 0] rfl
          exact ih12 ((kup pv mm 19 (.int (nI (k9 + 1))))) _ _ _ _ _ ⟨(i + 1), (k9 + 1), by omega, hI, hP, hD, hS, hl, hF, hW, by omega, by omega⟩
      · have n_81 : ¬ k9 ≤ i3 := fun h9 => (show ¬ nI k9 ≤ nI i3 from c_56) ((nI_leI (by omega) (by omega)).mpr h9)
        refine lv_iload_n hx hb dX4_clear_45 rfl (lv_at hl 2 rfl) ?_
        refine lv_if_ne (tgt := 64) hx hb dX4_clear_46 (by decide) (fun c_82 => ?_) (fun c_82 => ?_)
        · obtain rfl : z2 = 1 := (hz2).resolve_left c_82
          refine lv_iconst (v := 1) hx hb dX4_clear_64 (by decide) ?_
          refine lv_goto (tgt := 69) hx hb dX4_clear_65 (by decide) ?_
          refine lv_istore_n (lv' := [(2, .int 1), (0, .ref mm), (1, .int (nI i)), (3, .int (nI i3))]) hx hb dX4_clear_69 rfl hl (by decide) rfl (fun ls hl => ?_)
          refine lv_iinc (v := nI (i3 + 1)) (lv' := [(3, .int (nI (i3 + 1))), (2, .int 1), (0, .ref mm), (1, .int (nI i))]) hx hb dX4_clear_70 hl (k := 3) rfl (nI_add i3 1) (by decide) rfl (fun ls hl => ?_)
          refine lv_goto (tgt := 37) hx hb dX4_clear_73 (by decide) ?_
          have hl : lv_has ls 4 [(0, .ref mm), (1, .int (nI i)), (2, .int 1), (3, .int (nI (i3 + 1)))] := lv_sub hl [2, 3, 1, 0] rfl
          exact ih37 (fun _ _ => .null) _ _ _ _ _ ⟨(i3 + 1), 1, by omega, hI, hP, hD, hS, hl, by omega, (Or.inr rfl)⟩
        · subst c_82
          refine lv_aload_n hx hb dX4_clear_49 rfl (lv_at hl 0 rfl) ?_
          refine kp_get hx hb hts i_X4 hown hK hP hI hW.tm rfl rfl 20 (by decide) (by decide) (hts (.fieldLink RX4 60 "IslandSolverModel" "keptKeys" "[I") (by decide +kernel)) (fun _ h9 => h9) dX4_clear_50 (kq_RE 31 (by decide) fun x_83 h_84_e h_84 => ?_)
          refine lv_iload_n hx hb dX4_clear_53 rfl (lv_at hl 3 rfl) ?_
          have hj_85 : i3 < τ 3 x_83 := by rw [show τ 3 x_83 = 1024 from (hI.arr h_84 rfl).2.1]; omega
          refine W.eq (g2 := F0 m 54 ls (.int (nI (i3)) :: .ref x_83 :: [])) rfl ?_
          refine kp_iald (j := i3) hx hb hK hP hI h_84 rfl hj_85 dX4_clear_54 (ka_I fun x_86 => ?_)
          refine lv_aload_n hx hb dX4_clear_55 rfl (lv_at hl 0 rfl) ?_
          refine kp_get hx hb hts i_X4 hown hK hP hI hW.tm rfl rfl 16 (by decide) (by decide) (hts (.fieldLink RX4 51 "IslandSolverModel" "keys" "[I") (by decide +kernel)) (fun _ h9 => h9) dX4_clear_56 (kq_RE 28 (by decide) fun x_88 h_89_e h_89 => ?_)
          refine lv_iload_n hx hb dX4_clear_59 rfl (lv_at hl 1 rfl) ?_
          have hj_90 : i < τ 3 x_88 := by rw [show τ 3 x_88 = 1024 from (hI.arr h_89 rfl).2.1]; omega
          refine W.eq (g2 := F0 m 60 ls (.int (nI (i)) :: .ref x_88 :: [.int x_86])) rfl ?_
          refine kp_iald (j := i) hx hb hK hP hI h_89 rfl hj_90 dX4_clear_60 (ka_I fun x_91 => ?_)
          refine lv_icmp_ne (tgt := 68) hx hb dX4_clear_61 (by decide) (fun c_93 => ?_) (fun c_93 => ?_)
          · refine lv_iconst (v := 0) hx hb dX4_clear_68 (by decide) ?_
            refine lv_istore_n (lv' := [(2, .int 0), (0, .ref mm), (1, .int (nI i)), (3, .int (nI i3))]) hx hb dX4_clear_69 rfl hl (by decide) rfl (fun ls hl => ?_)
            refine lv_iinc (v := nI (i3 + 1)) (lv' := [(3, .int (nI (i3 + 1))), (2, .int 0), (0, .ref mm), (1, .int (nI i))]) hx hb dX4_clear_70 hl (k := 3) rfl (nI_add i3 1) (by decide) rfl (fun ls hl => ?_)
            refine lv_goto (tgt := 37) hx hb dX4_clear_73 (by decide) ?_
            have hl : lv_has ls 4 [(0, .ref mm), (1, .int (nI i)), (2, .int 0), (3, .int (nI (i3 + 1)))] := lv_sub hl [2, 3, 1, 0] rfl
            exact ih37 (fun _ _ => .null) _ _ _ _ _ ⟨(i3 + 1), 0, by omega, hI, hP, hD, hS, hl, by omega, (Or.inl rfl)⟩
          · refine lv_iconst (v := 1) hx hb dX4_clear_64 (by decide) ?_
            refine lv_goto (tgt := 69) hx hb dX4_clear_65 (by decide) ?_
            refine lv_istore_n (lv' := [(2, .int 1), (0, .ref mm), (1, .int (nI i)), (3, .int (nI i3))]) hx hb dX4_clear_69 rfl hl (by decide) rfl (fun ls hl => ?_)
            refine lv_iinc (v := nI (i3 + 1)) (lv' := [(3, .int (nI (i3 + 1))), (2, .int 1), (0, .ref mm), (1, .int (nI i))]) hx hb dX4_clear_70 hl (k := 3) rfl (nI_add i3 1) (by decide) rfl (fun ls hl => ?_)
            refine lv_goto (tgt := 37) hx hb dX4_clear_73 (by decide) ?_
            have hl : lv_has ls 4 [(0, .ref mm), (1, .int (nI i)), (2, .int 1), (3, .int (nI (i3 + 1)))] := lv_sub hl [2, 3, 1, 0] rfl
            exact ih37 (fun _ _ => .null) _ _ _ _ _ ⟨(i3 + 1), 1, by omega, hI, hP, hD, hS, hl, by omega, (Or.inr rfl)⟩
set_option maxHeartbeats 4000000 in
set_option maxRecDepth 100000 in
theorem m_p_step (l : Launch) (dC : Nat → ClassId) (dI : Nat → Nat → Nat) (dA : Nat → ClassId) (ad sz : Nat) (τ : Nat → Nat → Nat) (pv0 : Nat → Nat → Value) (L : List Nat) (f : Nat → va_E) (hI : kI dA τ pv0 L f) (mm fa sa aa ia sf mb mr mk : Nat) (hW : kMd τ pv0 mm fa sa aa ia sf mb mr mk mr) (n : Int32) : Met l yX4_step wsX4_step ({ frames := 5, cells := 0, slots := 0, locals := 121 } : Room) (va_Pc [.ref mm, .int n] (kB dC dI dA ad sz L f)) (va_Qi (fun r u => kPostM dA τ pv0 mm fa sa aa ia sf mb mr u) (kR dC dI dA (va_A (va_pl L f) sz)) (va_A (va_pl L f) sz)) 0 0 (va_A (va_pl L f) sz) := by
  refine Met.ofW (cc := cX4_step) (maxL := 3) (ret := (some .int)) (by decide) rfl ?_
  intro p e s m args below meth c s₁ B hml hv
  obtain ⟨rfl, hsz, hP, hK, hD0, hE⟩ := hv
  have hx := B.exec
  have hb := B.bytes
  have hr := B.returns
  have hts := atoms_spec (ws := wsX4_step) B.pre
  have hown : s.vm.findClass RX4 = some m.cls := findClass_of_methodNamed B.named
  have hlocks := B.notSynchronized
  have i_X4 : ∀ w ∈ u_ws RX4 TX4 35, w ∈ wsX4_step := by decide +kernel
  subst hsz
  have hD := hD0.self (sz := s.heap.size)
  generalize hAe : va_A (va_pl L f) s.heap.size = A at hD hE ⊢
  have hA : ∀ q : Nat, s.heap.size ≤ q → A q := fun q h => by rw [← hAe]; exact Or.inr h
  have hS : va_S A s.heap s.heap [] := va_S.rf
  have hP : va_P (dC, dI) vwCl (va_pl L f) s.heap := hP
  have hK : va_K (dC, dI) vwCl (tyA dA) s := hK
  have hl := lv_entry ([.ref mm, .int n]) (n := 3) (Nat.le_of_ble_eq_true rfl)
  rw [lg_entry_eq]
  generalize (lg_sl ([.ref mm, .int n]) ++ List.replicate (3 - (lg_sl ([.ref mm, .int n])).length) Slot.unset).toArray = ls at hl ⊢
  have hl : lv_has ls 3 [(0, .ref mm), (1, .int n)] := hl
  have hnb := hW.lb
  have hnr := hW.lr
  have hnk := hW.lk
  have hni := hW.li
  have hF : kFr kPx τ pv0 τ pv0 := kFr.rf
  refine lv_aload_n hx hb dX4_step_0 rfl (lv_at hl 0 rfl) ?_
  refine lv_iload_n hx hb dX4_step_1 rfl (lv_at hl 1 rfl) ?_
  refine lv_iconst (v := 1) hx hb dX4_step_2 (by decide) ?_
  refine lv_icmp_lt (tgt := 16) hx hb dX4_step_3 (by decide) (fun c_1 => ?_) (fun c_1 => ?_)
  · refine lv_iconst (v := 0) hx hb dX4_step_16 (by decide) ?_
    refine lv_iconst (v := 1) hx hb dX4_step_17 (by decide) ?_
    refine lv_iconst (v := 1) hx hb dX4_step_18 (by decide) ?_
    refine kd_calli (va_runV (As := [.int 0, .int 1, .int 1]) (rest := []) ⟨hx, hb, hml, hown, hts⟩ (k_goes2 l dC dI dA ad _ τ pv0 _ _ hI mm fa sa aa ia sf mb mr mk mr hW 1 1) (cwV 3 hts gX4_step_X4_goes rfl rfl rfl (by decide +kernel) ⟨Nat.le_of_ble_eq_true rfl, Nat.le_of_ble_eq_true rfl⟩) (kd_preV hP hD hK hS hA hE hI hW.tm rfl rfl) rfl rfl hl.1 rfl (lv_room (Nat.le_of_ble_eq_true rfl)) dX4_step_19 ⟨Nat.le_of_ble_eq_true rfl, Nat.le_of_ble_eq_true rfl⟩) hD hS hA (fun r_3 u_2 H locs hw hP hD hS => ?_)
    obtain ⟨rfl, hI⟩ := hw
    have hF := hF.trans (kFr.up (P := kPx) (w := .int 1) (k := 0) hW.tm rfl)
    have hW := hW.frw (kFr.up (P := kPy mr) (w := .int 1) (k := 0) hW.tm rfl)
    refine lv_if_ne (tgt := 27) hx hb dX4_step_22 (by decide) (fun h9 => by first | exact absurd h9 (by decide) | exact absurd (by decide) h9) (fun _ => ?_)
    refine lv_iconst (v := 0) hx hb dX4_step_25 (by decide) ?_
    refine W.widen (k := 0) (n := 0) (Nat.le_of_ble_eq_true rfl) (Nat.le_of_ble_eq_true rfl) ?_
    exact W.iret (v := 0) hx hb hr (fun t ht hW9 => ⟨⟨0, (u_2.1, u_2.2), rfl, ⟨_, _, hF, hW, hI⟩, by rw [ht]; exact hP, va_K.moved hW9.alike hK, hD⟩, hS.F ht⟩) hS.2.2 dX4_step_26
  · refine lv_iload_n hx hb dX4_step_6 rfl (lv_at hl 1 rfl) ?_
    refine lv_bipush (v := 20) hx hb dX4_step_7 (by decide) ?_
    refine lv_icmp_gt (tgt := 16) hx hb dX4_step_9 (by decide) (fun c_4 => ?_) (fun c_4 => ?_)
    · refine lv_iconst (v := 0) hx hb dX4_step_16 (by decide) ?_
      refine lv_iconst (v := 1) hx hb dX4_step_17 (by decide) ?_
      refine lv_iconst (v := 1) hx hb dX4_step_18 (by decide) ?_
      refine kd_calli (va_runV (As := [.int 0, .int 1, .int 1]) (rest := []) ⟨hx, hb, hml, hown, hts⟩ (k_goes2 l dC dI dA ad _ τ pv0 _ _ hI mm fa sa aa ia sf mb mr mk mr hW 1 1) (cwV 3 hts gX4_step_X4_goes rfl rfl rfl (by decide +kernel) ⟨Nat.le_of_ble_eq_true rfl, Nat.le_of_ble_eq_true rfl⟩) (kd_preV hP hD hK hS hA hE hI hW.tm rfl rfl) rfl rfl hl.1 rfl (lv_room (Nat.le_of_ble_eq_true rfl)) dX4_step_19 ⟨Nat.le_of_ble_eq_true rfl, Nat.le_of_ble_eq_true rfl⟩) hD hS hA (fun r_6 u_5 H locs hw hP hD hS => ?_)
      obtain ⟨rfl, hI⟩ := hw
      have hF := hF.trans (kFr.up (P := kPx) (w := .int 1) (k := 0) hW.tm rfl)
      have hW := hW.frw (kFr.up (P := kPy mr) (w := .int 1) (k := 0) hW.tm rfl)
      refine lv_if_ne (tgt := 27) hx hb dX4_step_22 (by decide) (fun h9 => by first | exact absurd h9 (by decide) | exact absurd (by decide) h9) (fun _ => ?_)
      refine lv_iconst (v := 0) hx hb dX4_step_25 (by decide) ?_
      refine W.widen (k := 0) (n := 0) (Nat.le_of_ble_eq_true rfl) (Nat.le_of_ble_eq_true rfl) ?_
      exact W.iret (v := 0) hx hb hr (fun t ht hW9 => ⟨⟨0, (u_5.1, u_5.2), rfl, ⟨_, _, hF, hW, hI⟩, by rw [ht]; exact hP, va_K.moved hW9.alike hK, hD⟩, hS.F ht⟩) hS.2.2 dX4_step_26
    · refine lv_iconst (v := 1) hx hb dX4_step_12 (by decide) ?_
      refine lv_goto (tgt := 17) hx hb dX4_step_13 (by decide) ?_
      refine lv_iconst (v := 1) hx hb dX4_step_17 (by decide) ?_
      refine lv_iconst (v := 1) hx hb dX4_step_18 (by decide) ?_
      refine kd_calli (va_runV (As := [.int 1, .int 1, .int 1]) (rest := []) ⟨hx, hb, hml, hown, hts⟩ (k_goes1 l dC dI dA ad _ τ pv0 _ _ hI mm fa sa aa ia sf mb mr mk mr hW ) (cwV 3 hts gX4_step_X4_goes rfl rfl rfl (by decide +kernel) ⟨Nat.le_of_ble_eq_true rfl, Nat.le_of_ble_eq_true rfl⟩) (kd_preV hP hD hK hS hA hE hI hW.tm rfl rfl) rfl rfl hl.1 rfl (lv_room (Nat.le_of_ble_eq_true rfl)) dX4_step_19 ⟨Nat.le_of_ble_eq_true rfl, Nat.le_of_ble_eq_true rfl⟩) hD hS hA (fun r_8 u_7 H locs hw hP hD hS => ?_)
      obtain ⟨rfl, hI⟩ := hw
      have hF := hF.trans (kFr.up (P := kPx) (w := .int 0) (k := 0) hW.tm rfl)
      have hW := hW.frw (kFr.up (P := kPy mr) (w := .int 0) (k := 0) hW.tm rfl)
      refine lv_if_ne (tgt := 27) hx hb dX4_step_22 (by decide) (fun _ => ?_) (fun h9 => by first | exact absurd h9 (by decide) | exact absurd (by decide) h9)
      refine lv_iconst (v := 0) hx hb dX4_step_27 (by decide) ?_
      refine lv_istore_n (lv' := [(2, .int 0), (0, .ref mm), (1, .int n)]) hx hb dX4_step_28 rfl hl (by decide) rfl (fun ls hl => ?_)
      have hl : lv_has ls 3 [(0, .ref mm), (1, .int n), (2, .int 0)] := lv_sub hl [1, 2, 0] rfl
      refine kl_loop (Inv := fun n29 pv L f H locs ls => ∃ (i : Nat), 2 ^ 31 - i < n29 ∧ kI dA τ pv L f ∧ va_P (dC, dI) vwCl (va_pl L f) H ∧ va_D A (va_pl L f) ∧ va_S A s.heap H locs ∧ lv_has ls 3 [(0, .ref mm), (1, .int n), (2, .int (nI i))] ∧ kFr kPx τ pv0 τ pv ∧ kMd τ pv mm fa sa aa ia sf mb mr mk mr ∧ i < 2 ^ 31) (fun _ _ _ _ _ _ h9 => by obtain ⟨_, hn, _⟩ := h9; exact Nat.not_lt_zero _ hn) (fun n29 ih29 pv L f H locs ls h9 => ?_) (2 ^ 31 - 0 + 1) ((kup pv0 mm 0 (.int 0))) _ _ _ _ _ ⟨0, Nat.lt_succ_self _, hI, hP, hD, hS, hl, hF, hW, by decide⟩
      obtain ⟨i, hn29, hI, hP, hD, hS, hl, hF, hW, hi⟩ := h9
      refine lv_iload_n hx hb dX4_step_29 rfl (lv_at hl 2 rfl) ?_
      refine lv_iload_n hx hb dX4_step_30 rfl (lv_at hl 1 rfl) ?_
      refine lv_icmp_ge (tgt := 44) hx hb dX4_step_31 (by decide) (fun c_9 => ?_) (fun c_9 => ?_)
      · refine lv_aload_n hx hb dX4_step_44 rfl (lv_at hl 0 rfl) ?_
        refine kd_calli (va_runV (As := []) (rest := []) ⟨hx, hb, hml, hown, hts⟩ (k_sleeping l dC dI dA ad _ τ pv _ _ hI mm fa sa aa ia sf mb mr mk mr hW ) (cwV 0 hts gX4_step_X4_sleeping rfl rfl rfl (by decide +kernel) ⟨Nat.le_of_ble_eq_true rfl, Nat.le_of_ble_eq_true rfl⟩) (kd_preV hP hD hK hS hA hE hI hW.tm rfl rfl) rfl rfl hl.1 rfl (lv_room (Nat.le_of_ble_eq_true rfl)) dX4_step_45 ⟨Nat.le_of_ble_eq_true rfl, Nat.le_of_ble_eq_true rfl⟩) hD hS hA (fun r_11 u_10 H locs hw hP hD hS => ?_)
        obtain ⟨pv, hF9, hI⟩ := hw
        have hF := hF.trans (hF9.weak kPx_q)
        have hW := hW.frq hF9
        refine lv_istore_n (lv' := [(2, .int r_11), (0, .ref mm), (1, .int n)]) hx hb dX4_step_48 rfl hl (by decide) rfl (fun ls hl => ?_)
        refine lv_aload_n hx hb dX4_step_49 rfl (lv_at hl 1 rfl) ?_
        refine kp_get hx hb hts i_X4 hown hK hP hI hW.tm rfl rfl 28 (by decide) (by decide) (hts (.fieldLink RX4 189 "IslandSolverModel" "islands" "I") (by decide +kernel)) (fun _ h9 => h9) dX4_step_50 (kq_L6 rfl fun x_12 w_14 h_13 => ?_)
        refine lv_iload_n hx hb dX4_step_53 rfl (lv_at hl 0 rfl) ?_
        refine lv_isub hx hb dX4_step_54 ?_
        refine lv_topi (fun x_15 ex_15 => ?_)
        refine W.widen (k := 0) (n := 0) (Nat.le_of_ble_eq_true rfl) (Nat.le_of_ble_eq_true rfl) ?_
        exact W.iret (v := x_15) hx hb hr (fun t ht hW9 => ⟨⟨x_15, (u_10.1, u_10.2), rfl, ⟨_, _, hF, hW, hI⟩, by rw [ht]; exact hP, va_K.moved hW9.alike hK, hD⟩, hS.F ht⟩) hS.2.2 dX4_step_55
      · have hi := kz_nx hi c_9
        refine lv_aload_n hx hb dX4_step_34 rfl (lv_at hl 0 rfl) ?_
        refine kd_callv (va_runV (As := []) (rest := []) ⟨hx, hb, hml, hown, hts⟩ (k_once4 l dC dI dA ad _ τ pv _ _ hI mm fa sa aa ia sf mb mr mk mr hW (by omega)) (cwV 0 hts gX4_step_X4_once rfl rfl rfl (by decide +kernel) ⟨Nat.le_of_ble_eq_true rfl, Nat.le_of_ble_eq_true rfl⟩) (kd_preV hP hD hK hS hA hE hI hW.tm rfl rfl) rfl rfl hl.1 rfl (lv_room (Nat.le_of_ble_eq_true rfl)) dX4_step_35 ⟨Nat.le_of_ble_eq_true rfl, Nat.le_of_ble_eq_true rfl⟩) hD hS hA (fun u_16 H locs hw hP hD hS => ?_)
        obtain ⟨pv, hF9, hI⟩ := hw
        have hF := hF.trans (hF9.weak kPx_q)
        have hW := hW.frq hF9
        refine lv_iinc (v := nI (i + 1)) (lv' := [(2, .int (nI (i + 1))), (0, .ref mm), (1, .int n)]) hx hb dX4_step_38 hl (k := 2) rfl (nI_add i 1) (by decide) rfl (fun ls hl => ?_)
        refine lv_goto (tgt := 29) hx hb dX4_step_41 (by decide) ?_
        have hl : lv_has ls 3 [(0, .ref mm), (1, .int n), (2, .int (nI (i + 1)))] := lv_sub hl [1, 2, 0] rfl
        exact ih29 (pv) _ _ _ _ _ ⟨(i + 1), by omega, hI, hP, hD, hS, hl, hF, hW, hi⟩
set_option maxHeartbeats 4000000 in
set_option maxRecDepth 100000 in
theorem m_p_of (l : Launch) (dC : Nat → ClassId) (dI : Nat → Nat → Nat) (dA : Nat → ClassId) (ad sz : Nat) (τ : Nat → Nat → Nat) (pv : Nat → Nat → Value) (L : List Nat) (f : Nat → va_E) (hI : kI dA τ pv L f) (mm fa sa aa ia sf mb mr mk : Nat) (hW : kMd τ pv mm fa sa aa ia sf mb mr mk mr) (n k : Int32) : Met l yX4_of wsX4_of ({ frames := 1, cells := 0, slots := 0, locals := 23 } : Room) (va_Pc [.ref mm, .int n, .int k] (kB dC dI dA ad sz L f)) (va_Qf (fun r u => fb 1904214016 r ∧ kPostM dA τ pv mm fa sa aa ia sf mb mr u) (kR dC dI dA (va_A (va_pl L f) sz)) (va_A (va_pl L f) sz)) 0 0 (va_A (va_pl L f) sz) := by
  refine Met.ofW (cc := cX4_of) (maxL := 3) (ret := (some .float)) (by decide) rfl ?_
  intro p e s m args below meth c s₁ B hml hv
  obtain ⟨rfl, hsz, hP, hK, hD0, hE⟩ := hv
  have hx := B.exec
  have hb := B.bytes
  have hr := B.returns
  have hts := atoms_spec (ws := wsX4_of) B.pre
  have hown : s.vm.findClass RX4 = some m.cls := findClass_of_methodNamed B.named
  have hlocks := B.notSynchronized
  have i_X4 : ∀ w ∈ u_ws RX4 TX4 35, w ∈ wsX4_of := by decide +kernel
  subst hsz
  have hD := hD0.self (sz := s.heap.size)
  generalize hAe : va_A (va_pl L f) s.heap.size = A at hD hE ⊢
  have hA : ∀ q : Nat, s.heap.size ≤ q → A q := fun q h => by rw [← hAe]; exact Or.inr h
  have hS : va_S A s.heap s.heap [] := va_S.rf
  have hP : va_P (dC, dI) vwCl (va_pl L f) s.heap := hP
  have hK : va_K (dC, dI) vwCl (tyA dA) s := hK
  have hl := lv_entry ([.ref mm, .int n, .int k]) (n := 3) (Nat.le_of_ble_eq_true rfl)
  rw [lg_entry_eq]
  generalize (lg_sl ([.ref mm, .int n, .int k]) ++ List.replicate (3 - (lg_sl ([.ref mm, .int n, .int k])).length) Slot.unset).toArray = ls at hl ⊢
  have hl : lv_has ls 3 [(0, .ref mm), (1, .int n), (2, .int k)] := hl
  have hnb := hW.lb
  have hnr := hW.lr
  have hnk := hW.lk
  have hni := hW.li
  have hF : kFr kPx τ pv τ pv := kFr.rf
  refine lv_aload_n hx hb dX4_of_0 rfl (lv_at hl 0 rfl) ?_
  refine lv_aload_n hx hb dX4_of_1 rfl (lv_at hl 0 rfl) ?_
  refine lv_iload_n hx hb dX4_of_2 rfl (lv_at hl 1 rfl) ?_
  refine kd_calli (va_runV (As := [.int n]) (rest := [.ref mm]) ⟨hx, hb, hml, hown, hts⟩ (k_known l dC dI dA ad _ τ pv _ _ hI mm fa sa aa ia sf mb mr mk mr hW n) (cwV 1 hts gX4_of_X4_known rfl rfl rfl (by decide +kernel) ⟨Nat.le_of_ble_eq_true rfl, Nat.le_of_ble_eq_true rfl⟩) (kd_preV hP hD hK hS hA hE hI hW.tm rfl rfl) rfl rfl hl.1 rfl (lv_room (Nat.le_of_ble_eq_true rfl)) dX4_of_3 ⟨Nat.le_of_ble_eq_true rfl, Nat.le_of_ble_eq_true rfl⟩) hD hS hA (fun r_2 u_1 H locs hw hP hD hS => ?_)
  obtain ⟨⟨rfl, ⟨j_3, hj_3, rfl⟩⟩ | ⟨rfl, h_4⟩, hI⟩ := hw
  · refine lv_if_eq (tgt := 23) hx hb dX4_of_6 (by decide) (fun h9 => by first | exact absurd h9 (by decide) | exact absurd (by decide) h9) (fun _ => ?_)
    refine lv_iload_n hx hb dX4_of_9 rfl (lv_at hl 2 rfl) ?_
    refine lv_if_lt (tgt := 23) hx hb dX4_of_10 (by decide) (fun c_5 => ?_) (fun c_5 => ?_)
    · refine lv_iconst (v := 0) hx hb dX4_of_23 (by decide) ?_
      refine lv_iconst (v := 1) hx hb dX4_of_24 (by decide) ?_
      refine lv_iconst (v := 1) hx hb dX4_of_25 (by decide) ?_
      refine kd_calli (va_runV (As := [.int 0, .int 1, .int 1]) (rest := []) ⟨hx, hb, hml, hown, hts⟩ (k_goes2 l dC dI dA ad _ τ pv _ _ hI mm fa sa aa ia sf mb mr mk mr hW 1 1) (cwV 3 hts gX4_of_X4_goes rfl rfl rfl (by decide +kernel) ⟨Nat.le_of_ble_eq_true rfl, Nat.le_of_ble_eq_true rfl⟩) (kd_preV hP hD hK hS hA hE hI hW.tm rfl rfl) rfl rfl hl.1 rfl (lv_room (Nat.le_of_ble_eq_true rfl)) dX4_of_26 ⟨Nat.le_of_ble_eq_true rfl, Nat.le_of_ble_eq_true rfl⟩) hD hS hA (fun r_7 u_6 H locs hw hP hD hS => ?_)
      obtain ⟨rfl, hI⟩ := hw
      have hF := hF.trans (kFr.up (P := kPx) (w := .int 1) (k := 0) hW.tm rfl)
      have hW := hW.frw (kFr.up (P := kPy mr) (w := .int 1) (k := 0) hW.tm rfl)
      refine lv_if_eq (tgt := 46) hx hb dX4_of_29 (by decide) (fun _ => ?_) (fun h9 => by first | exact absurd h9 (by decide) | exact absurd (by decide) h9)
      refine lv_fconst0 hx hb dX4_of_46 ?_
      refine W.widen (k := 0) (n := 0) (Nat.le_of_ble_eq_true rfl) (Nat.le_of_ble_eq_true rfl) ?_
      exact W.fret (v := FP.fconst0) hx hb hr (fun t ht hW9 => ⟨⟨FP.fconst0, (u_6.1, u_6.2), rfl, ⟨(fb_le kc_0 (by decide)), ⟨_, _, hF, hW, hI⟩⟩, by rw [ht]; exact hP, va_K.moved hW9.alike hK, hD⟩, hS.F ht⟩) hS.2.2 dX4_of_47
    · refine lv_iload_n hx hb dX4_of_13 rfl (lv_at hl 2 rfl) ?_
      refine lv_bipush (v := 12) hx hb dX4_of_14 (by decide) ?_
      refine lv_icmp_gt (tgt := 23) hx hb dX4_of_16 (by decide) (fun c_8 => ?_) (fun c_8 => ?_)
      · refine lv_iconst (v := 0) hx hb dX4_of_23 (by decide) ?_
        refine lv_iconst (v := 1) hx hb dX4_of_24 (by decide) ?_
        refine lv_iconst (v := 1) hx hb dX4_of_25 (by decide) ?_
        refine kd_calli (va_runV (As := [.int 0, .int 1, .int 1]) (rest := []) ⟨hx, hb, hml, hown, hts⟩ (k_goes2 l dC dI dA ad _ τ pv _ _ hI mm fa sa aa ia sf mb mr mk mr hW 1 1) (cwV 3 hts gX4_of_X4_goes rfl rfl rfl (by decide +kernel) ⟨Nat.le_of_ble_eq_true rfl, Nat.le_of_ble_eq_true rfl⟩) (kd_preV hP hD hK hS hA hE hI hW.tm rfl rfl) rfl rfl hl.1 rfl (lv_room (Nat.le_of_ble_eq_true rfl)) dX4_of_26 ⟨Nat.le_of_ble_eq_true rfl, Nat.le_of_ble_eq_true rfl⟩) hD hS hA (fun r_10 u_9 H locs hw hP hD hS => ?_)
        obtain ⟨rfl, hI⟩ := hw
        have hF := hF.trans (kFr.up (P := kPx) (w := .int 1) (k := 0) hW.tm rfl)
        have hW := hW.frw (kFr.up (P := kPy mr) (w := .int 1) (k := 0) hW.tm rfl)
        refine lv_if_eq (tgt := 46) hx hb dX4_of_29 (by decide) (fun _ => ?_) (fun h9 => by first | exact absurd h9 (by decide) | exact absurd (by decide) h9)
        refine lv_fconst0 hx hb dX4_of_46 ?_
        refine W.widen (k := 0) (n := 0) (Nat.le_of_ble_eq_true rfl) (Nat.le_of_ble_eq_true rfl) ?_
        exact W.fret (v := FP.fconst0) hx hb hr (fun t ht hW9 => ⟨⟨FP.fconst0, (u_9.1, u_9.2), rfl, ⟨(fb_le kc_0 (by decide)), ⟨_, _, hF, hW, hI⟩⟩, by rw [ht]; exact hP, va_K.moved hW9.alike hK, hD⟩, hS.F ht⟩) hS.2.2 dX4_of_47
      · refine lv_iconst (v := 1) hx hb dX4_of_19 (by decide) ?_
        refine lv_goto (tgt := 24) hx hb dX4_of_20 (by decide) ?_
        refine lv_iconst (v := 1) hx hb dX4_of_24 (by decide) ?_
        refine lv_iconst (v := 1) hx hb dX4_of_25 (by decide) ?_
        refine kd_calli (va_runV (As := [.int 1, .int 1, .int 1]) (rest := []) ⟨hx, hb, hml, hown, hts⟩ (k_goes1 l dC dI dA ad _ τ pv _ _ hI mm fa sa aa ia sf mb mr mk mr hW ) (cwV 3 hts gX4_of_X4_goes rfl rfl rfl (by decide +kernel) ⟨Nat.le_of_ble_eq_true rfl, Nat.le_of_ble_eq_true rfl⟩) (kd_preV hP hD hK hS hA hE hI hW.tm rfl rfl) rfl rfl hl.1 rfl (lv_room (Nat.le_of_ble_eq_true rfl)) dX4_of_26 ⟨Nat.le_of_ble_eq_true rfl, Nat.le_of_ble_eq_true rfl⟩) hD hS hA (fun r_12 u_11 H locs hw hP hD hS => ?_)
        obtain ⟨rfl, hI⟩ := hw
        have hF := hF.trans (kFr.up (P := kPx) (w := .int 0) (k := 0) hW.tm rfl)
        have hW := hW.frw (kFr.up (P := kPy mr) (w := .int 0) (k := 0) hW.tm rfl)
        refine lv_if_eq (tgt := 46) hx hb dX4_of_29 (by decide) (fun h9 => by first | exact absurd h9 (by decide) | exact absurd (by decide) h9) (fun _ => ?_)
        obtain ⟨j_13, hj_13, rfl⟩ := nI_of2 (M := 12) (n := 12) (by decide) c_5 (Int32.not_lt.mp c_8)
        refine lv_aload_n hx hb dX4_of_32 rfl (lv_at hl 0 rfl) ?_
        refine kp_get hx hb hts i_X4 hown hK hP hI hW.tm rfl rfl 2 (by decide) (by decide) (hts (.fieldLink RX4 7 "IslandSolverModel" "body" "[F") (by decide +kernel)) (fun _ h9 => h9) dX4_of_33 (kq_RE 15 (by decide) fun x_14 h_15_e h_15 => ?_)
        refine lv_bipush (v := 13) hx hb dX4_of_36 (by decide) ?_
        refine lv_iload_n hx hb dX4_of_38 rfl (lv_at hl 1 rfl) ?_
        refine lv_imul hx hb dX4_of_39 ?_
        refine lv_topi (nm_r (show (13 : Int32) * (nI j_3) = nI (13 * j_3) from pk_mul 13 j_3) ?_)
        refine lv_iload_n hx hb dX4_of_40 rfl (lv_at hl 2 rfl) ?_
        refine lv_iadd hx hb dX4_of_41 ?_
        refine lv_topi (nm_r (show (nI (13 * j_3)) + (nI j_13) = nI (13 * j_3 + j_13) from nI_add (13 * j_3) j_13) ?_)
        have hj_16 : 13 * j_3 + j_13 < τ 3 x_14 := by rw [show τ 3 x_14 = 3328 from (hI.arr h_15 rfl).2.1]; omega
        refine W.eq (g2 := F0 m 42 ls (.int (nI (13 * j_3 + j_13)) :: .ref x_14 :: [])) rfl ?_
        refine kp_fald (j := 13 * j_3 + j_13) hx hb hK hP hI h_15 rfl hj_16 dX4_of_42 (ka_15 fun x_17 h_18 => ?_)
        refine lv_goto (tgt := 47) hx hb dX4_of_43 (by decide) ?_
        refine W.widen (k := 0) (n := 0) (Nat.le_of_ble_eq_true rfl) (Nat.le_of_ble_eq_true rfl) ?_
        exact W.fret (v := x_17) hx hb hr (fun t ht hW9 => ⟨⟨x_17, (u_11.1, u_11.2), rfl, ⟨(fb_le h_18 (by decide)), ⟨_, _, hF, hW, hI⟩⟩, by rw [ht]; exact hP, va_K.moved hW9.alike hK, hD⟩, hS.F ht⟩) hS.2.2 dX4_of_47
  · refine lv_if_eq (tgt := 23) hx hb dX4_of_6 (by decide) (fun _ => ?_) (fun h9 => by first | exact absurd h9 (by decide) | exact absurd (by decide) h9)
    refine lv_iconst (v := 0) hx hb dX4_of_23 (by decide) ?_
    refine lv_iconst (v := 1) hx hb dX4_of_24 (by decide) ?_
    refine lv_iconst (v := 1) hx hb dX4_of_25 (by decide) ?_
    refine kd_calli (va_runV (As := [.int 0, .int 1, .int 1]) (rest := []) ⟨hx, hb, hml, hown, hts⟩ (k_goes2 l dC dI dA ad _ τ pv _ _ hI mm fa sa aa ia sf mb mr mk mr hW 1 1) (cwV 3 hts gX4_of_X4_goes rfl rfl rfl (by decide +kernel) ⟨Nat.le_of_ble_eq_true rfl, Nat.le_of_ble_eq_true rfl⟩) (kd_preV hP hD hK hS hA hE hI hW.tm rfl rfl) rfl rfl hl.1 rfl (lv_room (Nat.le_of_ble_eq_true rfl)) dX4_of_26 ⟨Nat.le_of_ble_eq_true rfl, Nat.le_of_ble_eq_true rfl⟩) hD hS hA (fun r_20 u_19 H locs hw hP hD hS => ?_)
    obtain ⟨rfl, hI⟩ := hw
    have hF := hF.trans (kFr.up (P := kPx) (w := .int 1) (k := 0) hW.tm rfl)
    have hW := hW.frw (kFr.up (P := kPy mr) (w := .int 1) (k := 0) hW.tm rfl)
    refine lv_if_eq (tgt := 46) hx hb dX4_of_29 (by decide) (fun _ => ?_) (fun h9 => by first | exact absurd h9 (by decide) | exact absurd (by decide) h9)
    refine lv_fconst0 hx hb dX4_of_46 ?_
    refine W.widen (k := 0) (n := 0) (Nat.le_of_ble_eq_true rfl) (Nat.le_of_ble_eq_true rfl) ?_
    exact W.fret (v := FP.fconst0) hx hb hr (fun t ht hW9 => ⟨⟨FP.fconst0, (u_19.1, u_19.2), rfl, ⟨(fb_le kc_0 (by decide)), ⟨_, _, hF, hW, hI⟩⟩, by rw [ht]; exact hP, va_K.moved hW9.alike hK, hD⟩, hS.F ht⟩) hS.2.2 dX4_of_47
