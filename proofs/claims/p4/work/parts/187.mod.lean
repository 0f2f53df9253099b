set_option maxHeartbeats 4000000 in
set_option maxRecDepth 100000 in
theorem k_pair (l : Launch) (dC : Nat → ClassId) (dI : Nat → Nat → Nat) (dA : Nat → ClassId) (ad sz : Nat) (τ : Nat → Nat → Nat) (pv : Nat → Nat → Value) (L : List Nat) (f : Nat → va_E) (hI : kI dA τ pv L f) (mm fa sa aa ia sf mb mr mk mi : Nat) (hW : kMd τ pv mm fa sa aa ia sf mb mr mk mi) (a b : Int32) : Met l yX4_pair wsX4_pair ({ frames := 1, cells := 0, slots := 0, locals := 21 } : Room) (va_Pc [.ref mm, .int a, .int b] (kB dC dI dA ad sz L f)) (va_Qi (fun r u => ((r = 1 ∧ kPairOk a b mb = true ∧ (∃ i, i < mb ∧ a = nI i) ∧ (b = -1 ∨ ∃ j, j < mb ∧ b = nI j)) ∨ (r = 0 ∧ kPairOk a b mb = false)) ∧ kI dA τ pv u.1 u.2) (kR dC dI dA (va_A (va_pl L f) sz)) (va_A (va_pl L f) sz)) 0 0 (va_A (va_pl L f) sz) := by
  refine Met.ofW (cc := cX4_pair) (maxL := 3) (ret := (some .boolean)) (by decide) rfl ?_
  intro p e s m args below meth c s₁ B hml hv
  obtain ⟨rfl, hsz, hP, hK, hD0, hE⟩ := hv
  have hx := B.exec
  have hb := B.bytes
  have hr := B.returns
  have hts := atoms_spec (ws := wsX4_pair) B.pre
  have hown : s.vm.findClass RX4 = some m.cls := findClass_of_methodNamed B.named
  have hlocks := B.notSynchronized
  subst hsz
  have hD := hD0.self (sz := s.heap.size)
  generalize hAe : va_A (va_pl L f) s.heap.size = A at hD hE ⊢
  have hA : ∀ q : Nat, s.heap.size ≤ q → A q := fun q h => by rw [← hAe]; exact Or.inr h
  have hS : va_S A s.heap s.heap [] := va_S.rf
  have hP : va_P (dC, dI) vwCl (va_pl L f) s.heap := hP
  have hK : va_K (dC, dI) vwCl (tyA dA) s := hK
  have hl := lv_entry ([.ref mm, .int a, .int b]) (n := 3) (Nat.le_of_ble_eq_true rfl)
  rw [lg_entry_eq]
  generalize (lg_sl ([.ref mm, .int a, .int b]) ++ List.replicate (3 - (lg_sl ([.ref mm, .int a, .int b])).length) Slot.unset).toArray = ls at hl ⊢
  have hl : lv_has ls 3 [(0, .ref mm), (1, .int a), (2, .int b)] := hl
  have hnb := hW.lb
  have hnr := hW.lr
  have hnk := hW.lk
  have hni := hW.li
  refine lv_aload_n hx hb dX4_pair_0 rfl (lv_at hl 0 rfl) ?_
  refine lv_iload_n hx hb dX4_pair_1 rfl (lv_at hl 1 rfl) ?_
  refine kd_calli (va_runV (As := [.int a]) (rest := []) ⟨hx, hb, hml, hown, hts⟩ (k_known l dC dI dA ad _ τ pv _ _ hI mm fa sa aa ia sf mb mr mk mi hW a) (cwV 1 hts gX4_pair_X4_known rfl rfl rfl (by decide +kernel) ⟨Nat.le_of_ble_eq_true rfl, Nat.le_of_ble_eq_true rfl⟩) (kd_preV hP hD hK hS hA hE hI hW.tm rfl rfl) rfl rfl hl.1 rfl (lv_room (Nat.le_of_ble_eq_true rfl)) dX4_pair_2 ⟨Nat.le_of_ble_eq_true rfl, Nat.le_of_ble_eq_true rfl⟩) hD hS hA (fun r_2 u_1 H locs hw hP hD hS => ?_)
  obtain ⟨⟨rfl, ⟨j_3, hj_3, rfl⟩⟩ | ⟨rfl, h_4⟩, hI⟩ := hw
  · refine lv_if_eq (tgt := 30) hx hb dX4_pair_5 (by decide) (fun h9 => by first | exact absurd h9 (by decide) | exact absurd (by decide) h9) (fun _ => ?_)
    refine lv_iload_n hx hb dX4_pair_8 rfl (lv_at hl 2 rfl) ?_
    refine lv_iconst (v := (-1)) hx hb dX4_pair_9 (by decide) ?_
    refine lv_icmp_eq (tgt := 21) hx hb dX4_pair_10 (by decide) (fun c_5 => ?_) (fun c_5 => ?_)
    · refine lv_iload_n hx hb dX4_pair_21 rfl (lv_at hl 1 rfl) ?_
      refine lv_iload_n hx hb dX4_pair_22 rfl (lv_at hl 2 rfl) ?_
      refine lv_icmp_eq (tgt := 30) hx hb dX4_pair_23 (by decide) (fun c_6 => ?_) (fun c_6 => ?_)
      · refine lv_iconst (v := 0) hx hb dX4_pair_30 (by decide) ?_
        refine W.widen (k := 0) (n := 0) (Nat.le_of_ble_eq_true rfl) (Nat.le_of_ble_eq_true rfl) ?_
        exact W.zret (ty := .boolean) (v := 0) hx hb hr rfl (fun t ht hW9 => ⟨⟨0, (u_1.1, u_1.2), rfl, ⟨Or.inr ⟨rfl, kPk_f3 c_6⟩, hI⟩, by rw [ht]; exact hP, va_K.moved hW9.alike hK, hD⟩, hS.F ht⟩) hS.2.2 dX4_pair_31
      · refine lv_iconst (v := 1) hx hb dX4_pair_26 (by decide) ?_
        refine lv_goto (tgt := 31) hx hb dX4_pair_27 (by decide) ?_
        refine W.widen (k := 0) (n := 0) (Nat.le_of_ble_eq_true rfl) (Nat.le_of_ble_eq_true rfl) ?_
        exact W.zret (ty := .boolean) (v := 1) hx hb hr rfl (fun t ht hW9 => ⟨⟨1, (u_1.1, u_1.2), rfl, ⟨Or.inl ⟨rfl, kPk_t (kKn_t hj_3 (by omega)) (Or.inl c_5) c_6, ⟨j_3, by omega, rfl⟩, Or.inl c_5⟩, hI⟩, by rw [ht]; exact hP, va_K.moved hW9.alike hK, hD⟩, hS.F ht⟩) hS.2.2 dX4_pair_31
    · refine lv_aload_n hx hb dX4_pair_13 rfl (lv_at hl 0 rfl) ?_
      refine lv_iload_n hx hb dX4_pair_14 rfl (lv_at hl 2 rfl) ?_
      refine kd_calli (va_runV (As := [.int b]) (rest := []) ⟨hx, hb, hml, hown, hts⟩ (k_known l dC dI dA ad _ τ pv _ _ hI mm fa sa aa ia sf mb mr mk mi hW b) (cwV 1 hts gX4_pair_X4_known rfl rfl rfl (by decide +kernel) ⟨Nat.le_of_ble_eq_true rfl, Nat.le_of_ble_eq_true rfl⟩) (kd_preV hP hD hK hS hA hE hI hW.tm rfl rfl) rfl rfl hl.1 rfl (lv_room (Nat.le_of_ble_eq_true rfl)) dX4_pair_15 ⟨Nat.le_of_ble_eq_true rfl, Nat.le_of_ble_eq_true rfl⟩) hD hS hA (fun r_8 u_7 H locs hw hP hD hS => ?_)
      obtain ⟨⟨rfl, ⟨j_9, hj_9, rfl⟩⟩ | ⟨rfl, h_10⟩, hI⟩ := hw
      · refine lv_if_eq (tgt := 30) hx hb dX4_pair_18 (by decide) (fun h9 => by first | exact absurd h9 (by decide) | exact absurd (by decide) h9) (fun _ => ?_)
        refine lv_iload_n hx hb dX4_pair_21 rfl (lv_at hl 1 rfl) ?_
        refine lv_iload_n hx hb dX4_pair_22 rfl (lv_at hl 2 rfl) ?_
        refine lv_icmp_eq (tgt := 30) hx hb dX4_pair_23 (by decide) (fun c_11 => ?_) (fun c_11 => ?_)
        · have n_12 : j_3 = j_9 := (nI_eq (by omega) (by omega)).mp (show nI j_3 = nI j_9 from c_11)
          refine lv_iconst (v := 0) hx hb dX4_pair_30 (by decide) ?_
          refine W.widen (k := 0) (n := 0) (Nat.le_of_ble_eq_true rfl) (Nat.le_of_ble_eq_true rfl) ?_
          exact W.zret (ty := .boolean) (v := 0) hx hb hr rfl (fun t ht hW9 => ⟨⟨0, (u_7.1, u_7.2), rfl, ⟨Or.inr ⟨rfl, kPk_f3 (congrArg nI n_12)⟩, hI⟩, by rw [ht]; exact hP, va_K.moved hW9.alike hK, hD⟩, hS.F ht⟩) hS.2.2 dX4_pair_31
        · have n_13 : ¬ j_3 = j_9 := fun h9 => (show ¬ nI j_3 = nI j_9 from c_11) ((nI_eq (by omega) (by omega)).mpr h9)
          refine lv_iconst (v := 1) hx hb dX4_pair_26 (by decide) ?_
          refine lv_goto (tgt := 31) hx hb dX4_pair_27 (by decide) ?_
          refine W.widen (k := 0) (n := 0) (Nat.le_of_ble_eq_true rfl) (Nat.le_of_ble_eq_true rfl) ?_
          exact W.zret (ty := .boolean) (v := 1) hx hb hr rfl (fun t ht hW9 => ⟨⟨1, (u_7.1, u_7.2), rfl, ⟨Or.inl ⟨rfl, kPk_t (kKn_t hj_3 (by omega)) (Or.inr (kKn_t hj_9 (by omega))) (fun h9 => n_13 ((nI_eq (by omega) (by omega)).mp h9)), ⟨j_3, by omega, rfl⟩, Or.inr ⟨j_9, by omega, rfl⟩⟩, hI⟩, by rw [ht]; exact hP, va_K.moved hW9.alike hK, hD⟩, hS.F ht⟩) hS.2.2 dX4_pair_31
      · refine lv_if_eq (tgt := 30) hx hb dX4_pair_18 (by decide) (fun _ => ?_) (fun h9 => by first | exact absurd h9 (by decide) | exact absurd (by decide) h9)
        refine lv_iconst (v := 0) hx hb dX4_pair_30 (by decide) ?_
        refine W.widen (k := 0) (n := 0) (Nat.le_of_ble_eq_true rfl) (Nat.le_of_ble_eq_true rfl) ?_
        exact W.zret (ty := .boolean) (v := 0) hx hb hr rfl (fun t ht hW9 => ⟨⟨0, (u_7.1, u_7.2), rfl, ⟨Or.inr ⟨rfl, kPk_f2 c_5 (kKn_f h_10)⟩, hI⟩, by rw [ht]; exact hP, va_K.moved hW9.alike hK, hD⟩, hS.F ht⟩) hS.2.2 dX4_pair_31
  · refine lv_if_eq (tgt := 30) hx hb dX4_pair_5 (by decide) (fun _ => ?_) (fun h9 => by first | exact absurd h9 (by decide) | exact absurd (by decide) h9)
    refine lv_iconst (v := 0) hx hb dX4_pair_30 (by decide) ?_
    refine W.widen (k := 0) (n := 0) (Nat.le_of_ble_eq_true rfl) (Nat.le_of_ble_eq_true rfl) ?_
    exact W.zret (ty := .boolean) (v := 0) hx hb hr rfl (fun t ht hW9 => ⟨⟨0, (u_1.1, u_1.2), rfl, ⟨Or.inr ⟨rfl, kPk_f1 (kKn_f h_4)⟩, hI⟩, by rw [ht]; exact hP, va_K.moved hW9.alike hK, hD⟩, hS.F ht⟩) hS.2.2 dX4_pair_31
set_option maxHeartbeats 4000000 in
set_option maxRecDepth 100000 in
theorem k_make0 (l : Launch) (dC : Nat → ClassId) (dI : Nat → Nat → Nat) (dA : Nat → ClassId) (ad sz : Nat) (τ : Nat → Nat → Nat) (pv : Nat → Nat → Value) (L : List Nat) (f : Nat → va_E) (hI : kI dA τ pv L f) (mm fa sa aa ia sf mb mr mk mi : Nat) (hW : kMd τ pv mm fa sa aa ia sf mb mr mk mi) (a : Nat) (ha9 : a < mb) (tg : UInt32) (h_tg : fb 1149239296 tg) (ky : Int32) (hroom : mr < 1024) (hmi : mi = mr) (t9 : Nat) (hat : pv aa mr = .int (kmi t9)) (ht9 : t9 ≤ mr) (hk9 : ∀ k, t9 = k + 1 → pv aa k = .int (-1)) : Met l yX4_make wsX4_make ({ frames := 2, cells := 0, slots := 0, locals := 45 } : Room) (va_Pc [.ref mm, .int (nI a), .int (-1), .float tg, .int ky] (kB dC dI dA ad sz L f)) (va_Qi (fun r u => r = nI mr ∧ ∃ pv2, kFr (kPxr mr) τ pv τ pv2 ∧ kMd τ pv2 mm fa sa aa ia sf mb (mr + 1) mk (mr + 1) ∧ (pv2 fa mr = .int (nI a) ∧ pv2 sa mr = .int (-1) ∧ pv2 aa mr = .int (kmi t9)) ∧ pv2 mm 0 = pv mm 0 ∧ kI dA τ pv2 u.1 u.2) (kR dC dI dA (va_A (va_pl L f) sz)) (va_A (va_pl L f) sz)) 0 0 (va_A (va_pl L f) sz) := by
  refine Met.ofW (cc := cX4_make) (maxL := 7) (ret := (some .int)) (by decide) rfl ?_
  intro p e s m args below meth c s₁ B hml hv
  obtain ⟨rfl, hsz, hP, hK, hD0, hE⟩ := hv
  have hx := B.exec
  have hb := B.bytes
  have hr := B.returns
  have hts := atoms_spec (ws := wsX4_make) B.pre
  have hown : s.vm.findClass RX4 = some m.cls := findClass_of_methodNamed B.named
  have hlocks := B.notSynchronized
  have i_X4 : ∀ w ∈ u_ws RX4 TX4 35, w ∈ wsX4_make := by decide +kernel
  subst hsz
  have hD := hD0.self (sz := s.heap.size)
  generalize hAe : va_A (va_pl L f) s.heap.size = A at hD hE ⊢
  have hA : ∀ q : Nat, s.heap.size ≤ q → A q := fun q h => by rw [← hAe]; exact Or.inr h
  have hS : va_S A s.heap s.heap [] := va_S.rf
  have hP : va_P (dC, dI) vwCl (va_pl L f) s.heap := hP
  have hK : va_K (dC, dI) vwCl (tyA dA) s := hK
  have hl := lv_entry ([.ref mm, .int (nI a), .int (-1), .float tg, .int ky]) (n := 7) (Nat.le_of_ble_eq_true rfl)
  rw [lg_entry_eq]
  generalize (lg_sl ([.ref mm, .int (nI a), .int (-1), .float tg, .int ky]) ++ List.replicate (7 - (lg_sl ([.ref mm, .int (nI a), .int (-1), .float tg, .int ky])).length) Slot.unset).toArray = ls at hl ⊢
  have hl : lv_has ls 7 [(0, .ref mm), (1, .int (nI a)), (2, .int (-1)), (3, .float tg), (4, .int ky)] := hl
  have hnb := hW.lb
  have hnr := hW.lr
  have hnk := hW.lk
  have hni := hW.li
  have hF : kFr (kPxr mr) τ pv τ pv := kFr.rf
  rw [hmi] at hW
  refine lv_aload_n hx hb dX4_make_0 rfl (lv_at hl 0 rfl) ?_
  refine kp_get hx hb hts i_X4 hown hK hP hI hW.tm rfl rfl 6 (by decide) (by decide) (hts (.fieldLink RX4 129 "IslandSolverModel" "rows" "I") (by decide +kernel)) (fun _ h9 => h9) dX4_make_1 (kq_P (v0 := .int (nI mr)) rfl hW.p6 fun h_2 => ?_)
  refine lv_istore (lv' := [(5, .int (nI mr)), (0, .ref mm), (1, .int (nI a)), (2, .int (-1)), (3, .float tg), (4, .int ky)]) hx hb dX4_make_4 hl (by decide) rfl (fun ls hl => ?_)
  refine lv_aload_n hx hb dX4_make_6 rfl (lv_at hl 1 rfl) ?_
  refine kp_get hx hb hts i_X4 hown hK hP hI hW.tm rfl rfl 7 (by decide) (by decide) (hts (.fieldLink RX4 24 "IslandSolverModel" "firsts" "[I") (by decide +kernel)) (fun _ h9 => h9) dX4_make_7 (kq_P (v0 := .ref fa) rfl hW.p7 fun h_4 => ?_)
  refine lv_iload hx hb dX4_make_10 (lv_at hl 0 rfl) ?_
  refine lv_iload_n hx hb dX4_make_12 rfl (lv_at hl 2 rfl) ?_
  have hj_5 : mr < τ 3 fa := by rw [show τ 3 fa = 1024 from (hI.arr hW.tf rfl).2.1]; omega
  refine W.eq (g2 := F0 m 13 ls (.int (nI a) :: .int (nI (mr)) :: .ref fa :: [])) rfl ?_
  refine kp_iastX (pv' := (kup pv fa (mr) (.int (nI a)))) (j := mr) hx hb hK hP hD hS hI hW.tf rfl hj_5 (fun _ _ h9 => kup_ne h9) (show kPr _ 0 _ _ from (kv_I _)) ((kPn_pin rfl).mpr kup_self.symm) dX4_make_13 (fun f H locs hI hP hD hS => ?_)
  have hF := hF.trans (kFr.up (P := kPxr mr) (w := .int (nI a)) (k := mr) hW.tf (by simp [kPxr]))
  have hW := hW.frw (kFr.up (P := kPy mr) (w := .int (nI a)) (k := mr) hW.tf (by simp [kPy]))
  refine lv_aload_n hx hb dX4_make_14 rfl (lv_at hl 1 rfl) ?_
  refine kp_get hx hb hts i_X4 hown hK hP hI hW.tm rfl rfl 8 (by decide) (by decide) (hts (.fieldLink RX4 27 "IslandSolverModel" "seconds" "[I") (by decide +kernel)) (fun _ h9 => h9) dX4_make_15 (kq_P (v0 := .ref sa) rfl hW.p8 fun h_7 => ?_)
  refine lv_iload hx hb dX4_make_18 (lv_at hl 0 rfl) ?_
  refine lv_iload_n hx hb dX4_make_20 rfl (lv_at hl 3 rfl) ?_
  have hj_8 : mr < τ 3 sa := by rw [show τ 3 sa = 1024 from (hI.arr hW.ts rfl).2.1]; omega
  refine W.eq (g2 := F0 m 21 ls (.int (-1) :: .int (nI (mr)) :: .ref sa :: [])) rfl ?_
  refine kp_iastX (pv' := (kup (kup pv fa (mr) (.int (nI a))) sa (mr) (.int (-1)))) (j := mr) hx hb hK hP hD hS hI hW.ts rfl hj_8 (fun _ _ h9 => kup_ne h9) (show kPr _ 0 _ _ from (kv_I _)) ((kPn_pin rfl).mpr kup_self.symm) dX4_make_21 (fun f H locs hI hP hD hS => ?_)
  have hF := hF.trans (kFr.up (P := kPxr mr) (w := .int (-1)) (k := mr) hW.ts (by simp [kPxr]))
  have hW := hW.frw (kFr.up (P := kPy mr) (w := .int (-1)) (k := mr) hW.ts (by simp [kPy]))
  refine lv_aload_n hx hb dX4_make_22 rfl (lv_at hl 1 rfl) ?_
  refine kp_get hx hb hts i_X4 hown hK hP hI hW.tm rfl rfl 10 (by decide) (by decide) (hts (.fieldLink RX4 33 "IslandSolverModel" "targets" "[F") (by decide +kernel)) (fun _ h9 => h9) dX4_make_23 (kq_RE 22 (by decide) fun x_9 h_10_e h_10 => ?_)
  refine lv_iload hx hb dX4_make_26 (lv_at hl 0 rfl) ?_
  refine lv_fload_n hx hb dX4_make_28 rfl (lv_at hl 4 rfl) ?_
  have hj_11 : mr < τ 3 x_9 := by rw [show τ 3 x_9 = 1024 from (hI.arr h_10 rfl).2.1]; omega
  refine W.eq (g2 := F0 m 29 ls (.float tg :: .int (nI (mr)) :: .ref x_9 :: [])) rfl ?_
  refine kp_fastX (pv' := (kup (kup pv fa (mr) (.int (nI a))) sa (mr) (.int (-1)))) (j := mr) hx hb hK hP hD hS hI h_10 rfl hj_11 (fun _ _ _ => rfl) (show kPr _ 1149239296 _ _ from (kv_F (by decide) h_tg)) (kPn_not rfl (by decide)) dX4_make_29 (fun f H locs hI hP hD hS => ?_)
  refine lv_aload_n hx hb dX4_make_30 rfl (lv_at hl 1 rfl) ?_
  refine kp_get hx hb hts i_X4 hown hK hP hI hW.tm rfl rfl 16 (by decide) (by decide) (hts (.fieldLink RX4 51 "IslandSolverModel" "keys" "[I") (by decide +kernel)) (fun _ h9 => h9) dX4_make_31 (kq_RE 28 (by decide) fun x_12 h_13_e h_13 => ?_)
  refine lv_iload hx hb dX4_make_34 (lv_at hl 0 rfl) ?_
  refine lv_iload hx hb dX4_make_36 (lv_at hl 5 rfl) ?_
  have hj_14 : mr < τ 3 x_12 := by rw [show τ 3 x_12 = 1024 from (hI.arr h_13 rfl).2.1]; omega
  refine W.eq (g2 := F0 m 38 ls (.int ky :: .int (nI (mr)) :: .ref x_12 :: [])) rfl ?_
  refine kp_iastX (pv' := (kup (kup pv fa (mr) (.int (nI a))) sa (mr) (.int (-1)))) (j := mr) hx hb hK hP hD hS hI h_13 rfl hj_14 (fun _ _ _ => rfl) (show kPr _ 0 _ _ from (kv_I _)) (kPn_not rfl (by decide)) dX4_make_38 (fun f H locs hI hP hD hS => ?_)
  refine lv_iconst (v := 0) hx hb dX4_make_39 (by decide) ?_
  refine lv_istore (lv' := [(6, .int 0), (5, .int (nI mr)), (0, .ref mm), (1, .int (nI a)), (2, .int (-1)), (3, .float tg), (4, .int ky)]) hx hb dX4_make_40 hl (by decide) rfl (fun ls hl => ?_)
  have hl : lv_has ls 7 [(0, .ref mm), (1, .int (nI a)), (2, .int (-1)), (3, .float tg), (4, .int ky), (5, .int (nI mr)), (6, .int 0)] := lv_sub hl [2, 3, 4, 5, 6, 1, 0] rfl
  refine kl_loop (Inv := fun n42 _ L f H locs ls => ∃ (k8 : Nat), 9 - k8 < n42 ∧ kI dA τ (kup (kup pv fa (mr) (.int (nI a))) sa (mr) (.int (-1))) L f ∧ va_P (dC, dI) vwCl (va_pl L f) H ∧ va_D A (va_pl L f) ∧ va_S A s.heap H locs ∧ lv_has ls 7 [(0, .ref mm), (1, .int (nI a)), (2, .int (-1)), (3, .float tg), (4, .int ky), (5, .int (nI mr)), (6, .int (nI k8))] ∧ k8 ≤ 9) (fun _ _ _ _ _ _ h9 => by obtain ⟨_, hn, _⟩ := h9; exact Nat.not_lt_zero _ hn) (fun n42 ih42 _ L f H locs ls h9 => ?_) (9 - 0 + 1) (fun _ _ => .null) _ _ _ _ _ ⟨0, Nat.lt_succ_self _, hI, hP, hD, hS, hl, Nat.zero_le _⟩
  obtain ⟨k8, hn42, hI, hP, hD, hS, hl, hib⟩ := h9
  refine lv_iload hx hb dX4_make_42 (lv_at hl 6 rfl) ?_
  refine lv_bipush (v := 9) hx hb dX4_make_44 (by decide) ?_
  refine lv_icmp_ge (tgt := 75) hx hb dX4_make_46 (by decide) (fun c_15 => ?_) (fun c_15 => ?_)
  · have n_16 : 9 ≤ k8 := (nI_leI (by omega) (by omega)).mp (show nI 9 ≤ nI k8 from c_15)
    have hat : (kup (kup pv fa (mr) (.int (nI a))) sa (mr) (.int (-1))) aa mr = .int (kmi t9) := (kup_ne (Or.inl (knt hW.ta hW.ts))).trans ((kup_ne (Or.inl (knt hW.ta hW.tf))).trans hat)
    have hm0 : (kup (kup pv fa (mr) (.int (nI a))) sa (mr) (.int (-1))) mm 0 = pv mm 0 := (kup_ne (Or.inl hW.ne.2.1.symm)).trans (kup_ne (Or.inl hW.ne.1.symm))
    have hfa9 : (kup (kup pv fa (mr) (.int (nI a))) sa (mr) (.int (-1))) fa mr = .int (nI a) := (kup_ne (Or.inl (knt hW.tf hW.ts))).trans kup_self
    have hsa9 : (kup (kup pv fa (mr) (.int (nI a))) sa (mr) (.int (-1))) sa mr = .int (-1) := kup_self
    have hn9 : kMr (kup (kup pv fa (mr) (.int (nI a))) sa (mr) (.int (-1))) fa sa aa mb mr := ⟨a, 0, t9, (kup_ne (Or.inl (knt hW.tf hW.ts))).trans kup_self, by omega, kup_self, by omega, hat, ht9, fun k hk => (kup_ne (Or.inl (knt hW.ta hW.ts))).trans ((kup_ne (Or.inl (knt hW.ta hW.tf))).trans (hk9 k hk))⟩
    refine lv_aload_n hx hb dX4_make_75 rfl (lv_at hl 0 rfl) ?_
    refine lv_dup hx hb dX4_make_76 rfl ?_
    refine kp_get hx hb hts i_X4 hown hK hP hI hW.tm rfl rfl 6 (by decide) (by decide) (hts (.fieldLink RX4 129 "IslandSolverModel" "rows" "I") (by decide +kernel)) (fun _ h9 => h9) dX4_make_77 (kq_P (v0 := .int (nI mr)) rfl hW.p6 fun h_18 => ?_)
    refine lv_iconst (v := 1) hx hb dX4_make_80 (by decide) ?_
    refine lv_iadd hx hb dX4_make_81 ?_
    refine lv_topi (nm_r (show (nI mr) + 1 = nI (mr + 1) from nI_add mr 1) ?_)
    refine kp_putP (v := .int (nI (mr + 1))) (ty := .int) hx hb hts i_X4 tyX4 tyX4_ok nmX4 hown hK hP hD hS hI hW.tm rfl rfl 6 (by decide) (by decide) (hts (.fieldLink RX4 129 "IslandSolverModel" "rows" "I") (by decide +kernel)) (fun _ h9 => h9) rfl (by decide +kernel) rfl rfl rfl (kv_S (by decide) ⟨mr + 1, rfl, by omega⟩) dX4_make_82 (fun f H locs hI hP hD hS => ?_)
    have hF := hF.trans (kFr.up (P := kPxr mr) (w := .int (nI (mr + 1))) (k := 6) hW.tm rfl)
    have hm0 := (kup_ne (pv := (kup (kup pv fa (mr) (.int (nI a))) sa (mr) (.int (-1)))) (a := mm) (b := mm) (k := 6) (j := 0) (w := .int (nI (mr + 1))) (Or.inr (by decide))).trans hm0
    have hfa9 := (kup_ne (pv := (kup (kup pv fa (mr) (.int (nI a))) sa (mr) (.int (-1)))) (a := mm) (k := 6) (w := .int (nI (mr + 1))) (Or.inl hW.ne.1)).trans hfa9
    have hsa9 := (kup_ne (pv := (kup (kup pv fa (mr) (.int (nI a))) sa (mr) (.int (-1)))) (a := mm) (k := 6) (w := .int (nI (mr + 1))) (Or.inl hW.ne.2.1)).trans hsa9
    have hat := (kup_ne (pv := (kup (kup pv fa (mr) (.int (nI a))) sa (mr) (.int (-1)))) (a := mm) (k := 6) (w := .int (nI (mr + 1))) (Or.inl hW.ne.2.2.1)).trans hat
    have hW := hW.pushR (by omega) hn9
    refine lv_aload_n hx hb dX4_make_85 rfl (lv_at hl 0 rfl) ?_
    refine kp_get hx hb hts i_X4 hown hK hP hI hW.tm rfl rfl 17 (by decide) (by decide) (hts (.fieldLink RX4 54 "IslandSolverModel" "impulses" "[F") (by decide +kernel)) (fun _ h9 => h9) dX4_make_86 (kq_P (v0 := .ref ia) rfl hW.p17 fun h_20 => ?_)
    refine lv_iload hx hb dX4_make_89 (lv_at hl 5 rfl) ?_
    refine lv_aload_n hx hb dX4_make_91 rfl (lv_at hl 0 rfl) ?_
    refine lv_iload hx hb dX4_make_92 (lv_at hl 5 rfl) ?_
    refine lv_aload_n hx hb dX4_make_94 rfl (lv_at hl 0 rfl) ?_
    refine lv_iload hx hb dX4_make_95 (lv_at hl 4 rfl) ?_
    refine kd_callf (va_runV (As := [.int ky]) (rest := [.int (nI mr), .ref mm, .int (nI mr), .ref ia]) ⟨hx, hb, hml, hown, hts⟩ (k_keptOf l dC dI dA ad _ τ (kup (kup (kup pv fa (mr) (.int (nI a))) sa (mr) (.int (-1))) mm 6 (.int (nI (mr + 1)))) _ _ hI mm fa sa aa ia sf mb (mr + 1) mk mr hW ky) (cwV 1 hts gX4_make_X4_keptOf rfl rfl rfl (by decide +kernel) ⟨Nat.le_of_ble_eq_true rfl, Nat.le_of_ble_eq_true rfl⟩) (kd_preV hP hD hK hS hA hE hI hW.tm rfl rfl) rfl rfl hl.1 rfl (lv_room (Nat.le_of_ble_eq_true rfl)) dX4_make_97 ⟨Nat.le_of_ble_eq_true rfl, Nat.le_of_ble_eq_true rfl⟩) hD hS hA (fun r_22 u_21 H locs hw hP hD hS => ?_)
    obtain ⟨hr_22, hI⟩ := hw
    refine kd_callf (va_runV (As := [.int (nI mr), .float r_22]) (rest := [.int (nI mr), .ref ia]) ⟨hx, hb, hml, hown, hts⟩ (k_limited l dC dI dA ad _ τ (kup (kup (kup pv fa (mr) (.int (nI a))) sa (mr) (.int (-1))) mm 6 (.int (nI (mr + 1)))) _ _ hI mm fa sa aa ia sf mb (mr + 1) mk mr hW mr (by omega) (by omega) 1224736768 r_22 hr_22 (by decide)) (cwV 2 hts gX4_make_X4_limited rfl rfl rfl (by decide +kernel) ⟨Nat.le_of_ble_eq_true rfl, Nat.le_of_ble_eq_true rfl⟩) (kd_preV hP hD hK hS hA hE hI hW.tm rfl rfl) rfl rfl hl.1 rfl (lv_room (Nat.le_of_ble_eq_true rfl)) dX4_make_100 ⟨Nat.le_of_ble_eq_true rfl, Nat.le_of_ble_eq_true rfl⟩) hD hS hA (fun r_24 u_23 H locs hw hP hD hS => ?_)
    obtain ⟨hr_24, gr_24, hI⟩ := hw
    have hj_25 : mr < τ 3 ia := by rw [show τ 3 ia = 1024 from (hI.arr hW.ti rfl).2.1]; omega
    refine W.eq (g2 := F0 m 103 ls (.float r_24 :: .int (nI (mr)) :: .ref ia :: [])) rfl ?_
    have h29 : Value.int (kon t9) = .int 0 → fb 1199570944 r_24 := fun h9 => by
      cases t9 with
      | zero => exact gr_24 hat
      | succ k9 => exact absurd (Value.int.inj h9) (show ¬ (1 : Int32) = 0 by decide)
    have hF := hF.trans (kFr.up (P := kPxr mr) (pv := (kup (kup (kup pv fa (mr) (.int (nI a))) sa (mr) (.int (-1))) mm 6 (.int (nI (mr + 1))))) (w := .int (kon t9)) (k := mr) hW.ti rfl)
    have hfa9 := (kup_ne (pv := (kup (kup (kup pv fa (mr) (.int (nI a))) sa (mr) (.int (-1))) mm 6 (.int (nI (mr + 1))))) (a := ia) (k := mr) (w := .int (kon t9)) (Or.inl (knt hW.tf hW.ti))).trans hfa9
    have hsa9 := (kup_ne (pv := (kup (kup (kup pv fa (mr) (.int (nI a))) sa (mr) (.int (-1))) mm 6 (.int (nI (mr + 1))))) (a := ia) (k := mr) (w := .int (kon t9)) (Or.inl (knt hW.ts hW.ti))).trans hsa9
    have hm0 := (kup_ne (pv := (kup (kup (kup pv fa (mr) (.int (nI a))) sa (mr) (.int (-1))) mm 6 (.int (nI (mr + 1))))) (a := ia) (k := mr) (w := .int (kon t9)) (Or.inl hW.ne.2.2.2.symm)).trans hm0
    have hat8 := (kup_ne (pv := (kup (kup (kup pv fa (mr) (.int (nI a))) sa (mr) (.int (-1))) mm 6 (.int (nI (mr + 1))))) (a := ia) (k := mr) (w := .int (kon t9)) (Or.inl (knt hW.ta hW.ti))).trans hat
    have hW := hW.pushI hat (by omega)
    refine kp_fastX (pv' := (kup (kup (kup (kup pv fa (mr) (.int (nI a))) sa (mr) (.int (-1))) mm 6 (.int (nI (mr + 1)))) ia mr (.int (kon t9)))) (j := mr) hx hb hK hP hD hS hI hW.ti rfl hj_25 (fun _ _ h9 => kup_ne h9) (show kPr _ 1224736768 _ _ from (kv_F (by decide) hr_24)) (by rw [kup_self]; exact kPn_29 h29) dX4_make_103 (fun f H locs hI hP hD hS => ?_)
    refine lv_iload hx hb dX4_make_104 (lv_at hl 5 rfl) ?_
    refine W.widen (k := 0) (n := 0) (Nat.le_of_ble_eq_true rfl) (Nat.le_of_ble_eq_true rfl) ?_
    exact W.iret (v := nI mr) hx hb hr (fun t ht hW9 => ⟨⟨nI mr, (u_23.1, f), rfl, ⟨rfl, _, hF, hW, ⟨hfa9, hsa9, hat8⟩, hm0, hI⟩, by rw [ht]; exact hP, va_K.moved hW9.alike hK, hD⟩, hS.F ht⟩) hS.2.2 dX4_make_106
  · have n_26 : ¬ 9 ≤ k8 := fun h9 => (show ¬ nI 9 ≤ nI k8 from c_15) ((nI_leI (by omega) (by omega)).mpr h9)
    refine lv_aload_n hx hb dX4_make_49 rfl (lv_at hl 0 rfl) ?_
    refine kp_get hx hb hts i_X4 hown hK hP hI hW.tm rfl rfl 9 (by decide) (by decide) (hts (.fieldLink RX4 30 "IslandSolverModel" "ways" "[F") (by decide +kernel)) (fun _ h9 => h9) dX4_make_50 (kq_RE 21 (by decide) fun x_27 h_28_e h_28 => ?_)
    refine lv_bipush (v := 9) hx hb dX4_make_53 (by decide) ?_
    refine lv_iload hx hb dX4_make_55 (lv_at hl 5 rfl) ?_
    refine lv_imul hx hb dX4_make_57 ?_
    refine lv_topi (nm_r (show (9 : Int32) * (nI mr) = nI (9 * mr) from pk_mul 9 mr) ?_)
    refine lv_iload hx hb dX4_make_58 (lv_at hl 6 rfl) ?_
    refine lv_iadd hx hb dX4_make_60 ?_
    refine lv_topi (nm_r (show (nI (9 * mr)) + (nI k8) = nI (9 * mr + k8) from nI_add (9 * mr) k8) ?_)
    refine lv_aload_n hx hb dX4_make_61 rfl (lv_at hl 0 rfl) ?_
    refine kp_get hx hb hts i_X4 hown hK hP hI hW.tm rfl rfl 5 (by decide) (by decide) (hts (.fieldLink RX4 21 "IslandSolverModel" "pad" "[F") (by decide +kernel)) (fun _ h9 => h9) dX4_make_62 (kq_RE 18 (by decide) fun x_29 h_30_e h_30 => ?_)
    refine lv_iload hx hb dX4_make_65 (lv_at hl 6 rfl) ?_
    have hj_31 : k8 < τ 3 x_29 := by rw [show τ 3 x_29 = 9 from (hI.arr h_30 rfl).2.1]; omega
    refine W.eq (g2 := F0 m 67 ls (.int (nI (k8)) :: .ref x_29 :: [.int (nI (9 * mr + k8)), .ref x_27])) rfl ?_
    refine kp_fald (j := k8) hx hb hK hP hI h_30 rfl hj_31 dX4_make_67 (ka_F (cd := 1115684864) rfl (by decide) fun x_32 h_33 => ?_)
    have hj_34 : 9 * mr + k8 < τ 3 x_27 := by rw [show τ 3 x_27 = 9216 from (hI.arr h_28 rfl).2.1]; omega
    refine W.eq (g2 := F0 m 68 ls (.float x_32 :: .int (nI (9 * mr + k8)) :: .ref x_27 :: [])) rfl ?_
    refine kp_fastX (pv' := (kup (kup pv fa (mr) (.int (nI a))) sa (mr) (.int (-1)))) (j := 9 * mr + k8) hx hb hK hP hD hS hI h_28 rfl hj_34 (fun _ _ _ => rfl) (show kPr _ 1115684864 _ _ from (kv_F (by decide) h_33)) (kPn_not rfl (by decide)) dX4_make_68 (fun f H locs hI hP hD hS => ?_)
    refine lv_iinc (v := nI (k8 + 1)) (lv' := [(6, .int (nI (k8 + 1))), (0, .ref mm), (1, .int (nI a)), (2, .int (-1)), (3, .float tg), (4, .int ky), (5, .int (nI mr))]) hx hb dX4_make_69 hl (k := 6) rfl (nI_add k8 1) (by decide) rfl (fun ls hl => ?_)
    refine lv_goto (tgt := 42) hx hb dX4_make_72 (by decide) ?_
    have hl : lv_has ls 7 [(0, .ref mm), (1, .int (nI a)), (2, .int (-1)), (3, .float tg), (4, .int ky), (5, .int (nI mr)), (6, .int (nI (k8 + 1)))] := lv_sub hl [1, 2, 3, 4, 5, 6, 0] rfl
    exact ih42 (fun _ _ => .null) _ _ _ _ _ ⟨(k8 + 1), by omega, hI, hP, hD, hS, hl, by omega⟩
set_option maxHeartbeats 4000000 in
set_option maxRecDepth 100000 in
theorem k_make1 (l : Launch) (dC : Nat → ClassId) (dI : Nat → Nat → Nat) (dA : Nat → ClassId) (ad sz : Nat) (τ : Nat → Nat → Nat) (pv : Nat → Nat → Value) (L : List Nat) (f : Nat → va_E) (hI : kI dA τ pv L f) (mm fa sa aa ia sf mb mr mk mi : Nat) (hW : kMd τ pv mm fa sa aa ia sf mb mr mk mi) (a b : Nat) (ha9 : a < mb) (hb9 : b < mb) (tg : UInt32) (h_tg : fb 1149239296 tg) (ky : Int32) (hroom : mr < 1024) (hmi : mi = mr) (t9 : Nat) (hat : pv aa mr = .int (kmi t9)) (ht9 : t9 ≤ mr) (hk9 : ∀ k, t9 = k + 1 → pv aa k = .int (-1)) : Met l yX4_make wsX4_make ({ frames := 2, cells := 0, slots := 0, locals := 45 } : Room) (va_Pc [.ref mm, .int (nI a), .int (nI b), .float tg, .int ky] (kB dC dI dA ad sz L f)) (va_Qi (fun r u => r = nI mr ∧ ∃ pv2, kFr (kPxr mr) τ pv τ pv2 ∧ kMd τ pv2 mm fa sa aa ia sf mb (mr + 1) mk (mr + 1) ∧ (pv2 fa mr = .int (nI a) ∧ pv2 sa mr = .int (nI b) ∧ pv2 aa mr = .int (kmi t9)) ∧ pv2 mm 0 = pv mm 0 ∧ kI dA τ pv2 u.1 u.2) (kR dC dI dA (va_A (va_pl L f) sz)) (va_A (va_pl L f) sz)) 0 0 (va_A (va_pl L f) sz) := by
  refine Met.ofW (cc := cX4_make) (maxL := 7) (ret := (some .int)) (by decide) rfl ?_
  intro p e s m args below meth c s₁ B hml hv
  obtain ⟨rfl, hsz, hP, hK, hD0, hE⟩ := hv
  have hx := B.exec
  have hb := B.bytes
  have hr := B.returns
  have hts := atoms_spec (ws := wsX4_make) B.pre
  have hown : s.vm.findClass RX4 = some m.cls := findClass_of_methodNamed B.named
  have hlocks := B.notSynchronized
  have i_X4 : ∀ w ∈ u_ws RX4 TX4 35, w ∈ wsX4_make := by decide +kernel
  subst hsz
  have hD := hD0.self (sz := s.heap.size)
  generalize hAe : va_A (va_pl L f) s.heap.size = A at hD hE ⊢
  have hA : ∀ q : Nat, s.heap.size ≤ q → A q := fun q h => by rw [← hAe]; exact Or.inr h
  have hS : va_S A s.heap s.heap [] := va_S.rf
  have hP : va_P (dC, dI) vwCl (va_pl L f) s.heap := hP
  have hK : va_K (dC, dI) vwCl (tyA dA) s := hK
  have hl := lv_entry ([.ref mm, .int (nI a), .int (nI b), .float tg, .int ky]) (n := 7) (Nat.le_of_ble_eq_true rfl)
  rw [lg_entry_eq]
  generalize (lg_sl ([.ref mm, .int (nI a), .int (nI b), .float tg, .int ky]) ++ List.replicate (7 - (lg_sl ([.ref mm, .int (nI a), .int (nI b), .float tg, .int ky])).length) Slot.unset).toArray = ls at hl ⊢
  have hl : lv_has ls 7 [(0, .ref mm), (1, .int (nI a)), (2, .int (nI b)), (3, .float tg), (4, .int ky)] := hl
  have hnb := hW.lb
  have hnr := hW.lr
  have hnk := hW.lk
  have hni := hW.li
  have hF : kFr (kPxr mr) τ pv τ pv := kFr.rf
  rw [hmi] at hW
  refine lv_aload_n hx hb dX4_make_0 rfl (lv_at hl 0 rfl) ?_
  refine kp_get hx hb hts i_X4 hown hK hP hI hW.tm rfl rfl 6 (by decide) (by decide) (hts (.fieldLink RX4 129 "IslandSolverModel" "rows" "I") (by decide +kernel)) (fun _ h9 => h9) dX4_make_1 (kq_P (v0 := .int (nI mr)) rfl hW.p6 fun h_2 => ?_)
  refine lv_istore (lv' := [(5, .int (nI mr)), (0, .ref mm), (1, .int (nI a)), (2, .int (nI b)), (3, .float tg), (4, .int ky)]) hx hb dX4_make_4 hl (by decide) rfl (fun ls hl => ?_)
  refine lv_aload_n hx hb dX4_make_6 rfl (lv_at hl 1 rfl) ?_
  refine kp_get hx hb hts i_X4 hown hK hP hI hW.tm rfl rfl 7 (by decide) (by decide) (hts (.fieldLink RX4 24 "IslandSolverModel" "firsts" "[I") (by decide +kernel)) (fun _ h9 => h9) dX4_make_7 (kq_P (v0 := .ref fa) rfl hW.p7 fun h_4 => ?_)
  refine lv_iload hx hb dX4_make_10 (lv_at hl 0 rfl) ?_
  refine lv_iload_n hx hb dX4_make_12 rfl (lv_at hl 2 rfl) ?_
  have hj_5 : mr < τ 3 fa := by rw [show τ 3 fa = 1024 from (hI.arr hW.tf rfl).2.1]; omega
  refine W.eq (g2 := F0 m 13 ls (.int (nI a) :: .int (nI (mr)) :: .ref fa :: [])) rfl ?_
  refine kp_iastX (pv' := (kup pv fa (mr) (.int (nI a)))) (j := mr) hx hb hK hP hD hS hI hW.tf rfl hj_5 (fun _ _ h9 => kup_ne h9) (show kPr _ 0 _ _ from (kv_I _)) ((kPn_pin rfl).mpr kup_self.symm) dX4_make_13 (fun f H locs hI hP hD hS => ?_)
  have hF := hF.trans (kFr.up (P := kPxr mr) (w := .int (nI a)) (k := mr) hW.tf (by simp [kPxr]))
  have hW := hW.frw (kFr.up (P := kPy mr) (w := .int (nI a)) (k := mr) hW.tf (by simp [kPy]))
  refine lv_aload_n hx hb dX4_make_14 rfl (lv_at hl 1 rfl) ?_
  refine kp_get hx hb hts i_X4 hown hK hP hI hW.tm rfl rfl 8 (by decide) (by decide) (hts (.fieldLink RX4 27 "IslandSolverModel" "seconds" "[I") (by decide +kernel)) (fun _ h9 => h9) dX4_make_15 (kq_P (v0 := .ref sa) rfl hW.p8 fun h_7 => ?_)
  refine lv_iload hx hb dX4_make_18 (lv_at hl 0 rfl) ?_
  refine lv_iload_n hx hb dX4_make_20 rfl (lv_at hl 3 rfl) ?_
  have hj_8 : mr < τ 3 sa := by rw [show τ 3 sa = 1024 from (hI.arr hW.ts rfl).2.1]; omega
  refine W.eq (g2 := F0 m 21 ls (.int (nI b) :: .int (nI (mr)) :: .ref sa :: [])) rfl ?_
  refine kp_iastX (pv' := (kup (kup pv fa (mr) (.int (nI a))) sa (mr) (.int (nI b)))) (j := mr) hx hb hK hP hD hS hI hW.ts rfl hj_8 (fun _ _ h9 => kup_ne h9) (show kPr _ 0 _ _ from (kv_I _)) ((kPn_pin rfl).mpr kup_self.symm) dX4_make_21 (fun f H locs hI hP hD hS => ?_)
  have hF := hF.trans (kFr.up (P := kPxr mr) (w := .int (nI b)) (k := mr) hW.ts (by simp [kPxr]))
  have hW := hW.frw (kFr.up (P := kPy mr) (w := .int (nI b)) (k := mr) hW.ts (by simp [kPy]))
  refine lv_aload_n hx hb dX4_make_22 rfl (lv_at hl 1 rfl) ?_
  refine kp_get hx hb hts i_X4 hown hK hP hI hW.tm rfl rfl 10 (by decide) (by decide) (hts (.fieldLink RX4 33 "IslandSolverModel" "targets" "[F") (by decide +kernel)) (fun _ h9 => h9) dX4_make_23 (kq_RE 22 (by decide) fun x_9 h_10_e h_10 => ?_)
  refine lv_iload hx hb dX4_make_26 (lv_at hl 0 rfl) ?_
  refine lv_fload_n hx hb dX4_make_28 rfl (lv_at hl 4 rfl) ?_
  have hj_11 : mr < τ 3 x_9 := by rw [show τ 3 x_9 = 1024 from (hI.arr h_10 rfl).2.1]; omega
  refine W.eq (g2 := F0 m 29 ls (.float tg :: .int (nI (mr)) :: .ref x_9 :: [])) rfl ?_
  refine kp_fastX (pv' := (kup (kup pv fa (mr) (.int (nI a))) sa (mr) (.int (nI b)))) (j := mr) hx hb hK hP hD hS hI h_10 rfl hj_11 (fun _ _ _ => rfl) (show kPr _ 1149239296 _ _ from (kv_F (by decide) h_tg)) (kPn_not rfl (by decide)) dX4_make_29 (fun f H locs hI hP hD hS => ?_)
  refine lv_aload_n hx hb dX4_make_30 rfl (lv_at hl 1 rfl) ?_
  refine kp_get hx hb hts i_X4 hown hK hP hI hW.tm rfl rfl 16 (by decide) (by decide) (hts (.fieldLink RX4 51 "IslandSolverModel" "keys" "[I") (by decide +kernel)) (fun _ h9 => h9) dX4_make_31 (kq_RE 28 (by decide) fun x_12 h_13_e h_13 => ?_)
  refine lv_iload hx hb dX4_make_34 (lv_at hl 0 rfl) ?_
  refine lv_iload hx hb dX4_make_36 (lv_at hl 5 rfl) ?_
  have hj_14 : mr < τ 3 x_12 := by rw [show τ 3 x_12 = 1024 from (hI.arr h_13 rfl).2.1]; omega
  refine W.eq (g2 := F0 m 38 ls (.int ky :: .int (nI (mr)) :: .ref x_12 :: [])) rfl ?_
  refine kp_iastX (pv' := (kup (kup pv fa (mr) (.int (nI a))) sa (mr) (.int (nI b)))) (j := mr) hx hb hK hP hD hS hI h_13 rfl hj_14 (fun _ _ _ => rfl) (show kPr _ 0 _ _ from (kv_I _)) (kPn_not rfl (by decide)) dX4_make_38 (fun f H locs hI hP hD hS => ?_)
  refine lv_iconst (v := 0) hx hb dX4_make_39 (by decide) ?_
  refine lv_istore (lv' := [(6, .int 0), (5, .int (nI mr)), (0, .ref mm), (1, .int (nI a)), (2, .int (nI b)), (3, .float tg), (4, .int ky)]) hx hb dX4_make_40 hl (by decide) rfl (fun ls hl => ?_)
  have hl : lv_has ls 7 [(0, .ref mm), (1, .int (nI a)), (2, .int (nI b)), (3, .float tg), (4, .int ky), (5, .int (nI mr)), (6, .int 0)] := lv_sub hl [2, 3, 4, 5, 6, 1, 0] rfl
  refine kl_loop (Inv := fun n42 _ L f H locs ls => ∃ (k8 : Nat), 9 - k8 < n42 ∧ kI dA τ (kup (kup pv fa (mr) (.int (nI a))) sa (mr) (.int (nI b))) L f ∧ va_P (dC, dI) vwCl (va_pl L f) H ∧ va_D A (va_pl L f) ∧ va_S A s.heap H locs ∧ lv_has ls 7 [(0, .ref mm), (1, .int (nI a)), (2, .int (nI b)), (3, .float tg), (4, .int ky), (5, .int (nI mr)), (6, .int (nI k8))] ∧ k8 ≤ 9) (fun _ _ _ _ _ _ h9 => by obtain ⟨_, hn, _⟩ := h9; exact Nat.not_lt_zero _ hn) (fun n42 ih42 _ L f H locs ls h9 => ?_) (9 - 0 + 1) (fun _ _ => .null) _ _ _ _ _ ⟨0, Nat.lt_succ_self _, hI, hP, hD, hS, hl, Nat.zero_le _⟩
  obtain ⟨k8, hn42, hI, hP, hD, hS, hl, hib⟩ := h9
  refine lv_iload hx hb dX4_make_42 (lv_at hl 6 rfl) ?_
  refine lv_bipush (v := 9) hx hb dX4_make_44 (by decide) ?_
  refine lv_icmp_ge (tgt := 75) hx hb dX4_make_46 (by decide) (fun c_15 => ?_) (fun c_15 => ?_)
  · have n_16 : 9 ≤ k8 := (nI_leI (by omega) (by omega)).mp (show nI 9 ≤ nI k8 from c_15)
    have hat : (kup (kup pv fa (mr) (.int (nI a))) sa (mr) (.int (nI b))) aa mr = .int (kmi t9) := (kup_ne (Or.inl (knt hW.ta hW.ts))).trans ((kup_ne (Or.inl (knt hW.ta hW.tf))).trans hat)
    have hm0 : (kup (kup pv fa (mr) (.int (nI a))) sa (mr) (.int (nI b))) mm 0 = pv mm 0 := (kup_ne (Or.inl hW.ne.2.1.symm)).trans (kup_ne (Or.inl hW.ne.1.symm))
    have hfa9 : (kup (kup pv fa (mr) (.int (nI a))) sa (mr) (.int (nI b))) fa mr = .int (nI a) := (kup_ne (Or.inl (knt hW.tf hW.ts))).trans kup_self
    have hsa9 : (kup (kup pv fa (mr) (.int (nI a))) sa (mr) (.int (nI b))) sa mr = .int (nI b) := kup_self
    have hn9 : kMr (kup (kup pv fa (mr) (.int (nI a))) sa (mr) (.int (nI b))) fa sa aa mb mr := ⟨a, b + 1, t9, (kup_ne (Or.inl (knt hW.tf hW.ts))).trans kup_self, by omega, kup_self, by omega, hat, ht9, fun k hk => (kup_ne (Or.inl (knt hW.ta hW.ts))).trans ((kup_ne (Or.inl (knt hW.ta hW.tf))).trans (hk9 k hk))⟩
    refine lv_aload_n hx hb dX4_make_75 rfl (lv_at hl 0 rfl) ?_
    refine lv_dup hx hb dX4_make_76 rfl ?_
    refine kp_get hx hb hts i_X4 hown hK hP hI hW.tm rfl rfl 6 (by decide) (by decide) (hts (.fieldLink RX4 129 "IslandSolverModel" "rows" "I") (by decide +kernel)) (fun _ h9 => h9) dX4_make_77 (kq_P (v0 := .int (nI mr)) rfl hW.p6 fun h_18 => ?_)
    refine lv_iconst (v := 1) hx hb dX4_make_80 (by decide) ?_
    refine lv_iadd hx hb dX4_make_81 ?_
    refine lv_topi (nm_r (show (nI mr) + 1 = nI (mr + 1) from nI_add mr 1) ?_)
    refine kp_putP (v := .int (nI (mr + 1))) (ty := .int) hx hb hts i_X4 tyX4 tyX4_ok nmX4 hown hK hP hD hS hI hW.tm rfl rfl 6 (by decide) (by decide) (hts (.fieldLink RX4 129 "IslandSolverModel" "rows" "I") (by decide +kernel)) (fun _ h9 => h9) rfl (by decide +kernel) rfl rfl rfl (kv_S (by decide) ⟨mr + 1, rfl, by omega⟩) dX4_make_82 (fun f H locs hI hP hD hS => ?_)
    have hF := hF.trans (kFr.up (P := kPxr mr) (w := .int (nI (mr + 1))) (k := 6) hW.tm rfl)
    have hm0 := (kup_ne (pv := (kup (kup pv fa (mr) (.int (nI a))) sa (mr) (.int (nI b)))) (a := mm) (b := mm) (k := 6) (j := 0) (w := .int (nI (mr + 1))) (Or.inr (by decide))).trans hm0
    have hfa9 := (kup_ne (pv := (kup (kup pv fa (mr) (.int (nI a))) sa (mr) (.int (nI b)))) (a := mm) (k := 6) (w := .int (nI (mr + 1))) (Or.inl hW.ne.1)).trans hfa9
    have hsa9 := (kup_ne (pv := (kup (kup pv fa (mr) (.int (nI a))) sa (mr) (.int (nI b)))) (a := mm) (k := 6) (w := .int (nI (mr + 1))) (Or.inl hW.ne.2.1)).trans hsa9
    have hat := (kup_ne (pv := (kup (kup pv fa (mr) (.int (nI a))) sa (mr) (.int (nI b)))) (a := mm) (k := 6) (w := .int (nI (mr + 1))) (Or.inl hW.ne.2.2.1)).trans hat
    have hW := hW.pushR (by omega) hn9
    refine lv_aload_n hx hb dX4_make_85 rfl (lv_at hl 0 rfl) ?_
    refine kp_get hx hb hts i_X4 hown hK hP hI hW.tm rfl rfl 17 (by decide) (by decide) (hts (.fieldLink RX4 54 "IslandSolverModel" "impulses" "[F") (by decide +kernel)) (fun _ h9 => h9) dX4_make_86 (kq_P (v0 := .ref ia) rfl hW.p17 fun h_20 => ?_)
    refine lv_iload hx hb dX4_make_89 (lv_at hl 5 rfl) ?_
    refine lv_aload_n hx hb dX4_make_91 rfl (lv_at hl 0 rfl) ?_
    refine lv_iload hx hb dX4_make_92 (lv_at hl 5 rfl) ?_
    refine lv_aload_n hx hb dX4_make_94 rfl (lv_at hl 0 rfl) ?_
    refine lv_iload hx hb dX4_make_95 (lv_at hl 4 rfl) ?_
    refine kd_callf (va_runV (As := [.int ky]) (rest := [.int (nI mr), .ref mm, .int (nI mr), .ref ia]) ⟨hx, hb, hml, hown, hts⟩ (k_keptOf l dC dI dA ad _ τ (kup (kup (kup pv fa (mr) (.int (nI a))) sa (mr) (.int (nI b))) mm 6 (.int (nI (mr + 1)))) _ _ hI mm fa sa aa ia sf mb (mr + 1) mk mr hW ky) (cwV 1 hts gX4_make_X4_keptOf rfl rfl rfl (by decide +kernel) ⟨Nat.le_of_ble_eq_true rfl, Nat.le_of_ble_eq_true rfl⟩) (kd_preV hP hD hK hS hA hE hI hW.tm rfl rfl) rfl rfl hl.1 rfl (lv_room (Nat.le_of_ble_eq_true rfl)) dX4_make_97 ⟨Nat.le_of_ble_eq_true rfl, Nat.le_of_ble_eq_true rfl⟩) hD hS hA (fun r_22 u_21 H locs hw hP hD hS => ?_)
    obtain ⟨hr_22, hI⟩ := hw
    refine kd_callf (va_runV (As := [.int (nI mr), .float r_22]) (rest := [.int (nI mr), .ref ia]) ⟨hx, hb, hml, hown, hts⟩ (k_limited l dC dI dA ad _ τ (kup (kup (kup pv fa (mr) (.int (nI a))) sa (mr) (.int (nI b))) mm 6 (.int (nI (mr + 1)))) _ _ hI mm fa sa aa ia sf mb (mr + 1) mk mr hW mr (by omega) (by omega) 1224736768 r_22 hr_22 (by decide)) (cwV 2 hts gX4_make_X4_limited rfl rfl rfl (by decide +kernel) ⟨Nat.le_of_ble_eq_true rfl, Nat.le_of_ble_eq_true rfl⟩) (kd_preV hP hD hK hS hA hE hI hW.tm rfl rfl) rfl rfl hl.1 rfl (lv_room (Nat.le_of_ble_eq_true rfl)) dX4_make_100 ⟨Nat.le_of_ble_eq_true rfl, Nat.le_of_ble_eq_true rfl⟩) hD hS hA (fun r_24 u_23 H locs hw hP hD hS => ?_)
    obtain ⟨hr_24, gr_24, hI⟩ := hw
    have hj_25 : mr < τ 3 ia := by rw [show τ 3 ia = 1024 from (hI.arr hW.ti rfl).2.1]; omega
    refine W.eq (g2 := F0 m 103 ls (.float r_24 :: .int (nI (mr)) :: .ref ia :: [])) rfl ?_
    have h29 : Value.int (kon t9) = .int 0 → fb 1199570944 r_24 := fun h9 => by
      cases t9 with
      | zero => exact gr_24 hat
      | succ k9 => exact absurd (Value.int.inj h9) (show ¬ (1 : Int32) = 0 by decide)
    have hF := hF.trans (kFr.up (P := kPxr mr) (pv := (kup (kup (kup pv fa (mr) (.int (nI a))) sa (mr) (.int (nI b))) mm 6 (.int (nI (mr + 1))))) (w := .int (kon t9)) (k := mr) hW.ti rfl)
    have hfa9 := (kup_ne (pv := (kup (kup (kup pv fa (mr) (.int (nI a))) sa (mr) (.int (nI b))) mm 6 (.int (nI (mr + 1))))) (a := ia) (k := mr) (w := .int (kon t9)) (Or.inl (knt hW.tf hW.ti))).trans hfa9
    have hsa9 := (kup_ne (pv := (kup (kup (kup pv fa (mr) (.int (nI a))) sa (mr) (.int (nI b))) mm 6 (.int (nI (mr + 1))))) (a := ia) (k := mr) (w := .int (kon t9)) (Or.inl (knt hW.ts hW.ti))).trans hsa9
    have hm0 := (kup_ne (pv := (kup (kup (kup pv fa (mr) (.int (nI a))) sa (mr) (.int (nI b))) mm 6 (.int (nI (mr + 1))))) (a := ia) (k := mr) (w := .int (kon t9)) (Or.inl hW.ne.2.2.2.symm)).trans hm0
    have hat8 := (kup_ne (pv := (kup (kup (kup pv fa (mr) (.int (nI a))) sa (mr) (.int (nI b))) mm 6 (.int (nI (mr + 1))))) (a := ia) (k := mr) (w := .int (kon t9)) (Or.inl (knt hW.ta hW.ti))).trans hat
    have hW := hW.pushI hat (by omega)
    refine kp_fastX (pv' := (kup (kup (kup (kup pv fa (mr) (.int (nI a))) sa (mr) (.int (nI b))) mm 6 (.int (nI (mr + 1)))) ia mr (.int (kon t9)))) (j := mr) hx hb hK hP hD hS hI hW.ti rfl hj_25 (fun _ _ h9 => kup_ne h9) (show kPr _ 1224736768 _ _ from (kv_F (by decide) hr_24)) (by rw [kup_self]; exact kPn_29 h29) dX4_make_103 (fun f H locs hI hP hD hS => ?_)
    refine lv_iload hx hb dX4_make_104 (lv_at hl 5 rfl) ?_
    refine W.widen (k := 0) (n := 0) (Nat.le_of_ble_eq_true rfl) (Nat.le_of_ble_eq_true rfl) ?_
    exact W.iret (v := nI mr) hx hb hr (fun t ht hW9 => ⟨⟨nI mr, (u_23.1, f), rfl, ⟨rfl, _, hF, hW, ⟨hfa9, hsa9, hat8⟩, hm0, hI⟩, by rw [ht]; exact hP, va_K.moved hW9.alike hK, hD⟩, hS.F ht⟩) hS.2.2 dX4_make_106
  · have n_26 : ¬ 9 ≤ k8 := fun h9 => (show ¬ nI 9 ≤ nI k8 from c_15) ((nI_leI (by omega) (by omega)).mpr h9)
    refine lv_aload_n hx hb dX4_make_49 rfl (lv_at hl 0 rfl) ?_
    refine kp_get hx hb hts i_X4 hown hK hP hI hW.tm rfl rfl 9 (by decide) (by decide) (hts (.fieldLink RX4 30 "IslandSolverModel" "ways" "[F") (by decide +kernel)) (fun _ h9 => h9) dX4_make_50 (kq_RE 21 (by decide) fun x_27 h_28_e h_28 => ?_)
    refine lv_bipush (v := 9) hx hb dX4_make_53 (by decide) ?_
    refine lv_iload hx hb dX4_make_55 (lv_at hl 5 rfl) ?_
    refine lv_imul hx hb dX4_make_57 ?_
    refine lv_topi (nm_r (show (9 : Int32) * (nI mr) = nI (9 * mr) from pk_mul 9 mr) ?_)
    refine lv_iload hx hb dX4_make_58 (lv_at hl 6 rfl) ?_
    refine lv_iadd hx hb dX4_make_60 ?_
    refine lv_topi (nm_r (show (nI (9 * mr)) + (nI k8) = nI (9 * mr + k8) from nI_add (9 * mr) k8) ?_)
    refine lv_aload_n hx hb dX4_make_61 rfl (lv_at hl 0 rfl) ?_
    refine kp_get hx hb hts i_X4 hown hK hP hI hW.tm rfl rfl 5 (by decide) (by decide) (hts (.fieldLink RX4 21 "IslandSolverModel" "pad" "[F") (by decide +kernel)) (fun _ h9 => h9) dX4_make_62 (kq_RE 18 (by decide) fun x_29 h_30_e h_30 => ?_)
    refine lv_iload hx hb dX4_make_65 (lv_at hl 6 rfl) ?_
    have hj_31 : k8 < τ 3 x_29 := by rw [show τ 3 x_29 = 9 from (hI.arr h_30 rfl).2.1]; omega
    refine W.eq (g2 := F0 m 67 ls (.int (nI (k8)) :: .ref x_29 :: [.int (nI (9 * mr + k8)), .ref x_27])) rfl ?_
    refine kp_fald (j := k8) hx hb hK hP hI h_30 rfl hj_31 dX4_make_67 (ka_F (cd := 1115684864) rfl (by decide) fun x_32 h_33 => ?_)
    have hj_34 : 9 * mr + k8 < τ 3 x_27 := by rw [show τ 3 x_27 = 9216 from (hI.arr h_28 rfl).2.1]; omega
    refine W.eq (g2 := F0 m 68 ls (.float x_32 :: .int (nI (9 * mr + k8)) :: .ref x_27 :: [])) rfl ?_
    refine kp_fastX (pv' := (kup (kup pv fa (mr) (.int (nI a))) sa (mr) (.int (nI b)))) (j := 9 * mr + k8) hx hb hK hP hD hS hI h_28 rfl hj_34 (fun _ _ _ => rfl) (show kPr _ 1115684864 _ _ from (kv_F (by decide) h_33)) (kPn_not rfl (by decide)) dX4_make_68 (fun f H locs hI hP hD hS => ?_)
    refine lv_iinc (v := nI (k8 + 1)) (lv' := [(6, .int (nI (k8 + 1))), (0, .ref mm), (1, .int (nI a)), (2, .int (nI b)), (3, .float tg), (4, .int ky), (5, .int (nI mr))]) hx hb dX4_make_69 hl (k := 6) rfl (nI_add k8 1) (by decide) rfl (fun ls hl => ?_)
    refine lv_goto (tgt := 42) hx hb dX4_make_72 (by decide) ?_
    have hl : lv_has ls 7 [(0, .ref mm), (1, .int (nI a)), (2, .int (nI b)), (3, .float tg), (4, .int ky), (5, .int (nI mr)), (6, .int (nI (k8 + 1)))] := lv_sub hl [1, 2, 3, 4, 5, 6, 0] rfl
    exact ih42 (fun _ _ => .null) _ _ _ _ _ ⟨(k8 + 1), by omega, hI, hP, hD, hS, hl, by omega⟩
