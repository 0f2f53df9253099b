set_option maxHeartbeats 4000000 in
set_option maxRecDepth 100000 in
theorem k_upN (l : Launch) (dC : Nat → ClassId) (dI : Nat → Nat → Nat) (dA : Nat → ClassId) (ad sz : Nat) (τ : Nat → Nat → Nat) (pv : Nat → Nat → Value) (L : List Nat) (f : Nat → va_E) (hI : kI dA τ pv L f) (mm fa sa aa ia sf mb mr mk mi : Nat) (hW : kMd τ pv mm fa sa aa ia sf mb mr mk mi) (b : Nat) (hb9 : b < 256) : Met l yX4_up wsX4_up ({ frames := 0, cells := 0, slots := 0, locals := 0 } : Room) (va_Pc [.ref mm, .int (nI b)] (kB dC dI dA ad sz L f)) (va_Qi (fun r u => (r = 0 ∨ r = 1) ∧ kI dA τ pv u.1 u.2) (kR dC dI dA (va_A (va_pl L f) sz)) (va_A (va_pl L f) sz)) 0 0 (va_A (va_pl L f) sz) := by
  refine Met.ofW (cc := cX4_up) (maxL := 2) (ret := (some .boolean)) (by decide) rfl ?_
  intro p e s m args below meth c s₁ B hml hv
  obtain ⟨rfl, hsz, hP, hK, hD0, hE⟩ := hv
  have hx := B.exec
  have hb := B.bytes
  have hr := B.returns
  have hts := atoms_spec (ws := wsX4_up) B.pre
  have hown : s.vm.findClass RX4 = some m.cls := findClass_of_methodNamed B.named
  have hlocks := B.notSynchronized
  have i_X4 : ∀ w ∈ u_ws RX4 TX4 35, w ∈ wsX4_up := by decide +kernel
  subst hsz
  have hD := hD0.self (sz := s.heap.size)
  generalize hAe : va_A (va_pl L f) s.heap.size = A at hD hE ⊢
  have hA : ∀ q : Nat, s.heap.size ≤ q → A q := fun q h => by rw [← hAe]; exact Or.inr h
  have hS : va_S A s.heap s.heap [] := va_S.rf
  have hP : va_P (dC, dI) vwCl (va_pl L f) s.heap := hP
  have hK : va_K (dC, dI) vwCl (tyA dA) s := hK
  have hl := lv_entry ([.ref mm, .int (nI b)]) (n := 2) (Nat.le_of_ble_eq_true rfl)
  rw [lg_entry_eq]
  generalize (lg_sl ([.ref mm, .int (nI b)]) ++ List.replicate (2 - (lg_sl ([.ref mm, .int (nI b)])).length) Slot.unset).toArray = ls at hl ⊢
  have hl : lv_has ls 2 [(0, .ref mm), (1, .int (nI b))] := hl
  have hnb := hW.lb
  have hnr := hW.lr
  have hnk := hW.lk
  have hni := hW.li
  refine lv_iload_n hx hb dX4_up_0 rfl (lv_at hl 1 rfl) ?_
  refine lv_if_lt (tgt := 31) hx hb dX4_up_1 (by decide) (fun h9 => absurd h9 (nI_pos (n := b) (by omega))) (fun _ => ?_)
  refine lv_aload_n hx hb dX4_up_4 rfl (lv_at hl 0 rfl) ?_
  refine kp_get hx hb hts i_X4 hown hK hP hI hW.tm rfl rfl 29 (by decide) (by decide) (hts (.fieldLink RX4 81 "IslandSolverModel" "island" "[I") (by decide +kernel)) (fun _ h9 => h9) dX4_up_5 (kq_RE 33 (by decide) fun x_1 h_2_e h_2 => ?_)
  refine lv_iload_n hx hb dX4_up_8 rfl (lv_at hl 1 rfl) ?_
  have hj_3 : b < τ 3 x_1 := by rw [show τ 3 x_1 = 256 from (hI.arr h_2 rfl).2.1]; omega
  refine W.eq (g2 := F0 m 9 ls (.int (nI (b)) :: .ref x_1 :: [])) rfl ?_
  refine kp_iald (j := b) hx hb hK hP hI h_2 rfl hj_3 dX4_up_9 (ka_3E fun x_4 h_5 h_5_2 h_5_3 => ?_)
  refine lv_if_lt (tgt := 31) hx hb dX4_up_10 (by decide) (fun c_6 => ?_) (fun c_6 => ?_)
  · refine lv_iconst (v := 0) hx hb dX4_up_31 (by decide) ?_
    refine W.widen (k := 0) (n := 0) (Nat.le_of_ble_eq_true rfl) (Nat.le_of_ble_eq_true rfl) ?_
    exact W.zret (ty := .boolean) (v := 0) hx hb hr rfl (fun t ht hW9 => ⟨⟨0, (L, f), rfl, ⟨(Or.inl rfl), hI⟩, by rw [ht]; exact hP, va_K.moved hW9.alike hK, hD⟩, hS.F ht⟩) hS.2.2 dX4_up_32
  · obtain ⟨j_7, hj_7, rfl⟩ := kz_rgn (n := 256) h_5 h_5_2 c_6 (by decide)
    refine lv_aload_n hx hb dX4_up_13 rfl (lv_at hl 0 rfl) ?_
    refine kp_get hx hb hts i_X4 hown hK hP hI hW.tm rfl rfl 31 (by decide) (by decide) (hts (.fieldLink RX4 87 "IslandSolverModel" "awake" "[Z") (by decide +kernel)) (fun _ h9 => h9) dX4_up_14 (kq_RE 35 (by decide) fun x_8 h_9_e h_9 => ?_)
    refine lv_aload_n hx hb dX4_up_17 rfl (lv_at hl 0 rfl) ?_
    refine kp_get hx hb hts i_X4 hown hK hP hI hW.tm rfl rfl 29 (by decide) (by decide) (hts (.fieldLink RX4 81 "IslandSolverModel" "island" "[I") (by decide +kernel)) (fun _ h9 => h9) dX4_up_18 (kq_E h_2_e ?_)
    refine lv_iload_n hx hb dX4_up_21 rfl (lv_at hl 1 rfl) ?_
    have hj_12 : b < τ 3 x_1 := by rw [show τ 3 x_1 = 256 from (hI.arr h_2 rfl).2.1]; omega
    refine W.eq (g2 := F0 m 22 ls (.int (nI (b)) :: .ref x_1 :: [.ref x_8])) rfl ?_
    refine kp_iald (j := b) hx hb hK hP hI h_2 rfl hj_12 dX4_up_22 (ka_E h_5_3 ?_)
    have hj_15 : j_7 < τ 3 x_8 := by rw [show τ 3 x_8 = 256 from (hI.arr h_9 rfl).2.1]; omega
    refine W.eq (g2 := F0 m 23 ls (.int (nI (j_7)) :: .ref x_8 :: [])) rfl ?_
    refine kp_zald (j := j_7) hx hb hK hP hI h_9 rfl hj_15 dX4_up_23 (ka_Z fun x_16 h_17 => ?_)
    refine lv_if_eq (tgt := 31) hx hb dX4_up_24 (by decide) (fun c_18 => ?_) (fun c_18 => ?_)
    · subst c_18
      refine lv_iconst (v := 0) hx hb dX4_up_31 (by decide) ?_
      refine W.widen (k := 0) (n := 0) (Nat.le_of_ble_eq_true rfl) (Nat.le_of_ble_eq_true rfl) ?_
      exact W.zret (ty := .boolean) (v := 0) hx hb hr rfl (fun t ht hW9 => ⟨⟨0, (L, f), rfl, ⟨(Or.inl rfl), hI⟩, by rw [ht]; exact hP, va_K.moved hW9.alike hK, hD⟩, hS.F ht⟩) hS.2.2 dX4_up_32
    · obtain rfl : x_16 = 1 := (h_17).resolve_left c_18
      refine lv_iconst (v := 1) hx hb dX4_up_27 (by decide) ?_
      refine lv_goto (tgt := 32) hx hb dX4_up_28 (by decide) ?_
      refine W.widen (k := 0) (n := 0) (Nat.le_of_ble_eq_true rfl) (Nat.le_of_ble_eq_true rfl) ?_
      exact W.zret (ty := .boolean) (v := 1) hx hb hr rfl (fun t ht hW9 => ⟨⟨1, (L, f), rfl, ⟨(Or.inr rfl), hI⟩, by rw [ht]; exact hP, va_K.moved hW9.alike hK, hD⟩, hS.F ht⟩) hS.2.2 dX4_up_32
set_option maxHeartbeats 4000000 in
set_option maxRecDepth 100000 in
theorem k_upM (l : Launch) (dC : Nat → ClassId) (dI : Nat → Nat → Nat) (dA : Nat → ClassId) (ad sz : Nat) (τ : Nat → Nat → Nat) (pv : Nat → Nat → Value) (L : List Nat) (f : Nat → va_E) (hI : kI dA τ pv L f) (mm fa sa aa ia sf mb mr mk mi : Nat) (hW : kMd τ pv mm fa sa aa ia sf mb mr mk mi)  : Met l yX4_up wsX4_up ({ frames := 0, cells := 0, slots := 0, locals := 0 } : Room) (va_Pc [.ref mm, .int (-1)] (kB dC dI dA ad sz L f)) (va_Qi (fun r u => r = 0 ∧ kI dA τ pv u.1 u.2) (kR dC dI dA (va_A (va_pl L f) sz)) (va_A (va_pl L f) sz)) 0 0 (va_A (va_pl L f) sz) := by
  refine Met.ofW (cc := cX4_up) (maxL := 2) (ret := (some .boolean)) (by decide) rfl ?_
  intro p e s m args below meth c s₁ B hml hv
  obtain ⟨rfl, hsz, hP, hK, hD0, hE⟩ := hv
  have hx := B.exec
  have hb := B.bytes
  have hr := B.returns
  have hts := atoms_spec (ws := wsX4_up) B.pre
  have hown : s.vm.findClass RX4 = some m.cls := findClass_of_methodNamed B.named
  have hlocks := B.notSynchronized
  subst hsz
  have hD := hD0.self (sz := s.heap.size)
  generalize hAe : va_A (va_pl L f) s.heap.size = A at hD hE ⊢
  have hA : ∀ q : Nat, s.heap.size ≤ q → A q := fun q h => by rw [← hAe]; exact Or.inr h
  have hS : va_S A s.heap s.heap [] := va_S.rf
  have hP : va_P (dC, dI) vwCl (va_pl L f) s.heap := hP
  have hK : va_K (dC, dI) vwCl (tyA dA) s := hK
  have hl := lv_entry ([.ref mm, .int (-1)]) (n := 2) (Nat.le_of_ble_eq_true rfl)
  rw [lg_entry_eq]
  generalize (lg_sl ([.ref mm, .int (-1)]) ++ List.replicate (2 - (lg_sl ([.ref mm, .int (-1)])).length) Slot.unset).toArray = ls at hl ⊢
  have hl : lv_has ls 2 [(0, .ref mm), (1, .int (-1))] := hl
  have hnb := hW.lb
  have hnr := hW.lr
  have hnk := hW.lk
  have hni := hW.li
  refine lv_iload_n hx hb dX4_up_0 rfl (lv_at hl 1 rfl) ?_
  refine lv_if_lt (tgt := 31) hx hb dX4_up_1 (by decide) (fun _ => ?_) (fun h9 => by first | exact absurd h9 (by decide) | exact absurd (by decide) h9)
  refine lv_iconst (v := 0) hx hb dX4_up_31 (by decide) ?_
  refine W.widen (k := 0) (n := 0) (Nat.le_of_ble_eq_true rfl) (Nat.le_of_ble_eq_true rfl) ?_
  exact W.zret (ty := .boolean) (v := 0) hx hb hr rfl (fun t ht hW9 => ⟨⟨0, (L, f), rfl, ⟨rfl, hI⟩, by rw [ht]; exact hP, va_K.moved hW9.alike hK, hD⟩, hS.F ht⟩) hS.2.2 dX4_up_32
set_option maxHeartbeats 4000000 in
set_option maxRecDepth 100000 in
theorem k_takes (l : Launch) (dC : Nat → ClassId) (dI : Nat → Nat → Nat) (dA : Nat → ClassId) (ad sz : Nat) (τ : Nat → Nat → Nat) (pv : Nat → Nat → Value) (L : List Nat) (f : Nat → va_E) (hI : kI dA τ pv L f) (mm fa sa aa ia sf mb mr mk mi : Nat) (hW : kMd τ pv mm fa sa aa ia sf mb mr mk mi) (r : Nat) (hr : r < mr) : Met l yX4_takesPart wsX4_takesPart ({ frames := 1, cells := 0, slots := 0, locals := 21 } : Room) (va_Pc [.ref mm, .int (nI r)] (kB dC dI dA ad sz L f)) (va_Qi (fun r u => (r = 0 ∨ r = 1) ∧ kI dA τ pv u.1 u.2) (kR dC dI dA (va_A (va_pl L f) sz)) (va_A (va_pl L f) sz)) 0 0 (va_A (va_pl L f) sz) := by
  refine Met.ofW (cc := cX4_takesPart) (maxL := 2) (ret := (some .boolean)) (by decide) rfl ?_
  intro p e s m args below meth c s₁ B hml hv
  obtain ⟨rfl, hsz, hP, hK, hD0, hE⟩ := hv
  have hx := B.exec
  have hb := B.bytes
  have hr := B.returns
  have hts := atoms_spec (ws := wsX4_takesPart) B.pre
  have hown : s.vm.findClass RX4 = some m.cls := findClass_of_methodNamed B.named
  have hlocks := B.notSynchronized
  have i_X4 : ∀ w ∈ u_ws RX4 TX4 35, w ∈ wsX4_takesPart := by decide +kernel
  subst hsz
  have hD := hD0.self (sz := s.heap.size)
  generalize hAe : va_A (va_pl L f) s.heap.size = A at hD hE ⊢
  have hA : ∀ q : Nat, s.heap.size ≤ q → A q := fun q h => by rw [← hAe]; exact Or.inr h
  have hS : va_S A s.heap s.heap [] := va_S.rf
  have hP : va_P (dC, dI) vwCl (va_pl L f) s.heap := hP
  have hK : va_K (dC, dI) vwCl (tyA dA) s := hK
  have hl := lv_entry ([.ref mm, .int (nI r)]) (n := 2) (Nat.le_of_ble_eq_true rfl)
  rw [lg_entry_eq]
  generalize (lg_sl ([.ref mm, .int (nI r)]) ++ List.replicate (2 - (lg_sl ([.ref mm, .int (nI r)])).length) Slot.unset).toArray = ls at hl ⊢
  have hl : lv_has ls 2 [(0, .ref mm), (1, .int (nI r))] := hl
  have hnb := hW.lb
  have hnr := hW.lr
  have hnk := hW.lk
  have hni := hW.li
  refine lv_aload_n hx hb dX4_takesPart_0 rfl (lv_at hl 0 rfl) ?_
  refine lv_aload_n hx hb dX4_takesPart_1 rfl (lv_at hl 0 rfl) ?_
  refine kp_get hx hb hts i_X4 hown hK hP hI hW.tm rfl rfl 7 (by decide) (by decide) (hts (.fieldLink RX4 24 "IslandSolverModel" "firsts" "[I") (by decide +kernel)) (fun _ h9 => h9) dX4_takesPart_2 (kq_P (v0 := .ref fa) rfl hW.p7 fun h_2 => ?_)
  refine lv_iload_n hx hb dX4_takesPart_5 rfl (lv_at hl 1 rfl) ?_
  have hj_3 : r < τ 3 fa := by rw [show τ 3 fa = 1024 from (hI.arr hW.tf rfl).2.1]; omega
  refine W.eq (g2 := F0 m 6 ls (.int (nI (r)) :: .ref fa :: [.ref mm])) rfl ?_
  obtain ⟨ra6, rb6, rt6, ja6, la6, jb6, lb6, jt6, lt6, kt6⟩ := hW.rw (r := r) (by omega)
  refine kp_iald (j := r) hx hb hK hP hI hW.tf rfl hj_3 dX4_takesPart_6 (ka_P (x0 := nI ra6) rfl ja6 ?_)
  refine kd_calli (va_runV (As := [.int (nI ra6)]) (rest := []) ⟨hx, hb, hml, hown, hts⟩ (k_upN l dC dI dA ad _ τ pv _ _ hI mm fa sa aa ia sf mb mr mk mi hW ra6 (by omega)) (cwV 1 hts gX4_takesPart_X4_up rfl rfl rfl (by decide +kernel) ⟨Nat.le_of_ble_eq_true rfl, Nat.le_of_ble_eq_true rfl⟩) (kd_preV hP hD hK hS hA hE hI hW.tm rfl rfl) rfl rfl hl.1 rfl (lv_room (Nat.le_of_ble_eq_true rfl)) dX4_takesPart_7 ⟨Nat.le_of_ble_eq_true rfl, Nat.le_of_ble_eq_true rfl⟩) hD hS hA (fun r_8 u_7 H locs hw hP hD hS => ?_)
  obtain ⟨hr_8, hI⟩ := hw
  refine lv_if_ne (tgt := 26) hx hb dX4_takesPart_10 (by decide) (fun c_9 => ?_) (fun c_9 => ?_)
  · obtain rfl : r_8 = 1 := (hr_8).resolve_left c_9
    refine lv_iconst (v := 1) hx hb dX4_takesPart_26 (by decide) ?_
    refine lv_goto (tgt := 31) hx hb dX4_takesPart_27 (by decide) ?_
    refine W.widen (k := 0) (n := 0) (Nat.le_of_ble_eq_true rfl) (Nat.le_of_ble_eq_true rfl) ?_
    exact W.zret (ty := .boolean) (v := 1) hx hb hr rfl (fun t ht hW9 => ⟨⟨1, (u_7.1, u_7.2), rfl, ⟨(Or.inr rfl), hI⟩, by rw [ht]; exact hP, va_K.moved hW9.alike hK, hD⟩, hS.F ht⟩) hS.2.2 dX4_takesPart_31
  · subst c_9
    refine lv_aload_n hx hb dX4_takesPart_13 rfl (lv_at hl 0 rfl) ?_
    refine lv_aload_n hx hb dX4_takesPart_14 rfl (lv_at hl 0 rfl) ?_
    refine kp_get hx hb hts i_X4 hown hK hP hI hW.tm rfl rfl 8 (by decide) (by decide) (hts (.fieldLink RX4 27 "IslandSolverModel" "seconds" "[I") (by decide +kernel)) (fun _ h9 => h9) dX4_takesPart_15 (kq_P (v0 := .ref sa) rfl hW.p8 fun h_11 => ?_)
    refine lv_iload_n hx hb dX4_takesPart_18 rfl (lv_at hl 1 rfl) ?_
    have hj_12 : r < τ 3 sa := by rw [show τ 3 sa = 1024 from (hI.arr hW.ts rfl).2.1]; omega
    refine W.eq (g2 := F0 m 19 ls (.int (nI (r)) :: .ref sa :: [.ref mm])) rfl ?_
    rcases rb6 with _ | rb6_2
    · refine kp_iald (j := r) hx hb hK hP hI hW.ts rfl hj_12 dX4_takesPart_19 (ka_P (x0 := (-1)) rfl jb6 ?_)
      refine kd_calli (va_runV (As := [.int (-1)]) (rest := []) ⟨hx, hb, hml, hown, hts⟩ (k_upM l dC dI dA ad _ τ pv _ _ hI mm fa sa aa ia sf mb mr mk mi hW ) (cwV 1 hts gX4_takesPart_X4_up rfl rfl rfl (by decide +kernel) ⟨Nat.le_of_ble_eq_true rfl, Nat.le_of_ble_eq_true rfl⟩) (kd_preV hP hD hK hS hA hE hI hW.tm rfl rfl) rfl rfl hl.1 rfl (lv_room (Nat.le_of_ble_eq_true rfl)) dX4_takesPart_20 ⟨Nat.le_of_ble_eq_true rfl, Nat.le_of_ble_eq_true rfl⟩) hD hS hA (fun r_16 u_15 H locs hw hP hD hS => ?_)
      obtain ⟨rfl, hI⟩ := hw
      refine lv_if_eq (tgt := 30) hx hb dX4_takesPart_23 (by decide) (fun _ => ?_) (fun h9 => by first | exact absurd h9 (by decide) | exact absurd (by decide) h9)
      refine lv_iconst (v := 0) hx hb dX4_takesPart_30 (by decide) ?_
      refine W.widen (k := 0) (n := 0) (Nat.le_of_ble_eq_true rfl) (Nat.le_of_ble_eq_true rfl) ?_
      exact W.zret (ty := .boolean) (v := 0) hx hb hr rfl (fun t ht hW9 => ⟨⟨0, (u_15.1, u_15.2), rfl, ⟨(Or.inl rfl), hI⟩, by rw [ht]; exact hP, va_K.moved hW9.alike hK, hD⟩, hS.F ht⟩) hS.2.2 dX4_takesPart_31
    · refine kp_iald (j := r) hx hb hK hP hI hW.ts rfl hj_12 dX4_takesPart_19 (ka_P (x0 := (nI rb6_2)) rfl jb6 ?_)
      refine kd_calli (va_runV (As := [.int (nI rb6_2)]) (rest := []) ⟨hx, hb, hml, hown, hts⟩ (k_upN l dC dI dA ad _ τ pv _ _ hI mm fa sa aa ia sf mb mr mk mi hW rb6_2 (by omega)) (cwV 1 hts gX4_takesPart_X4_up rfl rfl rfl (by decide +kernel) ⟨Nat.le_of_ble_eq_true rfl, Nat.le_of_ble_eq_true rfl⟩) (kd_preV hP hD hK hS hA hE hI hW.tm rfl rfl) rfl rfl hl.1 rfl (lv_room (Nat.le_of_ble_eq_true rfl)) dX4_takesPart_20 ⟨Nat.le_of_ble_eq_true rfl, Nat.le_of_ble_eq_true rfl⟩) hD hS hA (fun r_18 u_17 H locs hw hP hD hS => ?_)
      obtain ⟨hr_18, hI⟩ := hw
      refine lv_if_eq (tgt := 30) hx hb dX4_takesPart_23 (by decide) (fun c_19 => ?_) (fun c_19 => ?_)
      · subst c_19
        refine lv_iconst (v := 0) hx hb dX4_takesPart_30 (by decide) ?_
        refine W.widen (k := 0) (n := 0) (Nat.le_of_ble_eq_true rfl) (Nat.le_of_ble_eq_true rfl) ?_
        exact W.zret (ty := .boolean) (v := 0) hx hb hr rfl (fun t ht hW9 => ⟨⟨0, (u_17.1, u_17.2), rfl, ⟨(Or.inl rfl), hI⟩, by rw [ht]; exact hP, va_K.moved hW9.alike hK, hD⟩, hS.F ht⟩) hS.2.2 dX4_takesPart_31
      · obtain rfl : r_18 = 1 := (hr_18).resolve_left c_19
        refine lv_iconst (v := 1) hx hb dX4_takesPart_26 (by decide) ?_
        refine lv_goto (tgt := 31) hx hb dX4_takesPart_27 (by decide) ?_
        refine W.widen (k := 0) (n := 0) (Nat.le_of_ble_eq_true rfl) (Nat.le_of_ble_eq_true rfl) ?_
        exact W.zret (ty := .boolean) (v := 1) hx hb hr rfl (fun t ht hW9 => ⟨⟨1, (u_17.1, u_17.2), rfl, ⟨(Or.inr rfl), hI⟩, by rw [ht]; exact hP, va_K.moved hW9.alike hK, hD⟩, hS.F ht⟩) hS.2.2 dX4_takesPart_31
set_option maxHeartbeats 4000000 in
set_option maxRecDepth 100000 in
theorem k_square (l : Launch) (dC : Nat → ClassId) (dI : Nat → Nat → Nat) (dA : Nat → ClassId) (ad sz : Nat) (τ : Nat → Nat → Nat) (pv : Nat → Nat → Value) (L : List Nat) (f : Nat → va_E) (hI : kI dA τ pv L f) (mm fa sa aa ia sf mb mr mk mi : Nat) (hW : kMd τ pv mm fa sa aa ia sf mb mr mk mi) (b : Nat) (hb9 : b < 256) : Met l yX4_square wsX4_square ({ frames := 0, cells := 0, slots := 0, locals := 0 } : Room) (va_Pc [.ref mm, .int (nI b)] (kB dC dI dA ad sz L f)) (va_Qf (fun r u => fb 2030043136 r ∧ nn r ∧ kI dA τ pv u.1 u.2) (kR dC dI dA (va_A (va_pl L f) sz)) (va_A (va_pl L f) sz)) 0 0 (va_A (va_pl L f) sz) := by
  refine Met.ofW (cc := cX4_square) (maxL := 5) (ret := (some .float)) (by decide) rfl ?_
  intro p e s m args below meth c s₁ B hml hv
  obtain ⟨rfl, hsz, hP, hK, hD0, hE⟩ := hv
  have hx := B.exec
  have hb := B.bytes
  have hr := B.returns
  have hts := atoms_spec (ws := wsX4_square) B.pre
  have hown : s.vm.findClass RX4 = some m.cls := findClass_of_methodNamed B.named
  have hlocks := B.notSynchronized
  have i_X4 : ∀ w ∈ u_ws RX4 TX4 35, w ∈ wsX4_square := by decide +kernel
  subst hsz
  have hD := hD0.self (sz := s.heap.size)
  generalize hAe : va_A (va_pl L f) s.heap.size = A at hD hE ⊢
  have hA : ∀ q : Nat, s.heap.size ≤ q → A q := fun q h => by rw [← hAe]; exact Or.inr h
  have hS : va_S A s.heap s.heap [] := va_S.rf
  have hP : va_P (dC, dI) vwCl (va_pl L f) s.heap := hP
  have hK : va_K (dC, dI) vwCl (tyA dA) s := hK
  have hl := lv_entry ([.ref mm, .int (nI b)]) (n := 5) (Nat.le_of_ble_eq_true rfl)
  rw [lg_entry_eq]
  generalize (lg_sl ([.ref mm, .int (nI b)]) ++ List.replicate (5 - (lg_sl ([.ref mm, .int (nI b)])).length) Slot.unset).toArray = ls at hl ⊢
  have hl : lv_has ls 5 [(0, .ref mm), (1, .int (nI b))] := hl
  have hnb := hW.lb
  have hnr := hW.lr
  have hnk := hW.lk
  have hni := hW.li
  refine lv_bipush (v := 13) hx hb dX4_square_0 (by decide) ?_
  refine lv_iload_n hx hb dX4_square_2 rfl (lv_at hl 1 rfl) ?_
  refine lv_imul hx hb dX4_square_3 ?_
  refine lv_topi (nm_r (show (13 : Int32) * (nI b) = nI (13 * b) from pk_mul 13 b) ?_)
  refine lv_istore_n (lv' := [(2, .int (nI (13 * b))), (0, .ref mm), (1, .int (nI b))]) hx hb dX4_square_4 rfl hl (by decide) rfl (fun ls hl => ?_)
  refine lv_aload_n hx hb dX4_square_5 rfl (lv_at hl 1 rfl) ?_
  refine kp_get hx hb hts i_X4 hown hK hP hI hW.tm rfl rfl 2 (by decide) (by decide) (hts (.fieldLink RX4 7 "IslandSolverModel" "body" "[F") (by decide +kernel)) (fun _ h9 => h9) dX4_square_6 (kq_RE 15 (by decide) fun x_1 h_2_e h_2 => ?_)
  refine lv_iload_n hx hb dX4_square_9 rfl (lv_at hl 0 rfl) ?_
  have hj_3 : 13 * b < τ 3 x_1 := by rw [show τ 3 x_1 = 3328 from (hI.arr h_2 rfl).2.1]; omega
  refine W.eq (g2 := F0 m 10 ls (.int (nI (13 * b)) :: .ref x_1 :: [])) rfl ?_
  refine kp_faldE (j := 13 * b) hx hb hK hP hI h_2 rfl hj_3 dX4_square_10 (ka_FE (cd := 1535115264) (show kEc 15 (13 * b) = 1535115264 from if_pos (by omega)) (by decide) fun x_4 h_5_e h_5 => ?_)
  refine lv_aload_n hx hb dX4_square_11 rfl (lv_at hl 1 rfl) ?_
  refine kp_get hx hb hts i_X4 hown hK hP hI hW.tm rfl rfl 2 (by decide) (by decide) (hts (.fieldLink RX4 7 "IslandSolverModel" "body" "[F") (by decide +kernel)) (fun _ h9 => h9) dX4_square_12 (kq_E h_2_e ?_)
  refine lv_iload_n hx hb dX4_square_15 rfl (lv_at hl 0 rfl) ?_
  have hj_8 : 13 * b < τ 3 x_1 := by rw [show τ 3 x_1 = 3328 from (hI.arr h_2 rfl).2.1]; omega
  refine W.eq (g2 := F0 m 16 ls (.int (nI (13 * b)) :: .ref x_1 :: [.float x_4])) rfl ?_
  refine kp_faldE (j := 13 * b) hx hb hK hP hI h_2 rfl hj_8 dX4_square_16 (ka_EF h_5_e ?_)
  refine kw_sq (M := 2004877312) hx hb dX4_square_17 h_5 (by decide) (by decide +kernel) (by decide) (fun z_11 hz_12 hz_12_2 => ?_)
  refine lv_aload_n hx hb dX4_square_18 rfl (lv_at hl 1 rfl) ?_
  refine kp_get hx hb hts i_X4 hown hK hP hI hW.tm rfl rfl 2 (by decide) (by decide) (hts (.fieldLink RX4 7 "IslandSolverModel" "body" "[F") (by decide +kernel)) (fun _ h9 => h9) dX4_square_19 (kq_E h_2_e ?_)
  refine lv_iload_n hx hb dX4_square_22 rfl (lv_at hl 0 rfl) ?_
  refine lv_iconst (v := 1) hx hb dX4_square_23 (by decide) ?_
  refine lv_iadd hx hb dX4_square_24 ?_
  refine lv_topi (nm_r (show (nI (13 * b)) + 1 = nI (13 * b + 1) from nI_add (13 * b) 1) ?_)
  have hj_15 : 13 * b + 1 < τ 3 x_1 := by rw [show τ 3 x_1 = 3328 from (hI.arr h_2 rfl).2.1]; omega
  refine W.eq (g2 := F0 m 25 ls (.int (nI (13 * b + 1)) :: .ref x_1 :: [.float z_11])) rfl ?_
  refine kp_faldE (j := 13 * b + 1) hx hb hK hP hI h_2 rfl hj_15 dX4_square_25 (ka_FE (cd := 1535115264) (show kEc 15 (13 * b + 1) = 1535115264 from if_pos (by omega)) (by decide) fun x_16 h_17_e h_17 => ?_)
  refine lv_aload_n hx hb dX4_square_26 rfl (lv_at hl 1 rfl) ?_
  refine kp_get hx hb hts i_X4 hown hK hP hI hW.tm rfl rfl 2 (by decide) (by decide) (hts (.fieldLink RX4 7 "IslandSolverModel" "body" "[F") (by decide +kernel)) (fun _ h9 => h9) dX4_square_27 (kq_E h_2_e ?_)
  refine lv_iload_n hx hb dX4_square_30 rfl (lv_at hl 0 rfl) ?_
  refine lv_iconst (v := 1) hx hb dX4_square_31 (by decide) ?_
  refine lv_iadd hx hb dX4_square_32 ?_
  refine lv_topi (nm_r (show (nI (13 * b)) + 1 = nI (13 * b + 1) from nI_add (13 * b) 1) ?_)
  have hj_20 : 13 * b + 1 < τ 3 x_1 := by rw [show τ 3 x_1 = 3328 from (hI.arr h_2 rfl).2.1]; omega
  refine W.eq (g2 := F0 m 33 ls (.int (nI (13 * b + 1)) :: .ref x_1 :: [.float x_16, .float z_11])) rfl ?_
  refine kp_faldE (j := 13 * b + 1) hx hb hK hP hI h_2 rfl hj_20 dX4_square_33 (ka_EF h_17_e ?_)
  refine kw_sq (M := 2004877312) hx hb dX4_square_34 h_17 (by decide) (by decide +kernel) (by decide) (fun z_23 hz_24 hz_24_2 => ?_)
  refine kw_nnB (M := 2013265920) hx hb dX4_square_35 hz_12 hz_24 (by decide) (by decide) (by decide +kernel) (by decide) hz_12_2 hz_24_2 (fun z_25 hz_26 hz_26_2 => ?_)
  refine lv_aload_n hx hb dX4_square_36 rfl (lv_at hl 1 rfl) ?_
  refine kp_get hx hb hts i_X4 hown hK hP hI hW.tm rfl rfl 2 (by decide) (by decide) (hts (.fieldLink RX4 7 "IslandSolverModel" "body" "[F") (by decide +kernel)) (fun _ h9 => h9) dX4_square_37 (kq_E h_2_e ?_)
  refine lv_iload_n hx hb dX4_square_40 rfl (lv_at hl 0 rfl) ?_
  refine lv_iconst (v := 2) hx hb dX4_square_41 (by decide) ?_
  refine lv_iadd hx hb dX4_square_42 ?_
  refine lv_topi (nm_r (show (nI (13 * b)) + 2 = nI (13 * b + 2) from nI_add (13 * b) 2) ?_)
  have hj_29 : 13 * b + 2 < τ 3 x_1 := by rw [show τ 3 x_1 = 3328 from (hI.arr h_2 rfl).2.1]; omega
  refine W.eq (g2 := F0 m 43 ls (.int (nI (13 * b + 2)) :: .ref x_1 :: [.float z_25])) rfl ?_
  refine kp_faldE (j := 13 * b + 2) hx hb hK hP hI h_2 rfl hj_29 dX4_square_43 (ka_FE (cd := 1535115264) (show kEc 15 (13 * b + 2) = 1535115264 from if_pos (by omega)) (by decide) fun x_30 h_31_e h_31 => ?_)
  refine lv_aload_n hx hb dX4_square_44 rfl (lv_at hl 1 rfl) ?_
  refine kp_get hx hb hts i_X4 hown hK hP hI hW.tm rfl rfl 2 (by decide) (by decide) (hts (.fieldLink RX4 7 "IslandSolverModel" "body" "[F") (by decide +kernel)) (fun _ h9 => h9) dX4_square_45 (kq_E h_2_e ?_)
  refine lv_iload_n hx hb dX4_square_48 rfl (lv_at hl 0 rfl) ?_
  refine lv_iconst (v := 2) hx hb dX4_square_49 (by decide) ?_
  refine lv_iadd hx hb dX4_square_50 ?_
  refine lv_topi (nm_r (show (nI (13 * b)) + 2 = nI (13 * b + 2) from nI_add (13 * b) 2) ?_)
  have hj_34 : 13 * b + 2 < τ 3 x_1 := by rw [show τ 3 x_1 = 3328 from (hI.arr h_2 rfl).2.1]; omega
  refine W.eq (g2 := F0 m 51 ls (.int (nI (13 * b + 2)) :: .ref x_1 :: [.float x_30, .float z_25])) rfl ?_
  refine kp_faldE (j := 13 * b + 2) hx hb hK hP hI h_2 rfl hj_34 dX4_square_51 (ka_EF h_31_e ?_)
  refine kw_sq (M := 2004877312) hx hb dX4_square_52 h_31 (by decide) (by decide +kernel) (by decide) (fun z_37 hz_38 hz_38_2 => ?_)
  refine kw_nnB (M := 2017460224) hx hb dX4_square_53 hz_26 hz_38 (by decide) (by decide) (by decide +kernel) (by decide) hz_26_2 hz_38_2 (fun z_39 hz_40 hz_40_2 => ?_)
  refine lv_fstore_n (lv' := [(3, .float z_39), (2, .int (nI (13 * b))), (0, .ref mm), (1, .int (nI b))]) hx hb dX4_square_54 rfl hl (by decide) rfl (fun ls hl => ?_)
  refine lv_aload_n hx hb dX4_square_55 rfl (lv_at hl 2 rfl) ?_
  refine kp_get hx hb hts i_X4 hown hK hP hI hW.tm rfl rfl 2 (by decide) (by decide) (hts (.fieldLink RX4 7 "IslandSolverModel" "body" "[F") (by decide +kernel)) (fun _ h9 => h9) dX4_square_56 (kq_E h_2_e ?_)
  refine lv_iload_n hx hb dX4_square_59 rfl (lv_at hl 1 rfl) ?_
  refine lv_iconst (v := 3) hx hb dX4_square_60 (by decide) ?_
  refine lv_iadd hx hb dX4_square_61 ?_
  refine lv_topi (nm_r (show (nI (13 * b)) + 3 = nI (13 * b + 3) from nI_add (13 * b) 3) ?_)
  have hj_43 : 13 * b + 3 < τ 3 x_1 := by rw [show τ 3 x_1 = 3328 from (hI.arr h_2 rfl).2.1]; omega
  refine W.eq (g2 := F0 m 62 ls (.int (nI (13 * b + 3)) :: .ref x_1 :: [])) rfl ?_
  refine kp_faldE (j := 13 * b + 3) hx hb hK hP hI h_2 rfl hj_43 dX4_square_62 (ka_FE (cd := 1535115264) (show kEc 15 (13 * b + 3) = 1535115264 from if_pos (by omega)) (by decide) fun x_44 h_45_e h_45 => ?_)
  refine lv_aload_n hx hb dX4_square_63 rfl (lv_at hl 2 rfl) ?_
  refine kp_get hx hb hts i_X4 hown hK hP hI hW.tm rfl rfl 2 (by decide) (by decide) (hts (.fieldLink RX4 7 "IslandSolverModel" "body" "[F") (by decide +kernel)) (fun _ h9 => h9) dX4_square_64 (kq_E h_2_e ?_)
  refine lv_iload_n hx hb dX4_square_67 rfl (lv_at hl 1 rfl) ?_
  refine lv_iconst (v := 3) hx hb dX4_square_68 (by decide) ?_
  refine lv_iadd hx hb dX4_square_69 ?_
  refine lv_topi (nm_r (show (nI (13 * b)) + 3 = nI (13 * b + 3) from nI_add (13 * b) 3) ?_)
  have hj_48 : 13 * b + 3 < τ 3 x_1 := by rw [show τ 3 x_1 = 3328 from (hI.arr h_2 rfl).2.1]; omega
  refine W.eq (g2 := F0 m 70 ls (.int (nI (13 * b + 3)) :: .ref x_1 :: [.float x_44])) rfl ?_
  refine kp_faldE (j := 13 * b + 3) hx hb hK hP hI h_2 rfl hj_48 dX4_square_70 (ka_EF h_45_e ?_)
  refine kw_sq (M := 2004877312) hx hb dX4_square_71 h_45 (by decide) (by decide +kernel) (by decide) (fun z_51 hz_52 hz_52_2 => ?_)
  refine lv_aload_n hx hb dX4_square_72 rfl (lv_at hl 2 rfl) ?_
  refine kp_get hx hb hts i_X4 hown hK hP hI hW.tm rfl rfl 2 (by decide) (by decide) (hts (.fieldLink RX4 7 "IslandSolverModel" "body" "[F") (by decide +kernel)) (fun _ h9 => h9) dX4_square_73 (kq_E h_2_e ?_)
  refine lv_iload_n hx hb dX4_square_76 rfl (lv_at hl 1 rfl) ?_
  refine lv_iconst (v := 4) hx hb dX4_square_77 (by decide) ?_
  refine lv_iadd hx hb dX4_square_78 ?_
  refine lv_topi (nm_r (show (nI (13 * b)) + 4 = nI (13 * b + 4) from nI_add (13 * b) 4) ?_)
  have hj_55 : 13 * b + 4 < τ 3 x_1 := by rw [show τ 3 x_1 = 3328 from (hI.arr h_2 rfl).2.1]; omega
  refine W.eq (g2 := F0 m 79 ls (.int (nI (13 * b + 4)) :: .ref x_1 :: [.float z_51])) rfl ?_
  refine kp_faldE (j := 13 * b + 4) hx hb hK hP hI h_2 rfl hj_55 dX4_square_79 (ka_FE (cd := 1535115264) (show kEc 15 (13 * b + 4) = 1535115264 from if_pos (by omega)) (by decide) fun x_56 h_57_e h_57 => ?_)
  refine lv_aload_n hx hb dX4_square_80 rfl (lv_at hl 2 rfl) ?_
  refine kp_get hx hb hts i_X4 hown hK hP hI hW.tm rfl rfl 2 (by decide) (by decide) (hts (.fieldLink RX4 7 "IslandSolverModel" "body" "[F") (by decide +kernel)) (fun _ h9 => h9) dX4_square_81 (kq_E h_2_e ?_)
  refine lv_iload_n hx hb dX4_square_84 rfl (lv_at hl 1 rfl) ?_
  refine lv_iconst (v := 4) hx hb dX4_square_85 (by decide) ?_
  refine lv_iadd hx hb dX4_square_86 ?_
  refine lv_topi (nm_r (show (nI (13 * b)) + 4 = nI (13 * b + 4) from nI_add (13 * b) 4) ?_)
  have hj_60 : 13 * b + 4 < τ 3 x_1 := by rw [show τ 3 x_1 = 3328 from (hI.arr h_2 rfl).2.1]; omega
  refine W.eq (g2 := F0 m 87 ls (.int (nI (13 * b + 4)) :: .ref x_1 :: [.float x_56, .float z_51])) rfl ?_
  refine kp_faldE (j := 13 * b + 4) hx hb hK hP hI h_2 rfl hj_60 dX4_square_87 (ka_EF h_57_e ?_)
  refine kw_sq (M := 2004877312) hx hb dX4_square_88 h_57 (by decide) (by decide +kernel) (by decide) (fun z_63 hz_64 hz_64_2 => ?_)
  refine kw_nnB (M := 2013265920) hx hb dX4_square_89 hz_52 hz_64 (by decide) (by decide) (by decide +kernel) (by decide) hz_52_2 hz_64_2 (fun z_65 hz_66 hz_66_2 => ?_)
  refine lv_aload_n hx hb dX4_square_90 rfl (lv_at hl 2 rfl) ?_
  refine kp_get hx hb hts i_X4 hown hK hP hI hW.tm rfl rfl 2 (by decide) (by decide) (hts (.fieldLink RX4 7 "IslandSolverModel" "body" "[F") (by decide +kernel)) (fun _ h9 => h9) dX4_square_91 (kq_E h_2_e ?_)
  refine lv_iload_n hx hb dX4_square_94 rfl (lv_at hl 1 rfl) ?_
  refine lv_iconst (v := 5) hx hb dX4_square_95 (by decide) ?_
  refine lv_iadd hx hb dX4_square_96 ?_
  refine lv_topi (nm_r (show (nI (13 * b)) + 5 = nI (13 * b + 5) from nI_add (13 * b) 5) ?_)
  have hj_69 : 13 * b + 5 < τ 3 x_1 := by rw [show τ 3 x_1 = 3328 from (hI.arr h_2 rfl).2.1]; omega
  refine W.eq (g2 := F0 m 97 ls (.int (nI (13 * b + 5)) :: .ref x_1 :: [.float z_65])) rfl ?_
  refine kp_faldE (j := 13 * b + 5) hx hb hK hP hI h_2 rfl hj_69 dX4_square_97 (ka_FE (cd := 1535115264) (show kEc 15 (13 * b + 5) = 1535115264 from if_pos (by omega)) (by decide) fun x_70 h_71_e h_71 => ?_)
  refine lv_aload_n hx hb dX4_square_98 rfl (lv_at hl 2 rfl) ?_
  refine kp_get hx hb hts i_X4 hown hK hP hI hW.tm rfl rfl 2 (by decide) (by decide) (hts (.fieldLink RX4 7 "IslandSolverModel" "body" "[F") (by decide +kernel)) (fun _ h9 => h9) dX4_square_99 (kq_E h_2_e ?_)
  refine lv_iload_n hx hb dX4_square_102 rfl (lv_at hl 1 rfl) ?_
  refine lv_iconst (v := 5) hx hb dX4_square_103 (by decide) ?_
  refine lv_iadd hx hb dX4_square_104 ?_
  refine lv_topi (nm_r (show (nI (13 * b)) + 5 = nI (13 * b + 5) from nI_add (13 * b) 5) ?_)
  have hj_74 : 13 * b + 5 < τ 3 x_1 := by rw [show τ 3 x_1 = 3328 from (hI.arr h_2 rfl).2.1]; omega
  refine W.eq (g2 := F0 m 105 ls (.int (nI (13 * b + 5)) :: .ref x_1 :: [.float x_70, .float z_65])) rfl ?_
  refine kp_faldE (j := 13 * b + 5) hx hb hK hP hI h_2 rfl hj_74 dX4_square_105 (ka_EF h_71_e ?_)
  refine kw_sq (M := 2004877312) hx hb dX4_square_106 h_71 (by decide) (by decide +kernel) (by decide) (fun z_77 hz_78 hz_78_2 => ?_)
  refine kw_nnB (M := 2017460224) hx hb dX4_square_107 hz_66 hz_78 (by decide) (by decide) (by decide +kernel) (by decide) hz_66_2 hz_78_2 (fun z_79 hz_80 hz_80_2 => ?_)
  refine lv_fstore (lv' := [(4, .float z_79), (3, .float z_39), (2, .int (nI (13 * b))), (0, .ref mm), (1, .int (nI b))]) hx hb dX4_square_108 hl (by decide) rfl (fun ls hl => ?_)
  refine lv_fload_n hx hb dX4_square_110 rfl (lv_at hl 1 rfl) ?_
  refine lv_fload hx hb dX4_square_111 (lv_at hl 0 rfl) ?_
  refine kw_nnB (M := 2025848832) hx hb dX4_square_113 hz_40 hz_80 (by decide) (by decide) (by decide +kernel) (by decide) hz_40_2 hz_80_2 (fun z_81 hz_82 hz_82_2 => ?_)
  refine W.widen (k := 0) (n := 0) (Nat.le_of_ble_eq_true rfl) (Nat.le_of_ble_eq_true rfl) ?_
  exact W.fret (v := z_81) hx hb hr (fun t ht hW9 => ⟨⟨z_81, (L, f), rfl, ⟨(fb_le hz_82 (by decide)), hz_82_2, hI⟩, by rw [ht]; exact hP, va_K.moved hW9.alike hK, hD⟩, hS.F ht⟩) hS.2.2 dX4_square_114
set_option maxHeartbeats 4000000 in
set_option maxRecDepth 100000 in
theorem k_settle4 (l : Launch) (dC : Nat → ClassId) (dI : Nat → Nat → Nat) (dA : Nat → ClassId) (ad sz : Nat) (τ : Nat → Nat → Nat) (pv : Nat → Nat → Value) (L : List Nat) (f : Nat → va_E) (hI : kI dA τ pv L f) (mm fa sa aa ia sf mb mr mk mi : Nat) (hW : kMd τ pv mm fa sa aa ia sf mb mr mk mi)  : Met l yX4_settle wsX4_settle ({ frames := 1, cells := 0, slots := 0, locals := 24 } : Room) (va_Pc [.ref mm] (kB dC dI dA ad sz L f)) (va_Qv (fun u => kI dA τ pv u.1 u.2) (kR dC dI dA (va_A (va_pl L f) sz)) (va_A (va_pl L f) sz)) 0 0 (va_A (va_pl L f) sz) := by
  refine Met.ofW (cc := cX4_settle) (maxL := 5) (ret := none) (by decide) rfl ?_
  intro p e s m args below meth c s₁ B hml hv
  obtain ⟨rfl, hsz, hP, hK, hD0, hE⟩ := hv
  have hx := B.exec
  have hb := B.bytes
  have hr := B.returns
  have hts := atoms_spec (ws := wsX4_settle) B.pre
  have hown : s.vm.findClass RX4 = some m.cls := findClass_of_methodNamed B.named
  have hlocks := B.notSynchronized
  have i_X4 : ∀ w ∈ u_ws RX4 TX4 35, w ∈ wsX4_settle := by decide +kernel
  subst hsz
  have hD := hD0.self (sz := s.heap.size)
  generalize hAe : va_A (va_pl L f) s.heap.size = A at hD hE ⊢
  have hA : ∀ q : Nat, s.heap.size ≤ q → A q := fun q h => by rw [← hAe]; exact Or.inr h
  have hS : va_S A s.heap s.heap [] := va_S.rf
  have hP : va_P (dC, dI) vwCl (va_pl L f) s.heap := hP
  have hK : va_K (dC, dI) vwCl (tyA dA) s := hK
  have hl := lv_entry ([.ref mm]) (n := 5) (Nat.le_of_ble_eq_true rfl)
  rw [lg_entry_eq]
  generalize (lg_sl ([.ref mm]) ++ List.replicate (5 - (lg_sl ([.ref mm])).length) Slot.unset).toArray = ls at hl ⊢
  have hl : lv_has ls 5 [(0, .ref mm)] := hl
  have hnb := hW.lb
  have hnr := hW.lr
  have hnk := hW.lk
  have hni := hW.li
  refine lv_iconst (v := 0) hx hb dX4_settle_0 (by decide) ?_
  refine lv_istore_n (lv' := [(1, .int 0), (0, .ref mm)]) hx hb dX4_settle_1 rfl hl (by decide) rfl (fun ls hl => ?_)
  have hl : lv_has ls 5 [(0, .ref mm), (1, .int 0)] := lv_sub hl [1, 0] rfl
  refine kl_loop (Inv := fun n2 _ L f H locs ls => ∃ (i : Nat), mb - i < n2 ∧ kI dA τ pv L f ∧ va_P (dC, dI) vwCl (va_pl L f) H ∧ va_D A (va_pl L f) ∧ va_S A s.heap H locs ∧ lv_has ls 5 [(0, .ref mm), (1, .int (nI i))] ∧ i ≤ mb) (fun _ _ _ _ _ _ h9 => by obtain ⟨_, hn, _⟩ := h9; exact Nat.not_lt_zero _ hn) (fun n2 ih2 _ L f H locs ls h9 => ?_) (mb - 0 + 1) (fun _ _ => .null) _ _ _ _ _ ⟨0, Nat.lt_succ_self _, hI, hP, hD, hS, hl, Nat.zero_le _⟩
  obtain ⟨i, hn2, hI, hP, hD, hS, hl, hib⟩ := h9
  refine lv_iload_n hx hb dX4_settle_2 rfl (lv_at hl 1 rfl) ?_
  refine lv_aload_n hx hb dX4_settle_3 rfl (lv_at hl 0 rfl) ?_
  refine kp_get hx hb hts i_X4 hown hK hP hI hW.tm rfl rfl 1 (by decide) (by decide) (hts (.fieldLink RX4 93 "IslandSolverModel" "bodies" "I") (by decide +kernel)) (fun _ h9 => h9) dX4_settle_4 (kq_P (v0 := .int (nI mb)) rfl hW.p1 fun h_2 => ?_)
  refine lv_icmp_ge (tgt := 98) hx hb dX4_settle_7 (by decide) (fun c_3 => ?_) (fun c_3 => ?_)
  · have n_4 : mb ≤ i := (nI_leI (by omega) (by omega)).mp (show nI mb ≤ nI i from c_3)
    refine lv_iconst (v := 0) hx hb dX4_settle_98 (by decide) ?_
    refine lv_istore_n (lv' := [(1, .int 0), (0, .ref mm)]) hx hb dX4_settle_99 rfl hl (by decide) rfl (fun ls hl => ?_)
    have hl : lv_has ls 5 [(0, .ref mm), (1, .int 0)] := lv_sub hl [1, 0] rfl
    refine kl_loop (Inv := fun n100 _ L f H locs ls => ∃ (i2 : Nat), 256 - i2 < n100 ∧ kI dA τ pv L f ∧ va_P (dC, dI) vwCl (va_pl L f) H ∧ va_D A (va_pl L f) ∧ va_S A s.heap H locs ∧ lv_has ls 5 [(0, .ref mm), (1, .int (nI i2))] ∧ i2 ≤ 256) (fun _ _ _ _ _ _ h9 => by obtain ⟨_, hn, _⟩ := h9; exact Nat.not_lt_zero _ hn) (fun n100 ih100 _ L f H locs ls h9 => ?_) (256 - 0 + 1) (fun _ _ => .null) _ _ _ _ _ ⟨0, Nat.lt_succ_self _, hI, hP, hD, hS, hl, Nat.zero_le _⟩
    obtain ⟨i2, hn100, hI, hP, hD, hS, hl, hib⟩ := h9
    refine lv_iload_n hx hb dX4_settle_100 rfl (lv_at hl 1 rfl) ?_
    refine lv_aload_n hx hb dX4_settle_101 rfl (lv_at hl 0 rfl) ?_
    refine kp_get hx hb hts i_X4 hown hK hP hI hW.tm rfl rfl 28 (by decide) (by decide) (hts (.fieldLink RX4 189 "IslandSolverModel" "islands" "I") (by decide +kernel)) (fun _ h9 => h9) dX4_settle_102 (kq_L6 rfl fun x_5 w_7 h_6 => ?_)
    refine lv_icmp_ge (tgt := 251) hx hb dX4_settle_105 (by decide) (fun c_8 => ?_) (fun c_8 => ?_)
    · have n_9 : x_5 ≤ i2 := (nI_leI (by omega) (by omega)).mp (show nI x_5 ≤ nI i2 from c_8)
      refine W.widen (k := 0) (n := 0) (Nat.le_of_ble_eq_true rfl) (Nat.le_of_ble_eq_true rfl) ?_
      exact W.vret hx hb hr (fun t ht hW9 => ⟨⟨(L, f), rfl, hI, by rw [ht]; exact hP, va_K.moved hW9.alike hK, hD⟩, hS.F ht⟩) hS.2.2 dX4_settle_251
    · have n_10 : ¬ x_5 ≤ i2 := fun h9 => (show ¬ nI x_5 ≤ nI i2 from c_8) ((nI_leI (by omega) (by omega)).mpr h9)
      refine lv_aload_n hx hb dX4_settle_108 rfl (lv_at hl 0 rfl) ?_
      refine kp_get hx hb hts i_X4 hown hK hP hI hW.tm rfl rfl 31 (by decide) (by decide) (hts (.fieldLink RX4 87 "IslandSolverModel" "awake" "[Z") (by decide +kernel)) (fun _ h9 => h9) dX4_settle_109 (kq_RE 35 (by decide) fun x_11 h_12_e h_12 => ?_)
      refine lv_iload_n hx hb dX4_settle_112 rfl (lv_at hl 1 rfl) ?_
      have hj_13 : i2 < τ 3 x_11 := by rw [show τ 3 x_11 = 256 from (hI.arr h_12 rfl).2.1]; omega
      refine W.eq (g2 := F0 m 113 ls (.int (nI (i2)) :: .ref x_11 :: [])) rfl ?_
      refine kp_zald (j := i2) hx hb hK hP hI h_12 rfl hj_13 dX4_settle_113 (ka_Z fun x_14 h_15 => ?_)
      refine lv_if_eq (tgt := 128) hx hb dX4_settle_114 (by decide) (fun c_16 => ?_) (fun c_16 => ?_)
      · subst c_16
        refine lv_iconst (v := 0) hx hb dX4_settle_128 (by decide) ?_
        refine lv_istore_n (lv' := [(2, .int 0), (0, .ref mm), (1, .int (nI i2))]) hx hb dX4_settle_129 rfl hl (by decide) rfl (fun ls hl => ?_)
        refine lv_iconst (v := 0) hx hb dX4_settle_130 (by decide) ?_
        refine lv_istore_n (lv' := [(3, .int 0), (2, .int 0), (0, .ref mm), (1, .int (nI i2))]) hx hb dX4_settle_131 rfl hl (by decide) rfl (fun ls hl => ?_)
        have hl : lv_has ls 5 [(0, .ref mm), (1, .int (nI i2)), (2, .int 0), (3, .int 0)] := lv_sub hl [2, 3, 1, 0] rfl
        refine kl_loop (Inv := fun n132 _ L f H locs ls => ∃ (i3 : Nat) (z2 : Int32), mb - i3 < n132 ∧ kI dA τ pv L f ∧ va_P (dC, dI) vwCl (va_pl L f) H ∧ va_D A (va_pl L f) ∧ va_S A s.heap H locs ∧ lv_has ls 5 [(0, .ref mm), (1, .int (nI i2)), (2, .int z2), (3, .int (nI i3))] ∧ i3 ≤ mb ∧ (z2 = 0 ∨ z2 = 1)) (fun _ _ _ _ _ _ h9 => by obtain ⟨_, _, hn, _⟩ := h9; exact Nat.not_lt_zero _ hn) (fun n132 ih132 _ L f H locs ls h9 => ?_) (mb - 0 + 1) (fun _ _ => .null) _ _ _ _ _ ⟨0, 0, Nat.lt_succ_self _, hI, hP, hD, hS, hl, Nat.zero_le _, (Or.inl rfl)⟩
        obtain ⟨i3, z2, hn132, hI, hP, hD, hS, hl, hib, hz2⟩ := h9
        refine lv_iload_n hx hb dX4_settle_132 rfl (lv_at hl 3 rfl) ?_
        refine lv_aload_n hx hb dX4_settle_133 rfl (lv_at hl 0 rfl) ?_
        refine kp_get hx hb hts i_X4 hown hK hP hI hW.tm rfl rfl 1 (by decide) (by decide) (hts (.fieldLink RX4 93 "IslandSolverModel" "bodies" "I") (by decide +kernel)) (fun _ h9 => h9) dX4_settle_134 (kq_P (v0 := .int (nI mb)) rfl hW.p1 fun h_18 => ?_)
        refine lv_icmp_ge (tgt := 179) hx hb dX4_settle_137 (by decide) (fun c_19 => ?_) (fun c_19 => ?_)
        · have n_20 : mb ≤ i3 := (nI_leI (by omega) (by omega)).mp (show nI mb ≤ nI i3 from c_19)
          refine lv_iconst (v := 0) hx hb dX4_settle_179 (by decide) ?_
          refine lv_istore_n (lv' := [(3, .int 0), (0, .ref mm), (1, .int (nI i2)), (2, .int z2)]) hx hb dX4_settle_180 rfl hl (by decide) rfl (fun ls hl => ?_)
          have hl : lv_has ls 5 [(0, .ref mm), (1, .int (nI i2)), (2, .int z2), (3, .int 0)] := lv_sub hl [1, 2, 3, 0] rfl
          refine kl_loop (Inv := fun n181 _ L f H locs ls => ∃ (i4 : Nat), mb - i4 < n181 ∧ kI dA τ pv L f ∧ va_P (dC, dI) vwCl (va_pl L f) H ∧ va_D A (va_pl L f) ∧ va_S A s.heap H locs ∧ lv_has ls 5 [(0, .ref mm), (1, .int (nI i2)), (2, .int z2), (3, .int (nI i4))] ∧ i4 ≤ mb) (fun _ _ _ _ _ _ h9 => by obtain ⟨_, hn, _⟩ := h9; exact Nat.not_lt_zero _ hn) (fun n181 ih181 _ L f H locs ls h9 => ?_) (mb - 0 + 1) (fun _ _ => .null) _ _ _ _ _ ⟨0, Nat.lt_succ_self _, hI, hP, hD, hS, hl, Nat.zero_le _⟩
          obtain ⟨i4, hn181, hI, hP, hD, hS, hl, hib⟩ := h9
          refine lv_iload_n hx hb dX4_settle_181 rfl (lv_at hl 3 rfl) ?_
          refine lv_aload_n hx hb dX4_settle_182 rfl (lv_at hl 0 rfl) ?_
          refine kp_get hx hb hts i_X4 hown hK hP hI hW.tm rfl rfl 1 (by decide) (by decide) (hts (.fieldLink RX4 93 "IslandSolverModel" "bodies" "I") (by decide +kernel)) (fun _ h9 => h9) dX4_settle_183 (kq_P (v0 := .int (nI mb)) rfl hW.p1 fun h_22 => ?_)
          refine lv_icmp_ge (tgt := 245) hx hb dX4_settle_186 (by decide) (fun c_23 => ?_) (fun c_23 => ?_)
          · have n_24 : mb ≤ i4 := (nI_leI (by omega) (by omega)).mp (show nI mb ≤ nI i4 from c_23)
            refine lv_iinc (v := nI (i2 + 1)) (lv' := [(1, .int (nI (i2 + 1))), (0, .ref mm), (2, .int z2), (3, .int (nI i4))]) hx hb dX4_settle_245 hl (k := 1) rfl (nI_add i2 1) (by decide) rfl (fun ls hl => ?_)
            refine lv_goto (tgt := 100) hx hb dX4_settle_248 (by decide) ?_
            have hl : lv_has ls 5 [(0, .ref mm), (1, .int (nI (i2 + 1)))] := lv_sub hl [1, 0] rfl
            exact ih100 (fun _ _ => .null) _ _ _ _ _ ⟨(i2 + 1), by omega, hI, hP, hD, hS, hl, by omega⟩
          · have n_25 : ¬ mb ≤ i4 := fun h9 => (show ¬ nI mb ≤ nI i4 from c_23) ((nI_leI (by omega) (by omega)).mpr h9)
            refine lv_iload_n hx hb dX4_settle_189 rfl (lv_at hl 2 rfl) ?_
            refine lv_if_eq (tgt := 239) hx hb dX4_settle_190 (by decide) (fun c_26 => ?_) (fun c_26 => ?_)
            · subst c_26
              refine lv_iinc (v := nI (i4 + 1)) (lv' := [(3, .int (nI (i4 + 1))), (0, .ref mm), (1, .int (nI i2)), (2, .int 0)]) hx hb dX4_settle_239 hl (k := 3) rfl (nI_add i4 1) (by decide) rfl (fun ls hl => ?_)
              refine lv_goto (tgt := 181) hx hb dX4_settle_242 (by decide) ?_
              have hl : lv_has ls 5 [(0, .ref mm), (1, .int (nI i2)), (2, .int 0), (3, .int (nI (i4 + 1)))] := lv_sub hl [1, 2, 3, 0] rfl
              exact ih181 (fun _ _ => .null) _ _ _ _ _ ⟨(i4 + 1), by omega, hI, hP, hD, hS, hl, by omega⟩
            · obtain rfl : z2 = 1 := (hz2).resolve_left c_26
              refine lv_aload_n hx hb dX4_settle_193 rfl (lv_at hl 0 rfl) ?_
              refine kp_get hx hb hts i_X4 hown hK hP hI hW.tm rfl rfl 29 (by decide) (by decide) (hts (.fieldLink RX4 81 "IslandSolverModel" "island" "[I") (by decide +kernel)) (fun _ h9 => h9) dX4_settle_194 (kq_RE 33 (by decide) fun x_27 h_28_e h_28 => ?_)
              refine lv_iload_n hx hb dX4_settle_197 rfl (lv_at hl 3 rfl) ?_
              have hj_29 : i4 < τ 3 x_27 := by rw [show τ 3 x_27 = 256 from (hI.arr h_28 rfl).2.1]; omega
              refine W.eq (g2 := F0 m 198 ls (.int (nI (i4)) :: .ref x_27 :: [])) rfl ?_
              refine kp_iald (j := i4) hx hb hK hP hI h_28 rfl hj_29 dX4_settle_198 (ka_3E fun x_30 h_31 h_31_2 h_31_3 => ?_)
              refine lv_iload_n hx hb dX4_settle_199 rfl (lv_at hl 1 rfl) ?_
              refine lv_icmp_ne (tgt := 239) hx hb dX4_settle_200 (by decide) (fun c_32 => ?_) (fun c_32 => ?_)
              · refine lv_iinc (v := nI (i4 + 1)) (lv' := [(3, .int (nI (i4 + 1))), (0, .ref mm), (1, .int (nI i2)), (2, .int 1)]) hx hb dX4_settle_239 hl (k := 3) rfl (nI_add i4 1) (by decide) rfl (fun ls hl => ?_)
                refine lv_goto (tgt := 181) hx hb dX4_settle_242 (by decide) ?_
                have hl : lv_has ls 5 [(0, .ref mm), (1, .int (nI i2)), (2, .int 1), (3, .int (nI (i4 + 1)))] := lv_sub hl [1, 2, 3, 0] rfl
                exact ih181 (fun _ _ => .null) _ _ _ _ _ ⟨(i4 + 1), by omega, hI, hP, hD, hS, hl, by omega⟩
              · refine lv_aload_n hx hb dX4_settle_203 rfl (lv_at hl 0 rfl) ?_
                refine kp_get hx hb hts i_X4 hown hK hP hI hW.tm rfl rfl 3 (by decide) (by decide) (hts (.fieldLink RX4 13 "IslandSolverModel" "asleep" "[Z") (by decide +kernel)) (fun _ h9 => h9) dX4_settle_204 (kq_RE 16 (by decide) fun x_33 h_34_e h_34 => ?_)
                refine lv_iload_n hx hb dX4_settle_207 rfl (lv_at hl 3 rfl) ?_
                refine lv_iconst (v := 1) hx hb dX4_settle_208 (by decide) ?_
                have hj_35 : i4 < τ 3 x_33 := by rw [show τ 3 x_33 = 256 from (hI.arr h_34 rfl).2.1]; omega
                refine W.eq (g2 := F0 m 209 ls (.int 1 :: .int (nI (i4)) :: .ref x_33 :: [])) rfl ?_
                refine kp_zastX (pv' := pv) (j := i4) hx hb hK hP hD hS hI h_34 rfl hj_35 (Or.inr rfl) (fun _ _ _ => rfl) (show kPr _ 1 _ _ from (kv_Z (Or.inr rfl))) (kPn_not rfl (by decide)) dX4_settle_209 (fun f H locs hI hP hD hS => ?_)
                refine lv_iconst (v := 0) hx hb dX4_settle_210 (by decide) ?_
                refine lv_istore (lv' := [(4, .int 0), (0, .ref mm), (1, .int (nI i2)), (2, .int 1), (3, .int (nI i4))]) hx hb dX4_settle_211 hl (by decide) rfl (fun ls hl => ?_)
                have hl : lv_has ls 5 [(0, .ref mm), (1, .int (nI i2)), (2, .int 1), (3, .int (nI i4)), (4, .int 0)] := lv_sub hl [1, 2, 3, 4, 0] rfl
                refine kl_loop (Inv := fun n213 _ L f H locs ls => ∃ (i5 : Nat), 6 - i5 < n213 ∧ kI dA τ pv L f ∧ va_P (dC, dI) vwCl (va_pl L f) H ∧ va_D A (va_pl L f) ∧ va_S A s.heap H locs ∧ lv_has ls 5 [(0, .ref mm), (1, .int (nI i2)), (2, .int 1), (3, .int (nI i4)), (4, .int (nI i5))] ∧ i5 ≤ 6) (fun _ _ _ _ _ _ h9 => by obtain ⟨_, hn, _⟩ := h9; exact Nat.not_lt_zero _ hn) (fun n213 ih213 _ L f H locs ls h9 => ?_) (6 - 0 + 1) (fun _ _ => .null) _ _ _ _ _ ⟨0, Nat.lt_succ_self _, hI, hP, hD, hS, hl, Nat.zero_le _⟩
                obtain ⟨i5, hn213, hI, hP, hD, hS, hl, hib⟩ := h9
                refine lv_iload hx hb dX4_settle_213 (lv_at hl 4 rfl) ?_
                refine lv_bipush (v := 6) hx hb dX4_settle_215 (by decide) ?_
                refine lv_icmp_ge (tgt := 239) hx hb dX4_settle_217 (by decide) (fun c_36 => ?_) (fun c_36 => ?_)
                · have n_37 : 6 ≤ i5 := (nI_leI (by omega) (by omega)).mp (show nI 6 ≤ nI i5 from c_36)
                  refine lv_iinc (v := nI (i4 + 1)) (lv' := [(3, .int (nI (i4 + 1))), (0, .ref mm), (1, .int (nI i2)), (2, .int 1), (4, .int (nI i5))]) hx hb dX4_settle_239 hl (k := 3) rfl (nI_add i4 1) (by decide) rfl (fun ls hl => ?_)
                  refine lv_goto (tgt := 181) hx hb dX4_settle_242 (by decide) ?_
                  have hl : lv_has ls 5 [(0, .ref mm), (1, .int (nI i2)), (2, .int 1), (3, .int (nI (i4 + 1)))] := lv_sub hl [1, 2, 3, 0] rfl
                  exact ih181 (fun _ _ => .null) _ _ _ _ _ ⟨(i4 + 1), by omega, hI, hP, hD, hS, hl, by omega⟩
                · have n_38 : ¬ 6 ≤ i5 := fun h9 => (show ¬ nI 6 ≤ nI i5 from c_36) ((nI_leI (by omega) (by omega)).mpr h9)
                  refine lv_aload_n hx hb dX4_settle_220 rfl (lv_at hl 0 rfl) ?_
                  refine kp_get hx hb hts i_X4 hown hK hP hI hW.tm rfl rfl 2 (by decide) (by decide) (hts (.fieldLink RX4 7 "IslandSolverModel" "body" "[F") (by decide +kernel)) (fun _ h9 => h9) dX4_settle_221 (kq_RE 15 (by decide) fun x_39 h_40_e h_40 => ?_)
                  refine lv_bipush (v := 13) hx hb dX4_settle_224 (by decide) ?_
                  refine lv_iload_n hx hb dX4_settle_226 rfl (lv_at hl 3 rfl) ?_
                  refine lv_imul hx hb dX4_settle_227 ?_
                  refine lv_topi (nm_r (show (13 : Int32) * (nI i4) = nI (13 * i4) from pk_mul 13 i4) ?_)
                  refine lv_iload hx hb dX4_settle_228 (lv_at hl 4 rfl) ?_
                  refine lv_iadd hx hb dX4_settle_230 ?_
                  refine lv_topi (nm_r (show (nI (13 * i4)) + (nI i5) = nI (13 * i4 + i5) from nI_add (13 * i4) i5) ?_)
                  refine lv_fconst0 hx hb dX4_settle_231 ?_
                  have hj_41 : 13 * i4 + i5 < τ 3 x_39 := by rw [show τ 3 x_39 = 3328 from (hI.arr h_40 rfl).2.1]; omega
                  refine W.eq (g2 := F0 m 232 ls (.float FP.fconst0 :: .int (nI (13 * i4 + i5)) :: .ref x_39 :: [])) rfl ?_
                  refine kp_fastX (pv' := pv) (j := 13 * i4 + i5) hx hb hK hP hD hS hI h_40 rfl hj_41 (fun _ _ _ => rfl) kv_15z (kPn_not rfl (by decide)) dX4_settle_232 (fun f H locs hI hP hD hS => ?_)
                  refine lv_iinc (v := nI (i5 + 1)) (lv' := [(4, .int (nI (i5 + 1))), (0, .ref mm), (1, .int (nI i2)), (2, .int 1), (3, .int (nI i4))]) hx hb dX4_settle_233 hl (k := 4) rfl (nI_add i5 1) (by decide) rfl (fun ls hl => ?_)
                  refine lv_goto (tgt := 213) hx hb dX4_settle_236 (by decide) ?_
                  have hl : lv_has ls 5 [(0, .ref mm), (1, .int (nI i2)), (2, .int 1), (3, .int (nI i4)), (4, .int (nI (i5 + 1)))] := lv_sub hl [1, 2, 3, 4, 0] rfl
                  exact ih213 (fun _ _ => .null) _ _ _ _ _ ⟨(i5 + 1), by omega, hI, hP, hD, hS, hl, by omega⟩
        · have n_42 : ¬ mb ≤ i3 := fun h9 => (show ¬ nI mb ≤ nI i3 from c_19) ((nI_leI (by omega) (by omega)).mpr h9)
          refine lv_iload_n hx hb dX4_settle_140 rfl (lv_at hl 2 rfl) ?_
          refine lv_if_eq (tgt := 171) hx hb dX4_settle_141 (by decide) (fun c_43 => ?_) (fun c_43 => ?_)
          · subst c_43
            refine lv_iconst (v := 0) hx hb dX4_settle_171 (by decide) ?_
            refine lv_istore_n (lv' := [(2, .int 0), (0, .ref mm), (1, .int (nI i2)), (3, .int (nI i3))]) hx hb dX4_settle_172 rfl hl (by decide) rfl (fun ls hl => ?_)
            refine lv_iinc (v := nI (i3 + 1)) (lv' := [(3, .int (nI (i3 + 1))), (2, .int 0), (0, .ref mm), (1, .int (nI i2))]) hx hb dX4_settle_173 hl (k := 3) rfl (nI_add i3 1) (by decide) rfl (fun ls hl => ?_)
            refine lv_goto (tgt := 132) hx hb dX4_settle_176 (by decide) ?_
            have hl : lv_has ls 5 [(0, .ref mm), (1, .int (nI i2)), (2, .int 0), (3, .int (nI (i3 + 1)))] := lv_sub hl [2, 3, 1, 0] rfl
            exact ih132 (fun _ _ => .null) _ _ _ _ _ ⟨(i3 + 1), 0, by omega, hI, hP, hD, hS, hl, by omega, (Or.inl rfl)⟩
          · obtain rfl : z2 = 1 := (hz2).resolve_left c_43
            refine lv_aload_n hx hb dX4_settle_144 rfl (lv_at hl 0 rfl) ?_
            refine kp_get hx hb hts i_X4 hown hK hP hI hW.tm rfl rfl 29 (by decide) (by decide) (hts (.fieldLink RX4 81 "IslandSolverModel" "island" "[I") (by decide +kernel)) (fun _ h9 => h9) dX4_settle_145 (kq_RE 33 (by decide) fun x_44 h_45_e h_45 => ?_)
            refine lv_iload_n hx hb dX4_settle_148 rfl (lv_at hl 3 rfl) ?_
            have hj_46 : i3 < τ 3 x_44 := by rw [show τ 3 x_44 = 256 from (hI.arr h_45 rfl).2.1]; omega
            refine W.eq (g2 := F0 m 149 ls (.int (nI (i3)) :: .ref x_44 :: [])) rfl ?_
            refine kp_iald (j := i3) hx hb hK hP hI h_45 rfl hj_46 dX4_settle_149 (ka_3E fun x_47 h_48 h_48_2 h_48_3 => ?_)
            refine lv_iload_n hx hb dX4_settle_150 rfl (lv_at hl 1 rfl) ?_
            refine lv_icmp_ne (tgt := 167) hx hb dX4_settle_151 (by decide) (fun c_49 => ?_) (fun c_49 => ?_)
            · refine lv_iconst (v := 1) hx hb dX4_settle_167 (by decide) ?_
              refine lv_goto (tgt := 172) hx hb dX4_settle_168 (by decide) ?_
              refine lv_istore_n (lv' := [(2, .int 1), (0, .ref mm), (1, .int (nI i2)), (3, .int (nI i3))]) hx hb dX4_settle_172 rfl hl (by decide) rfl (fun ls hl => ?_)
              refine lv_iinc (v := nI (i3 + 1)) (lv' := [(3, .int (nI (i3 + 1))), (2, .int 1), (0, .ref mm), (1, .int (nI i2))]) hx hb dX4_settle_173 hl (k := 3) rfl (nI_add i3 1) (by decide) rfl (fun ls hl => ?_)
              refine lv_goto (tgt := 132) hx hb dX4_settle_176 (by decide) ?_
              have hl : lv_has ls 5 [(0, .ref mm), (1, .int (nI i2)), (2, .int 1), (3, .int (nI (i3 + 1)))] := lv_sub hl [2, 3, 1, 0] rfl
              exact ih132 (fun _ _ => .null) _ _ _ _ _ ⟨(i3 + 1), 1, by omega, hI, hP, hD, hS, hl, by omega, (Or.inr rfl)⟩
            · refine lv_aload_n hx hb dX4_settle_154 rfl (lv_at hl 0 rfl) ?_
              refine kp_get hx hb hts i_X4 hown hK hP hI hW.tm rfl rfl 4 (by decide) (by decide) (hts (.fieldLink RX4 17 "IslandSolverModel" "quiet" "[I") (by decide +kernel)) (fun _ h9 => h9) dX4_settle_155 (kq_RE 17 (by decide) fun x_50 h_51_e h_51 => ?_)
              refine lv_iload_n hx hb dX4_settle_158 rfl (lv_at hl 3 rfl) ?_
              have hj_52 : i3 < τ 3 x_50 := by rw [show τ 3 x_50 = 256 from (hI.arr h_51 rfl).2.1]; omega
              refine W.eq (g2 := F0 m 159 ls (.int (nI (i3)) :: .ref x_50 :: [])) rfl ?_
              refine kp_iald (j := i3) hx hb hK hP hI h_51 rfl hj_52 dX4_settle_159 (ka_I fun x_53 => ?_)
              refine lv_aload_n hx hb dX4_settle_160 rfl (lv_at hl 0 rfl) ?_
              refine kp_get hx hb hts i_X4 hown hK hP hI hW.tm rfl rfl 25 (by decide) (by decide) (hts (.fieldLink RX4 151 "IslandSolverModel" "still" "I") (by decide +kernel)) (fun _ h9 => h9) dX4_settle_161 (kq_I fun x_55 => ?_)
              refine lv_icmp_lt (tgt := 171) hx hb dX4_settle_164 (by decide) (fun c_57 => ?_) (fun c_57 => ?_)
              · refine lv_iconst (v := 0) hx hb dX4_settle_171 (by decide) ?_
                refine lv_istore_n (lv' := [(2, .int 0), (0, .ref mm), (1, .int (nI i2)), (3, .int (nI i3))]) hx hb dX4_settle_172 rfl hl (by decide) rfl (fun ls hl => ?_)
                refine lv_iinc (v := nI (i3 + 1)) (lv' := [(3, .int (nI (i3 + 1))), (2, .int 0), (0, .ref mm), (1, .int (nI i2))]) hx hb dX4_settle_173 hl (k := 3) rfl (nI_add i3 1) (by decide) rfl (fun ls hl => ?_)
                refine lv_goto (tgt := 132) hx hb dX4_settle_176 (by decide) ?_
                have hl : lv_has ls 5 [(0, .ref mm), (1, .int (nI i2)), (2, .int 0), (3, .int (nI (i3 + 1)))] := lv_sub hl [2, 3, 1, 0] rfl
                exact ih132 (fun _ _ => .null) _ _ _ _ _ ⟨(i3 + 1), 0, by omega, hI, hP, hD, hS, hl, by omega, (Or.inl rfl)⟩
              · refine lv_iconst (v := 1) hx hb dX4_settle_167 (by decide) ?_
                refine lv_goto (tgt := 172) hx hb dX4_settle_168 (by decide) ?_
                refine lv_istore_n (lv' := [(2, .int 1), (0, .ref mm), (1, .int (nI i2)), (3, .int (nI i3))]) hx hb dX4_settle_172 rfl hl (by decide) rfl (fun ls hl => ?_)
                refine lv_iinc (v := nI (i3 + 1)) (lv' := [(3, .int (nI (i3 + 1))), (2, .int 1), (0, .ref mm), (1, .int (nI i2))]) hx hb dX4_settle_173 hl (k := 3) rfl (nI_add i3 1) (by decide) rfl (fun ls hl => ?_)
                refine lv_goto (tgt := 132) hx hb dX4_settle_176 (by decide) ?_
                have hl : lv_has ls 5 [(0, .ref mm), (1, .int (nI i2)), (2, .int 1), (3, .int (nI (i3 + 1)))] := lv_sub hl [2, 3, 1, 0] rfl
                exact ih132 (fun _ _ => .null) _ _ _ _ _ ⟨(i3 + 1), 1, by omega, hI, hP, hD, hS, hl, by omega, (Or.inr rfl)⟩
      · obtain rfl : x_14 = 1 := (h_15).resolve_left c_16
        refine lv_aload_n hx hb dX4_settle_117 rfl (lv_at hl 0 rfl) ?_
        refine kp_get hx hb hts i_X4 hown hK hP hI hW.tm rfl rfl 25 (by decide) (by decide) (hts (.fieldLink RX4 151 "IslandSolverModel" "still" "I") (by decide +kernel)) (fun _ h9 => h9) dX4_settle_118 (kq_I fun x_58 => ?_)
        refine lv_if_le (tgt := 128) hx hb dX4_settle_121 (by decide) (fun c_60 => ?_) (fun c_60 => ?_)
        · refine lv_iconst (v := 0) hx hb dX4_settle_128 (by decide) ?_
          refine lv_istore_n (lv' := [(2, .int 0), (0, .ref mm), (1, .int (nI i2))]) hx hb dX4_settle_129 rfl hl (by decide) rfl (fun ls hl => ?_)
          refine lv_iconst (v := 0) hx hb dX4_settle_130 (by decide) ?_
          refine lv_istore_n (lv' := [(3, .int 0), (2, .int 0), (0, .ref mm), (1, .int (nI i2))]) hx hb dX4_settle_131 rfl hl (by decide) rfl (fun ls hl => ?_)
          have hl : lv_has ls 5 [(0, .ref mm), (1, .int (nI i2)), (2, .int 0), (3, .int 0)] := lv_sub hl [2, 3, 1, 0] rfl
          refine kl_loop (Inv := fun n132 _ L f H locs ls => ∃ (i3 : Nat) (z2 : Int32), mb - i3 < n132 ∧ kI dA τ pv L f ∧ va_P (dC, dI) vwCl (va_pl L f) H ∧ va_D A (va_pl L f) ∧ va_S A s.heap H locs ∧ lv_has ls 5 [(0, .ref mm), (1, .int (nI i2)), (2, .int z2), (3, .int (nI i3))] ∧ i3 ≤ mb ∧ (z2 = 0 ∨ z2 = 1)) (fun _ _ _ _ _ _ h9 => by obtain ⟨_, _, hn, _⟩ := h9; exact Nat.not_lt_zero _ hn) (fun n132 ih132 _ L f H locs ls h9 => ?_) (mb - 0 + 1) (fun _ _ => .null) _ _ _ _ _ ⟨0, 0, Nat.lt_succ_self _, hI, hP, hD, hS, hl, Nat.zero_le _, (Or.inl rfl)⟩
          obtain ⟨i3, z2, hn132, hI, hP, hD, hS, hl, hib, hz2⟩ := h9
          refine lv_iload_n hx hb dX4_settle_132 rfl (lv_at hl 3 rfl) ?_
          refine lv_aload_n hx hb dX4_settle_133 rfl (lv_at hl 0 rfl) ?_
          refine kp_get hx hb hts i_X4 hown hK hP hI hW.tm rfl rfl 1 (by decide) (by decide) (hts (.fieldLink RX4 93 "IslandSolverModel" "bodies" "I") (by decide +kernel)) (fun _ h9 => h9) dX4_settle_134 (kq_P (v0 := .int (nI mb)) rfl hW.p1 fun h_62 => ?_)
          refine lv_icmp_ge (tgt := 179) hx hb dX4_settle_137 (by decide) (fun c_63 => ?_) (fun c_63 => ?_)
          · have n_64 : mb ≤ i3 := (nI_leI (by omega) (by omega)).mp (show nI mb ≤ nI i3 from c_63)
            refine lv_iconst (v := 0) hx hb dX4_settle_179 (by decide) ?_
            refine lv_istore_n (lv' := [(3, .int 0), (0, .ref mm), (1, .int (nI i2)), (2, .int z2)]) hx hb dX4_settle_180 rfl hl (by decide) rfl (fun ls hl => ?_)
            have hl : lv_has ls 5 [(0, .ref mm), (1, .int (nI i2)), (2, .int z2), (3, .int 0)] := lv_sub hl [1, 2, 3, 0] rfl
            refine kl_loop (Inv := fun n181 _ L f H locs ls => ∃ (i4 : Nat), mb - i4 < n181 ∧ kI dA τ pv L f ∧ va_P (dC, dI) vwCl (va_pl L f) H ∧ va_D A (va_pl L f) ∧ va_S A s.heap H locs ∧ lv_has ls 5 [(0, .ref mm), (1, .int (nI i2)), (2, .int z2), (3, .int (nI i4))] ∧ i4 ≤ mb) (fun _ _ _ _ _ _ h9 => by obtain ⟨_, hn, _⟩ := h9; exact Nat.not_lt_zero _ hn) (fun n181 ih181 _ L f H locs ls h9 => ?_) (mb - 0 + 1) (fun _ _ => .null) _ _ _ _ _ ⟨0, Nat.lt_succ_self _, hI, hP, hD, hS, hl, Nat.zero_le _⟩
            obtain ⟨i4, hn181, hI, hP, hD, hS, hl, hib⟩ := h9
            refine lv_iload_n hx hb dX4_settle_181 rfl (lv_at hl 3 rfl) ?_
            refine lv_aload_n hx hb dX4_settle_182 rfl (lv_at hl 0 rfl) ?_
            refine kp_get hx hb hts i_X4 hown hK hP hI hW.tm rfl rfl 1 (by decide) (by decide) (hts (.fieldLink RX4 93 "IslandSolverModel" "bodies" "I") (by decide +kernel)) (fun _ h9 => h9) dX4_settle_183 (kq_P (v0 := .int (nI mb)) rfl hW.p1 fun h_66 => ?_)
            refine lv_icmp_ge (tgt := 245) hx hb dX4_settle_186 (by decide) (fun c_67 => ?_) (fun c_67 => ?_)
            · have n_68 : mb ≤ i4 := (nI_leI (by omega) (by omega)).mp (show nI mb ≤ nI i4 from c_67)
              refine lv_iinc (v := nI (i2 + 1)) (lv' := [(1, .int (nI (i2 + 1))), (0, .ref mm), (2, .int z2), (3, .int (nI i4))]) hx hb dX4_settle_245 hl (k := 1) rfl (nI_add i2 1) (by decide) rfl (fun ls hl => ?_)
              refine lv_goto (tgt := 100) hx hb dX4_settle_248 (by decide) ?_
              have hl : lv_has ls 5 [(0, .ref mm), (1, .int (nI (i2 + 1)))] := lv_sub hl [1, 0] rfl
              exact ih100 (fun _ _ => .null) _ _ _ _ _ ⟨(i2 + 1), by omega, hI, hP, hD, hS, hl, by omega⟩
            · have n_69 : ¬ mb ≤ i4 := fun h9 => (show ¬ nI mb ≤ nI i4 from c_67) ((nI_leI (by omega) (by omega)).mpr h9)
              refine lv_iload_n hx hb dX4_settle_189 rfl (lv_at hl 2 rfl) ?_
              refine lv_if_eq (tgt := 239) hx hb dX4_settle_190 (by decide) (fun c_70 => ?_) (fun c_70 => ?_)
              · subst c_70
                refine lv_iinc (v := nI (i4 + 1)) (lv' := [(3, .int (nI (i4 + 1))), (0, .ref mm), (1, .int (nI i2)), (2, .int 0)]) hx hb dX4_settle_239 hl (k := 3) rfl (nI_add i4 1) (by decide) rfl (fun ls hl => ?_)
                refine lv_goto (tgt := 181) hx hb dX4_settle_242 (by decide) ?_
                have hl : lv_has ls 5 [(0, .ref mm), (1, .int (nI i2)), (2, .int 0), (3, .int (nI (i4 + 1)))] := lv_sub hl [1, 2, 3, 0] rfl
                exact ih181 (fun _ _ => .null) _ _ _ _ _ ⟨(i4 + 1), by omega, hI, hP, hD, hS, hl, by omega⟩
              · obtain rfl : z2 = 1 := (hz2).resolve_left c_70
                refine lv_aload_n hx hb dX4_settle_193 rfl (lv_at hl 0 rfl) ?_
                refine kp_get hx hb hts i_X4 hown hK hP hI hW.tm rfl rfl 29 (by decide) (by decide) (hts (.fieldLink RX4 81 "IslandSolverModel" "island" "[I") (by decide +kernel)) (fun _ h9 => h9) dX4_settle_194 (kq_RE 33 (by decide) fun x_71 h_72_e h_72 => ?_)
                refine lv_iload_n hx hb dX4_settle_197 rfl (lv_at hl 3 rfl) ?_
                have hj_73 : i4 < τ 3 x_71 := by rw [show τ 3 x_71 = 256 from (hI.arr h_72 rfl).2.1]; omega
                refine W.eq (g2 := F0 m 198 ls (.int (nI (i4)) :: .ref x_71 :: [])) rfl ?_
                refine kp_iald (j := i4) hx hb hK hP hI h_72 rfl hj_73 dX4_settle_198 (ka_3E fun x_74 h_75 h_75_2 h_75_3 => ?_)
                refine lv_iload_n hx hb dX4_settle_199 rfl (lv_at hl 1 rfl) ?_
                refine lv_icmp_ne (tgt := 239) hx hb dX4_settle_200 (by decide) (fun c_76 => ?_) (fun c_76 => ?_)
                · refine lv_iinc (v := nI (i4 + 1)) (lv' := [(3, .int (nI (i4 + 1))), (0, .ref mm), (1, .int (nI i2)), (2, .int 1)]) hx hb dX4_settle_239 hl (k := 3) rfl (nI_add i4 1) (by decide) rfl (fun ls hl => ?_)
                  refine lv_goto (tgt := 181) hx hb dX4_settle_242 (by decide) ?_
                  have hl : lv_has ls 5 [(0, .ref mm), (1, .int (nI i2)), (2, .int 1), (3, .int (nI (i4 + 1)))] := lv_sub hl [1, 2, 3, 0] rfl
                  exact ih181 (fun _ _ => .null) _ _ _ _ _ ⟨(i4 + 1), by omega, hI, hP, hD, hS, hl, by omega⟩
                · refine lv_aload_n hx hb dX4_settle_203 rfl (lv_at hl 0 rfl) ?_
                  refine kp_get hx hb hts i_X4 hown hK hP hI hW.tm rfl rfl 3 (by decide) (by decide) (hts (.fieldLink RX4 13 "IslandSolverModel" "asleep" "[Z") (by decide +kernel)) (fun _ h9 => h9) dX4_settle_204 (kq_RE 16 (by decide) fun x_77 h_78_e h_78 => ?_)
                  refine lv_iload_n hx hb dX4_settle_207 rfl (lv_at hl 3 rfl) ?_
                  refine lv_iconst (v := 1) hx hb dX4_settle_208 (by decide) ?_
                  have hj_79 : i4 < τ 3 x_77 := by rw [show τ 3 x_77 = 256 from (hI.arr h_78 rfl).2.1]; omega
                  refine W.eq (g2 := F0 m 209 ls (.int 1 :: .int (nI (i4)) :: .ref x_77 :: [])) rfl ?_
                  refine kp_zastX (pv' := pv) (j := i4) hx hb hK hP hD hS hI h_78 rfl hj_79 (Or.inr rfl) (fun _ _ _ => rfl) (show kPr _ 1 _ _ from (kv_Z (Or.inr rfl))) (kPn_not rfl (by decide)) dX4_settle_209 (fun f H locs hI hP hD hS => ?_)
                  refine lv_iconst (v := 0) hx hb dX4_settle_210 (by decide) ?_
                  refine lv_istore (lv' := [(4, .int 0), (0, .ref mm), (1, .int (nI i2)), (2, .int 1), (3, .int (nI i4))]) hx hb dX4_settle_211 hl (by decide) rfl (fun ls hl => ?_)
                  have hl : lv_has ls 5 [(0, .ref mm), (1, .int (nI i2)), (2, .int 1), (3, .int (nI i4)), (4, .int 0)] := lv_sub hl [1, 2, 3, 4, 0] rfl
                  refine kl_loop (Inv := fun n213 _ L f H locs ls => ∃ (i5 : Nat), 6 - i5 < n213 ∧ kI dA τ pv L f ∧ va_P (dC, dI) vwCl (va_pl L f) H ∧ va_D A (va_pl L f) ∧ va_S A s.heap H locs ∧ lv_has ls 5 [(0, .ref mm), (1, .int (nI i2)), (2, .int 1), (3, .int (nI i4)), (4, .int (nI i5))] ∧ i5 ≤ 6) (fun _ _ _ _ _ _ h9 => by obtain ⟨_, hn, _⟩ := h9; exact Nat.not_lt_zero _ hn) (fun n213 ih213 _ L f H locs ls h9 => ?_) (6 - 0 + 1) (fun _ _ => .null) _ _ _ _ _ ⟨0, Nat.lt_succ_self _, hI, hP, hD, hS, hl, Nat.zero_le _⟩
                  obtain ⟨i5, hn213, hI, hP, hD, hS, hl, hib⟩ := h9
                  refine lv_iload hx hb dX4_settle_213 (lv_at hl 4 rfl) ?_
                  refine lv_bipush (v := 6) hx hb dX4_settle_215 (by decide) ?_
                  refine lv_icmp_ge (tgt := 239) hx hb dX4_settle_217 (by decide) (fun c_80 => ?_) (fun c_80 => ?_)
                  · have n_81 : 6 ≤ i5 := (nI_leI (by omega) (by omega)).mp (show nI 6 ≤ nI i5 from c_80)
                    refine lv_iinc (v := nI (i4 + 1)) (lv' := [(3, .int (nI (i4 + 1))), (0, .ref mm), (1, .int (nI i2)), (2, .int 1), (4, .int (nI i5))]) hx hb dX4_settle_239 hl (k := 3) rfl (nI_add i4 1) (by decide) rfl (fun ls hl => ?_)
                    refine lv_goto (tgt := 181) hx hb dX4_settle_242 (by decide) ?_
                    have hl : lv_has ls 5 [(0, .ref mm), (1, .int (nI i2)), (2, .int 1), (3, .int (nI (i4 + 1)))] := lv_sub hl [1, 2, 3, 0] rfl
                    exact ih181 (fun _ _ => .null) _ _ _ _ _ ⟨(i4 + 1), by omega, hI, hP, hD, hS, hl, by omega⟩
                  · have n_82 : ¬ 6 ≤ i5 := fun h9 => (show ¬ nI 6 ≤ nI i5 from c_80) ((nI_leI (by omega) (by omega)).mpr h9)
                    refine lv_aload_n hx hb dX4_settle_220 rfl (lv_at hl 0 rfl) ?_
                    refine kp_get hx hb hts i_X4 hown hK hP hI hW.tm rfl rfl 2 (by decide) (by decide) (hts (.fieldLink RX4 7 "IslandSolverModel" "body" "[F") (by decide +kernel)) (fun _ h9 => h9) dX4_settle_221 (kq_RE 15 (by decide) fun x_83 h_84_e h_84 => ?_)
                    refine lv_bipush (v := 13) hx hb dX4_settle_224 (by decide) ?_
                    refine lv_iload_n hx hb dX4_settle_226 rfl (lv_at hl 3 rfl) ?_
                    refine lv_imul hx hb dX4_settle_227 ?_
                    refine lv_topi (nm_r (show (13 : Int32) * (nI i4) = nI (13 * i4) from pk_mul 13 i4) ?_)
                    refine lv_iload hx hb dX4_settle_228 (lv_at hl 4 rfl) ?_
                    refine lv_iadd hx hb dX4_settle_230 ?_
                    refine lv_topi (nm_r (show (nI (13 * i4)) + (nI i5) = nI (13 * i4 + i5) from nI_add (13 * i4) i5) ?_)
                    refine lv_fconst0 hx hb dX4_settle_231 ?_
                    have hj_85 : 13 * i4 + i5 < τ 3 x_83 := by rw [show τ 3 x_83 = 3328 from (hI.arr h_84 rfl).2.1]; omega
                    refine W.eq (g2 := F0 m 232 ls (.float FP.fconst0 :: .int (nI (13 * i4 + i5)) :: .ref x_83 :: [])) rfl ?_
                    refine kp_fastX (pv' := pv) (j := 13 * i4 + i5) hx hb hK hP hD hS hI h_84 rfl hj_85 (fun _ _ _ => rfl) kv_15z (kPn_not rfl (by decide)) dX4_settle_232 (fun f H locs hI hP hD hS => ?_)
                    refine lv_iinc (v := nI (i5 + 1)) (lv' := [(4, .int (nI (i5 + 1))), (0, .ref mm), (1, .int (nI i2)), (2, .int 1), (3, .int (nI i4))]) hx hb dX4_settle_233 hl (k := 4) rfl (nI_add i5 1) (by decide) rfl (fun ls hl => ?_)
                    refine lv_goto (tgt := 213) hx hb dX4_settle_236 (by decide) ?_
                    have hl : lv_has ls 5 [(0, .ref mm), (1, .int (nI i2)), (2, .int 1), (3, .int (nI i4)), (4, .int (nI (i5 + 1)))] := lv_sub hl [1, 2, 3, 4, 0] rfl
                    exact ih213 (fun _ _ => .null) _ _ _ _ _ ⟨(i5 + 1), by omega, hI, hP, hD, hS, hl, by omega⟩
          · have n_86 : ¬ mb ≤ i3 := fun h9 => (show ¬ nI mb ≤ nI i3 from c_63) ((nI_leI (by omega) (by omega)).mpr h9)
            refine lv_iload_n hx hb dX4_settle_140 rfl (lv_at hl 2 rfl) ?_
            refine lv_if_eq (tgt := 171) hx hb dX4_settle_141 (by decide) (fun c_87 => ?_) (fun c_87 => ?_)
            · subst c_87
              refine lv_iconst (v := 0) hx hb dX4_settle_171 (by decide) ?_
              refine lv_istore_n (lv' := [(2, .int 0), (0, .ref mm), (1, .int (nI i2)), (3, .int (nI i3))]) hx hb dX4_settle_172 rfl hl (by decide) rfl (fun ls hl => ?_)
              refine lv_iinc (v := nI (i3 + 1)) (lv' := [(3, .int (nI (i3 + 1))), (2, .int 0), (0, .ref mm), (1, .int (nI i2))]) hx hb dX4_settle_173 hl (k := 3) rfl (nI_add i3 1) (by decide) rfl (fun ls hl => ?_)
              refine lv_goto (tgt := 132) hx hb dX4_settle_176 (by decide) ?_
              have hl : lv_has ls 5 [(0, .ref mm), (1, .int (nI i2)), (2, .int 0), (3, .int (nI (i3 + 1)))] := lv_sub hl [2, 3, 1, 0] rfl
              exact ih132 (fun _ _ => .null) _ _ _ _ _ ⟨(i3 + 1), 0, by omega, hI, hP, hD, hS, hl, by omega, (Or.inl rfl)⟩
            · obtain rfl : z2 = 1 := (hz2).resolve_left c_87
              refine lv_aload_n hx hb dX4_settle_144 rfl (lv_at hl 0 rfl) ?_
              refine kp_get hx hb hts i_X4 hown hK hP hI hW.tm rfl rfl 29 (by decide) (by decide) (hts (.fieldLink RX4 81 "IslandSolverModel" "island" "[I") (by decide +kernel)) (fun _ h9 => h9) dX4_settle_145 (kq_RE 33 (by decide) fun x_88 h_89_e h_89 => ?_)
              refine lv_iload_n hx hb dX4_settle_148 rfl (lv_at hl 3 rfl) ?_
              have hj_90 : i3 < τ 3 x_88 := by rw [show τ 3 x_88 = 256 from (hI.arr h_89 rfl).2.1]; omega
              refine W.eq (g2 := F0 m 149 ls (.int (nI (i3)) :: .ref x_88 :: [])) rfl ?_
              refine kp_iald (j := i3) hx hb hK hP hI h_89 rfl hj_90 dX4_settle_149 (ka_3E fun x_91 h_92 h_92_2 h_92_3 => ?_)
              refine lv_iload_n hx hb dX4_settle_150 rfl (lv_at hl 1 rfl) ?_
              refine lv_icmp_ne (tgt := 167) hx hb dX4_settle_151 (by decide) (fun c_93 => ?_) (fun c_93 => ?_)
              · refine lv_iconst (v := 1) hx hb dX4_settle_167 (by decide) ?_
                refine lv_goto (tgt := 172) hx hb dX4_settle_168 (by decide) ?_
                refine lv_istore_n (lv' := [(2, .int 1), (0, .ref mm), (1, .int (nI i2)), (3, .int (nI i3))]) hx hb dX4_settle_172 rfl hl (by decide) rfl (fun ls hl => ?_)
                refine lv_iinc (v := nI (i3 + 1)) (lv' := [(3, .int (nI (i3 + 1))), (2, .int 1), (0, .ref mm), (1, .int (nI i2))]) hx hb dX4_settle_173 hl (k := 3) rfl (nI_add i3 1) (by decide) rfl (fun ls hl => ?_)
                refine lv_goto (tgt := 132) hx hb dX4_settle_176 (by decide) ?_
                have hl : lv_has ls 5 [(0, .ref mm), (1, .int (nI i2)), (2, .int 1), (3, .int (nI (i3 + 1)))] := lv_sub hl [2, 3, 1, 0] rfl
                exact ih132 (fun _ _ => .null) _ _ _ _ _ ⟨(i3 + 1), 1, by omega, hI, hP, hD, hS, hl, by omega, (Or.inr rfl)⟩
              · refine lv_aload_n hx hb dX4_settle_154 rfl (lv_at hl 0 rfl) ?_
                refine kp_get hx hb hts i_X4 hown hK hP hI hW.tm rfl rfl 4 (by decide) (by decide) (hts (.fieldLink RX4 17 "IslandSolverModel" "quiet" "[I") (by decide +kernel)) (fun _ h9 => h9) dX4_settle_155 (kq_RE 17 (by decide) fun x_94 h_95_e h_95 => ?_)
                refine lv_iload_n hx hb dX4_settle_158 rfl (lv_at hl 3 rfl) ?_
                have hj_96 : i3 < τ 3 x_94 := by rw [show τ 3 x_94 = 256 from (hI.arr h_95 rfl).2.1]; omega
                refine W.eq (g2 := F0 m 159 ls (.int (nI (i3)) :: .ref x_94 :: [])) rfl ?_
                refine kp_iald (j := i3) hx hb hK hP hI h_95 rfl hj_96 dX4_settle_159 (ka_I fun x_97 => ?_)
                refine lv_aload_n hx hb dX4_settle_160 rfl (lv_at hl 0 rfl) ?_
                refine kp_get hx hb hts i_X4 hown hK hP hI hW.tm rfl rfl 25 (by decide) (by decide) (hts (.fieldLink RX4 151 "IslandSolverModel" "still" "I") (by decide +kernel)) (fun _ h9 => h9) dX4_settle_161 (kq_I fun x_99 => ?_)
                refine lv_icmp_lt (tgt := 171) hx hb dX4_settle_164 (by decide) (fun c_101 => ?_) (fun c_101 => ?_)
                · refine lv_iconst (v := 0) hx hb dX4_settle_171 (by decide) ?_
                  refine lv_istore_n (lv' := [(2, .int 0), (0, .ref mm), (1, .int (nI i2)), (3, .int (nI i3))]) hx hb dX4_settle_172 rfl hl (by decide) rfl (fun ls hl => ?_)
                  refine lv_iinc (v := nI (i3 + 1)) (lv' := [(3, .int (nI (i3 + 1))), (2, .int 0), (0, .ref mm), (1, .int (nI i2))]) hx hb dX4_settle_173 hl (k := 3) rfl (nI_add i3 1) (by decide) rfl (fun ls hl => ?_)
                  refine lv_goto (tgt := 132) hx hb dX4_settle_176 (by decide) ?_
                  have hl : lv_has ls 5 [(0, .ref mm), (1, .int (nI i2)), (2, .int 0), (3, .int (nI (i3 + 1)))] := lv_sub hl [2, 3, 1, 0] rfl
                  exact ih132 (fun _ _ => .null) _ _ _ _ _ ⟨(i3 + 1), 0, by omega, hI, hP, hD, hS, hl, by omega, (Or.inl rfl)⟩
                · refine lv_iconst (v := 1) hx hb dX4_settle_167 (by decide) ?_
                  refine lv_goto (tgt := 172) hx hb dX4_settle_168 (by decide) ?_
                  refine lv_istore_n (lv' := [(2, .int 1), (0, .ref mm), (1, .int (nI i2)), (3, .int (nI i3))]) hx hb dX4_settle_172 rfl hl (by decide) rfl (fun ls hl => ?_)
                  refine lv_iinc (v := nI (i3 + 1)) (lv' := [(3, .int (nI (i3 + 1))), (2, .int 1), (0, .ref mm), (1, .int (nI i2))]) hx hb dX4_settle_173 hl (k := 3) rfl (nI_add i3 1) (by decide) rfl (fun ls hl => ?_)
                  refine lv_goto (tgt := 132) hx hb dX4_settle_176 (by decide) ?_
                  have hl : lv_has ls 5 [(0, .ref mm), (1, .int (nI i2)), (2, .int 1), (3, .int (nI (i3 + 1)))] := lv_sub hl [2, 3, 1, 0] rfl
                  exact ih132 (fun _ _ => .null) _ _ _ _ _ ⟨(i3 + 1), 1, by omega, hI, hP, hD, hS, hl, by omega, (Or.inr rfl)⟩
        · refine lv_iconst (v := 1) hx hb dX4_settle_124 (by decide) ?_
          refine lv_goto (tgt := 129) hx hb dX4_settle_125 (by decide) ?_
          refine lv_istore_n (lv' := [(2, .int 1), (0, .ref mm), (1, .int (nI i2))]) hx hb dX4_settle_129 rfl hl (by decide) rfl (fun ls hl => ?_)
          refine lv_iconst (v := 0) hx hb dX4_settle_130 (by decide) ?_
          refine lv_istore_n (lv' := [(3, .int 0), (2, .int 1), (0, .ref mm), (1, .int (nI i2))]) hx hb dX4_settle_131 rfl hl (by decide) rfl (fun ls hl => ?_)
          have hl : lv_has ls 5 [(0, .ref mm), (1, .int (nI i2)), (2, .int 1), (3, .int 0)] := lv_sub hl [2, 3, 1, 0] rfl
          refine kl_loop (Inv := fun n132 _ L f H locs ls => ∃ (i3 : Nat) (z2 : Int32), mb - i3 < n132 ∧ kI dA τ pv L f ∧ va_P (dC, dI) vwCl (va_pl L f) H ∧ va_D A (va_pl L f) ∧ va_S A s.heap H locs ∧ lv_has ls 5 [(0, .ref mm), (1, .int (nI i2)), (2, .int z2), (3, .int (nI i3))] ∧ i3 ≤ mb ∧ (z2 = 0 ∨ z2 = 1)) (fun _ _ _ _ _ _ h9 => by obtain ⟨_, _, hn, _⟩ := h9; exact Nat.not_lt_zero _ hn) (fun n132 ih132 _ L f H locs ls h9 => ?_) (mb - 0 + 1) (fun _ _ => .null) _ _ _ _ _ ⟨0, 1, Nat.lt_succ_self _, hI, hP, hD, hS, hl, Nat.zero_le _, (Or.inr rfl)⟩
          obtain ⟨i3, z2, hn132, hI, hP, hD, hS, hl, hib, hz2⟩ := h9
          refine lv_iload_n hx hb dX4_settle_132 rfl (lv_at hl 3 rfl) ?_
          refine lv_aload_n hx hb dX4_settle_133 rfl (lv_at hl 0 rfl) ?_
          refine kp_get hx hb hts i_X4 hown hK hP hI hW.tm rfl rfl 1 (by decide) (by decide) (hts (.fieldLink RX4 93 "IslandSolverModel" "bodies" "I") (by decide +kernel)) (fun _ h9 => h9) dX4_settle_134 (kq_P (v0 := .int (nI mb)) rfl hW.p1 fun h_103 => ?_)
          refine lv_icmp_ge (tgt := 179) hx hb dX4_settle_137 (by decide) (fun c_104 => ?_) (fun c_104 => ?_)
          · have n_105 : mb ≤ i3 := (nI_leI (by omega) (by omega)).mp (show nI mb ≤ nI i3 from c_104)
            refine lv_iconst (v := 0) hx hb dX4_settle_179 (by decide) ?_
            refine lv_istore_n (lv' := [(3, .int 0), (0, .ref mm), (1, .int (nI i2)), (2, .int z2)]) hx hb dX4_settle_180 rfl hl (by decide) rfl (fun ls hl => ?_)
            have hl : lv_has ls 5 [(0, .ref mm), (1, .int (nI i2)), (2, .int z2), (3, .int 0)] := lv_sub hl [1, 2, 3, 0] rfl
            refine kl_loop (Inv := fun n181 _ L f H locs ls => ∃ (i4 : Nat), mb - i4 < n181 ∧ kI dA τ pv L f ∧ va_P (dC, dI) vwCl (va_pl L f) H ∧ va_D A (va_pl L f) ∧ va_S A s.heap H locs ∧ lv_has ls 5 [(0, .ref mm), (1, .int (nI i2)), (2, .int z2), (3, .int (nI i4))] ∧ i4 ≤ mb) (fun _ _ _ _ _ _ h9 => by obtain ⟨_, hn, _⟩ := h9; exact Nat.not_lt_zero _ hn) (fun n181 ih181 _ L f H locs ls h9 => ?_) (mb - 0 + 1) (fun _ _ => .null) _ _ _ _ _ ⟨0, Nat.lt_succ_self _, hI, hP, hD, hS, hl, Nat.zero_le _⟩
            obtain ⟨i4, hn181, hI, hP, hD, hS, hl, hib⟩ := h9
            refine lv_iload_n hx hb dX4_settle_181 rfl (lv_at hl 3 rfl) ?_
            refine lv_aload_n hx hb dX4_settle_182 rfl (lv_at hl 0 rfl) ?_
            refine kp_get hx hb hts i_X4 hown hK hP hI hW.tm rfl rfl 1 (by decide) (by decide) (hts (.fieldLink RX4 93 "IslandSolverModel" "bodies" "I") (by decide +kernel)) (fun _ h9 => h9) dX4_settle_183 (kq_P (v0 := .int (nI mb)) rfl hW.p1 fun h_107 => ?_)
            refine lv_icmp_ge (tgt := 245) hx hb dX4_settle_186 (by decide) (fun c_108 => ?_) (fun c_108 => ?_)
            · have n_109 : mb ≤ i4 := (nI_leI (by omega) (by omega)).mp (show nI mb ≤ nI i4 from c_108)
              refine lv_iinc (v := nI (i2 + 1)) (lv' := [(1, .int (nI (i2 + 1))), (0, .ref mm), (2, .int z2), (3, .int (nI i4))]) hx hb dX4_settle_245 hl (k := 1) rfl (nI_add i2 1) (by decide) rfl (fun ls hl => ?_)
              refine lv_goto (tgt := 100) hx hb dX4_settle_248 (by decide) ?_
              have hl : lv_has ls 5 [(0, .ref mm), (1, .int (nI (i2 + 1)))] := lv_sub hl [1, 0] rfl
              exact ih100 (fun _ _ => .null) _ _ _ _ _ ⟨(i2 + 1), by omega, hI, hP, hD, hS, hl, by omega⟩
            · have n_110 : ¬ mb ≤ i4 := fun h9 => (show ¬ nI mb ≤ nI i4 from c_108) ((nI_leI (by omega) (by omega)).mpr h9)
              refine lv_iload_n hx hb dX4_settle_189 rfl (lv_at hl 2 rfl) ?_
              refine lv_if_eq (tgt := 239) hx hb dX4_settle_190 (by decide) (fun c_111 => ?_) (fun c_111 => ?_)
              · subst c_111
                refine lv_iinc (v := nI (i4 + 1)) (lv' := [(3, .int (nI (i4 + 1))), (0, .ref mm), (1, .int (nI i2)), (2, .int 0)]) hx hb dX4_settle_239 hl (k := 3) rfl (nI_add i4 1) (by decide) rfl (fun ls hl => ?_)
                refine lv_goto (tgt := 181) hx hb dX4_settle_242 (by decide) ?_
                have hl : lv_has ls 5 [(0, .ref mm), (1, .int (nI i2)), (2, .int 0), (3, .int (nI (i4 + 1)))] := lv_sub hl [1, 2, 3, 0] rfl
                exact ih181 (fun _ _ => .null) _ _ _ _ _ ⟨(i4 + 1), by omega, hI, hP, hD, hS, hl, by omega⟩
              · obtain rfl : z2 = 1 := (hz2).resolve_left c_111
                refine lv_aload_n hx hb dX4_settle_193 rfl (lv_at hl 0 rfl) ?_
                refine kp_get hx hb hts i_X4 hown hK hP hI hW.tm rfl rfl 29 (by decide) (by decide) (hts (.fieldLink RX4 81 "IslandSolverModel" "island" "[I") (by decide +kernel)) (fun _ h9 => h9) dX4_settle_194 (kq_RE 33 (by decide) fun x_112 h_113_e h_113 => ?_)
                refine lv_iload_n hx hb dX4_settle_197 rfl (lv_at hl 3 rfl) ?_
                have hj_114 : i4 < τ 3 x_112 := by rw [show τ 3 x_112 = 256 from (hI.arr h_113 rfl).2.1]; omega
                refine W.eq (g2 := F0 m 198 ls (.int (nI (i4)) :: .ref x_112 :: [])) rfl ?_
                refine kp_iald (j := i4) hx hb hK hP hI h_113 rfl hj_114 dX4_settle_198 (ka_3E fun x_115 h_116 h_116_2 h_116_3 => ?_)
                refine lv_iload_n hx hb dX4_settle_199 rfl (lv_at hl 1 rfl) ?_
                refine lv_icmp_ne (tgt := 239) hx hb dX4_settle_200 (by decide) (fun c_117 => ?_) (fun c_117 => ?_)
                · refine lv_iinc (v := nI (i4 + 1)) (lv' := [(3, .int (nI (i4 + 1))), (0, .ref mm), (1, .int (nI i2)), (2, .int 1)]) hx hb dX4_settle_239 hl (k := 3) rfl (nI_add i4 1) (by decide) rfl (fun ls hl => ?_)
                  refine lv_goto (tgt := 181) hx hb dX4_settle_242 (by decide) ?_
                  have hl : lv_has ls 5 [(0, .ref mm), (1, .int (nI i2)), (2, .int 1), (3, .int (nI (i4 + 1)))] := lv_sub hl [1, 2, 3, 0] rfl
                  exact ih181 (fun _ _ => .null) _ _ _ _ _ ⟨(i4 + 1), by omega, hI, hP, hD, hS, hl, by omega⟩
                · refine lv_aload_n hx hb dX4_settle_203 rfl (lv_at hl 0 rfl) ?_
                  refine kp_get hx hb hts i_X4 hown hK hP hI hW.tm rfl rfl 3 (by decide) (by decide) (hts (.fieldLink RX4 13 "IslandSolverModel" "asleep" "[Z") (by decide +kernel)) (fun _ h9 => h9) dX4_settle_204 (kq_RE 16 (by decide) fun x_118 h_119_e h_119 => ?_)
                  refine lv_iload_n hx hb dX4_settle_207 rfl (lv_at hl 3 rfl) ?_
                  refine lv_iconst (v := 1) hx hb dX4_settle_208 (by decide) ?_
                  have hj_120 : i4 < τ 3 x_118 := by rw [show τ 3 x_118 = 256 from (hI.arr h_119 rfl).2.1]; omega
                  refine W.eq (g2 := F0 m 209 ls (.int 1 :: .int (nI (i4)) :: .ref x_118 :: [])) rfl ?_
                  refine kp_zastX (pv' := pv) (j := i4) hx hb hK hP hD hS hI h_119 rfl hj_120 (Or.inr rfl) (fun _ _ _ => rfl) (show kPr _ 1 _ _ from (kv_Z (Or.inr rfl))) (kPn_not rfl (by decide)) dX4_settle_209 (fun f H locs hI hP hD hS => ?_)
                  refine lv_iconst (v := 0) hx hb dX4_settle_210 (by decide) ?_
                  refine lv_istore (lv' := [(4, .int 0), (0, .ref mm), (1, .int (nI i2)), (2, .int 1), (3, .int (nI i4))]) hx hb dX4_settle_211 hl (by decide) rfl (fun ls hl => ?_)
                  have hl : lv_has ls 5 [(0, .ref mm), (1, .int (nI i2)), (2, .int 1), (3, .int (nI i4)), (4, .int 0)] := lv_sub hl [1, 2, 3, 4, 0] rfl
                  refine kl_loop (Inv := fun n213 _ L f H locs ls => ∃ (i5 : Nat), 6 - i5 < n213 ∧ kI dA τ pv L f ∧ va_P (dC, dI) vwCl (va_pl L f) H ∧ va_D A (va_pl L f) ∧ va_S A s.heap H locs ∧ lv_has ls 5 [(0, .ref mm), (1, .int (nI i2)), (2, .int 1), (3, .int (nI i4)), (4, .int (nI i5))] ∧ i5 ≤ 6) (fun _ _ _ _ _ _ h9 => by obtain ⟨_, hn, _⟩ := h9; exact Nat.not_lt_zero _ hn) (fun n213 ih213 _ L f H locs ls h9 => ?_) (6 - 0 + 1) (fun _ _ => .null) _ _ _ _ _ ⟨0, Nat.lt_succ_self _, hI, hP, hD, hS, hl, Nat.zero_le _⟩
                  obtain ⟨i5, hn213, hI, hP, hD, hS, hl, hib⟩ := h9
                  refine lv_iload hx hb dX4_settle_213 (lv_at hl 4 rfl) ?_
                  refine lv_bipush (v := 6) hx hb dX4_settle_215 (by decide) ?_
                  refine lv_icmp_ge (tgt := 239) hx hb dX4_settle_217 (by decide) (fun c_121 => ?_) (fun c_121 => ?_)
                  · have n_122 : 6 ≤ i5 := (nI_leI (by omega) (by omega)).mp (show nI 6 ≤ nI i5 from c_121)
                    refine lv_iinc (v := nI (i4 + 1)) (lv' := [(3, .int (nI (i4 + 1))), (0, .ref mm), (1, .int (nI i2)), (2, .int 1), (4, .int (nI i5))]) hx hb dX4_settle_239 hl (k := 3) rfl (nI_add i4 1) (by decide) rfl (fun ls hl => ?_)
                    refine lv_goto (tgt := 181) hx hb dX4_settle_242 (by decide) ?_
                    have hl : lv_has ls 5 [(0, .ref mm), (1, .int (nI i2)), (2, .int 1), (3, .int (nI (i4 + 1)))] := lv_sub hl [1, 2, 3, 0] rfl
                    exact ih181 (fun _ _ => .null) _ _ _ _ _ ⟨(i4 + 1), by omega, hI, hP, hD, hS, hl, by omega⟩
                  · have n_123 : ¬ 6 ≤ i5 := fun h9 => (show ¬ nI 6 ≤ nI i5 from c_121) ((nI_leI (by omega) (by omega)).mpr h9)
                    refine lv_aload_n hx hb dX4_settle_220 rfl (lv_at hl 0 rfl) ?_
                    refine kp_get hx hb hts i_X4 hown hK hP hI hW.tm rfl rfl 2 (by decide) (by decide) (hts (.fieldLink RX4 7 "IslandSolverModel" "body" "[F") (by decide +kernel)) (fun _ h9 => h9) dX4_settle_221 (kq_RE 15 (by decide) fun x_124 h_125_e h_125 => ?_)
                    refine lv_bipush (v := 13) hx hb dX4_settle_224 (by decide) ?_
                    refine lv_iload_n hx hb dX4_settle_226 rfl (lv_at hl 3 rfl) ?_
                    refine lv_imul hx hb dX4_settle_227 ?_
                    refine lv_topi (nm_r (show (13 : Int32) * (nI i4) = nI (13 * i4) from pk_mul 13 i4) ?_)
                    refine lv_iload hx hb dX4_settle_228 (lv_at hl 4 rfl) ?_
                    refine lv_iadd hx hb dX4_settle_230 ?_
                    refine lv_topi (nm_r (show (nI (13 * i4)) + (nI i5) = nI (13 * i4 + i5) from nI_add (13 * i4) i5) ?_)
                    refine lv_fconst0 hx hb dX4_settle_231 ?_
                    have hj_126 : 13 * i4 + i5 < τ 3 x_124 := by rw [show τ 3 x_124 = 3328 from (hI.arr h_125 rfl).2.1]; omega
                    refine W.eq (g2 := F0 m 232 ls (.float FP.fconst0 :: .int (nI (13 * i4 + i5)) :: .ref x_124 :: [])) rfl ?_
                    refine kp_fastX (pv' := pv) (j := 13 * i4 + i5) hx hb hK hP hD hS hI h_125 rfl hj_126 (fun _ _ _ => rfl) kv_15z (kPn_not rfl (by decide)) dX4_settle_232 (fun f H locs hI hP hD hS => ?_)
                    refine lv_iinc (v := nI (i5 + 1)) (lv' := [(4, .int (nI (i5 + 1))), (0, .ref mm), (1, .int (nI i2)), (2, .int 1), (3, .int (nI i4))]) hx hb dX4_settle_233 hl (k := 4) rfl (nI_add i5 1) (by decide) rfl (fun ls hl => ?_)
                    refine lv_goto (tgt := 213) hx hb dX4_settle_236 (by decide) ?_
                    have hl : lv_has ls 5 [(0, .ref mm), (1, .int (nI i2)), (2, .int 1), (3, .int (nI i4)), (4, .int (nI (i5 + 1)))] := lv_sub hl [1, 2, 3, 4, 0] rfl
                    exact ih213 (fun _ _ => .null) _ _ _ _ _ ⟨(i5 + 1), by omega, hI, hP, hD, hS, hl, by omega⟩
          · have n_127 : ¬ mb ≤ i3 := fun h9 => (show ¬ nI mb ≤ nI i3 from c_104) ((nI_leI (by omega) (by omega)).mpr h9)
            refine lv_iload_n hx hb dX4_settle_140 rfl (lv_at hl 2 rfl) ?_
            refine lv_if_eq (tgt := 171) hx hb dX4_settle_141 (by decide) (fun c_128 => ?_) (fun c_128 => ?_)
            · subst c_128
              refine lv_iconst (v := 0) hx hb dX4_settle_171 (by decide) ?_
              refine lv_istore_n (lv' := [(2, .int 0), (0, .ref mm), (1, .int (nI i2)), (3, .int (nI i3))]) hx hb dX4_settle_172 rfl hl (by decide) rfl (fun ls hl => ?_)
              refine lv_iinc (v := nI (i3 + 1)) (lv' := [(3, .int (nI (i3 + 1))), (2, .int 0), (0, .ref mm), (1, .int (nI i2))]) hx hb dX4_settle_173 hl (k := 3) rfl (nI_add i3 1) (by decide) rfl (fun ls hl => ?_)
              refine lv_goto (tgt := 132) hx hb dX4_settle_176 (by decide) ?_
              have hl : lv_has ls 5 [(0, .ref mm), (1, .int (nI i2)), (2, .int 0), (3, .int (nI (i3 + 1)))] := lv_sub hl [2, 3, 1, 0] rfl
              exact ih132 (fun _ _ => .null) _ _ _ _ _ ⟨(i3 + 1), 0, by omega, hI, hP, hD, hS, hl, by omega, (Or.inl rfl)⟩
            · obtain rfl : z2 = 1 := (hz2).resolve_left c_128
              refine lv_aload_n hx hb dX4_settle_144 rfl (lv_at hl 0 rfl) ?_
              refine kp_get hx hb hts i_X4 hown hK hP hI hW.tm rfl rfl 29 (by decide) (by decide) (hts (.fieldLink RX4 81 "IslandSolverModel" "island" "[I") (by decide +kernel)) (fun _ h9 => h9) dX4_settle_145 (kq_RE 33 (by decide) fun x_129 h_130_e h_130 => ?_)
              refine lv_iload_n hx hb dX4_settle_148 rfl (lv_at hl 3 rfl) ?_
              have hj_131 : i3 < τ 3 x_129 := by rw [show τ 3 x_129 = 256 from (hI.arr h_130 rfl).2.1]; omega
              refine W.eq (g2 := F0 m 149 ls (.int (nI (i3)) :: .ref x_129 :: [])) rfl ?_
              refine kp_iald (j := i3) hx hb hK hP hI h_130 rfl hj_131 dX4_settle_149 (ka_3E fun x_132 h_133 h_133_2 h_133_3 => ?_)
              refine lv_iload_n hx hb dX4_settle_150 rfl (lv_at hl 1 rfl) ?_
              refine lv_icmp_ne (tgt := 167) hx hb dX4_settle_151 (by decide) (fun c_134 => ?_) (fun c_134 => ?_)
              · refine lv_iconst (v := 1) hx hb dX4_settle_167 (by decide) ?_
                refine lv_goto (tgt := 172) hx hb dX4_settle_168 (by decide) ?_
                refine lv_istore_n (lv' := [(2, .int 1), (0, .ref mm), (1, .int (nI i2)), (3, .int (nI i3))]) hx hb dX4_settle_172 rfl hl (by decide) rfl (fun ls hl => ?_)
                refine lv_iinc (v := nI (i3 + 1)) (lv' := [(3, .int (nI (i3 + 1))), (2, .int 1), (0, .ref mm), (1, .int (nI i2))]) hx hb dX4_settle_173 hl (k := 3) rfl (nI_add i3 1) (by decide) rfl (fun ls hl => ?_)
                refine lv_goto (tgt := 132) hx hb dX4_settle_176 (by decide) ?_
                have hl : lv_has ls 5 [(0, .ref mm), (1, .int (nI i2)), (2, .int 1), (3, .int (nI (i3 + 1)))] := lv_sub hl [2, 3, 1, 0] rfl
                exact ih132 (fun _ _ => .null) _ _ _ _ _ ⟨(i3 + 1), 1, by omega, hI, hP, hD, hS, hl, by omega, (Or.inr rfl)⟩
              · refine lv_aload_n hx hb dX4_settle_154 rfl (lv_at hl 0 rfl) ?_
                refine kp_get hx hb hts i_X4 hown hK hP hI hW.tm rfl rfl 4 (by decide) (by decide) (hts (.fieldLink RX4 17 "IslandSolverModel" "quiet" "[I") (by decide +kernel)) (fun _ h9 => h9) dX4_settle_155 (kq_RE 17 (by decide) fun x_135 h_136_e h_136 => ?_)
                refine lv_iload_n hx hb dX4_settle_158 rfl (lv_at hl 3 rfl) ?_
                have hj_137 : i3 < τ 3 x_135 := by rw [show τ 3 x_135 = 256 from (hI.arr h_136 rfl).2.1]; omega
                refine W.eq (g2 := F0 m 159 ls (.int (nI (i3)) :: .ref x_135 :: [])) rfl ?_
                refine kp_iald (j := i3) hx hb hK hP hI h_136 rfl hj_137 dX4_settle_159 (ka_I fun x_138 => ?_)
                refine lv_aload_n hx hb dX4_settle_160 rfl (lv_at hl 0 rfl) ?_
                refine kp_get hx hb hts i_X4 hown hK hP hI hW.tm rfl rfl 25 (by decide) (by decide) (hts (.fieldLink RX4 151 "IslandSolverModel" "still" "I") (by decide +kernel)) (fun _ h9 => h9) dX4_settle_161 (kq_I fun x_140 => ?_)
                refine lv_icmp_lt (tgt := 171) hx hb dX4_settle_164 (by decide) (fun c_142 => ?_) (fun c_142 => ?_)
                · refine lv_iconst (v := 0) hx hb dX4_settle_171 (by decide) ?_
                  refine lv_istore_n (lv' := [(2, .int 0), (0, .ref mm), (1, .int (nI i2)), (3, .int (nI i3))]) hx hb dX4_settle_172 rfl hl (by decide) rfl (fun ls hl => ?_)
                  refine lv_iinc (v := nI (i3 + 1)) (lv' := [(3, .int (nI (i3 + 1))), (2, .int 0), (0, .ref mm), (1, .int (nI i2))]) hx hb dX4_settle_173 hl (k := 3) rfl (nI_add i3 1) (by decide) rfl (fun ls hl => ?_)
                  refine lv_goto (tgt := 132) hx hb dX4_settle_176 (by decide) ?_
                  have hl : lv_has ls 5 [(0, .ref mm), (1, .int (nI i2)), (2, .int 0), (3, .int (nI (i3 + 1)))] := lv_sub hl [2, 3, 1, 0] rfl
                  exact ih132 (fun _ _ => .null) _ _ _ _ _ ⟨(i3 + 1), 0, by omega, hI, hP, hD, hS, hl, by omega, (Or.inl rfl)⟩
                · refine lv_iconst (v := 1) hx hb dX4_settle_167 (by decide) ?_
                  refine lv_goto (tgt := 172) hx hb dX4_settle_168 (by decide) ?_
                  refine lv_istore_n (lv' := [(2, .int 1), (0, .ref mm), (1, .int (nI i2)), (3, .int (nI i3))]) hx hb dX4_settle_172 rfl hl (by decide) rfl (fun ls hl => ?_)
                  refine lv_iinc (v := nI (i3 + 1)) (lv' := [(3, .int (nI (i3 + 1))), (2, .int 1), (0, .ref mm), (1, .int (nI i2))]) hx hb dX4_settle_173 hl (k := 3) rfl (nI_add i3 1) (by decide) rfl (fun ls hl => ?_)
                  refine lv_goto (tgt := 132) hx hb dX4_settle_176 (by decide) ?_
                  have hl : lv_has ls 5 [(0, .ref mm), (1, .int (nI i2)), (2, .int 1), (3, .int (nI (i3 + 1)))] := lv_sub hl [2, 3, 1, 0] rfl
                  exact ih132 (fun _ _ => .null) _ _ _ _ _ ⟨(i3 + 1), 1, by omega, hI, hP, hD, hS, hl, by omega, (Or.inr rfl)⟩
  · have n_143 : ¬ mb ≤ i := fun h9 => (show ¬ nI mb ≤ nI i from c_3) ((nI_leI (by omega) (by omega)).mpr h9)
    refine lv_aload_n hx hb dX4_settle_10 rfl (lv_at hl 0 rfl) ?_
    refine lv_iload_n hx hb dX4_settle_11 rfl (lv_at hl 1 rfl) ?_
    refine kd_calli (va_runV (As := [.int (nI i)]) (rest := []) ⟨hx, hb, hml, hown, hts⟩ (k_upN l dC dI dA ad _ τ pv _ _ hI mm fa sa aa ia sf mb mr mk mi hW i (by omega)) (cwV 1 hts gX4_settle_X4_up rfl rfl rfl (by decide +kernel) ⟨Nat.le_of_ble_eq_true rfl, Nat.le_of_ble_eq_true rfl⟩) (kd_preV hP hD hK hS hA hE hI hW.tm rfl rfl) rfl rfl hl.1 rfl (lv_room (Nat.le_of_ble_eq_true rfl)) dX4_settle_12 ⟨Nat.le_of_ble_eq_true rfl, Nat.le_of_ble_eq_true rfl⟩) hD hS hA (fun r_145 u_144 H locs hw hP hD hS => ?_)
    obtain ⟨hr_145, hI⟩ := hw
    refine lv_if_eq (tgt := 92) hx hb dX4_settle_15 (by decide) (fun c_146 => ?_) (fun c_146 => ?_)
    · subst c_146
      refine lv_iinc (v := nI (i + 1)) (lv' := [(1, .int (nI (i + 1))), (0, .ref mm)]) hx hb dX4_settle_92 hl (k := 1) rfl (nI_add i 1) (by decide) rfl (fun ls hl => ?_)
      refine lv_goto (tgt := 2) hx hb dX4_settle_95 (by decide) ?_
      have hl : lv_has ls 5 [(0, .ref mm), (1, .int (nI (i + 1)))] := lv_sub hl [1, 0] rfl
      exact ih2 (fun _ _ => .null) _ _ _ _ _ ⟨(i + 1), by omega, hI, hP, hD, hS, hl, by omega⟩
    · obtain rfl : r_145 = 1 := (hr_145).resolve_left c_146
      refine lv_iconst (v := 0) hx hb dX4_settle_18 (by decide) ?_
      refine lv_istore_n (lv' := [(2, .int 0), (0, .ref mm), (1, .int (nI i))]) hx hb dX4_settle_19 rfl hl (by decide) rfl (fun ls hl => ?_)
      have hl : lv_has ls 5 [(0, .ref mm), (1, .int (nI i)), (2, .int 0)] := lv_sub hl [1, 2, 0] rfl
      refine kl_loop (Inv := fun n20 _ L f H locs ls => ∃ (k9 : Nat), 6 - k9 < n20 ∧ kI dA τ pv L f ∧ va_P (dC, dI) vwCl (va_pl L f) H ∧ va_D A (va_pl L f) ∧ va_S A s.heap H locs ∧ lv_has ls 5 [(0, .ref mm), (1, .int (nI i)), (2, .int (nI k9))] ∧ k9 ≤ 6) (fun _ _ _ _ _ _ h9 => by obtain ⟨_, hn, _⟩ := h9; exact Nat.not_lt_zero _ hn) (fun n20 ih20 _ L f H locs ls h9 => ?_) (6 - 0 + 1) (fun _ _ => .null) _ _ _ _ _ ⟨0, Nat.lt_succ_self _, hI, hP, hD, hS, hl, Nat.zero_le _⟩
      obtain ⟨k9, hn20, hI, hP, hD, hS, hl, hib⟩ := h9
      refine lv_iload_n hx hb dX4_settle_20 rfl (lv_at hl 2 rfl) ?_
      refine lv_bipush (v := 6) hx hb dX4_settle_21 (by decide) ?_
      refine lv_icmp_ge (tgt := 61) hx hb dX4_settle_23 (by decide) (fun c_147 => ?_) (fun c_147 => ?_)
      · have n_148 : 6 ≤ k9 := (nI_leI (by omega) (by omega)).mp (show nI 6 ≤ nI k9 from c_147)
        refine lv_aload_n hx hb dX4_settle_61 rfl (lv_at hl 0 rfl) ?_
        refine kp_get hx hb hts i_X4 hown hK hP hI hW.tm rfl rfl 4 (by decide) (by decide) (hts (.fieldLink RX4 17 "IslandSolverModel" "quiet" "[I") (by decide +kernel)) (fun _ h9 => h9) dX4_settle_62 (kq_RE 17 (by decide) fun x_149 h_150_e h_150 => ?_)
        refine lv_iload_n hx hb dX4_settle_65 rfl (lv_at hl 1 rfl) ?_
        refine lv_aload_n hx hb dX4_settle_66 rfl (lv_at hl 0 rfl) ?_
        refine lv_iload_n hx hb dX4_settle_67 rfl (lv_at hl 1 rfl) ?_
        refine kd_callf (va_runV (As := [.int (nI i)]) (rest := [.int (nI i), .ref x_149]) ⟨hx, hb, hml, hown, hts⟩ (k_square l dC dI dA ad _ τ pv _ _ hI mm fa sa aa ia sf mb mr mk mi hW i (by omega)) (cwV 1 hts gX4_settle_X4_square rfl rfl rfl (by decide +kernel) ⟨Nat.le_of_ble_eq_true rfl, Nat.le_of_ble_eq_true rfl⟩) (kd_preV hP hD hK hS hA hE hI hW.tm rfl rfl) rfl rfl hl.1 rfl (lv_room (Nat.le_of_ble_eq_true rfl)) dX4_settle_68 ⟨Nat.le_of_ble_eq_true rfl, Nat.le_of_ble_eq_true rfl⟩) hD hS hA (fun r_152 u_151 H locs hw hP hD hS => ?_)
        obtain ⟨hr_152, nr_152, hI⟩ := hw
        refine lv_aload_n hx hb dX4_settle_71 rfl (lv_at hl 0 rfl) ?_
        refine kp_get hx hb hts i_X4 hown hK hP hI hW.tm rfl rfl 24 (by decide) (by decide) (hts (.fieldLink RX4 75 "IslandSolverModel" "calm" "F") (by decide +kernel)) (fun _ h9 => h9) dX4_settle_72 (kq_G fun x_153 => ?_)
        refine lv_fcmp hx hb dX4_settle_75 ?_
        refine lv_if_ge (tgt := 90) hx hb dX4_settle_76 (by decide) (fun c_155 => ?_) (fun c_155 => ?_)
        · refine lv_iconst (v := 0) hx hb dX4_settle_90 (by decide) ?_
          have hj_156 : i < τ 3 x_149 := by rw [show τ 3 x_149 = 256 from (hI.arr h_150 rfl).2.1]; omega
          refine W.eq (g2 := F0 m 91 ls (.int 0 :: .int (nI (i)) :: .ref x_149 :: [])) rfl ?_
          refine kp_iastX (pv' := pv) (j := i) hx hb hK hP hD hS hI h_150 rfl hj_156 (fun _ _ _ => rfl) (show kPr _ 0 _ _ from (kv_I _)) (kPn_not rfl (by decide)) dX4_settle_91 (fun f H locs hI hP hD hS => ?_)
          refine lv_iinc (v := nI (i + 1)) (lv' := [(1, .int (nI (i + 1))), (0, .ref mm), (2, .int (nI k9))]) hx hb dX4_settle_92 hl (k := 1) rfl (nI_add i 1) (by decide) rfl (fun ls hl => ?_)
          refine lv_goto (tgt := 2) hx hb dX4_settle_95 (by decide) ?_
          have hl : lv_has ls 5 [(0, .ref mm), (1, .int (nI (i + 1)))] := lv_sub hl [1, 0] rfl
          exact ih2 (fun _ _ => .null) _ _ _ _ _ ⟨(i + 1), by omega, hI, hP, hD, hS, hl, by omega⟩
        · refine lv_aload_n hx hb dX4_settle_79 rfl (lv_at hl 0 rfl) ?_
          refine kp_get hx hb hts i_X4 hown hK hP hI hW.tm rfl rfl 4 (by decide) (by decide) (hts (.fieldLink RX4 17 "IslandSolverModel" "quiet" "[I") (by decide +kernel)) (fun _ h9 => h9) dX4_settle_80 (kq_RE 17 (by decide) fun x_157 h_158_e h_158 => ?_)
          refine lv_iload_n hx hb dX4_settle_83 rfl (lv_at hl 1 rfl) ?_
          have hj_159 : i < τ 3 x_157 := by rw [show τ 3 x_157 = 256 from (hI.arr h_158 rfl).2.1]; omega
          refine W.eq (g2 := F0 m 84 ls (.int (nI (i)) :: .ref x_157 :: [.int (nI i), .ref x_149])) rfl ?_
          refine kp_iald (j := i) hx hb hK hP hI h_158 rfl hj_159 dX4_settle_84 (ka_I fun x_160 => ?_)
          refine lv_iconst (v := 1) hx hb dX4_settle_85 (by decide) ?_
          refine lv_iadd hx hb dX4_settle_86 ?_
          refine lv_topi (fun x_162 ex_162 => ?_)
          refine lv_goto (tgt := 91) hx hb dX4_settle_87 (by decide) ?_
          have hj_163 : i < τ 3 x_149 := by rw [show τ 3 x_149 = 256 from (hI.arr h_150 rfl).2.1]; omega
          refine W.eq (g2 := F0 m 91 ls (.int x_162 :: .int (nI (i)) :: .ref x_149 :: [])) rfl ?_
          refine kp_iastX (pv' := pv) (j := i) hx hb hK hP hD hS hI h_150 rfl hj_163 (fun _ _ _ => rfl) (show kPr _ 0 _ _ from (kv_I _)) (kPn_not rfl (by decide)) dX4_settle_91 (fun f H locs hI hP hD hS => ?_)
          refine lv_iinc (v := nI (i + 1)) (lv' := [(1, .int (nI (i + 1))), (0, .ref mm), (2, .int (nI k9))]) hx hb dX4_settle_92 hl (k := 1) rfl (nI_add i 1) (by decide) rfl (fun ls hl => ?_)
          refine lv_goto (tgt := 2) hx hb dX4_settle_95 (by decide) ?_
          have hl : lv_has ls 5 [(0, .ref mm), (1, .int (nI (i + 1)))] := lv_sub hl [1, 0] rfl
          exact ih2 (fun _ _ => .null) _ _ _ _ _ ⟨(i + 1), by omega, hI, hP, hD, hS, hl, by omega⟩
      · have n_164 : ¬ 6 ≤ k9 := fun h9 => (show ¬ nI 6 ≤ nI k9 from c_147) ((nI_leI (by omega) (by omega)).mpr h9)
        refine lv_aload_n hx hb dX4_settle_26 rfl (lv_at hl 0 rfl) ?_
        refine kp_get hx hb hts i_X4 hown hK hP hI hW.tm rfl rfl 2 (by decide) (by decide) (hts (.fieldLink RX4 7 "IslandSolverModel" "body" "[F") (by decide +kernel)) (fun _ h9 => h9) dX4_settle_27 (kq_RE 15 (by decide) fun x_165 h_166_e h_166 => ?_)
        refine lv_bipush (v := 13) hx hb dX4_settle_30 (by decide) ?_
        refine lv_iload_n hx hb dX4_settle_32 rfl (lv_at hl 1 rfl) ?_
        refine lv_imul hx hb dX4_settle_33 ?_
        refine lv_topi (nm_r (show (13 : Int32) * (nI i) = nI (13 * i) from pk_mul 13 i) ?_)
        refine lv_iload_n hx hb dX4_settle_34 rfl (lv_at hl 2 rfl) ?_
        refine lv_iadd hx hb dX4_settle_35 ?_
        refine lv_topi (nm_r (show (nI (13 * i)) + (nI k9) = nI (13 * i + k9) from nI_add (13 * i) k9) ?_)
        refine lv_aload_n hx hb dX4_settle_36 rfl (lv_at hl 0 rfl) ?_
        refine kp_get hx hb hts i_X4 hown hK hP hI hW.tm rfl rfl 2 (by decide) (by decide) (hts (.fieldLink RX4 7 "IslandSolverModel" "body" "[F") (by decide +kernel)) (fun _ h9 => h9) dX4_settle_37 (kq_E h_166_e ?_)
        refine lv_bipush (v := 13) hx hb dX4_settle_40 (by decide) ?_
        refine lv_iload_n hx hb dX4_settle_42 rfl (lv_at hl 1 rfl) ?_
        refine lv_imul hx hb dX4_settle_43 ?_
        refine lv_topi (nm_r (show (13 : Int32) * (nI i) = nI (13 * i) from pk_mul 13 i) ?_)
        refine lv_iload_n hx hb dX4_settle_44 rfl (lv_at hl 2 rfl) ?_
        refine lv_iadd hx hb dX4_settle_45 ?_
        refine lv_topi (nm_r (show (nI (13 * i)) + (nI k9) = nI (13 * i + k9) from nI_add (13 * i) k9) ?_)
        have hj_169 : 13 * i + k9 < τ 3 x_165 := by rw [show τ 3 x_165 = 3328 from (hI.arr h_166 rfl).2.1]; omega
        refine W.eq (g2 := F0 m 46 ls (.int (nI (13 * i + k9)) :: .ref x_165 :: [.int (nI (13 * i + k9)), .ref x_165])) rfl ?_
        refine kp_faldE (j := 13 * i + k9) hx hb hK hP hI h_166 rfl hj_169 dX4_settle_46 (ka_FE (cd := 1535115264) (show kEc 15 (13 * i + k9) = 1535115264 from if_pos (by omega)) (by decide) fun x_170 h_171_e h_171 => ?_)
        refine lv_ldcf (v := 3313500160) hx hb hown (hts (.constantFloat RX4 195 (3313500160)) (by decide +kernel)) dX4_settle_47 ?_
        have hc_172 : fb 1166016512 3313500160 := by unfold fb; decide +kernel
        refine lv_ldcf (v := 1166016512) hx hb hown (hts (.constantFloat RX4 196 (1166016512)) (by decide +kernel)) dX4_settle_49 ?_
        have hc_173 : fb 1166016512 1166016512 := by unfold fb; decide +kernel
        refine kd_callf (va_runS (As := [.float x_170, .float 3313500160, .float 1166016512]) (rest := [.int (nI (13 * i + k9)), .ref x_165]) ⟨hx, hb, hml, hown, hts⟩ (k_held4 l dC dI dA ad _ τ pv _ _ hI 1535115264 1166016512 x_170 3313500160 1166016512 h_171 hc_172 hc_173 (by decide) (by decide)) (va_cwS 3 hts gX4_settle_X4_held rfl rfl rfl (by decide +kernel) ⟨Nat.le_of_ble_eq_true rfl, Nat.le_of_ble_eq_true rfl⟩) (kd_preS hP hD hK hS hA hE) rfl rfl hl.1 rfl (lv_room (Nat.le_of_ble_eq_true rfl)) dX4_settle_51 ⟨Nat.le_of_ble_eq_true rfl, Nat.le_of_ble_eq_true rfl⟩) hD hS hA (fun r_175 u_174 H locs hw hP hD hS => ?_)
        obtain ⟨hr_175, hI⟩ := hw
        have hj_176 : 13 * i + k9 < τ 3 x_165 := by rw [show τ 3 x_165 = 3328 from (hI.arr h_166 rfl).2.1]; omega
        refine W.eq (g2 := F0 m 54 ls (.float r_175 :: .int (nI (13 * i + k9)) :: .ref x_165 :: [])) rfl ?_
        refine kp_fastX (pv' := pv) (j := 13 * i + k9) hx hb hK hP hD hS hI h_166 rfl hj_176 (fun _ _ _ => rfl) (show kPr τ (kEc 15 (13 * i + k9)) _ _ from (show kEc 15 (13 * i + k9) = 1535115264 from if_pos (by omega)).symm ▸ (kv_F (by decide) (fb_le hr_175 (by decide)))) (kPn_not rfl (by decide)) dX4_settle_54 (fun f H locs hI hP hD hS => ?_)
        refine lv_iinc (v := nI (k9 + 1)) (lv' := [(2, .int (nI (k9 + 1))), (0, .ref mm), (1, .int (nI i))]) hx hb dX4_settle_55 hl (k := 2) rfl (nI_add k9 1) (by decide) rfl (fun ls hl => ?_)
        refine lv_goto (tgt := 20) hx hb dX4_settle_58 (by decide) ?_
        have hl : lv_has ls 5 [(0, .ref mm), (1, .int (nI i)), (2, .int (nI (k9 + 1)))] := lv_sub hl [1, 2, 0] rfl
        exact ih20 (fun _ _ => .null) _ _ _ _ _ ⟨(k9 + 1), by omega, hI, hP, hD, hS, hl, by omega⟩
