set_option maxHeartbeats 4000000 in
set_option maxRecDepth 100000 in
theorem k_once4 (l : Launch) (dC : Nat → ClassId) (dI : Nat → Nat → Nat) (dA : Nat → ClassId) (ad sz : Nat) (τ : Nat → Nat → Nat) (pv0 : Nat → Nat → Value) (L : List Nat) (f : Nat → va_E) (hI : kI dA τ pv0 L f) (mm fa sa aa ia sf mb mr mk mi : Nat) (hW : kMd τ pv0 mm fa sa aa ia sf mb mr mk mi) (hmi : mi = mr) : Met l yX4_once wsX4_once ({ frames := 4, cells := 0, slots := 0, locals := 99 } : Room) (va_Pc [.ref mm] (kB dC dI dA ad sz L f)) (va_Qv (fun u => ∃ pv2, kFr kPq τ pv0 τ pv2 ∧ kI dA τ pv2 u.1 u.2) (kR dC dI dA (va_A (va_pl L f) sz)) (va_A (va_pl L f) sz)) 0 0 (va_A (va_pl L f) sz) := by
  refine Met.ofW (cc := cX4_once) (maxL := 3) (ret := none) (by decide) rfl ?_
  intro p e s m args below meth c s₁ B hml hv
  obtain ⟨rfl, hsz, hP, hK, hD0, hE⟩ := hv
  have hx := B.exec
  have hb := B.bytes
  have hr := B.returns
  have hts := atoms_spec (ws := wsX4_once) B.pre
  have hown : s.vm.findClass RX4 = some m.cls := findClass_of_methodNamed B.named
  have hlocks := B.notSynchronized
  have i_X4 : ∀ w ∈ u_ws RX4 TX4 35, w ∈ wsX4_once := by decide +kernel
  subst hsz
  have hD := hD0.self (sz := s.heap.size)
  generalize hAe : va_A (va_pl L f) s.heap.size = A at hD hE ⊢
  have hA : ∀ q : Nat, s.heap.size ≤ q → A q := fun q h => by rw [← hAe]; exact Or.inr h
  have hS : va_S A s.heap s.heap [] := va_S.rf
  have hP : va_P (dC, dI) vwCl (va_pl L f) s.heap := hP
  have hK : va_K (dC, dI) vwCl (tyA dA) s := hK
  have hl := lv_entry ([.ref mm]) (n := 3) (Nat.le_of_ble_eq_true rfl)
  rw [lg_entry_eq]
  generalize (lg_sl ([.ref mm]) ++ List.replicate (3 - (lg_sl ([.ref mm])).length) Slot.unset).toArray = ls at hl ⊢
  have hl : lv_has ls 3 [(0, .ref mm)] := hl
  have hnb := hW.lb
  have hnr := hW.lr
  have hnk := hW.lk
  have hni := hW.li
  have hF : kFr kPq τ pv0 τ pv0 := kFr.rf
  refine lv_aload_n hx hb dX4_once_0 rfl (lv_at hl 0 rfl) ?_
  refine kd_callv (va_runV (As := []) (rest := []) ⟨hx, hb, hml, hown, hts⟩ (k_findIsl l dC dI dA ad _ τ pv0 _ _ hI mm fa sa aa ia sf mb mr mk mi hW ) (cwV 0 hts gX4_once_X4_findIslands rfl rfl rfl (by decide +kernel) ⟨Nat.le_of_ble_eq_true rfl, Nat.le_of_ble_eq_true rfl⟩) (kd_preV hP hD hK hS hA hE hI hW.tm rfl rfl) rfl rfl hl.1 rfl (lv_room (Nat.le_of_ble_eq_true rfl)) dX4_once_1 ⟨Nat.le_of_ble_eq_true rfl, Nat.le_of_ble_eq_true rfl⟩) hD hS hA (fun u_1 H locs hw hP hD hS => ?_)
  obtain ⟨pv, hF9, hI⟩ := hw
  have hF := hF.trans (hF9)
  have hW := hW.frq hF9
  refine lv_iconst (v := 0) hx hb dX4_once_4 (by decide) ?_
  refine lv_istore_n (lv' := [(1, .int 0), (0, .ref mm)]) hx hb dX4_once_5 rfl hl (by decide) rfl (fun ls hl => ?_)
  have hl : lv_has ls 3 [(0, .ref mm), (1, .int 0)] := lv_sub hl [1, 0] rfl
  refine kl_loop (Inv := fun n6 _ L f H locs ls => ∃ (i : Nat), mb - i < n6 ∧ kI dA τ pv L f ∧ va_P (dC, dI) vwCl (va_pl L f) H ∧ va_D A (va_pl L f) ∧ va_S A s.heap H locs ∧ lv_has ls 3 [(0, .ref mm), (1, .int (nI i))] ∧ i ≤ mb) (fun _ _ _ _ _ _ h9 => by obtain ⟨_, hn, _⟩ := h9; exact Nat.not_lt_zero _ hn) (fun n6 ih6 _ L f H locs ls h9 => ?_) (mb - 0 + 1) (fun _ _ => .null) _ _ _ _ _ ⟨0, Nat.lt_succ_self _, hI, hP, hD, hS, hl, Nat.zero_le _⟩
  obtain ⟨i, hn6, hI, hP, hD, hS, hl, hib⟩ := h9
  refine lv_iload_n hx hb dX4_once_6 rfl (lv_at hl 1 rfl) ?_
  refine lv_aload_n hx hb dX4_once_7 rfl (lv_at hl 0 rfl) ?_
  refine kp_get hx hb hts i_X4 hown hK hP hI hW.tm rfl rfl 1 (by decide) (by decide) (hts (.fieldLink RX4 93 "IslandSolverModel" "bodies" "I") (by decide +kernel)) (fun _ h9 => h9) dX4_once_8 (kq_P (v0 := .int (nI mb)) rfl hW.p1 fun h_3 => ?_)
  refine lv_icmp_ge (tgt := 42) hx hb dX4_once_11 (by decide) (fun c_4 => ?_) (fun c_4 => ?_)
  · have n_5 : mb ≤ i := (nI_leI (by omega) (by omega)).mp (show nI mb ≤ nI i from c_4)
    refine lv_iconst (v := 0) hx hb dX4_once_42 (by decide) ?_
    refine lv_istore_n (lv' := [(1, .int 0), (0, .ref mm)]) hx hb dX4_once_43 rfl hl (by decide) rfl (fun ls hl => ?_)
    have hl : lv_has ls 3 [(0, .ref mm), (1, .int 0)] := lv_sub hl [1, 0] rfl
    refine kl_loop (Inv := fun n44 pv L f H locs ls => ∃ (i2 : Nat), mr - i2 < n44 ∧ kI dA τ pv L f ∧ va_P (dC, dI) vwCl (va_pl L f) H ∧ va_D A (va_pl L f) ∧ va_S A s.heap H locs ∧ lv_has ls 3 [(0, .ref mm), (1, .int (nI i2))] ∧ kFr kPq τ pv0 τ pv ∧ kMd τ pv mm fa sa aa ia sf mb mr mk mi ∧ i2 ≤ mr) (fun _ _ _ _ _ _ h9 => by obtain ⟨_, hn, _⟩ := h9; exact Nat.not_lt_zero _ hn) (fun n44 ih44 pv L f H locs ls h9 => ?_) (mr - 0 + 1) (pv) _ _ _ _ _ ⟨0, Nat.lt_succ_self _, hI, hP, hD, hS, hl, hF, hW, Nat.zero_le _⟩
    obtain ⟨i2, hn44, hI, hP, hD, hS, hl, hF, hW, hib⟩ := h9
    refine lv_iload_n hx hb dX4_once_44 rfl (lv_at hl 1 rfl) ?_
    refine lv_aload_n hx hb dX4_once_45 rfl (lv_at hl 0 rfl) ?_
    refine kp_get hx hb hts i_X4 hown hK hP hI hW.tm rfl rfl 6 (by decide) (by decide) (hts (.fieldLink RX4 129 "IslandSolverModel" "rows" "I") (by decide +kernel)) (fun _ h9 => h9) dX4_once_46 (kq_P (v0 := .int (nI mr)) rfl hW.p6 fun h_7 => ?_)
    refine lv_icmp_ge (tgt := 69) hx hb dX4_once_49 (by decide) (fun c_8 => ?_) (fun c_8 => ?_)
    · have n_9 : mr ≤ i2 := (nI_leI (by omega) (by omega)).mp (show nI mr ≤ nI i2 from c_8)
      refine lv_iconst (v := 0) hx hb dX4_once_69 (by decide) ?_
      refine lv_istore_n (lv' := [(1, .int 0), (0, .ref mm)]) hx hb dX4_once_70 rfl hl (by decide) rfl (fun ls hl => ?_)
      have hl : lv_has ls 3 [(0, .ref mm), (1, .int 0)] := lv_sub hl [1, 0] rfl
      refine kl_loop (Inv := fun n71 _ L f H locs ls => ∃ (i3 : Nat), mr - i3 < n71 ∧ kI dA τ pv L f ∧ va_P (dC, dI) vwCl (va_pl L f) H ∧ va_D A (va_pl L f) ∧ va_S A s.heap H locs ∧ lv_has ls 3 [(0, .ref mm), (1, .int (nI i3))] ∧ i3 ≤ mr) (fun _ _ _ _ _ _ h9 => by obtain ⟨_, hn, _⟩ := h9; exact Nat.not_lt_zero _ hn) (fun n71 ih71 _ L f H locs ls h9 => ?_) (mr - 0 + 1) (fun _ _ => .null) _ _ _ _ _ ⟨0, Nat.lt_succ_self _, hI, hP, hD, hS, hl, Nat.zero_le _⟩
      obtain ⟨i3, hn71, hI, hP, hD, hS, hl, hib⟩ := h9
      refine lv_iload_n hx hb dX4_once_71 rfl (lv_at hl 1 rfl) ?_
      refine lv_aload_n hx hb dX4_once_72 rfl (lv_at hl 0 rfl) ?_
      refine kp_get hx hb hts i_X4 hown hK hP hI hW.tm rfl rfl 6 (by decide) (by decide) (hts (.fieldLink RX4 129 "IslandSolverModel" "rows" "I") (by decide +kernel)) (fun _ h9 => h9) dX4_once_73 (kq_P (v0 := .int (nI mr)) rfl hW.p6 fun h_11 => ?_)
      refine lv_icmp_ge (tgt := 158) hx hb dX4_once_76 (by decide) (fun c_12 => ?_) (fun c_12 => ?_)
      · have n_13 : mr ≤ i3 := (nI_leI (by omega) (by omega)).mp (show nI mr ≤ nI i3 from c_12)
        refine lv_iconst (v := 0) hx hb dX4_once_158 (by decide) ?_
        refine lv_istore_n (lv' := [(1, .int 0), (0, .ref mm)]) hx hb dX4_once_159 rfl hl (by decide) rfl (fun ls hl => ?_)
        have hl : lv_has ls 3 [(0, .ref mm), (1, .int 0)] := lv_sub hl [1, 0] rfl
        refine kl_loop (Inv := fun n160 _ L f H locs ls => ∃ (i4 : Nat), 2 ^ 31 - i4 < n160 ∧ kI dA τ pv L f ∧ va_P (dC, dI) vwCl (va_pl L f) H ∧ va_D A (va_pl L f) ∧ va_S A s.heap H locs ∧ lv_has ls 3 [(0, .ref mm), (1, .int (nI i4))] ∧ i4 < 2 ^ 31) (fun _ _ _ _ _ _ h9 => by obtain ⟨_, hn, _⟩ := h9; exact Nat.not_lt_zero _ hn) (fun n160 ih160 _ L f H locs ls h9 => ?_) (2 ^ 31 - 0 + 1) (fun _ _ => .null) _ _ _ _ _ ⟨0, Nat.lt_succ_self _, hI, hP, hD, hS, hl, by decide⟩
        obtain ⟨i4, hn160, hI, hP, hD, hS, hl, hi⟩ := h9
        refine lv_iload_n hx hb dX4_once_160 rfl (lv_at hl 1 rfl) ?_
        refine lv_aload_n hx hb dX4_once_161 rfl (lv_at hl 0 rfl) ?_
        refine kp_get hx hb hts i_X4 hown hK hP hI hW.tm rfl rfl 22 (by decide) (by decide) (hts (.fieldLink RX4 66 "IslandSolverModel" "rounds" "I") (by decide +kernel)) (fun _ h9 => h9) dX4_once_162 (kq_I fun x_14 => ?_)
        refine lv_icmp_ge (tgt := 217) hx hb dX4_once_165 (by decide) (fun c_16 => ?_) (fun c_16 => ?_)
        · refine lv_aload_n hx hb dX4_once_217 rfl (lv_at hl 0 rfl) ?_
          refine kd_callv (va_runV (As := []) (rest := []) ⟨hx, hb, hml, hown, hts⟩ (k_settle4 l dC dI dA ad _ τ pv _ _ hI mm fa sa aa ia sf mb mr mk mi hW ) (cwV 0 hts gX4_once_X4_settle rfl rfl rfl (by decide +kernel) ⟨Nat.le_of_ble_eq_true rfl, Nat.le_of_ble_eq_true rfl⟩) (kd_preV hP hD hK hS hA hE hI hW.tm rfl rfl) rfl rfl hl.1 rfl (lv_room (Nat.le_of_ble_eq_true rfl)) dX4_once_218 ⟨Nat.le_of_ble_eq_true rfl, Nat.le_of_ble_eq_true rfl⟩) hD hS hA (fun u_17 H locs hw hP hD hS => ?_)
          have hI := hw
          refine lv_aload_n hx hb dX4_once_221 rfl (lv_at hl 0 rfl) ?_
          refine lv_dup hx hb dX4_once_222 rfl ?_
          refine kp_get hx hb hts i_X4 hown hK hP hI hW.tm rfl rfl 27 (by decide) (by decide) (hts (.fieldLink RX4 219 "IslandSolverModel" "steps" "I") (by decide +kernel)) (fun _ h9 => h9) dX4_once_223 (kq_I fun x_18 => ?_)
          refine lv_iconst (v := 1) hx hb dX4_once_226 (by decide) ?_
          refine lv_iadd hx hb dX4_once_227 ?_
          refine lv_topi (fun x_20 ex_20 => ?_)
          refine kp_put (v := .int x_20) (ty := .int) hx hb hts i_X4 tyX4 tyX4_ok nmX4 hown hK hP hD hS hI hW.tm rfl rfl 27 (by decide) (by decide) (hts (.fieldLink RX4 219 "IslandSolverModel" "steps" "I") (by decide +kernel)) (fun _ h9 => h9) rfl (by decide +kernel) rfl rfl rfl (by decide) (kv_I _) dX4_once_228 (fun f H locs hI hP hD hS => ?_)
          refine W.widen (k := 0) (n := 0) (Nat.le_of_ble_eq_true rfl) (Nat.le_of_ble_eq_true rfl) ?_
          exact W.vret hx hb hr (fun t ht hW9 => ⟨⟨(u_17.1, f), rfl, ⟨_, hF, hI⟩, by rw [ht]; exact hP, va_K.moved hW9.alike hK, hD⟩, hS.F ht⟩) hS.2.2 dX4_once_231
        · have hi := kz_nx hi c_16
          refine lv_iconst (v := 0) hx hb dX4_once_168 (by decide) ?_
          refine lv_istore_n (lv' := [(2, .int 0), (0, .ref mm), (1, .int (nI i4))]) hx hb dX4_once_169 rfl hl (by decide) rfl (fun ls hl => ?_)
          have hl : lv_has ls 3 [(0, .ref mm), (1, .int (nI i4)), (2, .int 0)] := lv_sub hl [1, 2, 0] rfl
          refine kl_loop (Inv := fun n170 _ L f H locs ls => ∃ (i5 : Nat), mr - i5 < n170 ∧ kI dA τ pv L f ∧ va_P (dC, dI) vwCl (va_pl L f) H ∧ va_D A (va_pl L f) ∧ va_S A s.heap H locs ∧ lv_has ls 3 [(0, .ref mm), (1, .int (nI i4)), (2, .int (nI i5))] ∧ i5 ≤ mr) (fun _ _ _ _ _ _ h9 => by obtain ⟨_, hn, _⟩ := h9; exact Nat.not_lt_zero _ hn) (fun n170 ih170 _ L f H locs ls h9 => ?_) (mr - 0 + 1) (fun _ _ => .null) _ _ _ _ _ ⟨0, Nat.lt_succ_self _, hI, hP, hD, hS, hl, Nat.zero_le _⟩
          obtain ⟨i5, hn170, hI, hP, hD, hS, hl, hib⟩ := h9
          refine lv_iload_n hx hb dX4_once_170 rfl (lv_at hl 2 rfl) ?_
          refine lv_aload_n hx hb dX4_once_171 rfl (lv_at hl 0 rfl) ?_
          refine kp_get hx hb hts i_X4 hown hK hP hI hW.tm rfl rfl 6 (by decide) (by decide) (hts (.fieldLink RX4 129 "IslandSolverModel" "rows" "I") (by decide +kernel)) (fun _ h9 => h9) dX4_once_172 (kq_P (v0 := .int (nI mr)) rfl hW.p6 fun h_22 => ?_)
          refine lv_icmp_ge (tgt := 211) hx hb dX4_once_175 (by decide) (fun c_23 => ?_) (fun c_23 => ?_)
          · have n_24 : mr ≤ i5 := (nI_leI (by omega) (by omega)).mp (show nI mr ≤ nI i5 from c_23)
            refine lv_iinc (v := nI (i4 + 1)) (lv' := [(1, .int (nI (i4 + 1))), (0, .ref mm), (2, .int (nI i5))]) hx hb dX4_once_211 hl (k := 1) rfl (nI_add i4 1) (by decide) rfl (fun ls hl => ?_)
            refine lv_goto (tgt := 160) hx hb dX4_once_214 (by decide) ?_
            have hl : lv_has ls 3 [(0, .ref mm), (1, .int (nI (i4 + 1)))] := lv_sub hl [1, 0] rfl
            exact ih160 (fun _ _ => .null) _ _ _ _ _ ⟨(i4 + 1), by omega, hI, hP, hD, hS, hl, hi⟩
          · have n_25 : ¬ mr ≤ i5 := fun h9 => (show ¬ nI mr ≤ nI i5 from c_23) ((nI_leI (by omega) (by omega)).mpr h9)
            refine lv_aload_n hx hb dX4_once_178 rfl (lv_at hl 0 rfl) ?_
            refine lv_iload_n hx hb dX4_once_179 rfl (lv_at hl 2 rfl) ?_
            refine kd_calli (va_runV (As := [.int (nI i5)]) (rest := []) ⟨hx, hb, hml, hown, hts⟩ (k_takes l dC dI dA ad _ τ pv _ _ hI mm fa sa aa ia sf mb mr mk mi hW i5 (by omega)) (cwV 1 hts gX4_once_X4_takesPart rfl rfl rfl (by decide +kernel) ⟨Nat.le_of_ble_eq_true rfl, Nat.le_of_ble_eq_true rfl⟩) (kd_preV hP hD hK hS hA hE hI hW.tm rfl rfl) rfl rfl hl.1 rfl (lv_room (Nat.le_of_ble_eq_true rfl)) dX4_once_180 ⟨Nat.le_of_ble_eq_true rfl, Nat.le_of_ble_eq_true rfl⟩) hD hS hA (fun r_27 u_26 H locs hw hP hD hS => ?_)
            obtain ⟨hr_27, hI⟩ := hw
            refine lv_if_eq (tgt := 205) hx hb dX4_once_183 (by decide) (fun c_28 => ?_) (fun c_28 => ?_)
            · subst c_28
              refine lv_iinc (v := nI (i5 + 1)) (lv' := [(2, .int (nI (i5 + 1))), (0, .ref mm), (1, .int (nI i4))]) hx hb dX4_once_205 hl (k := 2) rfl (nI_add i5 1) (by decide) rfl (fun ls hl => ?_)
              refine lv_goto (tgt := 170) hx hb dX4_once_208 (by decide) ?_
              have hl : lv_has ls 3 [(0, .ref mm), (1, .int (nI i4)), (2, .int (nI (i5 + 1)))] := lv_sub hl [1, 2, 0] rfl
              exact ih170 (fun _ _ => .null) _ _ _ _ _ ⟨(i5 + 1), by omega, hI, hP, hD, hS, hl, by omega⟩
            · obtain rfl : r_27 = 1 := (hr_27).resolve_left c_28
              refine lv_aload_n hx hb dX4_once_186 rfl (lv_at hl 0 rfl) ?_
              refine lv_iload_n hx hb dX4_once_187 rfl (lv_at hl 2 rfl) ?_
              refine lv_aload_n hx hb dX4_once_188 rfl (lv_at hl 0 rfl) ?_
              refine kp_get hx hb hts i_X4 hown hK hP hI hW.tm rfl rfl 18 (by decide) (by decide) (hts (.fieldLink RX4 57 "IslandSolverModel" "stiff" "[F") (by decide +kernel)) (fun _ h9 => h9) dX4_once_189 (kq_P (v0 := .ref sf) rfl hW.p18 fun h_30 => ?_)
              refine lv_iload_n hx hb dX4_once_192 rfl (lv_at hl 2 rfl) ?_
              have hj_31 : i5 < τ 3 sf := by rw [show τ 3 sf = 1024 from (hI.arr hW.tsf rfl).2.1]; omega
              refine W.eq (g2 := F0 m 193 ls (.int (nI (i5)) :: .ref sf :: [.int (nI i5), .ref mm])) rfl ?_
              refine kp_fald (j := i5) hx hb hK hP hI hW.tsf rfl hj_31 dX4_once_193 (ka_LF fun x_32 w_34 h_33 => ?_)
              refine kd_calli (va_runV (As := [.int (nI i5), .float x_32]) (rest := []) ⟨hx, hb, hml, hown, hts⟩ (k_dead4 l dC dI dA ad _ τ pv _ _ hI mm fa sa aa ia sf mb mr mk mi hW i5 (by omega) x_32 h_33) (cwV 2 hts gX4_once_X4_dead rfl rfl rfl (by decide +kernel) ⟨Nat.le_of_ble_eq_true rfl, Nat.le_of_ble_eq_true rfl⟩) (kd_preV hP hD hK hS hA hE hI hW.tm rfl rfl) rfl rfl hl.1 rfl (lv_room (Nat.le_of_ble_eq_true rfl)) dX4_once_194 ⟨Nat.le_of_ble_eq_true rfl, Nat.le_of_ble_eq_true rfl⟩) hD hS hA (fun r_36 u_35 H locs hw hP hD hS => ?_)
              obtain ⟨hr_36, gr_36, hI⟩ := hw
              refine lv_if_ne (tgt := 205) hx hb dX4_once_197 (by decide) (fun c_37 => ?_) (fun c_37 => ?_)
              · obtain rfl : r_36 = 1 := (hr_36).resolve_left c_37
                refine lv_iinc (v := nI (i5 + 1)) (lv' := [(2, .int (nI (i5 + 1))), (0, .ref mm), (1, .int (nI i4))]) hx hb dX4_once_205 hl (k := 2) rfl (nI_add i5 1) (by decide) rfl (fun ls hl => ?_)
                refine lv_goto (tgt := 170) hx hb dX4_once_208 (by decide) ?_
                have hl : lv_has ls 3 [(0, .ref mm), (1, .int (nI i4)), (2, .int (nI (i5 + 1)))] := lv_sub hl [1, 2, 0] rfl
                exact ih170 (fun _ _ => .null) _ _ _ _ _ ⟨(i5 + 1), by omega, hI, hP, hD, hS, hl, by omega⟩
              · subst c_37
                refine lv_aload_n hx hb dX4_once_200 rfl (lv_at hl 0 rfl) ?_
                refine lv_iload_n hx hb dX4_once_201 rfl (lv_at hl 2 rfl) ?_
                refine kd_callv (va_runV (As := [.int (nI i5)]) (rest := []) ⟨hx, hb, hml, hown, hts⟩ (k_solve4 l dC dI dA ad _ τ pv _ _ hI mm fa sa aa ia sf mb mr mk mi hW i5 (by omega) (by omega) x_32 w_34 (gr_36 rfl)) (cwV 1 hts gX4_once_X4_solve rfl rfl rfl (by decide +kernel) ⟨Nat.le_of_ble_eq_true rfl, Nat.le_of_ble_eq_true rfl⟩) (kd_preV hP hD hK hS hA hE hI hW.tm rfl rfl) rfl rfl hl.1 rfl (lv_room (Nat.le_of_ble_eq_true rfl)) dX4_once_202 ⟨Nat.le_of_ble_eq_true rfl, Nat.le_of_ble_eq_true rfl⟩) hD hS hA (fun u_38 H locs hw hP hD hS => ?_)
                have hI := hw
                refine lv_iinc (v := nI (i5 + 1)) (lv' := [(2, .int (nI (i5 + 1))), (0, .ref mm), (1, .int (nI i4))]) hx hb dX4_once_205 hl (k := 2) rfl (nI_add i5 1) (by decide) rfl (fun ls hl => ?_)
                refine lv_goto (tgt := 170) hx hb dX4_once_208 (by decide) ?_
                have hl : lv_has ls 3 [(0, .ref mm), (1, .int (nI i4)), (2, .int (nI (i5 + 1)))] := lv_sub hl [1, 2, 0] rfl
                exact ih170 (fun _ _ => .null) _ _ _ _ _ ⟨(i5 + 1), by omega, hI, hP, hD, hS, hl, by omega⟩
      · have n_39 : ¬ mr ≤ i3 := fun h9 => (show ¬ nI mr ≤ nI i3 from c_12) ((nI_leI (by omega) (by omega)).mpr h9)
        refine lv_aload_n hx hb dX4_once_79 rfl (lv_at hl 0 rfl) ?_
        refine lv_iload_n hx hb dX4_once_80 rfl (lv_at hl 1 rfl) ?_
        refine kd_calli (va_runV (As := [.int (nI i3)]) (rest := []) ⟨hx, hb, hml, hown, hts⟩ (k_takes l dC dI dA ad _ τ pv _ _ hI mm fa sa aa ia sf mb mr mk mi hW i3 (by omega)) (cwV 1 hts gX4_once_X4_takesPart rfl rfl rfl (by decide +kernel) ⟨Nat.le_of_ble_eq_true rfl, Nat.le_of_ble_eq_true rfl⟩) (kd_preV hP hD hK hS hA hE hI hW.tm rfl rfl) rfl rfl hl.1 rfl (lv_room (Nat.le_of_ble_eq_true rfl)) dX4_once_81 ⟨Nat.le_of_ble_eq_true rfl, Nat.le_of_ble_eq_true rfl⟩) hD hS hA (fun r_41 u_40 H locs hw hP hD hS => ?_)
        obtain ⟨hr_41, hI⟩ := hw
        refine lv_if_eq (tgt := 152) hx hb dX4_once_84 (by decide) (fun c_42 => ?_) (fun c_42 => ?_)
        · subst c_42
          refine lv_iinc (v := nI (i3 + 1)) (lv' := [(1, .int (nI (i3 + 1))), (0, .ref mm)]) hx hb dX4_once_152 hl (k := 1) rfl (nI_add i3 1) (by decide) rfl (fun ls hl => ?_)
          refine lv_goto (tgt := 71) hx hb dX4_once_155 (by decide) ?_
          have hl : lv_has ls 3 [(0, .ref mm), (1, .int (nI (i3 + 1)))] := lv_sub hl [1, 0] rfl
          exact ih71 (fun _ _ => .null) _ _ _ _ _ ⟨(i3 + 1), by omega, hI, hP, hD, hS, hl, by omega⟩
        · obtain rfl : r_41 = 1 := (hr_41).resolve_left c_42
          refine lv_aload_n hx hb dX4_once_87 rfl (lv_at hl 0 rfl) ?_
          refine kp_get hx hb hts i_X4 hown hK hP hI hW.tm rfl rfl 17 (by decide) (by decide) (hts (.fieldLink RX4 54 "IslandSolverModel" "impulses" "[F") (by decide +kernel)) (fun _ h9 => h9) dX4_once_88 (kq_P (v0 := .ref ia) rfl hW.p17 fun h_44 => ?_)
          refine lv_iload_n hx hb dX4_once_91 rfl (lv_at hl 1 rfl) ?_
          refine lv_aload_n hx hb dX4_once_92 rfl (lv_at hl 0 rfl) ?_
          refine lv_iload_n hx hb dX4_once_93 rfl (lv_at hl 1 rfl) ?_
          refine lv_aload_n hx hb dX4_once_94 rfl (lv_at hl 0 rfl) ?_
          refine kp_get hx hb hts i_X4 hown hK hP hI hW.tm rfl rfl 18 (by decide) (by decide) (hts (.fieldLink RX4 57 "IslandSolverModel" "stiff" "[F") (by decide +kernel)) (fun _ h9 => h9) dX4_once_95 (kq_P (v0 := .ref sf) rfl hW.p18 fun h_46 => ?_)
          refine lv_iload_n hx hb dX4_once_98 rfl (lv_at hl 1 rfl) ?_
          have hj_47 : i3 < τ 3 sf := by rw [show τ 3 sf = 1024 from (hI.arr hW.tsf rfl).2.1]; omega
          refine W.eq (g2 := F0 m 99 ls (.int (nI (i3)) :: .ref sf :: [.int (nI i3), .ref mm, .int (nI i3), .ref ia])) rfl ?_
          refine kp_fald (j := i3) hx hb hK hP hI hW.tsf rfl hj_47 dX4_once_99 (ka_LF fun x_48 w_50 h_49 => ?_)
          refine kd_calli (va_runV (As := [.int (nI i3), .float x_48]) (rest := [.int (nI i3), .ref ia]) ⟨hx, hb, hml, hown, hts⟩ (k_dead4 l dC dI dA ad _ τ pv _ _ hI mm fa sa aa ia sf mb mr mk mi hW i3 (by omega) x_48 h_49) (cwV 2 hts gX4_once_X4_dead rfl rfl rfl (by decide +kernel) ⟨Nat.le_of_ble_eq_true rfl, Nat.le_of_ble_eq_true rfl⟩) (kd_preV hP hD hK hS hA hE hI hW.tm rfl rfl) rfl rfl hl.1 rfl (lv_room (Nat.le_of_ble_eq_true rfl)) dX4_once_100 ⟨Nat.le_of_ble_eq_true rfl, Nat.le_of_ble_eq_true rfl⟩) hD hS hA (fun r_52 u_51 H locs hw hP hD hS => ?_)
          obtain ⟨hr_52, gr_52, hI⟩ := hw
          refine lv_if_eq (tgt := 110) hx hb dX4_once_103 (by decide) (fun c_53 => ?_) (fun c_53 => ?_)
          · subst c_53
            refine lv_aload_n hx hb dX4_once_110 rfl (lv_at hl 0 rfl) ?_
            refine lv_iload_n hx hb dX4_once_111 rfl (lv_at hl 1 rfl) ?_
            refine lv_aload_n hx hb dX4_once_112 rfl (lv_at hl 0 rfl) ?_
            refine kp_get hx hb hts i_X4 hown hK hP hI hW.tm rfl rfl 17 (by decide) (by decide) (hts (.fieldLink RX4 54 "IslandSolverModel" "impulses" "[F") (by decide +kernel)) (fun _ h9 => h9) dX4_once_113 (kq_P (v0 := .ref ia) rfl hW.p17 fun h_55 => ?_)
            refine lv_iload_n hx hb dX4_once_116 rfl (lv_at hl 1 rfl) ?_
            have hj_56 : i3 < τ 3 ia := by rw [show τ 3 ia = 1024 from (hI.arr hW.ti rfl).2.1]; omega
            refine W.eq (g2 := F0 m 117 ls (.int (nI (i3)) :: .ref ia :: [.int (nI i3), .ref mm, .int (nI i3), .ref ia])) rfl ?_
            refine kp_fald (j := i3) hx hb hK hP hI hW.ti rfl hj_56 dX4_once_117 (ka_29 fun x_57 h_58 h_58_2 => ?_)
            refine lv_aload_n hx hb dX4_once_118 rfl (lv_at hl 0 rfl) ?_
            refine kp_get hx hb hts i_X4 hown hK hP hI hW.tm rfl rfl 23 (by decide) (by decide) (hts (.fieldLink RX4 70 "IslandSolverModel" "warm" "F") (by decide +kernel)) (fun _ h9 => h9) dX4_once_119 (kq_FE (cd := 1065353216) (by decide) fun x_59 h_60_e h_60 => ?_)
            refine kw_fmul (M := 1224736768) hx hb dX4_once_122 h_58 h_60 (by decide) (by decide) (by decide +kernel) (by decide) (fun z_61 hz_62 => ?_)
            refine kd_callf (va_runV (As := [.int (nI i3), .float z_61]) (rest := [.int (nI i3), .ref ia]) ⟨hx, hb, hml, hown, hts⟩ (k_limited l dC dI dA ad _ τ pv _ _ hI mm fa sa aa ia sf mb mr mk mi hW i3 (by omega) (by omega) 1224736768 z_61 hz_62 (by decide)) (cwV 2 hts gX4_once_X4_limited rfl rfl rfl (by decide +kernel) ⟨Nat.le_of_ble_eq_true rfl, Nat.le_of_ble_eq_true rfl⟩) (kd_preV hP hD hK hS hA hE hI hW.tm rfl rfl) rfl rfl hl.1 rfl (lv_room (Nat.le_of_ble_eq_true rfl)) dX4_once_123 ⟨Nat.le_of_ble_eq_true rfl, Nat.le_of_ble_eq_true rfl⟩) hD hS hA (fun r_64 u_63 H locs hw hP hD hS => ?_)
            obtain ⟨hr_64, gr_64, hI⟩ := hw
            have hj_65 : i3 < τ 3 ia := by rw [show τ 3 ia = 1024 from (hI.arr hW.ti rfl).2.1]; omega
            refine W.eq (g2 := F0 m 126 ls (.float r_64 :: .int (nI (i3)) :: .ref ia :: [])) rfl ?_
            have h_66 : pv ia i3 = .int 0 → fb 1199570944 r_64 := fun h9 => by
              obtain ⟨_, _, t9, _, _, _, _, jt9, lt9, _⟩ := hW.rw (r := i3) (by omega)
              have h8 := hW.im (t := t9) (by omega) jt9 (by omega)
              cases t9 with
              | zero => exact gr_64 jt9
              | succ k9 => exact absurd (Value.int.inj (h8.symm.trans h9)) (show ¬ (1 : Int32) = 0 by decide)
            refine kp_fastX (pv' := pv) (j := i3) hx hb hK hP hD hS hI hW.ti rfl hj_65 (fun _ _ _ => rfl) (show kPr _ 1224736768 _ _ from (kv_F (by decide) hr_64)) (kPn_29 h_66) dX4_once_126 (fun f H locs hI hP hD hS => ?_)
            refine lv_aload_n hx hb dX4_once_127 rfl (lv_at hl 0 rfl) ?_
            refine lv_iload_n hx hb dX4_once_128 rfl (lv_at hl 1 rfl) ?_
            refine lv_aload_n hx hb dX4_once_129 rfl (lv_at hl 0 rfl) ?_
            refine kp_get hx hb hts i_X4 hown hK hP hI hW.tm rfl rfl 18 (by decide) (by decide) (hts (.fieldLink RX4 57 "IslandSolverModel" "stiff" "[F") (by decide +kernel)) (fun _ h9 => h9) dX4_once_130 (kq_P (v0 := .ref sf) rfl hW.p18 fun h_69 => ?_)
            refine lv_iload_n hx hb dX4_once_133 rfl (lv_at hl 1 rfl) ?_
            have hj_70 : i3 < τ 3 sf := by rw [show τ 3 sf = 1024 from (hI.arr hW.tsf rfl).2.1]; omega
            refine W.eq (g2 := F0 m 134 ls (.int (nI (i3)) :: .ref sf :: [.int (nI i3), .ref mm])) rfl ?_
            refine kp_fald (j := i3) hx hb hK hP hI hW.tsf rfl hj_70 dX4_once_134 (ka_LF fun x_71 w_73 h_72 => ?_)
            refine kd_calli (va_runV (As := [.int (nI i3), .float x_71]) (rest := []) ⟨hx, hb, hml, hown, hts⟩ (k_dead4 l dC dI dA ad _ τ pv _ _ hI mm fa sa aa ia sf mb mr mk mi hW i3 (by omega) x_71 h_72) (cwV 2 hts gX4_once_X4_dead rfl rfl rfl (by decide +kernel) ⟨Nat.le_of_ble_eq_true rfl, Nat.le_of_ble_eq_true rfl⟩) (kd_preV hP hD hK hS hA hE hI hW.tm rfl rfl) rfl rfl hl.1 rfl (lv_room (Nat.le_of_ble_eq_true rfl)) dX4_once_135 ⟨Nat.le_of_ble_eq_true rfl, Nat.le_of_ble_eq_true rfl⟩) hD hS hA (fun r_75 u_74 H locs hw hP hD hS => ?_)
            obtain ⟨hr_75, gr_75, hI⟩ := hw
            refine lv_if_ne (tgt := 152) hx hb dX4_once_138 (by decide) (fun c_76 => ?_) (fun c_76 => ?_)
            · obtain rfl : r_75 = 1 := (hr_75).resolve_left c_76
              refine lv_iinc (v := nI (i3 + 1)) (lv' := [(1, .int (nI (i3 + 1))), (0, .ref mm)]) hx hb dX4_once_152 hl (k := 1) rfl (nI_add i3 1) (by decide) rfl (fun ls hl => ?_)
              refine lv_goto (tgt := 71) hx hb dX4_once_155 (by decide) ?_
              have hl : lv_has ls 3 [(0, .ref mm), (1, .int (nI (i3 + 1)))] := lv_sub hl [1, 0] rfl
              exact ih71 (fun _ _ => .null) _ _ _ _ _ ⟨(i3 + 1), by omega, hI, hP, hD, hS, hl, by omega⟩
            · subst c_76
              refine lv_aload_n hx hb dX4_once_141 rfl (lv_at hl 0 rfl) ?_
              refine lv_iload_n hx hb dX4_once_142 rfl (lv_at hl 1 rfl) ?_
              refine lv_aload_n hx hb dX4_once_143 rfl (lv_at hl 0 rfl) ?_
              refine kp_get hx hb hts i_X4 hown hK hP hI hW.tm rfl rfl 17 (by decide) (by decide) (hts (.fieldLink RX4 54 "IslandSolverModel" "impulses" "[F") (by decide +kernel)) (fun _ h9 => h9) dX4_once_144 (kq_P (v0 := .ref ia) rfl hW.p17 fun h_78 => ?_)
              refine lv_iload_n hx hb dX4_once_147 rfl (lv_at hl 1 rfl) ?_
              have hj_79 : i3 < τ 3 ia := by rw [show τ 3 ia = 1024 from (hI.arr hW.ti rfl).2.1]; omega
              refine W.eq (g2 := F0 m 148 ls (.int (nI (i3)) :: .ref ia :: [.int (nI i3), .ref mm])) rfl ?_
              refine kp_fald (j := i3) hx hb hK hP hI hW.ti rfl hj_79 dX4_once_148 (ka_29 fun x_80 h_81 h_81_2 => ?_)
              refine kd_callv (va_runV (As := [.int (nI i3), .float x_80]) (rest := []) ⟨hx, hb, hml, hown, hts⟩ (k_apply4 l dC dI dA ad _ τ pv _ _ hI mm fa sa aa ia sf mb mr mk mi hW i3 (by omega) x_80 (fb_le h_81 (by decide))) (cwV 2 hts gX4_once_X4_apply rfl rfl rfl (by decide +kernel) ⟨Nat.le_of_ble_eq_true rfl, Nat.le_of_ble_eq_true rfl⟩) (kd_preV hP hD hK hS hA hE hI hW.tm rfl rfl) rfl rfl hl.1 rfl (lv_room (Nat.le_of_ble_eq_true rfl)) dX4_once_149 ⟨Nat.le_of_ble_eq_true rfl, Nat.le_of_ble_eq_true rfl⟩) hD hS hA (fun u_82 H locs hw hP hD hS => ?_)
              have hI := hw
              refine lv_iinc (v := nI (i3 + 1)) (lv' := [(1, .int (nI (i3 + 1))), (0, .ref mm)]) hx hb dX4_once_152 hl (k := 1) rfl (nI_add i3 1) (by decide) rfl (fun ls hl => ?_)
              refine lv_goto (tgt := 71) hx hb dX4_once_155 (by decide) ?_
              have hl : lv_has ls 3 [(0, .ref mm), (1, .int (nI (i3 + 1)))] := lv_sub hl [1, 0] rfl
              exact ih71 (fun _ _ => .null) _ _ _ _ _ ⟨(i3 + 1), by omega, hI, hP, hD, hS, hl, by omega⟩
          · obtain rfl : r_52 = 1 := (hr_52).resolve_left c_53
            refine lv_fconst0 hx hb dX4_once_106 ?_
            refine lv_goto (tgt := 126) hx hb dX4_once_107 (by decide) ?_
            have hj_83 : i3 < τ 3 ia := by rw [show τ 3 ia = 1024 from (hI.arr hW.ti rfl).2.1]; omega
            refine W.eq (g2 := F0 m 126 ls (.float FP.fconst0 :: .int (nI (i3)) :: .ref ia :: [])) rfl ?_
            refine kp_fastX (pv' := pv) (j := i3) hx hb hK hP hD hS hI hW.ti rfl hj_83 (fun _ _ _ => rfl) (show kPr _ 1224736768 _ _ from (kv_F (by decide) (fb_le kc_0 (by decide)))) (kPn_29 fun _ => (fb_le kc_0 (by decide))) dX4_once_126 (fun f H locs hI hP hD hS => ?_)
            refine lv_aload_n hx hb dX4_once_127 rfl (lv_at hl 0 rfl) ?_
            refine lv_iload_n hx hb dX4_once_128 rfl (lv_at hl 1 rfl) ?_
            refine lv_aload_n hx hb dX4_once_129 rfl (lv_at hl 0 rfl) ?_
            refine kp_get hx hb hts i_X4 hown hK hP hI hW.tm rfl rfl 18 (by decide) (by decide) (hts (.fieldLink RX4 57 "IslandSolverModel" "stiff" "[F") (by decide +kernel)) (fun _ h9 => h9) dX4_once_130 (kq_P (v0 := .ref sf) rfl hW.p18 fun h_85 => ?_)
            refine lv_iload_n hx hb dX4_once_133 rfl (lv_at hl 1 rfl) ?_
            have hj_86 : i3 < τ 3 sf := by rw [show τ 3 sf = 1024 from (hI.arr hW.tsf rfl).2.1]; omega
            refine W.eq (g2 := F0 m 134 ls (.int (nI (i3)) :: .ref sf :: [.int (nI i3), .ref mm])) rfl ?_
            refine kp_fald (j := i3) hx hb hK hP hI hW.tsf rfl hj_86 dX4_once_134 (ka_LF fun x_87 w_89 h_88 => ?_)
            refine kd_calli (va_runV (As := [.int (nI i3), .float x_87]) (rest := []) ⟨hx, hb, hml, hown, hts⟩ (k_dead4 l dC dI dA ad _ τ pv _ _ hI mm fa sa aa ia sf mb mr mk mi hW i3 (by omega) x_87 h_88) (cwV 2 hts gX4_once_X4_dead rfl rfl rfl (by decide +kernel) ⟨Nat.le_of_ble_eq_true rfl, Nat.le_of_ble_eq_true rfl⟩) (kd_preV hP hD hK hS hA hE hI hW.tm rfl rfl) rfl rfl hl.1 rfl (lv_room (Nat.le_of_ble_eq_true rfl)) dX4_once_135 ⟨Nat.le_of_ble_eq_true rfl, Nat.le_of_ble_eq_true rfl⟩) hD hS hA (fun r_91 u_90 H locs hw hP hD hS => ?_)
            obtain ⟨hr_91, gr_91, hI⟩ := hw
            refine lv_if_ne (tgt := 152) hx hb dX4_once_138 (by decide) (fun c_92 => ?_) (fun c_92 => ?_)
            · obtain rfl : r_91 = 1 := (hr_91).resolve_left c_92
              refine lv_iinc (v := nI (i3 + 1)) (lv' := [(1, .int (nI (i3 + 1))), (0, .ref mm)]) hx hb dX4_once_152 hl (k := 1) rfl (nI_add i3 1) (by decide) rfl (fun ls hl => ?_)
              refine lv_goto (tgt := 71) hx hb dX4_once_155 (by decide) ?_
              have hl : lv_has ls 3 [(0, .ref mm), (1, .int (nI (i3 + 1)))] := lv_sub hl [1, 0] rfl
              exact ih71 (fun _ _ => .null) _ _ _ _ _ ⟨(i3 + 1), by omega, hI, hP, hD, hS, hl, by omega⟩
            · subst c_92
              refine lv_aload_n hx hb dX4_once_141 rfl (lv_at hl 0 rfl) ?_
              refine lv_iload_n hx hb dX4_once_142 rfl (lv_at hl 1 rfl) ?_
              refine lv_aload_n hx hb dX4_once_143 rfl (lv_at hl 0 rfl) ?_
              refine kp_get hx hb hts i_X4 hown hK hP hI hW.tm rfl rfl 17 (by decide) (by decide) (hts (.fieldLink RX4 54 "IslandSolverModel" "impulses" "[F") (by decide +kernel)) (fun _ h9 => h9) dX4_once_144 (kq_P (v0 := .ref ia) rfl hW.p17 fun h_94 => ?_)
              refine lv_iload_n hx hb dX4_once_147 rfl (lv_at hl 1 rfl) ?_
              have hj_95 : i3 < τ 3 ia := by rw [show τ 3 ia = 1024 from (hI.arr hW.ti rfl).2.1]; omega
              refine W.eq (g2 := F0 m 148 ls (.int (nI (i3)) :: .ref ia :: [.int (nI i3), .ref mm])) rfl ?_
              refine kp_fald (j := i3) hx hb hK hP hI hW.ti rfl hj_95 dX4_once_148 (ka_29 fun x_96 h_97 h_97_2 => ?_)
              refine kd_callv (va_runV (As := [.int (nI i3), .float x_96]) (rest := []) ⟨hx, hb, hml, hown, hts⟩ (k_apply4 l dC dI dA ad _ τ pv _ _ hI mm fa sa aa ia sf mb mr mk mi hW i3 (by omega) x_96 (fb_le h_97 (by decide))) (cwV 2 hts gX4_once_X4_apply rfl rfl rfl (by decide +kernel) ⟨Nat.le_of_ble_eq_true rfl, Nat.le_of_ble_eq_true rfl⟩) (kd_preV hP hD hK hS hA hE hI hW.tm rfl rfl) rfl rfl hl.1 rfl (lv_room (Nat.le_of_ble_eq_true rfl)) dX4_once_149 ⟨Nat.le_of_ble_eq_true rfl, Nat.le_of_ble_eq_true rfl⟩) hD hS hA (fun u_98 H locs hw hP hD hS => ?_)
              have hI := hw
              refine lv_iinc (v := nI (i3 + 1)) (lv' := [(1, .int (nI (i3 + 1))), (0, .ref mm)]) hx hb dX4_once_152 hl (k := 1) rfl (nI_add i3 1) (by decide) rfl (fun ls hl => ?_)
              refine lv_goto (tgt := 71) hx hb dX4_once_155 (by decide) ?_
              have hl : lv_has ls 3 [(0, .ref mm), (1, .int (nI (i3 + 1)))] := lv_sub hl [1, 0] rfl
              exact ih71 (fun _ _ => .null) _ _ _ _ _ ⟨(i3 + 1), by omega, hI, hP, hD, hS, hl, by omega⟩
    · have n_99 : ¬ mr ≤ i2 := fun h9 => (show ¬ nI mr ≤ nI i2 from c_8) ((nI_leI (by omega) (by omega)).mpr h9)
      refine lv_aload_n hx hb dX4_once_52 rfl (lv_at hl 0 rfl) ?_
      refine kp_get hx hb hts i_X4 hown hK hP hI hW.tm rfl rfl 18 (by decide) (by decide) (hts (.fieldLink RX4 57 "IslandSolverModel" "stiff" "[F") (by decide +kernel)) (fun _ h9 => h9) dX4_once_53 (kq_P (v0 := .ref sf) rfl hW.p18 fun h_101 => ?_)
      refine lv_iload_n hx hb dX4_once_56 rfl (lv_at hl 1 rfl) ?_
      refine lv_aload_n hx hb dX4_once_57 rfl (lv_at hl 0 rfl) ?_
      refine lv_iload_n hx hb dX4_once_58 rfl (lv_at hl 1 rfl) ?_
      refine kd_callf (va_runV (As := [.int (nI i2)]) (rest := [.int (nI i2), .ref sf]) ⟨hx, hb, hml, hown, hts⟩ (k_stiff4 l dC dI dA ad _ τ pv _ _ hI mm fa sa aa ia sf mb mr mk mi hW i2 (by omega)) (cwV 1 hts gX4_once_X4_stiffness rfl rfl rfl (by decide +kernel) ⟨Nat.le_of_ble_eq_true rfl, Nat.le_of_ble_eq_true rfl⟩) (kd_preV hP hD hK hS hA hE hI hW.tm rfl rfl) rfl rfl hl.1 rfl (lv_room (Nat.le_of_ble_eq_true rfl)) dX4_once_59 ⟨Nat.le_of_ble_eq_true rfl, Nat.le_of_ble_eq_true rfl⟩) hD hS hA (fun r_103 u_102 H locs hw hP hD hS => ?_)
      obtain ⟨hr_103, hI⟩ := hw
      have hj_104 : i2 < τ 3 sf := by rw [show τ 3 sf = 1024 from (hI.arr hW.tsf rfl).2.1]; omega
      refine W.eq (g2 := F0 m 62 ls (.float r_103 :: .int (nI (i2)) :: .ref sf :: [])) rfl ?_
      refine kp_fastX (pv' := (kup pv sf (i2) (.float r_103))) (j := i2) hx hb hK hP hD hS hI hW.tsf rfl hj_104 (fun _ _ h9 => kup_ne h9) (show kPr _ 1241513984 _ _ from (kv_F (by decide) hr_103)) ((kPn_pin rfl).mpr kup_self.symm) dX4_once_62 (fun f H locs hI hP hD hS => ?_)
      have hF := hF.trans (kFr.up (P := kPq) (w := .float r_103) (k := i2) hW.tsf rfl)
      have hW := hW.frw (kFr.up (P := kPy mr) (w := .float r_103) (k := i2) hW.tsf rfl)
      refine lv_iinc (v := nI (i2 + 1)) (lv' := [(1, .int (nI (i2 + 1))), (0, .ref mm)]) hx hb dX4_once_63 hl (k := 1) rfl (nI_add i2 1) (by decide) rfl (fun ls hl => ?_)
      refine lv_goto (tgt := 44) hx hb dX4_once_66 (by decide) ?_
      have hl : lv_has ls 3 [(0, .ref mm), (1, .int (nI (i2 + 1)))] := lv_sub hl [1, 0] rfl
      exact ih44 ((kup pv sf (i2) (.float r_103))) _ _ _ _ _ ⟨(i2 + 1), by omega, hI, hP, hD, hS, hl, hF, hW, by omega⟩
  · have n_105 : ¬ mb ≤ i := fun h9 => (show ¬ nI mb ≤ nI i from c_4) ((nI_leI (by omega) (by omega)).mpr h9)
    refine lv_aload_n hx hb dX4_once_14 rfl (lv_at hl 0 rfl) ?_
    refine lv_iload_n hx hb dX4_once_15 rfl (lv_at hl 1 rfl) ?_
    refine kd_calli (va_runV (As := [.int (nI i)]) (rest := []) ⟨hx, hb, hml, hown, hts⟩ (k_upN l dC dI dA ad _ τ pv _ _ hI mm fa sa aa ia sf mb mr mk mi hW i (by omega)) (cwV 1 hts gX4_once_X4_up rfl rfl rfl (by decide +kernel) ⟨Nat.le_of_ble_eq_true rfl, Nat.le_of_ble_eq_true rfl⟩) (kd_preV hP hD hK hS hA hE hI hW.tm rfl rfl) rfl rfl hl.1 rfl (lv_room (Nat.le_of_ble_eq_true rfl)) dX4_once_16 ⟨Nat.le_of_ble_eq_true rfl, Nat.le_of_ble_eq_true rfl⟩) hD hS hA (fun r_107 u_106 H locs hw hP hD hS => ?_)
    obtain ⟨hr_107, hI⟩ := hw
    refine lv_if_eq (tgt := 36) hx hb dX4_once_19 (by decide) (fun c_108 => ?_) (fun c_108 => ?_)
    · subst c_108
      refine lv_iinc (v := nI (i + 1)) (lv' := [(1, .int (nI (i + 1))), (0, .ref mm)]) hx hb dX4_once_36 hl (k := 1) rfl (nI_add i 1) (by decide) rfl (fun ls hl => ?_)
      refine lv_goto (tgt := 6) hx hb dX4_once_39 (by decide) ?_
      have hl : lv_has ls 3 [(0, .ref mm), (1, .int (nI (i + 1)))] := lv_sub hl [1, 0] rfl
      exact ih6 (fun _ _ => .null) _ _ _ _ _ ⟨(i + 1), by omega, hI, hP, hD, hS, hl, by omega⟩
    · obtain rfl : r_107 = 1 := (hr_107).resolve_left c_108
      refine lv_aload_n hx hb dX4_once_22 rfl (lv_at hl 0 rfl) ?_
      refine kp_get hx hb hts i_X4 hown hK hP hI hW.tm rfl rfl 3 (by decide) (by decide) (hts (.fieldLink RX4 13 "IslandSolverModel" "asleep" "[Z") (by decide +kernel)) (fun _ h9 => h9) dX4_once_23 (kq_RE 16 (by decide) fun x_109 h_110_e h_110 => ?_)
      refine lv_iload_n hx hb dX4_once_26 rfl (lv_at hl 1 rfl) ?_
      have hj_111 : i < τ 3 x_109 := by rw [show τ 3 x_109 = 256 from (hI.arr h_110 rfl).2.1]; omega
      refine W.eq (g2 := F0 m 27 ls (.int (nI (i)) :: .ref x_109 :: [])) rfl ?_
      refine kp_zald (j := i) hx hb hK hP hI h_110 rfl hj_111 dX4_once_27 (ka_Z fun x_112 h_113 => ?_)
      refine lv_if_eq (tgt := 36) hx hb dX4_once_28 (by decide) (fun c_114 => ?_) (fun c_114 => ?_)
      · subst c_114
        refine lv_iinc (v := nI (i + 1)) (lv' := [(1, .int (nI (i + 1))), (0, .ref mm)]) hx hb dX4_once_36 hl (k := 1) rfl (nI_add i 1) (by decide) rfl (fun ls hl => ?_)
        refine lv_goto (tgt := 6) hx hb dX4_once_39 (by decide) ?_
        have hl : lv_has ls 3 [(0, .ref mm), (1, .int (nI (i + 1)))] := lv_sub hl [1, 0] rfl
        exact ih6 (fun _ _ => .null) _ _ _ _ _ ⟨(i + 1), by omega, hI, hP, hD, hS, hl, by omega⟩
      · obtain rfl : x_112 = 1 := (h_113).resolve_left c_114
        refine lv_aload_n hx hb dX4_once_31 rfl (lv_at hl 0 rfl) ?_
        refine lv_iload_n hx hb dX4_once_32 rfl (lv_at hl 1 rfl) ?_
        refine kd_callv (va_runV (As := [.int (nI i)]) (rest := []) ⟨hx, hb, hml, hown, hts⟩ (k_rouse4 l dC dI dA ad _ τ pv _ _ hI mm fa sa aa ia sf mb mr mk mi hW i (by omega)) (cwV 1 hts gX4_once_X4_rouse rfl rfl rfl (by decide +kernel) ⟨Nat.le_of_ble_eq_true rfl, Nat.le_of_ble_eq_true rfl⟩) (kd_preV hP hD hK hS hA hE hI hW.tm rfl rfl) rfl rfl hl.1 rfl (lv_room (Nat.le_of_ble_eq_true rfl)) dX4_once_33 ⟨Nat.le_of_ble_eq_true rfl, Nat.le_of_ble_eq_true rfl⟩) hD hS hA (fun u_115 H locs hw hP hD hS => ?_)
        have hI := hw
        refine lv_iinc (v := nI (i + 1)) (lv' := [(1, .int (nI (i + 1))), (0, .ref mm)]) hx hb dX4_once_36 hl (k := 1) rfl (nI_add i 1) (by decide) rfl (fun ls hl => ?_)
        refine lv_goto (tgt := 6) hx hb dX4_once_39 (by decide) ?_
        have hl : lv_has ls 3 [(0, .ref mm), (1, .int (nI (i + 1)))] := lv_sub hl [1, 0] rfl
        exact ih6 (fun _ _ => .null) _ _ _ _ _ ⟨(i + 1), by omega, hI, hP, hD, hS, hl, by omega⟩
set_option maxHeartbeats 4000000 in
set_option maxRecDepth 100000 in
theorem k_rowsOf (l : Launch) (dC : Nat → ClassId) (dI : Nat → Nat → Nat) (dA : Nat → ClassId) (ad sz : Nat) (τ : Nat → Nat → Nat) (pv : Nat → Nat → Value) (L : List Nat) (f : Nat → va_E) (hI : kI dA τ pv L f) (mm fa sa aa ia sf mb mr mk mi : Nat) (hW : kMd τ pv mm fa sa aa ia sf mb mr mk mi) (b : Nat) (hb9 : b < 256) : Met l yX4_rowsOf wsX4_rowsOf ({ frames := 0, cells := 0, slots := 0, locals := 0 } : Room) (va_Pc [.ref mm, .int (nI b)] (kB dC dI dA ad sz L f)) (va_Qi (fun r u => kI dA τ pv u.1 u.2) (kR dC dI dA (va_A (va_pl L f) sz)) (va_A (va_pl L f) sz)) 0 0 (va_A (va_pl L f) sz) := by
  refine Met.ofW (cc := cX4_rowsOf) (maxL := 4) (ret := (some .int)) (by decide) rfl ?_
  intro p e s m args below meth c s₁ B hml hv
  obtain ⟨rfl, hsz, hP, hK, hD0, hE⟩ := hv
  have hx := B.exec
  have hb := B.bytes
  have hr := B.returns
  have hts := atoms_spec (ws := wsX4_rowsOf) B.pre
  have hown : s.vm.findClass RX4 = some m.cls := findClass_of_methodNamed B.named
  have hlocks := B.notSynchronized
  have i_X4 : ∀ w ∈ u_ws RX4 TX4 35, w ∈ wsX4_rowsOf := by decide +kernel
  subst hsz
  have hD := hD0.self (sz := s.heap.size)
  generalize hAe : va_A (va_pl L f) s.heap.size = A at hD hE ⊢
  have hA : ∀ q : Nat, s.heap.size ≤ q → A q := fun q h => by rw [← hAe]; exact Or.inr h
  have hS : va_S A s.heap s.heap [] := va_S.rf
  have hP : va_P (dC, dI) vwCl (va_pl L f) s.heap := hP
  have hK : va_K (dC, dI) vwCl (tyA dA) s := hK
  have hl := lv_entry ([.ref mm, .int (nI b)]) (n := 4) (Nat.le_of_ble_eq_true rfl)
  rw [lg_entry_eq]
  generalize (lg_sl ([.ref mm, .int (nI b)]) ++ List.replicate (4 - (lg_sl ([.ref mm, .int (nI b)])).length) Slot.unset).toArray = ls at hl ⊢
  have hl : lv_has ls 4 [(0, .ref mm), (1, .int (nI b))] := hl
  have hnb := hW.lb
  have hnr := hW.lr
  have hnk := hW.lk
  have hni := hW.li
  refine lv_iconst (v := 0) hx hb dX4_rowsOf_0 (by decide) ?_
  refine lv_istore_n (lv' := [(2, .int 0), (0, .ref mm), (1, .int (nI b))]) hx hb dX4_rowsOf_1 rfl hl (by decide) rfl (fun ls hl => ?_)
  refine lv_iconst (v := 0) hx hb dX4_rowsOf_2 (by decide) ?_
  refine lv_istore_n (lv' := [(3, .int 0), (2, .int 0), (0, .ref mm), (1, .int (nI b))]) hx hb dX4_rowsOf_3 rfl hl (by decide) rfl (fun ls hl => ?_)
  have hl : lv_has ls 4 [(0, .ref mm), (1, .int (nI b)), (2, .int 0), (3, .int 0)] := lv_sub hl [2, 3, 1, 0] rfl
  refine kl_loop (Inv := fun n4 _ L f H locs ls => ∃ (i : Nat) (c8 : Int32), mr - i < n4 ∧ kI dA τ pv L f ∧ va_P (dC, dI) vwCl (va_pl L f) H ∧ va_D A (va_pl L f) ∧ va_S A s.heap H locs ∧ lv_has ls 4 [(0, .ref mm), (1, .int (nI b)), (2, .int c8), (3, .int (nI i))] ∧ i ≤ mr) (fun _ _ _ _ _ _ h9 => by obtain ⟨_, _, hn, _⟩ := h9; exact Nat.not_lt_zero _ hn) (fun n4 ih4 _ L f H locs ls h9 => ?_) (mr - 0 + 1) (fun _ _ => .null) _ _ _ _ _ ⟨0, 0, Nat.lt_succ_self _, hI, hP, hD, hS, hl, Nat.zero_le _⟩
  obtain ⟨i, c8, hn4, hI, hP, hD, hS, hl, hib⟩ := h9
  refine lv_iload_n hx hb dX4_rowsOf_4 rfl (lv_at hl 3 rfl) ?_
  refine lv_aload_n hx hb dX4_rowsOf_5 rfl (lv_at hl 0 rfl) ?_
  refine kp_get hx hb hts i_X4 hown hK hP hI hW.tm rfl rfl 6 (by decide) (by decide) (hts (.fieldLink RX4 129 "IslandSolverModel" "rows" "I") (by decide +kernel)) (fun _ h9 => h9) dX4_rowsOf_6 (kq_P (v0 := .int (nI mr)) rfl hW.p6 fun h_2 => ?_)
  refine lv_icmp_ge (tgt := 46) hx hb dX4_rowsOf_9 (by decide) (fun c_3 => ?_) (fun c_3 => ?_)
  · have n_4 : mr ≤ i := (nI_leI (by omega) (by omega)).mp (show nI mr ≤ nI i from c_3)
    refine lv_iload_n hx hb dX4_rowsOf_46 rfl (lv_at hl 2 rfl) ?_
    refine W.widen (k := 0) (n := 0) (Nat.le_of_ble_eq_true rfl) (Nat.le_of_ble_eq_true rfl) ?_
    exact W.iret (v := c8) hx hb hr (fun t ht hW9 => ⟨⟨c8, (L, f), rfl, hI, by rw [ht]; exact hP, va_K.moved hW9.alike hK, hD⟩, hS.F ht⟩) hS.2.2 dX4_rowsOf_47
  · have n_5 : ¬ mr ≤ i := fun h9 => (show ¬ nI mr ≤ nI i from c_3) ((nI_leI (by omega) (by omega)).mpr h9)
    refine lv_aload_n hx hb dX4_rowsOf_12 rfl (lv_at hl 0 rfl) ?_
    refine kp_get hx hb hts i_X4 hown hK hP hI hW.tm rfl rfl 7 (by decide) (by decide) (hts (.fieldLink RX4 24 "IslandSolverModel" "firsts" "[I") (by decide +kernel)) (fun _ h9 => h9) dX4_rowsOf_13 (kq_P (v0 := .ref fa) rfl hW.p7 fun h_7 => ?_)
    refine lv_iload_n hx hb dX4_rowsOf_16 rfl (lv_at hl 3 rfl) ?_
    have hj_8 : i < τ 3 fa := by rw [show τ 3 fa = 1024 from (hI.arr hW.tf rfl).2.1]; omega
    refine W.eq (g2 := F0 m 17 ls (.int (nI (i)) :: .ref fa :: [])) rfl ?_
    obtain ⟨ra11, rb11, rt11, ja11, la11, jb11, lb11, jt11, lt11, kt11⟩ := hW.rw (r := i) (by omega)
    refine kp_iald (j := i) hx hb hK hP hI hW.tf rfl hj_8 dX4_rowsOf_17 (ka_P (x0 := nI ra11) rfl ja11 ?_)
    refine lv_iload_n hx hb dX4_rowsOf_18 rfl (lv_at hl 1 rfl) ?_
    refine lv_icmp_eq (tgt := 32) hx hb dX4_rowsOf_19 (by decide) (fun c_12 => ?_) (fun c_12 => ?_)
    · have n_13 : ra11 = b := (nI_eq (by omega) (by omega)).mp (show nI ra11 = nI b from c_12)
      refine lv_iload_n hx hb dX4_rowsOf_32 rfl (lv_at hl 2 rfl) ?_
      refine lv_iconst (v := 1) hx hb dX4_rowsOf_33 (by decide) ?_
      refine lv_iadd hx hb dX4_rowsOf_34 ?_
      refine lv_topi (fun x_14 ex_14 => ?_)
      refine lv_goto (tgt := 39) hx hb dX4_rowsOf_35 (by decide) ?_
      refine lv_istore_n (lv' := [(2, .int x_14), (0, .ref mm), (1, .int (nI b)), (3, .int (nI i))]) hx hb dX4_rowsOf_39 rfl hl (by decide) rfl (fun ls hl => ?_)
      refine lv_iinc (v := nI (i + 1)) (lv' := [(3, .int (nI (i + 1))), (2, .int x_14), (0, .ref mm), (1, .int (nI b))]) hx hb dX4_rowsOf_40 hl (k := 3) rfl (nI_add i 1) (by decide) rfl (fun ls hl => ?_)
      refine lv_goto (tgt := 4) hx hb dX4_rowsOf_43 (by decide) ?_
      have hl : lv_has ls 4 [(0, .ref mm), (1, .int (nI b)), (2, .int x_14), (3, .int (nI (i + 1)))] := lv_sub hl [2, 3, 1, 0] rfl
      exact ih4 (fun _ _ => .null) _ _ _ _ _ ⟨(i + 1), x_14, by omega, hI, hP, hD, hS, hl, by omega⟩
    · have n_15 : ¬ ra11 = b := fun h9 => (show ¬ nI ra11 = nI b from c_12) ((nI_eq (by omega) (by omega)).mpr h9)
      refine lv_aload_n hx hb dX4_rowsOf_22 rfl (lv_at hl 0 rfl) ?_
      refine kp_get hx hb hts i_X4 hown hK hP hI hW.tm rfl rfl 8 (by decide) (by decide) (hts (.fieldLink RX4 27 "IslandSolverModel" "seconds" "[I") (by decide +kernel)) (fun _ h9 => h9) dX4_rowsOf_23 (kq_P (v0 := .ref sa) rfl hW.p8 fun h_17 => ?_)
      refine lv_iload_n hx hb dX4_rowsOf_26 rfl (lv_at hl 3 rfl) ?_
      have hj_18 : i < τ 3 sa := by rw [show τ 3 sa = 1024 from (hI.arr hW.ts rfl).2.1]; omega
      refine W.eq (g2 := F0 m 27 ls (.int (nI (i)) :: .ref sa :: [])) rfl ?_
      rcases rb11 with _ | rb11_2
      · refine kp_iald (j := i) hx hb hK hP hI hW.ts rfl hj_18 dX4_rowsOf_27 (ka_P (x0 := (-1)) rfl jb11 ?_)
        refine lv_iload_n hx hb dX4_rowsOf_28 rfl (lv_at hl 1 rfl) ?_
        refine lv_icmp_ne (tgt := 38) hx hb dX4_rowsOf_29 (by decide) (fun c_21 => ?_) (fun c_21 => ?_)
        · refine lv_iload_n hx hb dX4_rowsOf_38 rfl (lv_at hl 2 rfl) ?_
          refine lv_istore_n (lv' := [(2, .int c8), (0, .ref mm), (1, .int (nI b)), (3, .int (nI i))]) hx hb dX4_rowsOf_39 rfl hl (by decide) rfl (fun ls hl => ?_)
          refine lv_iinc (v := nI (i + 1)) (lv' := [(3, .int (nI (i + 1))), (2, .int c8), (0, .ref mm), (1, .int (nI b))]) hx hb dX4_rowsOf_40 hl (k := 3) rfl (nI_add i 1) (by decide) rfl (fun ls hl => ?_)
          refine lv_goto (tgt := 4) hx hb dX4_rowsOf_43 (by decide) ?_
          have hl : lv_has ls 4 [(0, .ref mm), (1, .int (nI b)), (2, .int c8), (3, .int (nI (i + 1)))] := lv_sub hl [2, 3, 1, 0] rfl
          exact ih4 (fun _ _ => .null) _ _ _ _ _ ⟨(i + 1), c8, by omega, hI, hP, hD, hS, hl, by omega⟩
        · refine lv_iload_n hx hb dX4_rowsOf_32 rfl (lv_at hl 2 rfl) ?_
          refine lv_iconst (v := 1) hx hb dX4_rowsOf_33 (by decide) ?_
          refine lv_iadd hx hb dX4_rowsOf_34 ?_
          refine lv_topi (fun x_22 ex_22 => ?_)
          refine lv_goto (tgt := 39) hx hb dX4_rowsOf_35 (by decide) ?_
          refine lv_istore_n (lv' := [(2, .int x_22), (0, .ref mm), (1, .int (nI b)), (3, .int (nI i))]) hx hb dX4_rowsOf_39 rfl hl (by decide) rfl (fun ls hl => ?_)
          refine lv_iinc (v := nI (i + 1)) (lv' := [(3, .int (nI (i + 1))), (2, .int x_22), (0, .ref mm), (1, .int (nI b))]) hx hb dX4_rowsOf_40 hl (k := 3) rfl (nI_add i 1) (by decide) rfl (fun ls hl => ?_)
          refine lv_goto (tgt := 4) hx hb dX4_rowsOf_43 (by decide) ?_
          have hl : lv_has ls 4 [(0, .ref mm), (1, .int (nI b)), (2, .int x_22), (3, .int (nI (i + 1)))] := lv_sub hl [2, 3, 1, 0] rfl
          exact ih4 (fun _ _ => .null) _ _ _ _ _ ⟨(i + 1), x_22, by omega, hI, hP, hD, hS, hl, by omega⟩
      · refine kp_iald (j := i) hx hb hK hP hI hW.ts rfl hj_18 dX4_rowsOf_27 (ka_P (x0 := (nI rb11_2)) rfl jb11 ?_)
        refine lv_iload_n hx hb dX4_rowsOf_28 rfl (lv_at hl 1 rfl) ?_
        refine lv_icmp_ne (tgt := 38) hx hb dX4_rowsOf_29 (by decide) (fun c_23 => ?_) (fun c_23 => ?_)
        · have n_24 : ¬ rb11_2 = b := fun h9 => (show ¬ nI rb11_2 = nI b from c_23) ((nI_eq (by omega) (by omega)).mpr h9)
          refine lv_iload_n hx hb dX4_rowsOf_38 rfl (lv_at hl 2 rfl) ?_
          refine lv_istore_n (lv' := [(2, .int c8), (0, .ref mm), (1, .int (nI b)), (3, .int (nI i))]) hx hb dX4_rowsOf_39 rfl hl (by decide) rfl (fun ls hl => ?_)
          refine lv_iinc (v := nI (i + 1)) (lv' := [(3, .int (nI (i + 1))), (2, .int c8), (0, .ref mm), (1, .int (nI b))]) hx hb dX4_rowsOf_40 hl (k := 3) rfl (nI_add i 1) (by decide) rfl (fun ls hl => ?_)
          refine lv_goto (tgt := 4) hx hb dX4_rowsOf_43 (by decide) ?_
          have hl : lv_has ls 4 [(0, .ref mm), (1, .int (nI b)), (2, .int c8), (3, .int (nI (i + 1)))] := lv_sub hl [2, 3, 1, 0] rfl
          exact ih4 (fun _ _ => .null) _ _ _ _ _ ⟨(i + 1), c8, by omega, hI, hP, hD, hS, hl, by omega⟩
        · have n_25 : rb11_2 = b := (nI_eq (by omega) (by omega)).mp (show nI rb11_2 = nI b from c_23)
          refine lv_iload_n hx hb dX4_rowsOf_32 rfl (lv_at hl 2 rfl) ?_
          refine lv_iconst (v := 1) hx hb dX4_rowsOf_33 (by decide) ?_
          refine lv_iadd hx hb dX4_rowsOf_34 ?_
          refine lv_topi (fun x_26 ex_26 => ?_)
          refine lv_goto (tgt := 39) hx hb dX4_rowsOf_35 (by decide) ?_
          refine lv_istore_n (lv' := [(2, .int x_26), (0, .ref mm), (1, .int (nI b)), (3, .int (nI i))]) hx hb dX4_rowsOf_39 rfl hl (by decide) rfl (fun ls hl => ?_)
          refine lv_iinc (v := nI (i + 1)) (lv' := [(3, .int (nI (i + 1))), (2, .int x_26), (0, .ref mm), (1, .int (nI b))]) hx hb dX4_rowsOf_40 hl (k := 3) rfl (nI_add i 1) (by decide) rfl (fun ls hl => ?_)
          refine lv_goto (tgt := 4) hx hb dX4_rowsOf_43 (by decide) ?_
          have hl : lv_has ls 4 [(0, .ref mm), (1, .int (nI b)), (2, .int x_26), (3, .int (nI (i + 1)))] := lv_sub hl [2, 3, 1, 0] rfl
          exact ih4 (fun _ _ => .null) _ _ _ _ _ ⟨(i + 1), x_26, by omega, hI, hP, hD, hS, hl, by omega⟩
set_option maxHeartbeats 4000000 in
set_option maxRecDepth 100000 in
theorem k_deadR4 (l : Launch) (dC : Nat → ClassId) (dI : Nat → Nat → Nat) (dA : Nat → ClassId) (ad sz : Nat) (τ : Nat → Nat → Nat) (pv : Nat → Nat → Value) (L : List Nat) (f : Nat → va_E) (hI : kI dA τ pv L f) (mm fa sa aa ia sf mb mr mk mi : Nat) (hW : kMd τ pv mm fa sa aa ia sf mb mr mk mi)  : Met l yX4_deadRows wsX4_deadRows ({ frames := 3, cells := 0, slots := 0, locals := 75 } : Room) (va_Pc [.ref mm] (kB dC dI dA ad sz L f)) (va_Qi (fun r u => kI dA τ pv u.1 u.2) (kR dC dI dA (va_A (va_pl L f) sz)) (va_A (va_pl L f) sz)) 0 0 (va_A (va_pl L f) sz) := by
  refine Met.ofW (cc := cX4_deadRows) (maxL := 3) (ret := (some .int)) (by decide) rfl ?_
  intro p e s m args below meth c s₁ B hml hv
  obtain ⟨rfl, hsz, hP, hK, hD0, hE⟩ := hv
  have hx := B.exec
  have hb := B.bytes
  have hr := B.returns
  have hts := atoms_spec (ws := wsX4_deadRows) B.pre
  have hown : s.vm.findClass RX4 = some m.cls := findClass_of_methodNamed B.named
  have hlocks := B.notSynchronized
  have i_X4 : ∀ w ∈ u_ws RX4 TX4 35, w ∈ wsX4_deadRows := by decide +kernel
  subst hsz
  have hD := hD0.self (sz := s.heap.size)
  generalize hAe : va_A (va_pl L f) s.heap.size = A at hD hE ⊢
  have hA : ∀ q : Nat, s.heap.size ≤ q → A q := fun q h => by rw [← hAe]; exact Or.inr h
  have hS : va_S A s.heap s.heap [] := va_S.rf
  have hP : va_P (dC, dI) vwCl (va_pl L f) s.heap := hP
  have hK : va_K (dC, dI) vwCl (tyA dA) s := hK
  have hl := lv_entry ([.ref mm]) (n := 3) (Nat.le_of_ble_eq_true rfl)
  rw [lg_entry_eq]
  generalize (lg_sl ([.ref mm]) ++ List.replicate (3 - (lg_sl ([.ref mm])).length) Slot.unset).toArray = ls at hl ⊢
  have hl : lv_has ls 3 [(0, .ref mm)] := hl
  have hnb := hW.lb
  have hnr := hW.lr
  have hnk := hW.lk
  have hni := hW.li
  refine lv_iconst (v := 0) hx hb dX4_deadRows_0 (by decide) ?_
  refine lv_istore_n (lv' := [(1, .int 0), (0, .ref mm)]) hx hb dX4_deadRows_1 rfl hl (by decide) rfl (fun ls hl => ?_)
  refine lv_iconst (v := 0) hx hb dX4_deadRows_2 (by decide) ?_
  refine lv_istore_n (lv' := [(2, .int 0), (1, .int 0), (0, .ref mm)]) hx hb dX4_deadRows_3 rfl hl (by decide) rfl (fun ls hl => ?_)
  have hl : lv_has ls 3 [(0, .ref mm), (1, .int 0), (2, .int 0)] := lv_sub hl [2, 1, 0] rfl
  refine kl_loop (Inv := fun n4 _ L f H locs ls => ∃ (i : Nat) (c8 : Int32), mr - i < n4 ∧ kI dA τ pv L f ∧ va_P (dC, dI) vwCl (va_pl L f) H ∧ va_D A (va_pl L f) ∧ va_S A s.heap H locs ∧ lv_has ls 3 [(0, .ref mm), (1, .int c8), (2, .int (nI i))] ∧ i ≤ mr) (fun _ _ _ _ _ _ h9 => by obtain ⟨_, _, hn, _⟩ := h9; exact Nat.not_lt_zero _ hn) (fun n4 ih4 _ L f H locs ls h9 => ?_) (mr - 0 + 1) (fun _ _ => .null) _ _ _ _ _ ⟨0, 0, Nat.lt_succ_self _, hI, hP, hD, hS, hl, Nat.zero_le _⟩
  obtain ⟨i, c8, hn4, hI, hP, hD, hS, hl, hib⟩ := h9
  refine lv_iload_n hx hb dX4_deadRows_4 rfl (lv_at hl 2 rfl) ?_
  refine lv_aload_n hx hb dX4_deadRows_5 rfl (lv_at hl 0 rfl) ?_
  refine kp_get hx hb hts i_X4 hown hK hP hI hW.tm rfl rfl 6 (by decide) (by decide) (hts (.fieldLink RX4 129 "IslandSolverModel" "rows" "I") (by decide +kernel)) (fun _ h9 => h9) dX4_deadRows_6 (kq_P (v0 := .int (nI mr)) rfl hW.p6 fun h_2 => ?_)
  refine lv_icmp_ge (tgt := 39) hx hb dX4_deadRows_9 (by decide) (fun c_3 => ?_) (fun c_3 => ?_)
  · have n_4 : mr ≤ i := (nI_leI (by omega) (by omega)).mp (show nI mr ≤ nI i from c_3)
    refine lv_iload_n hx hb dX4_deadRows_39 rfl (lv_at hl 1 rfl) ?_
    refine W.widen (k := 0) (n := 0) (Nat.le_of_ble_eq_true rfl) (Nat.le_of_ble_eq_true rfl) ?_
    exact W.iret (v := c8) hx hb hr (fun t ht hW9 => ⟨⟨c8, (L, f), rfl, hI, by rw [ht]; exact hP, va_K.moved hW9.alike hK, hD⟩, hS.F ht⟩) hS.2.2 dX4_deadRows_40
  · have n_5 : ¬ mr ≤ i := fun h9 => (show ¬ nI mr ≤ nI i from c_3) ((nI_leI (by omega) (by omega)).mpr h9)
    refine lv_aload_n hx hb dX4_deadRows_12 rfl (lv_at hl 0 rfl) ?_
    refine lv_iload_n hx hb dX4_deadRows_13 rfl (lv_at hl 2 rfl) ?_
    refine lv_aload_n hx hb dX4_deadRows_14 rfl (lv_at hl 0 rfl) ?_
    refine lv_iload_n hx hb dX4_deadRows_15 rfl (lv_at hl 2 rfl) ?_
    refine kd_callf (va_runV (As := [.int (nI i)]) (rest := [.int (nI i), .ref mm]) ⟨hx, hb, hml, hown, hts⟩ (k_stiff4 l dC dI dA ad _ τ pv _ _ hI mm fa sa aa ia sf mb mr mk mi hW i (by omega)) (cwV 1 hts gX4_deadRows_X4_stiffness rfl rfl rfl (by decide +kernel) ⟨Nat.le_of_ble_eq_true rfl, Nat.le_of_ble_eq_true rfl⟩) (kd_preV hP hD hK hS hA hE hI hW.tm rfl rfl) rfl rfl hl.1 rfl (lv_room (Nat.le_of_ble_eq_true rfl)) dX4_deadRows_16 ⟨Nat.le_of_ble_eq_true rfl, Nat.le_of_ble_eq_true rfl⟩) hD hS hA (fun r_7 u_6 H locs hw hP hD hS => ?_)
    obtain ⟨hr_7, hI⟩ := hw
    refine kd_calli (va_runV (As := [.int (nI i), .float r_7]) (rest := []) ⟨hx, hb, hml, hown, hts⟩ (k_dead4 l dC dI dA ad _ τ pv _ _ hI mm fa sa aa ia sf mb mr mk mi hW i (by omega) r_7 hr_7) (cwV 2 hts gX4_deadRows_X4_dead rfl rfl rfl (by decide +kernel) ⟨Nat.le_of_ble_eq_true rfl, Nat.le_of_ble_eq_true rfl⟩) (kd_preV hP hD hK hS hA hE hI hW.tm rfl rfl) rfl rfl hl.1 rfl (lv_room (Nat.le_of_ble_eq_true rfl)) dX4_deadRows_19 ⟨Nat.le_of_ble_eq_true rfl, Nat.le_of_ble_eq_true rfl⟩) hD hS hA (fun r_9 u_8 H locs hw hP hD hS => ?_)
    obtain ⟨hr_9, gr_9, hI⟩ := hw
    refine lv_if_eq (tgt := 31) hx hb dX4_deadRows_22 (by decide) (fun c_10 => ?_) (fun c_10 => ?_)
    · subst c_10
      refine lv_iload_n hx hb dX4_deadRows_31 rfl (lv_at hl 1 rfl) ?_
      refine lv_istore_n (lv' := [(1, .int c8), (0, .ref mm), (2, .int (nI i))]) hx hb dX4_deadRows_32 rfl hl (by decide) rfl (fun ls hl => ?_)
      refine lv_iinc (v := nI (i + 1)) (lv' := [(2, .int (nI (i + 1))), (1, .int c8), (0, .ref mm)]) hx hb dX4_deadRows_33 hl (k := 2) rfl (nI_add i 1) (by decide) rfl (fun ls hl => ?_)
      refine lv_goto (tgt := 4) hx hb dX4_deadRows_36 (by decide) ?_
      have hl : lv_has ls 3 [(0, .ref mm), (1, .int c8), (2, .int (nI (i + 1)))] := lv_sub hl [2, 1, 0] rfl
      exact ih4 (fun _ _ => .null) _ _ _ _ _ ⟨(i + 1), c8, by omega, hI, hP, hD, hS, hl, by omega⟩
    · obtain rfl : r_9 = 1 := (hr_9).resolve_left c_10
      refine lv_iload_n hx hb dX4_deadRows_25 rfl (lv_at hl 1 rfl) ?_
      refine lv_iconst (v := 1) hx hb dX4_deadRows_26 (by decide) ?_
      refine lv_iadd hx hb dX4_deadRows_27 ?_
      refine lv_topi (fun x_11 ex_11 => ?_)
      refine lv_goto (tgt := 32) hx hb dX4_deadRows_28 (by decide) ?_
      refine lv_istore_n (lv' := [(1, .int x_11), (0, .ref mm), (2, .int (nI i))]) hx hb dX4_deadRows_32 rfl hl (by decide) rfl (fun ls hl => ?_)
      refine lv_iinc (v := nI (i + 1)) (lv' := [(2, .int (nI (i + 1))), (1, .int x_11), (0, .ref mm)]) hx hb dX4_deadRows_33 hl (k := 2) rfl (nI_add i 1) (by decide) rfl (fun ls hl => ?_)
      refine lv_goto (tgt := 4) hx hb dX4_deadRows_36 (by decide) ?_
      have hl : lv_has ls 3 [(0, .ref mm), (1, .int x_11), (2, .int (nI (i + 1)))] := lv_sub hl [2, 1, 0] rfl
      exact ih4 (fun _ _ => .null) _ _ _ _ _ ⟨(i + 1), x_11, by omega, hI, hP, hD, hS, hl, by omega⟩
