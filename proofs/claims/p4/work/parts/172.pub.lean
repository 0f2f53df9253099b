set_option maxHeartbeats 4000000 in
set_option maxRecDepth 100000 in
theorem k_p_step (l : Launch) (dC : Nat → ClassId) (dI : Nat → Nat → Nat) (dA : Nat → ClassId) (ad sz : Nat) (τ : Nat → Nat → Nat) (pv0 : Nat → Nat → Value) (L : List Nat) (f : Nat → va_E) (hI : kI dA τ pv0 L f) (x bl rl kl ba ra ka fr nb nr nk : Nat) (hW : kW τ pv0 ad x bl rl kl ba ra ka fr nb nr nk) (n : Int32) (hlt : l.stackTraces = false) : vx_Met l yX3_step wsX3_step ({ frames := 6, cells := 2, slots := 12, locals := 110 } : Room) (va_Pc [.ref x, .int n] (kB dC dI dA ad sz L f)) (va_Qi (fun r u => kPost dA τ pv0 ad x ba ra nb nr nb nr u) (kR dC dI dA (va_A (va_pl L f) sz)) (va_A (va_pl L f) sz)) (kX dC dI (fun E u => (E = "java/lang/IllegalArgumentException") ∧ kI dA τ pv0 u.1 u.2) (va_A (va_pl L f) sz)) 2 12 (va_A (va_pl L f) sz) := by
  refine vx_ofW (cc := cX3_step) (maxL := 3) (ret := (some .int)) (by decide) rfl ?_
  intro p e s m args below meth c s₁ B hml ht hv
  obtain ⟨rfl, hsz, hP, hK, hD0, hE⟩ := hv
  have hx := B.exec
  have hb := B.bytes
  have hr := B.returns
  have hts := atoms_spec (ws := wsX3_step) B.pre
  have hown : s.vm.findClass RX3 = some m.cls := findClass_of_methodNamed B.named
  have hlocks := B.notSynchronized
  have a_82 : ∀ w ∈ (vx_atS RX3 82 "java/lang/IllegalArgumentException" ["java/lang/RuntimeException", "java/lang/Exception"]).filter goodWord, w ∈ wsX3_step := fun _ h => List.mem_cons_of_mem _ (List.mem_append_right _ h)
  subst hsz
  have hD := hD0.self (sz := s.heap.size)
  generalize hAe : va_A (va_pl L f) s.heap.size = A at hD hE ⊢
  have hA : ∀ q : Nat, s.heap.size ≤ q → A q := fun q h => by rw [← hAe]; exact Or.inr h
  have hS : va_S A s.heap s.heap [] := va_S.rf
  have hP : va_P (dC, dI) vwCl (va_pl L f) s.heap := hP
  have hK : va_K (dC, dI) vwCl (tyA dA) s := hK
  have hl := lv_entry ([.ref x, .int n]) (n := 3) (Nat.le_of_ble_eq_true rfl)
  rw [lg_entry_eq]
  generalize (lg_sl ([.ref x, .int n]) ++ List.replicate (3 - (lg_sl ([.ref x, .int n])).length) Slot.unset).toArray = ls at hl ⊢
  have hl : lv_has ls 3 [(0, .ref x), (1, .int n)] := hl
  have hnb := hW.lnb
  have hnr := hW.lnr
  have hnk := hW.lnk
  have hF : kFr kPm τ pv0 τ pv0 := kFr.rf
  have hW00 := hW
  refine lv_iload_n hx hb dX3_step_0 rfl (lv_at hl 1 rfl) ?_
  refine lv_iconst (v := 1) hx hb dX3_step_1 (by decide) ?_
  refine lv_icmp_lt (tgt := 11) hx hb dX3_step_2 (by decide) (fun c_1 => ?_) (fun c_1 => ?_)
  · obtain ⟨sa_2, hsa_2⟩ := hE.str 239 "n is not 1 .. 20" (by decide +kernel)
    have hat : ∀ w ∈ (vx_atS RX3 82 "java/lang/IllegalArgumentException" ["java/lang/RuntimeException", "java/lang/Exception"]), w.before _ s = true := vx_hat (B := kx_non "java/lang/IllegalArgumentException") (fun w h => hts w (a_82 w h)) (by decide +kernel) (hE.non "java/lang/IllegalArgumentException" (by decide +kernel))
    refine W.widen (k := 1) (n := 6) (Nat.le_of_ble_eq_true rfl) (Nat.le_of_ble_eq_true rfl) ?_
    exact vx_throwS (A := A) (rest := []) hx hb hlt hown (by decide +kernel) (by decide +kernel) (hts (.classLink RX3 78 "java/lang/IllegalArgumentException") (by decide +kernel)) (hts (.initialized "java/lang/IllegalArgumentException") (by decide +kernel)) hsa_2 hat (by decide +kernel) hE.2.2.2.2.2.2.1 hE.2.2.2.2.2.2.2.1 hS (hl.1.trans hml.symm) dX3_step_11 dX3_step_14 dX3_step_15 dX3_step_17 dX3_step_20 (fun x h => (ht x h).elim) (Nat.le_of_ble_eq_true rfl) (Nat.le_of_ble_eq_true rfl) (Nat.le_of_ble_eq_true rfl) (Nat.le_of_ble_eq_true rfl) hlocks (fun t hvm hz hk => ⟨(L, f), trivial, ⟨⟨rfl, hI⟩, hP.kept (fun k q hq => hk q.1 (hP k q hq).lt), hD⟩, Nat.le_trans hS.1 hz, fun q h1 h2 => (hk q (Nat.lt_of_lt_of_le h1 hS.1)).trans (hS.2.1 q h1 h2)⟩) hS.2.2 (Nat.le_of_ble_eq_true rfl) (Nat.le_of_ble_eq_true rfl)
  · refine lv_iload_n hx hb dX3_step_5 rfl (lv_at hl 1 rfl) ?_
    refine lv_bipush (v := 20) hx hb dX3_step_6 (by decide) ?_
    refine lv_icmp_le (tgt := 21) hx hb dX3_step_8 (by decide) (fun c_3 => ?_) (fun c_3 => ?_)
    · refine lv_aload_n hx hb dX3_step_21 rfl (lv_at hl 0 rfl) ?_
      refine kd_callv (va_runV (As := []) (rest := []) ⟨hx, hb, hml, hown, hts⟩ (k_numberIsl l dC dI dA ad _ τ pv0 _ _ hI x bl rl kl ba ra ka fr nb nr nk hW ) (cwV 0 hts gX3_step_X3_numberIslands rfl rfl rfl (by decide +kernel) ⟨Nat.le_of_ble_eq_true rfl, Nat.le_of_ble_eq_true rfl⟩) (kd_preV hP hD hK hS hA hE hI hW.tx rfl rfl) rfl rfl hl.1 rfl (lv_room (Nat.le_of_ble_eq_true rfl)) dX3_step_22 ⟨Nat.le_of_ble_eq_true rfl, Nat.le_of_ble_eq_true rfl⟩) hD hS hA (fun u_4 H locs hw hP hD hS => ?_)
      obtain ⟨pv, hF9, hI⟩ := hw
      have hF := hF.trans (hF9.weak kPm_k)
      have hW := hW.frk hF9
      refine lv_aload_n hx hb dX3_step_25 rfl (lv_at hl 0 rfl) ?_
      refine kd_callv (va_runV (As := []) (rest := []) ⟨hx, hb, hml, hown, hts⟩ (k_measureRows l dC dI dA ad _ τ pv _ _ hI x bl rl kl ba ra ka fr nb nr nk hW ) (cwV 0 hts gX3_step_X3_measureRows rfl rfl rfl (by decide +kernel) ⟨Nat.le_of_ble_eq_true rfl, Nat.le_of_ble_eq_true rfl⟩) (kd_preV hP hD hK hS hA hE hI hW.tx rfl rfl) rfl rfl hl.1 rfl (lv_room (Nat.le_of_ble_eq_true rfl)) dX3_step_26 ⟨Nat.le_of_ble_eq_true rfl, Nat.le_of_ble_eq_true rfl⟩) hD hS hA (fun u_5 H locs hw hP hD hS => ?_)
      obtain ⟨pv, hF9, hM, hI⟩ := hw
      have hF := hF.trans (hF9.weak kPm_k)
      have hW := hW.frk hF9
      refine lv_iconst (v := 0) hx hb dX3_step_29 (by decide) ?_
      refine lv_istore_n (lv' := [(2, .int 0), (0, .ref x), (1, .int n)]) hx hb dX3_step_30 rfl hl (by decide) rfl (fun ls hl => ?_)
      have hl : lv_has ls 3 [(0, .ref x), (1, .int n), (2, .int 0)] := lv_sub hl [1, 2, 0] rfl
      refine kl_loop (Inv := fun n31 pv L f H locs ls => ∃ (i : Nat), 2 ^ 31 - i < n31 ∧ kI dA τ pv L f ∧ va_P (dC, dI) vwCl (va_pl L f) H ∧ va_D A (va_pl L f) ∧ va_S A s.heap H locs ∧ lv_has ls 3 [(0, .ref x), (1, .int n), (2, .int (nI i))] ∧ kFr kPm τ pv0 τ pv ∧ kW τ pv ad x bl rl kl ba ra ka fr nb nr nk ∧ kMs pv ra nr ∧ i < 2 ^ 31) (fun _ _ _ _ _ _ h9 => by obtain ⟨_, hn, _⟩ := h9; exact Nat.not_lt_zero _ hn) (fun n31 ih31 pv L f H locs ls h9 => ?_) (2 ^ 31 - 0 + 1) (pv) _ _ _ _ _ ⟨0, Nat.lt_succ_self _, hI, hP, hD, hS, hl, hF, hW, hM, by decide⟩
      obtain ⟨i, hn31, hI, hP, hD, hS, hl, hF, hW, hM, hi⟩ := h9
      refine lv_iload_n hx hb dX3_step_31 rfl (lv_at hl 2 rfl) ?_
      refine lv_iload_n hx hb dX3_step_32 rfl (lv_at hl 1 rfl) ?_
      refine lv_icmp_ge (tgt := 46) hx hb dX3_step_33 (by decide) (fun c_6 => ?_) (fun c_6 => ?_)
      · refine lv_aload_n hx hb dX3_step_46 rfl (lv_at hl 0 rfl) ?_
        refine kd_callv (va_runV (As := []) (rest := []) ⟨hx, hb, hml, hown, hts⟩ (k_markAwake l dC dI dA ad _ τ pv _ _ hI x bl rl kl ba ra ka fr nb nr nk hW ) (cwV 0 hts gX3_step_X3_markAwake rfl rfl rfl (by decide +kernel) ⟨Nat.le_of_ble_eq_true rfl, Nat.le_of_ble_eq_true rfl⟩) (kd_preV hP hD hK hS hA hE hI hW.tx rfl rfl) rfl rfl hl.1 rfl (lv_room (Nat.le_of_ble_eq_true rfl)) dX3_step_47 ⟨Nat.le_of_ble_eq_true rfl, Nat.le_of_ble_eq_true rfl⟩) hD hS hA (fun u_7 H locs hw hP hD hS => ?_)
        have hI := hw
        refine lv_aload_n hx hb dX3_step_50 rfl (lv_at hl 0 rfl) ?_
        refine kd_calli (va_runV (As := []) (rest := []) ⟨hx, hb, hml, hown, hts⟩ (k_awakeIslands l dC dI dA ad _ τ pv _ _ hI x bl rl kl ba ra ka fr nb nr nk hW ) (cwV 0 hts gX3_step_X3_awakeIslands rfl rfl rfl (by decide +kernel) ⟨Nat.le_of_ble_eq_true rfl, Nat.le_of_ble_eq_true rfl⟩) (kd_preV hP hD hK hS hA hE hI hW.tx rfl rfl) rfl rfl hl.1 rfl (lv_room (Nat.le_of_ble_eq_true rfl)) dX3_step_51 ⟨Nat.le_of_ble_eq_true rfl, Nat.le_of_ble_eq_true rfl⟩) hD hS hA (fun r_9 u_8 H locs hw hP hD hS => ?_)
        have hI := hw
        refine vx_ret ?_
        refine W.widen (k := 2) (n := 12) (Nat.le_of_ble_eq_true rfl) (Nat.le_of_ble_eq_true rfl) ?_
        exact W.iret (v := r_9) hx hb hr (fun t ht hW9 => ⟨⟨r_9, (u_8.1, u_8.2), rfl, ⟨_, _, bl, rl, kl, ba, ra, ka, fr, nk, hF.weak kPm_C, hW, hW00.eqB hF (fun _ => rfl), fun i hi _ => hW00.eqR hF (fun _ => rfl) i hi, hI⟩, by rw [ht]; exact hP, va_K.moved hW9.alike hK, hD⟩, hS.F ht⟩) hS.2.2 dX3_step_54
      · have hi := kz_nx hi c_6
        refine lv_aload_n hx hb dX3_step_36 rfl (lv_at hl 0 rfl) ?_
        refine kd_callv (va_runV (As := []) (rest := []) ⟨hx, hb, hml, hown, hts⟩ (k_stepOnce l dC dI dA ad _ τ pv _ _ hI x bl rl kl ba ra ka fr nb nr nk hW hM) (cwV 0 hts gX3_step_X3_stepOnce rfl rfl rfl (by decide +kernel) ⟨Nat.le_of_ble_eq_true rfl, Nat.le_of_ble_eq_true rfl⟩) (kd_preV hP hD hK hS hA hE hI hW.tx rfl rfl) rfl rfl hl.1 rfl (lv_room (Nat.le_of_ble_eq_true rfl)) dX3_step_37 ⟨Nat.le_of_ble_eq_true rfl, Nat.le_of_ble_eq_true rfl⟩) hD hS hA (fun u_10 H locs hw hP hD hS => ?_)
        obtain ⟨pv, hF9, hW, hM, hI⟩ := hw
        have hF := hF.trans (hF9.weak kPm_d)
        refine lv_iinc (v := nI (i + 1)) (lv' := [(2, .int (nI (i + 1))), (0, .ref x), (1, .int n)]) hx hb dX3_step_40 hl (k := 2) rfl (nI_add i 1) (by decide) rfl (fun ls hl => ?_)
        refine lv_goto (tgt := 31) hx hb dX3_step_43 (by decide) ?_
        have hl : lv_has ls 3 [(0, .ref x), (1, .int n), (2, .int (nI (i + 1)))] := lv_sub hl [1, 2, 0] rfl
        exact ih31 (pv) _ _ _ _ _ ⟨(i + 1), by omega, hI, hP, hD, hS, hl, hF, hW, hM, hi⟩
    · obtain ⟨sa_11, hsa_11⟩ := hE.str 239 "n is not 1 .. 20" (by decide +kernel)
      have hat : ∀ w ∈ (vx_atS RX3 82 "java/lang/IllegalArgumentException" ["java/lang/RuntimeException", "java/lang/Exception"]), w.before _ s = true := vx_hat (B := kx_non "java/lang/IllegalArgumentException") (fun w h => hts w (a_82 w h)) (by decide +kernel) (hE.non "java/lang/IllegalArgumentException" (by decide +kernel))
      refine W.widen (k := 1) (n := 6) (Nat.le_of_ble_eq_true rfl) (Nat.le_of_ble_eq_true rfl) ?_
      exact vx_throwS (A := A) (rest := []) hx hb hlt hown (by decide +kernel) (by decide +kernel) (hts (.classLink RX3 78 "java/lang/IllegalArgumentException") (by decide +kernel)) (hts (.initialized "java/lang/IllegalArgumentException") (by decide +kernel)) hsa_11 hat (by decide +kernel) hE.2.2.2.2.2.2.1 hE.2.2.2.2.2.2.2.1 hS (hl.1.trans hml.symm) dX3_step_11 dX3_step_14 dX3_step_15 dX3_step_17 dX3_step_20 (fun x h => (ht x h).elim) (Nat.le_of_ble_eq_true rfl) (Nat.le_of_ble_eq_true rfl) (Nat.le_of_ble_eq_true rfl) (Nat.le_of_ble_eq_true rfl) hlocks (fun t hvm hz hk => ⟨(L, f), trivial, ⟨⟨rfl, hI⟩, hP.kept (fun k q hq => hk q.1 (hP k q hq).lt), hD⟩, Nat.le_trans hS.1 hz, fun q h1 h2 => (hk q (Nat.lt_of_lt_of_le h1 hS.1)).trans (hS.2.1 q h1 h2)⟩) hS.2.2 (Nat.le_of_ble_eq_true rfl) (Nat.le_of_ble_eq_true rfl)
set_option maxHeartbeats 4000000 in
set_option maxRecDepth 100000 in
theorem k_p_of (l : Launch) (dC : Nat → ClassId) (dI : Nat → Nat → Nat) (dA : Nat → ClassId) (ad sz : Nat) (τ : Nat → Nat → Nat) (pv : Nat → Nat → Value) (L : List Nat) (f : Nat → va_E) (hI : kI dA τ pv L f) (x bl rl kl ba ra ka fr nb nr nk : Nat) (hW : kW τ pv ad x bl rl kl ba ra ka fr nb nr nk) (n k : Int32) (hlt : l.stackTraces = false) : vx_Met l yX3_of wsX3_of ({ frames := 7, cells := 2, slots := 12, locals := 103 } : Room) (va_Pc [.ref x, .int n, .int k] (kB dC dI dA ad sz L f)) (va_Qf (fun r u => fb 1904214016 r ∧ kPost dA τ pv ad x ba ra nb nr nb nr u) (kR dC dI dA (va_A (va_pl L f) sz)) (va_A (va_pl L f) sz)) (kX dC dI (fun E u => (E = "java/lang/IndexOutOfBoundsException") ∧ kI dA τ pv u.1 u.2) (va_A (va_pl L f) sz)) 2 12 (va_A (va_pl L f) sz) := by
  refine vx_ofW (cc := cX3_of) (maxL := 4) (ret := (some .float)) (by decide) rfl ?_
  intro p e s m args below meth c s₁ B hml ht hv
  obtain ⟨rfl, hsz, hP, hK, hD0, hE⟩ := hv
  have hx := B.exec
  have hb := B.bytes
  have hr := B.returns
  have hts := atoms_spec (ws := wsX3_of) B.pre
  have hown : s.vm.findClass RX3 = some m.cls := findClass_of_methodNamed B.named
  have hlocks := B.notSynchronized
  have a_148 : ∀ w ∈ (vx_atS RX3 148 "java/lang/IndexOutOfBoundsException" ["java/lang/RuntimeException", "java/lang/Exception"]).filter goodWord, w ∈ wsX3_of := fun _ h => List.mem_cons_of_mem _ (List.mem_append_right _ h)
  have i_X0 : ∀ w ∈ u_ws RX0 TX0 16, w ∈ wsX3_of := by decide +kernel
  have i_X2 : ∀ w ∈ u_ws RX2 TX2 3, w ∈ wsX3_of := by decide +kernel
  subst hsz
  have hD := hD0.self (sz := s.heap.size)
  generalize hAe : va_A (va_pl L f) s.heap.size = A at hD hE ⊢
  have hA : ∀ q : Nat, s.heap.size ≤ q → A q := fun q h => by rw [← hAe]; exact Or.inr h
  have hS : va_S A s.heap s.heap [] := va_S.rf
  have hP : va_P (dC, dI) vwCl (va_pl L f) s.heap := hP
  have hK : va_K (dC, dI) vwCl (tyA dA) s := hK
  have hl := lv_entry ([.ref x, .int n, .int k]) (n := 4) (Nat.le_of_ble_eq_true rfl)
  rw [lg_entry_eq]
  generalize (lg_sl ([.ref x, .int n, .int k]) ++ List.replicate (4 - (lg_sl ([.ref x, .int n, .int k])).length) Slot.unset).toArray = ls at hl ⊢
  have hl : lv_has ls 4 [(0, .ref x), (1, .int n), (2, .int k)] := hl
  have hnb := hW.lnb
  have hnr := hW.lnr
  have hnk := hW.lnk
  have hF : kFr kPm τ pv τ pv := kFr.rf
  have hW00 := hW
  refine lv_aload_n hx hb dX3_of_0 rfl (lv_at hl 0 rfl) ?_
  refine lv_iload_n hx hb dX3_of_1 rfl (lv_at hl 1 rfl) ?_
  refine kd_xq (vx_runV (As := [.int n]) (rest := []) ⟨hx, hb, hml, hown, hts⟩ (k_bodyAt l dC dI dA ad _ τ pv _ _ hI x bl rl kl ba ra ka fr nb nr nk hW n hlt) (cwV 1 hts gX3_of_X3_bodyAt rfl rfl rfl (by decide +kernel) ⟨Nat.le_of_ble_eq_true rfl, Nat.le_of_ble_eq_true rfl⟩) (kd_preV hP hD hK hS hA hE hI hW.tx rfl rfl) rfl rfl hl.1 rfl (lv_room (Nat.le_of_ble_eq_true rfl)) dX3_of_2 ⟨Nat.le_of_ble_eq_true rfl, Nat.le_of_ble_eq_true rfl⟩) hD hS hA (fun E ce q9 u_1 H locs hw hP hD hS hce hcv hcl => ?_) (fun r_2 u_1 H locs hw hP hD hS => ?_)
  · obtain ⟨hE9, hI⟩ := hw
    have hE9 := hE9.1
    exact vx_out (fun x h => (ht x h).elim) hlocks hce hcv hcl (fun t ht hvm => ⟨(u_1.1, u_1.2), trivial, ⟨⟨hE9, hI⟩, by rw [ht]; exact hP, hD⟩, hS.F ht⟩) hS.2.2 (Nat.le_of_ble_eq_true rfl) (Nat.le_of_ble_eq_true rfl)
  · obtain ⟨j_4, hj_4, rfl, q_3, rfl, pq_3, tq_3, nq_3, hI⟩ := hw
    refine W.eq (g2 := F0 m 5 ls [.ref q_3]) rfl ?_
    refine lv_astore_n (lv' := [(3, .ref q_3), (0, .ref x), (1, .int (nI j_4)), (2, .int k)]) hx hb dX3_of_5 rfl hl (by decide) rfl (fun ls hl => ?_)
    refine lv_iload_n hx hb dX3_of_6 rfl (lv_at hl 3 rfl) ?_
    rcases kz_spl (n := k) (M := 12) 12 (by decide) with hout | ⟨j9, hj9, hj8⟩
    · refine lv_tableOut (tgt := 155) hx hb dX3_of_7 (kz_out hout) (by decide) ?_
      obtain ⟨sa_5, hsa_5⟩ := hE.str 268 "what is not 0 .. 12" (by decide +kernel)
      have hat : ∀ w ∈ (vx_atS RX3 148 "java/lang/IndexOutOfBoundsException" ["java/lang/RuntimeException", "java/lang/Exception"]), w.before _ s = true := vx_hat (B := kx_non "java/lang/IndexOutOfBoundsException") (fun w h => hts w (a_148 w h)) (by decide +kernel) (hE.non "java/lang/IndexOutOfBoundsException" (by decide +kernel))
      refine W.widen (k := 1) (n := 6) (Nat.le_of_ble_eq_true rfl) (Nat.le_of_ble_eq_true rfl) ?_
      exact vx_throwSW (A := A) (rest := []) hx hb hlt hown (by decide +kernel) (by decide +kernel) (hts (.classLink RX3 144 "java/lang/IndexOutOfBoundsException") (by decide +kernel)) (hts (.initialized "java/lang/IndexOutOfBoundsException") (by decide +kernel)) hsa_5 hat (by decide +kernel) hE.2.2.2.2.2.2.1 hE.2.2.2.2.2.2.2.1 hS (hl.1.trans hml.symm) dX3_of_155 dX3_of_158 dX3_of_159 dX3_of_162 dX3_of_165 (fun x h => (ht x h).elim) (Nat.le_of_ble_eq_true rfl) (Nat.le_of_ble_eq_true rfl) (Nat.le_of_ble_eq_true rfl) (Nat.le_of_ble_eq_true rfl) hlocks (fun t hvm hz hk => ⟨(u_1.1, u_1.2), trivial, ⟨⟨rfl, hI⟩, hP.kept (fun k q hq => hk q.1 (hP k q hq).lt), hD⟩, Nat.le_trans hS.1 hz, fun q h1 h2 => (hk q (Nat.lt_of_lt_of_le h1 hS.1)).trans (hS.2.1 q h1 h2)⟩) hS.2.2 (Nat.le_of_ble_eq_true rfl) (Nat.le_of_ble_eq_true rfl)
    · rcases (show j9 = 0 ∨ j9 = 1 ∨ j9 = 2 ∨ j9 = 3 ∨ j9 = 4 ∨ j9 = 5 ∨ j9 = 6 ∨ j9 = 7 ∨ j9 = 8 ∨ j9 = 9 ∨ j9 = 10 ∨ j9 = 11 ∨ j9 = 12 by omega) with rfl | rfl | rfl | rfl | rfl | rfl | rfl | rfl | rfl | rfl | rfl | rfl | rfl
      · obtain rfl : k = 0 := hj8
        refine lv_tableIn (tgt := 72) hx hb dX3_of_7 (by decide) (by decide) rfl (by decide) ?_
        refine lv_aload_n hx hb dX3_of_72 rfl (lv_at hl 0 rfl) ?_
        refine kp_get hx hb hts i_X0 hown hK hP hI tq_3 rfl rfl 9 (by decide) (by decide) (hts (.fieldLink RX3 130 "IslandSolver$Body" "v" "LIslandSolver$Vec;") (by decide +kernel)) (fun _ h9 => h9) dX3_of_73 (kq_R 3 (by decide) fun x_6 h_7 => ?_)
        refine kp_get hx hb hts i_X2 hown hK hP hI h_7 rfl rfl 0 (by decide) (by decide) (hts (.fieldLink RX3 160 "IslandSolver$Vec" "x" "F") (by decide +kernel)) (fun _ h9 => h9) dX3_of_76 (kq_F (cd := 1535115264) (by decide) fun x_8 h_9 => ?_)
        refine vx_ret ?_
        refine W.widen (k := 2) (n := 12) (Nat.le_of_ble_eq_true rfl) (Nat.le_of_ble_eq_true rfl) ?_
        exact W.fret (v := x_8) hx hb hr (fun t ht hW9 => ⟨⟨x_8, (u_1.1, u_1.2), rfl, ⟨(fb_le h_9 (by decide)), ⟨_, _, bl, rl, kl, ba, ra, ka, fr, nk, hF.weak kPm_C, hW, hW00.eqB hF (fun _ => rfl), fun i hi _ => hW00.eqR hF (fun _ => rfl) i hi, hI⟩⟩, by rw [ht]; exact hP, va_K.moved hW9.alike hK, hD⟩, hS.F ht⟩) hS.2.2 dX3_of_79
      · obtain rfl : k = 1 := hj8
        refine lv_tableIn (tgt := 80) hx hb dX3_of_7 (by decide) (by decide) rfl (by decide) ?_
        refine lv_aload_n hx hb dX3_of_80 rfl (lv_at hl 0 rfl) ?_
        refine kp_get hx hb hts i_X0 hown hK hP hI tq_3 rfl rfl 9 (by decide) (by decide) (hts (.fieldLink RX3 130 "IslandSolver$Body" "v" "LIslandSolver$Vec;") (by decide +kernel)) (fun _ h9 => h9) dX3_of_81 (kq_R 3 (by decide) fun x_10 h_11 => ?_)
        refine kp_get hx hb hts i_X2 hown hK hP hI h_11 rfl rfl 1 (by decide) (by decide) (hts (.fieldLink RX3 163 "IslandSolver$Vec" "y" "F") (by decide +kernel)) (fun _ h9 => h9) dX3_of_84 (kq_F (cd := 1535115264) (by decide) fun x_12 h_13 => ?_)
        refine vx_ret ?_
        refine W.widen (k := 2) (n := 12) (Nat.le_of_ble_eq_true rfl) (Nat.le_of_ble_eq_true rfl) ?_
        exact W.fret (v := x_12) hx hb hr (fun t ht hW9 => ⟨⟨x_12, (u_1.1, u_1.2), rfl, ⟨(fb_le h_13 (by decide)), ⟨_, _, bl, rl, kl, ba, ra, ka, fr, nk, hF.weak kPm_C, hW, hW00.eqB hF (fun _ => rfl), fun i hi _ => hW00.eqR hF (fun _ => rfl) i hi, hI⟩⟩, by rw [ht]; exact hP, va_K.moved hW9.alike hK, hD⟩, hS.F ht⟩) hS.2.2 dX3_of_87
      · obtain rfl : k = 2 := hj8
        refine lv_tableIn (tgt := 88) hx hb dX3_of_7 (by decide) (by decide) rfl (by decide) ?_
        refine lv_aload_n hx hb dX3_of_88 rfl (lv_at hl 0 rfl) ?_
        refine kp_get hx hb hts i_X0 hown hK hP hI tq_3 rfl rfl 9 (by decide) (by decide) (hts (.fieldLink RX3 130 "IslandSolver$Body" "v" "LIslandSolver$Vec;") (by decide +kernel)) (fun _ h9 => h9) dX3_of_89 (kq_R 3 (by decide) fun x_14 h_15 => ?_)
        refine kp_get hx hb hts i_X2 hown hK hP hI h_15 rfl rfl 2 (by decide) (by decide) (hts (.fieldLink RX3 166 "IslandSolver$Vec" "z" "F") (by decide +kernel)) (fun _ h9 => h9) dX3_of_92 (kq_F (cd := 1535115264) (by decide) fun x_16 h_17 => ?_)
        refine vx_ret ?_
        refine W.widen (k := 2) (n := 12) (Nat.le_of_ble_eq_true rfl) (Nat.le_of_ble_eq_true rfl) ?_
        exact W.fret (v := x_16) hx hb hr (fun t ht hW9 => ⟨⟨x_16, (u_1.1, u_1.2), rfl, ⟨(fb_le h_17 (by decide)), ⟨_, _, bl, rl, kl, ba, ra, ka, fr, nk, hF.weak kPm_C, hW, hW00.eqB hF (fun _ => rfl), fun i hi _ => hW00.eqR hF (fun _ => rfl) i hi, hI⟩⟩, by rw [ht]; exact hP, va_K.moved hW9.alike hK, hD⟩, hS.F ht⟩) hS.2.2 dX3_of_95
      · obtain rfl : k = 3 := hj8
        refine lv_tableIn (tgt := 96) hx hb dX3_of_7 (by decide) (by decide) rfl (by decide) ?_
        refine lv_aload_n hx hb dX3_of_96 rfl (lv_at hl 0 rfl) ?_
        refine kp_get hx hb hts i_X0 hown hK hP hI tq_3 rfl rfl 10 (by decide) (by decide) (hts (.fieldLink RX3 137 "IslandSolver$Body" "s" "LIslandSolver$Vec;") (by decide +kernel)) (fun _ h9 => h9) dX3_of_97 (kq_R 3 (by decide) fun x_18 h_19 => ?_)
        refine kp_get hx hb hts i_X2 hown hK hP hI h_19 rfl rfl 0 (by decide) (by decide) (hts (.fieldLink RX3 160 "IslandSolver$Vec" "x" "F") (by decide +kernel)) (fun _ h9 => h9) dX3_of_100 (kq_F (cd := 1535115264) (by decide) fun x_20 h_21 => ?_)
        refine vx_ret ?_
        refine W.widen (k := 2) (n := 12) (Nat.le_of_ble_eq_true rfl) (Nat.le_of_ble_eq_true rfl) ?_
        exact W.fret (v := x_20) hx hb hr (fun t ht hW9 => ⟨⟨x_20, (u_1.1, u_1.2), rfl, ⟨(fb_le h_21 (by decide)), ⟨_, _, bl, rl, kl, ba, ra, ka, fr, nk, hF.weak kPm_C, hW, hW00.eqB hF (fun _ => rfl), fun i hi _ => hW00.eqR hF (fun _ => rfl) i hi, hI⟩⟩, by rw [ht]; exact hP, va_K.moved hW9.alike hK, hD⟩, hS.F ht⟩) hS.2.2 dX3_of_103
      · obtain rfl : k = 4 := hj8
        refine lv_tableIn (tgt := 104) hx hb dX3_of_7 (by decide) (by decide) rfl (by decide) ?_
        refine lv_aload_n hx hb dX3_of_104 rfl (lv_at hl 0 rfl) ?_
        refine kp_get hx hb hts i_X0 hown hK hP hI tq_3 rfl rfl 10 (by decide) (by decide) (hts (.fieldLink RX3 137 "IslandSolver$Body" "s" "LIslandSolver$Vec;") (by decide +kernel)) (fun _ h9 => h9) dX3_of_105 (kq_R 3 (by decide) fun x_22 h_23 => ?_)
        refine kp_get hx hb hts i_X2 hown hK hP hI h_23 rfl rfl 1 (by decide) (by decide) (hts (.fieldLink RX3 163 "IslandSolver$Vec" "y" "F") (by decide +kernel)) (fun _ h9 => h9) dX3_of_108 (kq_F (cd := 1535115264) (by decide) fun x_24 h_25 => ?_)
        refine vx_ret ?_
        refine W.widen (k := 2) (n := 12) (Nat.le_of_ble_eq_true rfl) (Nat.le_of_ble_eq_true rfl) ?_
        exact W.fret (v := x_24) hx hb hr (fun t ht hW9 => ⟨⟨x_24, (u_1.1, u_1.2), rfl, ⟨(fb_le h_25 (by decide)), ⟨_, _, bl, rl, kl, ba, ra, ka, fr, nk, hF.weak kPm_C, hW, hW00.eqB hF (fun _ => rfl), fun i hi _ => hW00.eqR hF (fun _ => rfl) i hi, hI⟩⟩, by rw [ht]; exact hP, va_K.moved hW9.alike hK, hD⟩, hS.F ht⟩) hS.2.2 dX3_of_111
      · obtain rfl : k = 5 := hj8
        refine lv_tableIn (tgt := 112) hx hb dX3_of_7 (by decide) (by decide) rfl (by decide) ?_
        refine lv_aload_n hx hb dX3_of_112 rfl (lv_at hl 0 rfl) ?_
        refine kp_get hx hb hts i_X0 hown hK hP hI tq_3 rfl rfl 10 (by decide) (by decide) (hts (.fieldLink RX3 137 "IslandSolver$Body" "s" "LIslandSolver$Vec;") (by decide +kernel)) (fun _ h9 => h9) dX3_of_113 (kq_R 3 (by decide) fun x_26 h_27 => ?_)
        refine kp_get hx hb hts i_X2 hown hK hP hI h_27 rfl rfl 2 (by decide) (by decide) (hts (.fieldLink RX3 166 "IslandSolver$Vec" "z" "F") (by decide +kernel)) (fun _ h9 => h9) dX3_of_116 (kq_F (cd := 1535115264) (by decide) fun x_28 h_29 => ?_)
        refine vx_ret ?_
        refine W.widen (k := 2) (n := 12) (Nat.le_of_ble_eq_true rfl) (Nat.le_of_ble_eq_true rfl) ?_
        exact W.fret (v := x_28) hx hb hr (fun t ht hW9 => ⟨⟨x_28, (u_1.1, u_1.2), rfl, ⟨(fb_le h_29 (by decide)), ⟨_, _, bl, rl, kl, ba, ra, ka, fr, nk, hF.weak kPm_C, hW, hW00.eqB hF (fun _ => rfl), fun i hi _ => hW00.eqR hF (fun _ => rfl) i hi, hI⟩⟩, by rw [ht]; exact hP, va_K.moved hW9.alike hK, hD⟩, hS.F ht⟩) hS.2.2 dX3_of_119
      · obtain rfl : k = 6 := hj8
        refine lv_tableIn (tgt := 120) hx hb dX3_of_7 (by decide) (by decide) rfl (by decide) ?_
        refine lv_aload_n hx hb dX3_of_120 rfl (lv_at hl 0 rfl) ?_
        refine kp_get hx hb hts i_X0 hown hK hP hI tq_3 rfl rfl 2 (by decide) (by decide) (hts (.fieldLink RX3 256 "IslandSolver$Body" "w" "F") (by decide +kernel)) (fun _ h9 => h9) dX3_of_121 (kq_F (cd := 1098907648) (by decide) fun x_30 h_31 => ?_)
        refine vx_ret ?_
        refine W.widen (k := 2) (n := 12) (Nat.le_of_ble_eq_true rfl) (Nat.le_of_ble_eq_true rfl) ?_
        exact W.fret (v := x_30) hx hb hr (fun t ht hW9 => ⟨⟨x_30, (u_1.1, u_1.2), rfl, ⟨(fb_le h_31 (by decide)), ⟨_, _, bl, rl, kl, ba, ra, ka, fr, nk, hF.weak kPm_C, hW, hW00.eqB hF (fun _ => rfl), fun i hi _ => hW00.eqR hF (fun _ => rfl) i hi, hI⟩⟩, by rw [ht]; exact hP, va_K.moved hW9.alike hK, hD⟩, hS.F ht⟩) hS.2.2 dX3_of_124
      · obtain rfl : k = 7 := hj8
        refine lv_tableIn (tgt := 125) hx hb dX3_of_7 (by decide) (by decide) rfl (by decide) ?_
        refine lv_aload_n hx hb dX3_of_125 rfl (lv_at hl 0 rfl) ?_
        refine kp_get hx hb hts i_X0 hown hK hP hI tq_3 rfl rfl 3 (by decide) (by decide) (hts (.fieldLink RX3 259 "IslandSolver$Body" "xx" "F") (by decide +kernel)) (fun _ h9 => h9) dX3_of_126 (kq_F (cd := 1098907648) (by decide) fun x_32 h_33 => ?_)
        refine vx_ret ?_
        refine W.widen (k := 2) (n := 12) (Nat.le_of_ble_eq_true rfl) (Nat.le_of_ble_eq_true rfl) ?_
        exact W.fret (v := x_32) hx hb hr (fun t ht hW9 => ⟨⟨x_32, (u_1.1, u_1.2), rfl, ⟨(fb_le h_33 (by decide)), ⟨_, _, bl, rl, kl, ba, ra, ka, fr, nk, hF.weak kPm_C, hW, hW00.eqB hF (fun _ => rfl), fun i hi _ => hW00.eqR hF (fun _ => rfl) i hi, hI⟩⟩, by rw [ht]; exact hP, va_K.moved hW9.alike hK, hD⟩, hS.F ht⟩) hS.2.2 dX3_of_129
      · obtain rfl : k = 8 := hj8
        refine lv_tableIn (tgt := 130) hx hb dX3_of_7 (by decide) (by decide) rfl (by decide) ?_
        refine lv_aload_n hx hb dX3_of_130 rfl (lv_at hl 0 rfl) ?_
        refine kp_get hx hb hts i_X0 hown hK hP hI tq_3 rfl rfl 4 (by decide) (by decide) (hts (.fieldLink RX3 262 "IslandSolver$Body" "yy" "F") (by decide +kernel)) (fun _ h9 => h9) dX3_of_131 (kq_F (cd := 1098907648) (by decide) fun x_34 h_35 => ?_)
        refine vx_ret ?_
        refine W.widen (k := 2) (n := 12) (Nat.le_of_ble_eq_true rfl) (Nat.le_of_ble_eq_true rfl) ?_
        exact W.fret (v := x_34) hx hb hr (fun t ht hW9 => ⟨⟨x_34, (u_1.1, u_1.2), rfl, ⟨(fb_le h_35 (by decide)), ⟨_, _, bl, rl, kl, ba, ra, ka, fr, nk, hF.weak kPm_C, hW, hW00.eqB hF (fun _ => rfl), fun i hi _ => hW00.eqR hF (fun _ => rfl) i hi, hI⟩⟩, by rw [ht]; exact hP, va_K.moved hW9.alike hK, hD⟩, hS.F ht⟩) hS.2.2 dX3_of_134
      · obtain rfl : k = 9 := hj8
        refine lv_tableIn (tgt := 135) hx hb dX3_of_7 (by decide) (by decide) rfl (by decide) ?_
        refine lv_aload_n hx hb dX3_of_135 rfl (lv_at hl 0 rfl) ?_
        refine kp_get hx hb hts i_X0 hown hK hP hI tq_3 rfl rfl 5 (by decide) (by decide) (hts (.fieldLink RX3 265 "IslandSolver$Body" "zz" "F") (by decide +kernel)) (fun _ h9 => h9) dX3_of_136 (kq_F (cd := 1098907648) (by decide) fun x_36 h_37 => ?_)
        refine vx_ret ?_
        refine W.widen (k := 2) (n := 12) (Nat.le_of_ble_eq_true rfl) (Nat.le_of_ble_eq_true rfl) ?_
        exact W.fret (v := x_36) hx hb hr (fun t ht hW9 => ⟨⟨x_36, (u_1.1, u_1.2), rfl, ⟨(fb_le h_37 (by decide)), ⟨_, _, bl, rl, kl, ba, ra, ka, fr, nk, hF.weak kPm_C, hW, hW00.eqB hF (fun _ => rfl), fun i hi _ => hW00.eqR hF (fun _ => rfl) i hi, hI⟩⟩, by rw [ht]; exact hP, va_K.moved hW9.alike hK, hD⟩, hS.F ht⟩) hS.2.2 dX3_of_139
      · obtain rfl : k = 10 := hj8
        refine lv_tableIn (tgt := 140) hx hb dX3_of_7 (by decide) (by decide) rfl (by decide) ?_
        refine lv_aload_n hx hb dX3_of_140 rfl (lv_at hl 0 rfl) ?_
        refine kp_get hx hb hts i_X0 hown hK hP hI tq_3 rfl rfl 6 (by decide) (by decide) (hts (.fieldLink RX3 111 "IslandSolver$Body" "xy" "F") (by decide +kernel)) (fun _ h9 => h9) dX3_of_141 (kq_F (cd := 1098907648) (by decide) fun x_38 h_39 => ?_)
        refine vx_ret ?_
        refine W.widen (k := 2) (n := 12) (Nat.le_of_ble_eq_true rfl) (Nat.le_of_ble_eq_true rfl) ?_
        exact W.fret (v := x_38) hx hb hr (fun t ht hW9 => ⟨⟨x_38, (u_1.1, u_1.2), rfl, ⟨(fb_le h_39 (by decide)), ⟨_, _, bl, rl, kl, ba, ra, ka, fr, nk, hF.weak kPm_C, hW, hW00.eqB hF (fun _ => rfl), fun i hi _ => hW00.eqR hF (fun _ => rfl) i hi, hI⟩⟩, by rw [ht]; exact hP, va_K.moved hW9.alike hK, hD⟩, hS.F ht⟩) hS.2.2 dX3_of_144
      · obtain rfl : k = 11 := hj8
        refine lv_tableIn (tgt := 145) hx hb dX3_of_7 (by decide) (by decide) rfl (by decide) ?_
        refine lv_aload_n hx hb dX3_of_145 rfl (lv_at hl 0 rfl) ?_
        refine kp_get hx hb hts i_X0 hown hK hP hI tq_3 rfl rfl 7 (by decide) (by decide) (hts (.fieldLink RX3 114 "IslandSolver$Body" "yz" "F") (by decide +kernel)) (fun _ h9 => h9) dX3_of_146 (kq_F (cd := 1098907648) (by decide) fun x_40 h_41 => ?_)
        refine vx_ret ?_
        refine W.widen (k := 2) (n := 12) (Nat.le_of_ble_eq_true rfl) (Nat.le_of_ble_eq_true rfl) ?_
        exact W.fret (v := x_40) hx hb hr (fun t ht hW9 => ⟨⟨x_40, (u_1.1, u_1.2), rfl, ⟨(fb_le h_41 (by decide)), ⟨_, _, bl, rl, kl, ba, ra, ka, fr, nk, hF.weak kPm_C, hW, hW00.eqB hF (fun _ => rfl), fun i hi _ => hW00.eqR hF (fun _ => rfl) i hi, hI⟩⟩, by rw [ht]; exact hP, va_K.moved hW9.alike hK, hD⟩, hS.F ht⟩) hS.2.2 dX3_of_149
      · obtain rfl : k = 12 := hj8
        refine lv_tableIn (tgt := 150) hx hb dX3_of_7 (by decide) (by decide) rfl (by decide) ?_
        refine lv_aload_n hx hb dX3_of_150 rfl (lv_at hl 0 rfl) ?_
        refine kp_get hx hb hts i_X0 hown hK hP hI tq_3 rfl rfl 8 (by decide) (by decide) (hts (.fieldLink RX3 117 "IslandSolver$Body" "zx" "F") (by decide +kernel)) (fun _ h9 => h9) dX3_of_151 (kq_F (cd := 1098907648) (by decide) fun x_42 h_43 => ?_)
        refine vx_ret ?_
        refine W.widen (k := 2) (n := 12) (Nat.le_of_ble_eq_true rfl) (Nat.le_of_ble_eq_true rfl) ?_
        exact W.fret (v := x_42) hx hb hr (fun t ht hW9 => ⟨⟨x_42, (u_1.1, u_1.2), rfl, ⟨(fb_le h_43 (by decide)), ⟨_, _, bl, rl, kl, ba, ra, ka, fr, nk, hF.weak kPm_C, hW, hW00.eqB hF (fun _ => rfl), fun i hi _ => hW00.eqR hF (fun _ => rfl) i hi, hI⟩⟩, by rw [ht]; exact hP, va_K.moved hW9.alike hK, hD⟩, hS.F ht⟩) hS.2.2 dX3_of_154
