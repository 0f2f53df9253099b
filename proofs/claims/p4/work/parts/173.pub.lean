set_option maxHeartbeats 4000000 in
set_option maxRecDepth 100000 in
theorem k_p_about (l : Launch) (dC : Nat → ClassId) (dI : Nat → Nat → Nat) (dA : Nat → ClassId) (ad sz : Nat) (τ : Nat → Nat → Nat) (pv0 : Nat → Nat → Value) (L : List Nat) (f : Nat → va_E) (hI : kI dA τ pv0 L f) (x bl rl kl ba ra ka fr nb nr nk : Nat) (hW : kW τ pv0 ad x bl rl kl ba ra ka fr nb nr nk) (n k : Int32) (hlt : l.stackTraces = false) : vx_Met l yX3_about wsX3_about ({ frames := 7, cells := 2, slots := 12, locals := 103 } : Room) (va_Pc [.ref x, .int n, .int k] (kB dC dI dA ad sz L f)) (va_Qi (fun r u => kPost dA τ pv0 ad x ba ra nb nr nb nr u) (kR dC dI dA (va_A (va_pl L f) sz)) (va_A (va_pl L f) sz)) (kX dC dI (fun E u => (E = "java/lang/IndexOutOfBoundsException") ∧ kI dA τ pv0 u.1 u.2) (va_A (va_pl L f) sz)) 2 12 (va_A (va_pl L f) sz) := by
  refine vx_ofW (cc := cX3_about) (maxL := 4) (ret := (some .int)) (by decide) rfl ?_
  intro p e s m args below meth c s₁ B hml ht hv
  obtain ⟨rfl, hsz, hP, hK, hD0, hE⟩ := hv
  have hx := B.exec
  have hb := B.bytes
  have hr := B.returns
  have hts := atoms_spec (ws := wsX3_about) B.pre
  have hown : s.vm.findClass RX3 = some m.cls := findClass_of_methodNamed B.named
  have hlocks := B.notSynchronized
  have a_148 : ∀ w ∈ (vx_atS RX3 148 "java/lang/IndexOutOfBoundsException" ["java/lang/RuntimeException", "java/lang/Exception"]).filter goodWord, w ∈ wsX3_about := fun _ h => List.mem_cons_of_mem _ (List.mem_append_right _ h)
  have i_X0 : ∀ w ∈ u_ws RX0 TX0 16, w ∈ wsX3_about := by decide +kernel
  subst hsz
  have hD := hD0.self (sz := s.heap.size)
  generalize hAe : va_A (va_pl L f) s.heap.size = A at hD hE ⊢
  have hA : ∀ q : Nat, s.heap.size ≤ q → A q := fun q h => by rw [← hAe]; exact Or.inr h
  have hS : va_S A s.heap s.heap [] := va_S.rf
  have hP : va_P (dC, dI) vwCl (va_pl L f) s.heap := hP
  have hK : va_K (dC, dI) vwCl (tyA dA) s := hK
  have hl := lv_entry ([.ref x, .int n, .int k]) (n := 4) (Nat.le_of_ble_eq_true rfl)
  rw [lg_entry_eq]
  generalize (lg_sl ([.ref x, .int n, .int k]) ++ List.replicate (4 - (lg_sl ([.ref x, .int n, .int k])).length) Slot.unset).toArray = ls at hl ⊢
  have hl : lv_has ls 4 [(0, .ref x), (1, .int n), (2, .int k)] := hl
  have hnb := hW.lnb
  have hnr := hW.lnr
  have hnk := hW.lnk
  have hF : kFr kPm τ pv0 τ pv0 := kFr.rf
  have hW00 := hW
  refine lv_aload_n hx hb dX3_about_0 rfl (lv_at hl 0 rfl) ?_
  refine lv_iload_n hx hb dX3_about_1 rfl (lv_at hl 1 rfl) ?_
  refine kd_xq (vx_runV (As := [.int n]) (rest := []) ⟨hx, hb, hml, hown, hts⟩ (k_bodyAt l dC dI dA ad _ τ pv0 _ _ hI x bl rl kl ba ra ka fr nb nr nk hW n hlt) (cwV 1 hts gX3_about_X3_bodyAt rfl rfl rfl (by decide +kernel) ⟨Nat.le_of_ble_eq_true rfl, Nat.le_of_ble_eq_true rfl⟩) (kd_preV hP hD hK hS hA hE hI hW.tx rfl rfl) rfl rfl hl.1 rfl (lv_room (Nat.le_of_ble_eq_true rfl)) dX3_about_2 ⟨Nat.le_of_ble_eq_true rfl, Nat.le_of_ble_eq_true rfl⟩) hD hS hA (fun E ce q9 u_1 H locs hw hP hD hS hce hcv hcl => ?_) (fun r_2 u_1 H locs hw hP hD hS => ?_)
  · obtain ⟨hE9, hI⟩ := hw
    have hE9 := hE9.1
    exact vx_out (fun x h => (ht x h).elim) hlocks hce hcv hcl (fun t ht hvm => ⟨(u_1.1, u_1.2), trivial, ⟨⟨hE9, hI⟩, by rw [ht]; exact hP, hD⟩, hS.F ht⟩) hS.2.2 (Nat.le_of_ble_eq_true rfl) (Nat.le_of_ble_eq_true rfl)
  · obtain ⟨j_4, hj_4, rfl, q_3, rfl, pq_3, tq_3, nq_3, hI⟩ := hw
    refine W.eq (g2 := F0 m 5 ls [.ref q_3]) rfl ?_
    refine lv_astore_n (lv' := [(3, .ref q_3), (0, .ref x), (1, .int (nI j_4)), (2, .int k)]) hx hb dX3_about_5 rfl hl (by decide) rfl (fun ls hl => ?_)
    refine lv_iload_n hx hb dX3_about_6 rfl (lv_at hl 3 rfl) ?_
    rcases kz_spl (n := k) (M := 3) 3 (by decide) with hout | ⟨j9, hj9, hj8⟩
    · refine lv_tableOut (tgt := 68) hx hb dX3_about_7 (kz_out hout) (by decide) ?_
      obtain ⟨sa_5, hsa_5⟩ := hE.str 279 "what is not 0 .. 3" (by decide +kernel)
      have hat : ∀ w ∈ (vx_atS RX3 148 "java/lang/IndexOutOfBoundsException" ["java/lang/RuntimeException", "java/lang/Exception"]), w.before _ s = true := vx_hat (B := kx_non "java/lang/IndexOutOfBoundsException") (fun w h => hts w (a_148 w h)) (by decide +kernel) (hE.non "java/lang/IndexOutOfBoundsException" (by decide +kernel))
      refine W.widen (k := 1) (n := 6) (Nat.le_of_ble_eq_true rfl) (Nat.le_of_ble_eq_true rfl) ?_
      exact vx_throwSW (A := A) (rest := []) hx hb hlt hown (by decide +kernel) (by decide +kernel) (hts (.classLink RX3 144 "java/lang/IndexOutOfBoundsException") (by decide +kernel)) (hts (.initialized "java/lang/IndexOutOfBoundsException") (by decide +kernel)) hsa_5 hat (by decide +kernel) hE.2.2.2.2.2.2.1 hE.2.2.2.2.2.2.2.1 hS (hl.1.trans hml.symm) dX3_about_68 dX3_about_71 dX3_about_72 dX3_about_75 dX3_about_78 (fun x h => (ht x h).elim) (Nat.le_of_ble_eq_true rfl) (Nat.le_of_ble_eq_true rfl) (Nat.le_of_ble_eq_true rfl) (Nat.le_of_ble_eq_true rfl) hlocks (fun t hvm hz hk => ⟨(u_1.1, u_1.2), trivial, ⟨⟨rfl, hI⟩, hP.kept (fun k q hq => hk q.1 (hP k q hq).lt), hD⟩, Nat.le_trans hS.1 hz, fun q h1 h2 => (hk q (Nat.lt_of_lt_of_le h1 hS.1)).trans (hS.2.1 q h1 h2)⟩) hS.2.2 (Nat.le_of_ble_eq_true rfl) (Nat.le_of_ble_eq_true rfl)
    · rcases (show j9 = 0 ∨ j9 = 1 ∨ j9 = 2 ∨ j9 = 3 by omega) with rfl | rfl | rfl | rfl
      · obtain rfl : k = 0 := hj8
        refine lv_tableIn (tgt := 36) hx hb dX3_about_7 (by decide) (by decide) rfl (by decide) ?_
        refine lv_aload_n hx hb dX3_about_36 rfl (lv_at hl 1 rfl) ?_
        refine kd_callv (va_runV (As := []) (rest := []) ⟨hx, hb, hml, hown, hts⟩ (k_numberIsl l dC dI dA ad _ τ pv0 _ _ hI x bl rl kl ba ra ka fr nb nr nk hW ) (cwV 0 hts gX3_about_X3_numberIslands rfl rfl rfl (by decide +kernel) ⟨Nat.le_of_ble_eq_true rfl, Nat.le_of_ble_eq_true rfl⟩) (kd_preV hP hD hK hS hA hE hI hW.tx rfl rfl) rfl rfl hl.1 rfl (lv_room (Nat.le_of_ble_eq_true rfl)) dX3_about_37 ⟨Nat.le_of_ble_eq_true rfl, Nat.le_of_ble_eq_true rfl⟩) hD hS hA (fun u_6 H locs hw hP hD hS => ?_)
        obtain ⟨pv, hF9, hI⟩ := hw
        have hF := hF.trans (hF9.weak kPm_k)
        have hW := hW.frk hF9
        refine lv_aload_n hx hb dX3_about_40 rfl (lv_at hl 0 rfl) ?_
        refine kp_get hx hb hts i_X0 hown hK hP hI tq_3 rfl rfl 14 (by decide) (by decide) (hts (.fieldLink RX3 270 "IslandSolver$Body" "island" "I") (by decide +kernel)) (fun _ h9 => h9) dX3_about_41 (kq_L0 rfl fun x_7 w_9 => ?_)
        refine vx_ret ?_
        refine W.widen (k := 2) (n := 12) (Nat.le_of_ble_eq_true rfl) (Nat.le_of_ble_eq_true rfl) ?_
        exact W.iret (v := x_7) hx hb hr (fun t ht hW9 => ⟨⟨x_7, (u_6.1, u_6.2), rfl, ⟨_, _, bl, rl, kl, ba, ra, ka, fr, nk, hF.weak kPm_C, hW, hW00.eqB hF (fun _ => rfl), fun i hi _ => hW00.eqR hF (fun _ => rfl) i hi, hI⟩, by rw [ht]; exact hP, va_K.moved hW9.alike hK, hD⟩, hS.F ht⟩) hS.2.2 dX3_about_44
      · obtain rfl : k = 1 := hj8
        refine lv_tableIn (tgt := 45) hx hb dX3_about_7 (by decide) (by decide) rfl (by decide) ?_
        refine lv_aload_n hx hb dX3_about_45 rfl (lv_at hl 0 rfl) ?_
        refine kp_get hx hb hts i_X0 hown hK hP hI tq_3 rfl rfl 11 (by decide) (by decide) (hts (.fieldLink RX3 169 "IslandSolver$Body" "asleep" "Z") (by decide +kernel)) (fun _ h9 => h9) dX3_about_46 (kq_Z fun x_10 h_11 => ?_)
        refine lv_if_eq (tgt := 56) hx hb dX3_about_49 (by decide) (fun c_12 => ?_) (fun c_12 => ?_)
        · subst c_12
          refine lv_iconst (v := 0) hx hb dX3_about_56 (by decide) ?_
          refine vx_ret ?_
          refine W.widen (k := 2) (n := 12) (Nat.le_of_ble_eq_true rfl) (Nat.le_of_ble_eq_true rfl) ?_
          exact W.iret (v := 0) hx hb hr (fun t ht hW9 => ⟨⟨0, (u_1.1, u_1.2), rfl, ⟨_, _, bl, rl, kl, ba, ra, ka, fr, nk, hF.weak kPm_C, hW, hW00.eqB hF (fun _ => rfl), fun i hi _ => hW00.eqR hF (fun _ => rfl) i hi, hI⟩, by rw [ht]; exact hP, va_K.moved hW9.alike hK, hD⟩, hS.F ht⟩) hS.2.2 dX3_about_57
        · obtain rfl : x_10 = 1 := (h_11).resolve_left c_12
          refine lv_iconst (v := 1) hx hb dX3_about_52 (by decide) ?_
          refine lv_goto (tgt := 57) hx hb dX3_about_53 (by decide) ?_
          refine vx_ret ?_
          refine W.widen (k := 2) (n := 12) (Nat.le_of_ble_eq_true rfl) (Nat.le_of_ble_eq_true rfl) ?_
          exact W.iret (v := 1) hx hb hr (fun t ht hW9 => ⟨⟨1, (u_1.1, u_1.2), rfl, ⟨_, _, bl, rl, kl, ba, ra, ka, fr, nk, hF.weak kPm_C, hW, hW00.eqB hF (fun _ => rfl), fun i hi _ => hW00.eqR hF (fun _ => rfl) i hi, hI⟩, by rw [ht]; exact hP, va_K.moved hW9.alike hK, hD⟩, hS.F ht⟩) hS.2.2 dX3_about_57
      · obtain rfl : k = 2 := hj8
        refine lv_tableIn (tgt := 58) hx hb dX3_about_7 (by decide) (by decide) rfl (by decide) ?_
        refine lv_aload_n hx hb dX3_about_58 rfl (lv_at hl 0 rfl) ?_
        refine kp_get hx hb hts i_X0 hown hK hP hI tq_3 rfl rfl 12 (by decide) (by decide) (hts (.fieldLink RX3 273 "IslandSolver$Body" "quiet" "I") (by decide +kernel)) (fun _ h9 => h9) dX3_about_59 (kq_I fun x_13 => ?_)
        refine vx_ret ?_
        refine W.widen (k := 2) (n := 12) (Nat.le_of_ble_eq_true rfl) (Nat.le_of_ble_eq_true rfl) ?_
        exact W.iret (v := x_13) hx hb hr (fun t ht hW9 => ⟨⟨x_13, (u_1.1, u_1.2), rfl, ⟨_, _, bl, rl, kl, ba, ra, ka, fr, nk, hF.weak kPm_C, hW, hW00.eqB hF (fun _ => rfl), fun i hi _ => hW00.eqR hF (fun _ => rfl) i hi, hI⟩, by rw [ht]; exact hP, va_K.moved hW9.alike hK, hD⟩, hS.F ht⟩) hS.2.2 dX3_about_62
      · obtain rfl : k = 3 := hj8
        refine lv_tableIn (tgt := 63) hx hb dX3_about_7 (by decide) (by decide) rfl (by decide) ?_
        refine lv_aload_n hx hb dX3_about_63 rfl (lv_at hl 0 rfl) ?_
        refine kp_get hx hb hts i_X0 hown hK hP hI tq_3 rfl rfl 13 (by decide) (by decide) (hts (.fieldLink RX3 276 "IslandSolver$Body" "rowCount" "I") (by decide +kernel)) (fun _ h9 => h9) dX3_about_64 (kq_I fun x_15 => ?_)
        refine vx_ret ?_
        refine W.widen (k := 2) (n := 12) (Nat.le_of_ble_eq_true rfl) (Nat.le_of_ble_eq_true rfl) ?_
        exact W.iret (v := x_15) hx hb hr (fun t ht hW9 => ⟨⟨x_15, (u_1.1, u_1.2), rfl, ⟨_, _, bl, rl, kl, ba, ra, ka, fr, nk, hF.weak kPm_C, hW, hW00.eqB hF (fun _ => rfl), fun i hi _ => hW00.eqR hF (fun _ => rfl) i hi, hI⟩, by rw [ht]; exact hP, va_K.moved hW9.alike hK, hD⟩, hS.F ht⟩) hS.2.2 dX3_about_67
set_option maxHeartbeats 4000000 in
set_option maxRecDepth 100000 in
theorem k_p_ofRow (l : Launch) (dC : Nat → ClassId) (dI : Nat → Nat → Nat) (dA : Nat → ClassId) (ad sz : Nat) (τ : Nat → Nat → Nat) (pv0 : Nat → Nat → Value) (L : List Nat) (f : Nat → va_E) (hI : kI dA τ pv0 L f) (x bl rl kl ba ra ka fr nb nr nk : Nat) (hW : kW τ pv0 ad x bl rl kl ba ra ka fr nb nr nk) (n k : Int32) (hlt : l.stackTraces = false) : vx_Met l yX3_ofRow wsX3_ofRow ({ frames := 7, cells := 2, slots := 12, locals := 103 } : Room) (va_Pc [.ref x, .int n, .int k] (kB dC dI dA ad sz L f)) (va_Qf (fun r u => fb 1904214016 r ∧ kPost dA τ pv0 ad x ba ra nb nr nb nr u) (kR dC dI dA (va_A (va_pl L f) sz)) (va_A (va_pl L f) sz)) (kX dC dI (fun E u => (E = "java/lang/IndexOutOfBoundsException") ∧ kI dA τ pv0 u.1 u.2) (va_A (va_pl L f) sz)) 2 12 (va_A (va_pl L f) sz) := by
  refine vx_ofW (cc := cX3_ofRow) (maxL := 4) (ret := (some .float)) (by decide) rfl ?_
  intro p e s m args below meth c s₁ B hml ht hv
  obtain ⟨rfl, hsz, hP, hK, hD0, hE⟩ := hv
  have hx := B.exec
  have hb := B.bytes
  have hr := B.returns
  have hts := atoms_spec (ws := wsX3_ofRow) B.pre
  have hown : s.vm.findClass RX3 = some m.cls := findClass_of_methodNamed B.named
  have hlocks := B.notSynchronized
  have a_148 : ∀ w ∈ (vx_atS RX3 148 "java/lang/IndexOutOfBoundsException" ["java/lang/RuntimeException", "java/lang/Exception"]).filter goodWord, w ∈ wsX3_ofRow := fun _ h => List.mem_cons_of_mem _ (List.mem_append_right _ h)
  have i_X1 : ∀ w ∈ u_ws RX1 TX1 18, w ∈ wsX3_ofRow := by decide +kernel
  subst hsz
  have hD := hD0.self (sz := s.heap.size)
  generalize hAe : va_A (va_pl L f) s.heap.size = A at hD hE ⊢
  have hA : ∀ q : Nat, s.heap.size ≤ q → A q := fun q h => by rw [← hAe]; exact Or.inr h
  have hS : va_S A s.heap s.heap [] := va_S.rf
  have hP : va_P (dC, dI) vwCl (va_pl L f) s.heap := hP
  have hK : va_K (dC, dI) vwCl (tyA dA) s := hK
  have hl := lv_entry ([.ref x, .int n, .int k]) (n := 4) (Nat.le_of_ble_eq_true rfl)
  rw [lg_entry_eq]
  generalize (lg_sl ([.ref x, .int n, .int k]) ++ List.replicate (4 - (lg_sl ([.ref x, .int n, .int k])).length) Slot.unset).toArray = ls at hl ⊢
  have hl : lv_has ls 4 [(0, .ref x), (1, .int n), (2, .int k)] := hl
  have hnb := hW.lnb
  have hnr := hW.lnr
  have hnk := hW.lnk
  have hF : kFr kPm τ pv0 τ pv0 := kFr.rf
  have hW00 := hW
  refine lv_aload_n hx hb dX3_ofRow_0 rfl (lv_at hl 0 rfl) ?_
  refine lv_iload_n hx hb dX3_ofRow_1 rfl (lv_at hl 1 rfl) ?_
  refine kd_xq (vx_runV (As := [.int n]) (rest := []) ⟨hx, hb, hml, hown, hts⟩ (k_rowAt l dC dI dA ad _ τ pv0 _ _ hI x bl rl kl ba ra ka fr nb nr nk hW n hlt) (cwV 1 hts gX3_ofRow_X3_rowAt rfl rfl rfl (by decide +kernel) ⟨Nat.le_of_ble_eq_true rfl, Nat.le_of_ble_eq_true rfl⟩) (kd_preV hP hD hK hS hA hE hI hW.tx rfl rfl) rfl rfl hl.1 rfl (lv_room (Nat.le_of_ble_eq_true rfl)) dX3_ofRow_2 ⟨Nat.le_of_ble_eq_true rfl, Nat.le_of_ble_eq_true rfl⟩) hD hS hA (fun E ce q9 u_1 H locs hw hP hD hS hce hcv hcl => ?_) (fun r_2 u_1 H locs hw hP hD hS => ?_)
  · obtain ⟨hE9, hI⟩ := hw
    have hE9 := hE9.1
    exact vx_out (fun x h => (ht x h).elim) hlocks hce hcv hcl (fun t ht hvm => ⟨(u_1.1, u_1.2), trivial, ⟨⟨hE9, hI⟩, by rw [ht]; exact hP, hD⟩, hS.F ht⟩) hS.2.2 (Nat.le_of_ble_eq_true rfl) (Nat.le_of_ble_eq_true rfl)
  · obtain ⟨j_4, hj_4, rfl, q_3, rfl, pq_3, tq_3, nq_3, hI⟩ := hw
    refine W.eq (g2 := F0 m 5 ls [.ref q_3]) rfl ?_
    refine lv_astore_n (lv' := [(3, .ref q_3), (0, .ref x), (1, .int (nI j_4)), (2, .int k)]) hx hb dX3_ofRow_5 rfl hl (by decide) rfl (fun ls hl => ?_)
    refine lv_iload_n hx hb dX3_ofRow_6 rfl (lv_at hl 3 rfl) ?_
    rcases kz_spl (n := k) (M := 2) 2 (by decide) with hout | ⟨j9, hj9, hj8⟩
    · refine lv_tableOut (tgt := 51) hx hb dX3_ofRow_7 (kz_out hout) (by decide) ?_
      obtain ⟨sa_5, hsa_5⟩ := hE.str 294 "what is not 0 .. 2" (by decide +kernel)
      have hat : ∀ w ∈ (vx_atS RX3 148 "java/lang/IndexOutOfBoundsException" ["java/lang/RuntimeException", "java/lang/Exception"]), w.before _ s = true := vx_hat (B := kx_non "java/lang/IndexOutOfBoundsException") (fun w h => hts w (a_148 w h)) (by decide +kernel) (hE.non "java/lang/IndexOutOfBoundsException" (by decide +kernel))
      refine W.widen (k := 1) (n := 6) (Nat.le_of_ble_eq_true rfl) (Nat.le_of_ble_eq_true rfl) ?_
      exact vx_throwSW (A := A) (rest := []) hx hb hlt hown (by decide +kernel) (by decide +kernel) (hts (.classLink RX3 144 "java/lang/IndexOutOfBoundsException") (by decide +kernel)) (hts (.initialized "java/lang/IndexOutOfBoundsException") (by decide +kernel)) hsa_5 hat (by decide +kernel) hE.2.2.2.2.2.2.1 hE.2.2.2.2.2.2.2.1 hS (hl.1.trans hml.symm) dX3_ofRow_51 dX3_ofRow_54 dX3_ofRow_55 dX3_ofRow_58 dX3_ofRow_61 (fun x h => (ht x h).elim) (Nat.le_of_ble_eq_true rfl) (Nat.le_of_ble_eq_true rfl) (Nat.le_of_ble_eq_true rfl) (Nat.le_of_ble_eq_true rfl) hlocks (fun t hvm hz hk => ⟨(u_1.1, u_1.2), trivial, ⟨⟨rfl, hI⟩, hP.kept (fun k q hq => hk q.1 (hP k q hq).lt), hD⟩, Nat.le_trans hS.1 hz, fun q h1 h2 => (hk q (Nat.lt_of_lt_of_le h1 hS.1)).trans (hS.2.1 q h1 h2)⟩) hS.2.2 (Nat.le_of_ble_eq_true rfl) (Nat.le_of_ble_eq_true rfl)
    · rcases (show j9 = 0 ∨ j9 = 1 ∨ j9 = 2 by omega) with rfl | rfl | rfl
      · obtain rfl : k = 0 := hj8
        refine lv_tableIn (tgt := 32) hx hb dX3_ofRow_7 (by decide) (by decide) rfl (by decide) ?_
        refine lv_aload_n hx hb dX3_ofRow_32 rfl (lv_at hl 0 rfl) ?_
        refine kp_get hx hb hts i_X1 hown hK hP hI tq_3 rfl rfl 12 (by decide) (by decide) (hts (.fieldLink RX3 281 "IslandSolver$Row" "impulse" "F") (by decide +kernel)) (fun _ h9 => h9) dX3_ofRow_33 (kq_56 fun x_6 h_7 h_7_2 => ?_)
        refine vx_ret ?_
        refine W.widen (k := 2) (n := 12) (Nat.le_of_ble_eq_true rfl) (Nat.le_of_ble_eq_true rfl) ?_
        exact W.fret (v := x_6) hx hb hr (fun t ht hW9 => ⟨⟨x_6, (u_1.1, u_1.2), rfl, ⟨(fb_le h_7 (by decide)), ⟨_, _, bl, rl, kl, ba, ra, ka, fr, nk, hF.weak kPm_C, hW, hW00.eqB hF (fun _ => rfl), fun i hi _ => hW00.eqR hF (fun _ => rfl) i hi, hI⟩⟩, by rw [ht]; exact hP, va_K.moved hW9.alike hK, hD⟩, hS.F ht⟩) hS.2.2 dX3_ofRow_36
      · obtain rfl : k = 1 := hj8
        refine lv_tableIn (tgt := 37) hx hb dX3_ofRow_7 (by decide) (by decide) rfl (by decide) ?_
        refine lv_aload_n hx hb dX3_ofRow_37 rfl (lv_at hl 0 rfl) ?_
        refine kd_callf (va_runV (As := []) (rest := []) ⟨hx, hb, hml, hown, hts⟩ (k_speed l dC dI dA ad _ τ pv0 _ _ hI q_3 tq_3) (cwV 0 hts gX3_ofRow_X1_speed rfl rfl rfl (by decide +kernel) ⟨Nat.le_of_ble_eq_true rfl, Nat.le_of_ble_eq_true rfl⟩) (kd_preV hP hD hK hS hA hE hI tq_3 rfl rfl) rfl rfl hl.1 rfl (lv_room (Nat.le_of_ble_eq_true rfl)) dX3_ofRow_38 ⟨Nat.le_of_ble_eq_true rfl, Nat.le_of_ble_eq_true rfl⟩) hD hS hA (fun r_9 u_8 H locs hw hP hD hS => ?_)
        obtain ⟨hr_9, hI⟩ := hw
        refine vx_ret ?_
        refine W.widen (k := 2) (n := 12) (Nat.le_of_ble_eq_true rfl) (Nat.le_of_ble_eq_true rfl) ?_
        exact W.fret (v := r_9) hx hb hr (fun t ht hW9 => ⟨⟨r_9, (u_8.1, u_8.2), rfl, ⟨(fb_le hr_9 (by decide)), ⟨_, _, bl, rl, kl, ba, ra, ka, fr, nk, hF.weak kPm_C, hW, hW00.eqB hF (fun _ => rfl), fun i hi _ => hW00.eqR hF (fun _ => rfl) i hi, hI⟩⟩, by rw [ht]; exact hP, va_K.moved hW9.alike hK, hD⟩, hS.F ht⟩) hS.2.2 dX3_ofRow_41
      · obtain rfl : k = 2 := hj8
        refine lv_tableIn (tgt := 42) hx hb dX3_ofRow_7 (by decide) (by decide) rfl (by decide) ?_
        refine lv_aload_n hx hb dX3_ofRow_42 rfl (lv_at hl 0 rfl) ?_
        refine kd_callv (va_runV (As := []) (rest := []) ⟨hx, hb, hml, hown, hts⟩ (k_measure l dC dI dA ad _ τ pv0 _ _ hI q_3 tq_3) (cwV 0 hts gX3_ofRow_X1_measure rfl rfl rfl (by decide +kernel) ⟨Nat.le_of_ble_eq_true rfl, Nat.le_of_ble_eq_true rfl⟩) (kd_preV hP hD hK hS hA hE hI tq_3 rfl rfl) rfl rfl hl.1 rfl (lv_room (Nat.le_of_ble_eq_true rfl)) dX3_ofRow_43 ⟨Nat.le_of_ble_eq_true rfl, Nat.le_of_ble_eq_true rfl⟩) hD hS hA (fun u_10 H locs hw hP hD hS => ?_)
        obtain ⟨sx_11, sd_12, hm_13, hI⟩ := hw
        have hF := hF.trans (kFr.ms (P := kPm) (x := .float sx_11) (d := .int sd_12) tq_3 rfl rfl)
        have hW := hW.frk (kFr.ms (P := kPk) (x := .float sx_11) (d := .int sd_12) tq_3 rfl rfl)
        refine lv_aload_n hx hb dX3_ofRow_46 rfl (lv_at hl 0 rfl) ?_
        refine kp_get hx hb hts i_X1 hown hK hP hI tq_3 rfl rfl 13 (by decide) (by decide) (hts (.fieldLink RX3 291 "IslandSolver$Row" "stiffness" "F") (by decide +kernel)) (fun _ h9 => h9) dX3_ofRow_47 (kq_P (v0 := .float sx_11) rfl ((kup_ne (Or.inr (by decide))).trans kup_self) fun h_15 => ?_)
        have h_15 := kz_ofF (by decide) h_15
        refine vx_ret ?_
        refine W.widen (k := 2) (n := 12) (Nat.le_of_ble_eq_true rfl) (Nat.le_of_ble_eq_true rfl) ?_
        exact W.fret (v := sx_11) hx hb hr (fun t ht hW9 => ⟨⟨sx_11, (u_10.1, u_10.2), rfl, ⟨(fb_le h_15 (by decide)), ⟨_, _, bl, rl, kl, ba, ra, ka, fr, nk, hF.weak kPm_C, hW, hW00.eqB hF (fun _ => rfl), fun i hi _ => hW00.eqR hF (fun _ => rfl) i hi, hI⟩⟩, by rw [ht]; exact hP, va_K.moved hW9.alike hK, hD⟩, hS.F ht⟩) hS.2.2 dX3_ofRow_50
set_option maxHeartbeats 4000000 in
set_option maxRecDepth 100000 in
theorem k_p_count (l : Launch) (dC : Nat → ClassId) (dI : Nat → Nat → Nat) (dA : Nat → ClassId) (ad sz : Nat) (τ : Nat → Nat → Nat) (pv0 : Nat → Nat → Value) (L : List Nat) (f : Nat → va_E) (hI : kI dA τ pv0 L f) (x bl rl kl ba ra ka fr nb nr nk : Nat) (hW : kW τ pv0 ad x bl rl kl ba ra ka fr nb nr nk) (n : Int32) (hlt : l.stackTraces = false) : vx_Met l yX3_count wsX3_count ({ frames := 6, cells := 2, slots := 12, locals := 111 } : Room) (va_Pc [.ref x, .int n] (kB dC dI dA ad sz L f)) (va_Qi (fun r u => kPost dA τ pv0 ad x ba ra nb nr nb nr u) (kR dC dI dA (va_A (va_pl L f) sz)) (va_A (va_pl L f) sz)) (kX dC dI (fun E u => (E = "java/lang/IndexOutOfBoundsException") ∧ kI dA τ pv0 u.1 u.2) (va_A (va_pl L f) sz)) 2 12 (va_A (va_pl L f) sz) := by
  refine vx_ofW (cc := cX3_count) (maxL := 2) (ret := (some .int)) (by decide) rfl ?_
  intro p e s m args below meth c s₁ B hml ht hv
  obtain ⟨rfl, hsz, hP, hK, hD0, hE⟩ := hv
  have hx := B.exec
  have hb := B.bytes
  have hr := B.returns
  have hts := atoms_spec (ws := wsX3_count) B.pre
  have hown : s.vm.findClass RX3 = some m.cls := findClass_of_methodNamed B.named
  have hlocks := B.notSynchronized
  have a_148 : ∀ w ∈ (vx_atS RX3 148 "java/lang/IndexOutOfBoundsException" ["java/lang/RuntimeException", "java/lang/Exception"]).filter goodWord, w ∈ wsX3_count := fun _ h => List.mem_cons_of_mem _ (List.mem_append_right _ h)
  have i_X3 : ∀ w ∈ u_ws RX3 TX3 16, w ∈ wsX3_count := by decide +kernel
  subst hsz
  have hD := hD0.self (sz := s.heap.size)
  generalize hAe : va_A (va_pl L f) s.heap.size = A at hD hE ⊢
  have hA : ∀ q : Nat, s.heap.size ≤ q → A q := fun q h => by rw [← hAe]; exact Or.inr h
  have hS : va_S A s.heap s.heap [] := va_S.rf
  have hP : va_P (dC, dI) vwCl (va_pl L f) s.heap := hP
  have hK : va_K (dC, dI) vwCl (tyA dA) s := hK
  have hl := lv_entry ([.ref x, .int n]) (n := 2) (Nat.le_of_ble_eq_true rfl)
  rw [lg_entry_eq]
  generalize (lg_sl ([.ref x, .int n]) ++ List.replicate (2 - (lg_sl ([.ref x, .int n])).length) Slot.unset).toArray = ls at hl ⊢
  have hl : lv_has ls 2 [(0, .ref x), (1, .int n)] := hl
  have hnb := hW.lnb
  have hnr := hW.lnr
  have hnk := hW.lnk
  have hF : kFr kPm τ pv0 τ pv0 := kFr.rf
  have hW00 := hW
  refine lv_iload_n hx hb dX3_count_0 rfl (lv_at hl 1 rfl) ?_
  rcases kz_spl (n := n) (M := 6) 6 (by decide) with hout | ⟨j9, hj9, hj8⟩
  · refine lv_tableOut (tgt := 102) hx hb dX3_count_1 (kz_out hout) (by decide) ?_
    obtain ⟨sa_1, hsa_1⟩ := hE.str 302 "what is not 0 .. 6" (by decide +kernel)
    have hat : ∀ w ∈ (vx_atS RX3 148 "java/lang/IndexOutOfBoundsException" ["java/lang/RuntimeException", "java/lang/Exception"]), w.before _ s = true := vx_hat (B := kx_non "java/lang/IndexOutOfBoundsException") (fun w h => hts w (a_148 w h)) (by decide +kernel) (hE.non "java/lang/IndexOutOfBoundsException" (by decide +kernel))
    refine W.widen (k := 1) (n := 6) (Nat.le_of_ble_eq_true rfl) (Nat.le_of_ble_eq_true rfl) ?_
    exact vx_throwSW (A := A) (rest := []) hx hb hlt hown (by decide +kernel) (by decide +kernel) (hts (.classLink RX3 144 "java/lang/IndexOutOfBoundsException") (by decide +kernel)) (hts (.initialized "java/lang/IndexOutOfBoundsException") (by decide +kernel)) hsa_1 hat (by decide +kernel) hE.2.2.2.2.2.2.1 hE.2.2.2.2.2.2.2.1 hS (hl.1.trans hml.symm) dX3_count_102 dX3_count_105 dX3_count_106 dX3_count_109 dX3_count_112 (fun x h => (ht x h).elim) (Nat.le_of_ble_eq_true rfl) (Nat.le_of_ble_eq_true rfl) (Nat.le_of_ble_eq_true rfl) (Nat.le_of_ble_eq_true rfl) hlocks (fun t hvm hz hk => ⟨(L, f), trivial, ⟨⟨rfl, hI⟩, hP.kept (fun k q hq => hk q.1 (hP k q hq).lt), hD⟩, Nat.le_trans hS.1 hz, fun q h1 h2 => (hk q (Nat.lt_of_lt_of_le h1 hS.1)).trans (hS.2.1 q h1 h2)⟩) hS.2.2 (Nat.le_of_ble_eq_true rfl) (Nat.le_of_ble_eq_true rfl)
  · rcases (show j9 = 0 ∨ j9 = 1 ∨ j9 = 2 ∨ j9 = 3 ∨ j9 = 4 ∨ j9 = 5 ∨ j9 = 6 by omega) with rfl | rfl | rfl | rfl | rfl | rfl | rfl
    · obtain rfl : n = 0 := hj8
      refine lv_tableIn (tgt := 44) hx hb dX3_count_1 (by decide) (by decide) rfl (by decide) ?_
      refine lv_aload_n hx hb dX3_count_44 rfl (lv_at hl 0 rfl) ?_
      refine kp_get hx hb hts i_X3 hown hK hP hI hW.tx rfl rfl 0 (by decide) (by decide) (hts (.fieldLink RX3 10 "IslandSolver" "bodies" "Ljava/util/ArrayList;") (by decide +kernel)) (fun _ h9 => h9) dX3_count_45 (kq_P (v0 := .ref bl) rfl hW.p0 fun h_3 => ?_)
      refine kd_calli (va_runV (As := []) (rest := []) ⟨hx, hb, hml, hown, hts⟩ (k_size7 l dC dI dA ad _ τ pv0 _ _ hI bl nb hW.lb.1 hW.lb.2.2.1) (cwV 0 hts gX3_count_Jx4a65c_size_8abf5 rfl rfl rfl (by decide +kernel) ⟨Nat.le_of_ble_eq_true rfl, Nat.le_of_ble_eq_true rfl⟩) (kd_preV hP hD hK hS hA hE hI hW.lb.1 rfl rfl) rfl rfl hl.1 rfl (lv_room (Nat.le_of_ble_eq_true rfl)) dX3_count_48 ⟨Nat.le_of_ble_eq_true rfl, Nat.le_of_ble_eq_true rfl⟩) hD hS hA (fun r_5 u_4 H locs hw hP hD hS => ?_)
      obtain ⟨rfl, hI⟩ := hw
      refine vx_ret ?_
      refine W.widen (k := 2) (n := 12) (Nat.le_of_ble_eq_true rfl) (Nat.le_of_ble_eq_true rfl) ?_
      exact W.iret (v := nI nb) hx hb hr (fun t ht hW9 => ⟨⟨nI nb, (u_4.1, u_4.2), rfl, ⟨_, _, bl, rl, kl, ba, ra, ka, fr, nk, hF.weak kPm_C, hW, hW00.eqB hF (fun _ => rfl), fun i hi _ => hW00.eqR hF (fun _ => rfl) i hi, hI⟩, by rw [ht]; exact hP, va_K.moved hW9.alike hK, hD⟩, hS.F ht⟩) hS.2.2 dX3_count_51
    · obtain rfl : n = 1 := hj8
      refine lv_tableIn (tgt := 52) hx hb dX3_count_1 (by decide) (by decide) rfl (by decide) ?_
      refine lv_aload_n hx hb dX3_count_52 rfl (lv_at hl 0 rfl) ?_
      refine kp_get hx hb hts i_X3 hown hK hP hI hW.tx rfl rfl 1 (by decide) (by decide) (hts (.fieldLink RX3 16 "IslandSolver" "rows" "Ljava/util/ArrayList;") (by decide +kernel)) (fun _ h9 => h9) dX3_count_53 (kq_P (v0 := .ref rl) rfl hW.p1 fun h_7 => ?_)
      refine kd_calli (va_runV (As := []) (rest := []) ⟨hx, hb, hml, hown, hts⟩ (k_size8 l dC dI dA ad _ τ pv0 _ _ hI rl nr hW.lr.1 hW.lr.2.2.1) (cwV 0 hts gX3_count_Jx4a65c_size_8abf5 rfl rfl rfl (by decide +kernel) ⟨Nat.le_of_ble_eq_true rfl, Nat.le_of_ble_eq_true rfl⟩) (kd_preV hP hD hK hS hA hE hI hW.lr.1 rfl rfl) rfl rfl hl.1 rfl (lv_room (Nat.le_of_ble_eq_true rfl)) dX3_count_56 ⟨Nat.le_of_ble_eq_true rfl, Nat.le_of_ble_eq_true rfl⟩) hD hS hA (fun r_9 u_8 H locs hw hP hD hS => ?_)
      obtain ⟨rfl, hI⟩ := hw
      refine vx_ret ?_
      refine W.widen (k := 2) (n := 12) (Nat.le_of_ble_eq_true rfl) (Nat.le_of_ble_eq_true rfl) ?_
      exact W.iret (v := nI nr) hx hb hr (fun t ht hW9 => ⟨⟨nI nr, (u_8.1, u_8.2), rfl, ⟨_, _, bl, rl, kl, ba, ra, ka, fr, nk, hF.weak kPm_C, hW, hW00.eqB hF (fun _ => rfl), fun i hi _ => hW00.eqR hF (fun _ => rfl) i hi, hI⟩, by rw [ht]; exact hP, va_K.moved hW9.alike hK, hD⟩, hS.F ht⟩) hS.2.2 dX3_count_59
    · obtain rfl : n = 2 := hj8
      refine lv_tableIn (tgt := 60) hx hb dX3_count_1 (by decide) (by decide) rfl (by decide) ?_
      refine lv_aload_n hx hb dX3_count_60 rfl (lv_at hl 0 rfl) ?_
      refine kd_callv (va_runV (As := []) (rest := []) ⟨hx, hb, hml, hown, hts⟩ (k_numberIsl l dC dI dA ad _ τ pv0 _ _ hI x bl rl kl ba ra ka fr nb nr nk hW ) (cwV 0 hts gX3_count_X3_numberIslands rfl rfl rfl (by decide +kernel) ⟨Nat.le_of_ble_eq_true rfl, Nat.le_of_ble_eq_true rfl⟩) (kd_preV hP hD hK hS hA hE hI hW.tx rfl rfl) rfl rfl hl.1 rfl (lv_room (Nat.le_of_ble_eq_true rfl)) dX3_count_61 ⟨Nat.le_of_ble_eq_true rfl, Nat.le_of_ble_eq_true rfl⟩) hD hS hA (fun u_10 H locs hw hP hD hS => ?_)
      obtain ⟨pv, hF9, hI⟩ := hw
      have hF := hF.trans (hF9.weak kPm_k)
      have hW := hW.frk hF9
      refine lv_aload_n hx hb dX3_count_64 rfl (lv_at hl 0 rfl) ?_
      refine kp_get hx hb hts i_X3 hown hK hP hI hW.tx rfl rfl 12 (by decide) (by decide) (hts (.fieldLink RX3 56 "IslandSolver" "islandCount" "I") (by decide +kernel)) (fun _ h9 => h9) dX3_count_65 (kq_L6 rfl fun x_11 w_13 h_12 => ?_)
      refine vx_ret ?_
      refine W.widen (k := 2) (n := 12) (Nat.le_of_ble_eq_true rfl) (Nat.le_of_ble_eq_true rfl) ?_
      exact W.iret (v := nI x_11) hx hb hr (fun t ht hW9 => ⟨⟨nI x_11, (u_10.1, u_10.2), rfl, ⟨_, _, bl, rl, kl, ba, ra, ka, fr, nk, hF.weak kPm_C, hW, hW00.eqB hF (fun _ => rfl), fun i hi _ => hW00.eqR hF (fun _ => rfl) i hi, hI⟩, by rw [ht]; exact hP, va_K.moved hW9.alike hK, hD⟩, hS.F ht⟩) hS.2.2 dX3_count_68
    · obtain rfl : n = 3 := hj8
      refine lv_tableIn (tgt := 69) hx hb dX3_count_1 (by decide) (by decide) rfl (by decide) ?_
      refine lv_aload_n hx hb dX3_count_69 rfl (lv_at hl 0 rfl) ?_
      refine kd_callv (va_runV (As := []) (rest := []) ⟨hx, hb, hml, hown, hts⟩ (k_numberIsl l dC dI dA ad _ τ pv0 _ _ hI x bl rl kl ba ra ka fr nb nr nk hW ) (cwV 0 hts gX3_count_X3_numberIslands rfl rfl rfl (by decide +kernel) ⟨Nat.le_of_ble_eq_true rfl, Nat.le_of_ble_eq_true rfl⟩) (kd_preV hP hD hK hS hA hE hI hW.tx rfl rfl) rfl rfl hl.1 rfl (lv_room (Nat.le_of_ble_eq_true rfl)) dX3_count_70 ⟨Nat.le_of_ble_eq_true rfl, Nat.le_of_ble_eq_true rfl⟩) hD hS hA (fun u_14 H locs hw hP hD hS => ?_)
      obtain ⟨pv, hF9, hI⟩ := hw
      have hF := hF.trans (hF9.weak kPm_k)
      have hW := hW.frk hF9
      refine lv_aload_n hx hb dX3_count_73 rfl (lv_at hl 0 rfl) ?_
      refine kd_callv (va_runV (As := []) (rest := []) ⟨hx, hb, hml, hown, hts⟩ (k_markAwake l dC dI dA ad _ τ pv _ _ hI x bl rl kl ba ra ka fr nb nr nk hW ) (cwV 0 hts gX3_count_X3_markAwake rfl rfl rfl (by decide +kernel) ⟨Nat.le_of_ble_eq_true rfl, Nat.le_of_ble_eq_true rfl⟩) (kd_preV hP hD hK hS hA hE hI hW.tx rfl rfl) rfl rfl hl.1 rfl (lv_room (Nat.le_of_ble_eq_true rfl)) dX3_count_74 ⟨Nat.le_of_ble_eq_true rfl, Nat.le_of_ble_eq_true rfl⟩) hD hS hA (fun u_15 H locs hw hP hD hS => ?_)
      have hI := hw
      refine lv_aload_n hx hb dX3_count_77 rfl (lv_at hl 0 rfl) ?_
      refine kp_get hx hb hts i_X3 hown hK hP hI hW.tx rfl rfl 12 (by decide) (by decide) (hts (.fieldLink RX3 56 "IslandSolver" "islandCount" "I") (by decide +kernel)) (fun _ h9 => h9) dX3_count_78 (kq_L6 rfl fun x_16 w_18 h_17 => ?_)
      refine lv_aload_n hx hb dX3_count_81 rfl (lv_at hl 0 rfl) ?_
      refine kd_calli (va_runV (As := []) (rest := [.int (nI x_16)]) ⟨hx, hb, hml, hown, hts⟩ (k_awakeIslands l dC dI dA ad _ τ pv _ _ hI x bl rl kl ba ra ka fr nb nr nk hW ) (cwV 0 hts gX3_count_X3_awakeIslands rfl rfl rfl (by decide +kernel) ⟨Nat.le_of_ble_eq_true rfl, Nat.le_of_ble_eq_true rfl⟩) (kd_preV hP hD hK hS hA hE hI hW.tx rfl rfl) rfl rfl hl.1 rfl (lv_room (Nat.le_of_ble_eq_true rfl)) dX3_count_82 ⟨Nat.le_of_ble_eq_true rfl, Nat.le_of_ble_eq_true rfl⟩) hD hS hA (fun r_20 u_19 H locs hw hP hD hS => ?_)
      have hI := hw
      refine lv_isub hx hb dX3_count_85 ?_
      refine lv_topi (fun x_21 ex_21 => ?_)
      refine vx_ret ?_
      refine W.widen (k := 2) (n := 12) (Nat.le_of_ble_eq_true rfl) (Nat.le_of_ble_eq_true rfl) ?_
      exact W.iret (v := x_21) hx hb hr (fun t ht hW9 => ⟨⟨x_21, (u_19.1, u_19.2), rfl, ⟨_, _, bl, rl, kl, ba, ra, ka, fr, nk, hF.weak kPm_C, hW, hW00.eqB hF (fun _ => rfl), fun i hi _ => hW00.eqR hF (fun _ => rfl) i hi, hI⟩, by rw [ht]; exact hP, va_K.moved hW9.alike hK, hD⟩, hS.F ht⟩) hS.2.2 dX3_count_86
    · obtain rfl : n = 4 := hj8
      refine lv_tableIn (tgt := 87) hx hb dX3_count_1 (by decide) (by decide) rfl (by decide) ?_
      refine lv_aload_n hx hb dX3_count_87 rfl (lv_at hl 0 rfl) ?_
      refine kd_calli (va_runV (As := []) (rest := []) ⟨hx, hb, hml, hown, hts⟩ (k_sleepers l dC dI dA ad _ τ pv0 _ _ hI x bl rl kl ba ra ka fr nb nr nk hW ) (cwV 0 hts gX3_count_X3_sleepers rfl rfl rfl (by decide +kernel) ⟨Nat.le_of_ble_eq_true rfl, Nat.le_of_ble_eq_true rfl⟩) (kd_preV hP hD hK hS hA hE hI hW.tx rfl rfl) rfl rfl hl.1 rfl (lv_room (Nat.le_of_ble_eq_true rfl)) dX3_count_88 ⟨Nat.le_of_ble_eq_true rfl, Nat.le_of_ble_eq_true rfl⟩) hD hS hA (fun r_23 u_22 H locs hw hP hD hS => ?_)
      have hI := hw
      refine vx_ret ?_
      refine W.widen (k := 2) (n := 12) (Nat.le_of_ble_eq_true rfl) (Nat.le_of_ble_eq_true rfl) ?_
      exact W.iret (v := r_23) hx hb hr (fun t ht hW9 => ⟨⟨r_23, (u_22.1, u_22.2), rfl, ⟨_, _, bl, rl, kl, ba, ra, ka, fr, nk, hF.weak kPm_C, hW, hW00.eqB hF (fun _ => rfl), fun i hi _ => hW00.eqR hF (fun _ => rfl) i hi, hI⟩, by rw [ht]; exact hP, va_K.moved hW9.alike hK, hD⟩, hS.F ht⟩) hS.2.2 dX3_count_91
    · obtain rfl : n = 5 := hj8
      refine lv_tableIn (tgt := 92) hx hb dX3_count_1 (by decide) (by decide) rfl (by decide) ?_
      refine lv_aload_n hx hb dX3_count_92 rfl (lv_at hl 0 rfl) ?_
      refine kp_get hx hb hts i_X3 hown hK hP hI hW.tx rfl rfl 11 (by decide) (by decide) (hts (.fieldLink RX3 53 "IslandSolver" "steps" "I") (by decide +kernel)) (fun _ h9 => h9) dX3_count_93 (kq_I fun x_24 => ?_)
      refine vx_ret ?_
      refine W.widen (k := 2) (n := 12) (Nat.le_of_ble_eq_true rfl) (Nat.le_of_ble_eq_true rfl) ?_
      exact W.iret (v := x_24) hx hb hr (fun t ht hW9 => ⟨⟨x_24, (L, f), rfl, ⟨_, _, bl, rl, kl, ba, ra, ka, fr, nk, hF.weak kPm_C, hW, hW00.eqB hF (fun _ => rfl), fun i hi _ => hW00.eqR hF (fun _ => rfl) i hi, hI⟩, by rw [ht]; exact hP, va_K.moved hW9.alike hK, hD⟩, hS.F ht⟩) hS.2.2 dX3_count_96
    · obtain rfl : n = 6 := hj8
      refine lv_tableIn (tgt := 97) hx hb dX3_count_1 (by decide) (by decide) rfl (by decide) ?_
      refine lv_aload_n hx hb dX3_count_97 rfl (lv_at hl 0 rfl) ?_
      refine kd_calli (va_runV (As := []) (rest := []) ⟨hx, hb, hml, hown, hts⟩ (k_deadRows l dC dI dA ad _ τ pv0 _ _ hI x bl rl kl ba ra ka fr nb nr nk hW ) (cwV 0 hts gX3_count_X3_deadRows rfl rfl rfl (by decide +kernel) ⟨Nat.le_of_ble_eq_true rfl, Nat.le_of_ble_eq_true rfl⟩) (kd_preV hP hD hK hS hA hE hI hW.tx rfl rfl) rfl rfl hl.1 rfl (lv_room (Nat.le_of_ble_eq_true rfl)) dX3_count_98 ⟨Nat.le_of_ble_eq_true rfl, Nat.le_of_ble_eq_true rfl⟩) hD hS hA (fun r_27 u_26 H locs hw hP hD hS => ?_)
      obtain ⟨pv, hF9, hI⟩ := hw
      have hF := hF.trans (hF9.weak kPm_k)
      have hW := hW.frk hF9
      refine vx_ret ?_
      refine W.widen (k := 2) (n := 12) (Nat.le_of_ble_eq_true rfl) (Nat.le_of_ble_eq_true rfl) ?_
      exact W.iret (v := r_27) hx hb hr (fun t ht hW9 => ⟨⟨r_27, (u_26.1, u_26.2), rfl, ⟨_, _, bl, rl, kl, ba, ra, ka, fr, nk, hF.weak kPm_C, hW, hW00.eqB hF (fun _ => rfl), fun i hi _ => hW00.eqR hF (fun _ => rfl) i hi, hI⟩, by rw [ht]; exact hP, va_K.moved hW9.alike hK, hD⟩, hS.F ht⟩) hS.2.2 dX3_count_101
set_option maxHeartbeats 4000000 in
set_option maxRecDepth 100000 in
theorem k_p_motion (l : Launch) (dC : Nat → ClassId) (dI : Nat → Nat → Nat) (dA : Nat → ClassId) (ad sz : Nat) (τ : Nat → Nat → Nat) (pv : Nat → Nat → Value) (L : List Nat) (f : Nat → va_E) (hI : kI dA τ pv L f) (x bl rl kl ba ra ka fr nb nr nk : Nat) (hW : kW τ pv ad x bl rl kl ba ra ka fr nb nr nk)  : Met l yX3_motion wsX3_motion ({ frames := 3, cells := 0, slots := 0, locals := 64 } : Room) (va_Pc [.ref x] (kB dC dI dA ad sz L f)) (va_Qf (fun r u => nn r ∧ kPost dA τ pv ad x ba ra nb nr nb nr u) (kR dC dI dA (va_A (va_pl L f) sz)) (va_A (va_pl L f) sz)) 0 0 (va_A (va_pl L f) sz) := by
  refine Met.ofW (cc := cX3_motion) (maxL := 4) (ret := (some .float)) (by decide) rfl ?_
  intro p e s m args below meth c s₁ B hml hv
  obtain ⟨rfl, hsz, hP, hK, hD0, hE⟩ := hv
  have hx := B.exec
  have hb := B.bytes
  have hr := B.returns
  have hts := atoms_spec (ws := wsX3_motion) B.pre
  have hown : s.vm.findClass RX3 = some m.cls := findClass_of_methodNamed B.named
  have hlocks := B.notSynchronized
  have i_X3 : ∀ w ∈ u_ws RX3 TX3 16, w ∈ wsX3_motion := by decide +kernel
  have i_X0 : ∀ w ∈ u_ws RX0 TX0 16, w ∈ wsX3_motion := by decide +kernel
  subst hsz
  have hD := hD0.self (sz := s.heap.size)
  generalize hAe : va_A (va_pl L f) s.heap.size = A at hD hE ⊢
  have hA : ∀ q : Nat, s.heap.size ≤ q → A q := fun q h => by rw [← hAe]; exact Or.inr h
  have hS : va_S A s.heap s.heap [] := va_S.rf
  have hP : va_P (dC, dI) vwCl (va_pl L f) s.heap := hP
  have hK : va_K (dC, dI) vwCl (tyA dA) s := hK
  have hl := lv_entry ([.ref x]) (n := 4) (Nat.le_of_ble_eq_true rfl)
  rw [lg_entry_eq]
  generalize (lg_sl ([.ref x]) ++ List.replicate (4 - (lg_sl ([.ref x])).length) Slot.unset).toArray = ls at hl ⊢
  have hl : lv_has ls 4 [(0, .ref x)] := hl
  have hnb := hW.lnb
  have hnr := hW.lnr
  have hnk := hW.lnk
  have hF : kFr kPm τ pv τ pv := kFr.rf
  have hW00 := hW
  refine lv_fconst0 hx hb dX3_motion_0 ?_
  refine lv_fstore_n (lv' := [(1, .float FP.fconst0), (0, .ref x)]) hx hb dX3_motion_1 rfl hl (by decide) rfl (fun ls hl => ?_)
  refine lv_iconst (v := 0) hx hb dX3_motion_2 (by decide) ?_
  refine lv_istore_n (lv' := [(2, .int 0), (1, .float FP.fconst0), (0, .ref x)]) hx hb dX3_motion_3 rfl hl (by decide) rfl (fun ls hl => ?_)
  have hl : lv_has ls 4 [(0, .ref x), (1, .float FP.fconst0), (2, .int 0)] := lv_sub hl [2, 1, 0] rfl
  refine kl_loop (Inv := fun n4 _ L f H locs ls => ∃ (i : Nat) (s9 : UInt32), nb - i < n4 ∧ kI dA τ pv L f ∧ va_P (dC, dI) vwCl (va_pl L f) H ∧ va_D A (va_pl L f) ∧ va_S A s.heap H locs ∧ lv_has ls 4 [(0, .ref x), (1, .float s9), (2, .int (nI i))] ∧ nn s9 ∧ i ≤ nb) (fun _ _ _ _ _ _ h9 => by obtain ⟨_, _, hn, _⟩ := h9; exact Nat.not_lt_zero _ hn) (fun n4 ih4 _ L f H locs ls h9 => ?_) (nb - 0 + 1) (fun _ _ => .null) _ _ _ _ _ ⟨0, FP.fconst0, Nat.lt_succ_self _, hI, hP, hD, hS, hl, nn_0, Nat.zero_le _⟩
  obtain ⟨i, s9, hn4, hI, hP, hD, hS, hl, hs9, hib⟩ := h9
  refine lv_iload_n hx hb dX3_motion_4 rfl (lv_at hl 2 rfl) ?_
  refine lv_aload_n hx hb dX3_motion_5 rfl (lv_at hl 0 rfl) ?_
  refine kp_get hx hb hts i_X3 hown hK hP hI hW.tx rfl rfl 0 (by decide) (by decide) (hts (.fieldLink RX3 10 "IslandSolver" "bodies" "Ljava/util/ArrayList;") (by decide +kernel)) (fun _ h9 => h9) dX3_motion_6 (kq_P (v0 := .ref bl) rfl hW.p0 fun h_2 => ?_)
  refine kd_calli (va_runV (As := []) (rest := [.int (nI i)]) ⟨hx, hb, hml, hown, hts⟩ (k_size7 l dC dI dA ad _ τ pv _ _ hI bl nb hW.lb.1 hW.lb.2.2.1) (cwV 0 hts gX3_motion_Jx4a65c_size_8abf5 rfl rfl rfl (by decide +kernel) ⟨Nat.le_of_ble_eq_true rfl, Nat.le_of_ble_eq_true rfl⟩) (kd_preV hP hD hK hS hA hE hI hW.lb.1 rfl rfl) rfl rfl hl.1 rfl (lv_room (Nat.le_of_ble_eq_true rfl)) dX3_motion_9 ⟨Nat.le_of_ble_eq_true rfl, Nat.le_of_ble_eq_true rfl⟩) hD hS hA (fun r_4 u_3 H locs hw hP hD hS => ?_)
  obtain ⟨rfl, hI⟩ := hw
  refine lv_icmp_ge (tgt := 47) hx hb dX3_motion_12 (by decide) (fun c_5 => ?_) (fun c_5 => ?_)
  · have n_6 : nb ≤ i := (nI_leI (by omega) (by omega)).mp (show nI nb ≤ nI i from c_5)
    refine lv_fload_n hx hb dX3_motion_47 rfl (lv_at hl 1 rfl) ?_
    refine W.widen (k := 0) (n := 0) (Nat.le_of_ble_eq_true rfl) (Nat.le_of_ble_eq_true rfl) ?_
    exact W.fret (v := s9) hx hb hr (fun t ht hW9 => ⟨⟨s9, (u_3.1, u_3.2), rfl, ⟨hs9, ⟨_, _, bl, rl, kl, ba, ra, ka, fr, nk, hF.weak kPm_C, hW, hW00.eqB hF (fun _ => rfl), fun i hi _ => hW00.eqR hF (fun _ => rfl) i hi, hI⟩⟩, by rw [ht]; exact hP, va_K.moved hW9.alike hK, hD⟩, hS.F ht⟩) hS.2.2 dX3_motion_48
  · have n_7 : ¬ nb ≤ i := fun h9 => (show ¬ nI nb ≤ nI i from c_5) ((nI_leI (by omega) (by omega)).mpr h9)
    refine lv_aload_n hx hb dX3_motion_15 rfl (lv_at hl 0 rfl) ?_
    refine kp_get hx hb hts i_X3 hown hK hP hI hW.tx rfl rfl 0 (by decide) (by decide) (hts (.fieldLink RX3 10 "IslandSolver" "bodies" "Ljava/util/ArrayList;") (by decide +kernel)) (fun _ h9 => h9) dX3_motion_16 (kq_P (v0 := .ref bl) rfl hW.p0 fun h_9 => ?_)
    refine lv_iload_n hx hb dX3_motion_19 rfl (lv_at hl 2 rfl) ?_
    obtain ⟨q_10, g_11, g_12, g_13, g_14⟩ := hW.lb.at (i := i) (by omega)
    have g_15 := hW.xb (i := i) (by omega) g_13
    refine kd_callq (va_runV (As := [.int (nI i)]) (rest := []) ⟨hx, hb, hml, hown, hts⟩ (k_get7 l dC dI dA ad _ τ pv _ _ hI bl ba nb i q_10 hW.lb.1 hW.lb.2.1 hW.lb.2.2.1 g_11 g_12 (by omega) (by omega) g_13) (cwV 1 hts gX3_motion_Jx4a65c_get_915e3 rfl rfl rfl (by decide +kernel) ⟨Nat.le_of_ble_eq_true rfl, Nat.le_of_ble_eq_true rfl⟩) (kd_preV hP hD hK hS hA hE hI hW.lb.1 rfl rfl) rfl rfl hl.1 rfl (lv_room (Nat.le_of_ble_eq_true rfl)) dX3_motion_20 ⟨Nat.le_of_ble_eq_true rfl, Nat.le_of_ble_eq_true rfl⟩) hD hS hA (fun r_17 u_16 H locs hw hP hD hS => ?_)
    obtain ⟨rfl, hI⟩ := hw
    refine W.eq (g2 := F0 m 23 ls [.ref q_10]) rfl ?_
    refine va_castY hx hb hown (hts (.classLink RX3 94 "IslandSolver$Body") (by decide +kernel)) (kz_cast (hE.cast2 "IslandSolver$Body" "IslandSolver$Body" (by decide +kernel))) (kd_recv hK hP hI g_14 rfl rfl) dX3_motion_23 ?_
    refine lv_astore_n (lv' := [(3, .ref q_10), (0, .ref x), (1, .float s9), (2, .int (nI i))]) hx hb dX3_motion_26 rfl hl (by decide) rfl (fun ls hl => ?_)
    refine lv_aload_n hx hb dX3_motion_27 rfl (lv_at hl 0 rfl) ?_
    refine kp_get hx hb hts i_X0 hown hK hP hI g_14 rfl rfl 1 (by decide) (by decide) (hts (.fieldLink RX3 156 "IslandSolver$Body" "movable" "Z") (by decide +kernel)) (fun _ h9 => h9) dX3_motion_28 (kq_51 fun h_19 => ?_)
    refine lv_if_eq (tgt := 41) hx hb dX3_motion_31 (by decide) (fun c_20 => ?_) (fun c_20 => ?_)
    · have n_21 : (τ 4 q_10) = 0 := (nI_eq (by omega) (by omega)).mp (show nI (τ 4 q_10) = nI 0 from c_20)
      refine lv_iinc (v := nI (i + 1)) (lv' := [(2, .int (nI (i + 1))), (3, .ref q_10), (0, .ref x), (1, .float s9)]) hx hb dX3_motion_41 hl (k := 3) rfl (nI_add i 1) (by decide) rfl (fun ls hl => ?_)
      refine lv_goto (tgt := 4) hx hb dX3_motion_44 (by decide) ?_
      have hl : lv_has ls 4 [(0, .ref x), (1, .float s9), (2, .int (nI (i + 1)))] := lv_sub hl [2, 3, 0] rfl
      exact ih4 (fun _ _ => .null) _ _ _ _ _ ⟨(i + 1), s9, by omega, hI, hP, hD, hS, hl, hs9, by omega⟩
    · have n_22 : ¬ (τ 4 q_10) = 0 := fun h9 => (show ¬ nI (τ 4 q_10) = nI 0 from c_20) ((nI_eq (by omega) (by omega)).mpr h9)
      refine lv_fload_n hx hb dX3_motion_34 rfl (lv_at hl 2 rfl) ?_
      refine lv_aload_n hx hb dX3_motion_35 rfl (lv_at hl 0 rfl) ?_
      refine kd_callf (va_runV (As := []) (rest := [.float s9]) ⟨hx, hb, hml, hown, hts⟩ (k_energy l dC dI dA ad _ τ pv _ _ hI q_10 g_14) (cwV 0 hts gX3_motion_X0_energy rfl rfl rfl (by decide +kernel) ⟨Nat.le_of_ble_eq_true rfl, Nat.le_of_ble_eq_true rfl⟩) (kd_preV hP hD hK hS hA hE hI g_14 rfl rfl) rfl rfl hl.1 rfl (lv_room (Nat.le_of_ble_eq_true rfl)) dX3_motion_36 ⟨Nat.le_of_ble_eq_true rfl, Nat.le_of_ble_eq_true rfl⟩) hD hS hA (fun r_24 u_23 H locs hw hP hD hS => ?_)
      obtain ⟨hr_24, nr_24, hI⟩ := hw
      refine kw_nnA hx hb dX3_motion_39 hs9 nr_24 (fun z_25 hz_26 => ?_)
      refine lv_fstore_n (lv' := [(1, .float z_25), (3, .ref q_10), (0, .ref x), (2, .int (nI i))]) hx hb dX3_motion_40 rfl hl (by decide) rfl (fun ls hl => ?_)
      refine lv_iinc (v := nI (i + 1)) (lv' := [(2, .int (nI (i + 1))), (1, .float z_25), (3, .ref q_10), (0, .ref x)]) hx hb dX3_motion_41 hl (k := 3) rfl (nI_add i 1) (by decide) rfl (fun ls hl => ?_)
      refine lv_goto (tgt := 4) hx hb dX3_motion_44 (by decide) ?_
      have hl : lv_has ls 4 [(0, .ref x), (1, .float z_25), (2, .int (nI (i + 1)))] := lv_sub hl [3, 1, 0] rfl
      exact ih4 (fun _ _ => .null) _ _ _ _ _ ⟨(i + 1), z_25, by omega, hI, hP, hD, hS, hl, hz_26, by omega⟩
