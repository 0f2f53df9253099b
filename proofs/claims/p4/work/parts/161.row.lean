set_option maxHeartbeats 4000000 in
set_option maxRecDepth 100000 in
theorem k_newRow0 (l : Launch) (dC : Nat → ClassId) (dI : Nat → Nat → Nat) (dA : Nat → ClassId) (ad sz : Nat) (τ : Nat → Nat → Nat) (pv : Nat → Nat → Value) (L : List Nat) (f : Nat → va_E) (hI : kI dA τ pv L f) (x bl rl kl ba ra ka fr nb nr nk : Nat) (hW : kW τ pv ad x bl rl kl ba ra ka fr nb nr nk) (ja : Nat) (hja : ja < nb) (tg : UInt32) (h_tg : fb 1149239296 tg) (ky : Int32) : Met l yX3_newRow wsX3_newRow ({ frames := 4, cells := 6, slots := 33, locals := 85 } : Room) (va_Pc [.ref x, .int (nI ja), .int (-1), .float tg, .int ky] (kB dC dI dA ad sz L f)) (va_Qq (fun r u => ∃ q qa qb τ2 pv2, r = some q ∧ τ 0 q = 0 ∧ kFr kPt τ pv τ2 pv2 ∧ τ2 0 q = 41 ∧ kRaw τ2 pv2 q qa qb ∧ pv ba ja = .ref qa ∧ qb = 0 ∧ kI dA τ2 pv2 u.1 u.2) (kR dC dI dA (va_A (va_pl L f) sz)) (va_A (va_pl L f) sz)) 6 33 (va_A (va_pl L f) sz) := by
  refine Met.ofW (cc := cX3_newRow) (maxL := 6) (ret := (some (.object "IslandSolver$Row"))) (by decide) rfl ?_
  intro p e s m args below meth c s₁ B hml hv
  obtain ⟨rfl, hsz, hP, hK, hD0, hE⟩ := hv
  have hx := B.exec
  have hb := B.bytes
  have hr := B.returns
  have hts := atoms_spec (ws := wsX3_newRow) B.pre
  have hown : s.vm.findClass RX3 = some m.cls := findClass_of_methodNamed B.named
  have hlocks := B.notSynchronized
  have i_X1 : ∀ w ∈ u_ws RX1 TX1 18, w ∈ wsX3_newRow := by decide +kernel
  have i_X3 : ∀ w ∈ u_ws RX3 TX3 16, w ∈ wsX3_newRow := by decide +kernel
  subst hsz
  have hD := hD0.self (sz := s.heap.size)
  generalize hAe : va_A (va_pl L f) s.heap.size = A at hD hE ⊢
  have hA : ∀ q : Nat, s.heap.size ≤ q → A q := fun q h => by rw [← hAe]; exact Or.inr h
  have hS : va_S A s.heap s.heap [] := va_S.rf
  have hP : va_P (dC, dI) vwCl (va_pl L f) s.heap := hP
  have hK : va_K (dC, dI) vwCl (tyA dA) s := hK
  have hl := lv_entry ([.ref x, .int (nI ja), .int (-1), .float tg, .int ky]) (n := 6) (Nat.le_of_ble_eq_true rfl)
  rw [lg_entry_eq]
  generalize (lg_sl ([.ref x, .int (nI ja), .int (-1), .float tg, .int ky]) ++ List.replicate (6 - (lg_sl ([.ref x, .int (nI ja), .int (-1), .float tg, .int ky])).length) Slot.unset).toArray = ls at hl ⊢
  have hl : lv_has ls 6 [(0, .ref x), (1, .int (nI ja)), (2, .int (-1)), (3, .float tg), (4, .int ky)] := hl
  have hnb := hW.lnb
  have hnr := hW.lnr
  have hnk := hW.lnk
  have hF : kFr kPt τ pv τ pv := kFr.rf
  have hW00 := hW
  refine kp_new (ci := 2) (fs := kr0) (C := RX1) (T := TX1) (N := 18) hx hb hts i_X1 tyX1 tyX1_ok hown (hts (.classLink RX3 67 "IslandSolver$Row") (by decide +kernel)) (hts (.instantiable RX1 18) (by decide +kernel)) (hts (.initialized RX1) (by decide +kernel)) hK hP hD hS hA rfl (fun j hj => by rcases (show j = 0 ∨ j = 1 ∨ j = 2 ∨ j = 3 ∨ j = 4 ∨ j = 5 ∨ j = 6 ∨ j = 7 ∨ j = 8 ∨ j = 9 ∨ j = 10 ∨ j = 11 ∨ j = 12 ∨ j = 13 ∨ j = 14 ∨ j = 15 ∨ j = 16 ∨ j = 17 by omega) with rfl | rfl | rfl | rfl | rfl | rfl | rfl | rfl | rfl | rfl | rfl | rfl | rfl | rfl | rfl | rfl | rfl | rfl <;> rfl) (Nat.le_of_ble_eq_true rfl) (Nat.le_of_ble_eq_true rfl) dX3_newRow_0 (fun q_1 H hqL hP hD hS => ?_)
  have h0q_1 : τ 0 q_1 = 0 := hI.t0 hqL
  have hI := hI.rawR hqL
  obtain ⟨τ_1, hτ_1⟩ : ∃ z, z = kxt τ q_1 (fun j => if j = 0 then 41 else 0) := ⟨_, rfl⟩
  obtain ⟨pv_1, hpv_1⟩ : ∃ z, z = kux pv q_1 (fun k => kr0.getD k .null) := ⟨_, rfl⟩
  rw [← hτ_1, ← hpv_1] at hI
  have hF_1 : kFr kPt τ pv τ_1 pv_1 := by rw [hτ_1, hpv_1]; exact kFr.new (Or.inl h0q_1)
  have hpq_1 : ∀ k, pv_1 q_1 k = kr0.getD k .null := fun k => by rw [hpv_1]; exact kux_self k
  have tq_1 : τ_1 0 q_1 = 41 := by rw [hτ_1]; exact kxt_self 0
  have hW := hW.frk (hF_1.weak (fun _ _ _ => rfl))
  have hF := hF.trans hF_1
  refine W.widen (k := 1) (n := 18) (by omega) (by omega) ?_
  have hFn := hF
  refine lv_dup hx hb dX3_newRow_3 rfl ?_
  refine lv_aload_n hx hb dX3_newRow_4 rfl (lv_at hl 0 rfl) ?_
  refine lv_iload_n hx hb dX3_newRow_5 rfl (lv_at hl 1 rfl) ?_
  refine kd_callq (va_runV (As := [.int (nI ja)]) (rest := [.ref q_1, .ref q_1]) ⟨hx, hb, hml, hown, hts⟩ (k_bodyAtN l dC dI dA ad _ τ_1 pv_1 _ _ hI x bl rl kl ba ra ka fr nb nr nk hW ja (by omega)) (cwV 1 hts gX3_newRow_X3_bodyAt rfl rfl rfl (by decide +kernel) ⟨Nat.le_of_ble_eq_true rfl, Nat.le_of_ble_eq_true rfl⟩) (kd_preV hP hD hK hS hA hE hI hW.tx rfl rfl) rfl rfl hl.1 rfl (lv_room (Nat.le_of_ble_eq_true rfl)) dX3_newRow_6 ⟨Nat.le_of_ble_eq_true rfl, Nat.le_of_ble_eq_true rfl⟩) hD hS hA (fun r_3 u_2 H locs hw hP hD hS => ?_)
  obtain ⟨q_4, rfl, pq_4, tq_4, nq_4, hI⟩ := hw
  refine W.eq (g2 := F0 m 9 ls [.ref q_4, .ref q_1, .ref q_1]) rfl ?_
  refine lv_aload_n hx hb dX3_newRow_9 rfl (lv_at hl 0 rfl) ?_
  refine lv_iload_n hx hb dX3_newRow_10 rfl (lv_at hl 2 rfl) ?_
  refine kd_callq (va_runV (As := [.int (-1)]) (rest := [.ref q_4, .ref q_1, .ref q_1]) ⟨hx, hb, hml, hown, hts⟩ (k_otherM l dC dI dA ad _ τ_1 pv_1 _ _ hI x bl rl kl ba ra ka fr nb nr nk hW ) (cwV 1 hts gX3_newRow_X3_otherBody rfl rfl rfl (by decide +kernel) ⟨Nat.le_of_ble_eq_true rfl, Nat.le_of_ble_eq_true rfl⟩) (kd_preV hP hD hK hS hA hE hI hW.tx rfl rfl) rfl rfl hl.1 rfl (lv_room (Nat.le_of_ble_eq_true rfl)) dX3_newRow_11 ⟨Nat.le_of_ble_eq_true rfl, Nat.le_of_ble_eq_true rfl⟩) hD hS hA (fun r_7 u_6 H locs hw hP hD hS => ?_)
  obtain ⟨rfl, hI⟩ := hw
  refine W.eq (g2 := F0 m 14 ls [.null, .ref q_4, .ref q_1, .ref q_1]) rfl ?_
  refine lv_aload_n hx hb dX3_newRow_14 rfl (lv_at hl 0 rfl) ?_
  refine kp_get hx hb hts i_X3 hown hK hP hI hW.tx rfl rfl 3 (by decide) (by decide) (hts (.fieldLink RX3 25 "IslandSolver" "padN" "LIslandSolver$Vec;") (by decide +kernel)) (fun _ h9 => h9) dX3_newRow_15 (kq_R 4 (by decide) fun x_8 h_9 => ?_)
  refine lv_aload_n hx hb dX3_newRow_18 rfl (lv_at hl 0 rfl) ?_
  refine kp_get hx hb hts i_X3 hown hK hP hI hW.tx rfl rfl 4 (by decide) (by decide) (hts (.fieldLink RX3 29 "IslandSolver" "padP" "LIslandSolver$Vec;") (by decide +kernel)) (fun _ h9 => h9) dX3_newRow_19 (kq_R 4 (by decide) fun x_10 h_11 => ?_)
  refine lv_aload_n hx hb dX3_newRow_22 rfl (lv_at hl 0 rfl) ?_
  refine kp_get hx hb hts i_X3 hown hK hP hI hW.tx rfl rfl 5 (by decide) (by decide) (hts (.fieldLink RX3 32 "IslandSolver" "padQ" "LIslandSolver$Vec;") (by decide +kernel)) (fun _ h9 => h9) dX3_newRow_23 (kq_R 4 (by decide) fun x_12 h_13 => ?_)
  refine kd_callv (va_runI (As := [.ref q_4, .null, .ref x_8, .ref x_10, .ref x_12]) (rest := [.ref q_1]) ⟨hx, hb, hml, hown, hts⟩ (k_RowInit0 l dC dI dA ad _ τ_1 pv_1 _ _ hI q_1 q_4 x_8 x_10 x_12 tq_1 hpq_1 tq_4 h_9 h_11 h_13) (cwI 5 hts gX3_newRow_X1_init rfl rfl rfl (hts (.initialized RX1) (by decide +kernel)) (hts (.methodLink RX3 315 yX1_init) (by decide +kernel)) (hts (.instanceMethod yX1_init) (by decide +kernel)) rfl (by decide +kernel) ⟨Nat.le_of_ble_eq_true rfl, Nat.le_of_ble_eq_true rfl⟩) (kd_preS hP hD hK hS hA hE) rfl rfl hl.1 rfl (lv_room (Nat.le_of_ble_eq_true rfl)) dX3_newRow_26 ⟨Nat.le_of_ble_eq_true rfl, Nat.le_of_ble_eq_true rfl⟩) hD hS hA (fun u_14 H locs hw hP hD hS => ?_)
  obtain ⟨τ2, pv2, hF9, tq_1, ⟨rw_n, rw_p, rw_q, rw_1, rw_2, x_t, x_k, p_0, p_1, p_2, p_3, p_4, p_5, p_6, p_7, p_8, p_9, p_10, p_11, p_12, p_13, p_14, p_15, p_16, p_17, f_5, t_0, t_1, t_2, t_3, t_4, t_15, t_16⟩, hI⟩ := hw
  have hW := hW.frk (hF9.weak (fun _ _ _ => rfl))
  have hF := hF.trans hF9
  refine lv_astore (lv' := [(5, .ref q_1), (0, .ref x), (1, .int (nI ja)), (2, .int (-1)), (3, .float tg), (4, .int ky)]) hx hb dX3_newRow_29 hl (by decide) rfl (fun ls hl => ?_)
  refine lv_aload hx hb dX3_newRow_31 (lv_at hl 0 rfl) ?_
  refine lv_fload_n hx hb dX3_newRow_33 rfl (lv_at hl 4 rfl) ?_
  refine kp_putP (v := .float tg) (ty := .float) hx hb hts i_X1 tyX1 tyX1_ok nmX1 hown hK hP hD hS hI tq_1 rfl rfl 5 (by decide) (by decide) (hts (.fieldLink RX3 318 "IslandSolver$Row" "target" "F") (by decide +kernel)) (fun _ h9 => h9) rfl (by decide +kernel) rfl rfl rfl (kv_G _) dX3_newRow_34 (fun f H locs hI hP hD hS => ?_)
  have hF := hF.trans (kFr.upr (P := kPt) (τ := τ2) (pv := pv2) (a := q_1) (w := .float tg) (k := 5) (Or.inr (by rw [tq_1]; decide)))
  have hW := hW.frw (kFr.upr (P := kPw) (τ := τ2) (pv := pv2) (a := q_1) (w := .float tg) (k := 5) (Or.inr (by rw [tq_1]; decide)))
  refine lv_aload hx hb dX3_newRow_37 (lv_at hl 0 rfl) ?_
  refine lv_iload hx hb dX3_newRow_39 (lv_at hl 5 rfl) ?_
  refine kp_putP (v := .int ky) (ty := .int) hx hb hts i_X1 tyX1 tyX1_ok nmX1 hown hK hP hD hS hI tq_1 rfl rfl 11 (by decide) (by decide) (hts (.fieldLink RX3 321 "IslandSolver$Row" "key" "I") (by decide +kernel)) (fun _ h9 => h9) rfl (by decide +kernel) rfl rfl rfl (kv_I _) dX3_newRow_41 (fun f H locs hI hP hD hS => ?_)
  have hF := hF.trans (kFr.upr (P := kPt) (τ := τ2) (pv := (kup pv2 q_1 5 (.float tg))) (a := q_1) (w := .int ky) (k := 11) (Or.inr (by rw [tq_1]; decide)))
  have hW := hW.frw (kFr.upr (P := kPw) (τ := τ2) (pv := (kup pv2 q_1 5 (.float tg))) (a := q_1) (w := .int ky) (k := 11) (Or.inr (by rw [tq_1]; decide)))
  refine lv_aload hx hb dX3_newRow_44 (lv_at hl 0 rfl) ?_
  refine W.widen (k := 6) (n := 33) (Nat.le_of_ble_eq_true rfl) (Nat.le_of_ble_eq_true rfl) ?_
  exact W.aret (v := .ref q_1) hx hb hr (Or.inl ⟨_, rfl⟩) (Or.inr ⟨_, rfl⟩) (fun t ht hW9 => ⟨⟨(some q_1), (u_14.1, f), rfl, ⟨q_1, _, _, _, _, rfl, h0q_1, hF, tq_1, ⟨rw_n, rw_p, rw_q, rw_1, rw_2, tg, ky, ((kup_ne (Or.inr (by decide))).trans ((kup_ne (Or.inr (by decide))).trans p_0)), ((kup_ne (Or.inr (by decide))).trans ((kup_ne (Or.inr (by decide))).trans p_1)), ((kup_ne (Or.inr (by decide))).trans ((kup_ne (Or.inr (by decide))).trans p_2)), ((kup_ne (Or.inr (by decide))).trans ((kup_ne (Or.inr (by decide))).trans p_3)), ((kup_ne (Or.inr (by decide))).trans ((kup_ne (Or.inr (by decide))).trans p_4)), ((kup_ne (Or.inr (by decide))).trans kup_self), ((kup_ne (Or.inr (by decide))).trans ((kup_ne (Or.inr (by decide))).trans p_6)), ((kup_ne (Or.inr (by decide))).trans ((kup_ne (Or.inr (by decide))).trans p_7)), ((kup_ne (Or.inr (by decide))).trans ((kup_ne (Or.inr (by decide))).trans p_8)), ((kup_ne (Or.inr (by decide))).trans ((kup_ne (Or.inr (by decide))).trans p_9)), ((kup_ne (Or.inr (by decide))).trans ((kup_ne (Or.inr (by decide))).trans p_10)), kup_self, ((kup_ne (Or.inr (by decide))).trans ((kup_ne (Or.inr (by decide))).trans p_12)), ((kup_ne (Or.inr (by decide))).trans ((kup_ne (Or.inr (by decide))).trans p_13)), ((kup_ne (Or.inr (by decide))).trans ((kup_ne (Or.inr (by decide))).trans p_14)), ((kup_ne (Or.inr (by decide))).trans ((kup_ne (Or.inr (by decide))).trans p_15)), ((kup_ne (Or.inr (by decide))).trans ((kup_ne (Or.inr (by decide))).trans p_16)), ((kup_ne (Or.inr (by decide))).trans ((kup_ne (Or.inr (by decide))).trans p_17)), h_tg, t_0, t_1, t_2, t_3, t_4, t_15, t_16⟩, (hW00.eqB hFn (fun _ => rfl) ja (by omega)).symm.trans pq_4, rfl, hI⟩, by rw [ht]; exact hP, va_K.moved hW9.alike hK, hD⟩, hS.F ht⟩) hS.2.2 dX3_newRow_46
set_option maxHeartbeats 4000000 in
set_option maxRecDepth 100000 in
theorem k_newRow1 (l : Launch) (dC : Nat → ClassId) (dI : Nat → Nat → Nat) (dA : Nat → ClassId) (ad sz : Nat) (τ : Nat → Nat → Nat) (pv : Nat → Nat → Value) (L : List Nat) (f : Nat → va_E) (hI : kI dA τ pv L f) (x bl rl kl ba ra ka fr nb nr nk : Nat) (hW : kW τ pv ad x bl rl kl ba ra ka fr nb nr nk) (ja jb : Nat) (hja : ja < nb) (hjb : jb < nb) (tg : UInt32) (h_tg : fb 1149239296 tg) (ky : Int32) : Met l yX3_newRow wsX3_newRow ({ frames := 5, cells := 6, slots := 33, locals := 106 } : Room) (va_Pc [.ref x, .int (nI ja), .int (nI jb), .float tg, .int ky] (kB dC dI dA ad sz L f)) (va_Qq (fun r u => ∃ q qa qb τ2 pv2, r = some q ∧ τ 0 q = 0 ∧ kFr kPt τ pv τ2 pv2 ∧ τ2 0 q = 41 ∧ kRaw τ2 pv2 q qa qb ∧ pv ba ja = .ref qa ∧ (∃ w, qb = w + 1 ∧ pv ba jb = .ref w) ∧ kI dA τ2 pv2 u.1 u.2) (kR dC dI dA (va_A (va_pl L f) sz)) (va_A (va_pl L f) sz)) 6 33 (va_A (va_pl L f) sz) := by
  refine Met.ofW (cc := cX3_newRow) (maxL := 6) (ret := (some (.object "IslandSolver$Row"))) (by decide) rfl ?_
  intro p e s m args below meth c s₁ B hml hv
  obtain ⟨rfl, hsz, hP, hK, hD0, hE⟩ := hv
  have hx := B.exec
  have hb := B.bytes
  have hr := B.returns
  have hts := atoms_spec (ws := wsX3_newRow) B.pre
  have hown : s.vm.findClass RX3 = some m.cls := findClass_of_methodNamed B.named
  have hlocks := B.notSynchronized
  have i_X1 : ∀ w ∈ u_ws RX1 TX1 18, w ∈ wsX3_newRow := by decide +kernel
  have i_X3 : ∀ w ∈ u_ws RX3 TX3 16, w ∈ wsX3_newRow := by decide +kernel
  subst hsz
  have hD := hD0.self (sz := s.heap.size)
  generalize hAe : va_A (va_pl L f) s.heap.size = A at hD hE ⊢
  have hA : ∀ q : Nat, s.heap.size ≤ q → A q := fun q h => by rw [← hAe]; exact Or.inr h
  have hS : va_S A s.heap s.heap [] := va_S.rf
  have hP : va_P (dC, dI) vwCl (va_pl L f) s.heap := hP
  have hK : va_K (dC, dI) vwCl (tyA dA) s := hK
  have hl := lv_entry ([.ref x, .int (nI ja), .int (nI jb), .float tg, .int ky]) (n := 6) (Nat.le_of_ble_eq_true rfl)
  rw [lg_entry_eq]
  generalize (lg_sl ([.ref x, .int (nI ja), .int (nI jb), .float tg, .int ky]) ++ List.replicate (6 - (lg_sl ([.ref x, .int (nI ja), .int (nI jb), .float tg, .int ky])).length) Slot.unset).toArray = ls at hl ⊢
  have hl : lv_has ls 6 [(0, .ref x), (1, .int (nI ja)), (2, .int (nI jb)), (3, .float tg), (4, .int ky)] := hl
  have hnb := hW.lnb
  have hnr := hW.lnr
  have hnk := hW.lnk
  have hF : kFr kPt τ pv τ pv := kFr.rf
  have hW00 := hW
  refine kp_new (ci := 2) (fs := kr0) (C := RX1) (T := TX1) (N := 18) hx hb hts i_X1 tyX1 tyX1_ok hown (hts (.classLink RX3 67 "IslandSolver$Row") (by decide +kernel)) (hts (.instantiable RX1 18) (by decide +kernel)) (hts (.initialized RX1) (by decide +kernel)) hK hP hD hS hA rfl (fun j hj => by rcases (show j = 0 ∨ j = 1 ∨ j = 2 ∨ j = 3 ∨ j = 4 ∨ j = 5 ∨ j = 6 ∨ j = 7 ∨ j = 8 ∨ j = 9 ∨ j = 10 ∨ j = 11 ∨ j = 12 ∨ j = 13 ∨ j = 14 ∨ j = 15 ∨ j = 16 ∨ j = 17 by omega) with rfl | rfl | rfl | rfl | rfl | rfl | rfl | rfl | rfl | rfl | rfl | rfl | rfl | rfl | rfl | rfl | rfl | rfl <;> rfl) (Nat.le_of_ble_eq_true rfl) (Nat.le_of_ble_eq_true rfl) dX3_newRow_0 (fun q_1 H hqL hP hD hS => ?_)
  have h0q_1 : τ 0 q_1 = 0 := hI.t0 hqL
  have hI := hI.rawR hqL
  obtain ⟨τ_1, hτ_1⟩ : ∃ z, z = kxt τ q_1 (fun j => if j = 0 then 41 else 0) := ⟨_, rfl⟩
  obtain ⟨pv_1, hpv_1⟩ : ∃ z, z = kux pv q_1 (fun k => kr0.getD k .null) := ⟨_, rfl⟩
  rw [← hτ_1, ← hpv_1] at hI
  have hF_1 : kFr kPt τ pv τ_1 pv_1 := by rw [hτ_1, hpv_1]; exact kFr.new (Or.inl h0q_1)
  have hpq_1 : ∀ k, pv_1 q_1 k = kr0.getD k .null := fun k => by rw [hpv_1]; exact kux_self k
  have tq_1 : τ_1 0 q_1 = 41 := by rw [hτ_1]; exact kxt_self 0
  have hW := hW.frk (hF_1.weak (fun _ _ _ => rfl))
  have hF := hF.trans hF_1
  refine W.widen (k := 1) (n := 18) (by omega) (by omega) ?_
  have hFn := hF
  refine lv_dup hx hb dX3_newRow_3 rfl ?_
  refine lv_aload_n hx hb dX3_newRow_4 rfl (lv_at hl 0 rfl) ?_
  refine lv_iload_n hx hb dX3_newRow_5 rfl (lv_at hl 1 rfl) ?_
  refine kd_callq (va_runV (As := [.int (nI ja)]) (rest := [.ref q_1, .ref q_1]) ⟨hx, hb, hml, hown, hts⟩ (k_bodyAtN l dC dI dA ad _ τ_1 pv_1 _ _ hI x bl rl kl ba ra ka fr nb nr nk hW ja (by omega)) (cwV 1 hts gX3_newRow_X3_bodyAt rfl rfl rfl (by decide +kernel) ⟨Nat.le_of_ble_eq_true rfl, Nat.le_of_ble_eq_true rfl⟩) (kd_preV hP hD hK hS hA hE hI hW.tx rfl rfl) rfl rfl hl.1 rfl (lv_room (Nat.le_of_ble_eq_true rfl)) dX3_newRow_6 ⟨Nat.le_of_ble_eq_true rfl, Nat.le_of_ble_eq_true rfl⟩) hD hS hA (fun r_3 u_2 H locs hw hP hD hS => ?_)
  obtain ⟨q_4, rfl, pq_4, tq_4, nq_4, hI⟩ := hw
  refine W.eq (g2 := F0 m 9 ls [.ref q_4, .ref q_1, .ref q_1]) rfl ?_
  refine lv_aload_n hx hb dX3_newRow_9 rfl (lv_at hl 0 rfl) ?_
  refine lv_iload_n hx hb dX3_newRow_10 rfl (lv_at hl 2 rfl) ?_
  refine kd_callq (va_runV (As := [.int (nI jb)]) (rest := [.ref q_4, .ref q_1, .ref q_1]) ⟨hx, hb, hml, hown, hts⟩ (k_otherN l dC dI dA ad _ τ_1 pv_1 _ _ hI x bl rl kl ba ra ka fr nb nr nk hW jb (by omega)) (cwV 1 hts gX3_newRow_X3_otherBody rfl rfl rfl (by decide +kernel) ⟨Nat.le_of_ble_eq_true rfl, Nat.le_of_ble_eq_true rfl⟩) (kd_preV hP hD hK hS hA hE hI hW.tx rfl rfl) rfl rfl hl.1 rfl (lv_room (Nat.le_of_ble_eq_true rfl)) dX3_newRow_11 ⟨Nat.le_of_ble_eq_true rfl, Nat.le_of_ble_eq_true rfl⟩) hD hS hA (fun r_7 u_6 H locs hw hP hD hS => ?_)
  obtain ⟨q_8, rfl, pq_8, tq_8, nq_8, hI⟩ := hw
  refine W.eq (g2 := F0 m 14 ls [.ref q_8, .ref q_4, .ref q_1, .ref q_1]) rfl ?_
  refine lv_aload_n hx hb dX3_newRow_14 rfl (lv_at hl 0 rfl) ?_
  refine kp_get hx hb hts i_X3 hown hK hP hI hW.tx rfl rfl 3 (by decide) (by decide) (hts (.fieldLink RX3 25 "IslandSolver" "padN" "LIslandSolver$Vec;") (by decide +kernel)) (fun _ h9 => h9) dX3_newRow_15 (kq_R 4 (by decide) fun x_10 h_11 => ?_)
  refine lv_aload_n hx hb dX3_newRow_18 rfl (lv_at hl 0 rfl) ?_
  refine kp_get hx hb hts i_X3 hown hK hP hI hW.tx rfl rfl 4 (by decide) (by decide) (hts (.fieldLink RX3 29 "IslandSolver" "padP" "LIslandSolver$Vec;") (by decide +kernel)) (fun _ h9 => h9) dX3_newRow_19 (kq_R 4 (by decide) fun x_12 h_13 => ?_)
  refine lv_aload_n hx hb dX3_newRow_22 rfl (lv_at hl 0 rfl) ?_
  refine kp_get hx hb hts i_X3 hown hK hP hI hW.tx rfl rfl 5 (by decide) (by decide) (hts (.fieldLink RX3 32 "IslandSolver" "padQ" "LIslandSolver$Vec;") (by decide +kernel)) (fun _ h9 => h9) dX3_newRow_23 (kq_R 4 (by decide) fun x_14 h_15 => ?_)
  refine kd_callv (va_runI (As := [.ref q_4, .ref q_8, .ref x_10, .ref x_12, .ref x_14]) (rest := [.ref q_1]) ⟨hx, hb, hml, hown, hts⟩ (k_RowInit1 l dC dI dA ad _ τ_1 pv_1 _ _ hI q_1 q_4 q_8 x_10 x_12 x_14 tq_1 hpq_1 tq_4 tq_8 h_11 h_13 h_15) (cwI 5 hts gX3_newRow_X1_init rfl rfl rfl (hts (.initialized RX1) (by decide +kernel)) (hts (.methodLink RX3 315 yX1_init) (by decide +kernel)) (hts (.instanceMethod yX1_init) (by decide +kernel)) rfl (by decide +kernel) ⟨Nat.le_of_ble_eq_true rfl, Nat.le_of_ble_eq_true rfl⟩) (kd_preS hP hD hK hS hA hE) rfl rfl hl.1 rfl (lv_room (Nat.le_of_ble_eq_true rfl)) dX3_newRow_26 ⟨Nat.le_of_ble_eq_true rfl, Nat.le_of_ble_eq_true rfl⟩) hD hS hA (fun u_16 H locs hw hP hD hS => ?_)
  obtain ⟨τ2, pv2, hF9, tq_1, ⟨rw_n, rw_p, rw_q, rw_1, rw_2, x_t, x_k, p_0, p_1, p_2, p_3, p_4, p_5, p_6, p_7, p_8, p_9, p_10, p_11, p_12, p_13, p_14, p_15, p_16, p_17, f_5, t_0, t_1, t_2, t_3, t_4, t_15, t_16⟩, hI⟩ := hw
  have hW := hW.frk (hF9.weak (fun _ _ _ => rfl))
  have hF := hF.trans hF9
  refine lv_astore (lv' := [(5, .ref q_1), (0, .ref x), (1, .int (nI ja)), (2, .int (nI jb)), (3, .float tg), (4, .int ky)]) hx hb dX3_newRow_29 hl (by decide) rfl (fun ls hl => ?_)
  refine lv_aload hx hb dX3_newRow_31 (lv_at hl 0 rfl) ?_
  refine lv_fload_n hx hb dX3_newRow_33 rfl (lv_at hl 4 rfl) ?_
  refine kp_putP (v := .float tg) (ty := .float) hx hb hts i_X1 tyX1 tyX1_ok nmX1 hown hK hP hD hS hI tq_1 rfl rfl 5 (by decide) (by decide) (hts (.fieldLink RX3 318 "IslandSolver$Row" "target" "F") (by decide +kernel)) (fun _ h9 => h9) rfl (by decide +kernel) rfl rfl rfl (kv_G _) dX3_newRow_34 (fun f H locs hI hP hD hS => ?_)
  have hF := hF.trans (kFr.upr (P := kPt) (τ := τ2) (pv := pv2) (a := q_1) (w := .float tg) (k := 5) (Or.inr (by rw [tq_1]; decide)))
  have hW := hW.frw (kFr.upr (P := kPw) (τ := τ2) (pv := pv2) (a := q_1) (w := .float tg) (k := 5) (Or.inr (by rw [tq_1]; decide)))
  refine lv_aload hx hb dX3_newRow_37 (lv_at hl 0 rfl) ?_
  refine lv_iload hx hb dX3_newRow_39 (lv_at hl 5 rfl) ?_
  refine kp_putP (v := .int ky) (ty := .int) hx hb hts i_X1 tyX1 tyX1_ok nmX1 hown hK hP hD hS hI tq_1 rfl rfl 11 (by decide) (by decide) (hts (.fieldLink RX3 321 "IslandSolver$Row" "key" "I") (by decide +kernel)) (fun _ h9 => h9) rfl (by decide +kernel) rfl rfl rfl (kv_I _) dX3_newRow_41 (fun f H locs hI hP hD hS => ?_)
  have hF := hF.trans (kFr.upr (P := kPt) (τ := τ2) (pv := (kup pv2 q_1 5 (.float tg))) (a := q_1) (w := .int ky) (k := 11) (Or.inr (by rw [tq_1]; decide)))
  have hW := hW.frw (kFr.upr (P := kPw) (τ := τ2) (pv := (kup pv2 q_1 5 (.float tg))) (a := q_1) (w := .int ky) (k := 11) (Or.inr (by rw [tq_1]; decide)))
  refine lv_aload hx hb dX3_newRow_44 (lv_at hl 0 rfl) ?_
  refine W.widen (k := 6) (n := 33) (Nat.le_of_ble_eq_true rfl) (Nat.le_of_ble_eq_true rfl) ?_
  exact W.aret (v := .ref q_1) hx hb hr (Or.inl ⟨_, rfl⟩) (Or.inr ⟨_, rfl⟩) (fun t ht hW9 => ⟨⟨(some q_1), (u_16.1, f), rfl, ⟨q_1, _, _, _, _, rfl, h0q_1, hF, tq_1, ⟨rw_n, rw_p, rw_q, rw_1, rw_2, tg, ky, ((kup_ne (Or.inr (by decide))).trans ((kup_ne (Or.inr (by decide))).trans p_0)), ((kup_ne (Or.inr (by decide))).trans ((kup_ne (Or.inr (by decide))).trans p_1)), ((kup_ne (Or.inr (by decide))).trans ((kup_ne (Or.inr (by decide))).trans p_2)), ((kup_ne (Or.inr (by decide))).trans ((kup_ne (Or.inr (by decide))).trans p_3)), ((kup_ne (Or.inr (by decide))).trans ((kup_ne (Or.inr (by decide))).trans p_4)), ((kup_ne (Or.inr (by decide))).trans kup_self), ((kup_ne (Or.inr (by decide))).trans ((kup_ne (Or.inr (by decide))).trans p_6)), ((kup_ne (Or.inr (by decide))).trans ((kup_ne (Or.inr (by decide))).trans p_7)), ((kup_ne (Or.inr (by decide))).trans ((kup_ne (Or.inr (by decide))).trans p_8)), ((kup_ne (Or.inr (by decide))).trans ((kup_ne (Or.inr (by decide))).trans p_9)), ((kup_ne (Or.inr (by decide))).trans ((kup_ne (Or.inr (by decide))).trans p_10)), kup_self, ((kup_ne (Or.inr (by decide))).trans ((kup_ne (Or.inr (by decide))).trans p_12)), ((kup_ne (Or.inr (by decide))).trans ((kup_ne (Or.inr (by decide))).trans p_13)), ((kup_ne (Or.inr (by decide))).trans ((kup_ne (Or.inr (by decide))).trans p_14)), ((kup_ne (Or.inr (by decide))).trans ((kup_ne (Or.inr (by decide))).trans p_15)), ((kup_ne (Or.inr (by decide))).trans ((kup_ne (Or.inr (by decide))).trans p_16)), ((kup_ne (Or.inr (by decide))).trans ((kup_ne (Or.inr (by decide))).trans p_17)), h_tg, t_0, t_1, t_2, t_3, t_4, t_15, t_16⟩, (hW00.eqB hFn (fun _ => rfl) ja (by omega)).symm.trans pq_4, ⟨_, rfl, (hW00.eqB hFn (fun _ => rfl) jb (by omega)).symm.trans pq_8⟩, hI⟩, by rw [ht]; exact hP, va_K.moved hW9.alike hK, hD⟩, hS.F ht⟩) hS.2.2 dX3_newRow_46
set_option maxHeartbeats 4000000 in
set_option maxRecDepth 100000 in
theorem k_keptRow (l : Launch) (dC : Nat → ClassId) (dI : Nat → Nat → Nat) (dA : Nat → ClassId) (ad sz : Nat) (τ : Nat → Nat → Nat) (pv : Nat → Nat → Value) (L : List Nat) (f : Nat → va_E) (hI : kI dA τ pv L f) (x bl rl kl ba ra ka fr nb nr nk : Nat) (hW : kW τ pv ad x bl rl kl ba ra ka fr nb nr nk) (ky : Int32) : Met l yX3_keptRow wsX3_keptRow ({ frames := 3, cells := 0, slots := 0, locals := 64 } : Room) (va_Pc [.ref x, .int ky] (kB dC dI dA ad sz L f)) (va_Qq (fun r u => (r = none ∨ ∃ q, r = some q ∧ τ 0 q = 2) ∧ kI dA τ pv u.1 u.2) (kR dC dI dA (va_A (va_pl L f) sz)) (va_A (va_pl L f) sz)) 0 0 (va_A (va_pl L f) sz) := by
  refine Met.ofW (cc := cX3_keptRow) (maxL := 4) (ret := (some (.object "IslandSolver$Row"))) (by decide) rfl ?_
  intro p e s m args below meth c s₁ B hml hv
  obtain ⟨rfl, hsz, hP, hK, hD0, hE⟩ := hv
  have hx := B.exec
  have hb := B.bytes
  have hr := B.returns
  have hts := atoms_spec (ws := wsX3_keptRow) B.pre
  have hown : s.vm.findClass RX3 = some m.cls := findClass_of_methodNamed B.named
  have hlocks := B.notSynchronized
  have i_X3 : ∀ w ∈ u_ws RX3 TX3 16, w ∈ wsX3_keptRow := by decide +kernel
  have i_X1 : ∀ w ∈ u_ws RX1 TX1 18, w ∈ wsX3_keptRow := by decide +kernel
  subst hsz
  have hD := hD0.self (sz := s.heap.size)
  generalize hAe : va_A (va_pl L f) s.heap.size = A at hD hE ⊢
  have hA : ∀ q : Nat, s.heap.size ≤ q → A q := fun q h => by rw [← hAe]; exact Or.inr h
  have hS : va_S A s.heap s.heap [] := va_S.rf
  have hP : va_P (dC, dI) vwCl (va_pl L f) s.heap := hP
  have hK : va_K (dC, dI) vwCl (tyA dA) s := hK
  have hl := lv_entry ([.ref x, .int ky]) (n := 4) (Nat.le_of_ble_eq_true rfl)
  rw [lg_entry_eq]
  generalize (lg_sl ([.ref x, .int ky]) ++ List.replicate (4 - (lg_sl ([.ref x, .int ky])).length) Slot.unset).toArray = ls at hl ⊢
  have hl : lv_has ls 4 [(0, .ref x), (1, .int ky)] := hl
  have hnb := hW.lnb
  have hnr := hW.lnr
  have hnk := hW.lnk
  refine lv_iload_n hx hb dX3_keptRow_0 rfl (lv_at hl 1 rfl) ?_
  refine lv_if_ge (tgt := 6) hx hb dX3_keptRow_1 (by decide) (fun c_1 => ?_) (fun c_1 => ?_)
  · refine lv_iconst (v := 0) hx hb dX3_keptRow_6 (by decide) ?_
    refine lv_istore_n (lv' := [(2, .int 0), (0, .ref x), (1, .int ky)]) hx hb dX3_keptRow_7 rfl hl (by decide) rfl (fun ls hl => ?_)
    have hl : lv_has ls 4 [(0, .ref x), (1, .int ky), (2, .int 0)] := lv_sub hl [1, 2, 0] rfl
    refine kl_loop (Inv := fun n8 _ L f H locs ls => ∃ (i : Nat), nk - i < n8 ∧ kI dA τ pv L f ∧ va_P (dC, dI) vwCl (va_pl L f) H ∧ va_D A (va_pl L f) ∧ va_S A s.heap H locs ∧ lv_has ls 4 [(0, .ref x), (1, .int ky), (2, .int (nI i))] ∧ i ≤ nk) (fun _ _ _ _ _ _ h9 => by obtain ⟨_, hn, _⟩ := h9; exact Nat.not_lt_zero _ hn) (fun n8 ih8 _ L f H locs ls h9 => ?_) (nk - 0 + 1) (fun _ _ => .null) _ _ _ _ _ ⟨0, Nat.lt_succ_self _, hI, hP, hD, hS, hl, Nat.zero_le _⟩
    obtain ⟨i, hn8, hI, hP, hD, hS, hl, hib⟩ := h9
    refine lv_iload_n hx hb dX3_keptRow_8 rfl (lv_at hl 2 rfl) ?_
    refine lv_aload_n hx hb dX3_keptRow_9 rfl (lv_at hl 0 rfl) ?_
    refine kp_get hx hb hts i_X3 hown hK hP hI hW.tx rfl rfl 2 (by decide) (by decide) (hts (.fieldLink RX3 19 "IslandSolver" "kept" "Ljava/util/ArrayList;") (by decide +kernel)) (fun _ h9 => h9) dX3_keptRow_10 (kq_P (v0 := .ref kl) rfl hW.p2 fun h_3 => ?_)
    refine kd_calli (va_runV (As := []) (rest := [.int (nI i)]) ⟨hx, hb, hml, hown, hts⟩ (k_size8 l dC dI dA ad _ τ pv _ _ hI kl nk hW.lk.1 hW.lk.2.2.1) (cwV 0 hts gX3_keptRow_Jx4a65c_size_8abf5 rfl rfl rfl (by decide +kernel) ⟨Nat.le_of_ble_eq_true rfl, Nat.le_of_ble_eq_true rfl⟩) (kd_preV hP hD hK hS hA hE hI hW.lk.1 rfl rfl) rfl rfl hl.1 rfl (lv_room (Nat.le_of_ble_eq_true rfl)) dX3_keptRow_13 ⟨Nat.le_of_ble_eq_true rfl, Nat.le_of_ble_eq_true rfl⟩) hD hS hA (fun r_5 u_4 H locs hw hP hD hS => ?_)
    obtain ⟨rfl, hI⟩ := hw
    refine lv_icmp_ge (tgt := 47) hx hb dX3_keptRow_16 (by decide) (fun c_6 => ?_) (fun c_6 => ?_)
    · have n_7 : nk ≤ i := (nI_leI (by omega) (by omega)).mp (show nI nk ≤ nI i from c_6)
      refine lv_null hx hb dX3_keptRow_47 ?_
      refine W.widen (k := 0) (n := 0) (Nat.le_of_ble_eq_true rfl) (Nat.le_of_ble_eq_true rfl) ?_
      exact W.aret (v := .null) hx hb hr (Or.inl ⟨_, rfl⟩) (Or.inl rfl) (fun t ht hW9 => ⟨⟨none, (u_4.1, u_4.2), rfl, ⟨Or.inl rfl, hI⟩, by rw [ht]; exact hP, va_K.moved hW9.alike hK, hD⟩, hS.F ht⟩) hS.2.2 dX3_keptRow_48
    · have n_8 : ¬ nk ≤ i := fun h9 => (show ¬ nI nk ≤ nI i from c_6) ((nI_leI (by omega) (by omega)).mpr h9)
      refine lv_aload_n hx hb dX3_keptRow_19 rfl (lv_at hl 0 rfl) ?_
      refine kp_get hx hb hts i_X3 hown hK hP hI hW.tx rfl rfl 2 (by decide) (by decide) (hts (.fieldLink RX3 19 "IslandSolver" "kept" "Ljava/util/ArrayList;") (by decide +kernel)) (fun _ h9 => h9) dX3_keptRow_20 (kq_P (v0 := .ref kl) rfl hW.p2 fun h_10 => ?_)
      refine lv_iload_n hx hb dX3_keptRow_23 rfl (lv_at hl 2 rfl) ?_
      obtain ⟨q_11, g_12, g_13, g_14, g_15⟩ := hW.lk.at (i := i) (by omega)
      refine kd_callq (va_runV (As := [.int (nI i)]) (rest := []) ⟨hx, hb, hml, hown, hts⟩ (k_get8 l dC dI dA ad _ τ pv _ _ hI kl ka nk i q_11 hW.lk.1 hW.lk.2.1 hW.lk.2.2.1 g_12 g_13 (by omega) (by omega) g_14) (cwV 1 hts gX3_keptRow_Jx4a65c_get_915e3 rfl rfl rfl (by decide +kernel) ⟨Nat.le_of_ble_eq_true rfl, Nat.le_of_ble_eq_true rfl⟩) (kd_preV hP hD hK hS hA hE hI hW.lk.1 rfl rfl) rfl rfl hl.1 rfl (lv_room (Nat.le_of_ble_eq_true rfl)) dX3_keptRow_24 ⟨Nat.le_of_ble_eq_true rfl, Nat.le_of_ble_eq_true rfl⟩) hD hS hA (fun r_18 u_17 H locs hw hP hD hS => ?_)
      obtain ⟨rfl, hI⟩ := hw
      refine W.eq (g2 := F0 m 27 ls [.ref q_11]) rfl ?_
      refine va_castY hx hb hown (hts (.classLink RX3 67 "IslandSolver$Row") (by decide +kernel)) (kz_cast (hE.cast2 "IslandSolver$Row" "IslandSolver$Row" (by decide +kernel))) (kd_recv hK hP hI g_15 rfl rfl) dX3_keptRow_27 ?_
      refine lv_astore_n (lv' := [(3, .ref q_11), (0, .ref x), (1, .int ky), (2, .int (nI i))]) hx hb dX3_keptRow_30 rfl hl (by decide) rfl (fun ls hl => ?_)
      refine lv_aload_n hx hb dX3_keptRow_31 rfl (lv_at hl 0 rfl) ?_
      refine kp_get hx hb hts i_X1 hown hK hP hI g_15 rfl rfl 11 (by decide) (by decide) (hts (.fieldLink RX3 321 "IslandSolver$Row" "key" "I") (by decide +kernel)) (fun _ h9 => h9) dX3_keptRow_32 (kq_I fun x_19 => ?_)
      refine lv_iload_n hx hb dX3_keptRow_35 rfl (lv_at hl 2 rfl) ?_
      refine lv_icmp_ne (tgt := 41) hx hb dX3_keptRow_36 (by decide) (fun c_21 => ?_) (fun c_21 => ?_)
      · refine lv_iinc (v := nI (i + 1)) (lv' := [(2, .int (nI (i + 1))), (3, .ref q_11), (0, .ref x), (1, .int ky)]) hx hb dX3_keptRow_41 hl (k := 3) rfl (nI_add i 1) (by decide) rfl (fun ls hl => ?_)
        refine lv_goto (tgt := 8) hx hb dX3_keptRow_44 (by decide) ?_
        have hl : lv_has ls 4 [(0, .ref x), (1, .int ky), (2, .int (nI (i + 1)))] := lv_sub hl [2, 3, 0] rfl
        exact ih8 (fun _ _ => .null) _ _ _ _ _ ⟨(i + 1), by omega, hI, hP, hD, hS, hl, by omega⟩
      · refine lv_aload_n hx hb dX3_keptRow_39 rfl (lv_at hl 0 rfl) ?_
        refine W.widen (k := 0) (n := 0) (Nat.le_of_ble_eq_true rfl) (Nat.le_of_ble_eq_true rfl) ?_
        exact W.aret (v := .ref q_11) hx hb hr (Or.inl ⟨_, rfl⟩) (Or.inr ⟨_, rfl⟩) (fun t ht hW9 => ⟨⟨(some q_11), (u_17.1, u_17.2), rfl, ⟨Or.inr ⟨_, rfl, g_15⟩, hI⟩, by rw [ht]; exact hP, va_K.moved hW9.alike hK, hD⟩, hS.F ht⟩) hS.2.2 dX3_keptRow_40
  · refine lv_null hx hb dX3_keptRow_4 ?_
    refine W.widen (k := 0) (n := 0) (Nat.le_of_ble_eq_true rfl) (Nat.le_of_ble_eq_true rfl) ?_
    exact W.aret (v := .null) hx hb hr (Or.inl ⟨_, rfl⟩) (Or.inl rfl) (fun t ht hW9 => ⟨⟨none, (L, f), rfl, ⟨Or.inl rfl, hI⟩, by rw [ht]; exact hP, va_K.moved hW9.alike hK, hD⟩, hS.F ht⟩) hS.2.2 dX3_keptRow_5
set_option maxHeartbeats 4000000 in
set_option maxRecDepth 100000 in
theorem k_addRow (l : Launch) (dC : Nat → ClassId) (dI : Nat → Nat → Nat) (dA : Nat → ClassId) (ad sz : Nat) (τ : Nat → Nat → Nat) (pv : Nat → Nat → Value) (L : List Nat) (f : Nat → va_E) (hI : kI dA τ pv L f) (x bl rl kl ba ra ka fr nb nr nk : Nat) (hW : kW τ pv ad x bl rl kl ba ra ka fr nb nr nk) (e9 : Nat) (hh_e : τ 0 e9 = 2) (hroom : nr < 1024) (te1 : τ 1 e9 = nr) (te17 : pv e9 17 = .null) : Met l yX3_addRow wsX3_addRow ({ frames := 7, cells := 1, slots := 1600, locals := 166 } : Room) (va_Pc [.ref x, .ref e9] (kB dC dI dA ad sz L f)) (va_Qi (fun r u => r = nI nr ∧ ∃ a2 τ2 pv2, kFr kPmR τ pv τ2 pv2 ∧ kW τ2 pv2 ad x bl rl kl ba a2 ka fr nb (nr + 1) nk ∧ (∀ i, i < nr → pv2 a2 i = pv ra i) ∧ pv2 a2 nr = .ref e9 ∧ kI dA τ2 pv2 u.1 u.2) (kR dC dI dA (va_A (va_pl L f) sz)) (va_A (va_pl L f) sz)) 1 1600 (va_A (va_pl L f) sz) := by
  refine Met.ofW (cc := cX3_addRow) (maxL := 3) (ret := (some .int)) (by decide) rfl ?_
  intro p e s m args below meth c s₁ B hml hv
  obtain ⟨rfl, hsz, hP, hK, hD0, hE⟩ := hv
  have hx := B.exec
  have hb := B.bytes
  have hr := B.returns
  have hts := atoms_spec (ws := wsX3_addRow) B.pre
  have hown : s.vm.findClass RX3 = some m.cls := findClass_of_methodNamed B.named
  have hlocks := B.notSynchronized
  have i_X1 : ∀ w ∈ u_ws RX1 TX1 18, w ∈ wsX3_addRow := by decide +kernel
  have i_X3 : ∀ w ∈ u_ws RX3 TX3 16, w ∈ wsX3_addRow := by decide +kernel
  subst hsz
  have hD := hD0.self (sz := s.heap.size)
  generalize hAe : va_A (va_pl L f) s.heap.size = A at hD hE ⊢
  have hA : ∀ q : Nat, s.heap.size ≤ q → A q := fun q h => by rw [← hAe]; exact Or.inr h
  have hS : va_S A s.heap s.heap [] := va_S.rf
  have hP : va_P (dC, dI) vwCl (va_pl L f) s.heap := hP
  have hK : va_K (dC, dI) vwCl (tyA dA) s := hK
  have hl := lv_entry ([.ref x, .ref e9]) (n := 3) (Nat.le_of_ble_eq_true rfl)
  rw [lg_entry_eq]
  generalize (lg_sl ([.ref x, .ref e9]) ++ List.replicate (3 - (lg_sl ([.ref x, .ref e9])).length) Slot.unset).toArray = ls at hl ⊢
  have hl : lv_has ls 3 [(0, .ref x), (1, .ref e9)] := hl
  have hnb := hW.lnb
  have hnr := hW.lnr
  have hnk := hW.lnk
  have hF : kFr kPm τ pv τ pv := kFr.rf
  have hW00 := hW
  refine lv_aload_n hx hb dX3_addRow_0 rfl (lv_at hl 0 rfl) ?_
  refine lv_aload_n hx hb dX3_addRow_1 rfl (lv_at hl 1 rfl) ?_
  refine kp_get hx hb hts i_X1 hown hK hP hI hh_e rfl rfl 11 (by decide) (by decide) (hts (.fieldLink RX3 321 "IslandSolver$Row" "key" "I") (by decide +kernel)) (fun _ h9 => h9) dX3_addRow_2 (kq_I fun x_1 => ?_)
  refine kd_callq (va_runV (As := [.int x_1]) (rest := []) ⟨hx, hb, hml, hown, hts⟩ (k_keptRow l dC dI dA ad _ τ pv _ _ hI x bl rl kl ba ra ka fr nb nr nk hW x_1) (cwV 1 hts gX3_addRow_X3_keptRow rfl rfl rfl (by decide +kernel) ⟨Nat.le_of_ble_eq_true rfl, Nat.le_of_ble_eq_true rfl⟩) (kd_preV hP hD hK hS hA hE hI hW.tx rfl rfl) rfl rfl hl.1 rfl (lv_room (Nat.le_of_ble_eq_true rfl)) dX3_addRow_5 ⟨Nat.le_of_ble_eq_true rfl, Nat.le_of_ble_eq_true rfl⟩) hD hS hA (fun r_4 u_3 H locs hw hP hD hS => ?_)
  obtain ⟨rfl | ⟨q_5, rfl, tq_5⟩, hI⟩ := hw
  · refine W.eq (g2 := F0 m 8 ls [.null]) rfl ?_
    refine lv_astore_nN (lv' := [(2, .null), (0, .ref x), (1, .ref e9)]) hx hb dX3_addRow_8 rfl hl (by decide) rfl (fun ls hl => ?_)
    refine lv_aload_nN hx hb dX3_addRow_9 rfl (lv_at hl 0 rfl) ?_
    refine lv_ifnullN (tgt := 25) hx hb dX3_addRow_10 (by decide) ?_
    refine lv_aload_n hx hb dX3_addRow_25 rfl (lv_at hl 2 rfl) ?_
    refine kd_callv (va_runV (As := []) (rest := []) ⟨hx, hb, hml, hown, hts⟩ (k_enterBodies l dC dI dA ad _ τ pv _ _ hI e9 hh_e) (cwV 0 hts gX3_addRow_X1_enterBodies rfl rfl rfl (by decide +kernel) ⟨Nat.le_of_ble_eq_true rfl, Nat.le_of_ble_eq_true rfl⟩) (kd_preV hP hD hK hS hA hE hI hh_e rfl rfl) rfl rfl hl.1 rfl (lv_room (Nat.le_of_ble_eq_true rfl)) dX3_addRow_26 ⟨Nat.le_of_ble_eq_true rfl, Nat.le_of_ble_eq_true rfl⟩) hD hS hA (fun u_6 H locs hw hP hD hS => ?_)
    have hI := hw
    refine lv_aload_n hx hb dX3_addRow_29 rfl (lv_at hl 1 rfl) ?_
    refine kp_get hx hb hts i_X3 hown hK hP hI hW.tx rfl rfl 1 (by decide) (by decide) (hts (.fieldLink RX3 16 "IslandSolver" "rows" "Ljava/util/ArrayList;") (by decide +kernel)) (fun _ h9 => h9) dX3_addRow_30 (kq_P (v0 := .ref rl) rfl hW.p1 fun h_8 => ?_)
    refine lv_aload_n hx hb dX3_addRow_33 rfl (lv_at hl 2 rfl) ?_
    have had := (kad hE hD hI).2
    have hw4 := hW.lr.2.2.2
    rcases hw4 with ⟨e1, e2⟩ | ⟨hta, hla, hel⟩
    · have ha : pv rl 1 = .ref ad := by rw [← e1]; exact hW.lr.2.1
      have hn : pv rl 2 = .int 0 := by have h9 := hW.lr.2.2.1; rw [e2] at h9; exact h9
      refine kd_calli (va_runV (As := [.ref e9]) (rest := []) ⟨hx, hb, hml, hown, hts⟩ (k_add1F8 l dC dI dA ad _ τ pv _ _ hI rl e9 hW.lr.1 hh_e ha hn) (cwV 1 hts gX3_addRow_Jx4a65c_add_9ea2d rfl rfl rfl (by decide +kernel) ⟨Nat.le_of_ble_eq_true rfl, Nat.le_of_ble_eq_true rfl⟩) (kd_preV hP hD hK hS hA hE hI hW.lr.1 rfl rfl) rfl rfl hl.1 rfl (lv_room (Nat.le_of_ble_eq_true rfl)) dX3_addRow_34 ⟨Nat.le_of_ble_eq_true rfl, Nat.le_of_ble_eq_true rfl⟩) hD hS hA (fun r_10 u_9 H locs hw hP hD hS => ?_)
      obtain ⟨a2, τ2, pv2, ht2, ha2, hp2, hl1, hl2, hq0, hq3, hqi, hqn, hI⟩ := hw
      have had2 := (kad hE hD hI).2
      have han : a2 ≠ ad := fun e9 => by rw [e9, had2] at hq0; cases hq0
      have hl2 : pv2 rl 2 = .int (nI (nr + 1)) := by rw [e2]; exact hl2
      have ha2 : a2 = ra ∨ τ 0 a2 = 0 := by rw [e1]; exact ha2
      have hp2 : ∀ b k, τ 0 b ≠ 0 → b ≠ rl → b ≠ ra → pv2 b k = pv b k := by rw [e1]; exact hp2
      have hq3 : nr + 1 ≤ τ2 3 a2 := by rw [e2]; exact hq3
      have hqi : ∀ i, i < nr → pv2 a2 i = pv ra i := by rw [e2]; exact fun i hi => absurd hi (Nat.not_lt_zero i)
      have hqn : pv2 a2 nr = .ref e9 := by rw [e2]; exact hqn
      have hE9 : ∀ i, i < nr → pv2 a2 i = pv ra i := fun i hi => (hqi i hi).trans (hW00.eqR hF (fun _ => rfl) i hi)
      have hFa : kFr kPmR τ pv τ2 pv2 := kFr.add (ta := 10) hW.lr.1 (Or.inr (by rw [e1]; exact had)) (fun _ => rfl) (fun _ => rfl) ht2 hp2
      have hW := hW.addR (by omega) had hh_e te1 te17 ht2 ha2 hp2 hl1 hl2 hq0 hq3 hqi hqn han
      have hF := (hF.weak kPm_R).trans hFa
      refine lv_pop hx hb dX3_addRow_37 rfl ?_
      refine lv_aload_n hx hb dX3_addRow_38 rfl (lv_at hl 1 rfl) ?_
      refine kp_get hx hb hts i_X3 hown hK hP hI hW.tx rfl rfl 1 (by decide) (by decide) (hts (.fieldLink RX3 16 "IslandSolver" "rows" "Ljava/util/ArrayList;") (by decide +kernel)) (fun _ h9 => h9) dX3_addRow_39 (kq_P (v0 := .ref rl) rfl hW.p1 fun h_12 => ?_)
      refine kd_calli (va_runV (As := []) (rest := []) ⟨hx, hb, hml, hown, hts⟩ (k_size8 l dC dI dA ad _ τ2 pv2 _ _ hI rl (nr + 1) hW.lr.1 hW.lr.2.2.1) (cwV 0 hts gX3_addRow_Jx4a65c_size_8abf5 rfl rfl rfl (by decide +kernel) ⟨Nat.le_of_ble_eq_true rfl, Nat.le_of_ble_eq_true rfl⟩) (kd_preV hP hD hK hS hA hE hI hW.lr.1 rfl rfl) rfl rfl hl.1 rfl (lv_room (Nat.le_of_ble_eq_true rfl)) dX3_addRow_42 ⟨Nat.le_of_ble_eq_true rfl, Nat.le_of_ble_eq_true rfl⟩) hD hS hA (fun r_14 u_13 H locs hw hP hD hS => ?_)
      obtain ⟨rfl, hI⟩ := hw
      refine lv_iconst (v := 1) hx hb dX3_addRow_45 (by decide) ?_
      refine lv_isub hx hb dX3_addRow_46 ?_
      refine lv_topi (nm_r (show nI (nr + 1) - 1 = nI nr from nI_pred nr) ?_)
      refine W.widen (k := 1) (n := 1600) (Nat.le_of_ble_eq_true rfl) (Nat.le_of_ble_eq_true rfl) ?_
      exact W.iret (v := nI nr) hx hb hr (fun t ht hW9 => ⟨⟨nI nr, (u_13.1, u_13.2), rfl, ⟨rfl, a2, τ2, pv2, hF, hW, hE9, hqn, hI⟩, by rw [ht]; exact hP, va_K.moved hW9.alike hK, hD⟩, hS.F ht⟩) hS.2.2 dX3_addRow_47
    · refine kd_calli (va_runV (As := [.ref e9]) (rest := []) ⟨hx, hb, hml, hown, hts⟩ (k_add1A8 l dC dI dA ad _ τ pv _ _ hI rl e9 ra nr hW.lr.1 hh_e hW.lr.2.1 hW.lr.2.2.1 hta hla (by omega) hel) (cwV 1 hts gX3_addRow_Jx4a65c_add_9ea2d rfl rfl rfl (by decide +kernel) ⟨Nat.le_of_ble_eq_true rfl, Nat.le_of_ble_eq_true rfl⟩) (kd_preV hP hD hK hS hA hE hI hW.lr.1 rfl rfl) rfl rfl hl.1 rfl (lv_room (Nat.le_of_ble_eq_true rfl)) dX3_addRow_34 ⟨Nat.le_of_ble_eq_true rfl, Nat.le_of_ble_eq_true rfl⟩) hD hS hA (fun r_16 u_15 H locs hw hP hD hS => ?_)
      obtain ⟨a2, τ2, pv2, ht2, ha2, hp2, hl1, hl2, hq0, hq3, hqi, hqn, hI⟩ := hw
      have had2 := (kad hE hD hI).2
      have han : a2 ≠ ad := fun e9 => by rw [e9, had2] at hq0; cases hq0
      have hE9 : ∀ i, i < nr → pv2 a2 i = pv ra i := fun i hi => (hqi i hi).trans (hW00.eqR hF (fun _ => rfl) i hi)
      have hFa : kFr kPmR τ pv τ2 pv2 := kFr.add (ta := 10) hW.lr.1 (Or.inl hta) (fun _ => rfl) (fun _ => rfl) ht2 hp2
      have hW := hW.addR (by omega) had hh_e te1 te17 ht2 ha2 hp2 hl1 hl2 hq0 hq3 hqi hqn han
      have hF := (hF.weak kPm_R).trans hFa
      refine lv_pop hx hb dX3_addRow_37 rfl ?_
      refine lv_aload_n hx hb dX3_addRow_38 rfl (lv_at hl 1 rfl) ?_
      refine kp_get hx hb hts i_X3 hown hK hP hI hW.tx rfl rfl 1 (by decide) (by decide) (hts (.fieldLink RX3 16 "IslandSolver" "rows" "Ljava/util/ArrayList;") (by decide +kernel)) (fun _ h9 => h9) dX3_addRow_39 (kq_P (v0 := .ref rl) rfl hW.p1 fun h_18 => ?_)
      refine kd_calli (va_runV (As := []) (rest := []) ⟨hx, hb, hml, hown, hts⟩ (k_size8 l dC dI dA ad _ τ2 pv2 _ _ hI rl (nr + 1) hW.lr.1 hW.lr.2.2.1) (cwV 0 hts gX3_addRow_Jx4a65c_size_8abf5 rfl rfl rfl (by decide +kernel) ⟨Nat.le_of_ble_eq_true rfl, Nat.le_of_ble_eq_true rfl⟩) (kd_preV hP hD hK hS hA hE hI hW.lr.1 rfl rfl) rfl rfl hl.1 rfl (lv_room (Nat.le_of_ble_eq_true rfl)) dX3_addRow_42 ⟨Nat.le_of_ble_eq_true rfl, Nat.le_of_ble_eq_true rfl⟩) hD hS hA (fun r_20 u_19 H locs hw hP hD hS => ?_)
      obtain ⟨rfl, hI⟩ := hw
      refine lv_iconst (v := 1) hx hb dX3_addRow_45 (by decide) ?_
      refine lv_isub hx hb dX3_addRow_46 ?_
      refine lv_topi (nm_r (show nI (nr + 1) - 1 = nI nr from nI_pred nr) ?_)
      refine W.widen (k := 1) (n := 1600) (Nat.le_of_ble_eq_true rfl) (Nat.le_of_ble_eq_true rfl) ?_
      exact W.iret (v := nI nr) hx hb hr (fun t ht hW9 => ⟨⟨nI nr, (u_19.1, u_19.2), rfl, ⟨rfl, a2, τ2, pv2, hF, hW, hE9, hqn, hI⟩, by rw [ht]; exact hP, va_K.moved hW9.alike hK, hD⟩, hS.F ht⟩) hS.2.2 dX3_addRow_47
  · refine W.eq (g2 := F0 m 8 ls [.ref q_5]) rfl ?_
    refine lv_astore_n (lv' := [(2, .ref q_5), (0, .ref x), (1, .ref e9)]) hx hb dX3_addRow_8 rfl hl (by decide) rfl (fun ls hl => ?_)
    refine lv_aload_n hx hb dX3_addRow_9 rfl (lv_at hl 0 rfl) ?_
    refine lv_ifnull hx hb dX3_addRow_10 ?_
    refine lv_aload_n hx hb dX3_addRow_13 rfl (lv_at hl 2 rfl) ?_
    refine lv_aload_n hx hb dX3_addRow_14 rfl (lv_at hl 2 rfl) ?_
    refine lv_aload_n hx hb dX3_addRow_15 rfl (lv_at hl 0 rfl) ?_
    refine kp_get hx hb hts i_X1 hown hK hP hI tq_5 rfl rfl 12 (by decide) (by decide) (hts (.fieldLink RX3 281 "IslandSolver$Row" "impulse" "F") (by decide +kernel)) (fun _ h9 => h9) dX3_addRow_16 (kq_56 fun x_21 h_22 h_22_2 => ?_)
    refine kd_callf (va_runV (As := [.float x_21]) (rest := [.ref e9]) ⟨hx, hb, hml, hown, hts⟩ (k_held l dC dI dA ad _ τ pv _ _ hI e9 hh_e 1224736768 x_21 h_22 (by decide)) (cwV 1 hts gX3_addRow_X1_held rfl rfl rfl (by decide +kernel) ⟨Nat.le_of_ble_eq_true rfl, Nat.le_of_ble_eq_true rfl⟩) (kd_preV hP hD hK hS hA hE hI hh_e rfl rfl) rfl rfl hl.1 rfl (lv_room (Nat.le_of_ble_eq_true rfl)) dX3_addRow_19 ⟨Nat.le_of_ble_eq_true rfl, Nat.le_of_ble_eq_true rfl⟩) hD hS hA (fun r_24 u_23 H locs hw hP hD hS => ?_)
    obtain ⟨hr_24, gr_24, hI⟩ := hw
    refine kp_put (v := .float r_24) (ty := .float) hx hb hts i_X1 tyX1 tyX1_ok nmX1 hown hK hP hD hS hI hh_e rfl rfl 12 (by decide) (by decide) (hts (.fieldLink RX3 281 "IslandSolver$Row" "impulse" "F") (by decide +kernel)) (fun _ h9 => h9) rfl (by decide +kernel) rfl rfl rfl (by decide) (kv_S (by decide) ⟨_, rfl, hr_24, gr_24⟩) dX3_addRow_22 (fun f H locs hI hP hD hS => ?_)
    refine lv_aload_n hx hb dX3_addRow_25 rfl (lv_at hl 2 rfl) ?_
    refine kd_callv (va_runV (As := []) (rest := []) ⟨hx, hb, hml, hown, hts⟩ (k_enterBodies l dC dI dA ad _ τ pv _ _ hI e9 hh_e) (cwV 0 hts gX3_addRow_X1_enterBodies rfl rfl rfl (by decide +kernel) ⟨Nat.le_of_ble_eq_true rfl, Nat.le_of_ble_eq_true rfl⟩) (kd_preV hP hD hK hS hA hE hI hh_e rfl rfl) rfl rfl hl.1 rfl (lv_room (Nat.le_of_ble_eq_true rfl)) dX3_addRow_26 ⟨Nat.le_of_ble_eq_true rfl, Nat.le_of_ble_eq_true rfl⟩) hD hS hA (fun u_25 H locs hw hP hD hS => ?_)
    have hI := hw
    refine lv_aload_n hx hb dX3_addRow_29 rfl (lv_at hl 1 rfl) ?_
    refine kp_get hx hb hts i_X3 hown hK hP hI hW.tx rfl rfl 1 (by decide) (by decide) (hts (.fieldLink RX3 16 "IslandSolver" "rows" "Ljava/util/ArrayList;") (by decide +kernel)) (fun _ h9 => h9) dX3_addRow_30 (kq_P (v0 := .ref rl) rfl hW.p1 fun h_27 => ?_)
    refine lv_aload_n hx hb dX3_addRow_33 rfl (lv_at hl 2 rfl) ?_
    have had := (kad hE hD hI).2
    have hw4 := hW.lr.2.2.2
    rcases hw4 with ⟨e1, e2⟩ | ⟨hta, hla, hel⟩
    · have ha : pv rl 1 = .ref ad := by rw [← e1]; exact hW.lr.2.1
      have hn : pv rl 2 = .int 0 := by have h9 := hW.lr.2.2.1; rw [e2] at h9; exact h9
      refine kd_calli (va_runV (As := [.ref e9]) (rest := []) ⟨hx, hb, hml, hown, hts⟩ (k_add1F8 l dC dI dA ad _ τ pv _ _ hI rl e9 hW.lr.1 hh_e ha hn) (cwV 1 hts gX3_addRow_Jx4a65c_add_9ea2d rfl rfl rfl (by decide +kernel) ⟨Nat.le_of_ble_eq_true rfl, Nat.le_of_ble_eq_true rfl⟩) (kd_preV hP hD hK hS hA hE hI hW.lr.1 rfl rfl) rfl rfl hl.1 rfl (lv_room (Nat.le_of_ble_eq_true rfl)) dX3_addRow_34 ⟨Nat.le_of_ble_eq_true rfl, Nat.le_of_ble_eq_true rfl⟩) hD hS hA (fun r_29 u_28 H locs hw hP hD hS => ?_)
      obtain ⟨a2, τ2, pv2, ht2, ha2, hp2, hl1, hl2, hq0, hq3, hqi, hqn, hI⟩ := hw
      have had2 := (kad hE hD hI).2
      have han : a2 ≠ ad := fun e9 => by rw [e9, had2] at hq0; cases hq0
      have hl2 : pv2 rl 2 = .int (nI (nr + 1)) := by rw [e2]; exact hl2
      have ha2 : a2 = ra ∨ τ 0 a2 = 0 := by rw [e1]; exact ha2
      have hp2 : ∀ b k, τ 0 b ≠ 0 → b ≠ rl → b ≠ ra → pv2 b k = pv b k := by rw [e1]; exact hp2
      have hq3 : nr + 1 ≤ τ2 3 a2 := by rw [e2]; exact hq3
      have hqi : ∀ i, i < nr → pv2 a2 i = pv ra i := by rw [e2]; exact fun i hi => absurd hi (Nat.not_lt_zero i)
      have hqn : pv2 a2 nr = .ref e9 := by rw [e2]; exact hqn
      have hE9 : ∀ i, i < nr → pv2 a2 i = pv ra i := fun i hi => (hqi i hi).trans (hW00.eqR hF (fun _ => rfl) i hi)
      have hFa : kFr kPmR τ pv τ2 pv2 := kFr.add (ta := 10) hW.lr.1 (Or.inr (by rw [e1]; exact had)) (fun _ => rfl) (fun _ => rfl) ht2 hp2
      have hW := hW.addR (by omega) had hh_e te1 te17 ht2 ha2 hp2 hl1 hl2 hq0 hq3 hqi hqn han
      have hF := (hF.weak kPm_R).trans hFa
      refine lv_pop hx hb dX3_addRow_37 rfl ?_
      refine lv_aload_n hx hb dX3_addRow_38 rfl (lv_at hl 1 rfl) ?_
      refine kp_get hx hb hts i_X3 hown hK hP hI hW.tx rfl rfl 1 (by decide) (by decide) (hts (.fieldLink RX3 16 "IslandSolver" "rows" "Ljava/util/ArrayList;") (by decide +kernel)) (fun _ h9 => h9) dX3_addRow_39 (kq_P (v0 := .ref rl) rfl hW.p1 fun h_31 => ?_)
      refine kd_calli (va_runV (As := []) (rest := []) ⟨hx, hb, hml, hown, hts⟩ (k_size8 l dC dI dA ad _ τ2 pv2 _ _ hI rl (nr + 1) hW.lr.1 hW.lr.2.2.1) (cwV 0 hts gX3_addRow_Jx4a65c_size_8abf5 rfl rfl rfl (by decide +kernel) ⟨Nat.le_of_ble_eq_true rfl, Nat.le_of_ble_eq_true rfl⟩) (kd_preV hP hD hK hS hA hE hI hW.lr.1 rfl rfl) rfl rfl hl.1 rfl (lv_room (Nat.le_of_ble_eq_true rfl)) dX3_addRow_42 ⟨Nat.le_of_ble_eq_true rfl, Nat.le_of_ble_eq_true rfl⟩) hD hS hA (fun r_33 u_32 H locs hw hP hD hS => ?_)
      obtain ⟨rfl, hI⟩ := hw
      refine lv_iconst (v := 1) hx hb dX3_addRow_45 (by decide) ?_
      refine lv_isub hx hb dX3_addRow_46 ?_
      refine lv_topi (nm_r (show nI (nr + 1) - 1 = nI nr from nI_pred nr) ?_)
      refine W.widen (k := 1) (n := 1600) (Nat.le_of_ble_eq_true rfl) (Nat.le_of_ble_eq_true rfl) ?_
      exact W.iret (v := nI nr) hx hb hr (fun t ht hW9 => ⟨⟨nI nr, (u_32.1, u_32.2), rfl, ⟨rfl, a2, τ2, pv2, hF, hW, hE9, hqn, hI⟩, by rw [ht]; exact hP, va_K.moved hW9.alike hK, hD⟩, hS.F ht⟩) hS.2.2 dX3_addRow_47
    · refine kd_calli (va_runV (As := [.ref e9]) (rest := []) ⟨hx, hb, hml, hown, hts⟩ (k_add1A8 l dC dI dA ad _ τ pv _ _ hI rl e9 ra nr hW.lr.1 hh_e hW.lr.2.1 hW.lr.2.2.1 hta hla (by omega) hel) (cwV 1 hts gX3_addRow_Jx4a65c_add_9ea2d rfl rfl rfl (by decide +kernel) ⟨Nat.le_of_ble_eq_true rfl, Nat.le_of_ble_eq_true rfl⟩) (kd_preV hP hD hK hS hA hE hI hW.lr.1 rfl rfl) rfl rfl hl.1 rfl (lv_room (Nat.le_of_ble_eq_true rfl)) dX3_addRow_34 ⟨Nat.le_of_ble_eq_true rfl, Nat.le_of_ble_eq_true rfl⟩) hD hS hA (fun r_35 u_34 H locs hw hP hD hS => ?_)
      obtain ⟨a2, τ2, pv2, ht2, ha2, hp2, hl1, hl2, hq0, hq3, hqi, hqn, hI⟩ := hw
      have had2 := (kad hE hD hI).2
      have han : a2 ≠ ad := fun e9 => by rw [e9, had2] at hq0; cases hq0
      have hE9 : ∀ i, i < nr → pv2 a2 i = pv ra i := fun i hi => (hqi i hi).trans (hW00.eqR hF (fun _ => rfl) i hi)
      have hFa : kFr kPmR τ pv τ2 pv2 := kFr.add (ta := 10) hW.lr.1 (Or.inl hta) (fun _ => rfl) (fun _ => rfl) ht2 hp2
      have hW := hW.addR (by omega) had hh_e te1 te17 ht2 ha2 hp2 hl1 hl2 hq0 hq3 hqi hqn han
      have hF := (hF.weak kPm_R).trans hFa
      refine lv_pop hx hb dX3_addRow_37 rfl ?_
      refine lv_aload_n hx hb dX3_addRow_38 rfl (lv_at hl 1 rfl) ?_
      refine kp_get hx hb hts i_X3 hown hK hP hI hW.tx rfl rfl 1 (by decide) (by decide) (hts (.fieldLink RX3 16 "IslandSolver" "rows" "Ljava/util/ArrayList;") (by decide +kernel)) (fun _ h9 => h9) dX3_addRow_39 (kq_P (v0 := .ref rl) rfl hW.p1 fun h_37 => ?_)
      refine kd_calli (va_runV (As := []) (rest := []) ⟨hx, hb, hml, hown, hts⟩ (k_size8 l dC dI dA ad _ τ2 pv2 _ _ hI rl (nr + 1) hW.lr.1 hW.lr.2.2.1) (cwV 0 hts gX3_addRow_Jx4a65c_size_8abf5 rfl rfl rfl (by decide +kernel) ⟨Nat.le_of_ble_eq_true rfl, Nat.le_of_ble_eq_true rfl⟩) (kd_preV hP hD hK hS hA hE hI hW.lr.1 rfl rfl) rfl rfl hl.1 rfl (lv_room (Nat.le_of_ble_eq_true rfl)) dX3_addRow_42 ⟨Nat.le_of_ble_eq_true rfl, Nat.le_of_ble_eq_true rfl⟩) hD hS hA (fun r_39 u_38 H locs hw hP hD hS => ?_)
      obtain ⟨rfl, hI⟩ := hw
      refine lv_iconst (v := 1) hx hb dX3_addRow_45 (by decide) ?_
      refine lv_isub hx hb dX3_addRow_46 ?_
      refine lv_topi (nm_r (show nI (nr + 1) - 1 = nI nr from nI_pred nr) ?_)
      refine W.widen (k := 1) (n := 1600) (Nat.le_of_ble_eq_true rfl) (Nat.le_of_ble_eq_true rfl) ?_
      exact W.iret (v := nI nr) hx hb hr (fun t ht hW9 => ⟨⟨nI nr, (u_38.1, u_38.2), rfl, ⟨rfl, a2, τ2, pv2, hF, hW, hE9, hqn, hI⟩, by rw [ht]; exact hP, va_K.moved hW9.alike hK, hD⟩, hS.F ht⟩) hS.2.2 dX3_addRow_47
