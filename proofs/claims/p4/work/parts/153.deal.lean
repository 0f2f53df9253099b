set_option maxHeartbeats 4000000 in
set_option maxRecDepth 100000 in
theorem k_dealRows (l : Launch) (dC : Nat → ClassId) (dI : Nat → Nat → Nat) (dA : Nat → ClassId) (ad sz : Nat) (τ : Nat → Nat → Nat) (pv0 : Nat → Nat → Value) (L : List Nat) (f : Nat → va_E) (hI : kI dA τ pv0 L f) (x bl rl kl ba ra ka fr nb nr nk : Nat) (hW : kW τ pv0 ad x bl rl kl ba ra ka fr nb nr nk)  : Met l yX3_dealOutRows wsX3_dealOutRows ({ frames := 3, cells := 0, slots := 0, locals := 64 } : Room) (va_Pc [.ref x] (kB dC dI dA ad sz L f)) (va_Qv (fun u => ∃ pv2, kFr kPd τ pv0 τ pv2 ∧ kW τ pv2 ad x bl rl kl ba ra ka fr nb nr nk ∧ kNx τ pv2 fr ra nr 0 ∧ kI dA τ pv2 u.1 u.2) (kR dC dI dA (va_A (va_pl L f) sz)) (va_A (va_pl L f) sz)) 0 0 (va_A (va_pl L f) sz) := by
  refine Met.ofW (cc := cX3_dealOutRows) (maxL := 4) (ret := none) (by decide) rfl ?_
  intro p e s m args below meth c s₁ B hml hv
  obtain ⟨rfl, hsz, hP, hK, hD0, hE⟩ := hv
  have hx := B.exec
  have hb := B.bytes
  have hr := B.returns
  have hts := atoms_spec (ws := wsX3_dealOutRows) B.pre
  have hown : s.vm.findClass RX3 = some m.cls := findClass_of_methodNamed B.named
  have hlocks := B.notSynchronized
  have i_X3 : ∀ w ∈ u_ws RX3 TX3 16, w ∈ wsX3_dealOutRows := by decide +kernel
  have i_X1 : ∀ w ∈ u_ws RX1 TX1 18, w ∈ wsX3_dealOutRows := by decide +kernel
  subst hsz
  have hD := hD0.self (sz := s.heap.size)
  generalize hAe : va_A (va_pl L f) s.heap.size = A at hD hE ⊢
  have hA : ∀ q : Nat, s.heap.size ≤ q → A q := fun q h => by rw [← hAe]; exact Or.inr h
  have hS : va_S A s.heap s.heap [] := va_S.rf
  have hP : va_P (dC, dI) vwCl (va_pl L f) s.heap := hP
  have hK : va_K (dC, dI) vwCl (tyA dA) s := hK
  have hl := lv_entry ([.ref x]) (n := 4) (Nat.le_of_ble_eq_true rfl)
  rw [lg_entry_eq]
  generalize (lg_sl ([.ref x]) ++ List.replicate (4 - (lg_sl ([.ref x])).length) Slot.unset).toArray = ls at hl ⊢
  have hl : lv_has ls 4 [(0, .ref x)] := hl
  have hnb := hW.lnb
  have hnr := hW.lnr
  have hnk := hW.lnk
  have hF : kFr kPd τ pv0 τ pv0 := kFr.rf
  refine lv_iconst (v := 0) hx hb dX3_dealOutRows_0 (by decide) ?_
  refine lv_istore_n (lv' := [(1, .int 0), (0, .ref x)]) hx hb dX3_dealOutRows_1 rfl hl (by decide) rfl (fun ls hl => ?_)
  have hl : lv_has ls 4 [(0, .ref x), (1, .int 0)] := lv_sub hl [1, 0] rfl
  refine kl_loop (Inv := fun n2 pv L f H locs ls => ∃ (i : Nat), 8 - i < n2 ∧ kI dA τ pv L f ∧ va_P (dC, dI) vwCl (va_pl L f) H ∧ va_D A (va_pl L f) ∧ va_S A s.heap H locs ∧ lv_has ls 4 [(0, .ref x), (1, .int (nI i))] ∧ kFr kPd τ pv0 τ pv ∧ kW τ pv ad x bl rl kl ba ra ka fr nb nr nk ∧ (∀ w9, w9 < i → pv fr w9 = va_rf none) ∧ i ≤ 8) (fun _ _ _ _ _ _ h9 => by obtain ⟨_, hn, _⟩ := h9; exact Nat.not_lt_zero _ hn) (fun n2 ih2 pv L f H locs ls h9 => ?_) (8 - 0 + 1) (pv0) _ _ _ _ _ ⟨0, Nat.lt_succ_self _, hI, hP, hD, hS, hl, hF, hW, fun w9 h9 => absurd h9 (Nat.not_lt_zero _), by decide⟩
  obtain ⟨i, hn2, hI, hP, hD, hS, hl, hF, hW, hN, hib⟩ := h9
  refine lv_iload_n hx hb dX3_dealOutRows_2 rfl (lv_at hl 1 rfl) ?_
  refine lv_bipush (v := 8) hx hb dX3_dealOutRows_3 (by decide) ?_
  refine lv_icmp_ge (tgt := 21) hx hb dX3_dealOutRows_5 (by decide) (fun c_1 => ?_) (fun c_1 => ?_)
  · have n_2 : 8 ≤ i := (nI_leI (by omega) (by omega)).mp (show nI 8 ≤ nI i from c_1)
    refine lv_aload_n hx hb dX3_dealOutRows_21 rfl (lv_at hl 0 rfl) ?_
    refine kp_get hx hb hts i_X3 hown hK hP hI hW.tx rfl rfl 1 (by decide) (by decide) (hts (.fieldLink RX3 16 "IslandSolver" "rows" "Ljava/util/ArrayList;") (by decide +kernel)) (fun _ h9 => h9) dX3_dealOutRows_22 (kq_P (v0 := .ref rl) rfl hW.p1 fun h_4 => ?_)
    refine kd_calli (va_runV (As := []) (rest := []) ⟨hx, hb, hml, hown, hts⟩ (k_size8 l dC dI dA ad _ τ pv _ _ hI rl nr hW.lr.1 hW.lr.2.2.1) (cwV 0 hts gX3_dealOutRows_Jx4a65c_size_8abf5 rfl rfl rfl (by decide +kernel) ⟨Nat.le_of_ble_eq_true rfl, Nat.le_of_ble_eq_true rfl⟩) (kd_preV hP hD hK hS hA hE hI hW.lr.1 rfl rfl) rfl rfl hl.1 rfl (lv_room (Nat.le_of_ble_eq_true rfl)) dX3_dealOutRows_25 ⟨Nat.le_of_ble_eq_true rfl, Nat.le_of_ble_eq_true rfl⟩) hD hS hA (fun r_6 u_5 H locs hw hP hD hS => ?_)
    obtain ⟨rfl, hI⟩ := hw
    refine lv_iconst (v := 1) hx hb dX3_dealOutRows_28 (by decide) ?_
    refine lv_isub hx hb dX3_dealOutRows_29 ?_
    refine lv_topi (nm_r (show nI nr - 1 = kmi nr from kmi_sub nr) ?_)
    refine lv_istore_n (lv' := [(1, .int (kmi nr)), (0, .ref x)]) hx hb dX3_dealOutRows_30 rfl hl (by decide) rfl (fun ls hl => ?_)
    have hl : lv_has ls 4 [(0, .ref x), (1, .int (kmi nr))] := lv_sub hl [1, 0] rfl
    refine kl_loop (Inv := fun n31 pv L f H locs ls => ∃ (k9 : Nat), k9 < n31 ∧ kI dA τ pv L f ∧ va_P (dC, dI) vwCl (va_pl L f) H ∧ va_D A (va_pl L f) ∧ va_S A s.heap H locs ∧ lv_has ls 4 [(0, .ref x), (1, .int (kmi k9))] ∧ kFr kPd τ pv0 τ pv ∧ kW τ pv ad x bl rl kl ba ra ka fr nb nr nk ∧ kNx τ pv fr ra nr k9 ∧ k9 ≤ nr) (fun _ _ _ _ _ _ h9 => by obtain ⟨_, hn, _⟩ := h9; exact Nat.not_lt_zero _ hn) (fun n31 ih31 pv L f H locs ls h9 => ?_) (nr + 1) (pv) _ _ _ _ _ ⟨nr, Nat.lt_succ_self _, hI, hP, hD, hS, hl, hF, hW, fun w9 h9 => Or.inl (hN w9 (by omega)), Nat.le_refl _⟩
    obtain ⟨k9, hn31, hI, hP, hD, hS, hl, hF, hW, hN, hk9⟩ := h9
    rcases k9 with _ | j
    · have hl : lv_has ls 4 [(0, .ref x), (1, .int (-1))] := hl
      refine lv_iload_n hx hb dX3_dealOutRows_31 rfl (lv_at hl 1 rfl) ?_
      refine lv_if_lt (tgt := 84) hx hb dX3_dealOutRows_32 (by decide) (fun _ => ?_) (fun h9 => by first | exact absurd h9 (by decide) | exact absurd (by decide) h9)
      refine W.widen (k := 0) (n := 0) (Nat.le_of_ble_eq_true rfl) (Nat.le_of_ble_eq_true rfl) ?_
      exact W.vret hx hb hr (fun t ht hW9 => ⟨⟨(L, f), rfl, ⟨_, hF, hW, hN, hI⟩, by rw [ht]; exact hP, va_K.moved hW9.alike hK, hD⟩, hS.F ht⟩) hS.2.2 dX3_dealOutRows_84
    · have hl : lv_has ls 4 [(0, .ref x), (1, .int (nI j))] := hl
      refine lv_iload_n hx hb dX3_dealOutRows_31 rfl (lv_at hl 1 rfl) ?_
      refine lv_if_lt (tgt := 84) hx hb dX3_dealOutRows_32 (by decide) (fun h9 => absurd h9 (nI_pos (n := j) (by omega))) (fun _ => ?_)
      refine lv_aload_n hx hb dX3_dealOutRows_35 rfl (lv_at hl 0 rfl) ?_
      refine kp_get hx hb hts i_X3 hown hK hP hI hW.tx rfl rfl 1 (by decide) (by decide) (hts (.fieldLink RX3 16 "IslandSolver" "rows" "Ljava/util/ArrayList;") (by decide +kernel)) (fun _ h9 => h9) dX3_dealOutRows_36 (kq_P (v0 := .ref rl) rfl hW.p1 fun h_8 => ?_)
      refine lv_iload_n hx hb dX3_dealOutRows_39 rfl (lv_at hl 1 rfl) ?_
      obtain ⟨q_9, g_10, g_11, g_12, g_13⟩ := hW.lr.at (i := j) (by omega)
      have g_14 := (hW.xr (i := j) (by omega) g_12).1
      refine kd_callq (va_runV (As := [.int (nI j)]) (rest := []) ⟨hx, hb, hml, hown, hts⟩ (k_get8 l dC dI dA ad _ τ pv _ _ hI rl ra nr j q_9 hW.lr.1 hW.lr.2.1 hW.lr.2.2.1 g_10 g_11 (by omega) (by omega) g_12) (cwV 1 hts gX3_dealOutRows_Jx4a65c_get_915e3 rfl rfl rfl (by decide +kernel) ⟨Nat.le_of_ble_eq_true rfl, Nat.le_of_ble_eq_true rfl⟩) (kd_preV hP hD hK hS hA hE hI hW.lr.1 rfl rfl) rfl rfl hl.1 rfl (lv_room (Nat.le_of_ble_eq_true rfl)) dX3_dealOutRows_40 ⟨Nat.le_of_ble_eq_true rfl, Nat.le_of_ble_eq_true rfl⟩) hD hS hA (fun r_16 u_15 H locs hw hP hD hS => ?_)
      obtain ⟨rfl, hI⟩ := hw
      refine W.eq (g2 := F0 m 43 ls [.ref q_9]) rfl ?_
      refine va_castY hx hb hown (hts (.classLink RX3 67 "IslandSolver$Row") (by decide +kernel)) (kz_cast (hE.cast2 "IslandSolver$Row" "IslandSolver$Row" (by decide +kernel))) (kd_recv hK hP hI g_13 rfl rfl) dX3_dealOutRows_43 ?_
      refine lv_astore_n (lv' := [(2, .ref q_9), (0, .ref x), (1, .int (nI j))]) hx hb dX3_dealOutRows_46 rfl hl (by decide) rfl (fun ls hl => ?_)
      refine lv_aload_n hx hb dX3_dealOutRows_47 rfl (lv_at hl 1 rfl) ?_
      refine lv_aload_n hx hb dX3_dealOutRows_48 rfl (lv_at hl 0 rfl) ?_
      refine kd_calli (va_runV (As := []) (rest := [.ref x]) ⟨hx, hb, hml, hown, hts⟩ (k_rowIsland l dC dI dA ad _ τ pv _ _ hI q_9 g_13) (cwV 0 hts gX3_dealOutRows_X1_island rfl rfl rfl (by decide +kernel) ⟨Nat.le_of_ble_eq_true rfl, Nat.le_of_ble_eq_true rfl⟩) (kd_preV hP hD hK hS hA hE hI g_13 rfl rfl) rfl rfl hl.1 rfl (lv_room (Nat.le_of_ble_eq_true rfl)) dX3_dealOutRows_49 ⟨Nat.le_of_ble_eq_true rfl, Nat.le_of_ble_eq_true rfl⟩) hD hS hA (fun r_18 u_17 H locs hw hP hD hS => ?_)
      have hI := hw
      refine kd_calli (va_runV (As := [.int r_18]) (rest := []) ⟨hx, hb, hml, hown, hts⟩ (k_workerOn l dC dI dA ad _ τ pv _ _ hI x bl rl kl ba ra ka fr nb nr nk hW r_18) (cwV 1 hts gX3_dealOutRows_X3_workerOn rfl rfl rfl (by decide +kernel) ⟨Nat.le_of_ble_eq_true rfl, Nat.le_of_ble_eq_true rfl⟩) (kd_preV hP hD hK hS hA hE hI hW.tx rfl rfl) rfl rfl hl.1 rfl (lv_room (Nat.le_of_ble_eq_true rfl)) dX3_dealOutRows_52 ⟨Nat.le_of_ble_eq_true rfl, Nat.le_of_ble_eq_true rfl⟩) hD hS hA (fun r_20 u_19 H locs hw hP hD hS => ?_)
      obtain ⟨⟨hr_20, hr_20_2⟩, hI⟩ := hw
      refine lv_istore_n (lv' := [(3, .int r_20), (2, .ref q_9), (0, .ref x), (1, .int (nI j))]) hx hb dX3_dealOutRows_55 rfl hl (by decide) rfl (fun ls hl => ?_)
      refine lv_iload_n hx hb dX3_dealOutRows_56 rfl (lv_at hl 0 rfl) ?_
      refine lv_iconst (v := (-1)) hx hb dX3_dealOutRows_57 (by decide) ?_
      refine lv_icmp_eq (tgt := 78) hx hb dX3_dealOutRows_58 (by decide) (fun c_21 => ?_) (fun c_21 => ?_)
      · refine lv_iinc (v := kmi j) (lv' := [(1, .int (kmi j)), (3, .int r_20), (2, .ref q_9), (0, .ref x)]) hx hb dX3_dealOutRows_78 hl (k := 3) rfl (kmi_dec j) (by decide) rfl (fun ls hl => ?_)
        refine lv_goto (tgt := 31) hx hb dX3_dealOutRows_81 (by decide) ?_
        have hl : lv_has ls 4 [(0, .ref x), (1, .int (kmi j))] := lv_sub hl [3, 0] rfl
        exact ih31 (pv) _ _ _ _ _ ⟨j, by omega, hI, hP, hD, hS, hl, hF, hW, fun w8 h8 => (hN w8 h8).imp id (fun ⟨q8, y0, y1, y2, y3⟩ => ⟨q8, y0, by omega, y2, y3⟩), by omega⟩
      · obtain ⟨w9, hw9, rfl⟩ := kz_8 hr_20 hr_20_2 c_21
        rcases hN w9 hw9 with hN0 | ⟨q9, hN0, hN1, hN2, hN3⟩
        · refine lv_aload_n hx hb dX3_dealOutRows_61 rfl (lv_at hl 1 rfl) ?_
          refine lv_aload_n hx hb dX3_dealOutRows_62 rfl (lv_at hl 2 rfl) ?_
          refine kp_get hx hb hts i_X3 hown hK hP hI hW.tx rfl rfl 15 (by decide) (by decide) (hts (.fieldLink RX3 69 "IslandSolver" "firstRow" "[LIslandSolver$Row;") (by decide +kernel)) (fun _ h9 => h9) dX3_dealOutRows_63 (kq_P (v0 := .ref fr) rfl hW.p15 fun h_23 => ?_)
          refine lv_iload_n hx hb dX3_dealOutRows_66 rfl (lv_at hl 0 rfl) ?_
          have hj_24 : w9 < τ 3 fr := by rw [show τ 3 fr = 8 from (hI.arr hW.tf rfl).2.1]; omega
          refine W.eq (g2 := F0 m 67 ls (.int (nI (w9)) :: .ref fr :: [.ref q_9])) rfl ?_
          refine kp_qald6 (j := w9) hx hb hK hP hI hW.tf rfl hj_24 dX3_dealOutRows_67 (ka_PN (x0 := none) rfl hN0 ?_)
          refine W.eq (g2 := F0 m 68 ls [.null, .ref q_9]) rfl ?_
          refine kp_putP (v := .null) (ty := .object "IslandSolver$Row") hx hb hts i_X1 tyX1 tyX1_ok nmX1 hown hK hP hD hS hI g_13 rfl rfl 17 (by decide) (by decide) (hts (.fieldLink RX3 372 "IslandSolver$Row" "next" "LIslandSolver$Row;") (by decide +kernel)) (fun _ h9 => h9) rfl (by decide +kernel) rfl rfl rfl (kv_N0 2 (by decide)) dX3_dealOutRows_68 (fun f H locs hI hP hD hS => ?_)
          have hF := hF.trans (kFr.up (P := kPd) (w := .null) (k := 17) g_13 rfl)
          have t9_3 := hW.row (i := j) (by omega) g_12
          have hN : kNx τ (kup pv q_9 17 (.null)) fr ra nr (j + 1) := fun w8 h8 => by
            have f9 : ∀ k9, (kup pv q_9 17 (.null)) fr k9 = pv fr k9 := fun k9 => kup_ne (Or.inl (fun e9 => by have := hW.tf; rw [e9, g_13] at this; cases this))
            have f8 : ∀ k9, (kup pv q_9 17 (.null)) ra k9 = pv ra k9 := fun k9 => kup_ne (Or.inl (fun e9 => by have := t9_3.2; rw [e9, g_13] at this; cases this))
            rw [f9]
            rcases hN w8 h8 with h9 | ⟨q8, h9, y1, y2, y3⟩
            · exact Or.inl h9
            · exact Or.inr ⟨q8, h9, y1, y2, by rw [f8]; exact y3⟩
          have hW := hW.next (j := j) (v := .null) (by omega) g_12 (Or.inl rfl)
          refine lv_aload_n hx hb dX3_dealOutRows_71 rfl (lv_at hl 2 rfl) ?_
          refine kp_get hx hb hts i_X3 hown hK hP hI hW.tx rfl rfl 15 (by decide) (by decide) (hts (.fieldLink RX3 69 "IslandSolver" "firstRow" "[LIslandSolver$Row;") (by decide +kernel)) (fun _ h9 => h9) dX3_dealOutRows_72 (kq_P (v0 := .ref fr) rfl hW.p15 fun h_28 => ?_)
          refine lv_iload_n hx hb dX3_dealOutRows_75 rfl (lv_at hl 0 rfl) ?_
          refine lv_aload_n hx hb dX3_dealOutRows_76 rfl (lv_at hl 1 rfl) ?_
          have hj_29 : w9 < τ 3 fr := by rw [show τ 3 fr = 8 from (hI.arr hW.tf rfl).2.1]; omega
          refine W.eq (g2 := F0 m 77 ls (.ref q_9 :: .int (nI (w9)) :: .ref fr :: [])) rfl ?_
          refine kp_qast6X (pv' := (kup (kup pv q_9 17 (.null)) fr (w9) (.ref q_9))) (j := w9) hx hb hK hP hD hS hI hW.tf rfl hj_29 (kd_any hK hP hI g_13 rfl rfl (hE.asg "IslandSolver$Row" "IslandSolver$Row" (by decide +kernel))) (fun _ _ h9 => kup_ne h9) (show kPr _ 202 _ _ from (kv_N 2 (by decide) g_13)) ((kPn_pin rfl).mpr kup_self.symm) dX3_dealOutRows_77 (fun f H locs hI hP hD hS => ?_)
          have hF := hF.trans (kFr.up (P := kPd) (w := .ref q_9) (k := w9) hW.tf rfl)
          have t9 : τ 0 ra = 10 := (hW.row (by omega) ((kup_ne (Or.inl (fun e9 => by have := t9_3.2; rw [e9, g_13] at this; cases this))).trans g_12)).2
          have n9 : ra ≠ fr := fun e9 => by have := hW.tf; rw [← e9, t9] at this; cases this
          have hN : kNx τ (kup (kup pv q_9 17 (.null)) fr (w9) (.ref q_9)) fr ra nr j := fun w8 h8 => by
            by_cases e9 : w8 = w9
            · rw [e9]; exact Or.inr ⟨q_9, kup_self, by omega, by omega, (kup_ne (Or.inl n9)).trans (by rw [g_14]; exact (kup_ne (Or.inl (fun e9 => by have := t9_3.2; rw [e9, g_13] at this; cases this))).trans g_12)⟩
            · rcases hN w8 h8 with h9 | ⟨q8, h9, y1, y2, y3⟩
              · exact Or.inl ((kup_ne (Or.inr e9)).trans h9)
              · exact Or.inr ⟨q8, (kup_ne (Or.inr e9)).trans h9, by omega, y2, (kup_ne (Or.inl n9)).trans y3⟩
          have hW := hW.frw (kFr.up (P := kPw) (w := .ref q_9) (k := w9) hW.tf rfl)
          refine lv_iinc (v := kmi j) (lv' := [(1, .int (kmi j)), (3, .int (nI w9)), (2, .ref q_9), (0, .ref x)]) hx hb dX3_dealOutRows_78 hl (k := 3) rfl (kmi_dec j) (by decide) rfl (fun ls hl => ?_)
          refine lv_goto (tgt := 31) hx hb dX3_dealOutRows_81 (by decide) ?_
          have hl : lv_has ls 4 [(0, .ref x), (1, .int (kmi j))] := lv_sub hl [3, 0] rfl
          exact ih31 ((kup (kup pv q_9 17 (.null)) fr (w9) (.ref q_9))) _ _ _ _ _ ⟨j, by omega, hI, hP, hD, hS, hl, hF, hW, hN, by omega⟩
        · have t9_2 := (hW.row hN2 hN3).1
          refine lv_aload_n hx hb dX3_dealOutRows_61 rfl (lv_at hl 1 rfl) ?_
          refine lv_aload_n hx hb dX3_dealOutRows_62 rfl (lv_at hl 2 rfl) ?_
          refine kp_get hx hb hts i_X3 hown hK hP hI hW.tx rfl rfl 15 (by decide) (by decide) (hts (.fieldLink RX3 69 "IslandSolver" "firstRow" "[LIslandSolver$Row;") (by decide +kernel)) (fun _ h9 => h9) dX3_dealOutRows_63 (kq_P (v0 := .ref fr) rfl hW.p15 fun h_31 => ?_)
          refine lv_iload_n hx hb dX3_dealOutRows_66 rfl (lv_at hl 0 rfl) ?_
          have hj_32 : w9 < τ 3 fr := by rw [show τ 3 fr = 8 from (hI.arr hW.tf rfl).2.1]; omega
          refine W.eq (g2 := F0 m 67 ls (.int (nI (w9)) :: .ref fr :: [.ref q_9])) rfl ?_
          refine kp_qald6 (j := w9) hx hb hK hP hI hW.tf rfl hj_32 dX3_dealOutRows_67 (ka_PN (x0 := (some q9)) rfl hN0 ?_)
          refine W.eq (g2 := F0 m 68 ls [.ref q9, .ref q_9]) rfl ?_
          refine kp_putP (v := .ref q9) (ty := .object "IslandSolver$Row") hx hb hts i_X1 tyX1 tyX1_ok nmX1 hown hK hP hD hS hI g_13 rfl rfl 17 (by decide) (by decide) (hts (.fieldLink RX3 372 "IslandSolver$Row" "next" "LIslandSolver$Row;") (by decide +kernel)) (fun _ h9 => h9) rfl (by decide +kernel) rfl rfl rfl (kv_N 2 (by decide) t9_2) dX3_dealOutRows_68 (fun f H locs hI hP hD hS => ?_)
          have hF := hF.trans (kFr.up (P := kPd) (w := .ref q9) (k := 17) g_13 rfl)
          have t9_3 := hW.row (i := j) (by omega) g_12
          have hN : kNx τ (kup pv q_9 17 (.ref q9)) fr ra nr (j + 1) := fun w8 h8 => by
            have f9 : ∀ k9, (kup pv q_9 17 (.ref q9)) fr k9 = pv fr k9 := fun k9 => kup_ne (Or.inl (fun e9 => by have := hW.tf; rw [e9, g_13] at this; cases this))
            have f8 : ∀ k9, (kup pv q_9 17 (.ref q9)) ra k9 = pv ra k9 := fun k9 => kup_ne (Or.inl (fun e9 => by have := t9_3.2; rw [e9, g_13] at this; cases this))
            rw [f9]
            rcases hN w8 h8 with h9 | ⟨q8, h9, y1, y2, y3⟩
            · exact Or.inl h9
            · exact Or.inr ⟨q8, h9, y1, y2, by rw [f8]; exact y3⟩
          have hW := hW.next (j := j) (v := .ref q9) (by omega) g_12 (Or.inr ⟨q9, rfl, by omega, hN2, hN3⟩)
          refine lv_aload_n hx hb dX3_dealOutRows_71 rfl (lv_at hl 2 rfl) ?_
          refine kp_get hx hb hts i_X3 hown hK hP hI hW.tx rfl rfl 15 (by decide) (by decide) (hts (.fieldLink RX3 69 "IslandSolver" "firstRow" "[LIslandSolver$Row;") (by decide +kernel)) (fun _ h9 => h9) dX3_dealOutRows_72 (kq_P (v0 := .ref fr) rfl hW.p15 fun h_36 => ?_)
          refine lv_iload_n hx hb dX3_dealOutRows_75 rfl (lv_at hl 0 rfl) ?_
          refine lv_aload_n hx hb dX3_dealOutRows_76 rfl (lv_at hl 1 rfl) ?_
          have hj_37 : w9 < τ 3 fr := by rw [show τ 3 fr = 8 from (hI.arr hW.tf rfl).2.1]; omega
          refine W.eq (g2 := F0 m 77 ls (.ref q_9 :: .int (nI (w9)) :: .ref fr :: [])) rfl ?_
          refine kp_qast6X (pv' := (kup (kup pv q_9 17 (.ref q9)) fr (w9) (.ref q_9))) (j := w9) hx hb hK hP hD hS hI hW.tf rfl hj_37 (kd_any hK hP hI g_13 rfl rfl (hE.asg "IslandSolver$Row" "IslandSolver$Row" (by decide +kernel))) (fun _ _ h9 => kup_ne h9) (show kPr _ 202 _ _ from (kv_N 2 (by decide) g_13)) ((kPn_pin rfl).mpr kup_self.symm) dX3_dealOutRows_77 (fun f H locs hI hP hD hS => ?_)
          have hF := hF.trans (kFr.up (P := kPd) (w := .ref q_9) (k := w9) hW.tf rfl)
          have t9 : τ 0 ra = 10 := (hW.row (by omega) ((kup_ne (Or.inl (fun e9 => by have := t9_3.2; rw [e9, g_13] at this; cases this))).trans g_12)).2
          have n9 : ra ≠ fr := fun e9 => by have := hW.tf; rw [← e9, t9] at this; cases this
          have hN : kNx τ (kup (kup pv q_9 17 (.ref q9)) fr (w9) (.ref q_9)) fr ra nr j := fun w8 h8 => by
            by_cases e9 : w8 = w9
            · rw [e9]; exact Or.inr ⟨q_9, kup_self, by omega, by omega, (kup_ne (Or.inl n9)).trans (by rw [g_14]; exact (kup_ne (Or.inl (fun e9 => by have := t9_3.2; rw [e9, g_13] at this; cases this))).trans g_12)⟩
            · rcases hN w8 h8 with h9 | ⟨q8, h9, y1, y2, y3⟩
              · exact Or.inl ((kup_ne (Or.inr e9)).trans h9)
              · exact Or.inr ⟨q8, (kup_ne (Or.inr e9)).trans h9, by omega, y2, (kup_ne (Or.inl n9)).trans y3⟩
          have hW := hW.frw (kFr.up (P := kPw) (w := .ref q_9) (k := w9) hW.tf rfl)
          refine lv_iinc (v := kmi j) (lv' := [(1, .int (kmi j)), (3, .int (nI w9)), (2, .ref q_9), (0, .ref x)]) hx hb dX3_dealOutRows_78 hl (k := 3) rfl (kmi_dec j) (by decide) rfl (fun ls hl => ?_)
          refine lv_goto (tgt := 31) hx hb dX3_dealOutRows_81 (by decide) ?_
          have hl : lv_has ls 4 [(0, .ref x), (1, .int (kmi j))] := lv_sub hl [3, 0] rfl
          exact ih31 ((kup (kup pv q_9 17 (.ref q9)) fr (w9) (.ref q_9))) _ _ _ _ _ ⟨j, by omega, hI, hP, hD, hS, hl, hF, hW, hN, by omega⟩
  · have n_38 : ¬ 8 ≤ i := fun h9 => (show ¬ nI 8 ≤ nI i from c_1) ((nI_leI (by omega) (by omega)).mpr h9)
    refine lv_aload_n hx hb dX3_dealOutRows_8 rfl (lv_at hl 0 rfl) ?_
    refine kp_get hx hb hts i_X3 hown hK hP hI hW.tx rfl rfl 15 (by decide) (by decide) (hts (.fieldLink RX3 69 "IslandSolver" "firstRow" "[LIslandSolver$Row;") (by decide +kernel)) (fun _ h9 => h9) dX3_dealOutRows_9 (kq_P (v0 := .ref fr) rfl hW.p15 fun h_40 => ?_)
    refine lv_iload_n hx hb dX3_dealOutRows_12 rfl (lv_at hl 1 rfl) ?_
    refine lv_null hx hb dX3_dealOutRows_13 ?_
    have hj_41 : i < τ 3 fr := by rw [show τ 3 fr = 8 from (hI.arr hW.tf rfl).2.1]; omega
    refine W.eq (g2 := F0 m 14 ls (.null :: .int (nI (i)) :: .ref fr :: [])) rfl ?_
    refine kp_qastN6X (x := ()) (pv' := (kup pv fr (i) (va_rf none))) (j := i) hx hb hK hP hD hS hI hW.tf rfl hj_41 (fun _ _ h9 => kup_ne h9) (show kPr _ 202 _ _ from (kv_N0 2 (by decide))) ((kPn_pin rfl).mpr kup_self.symm) dX3_dealOutRows_14 (fun f H locs hI hP hD hS => ?_)
    have hF := hF.trans (kFr.up (P := kPd) (w := va_rf none) (k := i) hW.tf rfl)
    have hN : ∀ w9, w9 < i + 1 → (kup pv fr (i) (va_rf none)) fr w9 = va_rf none := fun w9 h9 => by
      by_cases e9 : w9 = i
      · rw [e9]; exact kup_self
      · exact (kup_ne (Or.inr e9)).trans (hN w9 (by omega))
    have hW := hW.frw (kFr.up (P := kPw) (w := va_rf none) (k := i) hW.tf rfl)
    refine lv_iinc (v := nI (i + 1)) (lv' := [(1, .int (nI (i + 1))), (0, .ref x)]) hx hb dX3_dealOutRows_15 hl (k := 1) rfl (nI_add i 1) (by decide) rfl (fun ls hl => ?_)
    refine lv_goto (tgt := 2) hx hb dX3_dealOutRows_18 (by decide) ?_
    have hl : lv_has ls 4 [(0, .ref x), (1, .int (nI (i + 1)))] := lv_sub hl [1, 0] rfl
    exact ih2 ((kup pv fr (i) (va_rf none))) _ _ _ _ _ ⟨(i + 1), by omega, hI, hP, hD, hS, hl, hF, hW, hN, by omega⟩
