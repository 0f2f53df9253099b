set_option maxHeartbeats 4000000 in
set_option maxRecDepth 100000 in
theorem k_solveRows (l : Launch) (dC : Nat → ClassId) (dI : Nat → Nat → Nat) (dA : Nat → ClassId) (ad sz : Nat) (τ : Nat → Nat → Nat) (pv : Nat → Nat → Value) (L : List Nat) (f : Nat → va_E) (hI : kI dA τ pv L f) (x bl rl kl ba ra ka fr nb nr nk : Nat) (hW : kW τ pv ad x bl rl kl ba ra ka fr nb nr nk) (w9 : Nat) (hw9 : w9 < 8) (hN : kNx τ pv fr ra nr 0) (hM : kMs pv ra nr) : Met l yX3_solveRowsOf wsX3_solveRowsOf ({ frames := 3, cells := 0, slots := 0, locals := 66 } : Room) (va_Pc [.ref x, .int (nI w9)] (kB dC dI dA ad sz L f)) (va_Qv (fun u => kI dA τ pv u.1 u.2) (kR dC dI dA (va_A (va_pl L f) sz)) (va_A (va_pl L f) sz)) 0 0 (va_A (va_pl L f) sz) := by
  refine Met.ofW (cc := cX3_solveRowsOf) (maxL := 4) (ret := none) (by decide) rfl ?_
  intro p e s m args below meth c s₁ B hml hv
  obtain ⟨rfl, hsz, hP, hK, hD0, hE⟩ := hv
  have hx := B.exec
  have hb := B.bytes
  have hr := B.returns
  have hts := atoms_spec (ws := wsX3_solveRowsOf) B.pre
  have hown : s.vm.findClass RX3 = some m.cls := findClass_of_methodNamed B.named
  have hlocks := B.notSynchronized
  have i_X3 : ∀ w ∈ u_ws RX3 TX3 16, w ∈ wsX3_solveRowsOf := by decide +kernel
  have i_X1 : ∀ w ∈ u_ws RX1 TX1 18, w ∈ wsX3_solveRowsOf := by decide +kernel
  subst hsz
  have hD := hD0.self (sz := s.heap.size)
  generalize hAe : va_A (va_pl L f) s.heap.size = A at hD hE ⊢
  have hA : ∀ q : Nat, s.heap.size ≤ q → A q := fun q h => by rw [← hAe]; exact Or.inr h
  have hS : va_S A s.heap s.heap [] := va_S.rf
  have hP : va_P (dC, dI) vwCl (va_pl L f) s.heap := hP
  have hK : va_K (dC, dI) vwCl (tyA dA) s := hK
  have hl := lv_entry ([.ref x, .int (nI w9)]) (n := 4) (Nat.le_of_ble_eq_true rfl)
  rw [lg_entry_eq]
  generalize (lg_sl ([.ref x, .int (nI w9)]) ++ List.replicate (4 - (lg_sl ([.ref x, .int (nI w9)])).length) Slot.unset).toArray = ls at hl ⊢
  have hl : lv_has ls 4 [(0, .ref x), (1, .int (nI w9))] := hl
  have hnb := hW.lnb
  have hnr := hW.lnr
  have hnk := hW.lnk
  rcases hN w9 hw9 with hN0 | ⟨q8, hN0, hN1, hN2, hN3⟩
  · refine lv_aload_n hx hb dX3_solveRowsOf_0 rfl (lv_at hl 0 rfl) ?_
    refine kp_get hx hb hts i_X3 hown hK hP hI hW.tx rfl rfl 15 (by decide) (by decide) (hts (.fieldLink RX3 69 "IslandSolver" "firstRow" "[LIslandSolver$Row;") (by decide +kernel)) (fun _ h9 => h9) dX3_solveRowsOf_1 (kq_P (v0 := .ref fr) rfl hW.p15 fun h_2 => ?_)
    refine lv_iload_n hx hb dX3_solveRowsOf_4 rfl (lv_at hl 1 rfl) ?_
    have hj_3 : w9 < τ 3 fr := by rw [show τ 3 fr = 8 from (hI.arr hW.tf rfl).2.1]; omega
    refine W.eq (g2 := F0 m 5 ls (.int (nI (w9)) :: .ref fr :: [])) rfl ?_
    refine kp_qald6 (j := w9) hx hb hK hP hI hW.tf rfl hj_3 dX3_solveRowsOf_5 (ka_PN (x0 := none) rfl hN0 ?_)
    refine W.eq (g2 := F0 m 6 ls [.null]) rfl ?_
    refine lv_astore_nN (lv' := [(2, .null), (0, .ref x), (1, .int (nI w9))]) hx hb dX3_solveRowsOf_6 rfl hl (by decide) rfl (fun ls hl => ?_)
    have hl : lv_has ls 4 [(0, .ref x), (1, .int (nI w9)), (2, .null)] := lv_sub hl [1, 2, 0] rfl
    refine kl_loop (Inv := fun n7 _ L f H locs ls => ∃ (o9 : Option Nat) (m9 : Nat), m9 < n7 ∧ kI dA τ pv L f ∧ va_P (dC, dI) vwCl (va_pl L f) H ∧ va_D A (va_pl L f) ∧ va_S A s.heap H locs ∧ lv_has ls 4 [(0, .ref x), (1, .int (nI w9)), (2, va_rf o9)] ∧ (o9 = none ∨ ∃ q, o9 = some q ∧ τ 1 q < nr ∧ nr - τ 1 q ≤ m9 ∧ pv ra (τ 1 q) = .ref q)) (fun _ _ _ _ _ _ h9 => by obtain ⟨_, _, hn, _⟩ := h9; exact Nat.not_lt_zero _ hn) (fun n7 ih7 _ L f H locs ls h9 => ?_) (nr + 1) (fun _ _ => .null) _ _ _ _ _ ⟨none, nr, Nat.lt_succ_self _, hI, hP, hD, hS, hl, Or.inl rfl⟩
    obtain ⟨o9, m9, hn7, hI, hP, hD, hS, hl, ho9⟩ := h9
    rcases ho9 with rfl | ⟨q9, rfl, hq91, hq92, hq93⟩
    · have hl : lv_has ls 4 [(0, .ref x), (1, .int (nI w9)), (2, .null)] := hl
      refine lv_aload_nN hx hb dX3_solveRowsOf_7 rfl (lv_at hl 2 rfl) ?_
      refine lv_ifnullN (tgt := 27) hx hb dX3_solveRowsOf_8 (by decide) ?_
      refine lv_iconst (v := 0) hx hb dX3_solveRowsOf_27 (by decide) ?_
      refine lv_istore_n (lv' := [(2, .int 0), (0, .ref x), (1, .int (nI w9))]) hx hb dX3_solveRowsOf_28 rfl hl (by decide) rfl (fun ls hl => ?_)
      have hl : lv_has ls 4 [(0, .ref x), (1, .int (nI w9)), (2, .int 0)] := lv_sub hl [1, 2, 0] rfl
      refine kl_loop (Inv := fun n29 _ L f H locs ls => ∃ (i : Nat), 2 ^ 31 - i < n29 ∧ kI dA τ pv L f ∧ va_P (dC, dI) vwCl (va_pl L f) H ∧ va_D A (va_pl L f) ∧ va_S A s.heap H locs ∧ lv_has ls 4 [(0, .ref x), (1, .int (nI w9)), (2, .int (nI i))] ∧ i < 2 ^ 31) (fun _ _ _ _ _ _ h9 => by obtain ⟨_, hn, _⟩ := h9; exact Nat.not_lt_zero _ hn) (fun n29 ih29 _ L f H locs ls h9 => ?_) (2 ^ 31 - 0 + 1) (fun _ _ => .null) _ _ _ _ _ ⟨0, Nat.lt_succ_self _, hI, hP, hD, hS, hl, by decide⟩
      obtain ⟨i, hn29, hI, hP, hD, hS, hl, hi⟩ := h9
      refine lv_iload_n hx hb dX3_solveRowsOf_29 rfl (lv_at hl 2 rfl) ?_
      refine lv_aload_n hx hb dX3_solveRowsOf_30 rfl (lv_at hl 0 rfl) ?_
      refine kp_get hx hb hts i_X3 hown hK hP hI hW.tx rfl rfl 6 (by decide) (by decide) (hts (.fieldLink RX3 35 "IslandSolver" "rounds" "I") (by decide +kernel)) (fun _ h9 => h9) dX3_solveRowsOf_31 (kq_I fun x_6 => ?_)
      refine lv_icmp_ge (tgt := 66) hx hb dX3_solveRowsOf_34 (by decide) (fun c_8 => ?_) (fun c_8 => ?_)
      · refine W.widen (k := 0) (n := 0) (Nat.le_of_ble_eq_true rfl) (Nat.le_of_ble_eq_true rfl) ?_
        exact W.vret hx hb hr (fun t ht hW9 => ⟨⟨(L, f), rfl, hI, by rw [ht]; exact hP, va_K.moved hW9.alike hK, hD⟩, hS.F ht⟩) hS.2.2 dX3_solveRowsOf_66
      · have hi := kz_nx hi c_8
        rcases hN w9 hw9 with hN0 | ⟨q8, hN0, hN1, hN2, hN3⟩
        · refine lv_aload_n hx hb dX3_solveRowsOf_37 rfl (lv_at hl 0 rfl) ?_
          refine kp_get hx hb hts i_X3 hown hK hP hI hW.tx rfl rfl 15 (by decide) (by decide) (hts (.fieldLink RX3 69 "IslandSolver" "firstRow" "[LIslandSolver$Row;") (by decide +kernel)) (fun _ h9 => h9) dX3_solveRowsOf_38 (kq_P (v0 := .ref fr) rfl hW.p15 fun h_10 => ?_)
          refine lv_iload_n hx hb dX3_solveRowsOf_41 rfl (lv_at hl 1 rfl) ?_
          have hj_11 : w9 < τ 3 fr := by rw [show τ 3 fr = 8 from (hI.arr hW.tf rfl).2.1]; omega
          refine W.eq (g2 := F0 m 42 ls (.int (nI (w9)) :: .ref fr :: [])) rfl ?_
          refine kp_qald6 (j := w9) hx hb hK hP hI hW.tf rfl hj_11 dX3_solveRowsOf_42 (ka_PN (x0 := none) rfl hN0 ?_)
          refine W.eq (g2 := F0 m 43 ls [.null]) rfl ?_
          refine lv_astore_nN (lv' := [(3, .null), (0, .ref x), (1, .int (nI w9)), (2, .int (nI i))]) hx hb dX3_solveRowsOf_43 rfl hl (by decide) rfl (fun ls hl => ?_)
          have hl : lv_has ls 4 [(0, .ref x), (1, .int (nI w9)), (2, .int (nI i)), (3, .null)] := lv_sub hl [1, 2, 3, 0] rfl
          refine kl_loop (Inv := fun n44 _ L f H locs ls => ∃ (o8 : Option Nat) (m8 : Nat), m8 < n44 ∧ kI dA τ pv L f ∧ va_P (dC, dI) vwCl (va_pl L f) H ∧ va_D A (va_pl L f) ∧ va_S A s.heap H locs ∧ lv_has ls 4 [(0, .ref x), (1, .int (nI w9)), (2, .int (nI i)), (3, va_rf o8)] ∧ (o8 = none ∨ ∃ q, o8 = some q ∧ τ 1 q < nr ∧ nr - τ 1 q ≤ m8 ∧ pv ra (τ 1 q) = .ref q)) (fun _ _ _ _ _ _ h9 => by obtain ⟨_, _, hn, _⟩ := h9; exact Nat.not_lt_zero _ hn) (fun n44 ih44 _ L f H locs ls h9 => ?_) (nr + 1) (fun _ _ => .null) _ _ _ _ _ ⟨none, nr, Nat.lt_succ_self _, hI, hP, hD, hS, hl, Or.inl rfl⟩
          obtain ⟨o8, m8, hn44, hI, hP, hD, hS, hl, ho8⟩ := h9
          rcases ho8 with rfl | ⟨q9, rfl, hq91, hq92, hq93⟩
          · have hl : lv_has ls 4 [(0, .ref x), (1, .int (nI w9)), (2, .int (nI i)), (3, .null)] := hl
            refine lv_aload_nN hx hb dX3_solveRowsOf_44 rfl (lv_at hl 3 rfl) ?_
            refine lv_ifnullN (tgt := 60) hx hb dX3_solveRowsOf_45 (by decide) ?_
            refine lv_iinc (v := nI (i + 1)) (lv' := [(2, .int (nI (i + 1))), (0, .ref x), (1, .int (nI w9)), (3, .null)]) hx hb dX3_solveRowsOf_60 hl (k := 2) rfl (nI_add i 1) (by decide) rfl (fun ls hl => ?_)
            refine lv_goto (tgt := 29) hx hb dX3_solveRowsOf_63 (by decide) ?_
            have hl : lv_has ls 4 [(0, .ref x), (1, .int (nI w9)), (2, .int (nI (i + 1)))] := lv_sub hl [1, 2, 0] rfl
            exact ih29 (fun _ _ => .null) _ _ _ _ _ ⟨(i + 1), by omega, hI, hP, hD, hS, hl, hi⟩
          · have t9 := (hW.row hq91 hq93).1
            have hl : lv_has ls 4 [(0, .ref x), (1, .int (nI w9)), (2, .int (nI i)), (3, .ref q9)] := hl
            obtain ⟨sx, dd, z1, z2, z3⟩ := hM (τ 1 q9) q9 hq91 hq93
            refine lv_aload_n hx hb dX3_solveRowsOf_44 rfl (lv_at hl 3 rfl) ?_
            refine lv_ifnull hx hb dX3_solveRowsOf_45 ?_
            refine lv_aload_n hx hb dX3_solveRowsOf_48 rfl (lv_at hl 3 rfl) ?_
            refine kd_callv (va_runV (As := []) (rest := []) ⟨hx, hb, hml, hown, hts⟩ (k_solve l dC dI dA ad _ τ pv _ _ hI q9 t9 sx dd z1 z2 z3) (cwV 0 hts gX3_solveRowsOf_X1_solve rfl rfl rfl (by decide +kernel) ⟨Nat.le_of_ble_eq_true rfl, Nat.le_of_ble_eq_true rfl⟩) (kd_preV hP hD hK hS hA hE hI t9 rfl rfl) rfl rfl hl.1 rfl (lv_room (Nat.le_of_ble_eq_true rfl)) dX3_solveRowsOf_49 ⟨Nat.le_of_ble_eq_true rfl, Nat.le_of_ble_eq_true rfl⟩) hD hS hA (fun u_14 H locs hw hP hD hS => ?_)
            have hI := hw
            refine lv_aload_n hx hb dX3_solveRowsOf_52 rfl (lv_at hl 3 rfl) ?_
            rcases (hW.xr hq91 hq93).2 with hx0 | ⟨q7, hx0, hx1, hx2, hx3⟩
            · refine kp_get hx hb hts i_X1 hown hK hP hI t9 rfl rfl 17 (by decide) (by decide) (hts (.fieldLink RX3 372 "IslandSolver$Row" "next" "LIslandSolver$Row;") (by decide +kernel)) (fun _ h9 => h9) dX3_solveRowsOf_53 (kq_P (v0 := .null) rfl hx0 fun _ => ?_)
              refine lv_astore_nN (lv' := [(3, .null), (0, .ref x), (1, .int (nI w9)), (2, .int (nI i))]) hx hb dX3_solveRowsOf_56 rfl hl (by decide) rfl (fun ls hl => ?_)
              refine lv_goto (tgt := 44) hx hb dX3_solveRowsOf_57 (by decide) ?_
              have hl : lv_has ls 4 [(0, .ref x), (1, .int (nI w9)), (2, .int (nI i)), (3, .null)] := lv_sub hl [1, 2, 3, 0] rfl
              exact ih44 (fun _ _ => .null) _ _ _ _ _ ⟨none, (m8 - 1), by omega, hI, hP, hD, hS, hl, Or.inl rfl⟩
            · have t7 := (hW.row hx2 hx3).1
              refine kp_get hx hb hts i_X1 hown hK hP hI t9 rfl rfl 17 (by decide) (by decide) (hts (.fieldLink RX3 372 "IslandSolver$Row" "next" "LIslandSolver$Row;") (by decide +kernel)) (fun _ h9 => h9) dX3_solveRowsOf_53 (kq_P (v0 := .ref q7) rfl hx0 fun _ => ?_)
              refine lv_astore_n (lv' := [(3, .ref q7), (0, .ref x), (1, .int (nI w9)), (2, .int (nI i))]) hx hb dX3_solveRowsOf_56 rfl hl (by decide) rfl (fun ls hl => ?_)
              refine lv_goto (tgt := 44) hx hb dX3_solveRowsOf_57 (by decide) ?_
              have hl : lv_has ls 4 [(0, .ref x), (1, .int (nI w9)), (2, .int (nI i)), (3, .ref q7)] := lv_sub hl [1, 2, 3, 0] rfl
              exact ih44 (fun _ _ => .null) _ _ _ _ _ ⟨(some q7), (m8 - 1), by omega, hI, hP, hD, hS, hl, Or.inr ⟨q7, rfl, hx2, by omega, hx3⟩⟩
        · have t8 := (hW.row hN2 hN3).1
          refine lv_aload_n hx hb dX3_solveRowsOf_37 rfl (lv_at hl 0 rfl) ?_
          refine kp_get hx hb hts i_X3 hown hK hP hI hW.tx rfl rfl 15 (by decide) (by decide) (hts (.fieldLink RX3 69 "IslandSolver" "firstRow" "[LIslandSolver$Row;") (by decide +kernel)) (fun _ h9 => h9) dX3_solveRowsOf_38 (kq_P (v0 := .ref fr) rfl hW.p15 fun h_18 => ?_)
          refine lv_iload_n hx hb dX3_solveRowsOf_41 rfl (lv_at hl 1 rfl) ?_
          have hj_19 : w9 < τ 3 fr := by rw [show τ 3 fr = 8 from (hI.arr hW.tf rfl).2.1]; omega
          refine W.eq (g2 := F0 m 42 ls (.int (nI (w9)) :: .ref fr :: [])) rfl ?_
          refine kp_qald6 (j := w9) hx hb hK hP hI hW.tf rfl hj_19 dX3_solveRowsOf_42 (ka_PN (x0 := (some q8)) rfl hN0 ?_)
          refine W.eq (g2 := F0 m 43 ls [.ref q8]) rfl ?_
          refine lv_astore_n (lv' := [(3, .ref q8), (0, .ref x), (1, .int (nI w9)), (2, .int (nI i))]) hx hb dX3_solveRowsOf_43 rfl hl (by decide) rfl (fun ls hl => ?_)
          have hl : lv_has ls 4 [(0, .ref x), (1, .int (nI w9)), (2, .int (nI i)), (3, .ref q8)] := lv_sub hl [1, 2, 3, 0] rfl
          refine kl_loop (Inv := fun n44 _ L f H locs ls => ∃ (o8 : Option Nat) (m8 : Nat), m8 < n44 ∧ kI dA τ pv L f ∧ va_P (dC, dI) vwCl (va_pl L f) H ∧ va_D A (va_pl L f) ∧ va_S A s.heap H locs ∧ lv_has ls 4 [(0, .ref x), (1, .int (nI w9)), (2, .int (nI i)), (3, va_rf o8)] ∧ (o8 = none ∨ ∃ q, o8 = some q ∧ τ 1 q < nr ∧ nr - τ 1 q ≤ m8 ∧ pv ra (τ 1 q) = .ref q)) (fun _ _ _ _ _ _ h9 => by obtain ⟨_, _, hn, _⟩ := h9; exact Nat.not_lt_zero _ hn) (fun n44 ih44 _ L f H locs ls h9 => ?_) (nr + 1) (fun _ _ => .null) _ _ _ _ _ ⟨(some q8), nr, Nat.lt_succ_self _, hI, hP, hD, hS, hl, Or.inr ⟨q8, rfl, hN2, by omega, hN3⟩⟩
          obtain ⟨o8, m8, hn44, hI, hP, hD, hS, hl, ho8⟩ := h9
          rcases ho8 with rfl | ⟨q9, rfl, hq91, hq92, hq93⟩
          · have hl : lv_has ls 4 [(0, .ref x), (1, .int (nI w9)), (2, .int (nI i)), (3, .null)] := hl
            refine lv_aload_nN hx hb dX3_solveRowsOf_44 rfl (lv_at hl 3 rfl) ?_
            refine lv_ifnullN (tgt := 60) hx hb dX3_solveRowsOf_45 (by decide) ?_
            refine lv_iinc (v := nI (i + 1)) (lv' := [(2, .int (nI (i + 1))), (0, .ref x), (1, .int (nI w9)), (3, .null)]) hx hb dX3_solveRowsOf_60 hl (k := 2) rfl (nI_add i 1) (by decide) rfl (fun ls hl => ?_)
            refine lv_goto (tgt := 29) hx hb dX3_solveRowsOf_63 (by decide) ?_
            have hl : lv_has ls 4 [(0, .ref x), (1, .int (nI w9)), (2, .int (nI (i + 1)))] := lv_sub hl [1, 2, 0] rfl
            exact ih29 (fun _ _ => .null) _ _ _ _ _ ⟨(i + 1), by omega, hI, hP, hD, hS, hl, hi⟩
          · have t9 := (hW.row hq91 hq93).1
            have hl : lv_has ls 4 [(0, .ref x), (1, .int (nI w9)), (2, .int (nI i)), (3, .ref q9)] := hl
            obtain ⟨sx, dd, z1, z2, z3⟩ := hM (τ 1 q9) q9 hq91 hq93
            refine lv_aload_n hx hb dX3_solveRowsOf_44 rfl (lv_at hl 3 rfl) ?_
            refine lv_ifnull hx hb dX3_solveRowsOf_45 ?_
            refine lv_aload_n hx hb dX3_solveRowsOf_48 rfl (lv_at hl 3 rfl) ?_
            refine kd_callv (va_runV (As := []) (rest := []) ⟨hx, hb, hml, hown, hts⟩ (k_solve l dC dI dA ad _ τ pv _ _ hI q9 t9 sx dd z1 z2 z3) (cwV 0 hts gX3_solveRowsOf_X1_solve rfl rfl rfl (by decide +kernel) ⟨Nat.le_of_ble_eq_true rfl, Nat.le_of_ble_eq_true rfl⟩) (kd_preV hP hD hK hS hA hE hI t9 rfl rfl) rfl rfl hl.1 rfl (lv_room (Nat.le_of_ble_eq_true rfl)) dX3_solveRowsOf_49 ⟨Nat.le_of_ble_eq_true rfl, Nat.le_of_ble_eq_true rfl⟩) hD hS hA (fun u_22 H locs hw hP hD hS => ?_)
            have hI := hw
            refine lv_aload_n hx hb dX3_solveRowsOf_52 rfl (lv_at hl 3 rfl) ?_
            rcases (hW.xr hq91 hq93).2 with hx0 | ⟨q7, hx0, hx1, hx2, hx3⟩
            · refine kp_get hx hb hts i_X1 hown hK hP hI t9 rfl rfl 17 (by decide) (by decide) (hts (.fieldLink RX3 372 "IslandSolver$Row" "next" "LIslandSolver$Row;") (by decide +kernel)) (fun _ h9 => h9) dX3_solveRowsOf_53 (kq_P (v0 := .null) rfl hx0 fun _ => ?_)
              refine lv_astore_nN (lv' := [(3, .null), (0, .ref x), (1, .int (nI w9)), (2, .int (nI i))]) hx hb dX3_solveRowsOf_56 rfl hl (by decide) rfl (fun ls hl => ?_)
              refine lv_goto (tgt := 44) hx hb dX3_solveRowsOf_57 (by decide) ?_
              have hl : lv_has ls 4 [(0, .ref x), (1, .int (nI w9)), (2, .int (nI i)), (3, .null)] := lv_sub hl [1, 2, 3, 0] rfl
              exact ih44 (fun _ _ => .null) _ _ _ _ _ ⟨none, (m8 - 1), by omega, hI, hP, hD, hS, hl, Or.inl rfl⟩
            · have t7 := (hW.row hx2 hx3).1
              refine kp_get hx hb hts i_X1 hown hK hP hI t9 rfl rfl 17 (by decide) (by decide) (hts (.fieldLink RX3 372 "IslandSolver$Row" "next" "LIslandSolver$Row;") (by decide +kernel)) (fun _ h9 => h9) dX3_solveRowsOf_53 (kq_P (v0 := .ref q7) rfl hx0 fun _ => ?_)
              refine lv_astore_n (lv' := [(3, .ref q7), (0, .ref x), (1, .int (nI w9)), (2, .int (nI i))]) hx hb dX3_solveRowsOf_56 rfl hl (by decide) rfl (fun ls hl => ?_)
              refine lv_goto (tgt := 44) hx hb dX3_solveRowsOf_57 (by decide) ?_
              have hl : lv_has ls 4 [(0, .ref x), (1, .int (nI w9)), (2, .int (nI i)), (3, .ref q7)] := lv_sub hl [1, 2, 3, 0] rfl
              exact ih44 (fun _ _ => .null) _ _ _ _ _ ⟨(some q7), (m8 - 1), by omega, hI, hP, hD, hS, hl, Or.inr ⟨q7, rfl, hx2, by omega, hx3⟩⟩
    · have t9 := (hW.row hq91 hq93).1
      have hl : lv_has ls 4 [(0, .ref x), (1, .int (nI w9)), (2, .ref q9)] := hl
      refine lv_aload_n hx hb dX3_solveRowsOf_7 rfl (lv_at hl 2 rfl) ?_
      refine lv_ifnull hx hb dX3_solveRowsOf_8 ?_
      refine lv_aload_n hx hb dX3_solveRowsOf_11 rfl (lv_at hl 2 rfl) ?_
      refine lv_aload_n hx hb dX3_solveRowsOf_12 rfl (lv_at hl 0 rfl) ?_
      refine kp_get hx hb hts i_X3 hown hK hP hI hW.tx rfl rfl 7 (by decide) (by decide) (hts (.fieldLink RX3 39 "IslandSolver" "warm" "F") (by decide +kernel)) (fun _ h9 => h9) dX3_solveRowsOf_13 (kq_F (cd := 1065353216) (by decide) fun x_25 h_26 => ?_)
      refine kd_callv (va_runV (As := [.float x_25]) (rest := []) ⟨hx, hb, hml, hown, hts⟩ (k_begin l dC dI dA ad _ τ pv _ _ hI q9 t9 x_25 h_26) (cwV 1 hts gX3_solveRowsOf_X1_begin rfl rfl rfl (by decide +kernel) ⟨Nat.le_of_ble_eq_true rfl, Nat.le_of_ble_eq_true rfl⟩) (kd_preV hP hD hK hS hA hE hI t9 rfl rfl) rfl rfl hl.1 rfl (lv_room (Nat.le_of_ble_eq_true rfl)) dX3_solveRowsOf_16 ⟨Nat.le_of_ble_eq_true rfl, Nat.le_of_ble_eq_true rfl⟩) hD hS hA (fun u_27 H locs hw hP hD hS => ?_)
      have hI := hw
      refine lv_aload_n hx hb dX3_solveRowsOf_19 rfl (lv_at hl 2 rfl) ?_
      rcases (hW.xr hq91 hq93).2 with hx0 | ⟨q7, hx0, hx1, hx2, hx3⟩
      · refine kp_get hx hb hts i_X1 hown hK hP hI t9 rfl rfl 17 (by decide) (by decide) (hts (.fieldLink RX3 372 "IslandSolver$Row" "next" "LIslandSolver$Row;") (by decide +kernel)) (fun _ h9 => h9) dX3_solveRowsOf_20 (kq_P (v0 := .null) rfl hx0 fun _ => ?_)
        refine lv_astore_nN (lv' := [(2, .null), (0, .ref x), (1, .int (nI w9))]) hx hb dX3_solveRowsOf_23 rfl hl (by decide) rfl (fun ls hl => ?_)
        refine lv_goto (tgt := 7) hx hb dX3_solveRowsOf_24 (by decide) ?_
        have hl : lv_has ls 4 [(0, .ref x), (1, .int (nI w9)), (2, .null)] := lv_sub hl [1, 2, 0] rfl
        exact ih7 (fun _ _ => .null) _ _ _ _ _ ⟨none, (m9 - 1), by omega, hI, hP, hD, hS, hl, Or.inl rfl⟩
      · have t7 := (hW.row hx2 hx3).1
        refine kp_get hx hb hts i_X1 hown hK hP hI t9 rfl rfl 17 (by decide) (by decide) (hts (.fieldLink RX3 372 "IslandSolver$Row" "next" "LIslandSolver$Row;") (by decide +kernel)) (fun _ h9 => h9) dX3_solveRowsOf_20 (kq_P (v0 := .ref q7) rfl hx0 fun _ => ?_)
        refine lv_astore_n (lv' := [(2, .ref q7), (0, .ref x), (1, .int (nI w9))]) hx hb dX3_solveRowsOf_23 rfl hl (by decide) rfl (fun ls hl => ?_)
        refine lv_goto (tgt := 7) hx hb dX3_solveRowsOf_24 (by decide) ?_
        have hl : lv_has ls 4 [(0, .ref x), (1, .int (nI w9)), (2, .ref q7)] := lv_sub hl [1, 2, 0] rfl
        exact ih7 (fun _ _ => .null) _ _ _ _ _ ⟨(some q7), (m9 - 1), by omega, hI, hP, hD, hS, hl, Or.inr ⟨q7, rfl, hx2, by omega, hx3⟩⟩
  · have t8 := (hW.row hN2 hN3).1
    refine lv_aload_n hx hb dX3_solveRowsOf_0 rfl (lv_at hl 0 rfl) ?_
    refine kp_get hx hb hts i_X3 hown hK hP hI hW.tx rfl rfl 15 (by decide) (by decide) (hts (.fieldLink RX3 69 "IslandSolver" "firstRow" "[LIslandSolver$Row;") (by decide +kernel)) (fun _ h9 => h9) dX3_solveRowsOf_1 (kq_P (v0 := .ref fr) rfl hW.p15 fun h_31 => ?_)
    refine lv_iload_n hx hb dX3_solveRowsOf_4 rfl (lv_at hl 1 rfl) ?_
    have hj_32 : w9 < τ 3 fr := by rw [show τ 3 fr = 8 from (hI.arr hW.tf rfl).2.1]; omega
    refine W.eq (g2 := F0 m 5 ls (.int (nI (w9)) :: .ref fr :: [])) rfl ?_
    refine kp_qald6 (j := w9) hx hb hK hP hI hW.tf rfl hj_32 dX3_solveRowsOf_5 (ka_PN (x0 := (some q8)) rfl hN0 ?_)
    refine W.eq (g2 := F0 m 6 ls [.ref q8]) rfl ?_
    refine lv_astore_n (lv' := [(2, .ref q8), (0, .ref x), (1, .int (nI w9))]) hx hb dX3_solveRowsOf_6 rfl hl (by decide) rfl (fun ls hl => ?_)
    have hl : lv_has ls 4 [(0, .ref x), (1, .int (nI w9)), (2, .ref q8)] := lv_sub hl [1, 2, 0] rfl
    refine kl_loop (Inv := fun n7 _ L f H locs ls => ∃ (o9 : Option Nat) (m9 : Nat), m9 < n7 ∧ kI dA τ pv L f ∧ va_P (dC, dI) vwCl (va_pl L f) H ∧ va_D A (va_pl L f) ∧ va_S A s.heap H locs ∧ lv_has ls 4 [(0, .ref x), (1, .int (nI w9)), (2, va_rf o9)] ∧ (o9 = none ∨ ∃ q, o9 = some q ∧ τ 1 q < nr ∧ nr - τ 1 q ≤ m9 ∧ pv ra (τ 1 q) = .ref q)) (fun _ _ _ _ _ _ h9 => by obtain ⟨_, _, hn, _⟩ := h9; exact Nat.not_lt_zero _ hn) (fun n7 ih7 _ L f H locs ls h9 => ?_) (nr + 1) (fun _ _ => .null) _ _ _ _ _ ⟨(some q8), nr, Nat.lt_succ_self _, hI, hP, hD, hS, hl, Or.inr ⟨q8, rfl, hN2, by omega, hN3⟩⟩
    obtain ⟨o9, m9, hn7, hI, hP, hD, hS, hl, ho9⟩ := h9
    rcases ho9 with rfl | ⟨q9, rfl, hq91, hq92, hq93⟩
    · have hl : lv_has ls 4 [(0, .ref x), (1, .int (nI w9)), (2, .null)] := hl
      refine lv_aload_nN hx hb dX3_solveRowsOf_7 rfl (lv_at hl 2 rfl) ?_
      refine lv_ifnullN (tgt := 27) hx hb dX3_solveRowsOf_8 (by decide) ?_
      refine lv_iconst (v := 0) hx hb dX3_solveRowsOf_27 (by decide) ?_
      refine lv_istore_n (lv' := [(2, .int 0), (0, .ref x), (1, .int (nI w9))]) hx hb dX3_solveRowsOf_28 rfl hl (by decide) rfl (fun ls hl => ?_)
      have hl : lv_has ls 4 [(0, .ref x), (1, .int (nI w9)), (2, .int 0)] := lv_sub hl [1, 2, 0] rfl
      refine kl_loop (Inv := fun n29 _ L f H locs ls => ∃ (i : Nat), 2 ^ 31 - i < n29 ∧ kI dA τ pv L f ∧ va_P (dC, dI) vwCl (va_pl L f) H ∧ va_D A (va_pl L f) ∧ va_S A s.heap H locs ∧ lv_has ls 4 [(0, .ref x), (1, .int (nI w9)), (2, .int (nI i))] ∧ i < 2 ^ 31) (fun _ _ _ _ _ _ h9 => by obtain ⟨_, hn, _⟩ := h9; exact Nat.not_lt_zero _ hn) (fun n29 ih29 _ L f H locs ls h9 => ?_) (2 ^ 31 - 0 + 1) (fun _ _ => .null) _ _ _ _ _ ⟨0, Nat.lt_succ_self _, hI, hP, hD, hS, hl, by decide⟩
      obtain ⟨i, hn29, hI, hP, hD, hS, hl, hi⟩ := h9
      refine lv_iload_n hx hb dX3_solveRowsOf_29 rfl (lv_at hl 2 rfl) ?_
      refine lv_aload_n hx hb dX3_solveRowsOf_30 rfl (lv_at hl 0 rfl) ?_
      refine kp_get hx hb hts i_X3 hown hK hP hI hW.tx rfl rfl 6 (by decide) (by decide) (hts (.fieldLink RX3 35 "IslandSolver" "rounds" "I") (by decide +kernel)) (fun _ h9 => h9) dX3_solveRowsOf_31 (kq_I fun x_35 => ?_)
      refine lv_icmp_ge (tgt := 66) hx hb dX3_solveRowsOf_34 (by decide) (fun c_37 => ?_) (fun c_37 => ?_)
      · refine W.widen (k := 0) (n := 0) (Nat.le_of_ble_eq_true rfl) (Nat.le_of_ble_eq_true rfl) ?_
        exact W.vret hx hb hr (fun t ht hW9 => ⟨⟨(L, f), rfl, hI, by rw [ht]; exact hP, va_K.moved hW9.alike hK, hD⟩, hS.F ht⟩) hS.2.2 dX3_solveRowsOf_66
      · have hi := kz_nx hi c_37
        rcases hN w9 hw9 with hN0 | ⟨q8, hN0, hN1, hN2, hN3⟩
        · refine lv_aload_n hx hb dX3_solveRowsOf_37 rfl (lv_at hl 0 rfl) ?_
          refine kp_get hx hb hts i_X3 hown hK hP hI hW.tx rfl rfl 15 (by decide) (by decide) (hts (.fieldLink RX3 69 "IslandSolver" "firstRow" "[LIslandSolver$Row;") (by decide +kernel)) (fun _ h9 => h9) dX3_solveRowsOf_38 (kq_P (v0 := .ref fr) rfl hW.p15 fun h_39 => ?_)
          refine lv_iload_n hx hb dX3_solveRowsOf_41 rfl (lv_at hl 1 rfl) ?_
          have hj_40 : w9 < τ 3 fr := by rw [show τ 3 fr = 8 from (hI.arr hW.tf rfl).2.1]; omega
          refine W.eq (g2 := F0 m 42 ls (.int (nI (w9)) :: .ref fr :: [])) rfl ?_
          refine kp_qald6 (j := w9) hx hb hK hP hI hW.tf rfl hj_40 dX3_solveRowsOf_42 (ka_PN (x0 := none) rfl hN0 ?_)
          refine W.eq (g2 := F0 m 43 ls [.null]) rfl ?_
          refine lv_astore_nN (lv' := [(3, .null), (0, .ref x), (1, .int (nI w9)), (2, .int (nI i))]) hx hb dX3_solveRowsOf_43 rfl hl (by decide) rfl (fun ls hl => ?_)
          have hl : lv_has ls 4 [(0, .ref x), (1, .int (nI w9)), (2, .int (nI i)), (3, .null)] := lv_sub hl [1, 2, 3, 0] rfl
          refine kl_loop (Inv := fun n44 _ L f H locs ls => ∃ (o8 : Option Nat) (m8 : Nat), m8 < n44 ∧ kI dA τ pv L f ∧ va_P (dC, dI) vwCl (va_pl L f) H ∧ va_D A (va_pl L f) ∧ va_S A s.heap H locs ∧ lv_has ls 4 [(0, .ref x), (1, .int (nI w9)), (2, .int (nI i)), (3, va_rf o8)] ∧ (o8 = none ∨ ∃ q, o8 = some q ∧ τ 1 q < nr ∧ nr - τ 1 q ≤ m8 ∧ pv ra (τ 1 q) = .ref q)) (fun _ _ _ _ _ _ h9 => by obtain ⟨_, _, hn, _⟩ := h9; exact Nat.not_lt_zero _ hn) (fun n44 ih44 _ L f H locs ls h9 => ?_) (nr + 1) (fun _ _ => .null) _ _ _ _ _ ⟨none, nr, Nat.lt_succ_self _, hI, hP, hD, hS, hl, Or.inl rfl⟩
          obtain ⟨o8, m8, hn44, hI, hP, hD, hS, hl, ho8⟩ := h9
          rcases ho8 with rfl | ⟨q9, rfl, hq91, hq92, hq93⟩
          · have hl : lv_has ls 4 [(0, .ref x), (1, .int (nI w9)), (2, .int (nI i)), (3, .null)] := hl
            refine lv_aload_nN hx hb dX3_solveRowsOf_44 rfl (lv_at hl 3 rfl) ?_
            refine lv_ifnullN (tgt := 60) hx hb dX3_solveRowsOf_45 (by decide) ?_
            refine lv_iinc (v := nI (i + 1)) (lv' := [(2, .int (nI (i + 1))), (0, .ref x), (1, .int (nI w9)), (3, .null)]) hx hb dX3_solveRowsOf_60 hl (k := 2) rfl (nI_add i 1) (by decide) rfl (fun ls hl => ?_)
            refine lv_goto (tgt := 29) hx hb dX3_solveRowsOf_63 (by decide) ?_
            have hl : lv_has ls 4 [(0, .ref x), (1, .int (nI w9)), (2, .int (nI (i + 1)))] := lv_sub hl [1, 2, 0] rfl
            exact ih29 (fun _ _ => .null) _ _ _ _ _ ⟨(i + 1), by omega, hI, hP, hD, hS, hl, hi⟩
          · have t9 := (hW.row hq91 hq93).1
            have hl : lv_has ls 4 [(0, .ref x), (1, .int (nI w9)), (2, .int (nI i)), (3, .ref q9)] := hl
            obtain ⟨sx, dd, z1, z2, z3⟩ := hM (τ 1 q9) q9 hq91 hq93
            refine lv_aload_n hx hb dX3_solveRowsOf_44 rfl (lv_at hl 3 rfl) ?_
            refine lv_ifnull hx hb dX3_solveRowsOf_45 ?_
            refine lv_aload_n hx hb dX3_solveRowsOf_48 rfl (lv_at hl 3 rfl) ?_
            refine kd_callv (va_runV (As := []) (rest := []) ⟨hx, hb, hml, hown, hts⟩ (k_solve l dC dI dA ad _ τ pv _ _ hI q9 t9 sx dd z1 z2 z3) (cwV 0 hts gX3_solveRowsOf_X1_solve rfl rfl rfl (by decide +kernel) ⟨Nat.le_of_ble_eq_true rfl, Nat.le_of_ble_eq_true rfl⟩) (kd_preV hP hD hK hS hA hE hI t9 rfl rfl) rfl rfl hl.1 rfl (lv_room (Nat.le_of_ble_eq_true rfl)) dX3_solveRowsOf_49 ⟨Nat.le_of_ble_eq_true rfl, Nat.le_of_ble_eq_true rfl⟩) hD hS hA (fun u_43 H locs hw hP hD hS => ?_)
            have hI := hw
            refine lv_aload_n hx hb dX3_solveRowsOf_52 rfl (lv_at hl 3 rfl) ?_
            rcases (hW.xr hq91 hq93).2 with hx0 | ⟨q7, hx0, hx1, hx2, hx3⟩
            · refine kp_get hx hb hts i_X1 hown hK hP hI t9 rfl rfl 17 (by decide) (by decide) (hts (.fieldLink RX3 372 "IslandSolver$Row" "next" "LIslandSolver$Row;") (by decide +kernel)) (fun _ h9 => h9) dX3_solveRowsOf_53 (kq_P (v0 := .null) rfl hx0 fun _ => ?_)
              refine lv_astore_nN (lv' := [(3, .null), (0, .ref x), (1, .int (nI w9)), (2, .int (nI i))]) hx hb dX3_solveRowsOf_56 rfl hl (by decide) rfl (fun ls hl => ?_)
              refine lv_goto (tgt := 44) hx hb dX3_solveRowsOf_57 (by decide) ?_
              have hl : lv_has ls 4 [(0, .ref x), (1, .int (nI w9)), (2, .int (nI i)), (3, .null)] := lv_sub hl [1, 2, 3, 0] rfl
              exact ih44 (fun _ _ => .null) _ _ _ _ _ ⟨none, (m8 - 1), by omega, hI, hP, hD, hS, hl, Or.inl rfl⟩
            · have t7 := (hW.row hx2 hx3).1
              refine kp_get hx hb hts i_X1 hown hK hP hI t9 rfl rfl 17 (by decide) (by decide) (hts (.fieldLink RX3 372 "IslandSolver$Row" "next" "LIslandSolver$Row;") (by decide +kernel)) (fun _ h9 => h9) dX3_solveRowsOf_53 (kq_P (v0 := .ref q7) rfl hx0 fun _ => ?_)
              refine lv_astore_n (lv' := [(3, .ref q7), (0, .ref x), (1, .int (nI w9)), (2, .int (nI i))]) hx hb dX3_solveRowsOf_56 rfl hl (by decide) rfl (fun ls hl => ?_)
              refine lv_goto (tgt := 44) hx hb dX3_solveRowsOf_57 (by decide) ?_
              have hl : lv_has ls 4 [(0, .ref x), (1, .int (nI w9)), (2, .int (nI i)), (3, .ref q7)] := lv_sub hl [1, 2, 3, 0] rfl
              exact ih44 (fun _ _ => .null) _ _ _ _ _ ⟨(some q7), (m8 - 1), by omega, hI, hP, hD, hS, hl, Or.inr ⟨q7, rfl, hx2, by omega, hx3⟩⟩
        · have t8 := (hW.row hN2 hN3).1
          refine lv_aload_n hx hb dX3_solveRowsOf_37 rfl (lv_at hl 0 rfl) ?_
          refine kp_get hx hb hts i_X3 hown hK hP hI hW.tx rfl rfl 15 (by decide) (by decide) (hts (.fieldLink RX3 69 "IslandSolver" "firstRow" "[LIslandSolver$Row;") (by decide +kernel)) (fun _ h9 => h9) dX3_solveRowsOf_38 (kq_P (v0 := .ref fr) rfl hW.p15 fun h_47 => ?_)
          refine lv_iload_n hx hb dX3_solveRowsOf_41 rfl (lv_at hl 1 rfl) ?_
          have hj_48 : w9 < τ 3 fr := by rw [show τ 3 fr = 8 from (hI.arr hW.tf rfl).2.1]; omega
          refine W.eq (g2 := F0 m 42 ls (.int (nI (w9)) :: .ref fr :: [])) rfl ?_
          refine kp_qald6 (j := w9) hx hb hK hP hI hW.tf rfl hj_48 dX3_solveRowsOf_42 (ka_PN (x0 := (some q8)) rfl hN0 ?_)
          refine W.eq (g2 := F0 m 43 ls [.ref q8]) rfl ?_
          refine lv_astore_n (lv' := [(3, .ref q8), (0, .ref x), (1, .int (nI w9)), (2, .int (nI i))]) hx hb dX3_solveRowsOf_43 rfl hl (by decide) rfl (fun ls hl => ?_)
          have hl : lv_has ls 4 [(0, .ref x), (1, .int (nI w9)), (2, .int (nI i)), (3, .ref q8)] := lv_sub hl [1, 2, 3, 0] rfl
          refine kl_loop (Inv := fun n44 _ L f H locs ls => ∃ (o8 : Option Nat) (m8 : Nat), m8 < n44 ∧ kI dA τ pv L f ∧ va_P (dC, dI) vwCl (va_pl L f) H ∧ va_D A (va_pl L f) ∧ va_S A s.heap H locs ∧ lv_has ls 4 [(0, .ref x), (1, .int (nI w9)), (2, .int (nI i)), (3, va_rf o8)] ∧ (o8 = none ∨ ∃ q, o8 = some q ∧ τ 1 q < nr ∧ nr - τ 1 q ≤ m8 ∧ pv ra (τ 1 q) = .ref q)) (fun _ _ _ _ _ _ h9 => by obtain ⟨_, _, hn, _⟩ := h9; exact Nat.not_lt_zero _ hn) (fun n44 ih44 _ L f H locs ls h9 => ?_) (nr + 1) (fun _ _ => .null) _ _ _ _ _ ⟨(some q8), nr, Nat.lt_succ_self _, hI, hP, hD, hS, hl, Or.inr ⟨q8, rfl, hN2, by omega, hN3⟩⟩
          obtain ⟨o8, m8, hn44, hI, hP, hD, hS, hl, ho8⟩ := h9
          rcases ho8 with rfl | ⟨q9, rfl, hq91, hq92, hq93⟩
          · have hl : lv_has ls 4 [(0, .ref x), (1, .int (nI w9)), (2, .int (nI i)), (3, .null)] := hl
            refine lv_aload_nN hx hb dX3_solveRowsOf_44 rfl (lv_at hl 3 rfl) ?_
            refine lv_ifnullN (tgt := 60) hx hb dX3_solveRowsOf_45 (by decide) ?_
            refine lv_iinc (v := nI (i + 1)) (lv' := [(2, .int (nI (i + 1))), (0, .ref x), (1, .int (nI w9)), (3, .null)]) hx hb dX3_solveRowsOf_60 hl (k := 2) rfl (nI_add i 1) (by decide) rfl (fun ls hl => ?_)
            refine lv_goto (tgt := 29) hx hb dX3_solveRowsOf_63 (by decide) ?_
            have hl : lv_has ls 4 [(0, .ref x), (1, .int (nI w9)), (2, .int (nI (i + 1)))] := lv_sub hl [1, 2, 0] rfl
            exact ih29 (fun _ _ => .null) _ _ _ _ _ ⟨(i + 1), by omega, hI, hP, hD, hS, hl, hi⟩
          · have t9 := (hW.row hq91 hq93).1
            have hl : lv_has ls 4 [(0, .ref x), (1, .int (nI w9)), (2, .int (nI i)), (3, .ref q9)] := hl
            obtain ⟨sx, dd, z1, z2, z3⟩ := hM (τ 1 q9) q9 hq91 hq93
            refine lv_aload_n hx hb dX3_solveRowsOf_44 rfl (lv_at hl 3 rfl) ?_
            refine lv_ifnull hx hb dX3_solveRowsOf_45 ?_
            refine lv_aload_n hx hb dX3_solveRowsOf_48 rfl (lv_at hl 3 rfl) ?_
            refine kd_callv (va_runV (As := []) (rest := []) ⟨hx, hb, hml, hown, hts⟩ (k_solve l dC dI dA ad _ τ pv _ _ hI q9 t9 sx dd z1 z2 z3) (cwV 0 hts gX3_solveRowsOf_X1_solve rfl rfl rfl (by decide +kernel) ⟨Nat.le_of_ble_eq_true rfl, Nat.le_of_ble_eq_true rfl⟩) (kd_preV hP hD hK hS hA hE hI t9 rfl rfl) rfl rfl hl.1 rfl (lv_room (Nat.le_of_ble_eq_true rfl)) dX3_solveRowsOf_49 ⟨Nat.le_of_ble_eq_true rfl, Nat.le_of_ble_eq_true rfl⟩) hD hS hA (fun u_51 H locs hw hP hD hS => ?_)
            have hI := hw
            refine lv_aload_n hx hb dX3_solveRowsOf_52 rfl (lv_at hl 3 rfl) ?_
            rcases (hW.xr hq91 hq93).2 with hx0 | ⟨q7, hx0, hx1, hx2, hx3⟩
            · refine kp_get hx hb hts i_X1 hown hK hP hI t9 rfl rfl 17 (by decide) (by decide) (hts (.fieldLink RX3 372 "IslandSolver$Row" "next" "LIslandSolver$Row;") (by decide +kernel)) (fun _ h9 => h9) dX3_solveRowsOf_53 (kq_P (v0 := .null) rfl hx0 fun _ => ?_)
              refine lv_astore_nN (lv' := [(3, .null), (0, .ref x), (1, .int (nI w9)), (2, .int (nI i))]) hx hb dX3_solveRowsOf_56 rfl hl (by decide) rfl (fun ls hl => ?_)
              refine lv_goto (tgt := 44) hx hb dX3_solveRowsOf_57 (by decide) ?_
              have hl : lv_has ls 4 [(0, .ref x), (1, .int (nI w9)), (2, .int (nI i)), (3, .null)] := lv_sub hl [1, 2, 3, 0] rfl
              exact ih44 (fun _ _ => .null) _ _ _ _ _ ⟨none, (m8 - 1), by omega, hI, hP, hD, hS, hl, Or.inl rfl⟩
            · have t7 := (hW.row hx2 hx3).1
              refine kp_get hx hb hts i_X1 hown hK hP hI t9 rfl rfl 17 (by decide) (by decide) (hts (.fieldLink RX3 372 "IslandSolver$Row" "next" "LIslandSolver$Row;") (by decide +kernel)) (fun _ h9 => h9) dX3_solveRowsOf_53 (kq_P (v0 := .ref q7) rfl hx0 fun _ => ?_)
              refine lv_astore_n (lv' := [(3, .ref q7), (0, .ref x), (1, .int (nI w9)), (2, .int (nI i))]) hx hb dX3_solveRowsOf_56 rfl hl (by decide) rfl (fun ls hl => ?_)
              refine lv_goto (tgt := 44) hx hb dX3_solveRowsOf_57 (by decide) ?_
              have hl : lv_has ls 4 [(0, .ref x), (1, .int (nI w9)), (2, .int (nI i)), (3, .ref q7)] := lv_sub hl [1, 2, 3, 0] rfl
              exact ih44 (fun _ _ => .null) _ _ _ _ _ ⟨(some q7), (m8 - 1), by omega, hI, hP, hD, hS, hl, Or.inr ⟨q7, rfl, hx2, by omega, hx3⟩⟩
    · have t9 := (hW.row hq91 hq93).1
      have hl : lv_has ls 4 [(0, .ref x), (1, .int (nI w9)), (2, .ref q9)] := hl
      refine lv_aload_n hx hb dX3_solveRowsOf_7 rfl (lv_at hl 2 rfl) ?_
      refine lv_ifnull hx hb dX3_solveRowsOf_8 ?_
      refine lv_aload_n hx hb dX3_solveRowsOf_11 rfl (lv_at hl 2 rfl) ?_
      refine lv_aload_n hx hb dX3_solveRowsOf_12 rfl (lv_at hl 0 rfl) ?_
      refine kp_get hx hb hts i_X3 hown hK hP hI hW.tx rfl rfl 7 (by decide) (by decide) (hts (.fieldLink RX3 39 "IslandSolver" "warm" "F") (by decide +kernel)) (fun _ h9 => h9) dX3_solveRowsOf_13 (kq_F (cd := 1065353216) (by decide) fun x_54 h_55 => ?_)
      refine kd_callv (va_runV (As := [.float x_54]) (rest := []) ⟨hx, hb, hml, hown, hts⟩ (k_begin l dC dI dA ad _ τ pv _ _ hI q9 t9 x_54 h_55) (cwV 1 hts gX3_solveRowsOf_X1_begin rfl rfl rfl (by decide +kernel) ⟨Nat.le_of_ble_eq_true rfl, Nat.le_of_ble_eq_true rfl⟩) (kd_preV hP hD hK hS hA hE hI t9 rfl rfl) rfl rfl hl.1 rfl (lv_room (Nat.le_of_ble_eq_true rfl)) dX3_solveRowsOf_16 ⟨Nat.le_of_ble_eq_true rfl, Nat.le_of_ble_eq_true rfl⟩) hD hS hA (fun u_56 H locs hw hP hD hS => ?_)
      have hI := hw
      refine lv_aload_n hx hb dX3_solveRowsOf_19 rfl (lv_at hl 2 rfl) ?_
      rcases (hW.xr hq91 hq93).2 with hx0 | ⟨q7, hx0, hx1, hx2, hx3⟩
      · refine kp_get hx hb hts i_X1 hown hK hP hI t9 rfl rfl 17 (by decide) (by decide) (hts (.fieldLink RX3 372 "IslandSolver$Row" "next" "LIslandSolver$Row;") (by decide +kernel)) (fun _ h9 => h9) dX3_solveRowsOf_20 (kq_P (v0 := .null) rfl hx0 fun _ => ?_)
        refine lv_astore_nN (lv' := [(2, .null), (0, .ref x), (1, .int (nI w9))]) hx hb dX3_solveRowsOf_23 rfl hl (by decide) rfl (fun ls hl => ?_)
        refine lv_goto (tgt := 7) hx hb dX3_solveRowsOf_24 (by decide) ?_
        have hl : lv_has ls 4 [(0, .ref x), (1, .int (nI w9)), (2, .null)] := lv_sub hl [1, 2, 0] rfl
        exact ih7 (fun _ _ => .null) _ _ _ _ _ ⟨none, (m9 - 1), by omega, hI, hP, hD, hS, hl, Or.inl rfl⟩
      · have t7 := (hW.row hx2 hx3).1
        refine kp_get hx hb hts i_X1 hown hK hP hI t9 rfl rfl 17 (by decide) (by decide) (hts (.fieldLink RX3 372 "IslandSolver$Row" "next" "LIslandSolver$Row;") (by decide +kernel)) (fun _ h9 => h9) dX3_solveRowsOf_20 (kq_P (v0 := .ref q7) rfl hx0 fun _ => ?_)
        refine lv_astore_n (lv' := [(2, .ref q7), (0, .ref x), (1, .int (nI w9))]) hx hb dX3_solveRowsOf_23 rfl hl (by decide) rfl (fun ls hl => ?_)
        refine lv_goto (tgt := 7) hx hb dX3_solveRowsOf_24 (by decide) ?_
        have hl : lv_has ls 4 [(0, .ref x), (1, .int (nI w9)), (2, .ref q7)] := lv_sub hl [1, 2, 0] rfl
        exact ih7 (fun _ _ => .null) _ _ _ _ _ ⟨(some q7), (m9 - 1), by omega, hI, hP, hD, hS, hl, Or.inr ⟨q7, rfl, hx2, by omega, hx3⟩⟩
