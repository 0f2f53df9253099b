set_option maxHeartbeats 4000000 in
set_option maxRecDepth 100000 in
theorem k_findIsl (l : Launch) (dC : Nat → ClassId) (dI : Nat → Nat → Nat) (dA : Nat → ClassId) (ad sz : Nat) (τ : Nat → Nat → Nat) (pv0 : Nat → Nat → Value) (L : List Nat) (f : Nat → va_E) (hI : kI dA τ pv0 L f) (mm fa sa aa ia sf mb mr mk mi : Nat) (hW : kMd τ pv0 mm fa sa aa ia sf mb mr mk mi)  : Met l yX4_findIslands wsX4_findIslands ({ frames := 1, cells := 0, slots := 0, locals := 22 } : Room) (va_Pc [.ref mm] (kB dC dI dA ad sz L f)) (va_Qv (fun u => ∃ pv2, kFr kPq τ pv0 τ pv2 ∧ kI dA τ pv2 u.1 u.2) (kR dC dI dA (va_A (va_pl L f) sz)) (va_A (va_pl L f) sz)) 0 0 (va_A (va_pl L f) sz) := by
  refine Met.ofW (cc := cX4_findIslands) (maxL := 7) (ret := none) (by decide) rfl ?_
  intro p e s m args below meth c s₁ B hml hv
  obtain ⟨rfl, hsz, hP, hK, hD0, hE⟩ := hv
  have hx := B.exec
  have hb := B.bytes
  have hr := B.returns
  have hts := atoms_spec (ws := wsX4_findIslands) B.pre
  have hown : s.vm.findClass RX4 = some m.cls := findClass_of_methodNamed B.named
  have hlocks := B.notSynchronized
  have i_X4 : ∀ w ∈ u_ws RX4 TX4 35, w ∈ wsX4_findIslands := by decide +kernel
  subst hsz
  have hD := hD0.self (sz := s.heap.size)
  generalize hAe : va_A (va_pl L f) s.heap.size = A at hD hE ⊢
  have hA : ∀ q : Nat, s.heap.size ≤ q → A q := fun q h => by rw [← hAe]; exact Or.inr h
  have hS : va_S A s.heap s.heap [] := va_S.rf
  have hP : va_P (dC, dI) vwCl (va_pl L f) s.heap := hP
  have hK : va_K (dC, dI) vwCl (tyA dA) s := hK
  have hl := lv_entry ([.ref mm]) (n := 7) (Nat.le_of_ble_eq_true rfl)
  rw [lg_entry_eq]
  generalize (lg_sl ([.ref mm]) ++ List.replicate (7 - (lg_sl ([.ref mm])).length) Slot.unset).toArray = ls at hl ⊢
  have hl : lv_has ls 7 [(0, .ref mm)] := hl
  have hnb := hW.lb
  have hnr := hW.lr
  have hnk := hW.lk
  have hni := hW.li
  have hF : kFr kPq τ pv0 τ pv0 := kFr.rf
  refine lv_iconst (v := 0) hx hb dX4_findIslands_0 (by decide) ?_
  refine lv_istore_n (lv' := [(1, .int 0), (0, .ref mm)]) hx hb dX4_findIslands_1 rfl hl (by decide) rfl (fun ls hl => ?_)
  have hl : lv_has ls 7 [(0, .ref mm), (1, .int 0)] := lv_sub hl [1, 0] rfl
  refine kl_loop (Inv := fun n2 _ L f H locs ls => ∃ (i : Nat), mb - i < n2 ∧ kI dA τ pv0 L f ∧ va_P (dC, dI) vwCl (va_pl L f) H ∧ va_D A (va_pl L f) ∧ va_S A s.heap H locs ∧ lv_has ls 7 [(0, .ref mm), (1, .int (nI i))] ∧ i ≤ mb) (fun _ _ _ _ _ _ h9 => by obtain ⟨_, hn, _⟩ := h9; exact Nat.not_lt_zero _ hn) (fun n2 ih2 _ L f H locs ls h9 => ?_) (mb - 0 + 1) (fun _ _ => .null) _ _ _ _ _ ⟨0, Nat.lt_succ_self _, hI, hP, hD, hS, hl, Nat.zero_le _⟩
  obtain ⟨i, hn2, hI, hP, hD, hS, hl, hib⟩ := h9
  refine lv_iload_n hx hb dX4_findIslands_2 rfl (lv_at hl 1 rfl) ?_
  refine lv_aload_n hx hb dX4_findIslands_3 rfl (lv_at hl 0 rfl) ?_
  refine kp_get hx hb hts i_X4 hown hK hP hI hW.tm rfl rfl 1 (by decide) (by decide) (hts (.fieldLink RX4 93 "IslandSolverModel" "bodies" "I") (by decide +kernel)) (fun _ h9 => h9) dX4_findIslands_4 (kq_P (v0 := .int (nI mb)) rfl hW.p1 fun h_2 => ?_)
  refine lv_icmp_ge (tgt := 35) hx hb dX4_findIslands_7 (by decide) (fun c_3 => ?_) (fun c_3 => ?_)
  · have n_4 : mb ≤ i := (nI_leI (by omega) (by omega)).mp (show nI mb ≤ nI i from c_3)
    refine lv_iconst (v := 1) hx hb dX4_findIslands_35 (by decide) ?_
    refine lv_istore_n (lv' := [(1, .int 1), (0, .ref mm)]) hx hb dX4_findIslands_36 rfl hl (by decide) rfl (fun ls hl => ?_)
    refine lv_iconst (v := 0) hx hb dX4_findIslands_37 (by decide) ?_
    refine lv_istore_n (lv' := [(2, .int 0), (1, .int 1), (0, .ref mm)]) hx hb dX4_findIslands_38 rfl hl (by decide) rfl (fun ls hl => ?_)
    have hl : lv_has ls 7 [(0, .ref mm), (1, .int 1), (2, .int 0)] := lv_sub hl [2, 1, 0] rfl
    refine kl_loop (Inv := fun n39 _ L f H locs ls => ∃ (i3 : Nat) (z1 : Int32), 257 - i3 < n39 ∧ kI dA τ pv0 L f ∧ va_P (dC, dI) vwCl (va_pl L f) H ∧ va_D A (va_pl L f) ∧ va_S A s.heap H locs ∧ lv_has ls 7 [(0, .ref mm), (1, .int z1), (2, .int (nI i3))] ∧ i3 ≤ 257 ∧ (z1 = 0 ∨ z1 = 1)) (fun _ _ _ _ _ _ h9 => by obtain ⟨_, _, hn, _⟩ := h9; exact Nat.not_lt_zero _ hn) (fun n39 ih39 _ L f H locs ls h9 => ?_) (257 - 0 + 1) (fun _ _ => .null) _ _ _ _ _ ⟨0, 1, Nat.lt_succ_self _, hI, hP, hD, hS, hl, Nat.zero_le _, (Or.inr rfl)⟩
    obtain ⟨i3, z1, hn39, hI, hP, hD, hS, hl, hib, hz1⟩ := h9
    refine lv_iload_n hx hb dX4_findIslands_39 rfl (lv_at hl 2 rfl) ?_
    refine lv_sipush (v := 257) hx hb dX4_findIslands_40 (by decide) ?_
    refine lv_icmp_ge (tgt := 181) hx hb dX4_findIslands_43 (by decide) (fun c_5 => ?_) (fun c_5 => ?_)
    · have n_6 : 257 ≤ i3 := (nI_leI (by omega) (by omega)).mp (show nI 257 ≤ nI i3 from c_5)
      refine lv_aload_n hx hb dX4_findIslands_181 rfl (lv_at hl 0 rfl) ?_
      refine lv_iconst (v := 0) hx hb dX4_findIslands_182 (by decide) ?_
      refine kp_putP (v := .int 0) (ty := .int) hx hb hts i_X4 tyX4 tyX4_ok nmX4 hown hK hP hD hS hI hW.tm rfl rfl 28 (by decide) (by decide) (hts (.fieldLink RX4 189 "IslandSolverModel" "islands" "I") (by decide +kernel)) (fun _ h9 => h9) rfl (by decide +kernel) rfl rfl rfl (kv_S (by decide) ⟨0, rfl, by omega⟩) dX4_findIslands_183 (fun f H locs hI hP hD hS => ?_)
      have hF := hF.trans (kFr.up (P := kPq) (w := .int 0) (k := 28) hW.tm rfl)
      have hW := hW.frw (kFr.up (P := kPy mr) (w := .int 0) (k := 28) hW.tm rfl)
      refine lv_iconst (v := 0) hx hb dX4_findIslands_186 (by decide) ?_
      refine lv_istore_n (lv' := [(2, .int 0), (0, .ref mm), (1, .int z1)]) hx hb dX4_findIslands_187 rfl hl (by decide) rfl (fun ls hl => ?_)
      have hl : lv_has ls 7 [(0, .ref mm), (2, .int 0)] := lv_sub hl [1, 0] rfl
      refine kl_loop (Inv := fun n188 pv L f H locs ls => ∃ (i2 : Nat) (c9 : Nat), mb - i2 < n188 ∧ kI dA τ pv L f ∧ va_P (dC, dI) vwCl (va_pl L f) H ∧ va_D A (va_pl L f) ∧ va_S A s.heap H locs ∧ lv_has ls 7 [(0, .ref mm), (2, .int (nI i2))] ∧ kFr kPq τ pv0 τ pv ∧ kMd τ pv mm fa sa aa ia sf mb mr mk mi ∧ pv mm 28 = .int (nI c9) ∧ c9 ≤ i2 ∧ i2 ≤ mb) (fun _ _ _ _ _ _ h9 => by obtain ⟨_, _, hn, _⟩ := h9; exact Nat.not_lt_zero _ hn) (fun n188 ih188 pv L f H locs ls h9 => ?_) (mb - 0 + 1) ((kup pv0 mm 28 (.int 0))) _ _ _ _ _ ⟨0, 0, Nat.lt_succ_self _, hI, hP, hD, hS, hl, hF, hW, kup_self, Nat.le_refl _, Nat.zero_le _⟩
      obtain ⟨i2, c9, hn188, hI, hP, hD, hS, hl, hF, hW, hc9, hci, hib⟩ := h9
      refine lv_iload_n hx hb dX4_findIslands_188 rfl (lv_at hl 1 rfl) ?_
      refine lv_aload_n hx hb dX4_findIslands_189 rfl (lv_at hl 0 rfl) ?_
      refine kp_get hx hb hts i_X4 hown hK hP hI hW.tm rfl rfl 1 (by decide) (by decide) (hts (.fieldLink RX4 93 "IslandSolverModel" "bodies" "I") (by decide +kernel)) (fun _ h9 => h9) dX4_findIslands_190 (kq_P (v0 := .int (nI mb)) rfl hW.p1 fun h_8 => ?_)
      refine lv_icmp_ge (tgt := 280) hx hb dX4_findIslands_193 (by decide) (fun c_9 => ?_) (fun c_9 => ?_)
      · have n_10 : mb ≤ i2 := (nI_leI (by omega) (by omega)).mp (show nI mb ≤ nI i2 from c_9)
        refine lv_iconst (v := 0) hx hb dX4_findIslands_280 (by decide) ?_
        refine lv_istore_n (lv' := [(2, .int 0), (0, .ref mm)]) hx hb dX4_findIslands_281 rfl hl (by decide) rfl (fun ls hl => ?_)
        have hl : lv_has ls 7 [(0, .ref mm), (2, .int 0)] := lv_sub hl [1, 0] rfl
        refine kl_loop (Inv := fun n282 _ L f H locs ls => ∃ (i5 : Nat), 256 - i5 < n282 ∧ kI dA τ pv L f ∧ va_P (dC, dI) vwCl (va_pl L f) H ∧ va_D A (va_pl L f) ∧ va_S A s.heap H locs ∧ lv_has ls 7 [(0, .ref mm), (2, .int (nI i5))] ∧ i5 ≤ 256) (fun _ _ _ _ _ _ h9 => by obtain ⟨_, hn, _⟩ := h9; exact Nat.not_lt_zero _ hn) (fun n282 ih282 _ L f H locs ls h9 => ?_) (256 - 0 + 1) (fun _ _ => .null) _ _ _ _ _ ⟨0, Nat.lt_succ_self _, hI, hP, hD, hS, hl, Nat.zero_le _⟩
        obtain ⟨i5, hn282, hI, hP, hD, hS, hl, hib⟩ := h9
        refine lv_iload_n hx hb dX4_findIslands_282 rfl (lv_at hl 1 rfl) ?_
        refine lv_aload_n hx hb dX4_findIslands_283 rfl (lv_at hl 0 rfl) ?_
        refine kp_get hx hb hts i_X4 hown hK hP hI hW.tm rfl rfl 28 (by decide) (by decide) (hts (.fieldLink RX4 189 "IslandSolverModel" "islands" "I") (by decide +kernel)) (fun _ h9 => h9) dX4_findIslands_284 (kq_P (v0 := .int (nI c9)) rfl hc9 fun h_12 => ?_)
        refine lv_icmp_ge (tgt := 303) hx hb dX4_findIslands_287 (by decide) (fun c_13 => ?_) (fun c_13 => ?_)
        · have n_14 : c9 ≤ i5 := (nI_leI (by omega) (by omega)).mp (show nI c9 ≤ nI i5 from c_13)
          refine lv_iconst (v := 0) hx hb dX4_findIslands_303 (by decide) ?_
          refine lv_istore_n (lv' := [(2, .int 0), (0, .ref mm)]) hx hb dX4_findIslands_304 rfl hl (by decide) rfl (fun ls hl => ?_)
          have hl : lv_has ls 7 [(0, .ref mm), (2, .int 0)] := lv_sub hl [1, 0] rfl
          refine kl_loop (Inv := fun n305 _ L f H locs ls => ∃ (i6 : Nat), mb - i6 < n305 ∧ kI dA τ pv L f ∧ va_P (dC, dI) vwCl (va_pl L f) H ∧ va_D A (va_pl L f) ∧ va_S A s.heap H locs ∧ lv_has ls 7 [(0, .ref mm), (2, .int (nI i6))] ∧ i6 ≤ mb) (fun _ _ _ _ _ _ h9 => by obtain ⟨_, hn, _⟩ := h9; exact Nat.not_lt_zero _ hn) (fun n305 ih305 _ L f H locs ls h9 => ?_) (mb - 0 + 1) (fun _ _ => .null) _ _ _ _ _ ⟨0, Nat.lt_succ_self _, hI, hP, hD, hS, hl, Nat.zero_le _⟩
          obtain ⟨i6, hn305, hI, hP, hD, hS, hl, hib⟩ := h9
          refine lv_iload_n hx hb dX4_findIslands_305 rfl (lv_at hl 1 rfl) ?_
          refine lv_aload_n hx hb dX4_findIslands_306 rfl (lv_at hl 0 rfl) ?_
          refine kp_get hx hb hts i_X4 hown hK hP hI hW.tm rfl rfl 1 (by decide) (by decide) (hts (.fieldLink RX4 93 "IslandSolverModel" "bodies" "I") (by decide +kernel)) (fun _ h9 => h9) dX4_findIslands_307 (kq_P (v0 := .int (nI mb)) rfl hW.p1 fun h_16 => ?_)
          refine lv_icmp_ge (tgt := 349) hx hb dX4_findIslands_310 (by decide) (fun c_17 => ?_) (fun c_17 => ?_)
          · have n_18 : mb ≤ i6 := (nI_leI (by omega) (by omega)).mp (show nI mb ≤ nI i6 from c_17)
            refine W.widen (k := 0) (n := 0) (Nat.le_of_ble_eq_true rfl) (Nat.le_of_ble_eq_true rfl) ?_
            exact W.vret hx hb hr (fun t ht hW9 => ⟨⟨(L, f), rfl, ⟨_, hF, hI⟩, by rw [ht]; exact hP, va_K.moved hW9.alike hK, hD⟩, hS.F ht⟩) hS.2.2 dX4_findIslands_349
          · have n_19 : ¬ mb ≤ i6 := fun h9 => (show ¬ nI mb ≤ nI i6 from c_17) ((nI_leI (by omega) (by omega)).mpr h9)
            refine lv_aload_n hx hb dX4_findIslands_313 rfl (lv_at hl 0 rfl) ?_
            refine kp_get hx hb hts i_X4 hown hK hP hI hW.tm rfl rfl 29 (by decide) (by decide) (hts (.fieldLink RX4 81 "IslandSolverModel" "island" "[I") (by decide +kernel)) (fun _ h9 => h9) dX4_findIslands_314 (kq_RE 33 (by decide) fun x_20 h_21_e h_21 => ?_)
            refine lv_iload_n hx hb dX4_findIslands_317 rfl (lv_at hl 1 rfl) ?_
            have hj_22 : i6 < τ 3 x_20 := by rw [show τ 3 x_20 = 256 from (hI.arr h_21 rfl).2.1]; omega
            refine W.eq (g2 := F0 m 318 ls (.int (nI (i6)) :: .ref x_20 :: [])) rfl ?_
            refine kp_iald (j := i6) hx hb hK hP hI h_21 rfl hj_22 dX4_findIslands_318 (ka_3E fun x_23 h_24 h_24_2 h_24_3 => ?_)
            refine lv_if_lt (tgt := 343) hx hb dX4_findIslands_319 (by decide) (fun c_25 => ?_) (fun c_25 => ?_)
            · refine lv_iinc (v := nI (i6 + 1)) (lv' := [(2, .int (nI (i6 + 1))), (0, .ref mm)]) hx hb dX4_findIslands_343 hl (k := 1) rfl (nI_add i6 1) (by decide) rfl (fun ls hl => ?_)
              refine lv_goto (tgt := 305) hx hb dX4_findIslands_346 (by decide) ?_
              have hl : lv_has ls 7 [(0, .ref mm), (2, .int (nI (i6 + 1)))] := lv_sub hl [1, 0] rfl
              exact ih305 (fun _ _ => .null) _ _ _ _ _ ⟨(i6 + 1), by omega, hI, hP, hD, hS, hl, by omega⟩
            · obtain ⟨j_26, hj_26, rfl⟩ := kz_rgn (n := 256) h_24 h_24_2 c_25 (by decide)
              refine lv_aload_n hx hb dX4_findIslands_322 rfl (lv_at hl 0 rfl) ?_
              refine kp_get hx hb hts i_X4 hown hK hP hI hW.tm rfl rfl 3 (by decide) (by decide) (hts (.fieldLink RX4 13 "IslandSolverModel" "asleep" "[Z") (by decide +kernel)) (fun _ h9 => h9) dX4_findIslands_323 (kq_RE 16 (by decide) fun x_27 h_28_e h_28 => ?_)
              refine lv_iload_n hx hb dX4_findIslands_326 rfl (lv_at hl 1 rfl) ?_
              have hj_29 : i6 < τ 3 x_27 := by rw [show τ 3 x_27 = 256 from (hI.arr h_28 rfl).2.1]; omega
              refine W.eq (g2 := F0 m 327 ls (.int (nI (i6)) :: .ref x_27 :: [])) rfl ?_
              refine kp_zald (j := i6) hx hb hK hP hI h_28 rfl hj_29 dX4_findIslands_327 (ka_Z fun x_30 h_31 => ?_)
              refine lv_if_ne (tgt := 343) hx hb dX4_findIslands_328 (by decide) (fun c_32 => ?_) (fun c_32 => ?_)
              · obtain rfl : x_30 = 1 := (h_31).resolve_left c_32
                refine lv_iinc (v := nI (i6 + 1)) (lv' := [(2, .int (nI (i6 + 1))), (0, .ref mm)]) hx hb dX4_findIslands_343 hl (k := 1) rfl (nI_add i6 1) (by decide) rfl (fun ls hl => ?_)
                refine lv_goto (tgt := 305) hx hb dX4_findIslands_346 (by decide) ?_
                have hl : lv_has ls 7 [(0, .ref mm), (2, .int (nI (i6 + 1)))] := lv_sub hl [1, 0] rfl
                exact ih305 (fun _ _ => .null) _ _ _ _ _ ⟨(i6 + 1), by omega, hI, hP, hD, hS, hl, by omega⟩
              · subst c_32
                refine lv_aload_n hx hb dX4_findIslands_331 rfl (lv_at hl 0 rfl) ?_
                refine kp_get hx hb hts i_X4 hown hK hP hI hW.tm rfl rfl 31 (by decide) (by decide) (hts (.fieldLink RX4 87 "IslandSolverModel" "awake" "[Z") (by decide +kernel)) (fun _ h9 => h9) dX4_findIslands_332 (kq_RE 35 (by decide) fun x_33 h_34_e h_34 => ?_)
                refine lv_aload_n hx hb dX4_findIslands_335 rfl (lv_at hl 0 rfl) ?_
                refine kp_get hx hb hts i_X4 hown hK hP hI hW.tm rfl rfl 29 (by decide) (by decide) (hts (.fieldLink RX4 81 "IslandSolverModel" "island" "[I") (by decide +kernel)) (fun _ h9 => h9) dX4_findIslands_336 (kq_E h_21_e ?_)
                refine lv_iload_n hx hb dX4_findIslands_339 rfl (lv_at hl 1 rfl) ?_
                have hj_37 : i6 < τ 3 x_20 := by rw [show τ 3 x_20 = 256 from (hI.arr h_21 rfl).2.1]; omega
                refine W.eq (g2 := F0 m 340 ls (.int (nI (i6)) :: .ref x_20 :: [.ref x_33])) rfl ?_
                refine kp_iald (j := i6) hx hb hK hP hI h_21 rfl hj_37 dX4_findIslands_340 (ka_E h_24_3 ?_)
                refine lv_iconst (v := 1) hx hb dX4_findIslands_341 (by decide) ?_
                have hj_40 : j_26 < τ 3 x_33 := by rw [show τ 3 x_33 = 256 from (hI.arr h_34 rfl).2.1]; omega
                refine W.eq (g2 := F0 m 342 ls (.int 1 :: .int (nI (j_26)) :: .ref x_33 :: [])) rfl ?_
                refine kp_zastX (pv' := pv) (j := j_26) hx hb hK hP hD hS hI h_34 rfl hj_40 (Or.inr rfl) (fun _ _ _ => rfl) (show kPr _ 1 _ _ from (kv_Z (Or.inr rfl))) (kPn_not rfl (by decide)) dX4_findIslands_342 (fun f H locs hI hP hD hS => ?_)
                refine lv_iinc (v := nI (i6 + 1)) (lv' := [(2, .int (nI (i6 + 1))), (0, .ref mm)]) hx hb dX4_findIslands_343 hl (k := 1) rfl (nI_add i6 1) (by decide) rfl (fun ls hl => ?_)
                refine lv_goto (tgt := 305) hx hb dX4_findIslands_346 (by decide) ?_
                have hl : lv_has ls 7 [(0, .ref mm), (2, .int (nI (i6 + 1)))] := lv_sub hl [1, 0] rfl
                exact ih305 (fun _ _ => .null) _ _ _ _ _ ⟨(i6 + 1), by omega, hI, hP, hD, hS, hl, by omega⟩
        · have n_41 : ¬ c9 ≤ i5 := fun h9 => (show ¬ nI c9 ≤ nI i5 from c_13) ((nI_leI (by omega) (by omega)).mpr h9)
          refine lv_aload_n hx hb dX4_findIslands_290 rfl (lv_at hl 0 rfl) ?_
          refine kp_get hx hb hts i_X4 hown hK hP hI hW.tm rfl rfl 31 (by decide) (by decide) (hts (.fieldLink RX4 87 "IslandSolverModel" "awake" "[Z") (by decide +kernel)) (fun _ h9 => h9) dX4_findIslands_291 (kq_RE 35 (by decide) fun x_42 h_43_e h_43 => ?_)
          refine lv_iload_n hx hb dX4_findIslands_294 rfl (lv_at hl 1 rfl) ?_
          refine lv_iconst (v := 0) hx hb dX4_findIslands_295 (by decide) ?_
          have hj_44 : i5 < τ 3 x_42 := by rw [show τ 3 x_42 = 256 from (hI.arr h_43 rfl).2.1]; omega
          refine W.eq (g2 := F0 m 296 ls (.int 0 :: .int (nI (i5)) :: .ref x_42 :: [])) rfl ?_
          refine kp_zastX (pv' := pv) (j := i5) hx hb hK hP hD hS hI h_43 rfl hj_44 (Or.inl rfl) (fun _ _ _ => rfl) (show kPr _ 1 _ _ from (kv_Z (Or.inl rfl))) (kPn_not rfl (by decide)) dX4_findIslands_296 (fun f H locs hI hP hD hS => ?_)
          refine lv_iinc (v := nI (i5 + 1)) (lv' := [(2, .int (nI (i5 + 1))), (0, .ref mm)]) hx hb dX4_findIslands_297 hl (k := 1) rfl (nI_add i5 1) (by decide) rfl (fun ls hl => ?_)
          refine lv_goto (tgt := 282) hx hb dX4_findIslands_300 (by decide) ?_
          have hl : lv_has ls 7 [(0, .ref mm), (2, .int (nI (i5 + 1)))] := lv_sub hl [1, 0] rfl
          exact ih282 (fun _ _ => .null) _ _ _ _ _ ⟨(i5 + 1), by omega, hI, hP, hD, hS, hl, by omega⟩
      · have n_45 : ¬ mb ≤ i2 := fun h9 => (show ¬ nI mb ≤ nI i2 from c_9) ((nI_leI (by omega) (by omega)).mpr h9)
        refine lv_aload_n hx hb dX4_findIslands_196 rfl (lv_at hl 0 rfl) ?_
        refine kp_get hx hb hts i_X4 hown hK hP hI hW.tm rfl rfl 30 (by decide) (by decide) (hts (.fieldLink RX4 84 "IslandSolverModel" "label" "[I") (by decide +kernel)) (fun _ h9 => h9) dX4_findIslands_197 (kq_RE 34 (by decide) fun x_46 h_47_e h_47 => ?_)
        refine lv_iload_n hx hb dX4_findIslands_200 rfl (lv_at hl 1 rfl) ?_
        have hj_48 : i2 < τ 3 x_46 := by rw [show τ 3 x_46 = 256 from (hI.arr h_47 rfl).2.1]; omega
        refine W.eq (g2 := F0 m 201 ls (.int (nI (i2)) :: .ref x_46 :: [])) rfl ?_
        refine kp_iald (j := i2) hx hb hK hP hI h_47 rfl hj_48 dX4_findIslands_201 (ka_3E fun x_49 h_50 h_50_2 h_50_3 => ?_)
        refine lv_iload_n hx hb dX4_findIslands_202 rfl (lv_at hl 1 rfl) ?_
        refine lv_icmp_ne (tgt := 210) hx hb dX4_findIslands_203 (by decide) (fun c_51 => ?_) (fun c_51 => ?_)
        · refine lv_iconst (v := 0) hx hb dX4_findIslands_210 (by decide) ?_
          refine lv_istore_n (lv' := [(3, .int 0), (0, .ref mm), (2, .int (nI i2))]) hx hb dX4_findIslands_211 rfl hl (by decide) rfl (fun ls hl => ?_)
          refine lv_aload_n hx hb dX4_findIslands_212 rfl (lv_at hl 1 rfl) ?_
          refine kp_get hx hb hts i_X4 hown hK hP hI hW.tm rfl rfl 29 (by decide) (by decide) (hts (.fieldLink RX4 81 "IslandSolverModel" "island" "[I") (by decide +kernel)) (fun _ h9 => h9) dX4_findIslands_213 (kq_RE 33 (by decide) fun x_52 h_53_e h_53 => ?_)
          refine lv_iload_n hx hb dX4_findIslands_216 rfl (lv_at hl 2 rfl) ?_
          refine lv_aload_n hx hb dX4_findIslands_217 rfl (lv_at hl 1 rfl) ?_
          refine kp_get hx hb hts i_X4 hown hK hP hI hW.tm rfl rfl 30 (by decide) (by decide) (hts (.fieldLink RX4 84 "IslandSolverModel" "label" "[I") (by decide +kernel)) (fun _ h9 => h9) dX4_findIslands_218 (kq_E h_47_e ?_)
          refine lv_iload_n hx hb dX4_findIslands_221 rfl (lv_at hl 2 rfl) ?_
          have hj_56 : i2 < τ 3 x_46 := by rw [show τ 3 x_46 = 256 from (hI.arr h_47 rfl).2.1]; omega
          refine W.eq (g2 := F0 m 222 ls (.int (nI (i2)) :: .ref x_46 :: [.int (nI i2), .ref x_52])) rfl ?_
          refine kp_iald (j := i2) hx hb hK hP hI h_47 rfl hj_56 dX4_findIslands_222 (ka_E h_50_3 ?_)
          refine lv_if_ge (tgt := 230) hx hb dX4_findIslands_223 (by decide) (fun c_59 => ?_) (fun c_59 => ?_)
          · obtain ⟨j_60, hj_60, rfl⟩ := kz_rgn (n := 256) h_50 h_50_2 (Int32.not_lt.mpr c_59) (by decide)
            refine lv_iload_n hx hb dX4_findIslands_230 rfl (lv_at hl 0 rfl) ?_
            refine lv_if_eq (tgt := 241) hx hb dX4_findIslands_231 (by decide) (fun _ => ?_) (fun h9 => by first | exact absurd h9 (by decide) | exact absurd (by decide) h9)
            refine lv_aload_n hx hb dX4_findIslands_241 rfl (lv_at hl 1 rfl) ?_
            refine kp_get hx hb hts i_X4 hown hK hP hI hW.tm rfl rfl 29 (by decide) (by decide) (hts (.fieldLink RX4 81 "IslandSolverModel" "island" "[I") (by decide +kernel)) (fun _ h9 => h9) dX4_findIslands_242 (kq_E h_53_e ?_)
            refine lv_aload_n hx hb dX4_findIslands_245 rfl (lv_at hl 1 rfl) ?_
            refine kp_get hx hb hts i_X4 hown hK hP hI hW.tm rfl rfl 30 (by decide) (by decide) (hts (.fieldLink RX4 84 "IslandSolverModel" "label" "[I") (by decide +kernel)) (fun _ h9 => h9) dX4_findIslands_246 (kq_E h_47_e ?_)
            refine lv_iload_n hx hb dX4_findIslands_249 rfl (lv_at hl 2 rfl) ?_
            have hj_65 : i2 < τ 3 x_46 := by rw [show τ 3 x_46 = 256 from (hI.arr h_47 rfl).2.1]; omega
            refine W.eq (g2 := F0 m 250 ls (.int (nI (i2)) :: .ref x_46 :: [.ref x_52, .int (nI i2), .ref x_52])) rfl ?_
            refine kp_iald (j := i2) hx hb hK hP hI h_47 rfl hj_65 dX4_findIslands_250 (ka_E h_50_3 ?_)
            have hj_68 : j_60 < τ 3 x_52 := by rw [show τ 3 x_52 = 256 from (hI.arr h_53 rfl).2.1]; omega
            refine W.eq (g2 := F0 m 251 ls (.int (nI (j_60)) :: .ref x_52 :: [.int (nI i2), .ref x_52])) rfl ?_
            refine kp_iald (j := j_60) hx hb hK hP hI h_53 rfl hj_68 dX4_findIslands_251 (ka_3E fun x_69 h_70 h_70_2 h_70_3 => ?_)
            have hj_71 : i2 < τ 3 x_52 := by rw [show τ 3 x_52 = 256 from (hI.arr h_53 rfl).2.1]; omega
            refine W.eq (g2 := F0 m 252 ls (.int x_69 :: .int (nI (i2)) :: .ref x_52 :: [])) rfl ?_
            refine kp_iastX (pv' := pv) (j := i2) hx hb hK hP hD hS hI h_53 rfl hj_71 (fun _ _ _ => rfl) (show kPr _ 3 _ _ from (kv_S (by decide) ⟨_, rfl, h_70, h_70_2⟩)) (kPn_not rfl (by decide)) dX4_findIslands_252 (fun f H locs hI hP hD hS => ?_)
            refine lv_aload_n hx hb dX4_findIslands_253 rfl (lv_at hl 1 rfl) ?_
            refine lv_iload_n hx hb dX4_findIslands_254 rfl (lv_at hl 0 rfl) ?_
            refine lv_if_eq (tgt := 267) hx hb dX4_findIslands_255 (by decide) (fun _ => ?_) (fun h9 => by first | exact absurd h9 (by decide) | exact absurd (by decide) h9)
            refine lv_aload_n hx hb dX4_findIslands_267 rfl (lv_at hl 1 rfl) ?_
            refine kp_get hx hb hts i_X4 hown hK hP hI hW.tm rfl rfl 28 (by decide) (by decide) (hts (.fieldLink RX4 189 "IslandSolverModel" "islands" "I") (by decide +kernel)) (fun _ h9 => h9) dX4_findIslands_268 (kq_P (v0 := .int (nI c9)) rfl hc9 fun h_73 => ?_)
            refine kp_putP (v := .int (nI c9)) (ty := .int) hx hb hts i_X4 tyX4 tyX4_ok nmX4 hown hK hP hD hS hI hW.tm rfl rfl 28 (by decide) (by decide) (hts (.fieldLink RX4 189 "IslandSolverModel" "islands" "I") (by decide +kernel)) (fun _ h9 => h9) rfl (by decide +kernel) rfl rfl rfl (kv_S (by decide) ⟨c9, rfl, by omega⟩) dX4_findIslands_271 (fun f H locs hI hP hD hS => ?_)
            have hF := hF.trans (kFr.up (P := kPq) (w := .int (nI c9)) (k := 28) hW.tm rfl)
            have hW := hW.frw (kFr.up (P := kPy mr) (w := .int (nI c9)) (k := 28) hW.tm rfl)
            refine lv_iinc (v := nI (i2 + 1)) (lv' := [(2, .int (nI (i2 + 1))), (3, .int 0), (0, .ref mm)]) hx hb dX4_findIslands_274 hl (k := 2) rfl (nI_add i2 1) (by decide) rfl (fun ls hl => ?_)
            refine lv_goto (tgt := 188) hx hb dX4_findIslands_277 (by decide) ?_
            have hl : lv_has ls 7 [(0, .ref mm), (2, .int (nI (i2 + 1)))] := lv_sub hl [2, 0] rfl
            exact ih188 ((kup pv mm 28 (.int (nI c9)))) _ _ _ _ _ ⟨(i2 + 1), (c9), by omega, hI, hP, hD, hS, hl, hF, hW, kup_self, by omega, by omega⟩
          · refine lv_iconst (v := (-1)) hx hb dX4_findIslands_226 (by decide) ?_
            refine lv_goto (tgt := 252) hx hb dX4_findIslands_227 (by decide) ?_
            have hj_74 : i2 < τ 3 x_52 := by rw [show τ 3 x_52 = 256 from (hI.arr h_53 rfl).2.1]; omega
            refine W.eq (g2 := F0 m 252 ls (.int (-1) :: .int (nI (i2)) :: .ref x_52 :: [])) rfl ?_
            refine kp_iastX (pv' := pv) (j := i2) hx hb hK hP hD hS hI h_53 rfl hj_74 (fun _ _ _ => rfl) (show kPr _ 3 _ _ from (kv_S (by decide) ⟨_, rfl, by decide, by decide⟩)) (kPn_not rfl (by decide)) dX4_findIslands_252 (fun f H locs hI hP hD hS => ?_)
            refine lv_aload_n hx hb dX4_findIslands_253 rfl (lv_at hl 1 rfl) ?_
            refine lv_iload_n hx hb dX4_findIslands_254 rfl (lv_at hl 0 rfl) ?_
            refine lv_if_eq (tgt := 267) hx hb dX4_findIslands_255 (by decide) (fun _ => ?_) (fun h9 => by first | exact absurd h9 (by decide) | exact absurd (by decide) h9)
            refine lv_aload_n hx hb dX4_findIslands_267 rfl (lv_at hl 1 rfl) ?_
            refine kp_get hx hb hts i_X4 hown hK hP hI hW.tm rfl rfl 28 (by decide) (by decide) (hts (.fieldLink RX4 189 "IslandSolverModel" "islands" "I") (by decide +kernel)) (fun _ h9 => h9) dX4_findIslands_268 (kq_P (v0 := .int (nI c9)) rfl hc9 fun h_76 => ?_)
            refine kp_putP (v := .int (nI c9)) (ty := .int) hx hb hts i_X4 tyX4 tyX4_ok nmX4 hown hK hP hD hS hI hW.tm rfl rfl 28 (by decide) (by decide) (hts (.fieldLink RX4 189 "IslandSolverModel" "islands" "I") (by decide +kernel)) (fun _ h9 => h9) rfl (by decide +kernel) rfl rfl rfl (kv_S (by decide) ⟨c9, rfl, by omega⟩) dX4_findIslands_271 (fun f H locs hI hP hD hS => ?_)
            have hF := hF.trans (kFr.up (P := kPq) (w := .int (nI c9)) (k := 28) hW.tm rfl)
            have hW := hW.frw (kFr.up (P := kPy mr) (w := .int (nI c9)) (k := 28) hW.tm rfl)
            refine lv_iinc (v := nI (i2 + 1)) (lv' := [(2, .int (nI (i2 + 1))), (3, .int 0), (0, .ref mm)]) hx hb dX4_findIslands_274 hl (k := 2) rfl (nI_add i2 1) (by decide) rfl (fun ls hl => ?_)
            refine lv_goto (tgt := 188) hx hb dX4_findIslands_277 (by decide) ?_
            have hl : lv_has ls 7 [(0, .ref mm), (2, .int (nI (i2 + 1)))] := lv_sub hl [2, 0] rfl
            exact ih188 ((kup pv mm 28 (.int (nI c9)))) _ _ _ _ _ ⟨(i2 + 1), (c9), by omega, hI, hP, hD, hS, hl, hF, hW, kup_self, by omega, by omega⟩
        · refine lv_iconst (v := 1) hx hb dX4_findIslands_206 (by decide) ?_
          refine lv_goto (tgt := 211) hx hb dX4_findIslands_207 (by decide) ?_
          refine lv_istore_n (lv' := [(3, .int 1), (0, .ref mm), (2, .int (nI i2))]) hx hb dX4_findIslands_211 rfl hl (by decide) rfl (fun ls hl => ?_)
          refine lv_aload_n hx hb dX4_findIslands_212 rfl (lv_at hl 1 rfl) ?_
          refine kp_get hx hb hts i_X4 hown hK hP hI hW.tm rfl rfl 29 (by decide) (by decide) (hts (.fieldLink RX4 81 "IslandSolverModel" "island" "[I") (by decide +kernel)) (fun _ h9 => h9) dX4_findIslands_213 (kq_RE 33 (by decide) fun x_77 h_78_e h_78 => ?_)
          refine lv_iload_n hx hb dX4_findIslands_216 rfl (lv_at hl 2 rfl) ?_
          refine lv_aload_n hx hb dX4_findIslands_217 rfl (lv_at hl 1 rfl) ?_
          refine kp_get hx hb hts i_X4 hown hK hP hI hW.tm rfl rfl 30 (by decide) (by decide) (hts (.fieldLink RX4 84 "IslandSolverModel" "label" "[I") (by decide +kernel)) (fun _ h9 => h9) dX4_findIslands_218 (kq_E h_47_e ?_)
          refine lv_iload_n hx hb dX4_findIslands_221 rfl (lv_at hl 2 rfl) ?_
          have hj_81 : i2 < τ 3 x_46 := by rw [show τ 3 x_46 = 256 from (hI.arr h_47 rfl).2.1]; omega
          refine W.eq (g2 := F0 m 222 ls (.int (nI (i2)) :: .ref x_46 :: [.int (nI i2), .ref x_77])) rfl ?_
          refine kp_iald (j := i2) hx hb hK hP hI h_47 rfl hj_81 dX4_findIslands_222 (ka_E h_50_3 ?_)
          refine lv_if_ge (tgt := 230) hx hb dX4_findIslands_223 (by decide) (fun c_84 => ?_) (fun c_84 => ?_)
          · obtain ⟨j_85, hj_85, rfl⟩ := kz_rgn (n := 256) h_50 h_50_2 (Int32.not_lt.mpr c_84) (by decide)
            refine lv_iload_n hx hb dX4_findIslands_230 rfl (lv_at hl 0 rfl) ?_
            refine lv_if_eq (tgt := 241) hx hb dX4_findIslands_231 (by decide) (fun h9 => by first | exact absurd h9 (by decide) | exact absurd (by decide) h9) (fun _ => ?_)
            refine lv_aload_n hx hb dX4_findIslands_234 rfl (lv_at hl 1 rfl) ?_
            refine kp_get hx hb hts i_X4 hown hK hP hI hW.tm rfl rfl 28 (by decide) (by decide) (hts (.fieldLink RX4 189 "IslandSolverModel" "islands" "I") (by decide +kernel)) (fun _ h9 => h9) dX4_findIslands_235 (kq_P (v0 := .int (nI c9)) rfl hc9 fun h_87 => ?_)
            refine lv_goto (tgt := 252) hx hb dX4_findIslands_238 (by decide) ?_
            have hj_88 : i2 < τ 3 x_77 := by rw [show τ 3 x_77 = 256 from (hI.arr h_78 rfl).2.1]; omega
            refine W.eq (g2 := F0 m 252 ls (.int (nI c9) :: .int (nI (i2)) :: .ref x_77 :: [])) rfl ?_
            refine kp_iastX (pv' := pv) (j := i2) hx hb hK hP hD hS hI h_78 rfl hj_88 (fun _ _ _ => rfl) (show kPr _ 3 _ _ from (kv_S (by decide) ⟨_, rfl, kz_r256 (by omega)⟩)) (kPn_not rfl (by decide)) dX4_findIslands_252 (fun f H locs hI hP hD hS => ?_)
            refine lv_aload_n hx hb dX4_findIslands_253 rfl (lv_at hl 1 rfl) ?_
            refine lv_iload_n hx hb dX4_findIslands_254 rfl (lv_at hl 0 rfl) ?_
            refine lv_if_eq (tgt := 267) hx hb dX4_findIslands_255 (by decide) (fun h9 => by first | exact absurd h9 (by decide) | exact absurd (by decide) h9) (fun _ => ?_)
            refine lv_aload_n hx hb dX4_findIslands_258 rfl (lv_at hl 1 rfl) ?_
            refine kp_get hx hb hts i_X4 hown hK hP hI hW.tm rfl rfl 28 (by decide) (by decide) (hts (.fieldLink RX4 189 "IslandSolverModel" "islands" "I") (by decide +kernel)) (fun _ h9 => h9) dX4_findIslands_259 (kq_P (v0 := .int (nI c9)) rfl hc9 fun h_90 => ?_)
            refine lv_iconst (v := 1) hx hb dX4_findIslands_262 (by decide) ?_
            refine lv_iadd hx hb dX4_findIslands_263 ?_
            refine lv_topi (nm_r (show (nI c9) + 1 = nI (c9 + 1) from nI_add c9 1) ?_)
            refine lv_goto (tgt := 271) hx hb dX4_findIslands_264 (by decide) ?_
            refine kp_putP (v := .int (nI (c9 + 1))) (ty := .int) hx hb hts i_X4 tyX4 tyX4_ok nmX4 hown hK hP hD hS hI hW.tm rfl rfl 28 (by decide) (by decide) (hts (.fieldLink RX4 189 "IslandSolverModel" "islands" "I") (by decide +kernel)) (fun _ h9 => h9) rfl (by decide +kernel) rfl rfl rfl (kv_S (by decide) ⟨c9 + 1, rfl, by omega⟩) dX4_findIslands_271 (fun f H locs hI hP hD hS => ?_)
            have hF := hF.trans (kFr.up (P := kPq) (w := .int (nI (c9 + 1))) (k := 28) hW.tm rfl)
            have hW := hW.frw (kFr.up (P := kPy mr) (w := .int (nI (c9 + 1))) (k := 28) hW.tm rfl)
            refine lv_iinc (v := nI (i2 + 1)) (lv' := [(2, .int (nI (i2 + 1))), (3, .int 1), (0, .ref mm)]) hx hb dX4_findIslands_274 hl (k := 2) rfl (nI_add i2 1) (by decide) rfl (fun ls hl => ?_)
            refine lv_goto (tgt := 188) hx hb dX4_findIslands_277 (by decide) ?_
            have hl : lv_has ls 7 [(0, .ref mm), (2, .int (nI (i2 + 1)))] := lv_sub hl [2, 0] rfl
            exact ih188 ((kup pv mm 28 (.int (nI (c9 + 1))))) _ _ _ _ _ ⟨(i2 + 1), (c9 + 1), by omega, hI, hP, hD, hS, hl, hF, hW, kup_self, by omega, by omega⟩
          · refine lv_iconst (v := (-1)) hx hb dX4_findIslands_226 (by decide) ?_
            refine lv_goto (tgt := 252) hx hb dX4_findIslands_227 (by decide) ?_
            have hj_91 : i2 < τ 3 x_77 := by rw [show τ 3 x_77 = 256 from (hI.arr h_78 rfl).2.1]; omega
            refine W.eq (g2 := F0 m 252 ls (.int (-1) :: .int (nI (i2)) :: .ref x_77 :: [])) rfl ?_
            refine kp_iastX (pv' := pv) (j := i2) hx hb hK hP hD hS hI h_78 rfl hj_91 (fun _ _ _ => rfl) (show kPr _ 3 _ _ from (kv_S (by decide) ⟨_, rfl, by decide, by decide⟩)) (kPn_not rfl (by decide)) dX4_findIslands_252 (fun f H locs hI hP hD hS => ?_)
            refine lv_aload_n hx hb dX4_findIslands_253 rfl (lv_at hl 1 rfl) ?_
            refine lv_iload_n hx hb dX4_findIslands_254 rfl (lv_at hl 0 rfl) ?_
            refine lv_if_eq (tgt := 267) hx hb dX4_findIslands_255 (by decide) (fun h9 => by first | exact absurd h9 (by decide) | exact absurd (by decide) h9) (fun _ => ?_)
            refine lv_aload_n hx hb dX4_findIslands_258 rfl (lv_at hl 1 rfl) ?_
            refine kp_get hx hb hts i_X4 hown hK hP hI hW.tm rfl rfl 28 (by decide) (by decide) (hts (.fieldLink RX4 189 "IslandSolverModel" "islands" "I") (by decide +kernel)) (fun _ h9 => h9) dX4_findIslands_259 (kq_P (v0 := .int (nI c9)) rfl hc9 fun h_93 => ?_)
            refine lv_iconst (v := 1) hx hb dX4_findIslands_262 (by decide) ?_
            refine lv_iadd hx hb dX4_findIslands_263 ?_
            refine lv_topi (nm_r (show (nI c9) + 1 = nI (c9 + 1) from nI_add c9 1) ?_)
            refine lv_goto (tgt := 271) hx hb dX4_findIslands_264 (by decide) ?_
            refine kp_putP (v := .int (nI (c9 + 1))) (ty := .int) hx hb hts i_X4 tyX4 tyX4_ok nmX4 hown hK hP hD hS hI hW.tm rfl rfl 28 (by decide) (by decide) (hts (.fieldLink RX4 189 "IslandSolverModel" "islands" "I") (by decide +kernel)) (fun _ h9 => h9) rfl (by decide +kernel) rfl rfl rfl (kv_S (by decide) ⟨c9 + 1, rfl, by omega⟩) dX4_findIslands_271 (fun f H locs hI hP hD hS => ?_)
            have hF := hF.trans (kFr.up (P := kPq) (w := .int (nI (c9 + 1))) (k := 28) hW.tm rfl)
            have hW := hW.frw (kFr.up (P := kPy mr) (w := .int (nI (c9 + 1))) (k := 28) hW.tm rfl)
            refine lv_iinc (v := nI (i2 + 1)) (lv' := [(2, .int (nI (i2 + 1))), (3, .int 1), (0, .ref mm)]) hx hb dX4_findIslands_274 hl (k := 2) rfl (nI_add i2 1) (by decide) rfl (fun ls hl => ?_)
            refine lv_goto (tgt := 188) hx hb dX4_findIslands_277 (by decide) ?_
            have hl : lv_has ls 7 [(0, .ref mm), (2, .int (nI (i2 + 1)))] := lv_sub hl [2, 0] rfl
            exact ih188 ((kup pv mm 28 (.int (nI (c9 + 1))))) _ _ _ _ _ ⟨(i2 + 1), (c9 + 1), by omega, hI, hP, hD, hS, hl, hF, hW, kup_self, by omega, by omega⟩
    · have n_94 : ¬ 257 ≤ i3 := fun h9 => (show ¬ nI 257 ≤ nI i3 from c_5) ((nI_leI (by omega) (by omega)).mpr h9)
      refine lv_iload_n hx hb dX4_findIslands_46 rfl (lv_at hl 1 rfl) ?_
      refine lv_if_eq (tgt := 181) hx hb dX4_findIslands_47 (by decide) (fun c_95 => ?_) (fun c_95 => ?_)
      · subst c_95
        refine lv_aload_n hx hb dX4_findIslands_181 rfl (lv_at hl 0 rfl) ?_
        refine lv_iconst (v := 0) hx hb dX4_findIslands_182 (by decide) ?_
        refine kp_putP (v := .int 0) (ty := .int) hx hb hts i_X4 tyX4 tyX4_ok nmX4 hown hK hP hD hS hI hW.tm rfl rfl 28 (by decide) (by decide) (hts (.fieldLink RX4 189 "IslandSolverModel" "islands" "I") (by decide +kernel)) (fun _ h9 => h9) rfl (by decide +kernel) rfl rfl rfl (kv_S (by decide) ⟨0, rfl, by omega⟩) dX4_findIslands_183 (fun f H locs hI hP hD hS => ?_)
        have hF := hF.trans (kFr.up (P := kPq) (w := .int 0) (k := 28) hW.tm rfl)
        have hW := hW.frw (kFr.up (P := kPy mr) (w := .int 0) (k := 28) hW.tm rfl)
        refine lv_iconst (v := 0) hx hb dX4_findIslands_186 (by decide) ?_
        refine lv_istore_n (lv' := [(2, .int 0), (0, .ref mm), (1, .int 0)]) hx hb dX4_findIslands_187 rfl hl (by decide) rfl (fun ls hl => ?_)
        have hl : lv_has ls 7 [(0, .ref mm), (2, .int 0)] := lv_sub hl [1, 0] rfl
        refine kl_loop (Inv := fun n188 pv L f H locs ls => ∃ (i2 : Nat) (c9 : Nat), mb - i2 < n188 ∧ kI dA τ pv L f ∧ va_P (dC, dI) vwCl (va_pl L f) H ∧ va_D A (va_pl L f) ∧ va_S A s.heap H locs ∧ lv_has ls 7 [(0, .ref mm), (2, .int (nI i2))] ∧ kFr kPq τ pv0 τ pv ∧ kMd τ pv mm fa sa aa ia sf mb mr mk mi ∧ pv mm 28 = .int (nI c9) ∧ c9 ≤ i2 ∧ i2 ≤ mb) (fun _ _ _ _ _ _ h9 => by obtain ⟨_, _, hn, _⟩ := h9; exact Nat.not_lt_zero _ hn) (fun n188 ih188 pv L f H locs ls h9 => ?_) (mb - 0 + 1) ((kup pv0 mm 28 (.int 0))) _ _ _ _ _ ⟨0, 0, Nat.lt_succ_self _, hI, hP, hD, hS, hl, hF, hW, kup_self, Nat.le_refl _, Nat.zero_le _⟩
        obtain ⟨i2, c9, hn188, hI, hP, hD, hS, hl, hF, hW, hc9, hci, hib⟩ := h9
        refine lv_iload_n hx hb dX4_findIslands_188 rfl (lv_at hl 1 rfl) ?_
        refine lv_aload_n hx hb dX4_findIslands_189 rfl (lv_at hl 0 rfl) ?_
        refine kp_get hx hb hts i_X4 hown hK hP hI hW.tm rfl rfl 1 (by decide) (by decide) (hts (.fieldLink RX4 93 "IslandSolverModel" "bodies" "I") (by decide +kernel)) (fun _ h9 => h9) dX4_findIslands_190 (kq_P (v0 := .int (nI mb)) rfl hW.p1 fun h_97 => ?_)
        refine lv_icmp_ge (tgt := 280) hx hb dX4_findIslands_193 (by decide) (fun c_98 => ?_) (fun c_98 => ?_)
        · have n_99 : mb ≤ i2 := (nI_leI (by omega) (by omega)).mp (show nI mb ≤ nI i2 from c_98)
          refine lv_iconst (v := 0) hx hb dX4_findIslands_280 (by decide) ?_
          refine lv_istore_n (lv' := [(2, .int 0), (0, .ref mm)]) hx hb dX4_findIslands_281 rfl hl (by decide) rfl (fun ls hl => ?_)
          have hl : lv_has ls 7 [(0, .ref mm), (2, .int 0)] := lv_sub hl [1, 0] rfl
          refine kl_loop (Inv := fun n282 _ L f H locs ls => ∃ (i5 : Nat), 256 - i5 < n282 ∧ kI dA τ pv L f ∧ va_P (dC, dI) vwCl (va_pl L f) H ∧ va_D A (va_pl L f) ∧ va_S A s.heap H locs ∧ lv_has ls 7 [(0, .ref mm), (2, .int (nI i5))] ∧ i5 ≤ 256) (fun _ _ _ _ _ _ h9 => by obtain ⟨_, hn, _⟩ := h9; exact Nat.not_lt_zero _ hn) (fun n282 ih282 _ L f H locs ls h9 => ?_) (256 - 0 + 1) (fun _ _ => .null) _ _ _ _ _ ⟨0, Nat.lt_succ_self _, hI, hP, hD, hS, hl, Nat.zero_le _⟩
          obtain ⟨i5, hn282, hI, hP, hD, hS, hl, hib⟩ := h9
          refine lv_iload_n hx hb dX4_findIslands_282 rfl (lv_at hl 1 rfl) ?_
          refine lv_aload_n hx hb dX4_findIslands_283 rfl (lv_at hl 0 rfl) ?_
          refine kp_get hx hb hts i_X4 hown hK hP hI hW.tm rfl rfl 28 (by decide) (by decide) (hts (.fieldLink RX4 189 "IslandSolverModel" "islands" "I") (by decide +kernel)) (fun _ h9 => h9) dX4_findIslands_284 (kq_P (v0 := .int (nI c9)) rfl hc9 fun h_101 => ?_)
          refine lv_icmp_ge (tgt := 303) hx hb dX4_findIslands_287 (by decide) (fun c_102 => ?_) (fun c_102 => ?_)
          · have n_103 : c9 ≤ i5 := (nI_leI (by omega) (by omega)).mp (show nI c9 ≤ nI i5 from c_102)
            refine lv_iconst (v := 0) hx hb dX4_findIslands_303 (by decide) ?_
            refine lv_istore_n (lv' := [(2, .int 0), (0, .ref mm)]) hx hb dX4_findIslands_304 rfl hl (by decide) rfl (fun ls hl => ?_)
            have hl : lv_has ls 7 [(0, .ref mm), (2, .int 0)] := lv_sub hl [1, 0] rfl
            refine kl_loop (Inv := fun n305 _ L f H locs ls => ∃ (i6 : Nat), mb - i6 < n305 ∧ kI dA τ pv L f ∧ va_P (dC, dI) vwCl (va_pl L f) H ∧ va_D A (va_pl L f) ∧ va_S A s.heap H locs ∧ lv_has ls 7 [(0, .ref mm), (2, .int (nI i6))] ∧ i6 ≤ mb) (fun _ _ _ _ _ _ h9 => by obtain ⟨_, hn, _⟩ := h9; exact Nat.not_lt_zero _ hn) (fun n305 ih305 _ L f H locs ls h9 => ?_) (mb - 0 + 1) (fun _ _ => .null) _ _ _ _ _ ⟨0, Nat.lt_succ_self _, hI, hP, hD, hS, hl, Nat.zero_le _⟩
            obtain ⟨i6, hn305, hI, hP, hD, hS, hl, hib⟩ := h9
            refine lv_iload_n hx hb dX4_findIslands_305 rfl (lv_at hl 1 rfl) ?_
            refine lv_aload_n hx hb dX4_findIslands_306 rfl (lv_at hl 0 rfl) ?_
            refine kp_get hx hb hts i_X4 hown hK hP hI hW.tm rfl rfl 1 (by decide) (by decide) (hts (.fieldLink RX4 93 "IslandSolverModel" "bodies" "I") (by decide +kernel)) (fun _ h9 => h9) dX4_findIslands_307 (kq_P (v0 := .int (nI mb)) rfl hW.p1 fun h_105 => ?_)
            refine lv_icmp_ge (tgt := 349) hx hb dX4_findIslands_310 (by decide) (fun c_106 => ?_) (fun c_106 => ?_)
            · have n_107 : mb ≤ i6 := (nI_leI (by omega) (by omega)).mp (show nI mb ≤ nI i6 from c_106)
              refine W.widen (k := 0) (n := 0) (Nat.le_of_ble_eq_true rfl) (Nat.le_of_ble_eq_true rfl) ?_
              exact W.vret hx hb hr (fun t ht hW9 => ⟨⟨(L, f), rfl, ⟨_, hF, hI⟩, by rw [ht]; exact hP, va_K.moved hW9.alike hK, hD⟩, hS.F ht⟩) hS.2.2 dX4_findIslands_349
            · have n_108 : ¬ mb ≤ i6 := fun h9 => (show ¬ nI mb ≤ nI i6 from c_106) ((nI_leI (by omega) (by omega)).mpr h9)
              refine lv_aload_n hx hb dX4_findIslands_313 rfl (lv_at hl 0 rfl) ?_
              refine kp_get hx hb hts i_X4 hown hK hP hI hW.tm rfl rfl 29 (by decide) (by decide) (hts (.fieldLink RX4 81 "IslandSolverModel" "island" "[I") (by decide +kernel)) (fun _ h9 => h9) dX4_findIslands_314 (kq_RE 33 (by decide) fun x_109 h_110_e h_110 => ?_)
              refine lv_iload_n hx hb dX4_findIslands_317 rfl (lv_at hl 1 rfl) ?_
              have hj_111 : i6 < τ 3 x_109 := by rw [show τ 3 x_109 = 256 from (hI.arr h_110 rfl).2.1]; omega
              refine W.eq (g2 := F0 m 318 ls (.int (nI (i6)) :: .ref x_109 :: [])) rfl ?_
              refine kp_iald (j := i6) hx hb hK hP hI h_110 rfl hj_111 dX4_findIslands_318 (ka_3E fun x_112 h_113 h_113_2 h_113_3 => ?_)
              refine lv_if_lt (tgt := 343) hx hb dX4_findIslands_319 (by decide) (fun c_114 => ?_) (fun c_114 => ?_)
              · refine lv_iinc (v := nI (i6 + 1)) (lv' := [(2, .int (nI (i6 + 1))), (0, .ref mm)]) hx hb dX4_findIslands_343 hl (k := 1) rfl (nI_add i6 1) (by decide) rfl (fun ls hl => ?_)
                refine lv_goto (tgt := 305) hx hb dX4_findIslands_346 (by decide) ?_
                have hl : lv_has ls 7 [(0, .ref mm), (2, .int (nI (i6 + 1)))] := lv_sub hl [1, 0] rfl
                exact ih305 (fun _ _ => .null) _ _ _ _ _ ⟨(i6 + 1), by omega, hI, hP, hD, hS, hl, by omega⟩
              · obtain ⟨j_115, hj_115, rfl⟩ := kz_rgn (n := 256) h_113 h_113_2 c_114 (by decide)
                refine lv_aload_n hx hb dX4_findIslands_322 rfl (lv_at hl 0 rfl) ?_
                refine kp_get hx hb hts i_X4 hown hK hP hI hW.tm rfl rfl 3 (by decide) (by decide) (hts (.fieldLink RX4 13 "IslandSolverModel" "asleep" "[Z") (by decide +kernel)) (fun _ h9 => h9) dX4_findIslands_323 (kq_RE 16 (by decide) fun x_116 h_117_e h_117 => ?_)
                refine lv_iload_n hx hb dX4_findIslands_326 rfl (lv_at hl 1 rfl) ?_
                have hj_118 : i6 < τ 3 x_116 := by rw [show τ 3 x_116 = 256 from (hI.arr h_117 rfl).2.1]; omega
                refine W.eq (g2 := F0 m 327 ls (.int (nI (i6)) :: .ref x_116 :: [])) rfl ?_
                refine kp_zald (j := i6) hx hb hK hP hI h_117 rfl hj_118 dX4_findIslands_327 (ka_Z fun x_119 h_120 => ?_)
                refine lv_if_ne (tgt := 343) hx hb dX4_findIslands_328 (by decide) (fun c_121 => ?_) (fun c_121 => ?_)
                · obtain rfl : x_119 = 1 := (h_120).resolve_left c_121
                  refine lv_iinc (v := nI (i6 + 1)) (lv' := [(2, .int (nI (i6 + 1))), (0, .ref mm)]) hx hb dX4_findIslands_343 hl (k := 1) rfl (nI_add i6 1) (by decide) rfl (fun ls hl => ?_)
                  refine lv_goto (tgt := 305) hx hb dX4_findIslands_346 (by decide) ?_
                  have hl : lv_has ls 7 [(0, .ref mm), (2, .int (nI (i6 + 1)))] := lv_sub hl [1, 0] rfl
                  exact ih305 (fun _ _ => .null) _ _ _ _ _ ⟨(i6 + 1), by omega, hI, hP, hD, hS, hl, by omega⟩
                · subst c_121
                  refine lv_aload_n hx hb dX4_findIslands_331 rfl (lv_at hl 0 rfl) ?_
                  refine kp_get hx hb hts i_X4 hown hK hP hI hW.tm rfl rfl 31 (by decide) (by decide) (hts (.fieldLink RX4 87 "IslandSolverModel" "awake" "[Z") (by decide +kernel)) (fun _ h9 => h9) dX4_findIslands_332 (kq_RE 35 (by decide) fun x_122 h_123_e h_123 => ?_)
                  refine lv_aload_n hx hb dX4_findIslands_335 rfl (lv_at hl 0 rfl) ?_
                  refine kp_get hx hb hts i_X4 hown hK hP hI hW.tm rfl rfl 29 (by decide) (by decide) (hts (.fieldLink RX4 81 "IslandSolverModel" "island" "[I") (by decide +kernel)) (fun _ h9 => h9) dX4_findIslands_336 (kq_E h_110_e ?_)
                  refine lv_iload_n hx hb dX4_findIslands_339 rfl (lv_at hl 1 rfl) ?_
                  have hj_126 : i6 < τ 3 x_109 := by rw [show τ 3 x_109 = 256 from (hI.arr h_110 rfl).2.1]; omega
                  refine W.eq (g2 := F0 m 340 ls (.int (nI (i6)) :: .ref x_109 :: [.ref x_122])) rfl ?_
                  refine kp_iald (j := i6) hx hb hK hP hI h_110 rfl hj_126 dX4_findIslands_340 (ka_E h_113_3 ?_)
                  refine lv_iconst (v := 1) hx hb dX4_findIslands_341 (by decide) ?_
                  have hj_129 : j_115 < τ 3 x_122 := by rw [show τ 3 x_122 = 256 from (hI.arr h_123 rfl).2.1]; omega
                  refine W.eq (g2 := F0 m 342 ls (.int 1 :: .int (nI (j_115)) :: .ref x_122 :: [])) rfl ?_
                  refine kp_zastX (pv' := pv) (j := j_115) hx hb hK hP hD hS hI h_123 rfl hj_129 (Or.inr rfl) (fun _ _ _ => rfl) (show kPr _ 1 _ _ from (kv_Z (Or.inr rfl))) (kPn_not rfl (by decide)) dX4_findIslands_342 (fun f H locs hI hP hD hS => ?_)
                  refine lv_iinc (v := nI (i6 + 1)) (lv' := [(2, .int (nI (i6 + 1))), (0, .ref mm)]) hx hb dX4_findIslands_343 hl (k := 1) rfl (nI_add i6 1) (by decide) rfl (fun ls hl => ?_)
                  refine lv_goto (tgt := 305) hx hb dX4_findIslands_346 (by decide) ?_
                  have hl : lv_has ls 7 [(0, .ref mm), (2, .int (nI (i6 + 1)))] := lv_sub hl [1, 0] rfl
                  exact ih305 (fun _ _ => .null) _ _ _ _ _ ⟨(i6 + 1), by omega, hI, hP, hD, hS, hl, by omega⟩
          · have n_130 : ¬ c9 ≤ i5 := fun h9 => (show ¬ nI c9 ≤ nI i5 from c_102) ((nI_leI (by omega) (by omega)).mpr h9)
            refine lv_aload_n hx hb dX4_findIslands_290 rfl (lv_at hl 0 rfl) ?_
            refine kp_get hx hb hts i_X4 hown hK hP hI hW.tm rfl rfl 31 (by decide) (by decide) (hts (.fieldLink RX4 87 "IslandSolverModel" "awake" "[Z") (by decide +kernel)) (fun _ h9 => h9) dX4_findIslands_291 (kq_RE 35 (by decide) fun x_131 h_132_e h_132 => ?_)
            refine lv_iload_n hx hb dX4_findIslands_294 rfl (lv_at hl 1 rfl) ?_
            refine lv_iconst (v := 0) hx hb dX4_findIslands_295 (by decide) ?_
            have hj_133 : i5 < τ 3 x_131 := by rw [show τ 3 x_131 = 256 from (hI.arr h_132 rfl).2.1]; omega
            refine W.eq (g2 := F0 m 296 ls (.int 0 :: .int (nI (i5)) :: .ref x_131 :: [])) rfl ?_
            refine kp_zastX (pv' := pv) (j := i5) hx hb hK hP hD hS hI h_132 rfl hj_133 (Or.inl rfl) (fun _ _ _ => rfl) (show kPr _ 1 _ _ from (kv_Z (Or.inl rfl))) (kPn_not rfl (by decide)) dX4_findIslands_296 (fun f H locs hI hP hD hS => ?_)
            refine lv_iinc (v := nI (i5 + 1)) (lv' := [(2, .int (nI (i5 + 1))), (0, .ref mm)]) hx hb dX4_findIslands_297 hl (k := 1) rfl (nI_add i5 1) (by decide) rfl (fun ls hl => ?_)
            refine lv_goto (tgt := 282) hx hb dX4_findIslands_300 (by decide) ?_
            have hl : lv_has ls 7 [(0, .ref mm), (2, .int (nI (i5 + 1)))] := lv_sub hl [1, 0] rfl
            exact ih282 (fun _ _ => .null) _ _ _ _ _ ⟨(i5 + 1), by omega, hI, hP, hD, hS, hl, by omega⟩
        · have n_134 : ¬ mb ≤ i2 := fun h9 => (show ¬ nI mb ≤ nI i2 from c_98) ((nI_leI (by omega) (by omega)).mpr h9)
          refine lv_aload_n hx hb dX4_findIslands_196 rfl (lv_at hl 0 rfl) ?_
          refine kp_get hx hb hts i_X4 hown hK hP hI hW.tm rfl rfl 30 (by decide) (by decide) (hts (.fieldLink RX4 84 "IslandSolverModel" "label" "[I") (by decide +kernel)) (fun _ h9 => h9) dX4_findIslands_197 (kq_RE 34 (by decide) fun x_135 h_136_e h_136 => ?_)
          refine lv_iload_n hx hb dX4_findIslands_200 rfl (lv_at hl 1 rfl) ?_
          have hj_137 : i2 < τ 3 x_135 := by rw [show τ 3 x_135 = 256 from (hI.arr h_136 rfl).2.1]; omega
          refine W.eq (g2 := F0 m 201 ls (.int (nI (i2)) :: .ref x_135 :: [])) rfl ?_
          refine kp_iald (j := i2) hx hb hK hP hI h_136 rfl hj_137 dX4_findIslands_201 (ka_3E fun x_138 h_139 h_139_2 h_139_3 => ?_)
          refine lv_iload_n hx hb dX4_findIslands_202 rfl (lv_at hl 1 rfl) ?_
          refine lv_icmp_ne (tgt := 210) hx hb dX4_findIslands_203 (by decide) (fun c_140 => ?_) (fun c_140 => ?_)
          · refine lv_iconst (v := 0) hx hb dX4_findIslands_210 (by decide) ?_
            refine lv_istore_n (lv' := [(3, .int 0), (0, .ref mm), (2, .int (nI i2))]) hx hb dX4_findIslands_211 rfl hl (by decide) rfl (fun ls hl => ?_)
            refine lv_aload_n hx hb dX4_findIslands_212 rfl (lv_at hl 1 rfl) ?_
            refine kp_get hx hb hts i_X4 hown hK hP hI hW.tm rfl rfl 29 (by decide) (by decide) (hts (.fieldLink RX4 81 "IslandSolverModel" "island" "[I") (by decide +kernel)) (fun _ h9 => h9) dX4_findIslands_213 (kq_RE 33 (by decide) fun x_141 h_142_e h_142 => ?_)
            refine lv_iload_n hx hb dX4_findIslands_216 rfl (lv_at hl 2 rfl) ?_
            refine lv_aload_n hx hb dX4_findIslands_217 rfl (lv_at hl 1 rfl) ?_
            refine kp_get hx hb hts i_X4 hown hK hP hI hW.tm rfl rfl 30 (by decide) (by decide) (hts (.fieldLink RX4 84 "IslandSolverModel" "label" "[I") (by decide +kernel)) (fun _ h9 => h9) dX4_findIslands_218 (kq_E h_136_e ?_)
            refine lv_iload_n hx hb dX4_findIslands_221 rfl (lv_at hl 2 rfl) ?_
            have hj_145 : i2 < τ 3 x_135 := by rw [show τ 3 x_135 = 256 from (hI.arr h_136 rfl).2.1]; omega
            refine W.eq (g2 := F0 m 222 ls (.int (nI (i2)) :: .ref x_135 :: [.int (nI i2), .ref x_141])) rfl ?_
            refine kp_iald (j := i2) hx hb hK hP hI h_136 rfl hj_145 dX4_findIslands_222 (ka_E h_139_3 ?_)
            refine lv_if_ge (tgt := 230) hx hb dX4_findIslands_223 (by decide) (fun c_148 => ?_) (fun c_148 => ?_)
            · obtain ⟨j_149, hj_149, rfl⟩ := kz_rgn (n := 256) h_139 h_139_2 (Int32.not_lt.mpr c_148) (by decide)
              refine lv_iload_n hx hb dX4_findIslands_230 rfl (lv_at hl 0 rfl) ?_
              refine lv_if_eq (tgt := 241) hx hb dX4_findIslands_231 (by decide) (fun _ => ?_) (fun h9 => by first | exact absurd h9 (by decide) | exact absurd (by decide) h9)
              refine lv_aload_n hx hb dX4_findIslands_241 rfl (lv_at hl 1 rfl) ?_
              refine kp_get hx hb hts i_X4 hown hK hP hI hW.tm rfl rfl 29 (by decide) (by decide) (hts (.fieldLink RX4 81 "IslandSolverModel" "island" "[I") (by decide +kernel)) (fun _ h9 => h9) dX4_findIslands_242 (kq_E h_142_e ?_)
              refine lv_aload_n hx hb dX4_findIslands_245 rfl (lv_at hl 1 rfl) ?_
              refine kp_get hx hb hts i_X4 hown hK hP hI hW.tm rfl rfl 30 (by decide) (by decide) (hts (.fieldLink RX4 84 "IslandSolverModel" "label" "[I") (by decide +kernel)) (fun _ h9 => h9) dX4_findIslands_246 (kq_E h_136_e ?_)
              refine lv_iload_n hx hb dX4_findIslands_249 rfl (lv_at hl 2 rfl) ?_
              have hj_154 : i2 < τ 3 x_135 := by rw [show τ 3 x_135 = 256 from (hI.arr h_136 rfl).2.1]; omega
              refine W.eq (g2 := F0 m 250 ls (.int (nI (i2)) :: .ref x_135 :: [.ref x_141, .int (nI i2), .ref x_141])) rfl ?_
              refine kp_iald (j := i2) hx hb hK hP hI h_136 rfl hj_154 dX4_findIslands_250 (ka_E h_139_3 ?_)
              have hj_157 : j_149 < τ 3 x_141 := by rw [show τ 3 x_141 = 256 from (hI.arr h_142 rfl).2.1]; omega
              refine W.eq (g2 := F0 m 251 ls (.int (nI (j_149)) :: .ref x_141 :: [.int (nI i2), .ref x_141])) rfl ?_
              refine kp_iald (j := j_149) hx hb hK hP hI h_142 rfl hj_157 dX4_findIslands_251 (ka_3E fun x_158 h_159 h_159_2 h_159_3 => ?_)
              have hj_160 : i2 < τ 3 x_141 := by rw [show τ 3 x_141 = 256 from (hI.arr h_142 rfl).2.1]; omega
              refine W.eq (g2 := F0 m 252 ls (.int x_158 :: .int (nI (i2)) :: .ref x_141 :: [])) rfl ?_
              refine kp_iastX (pv' := pv) (j := i2) hx hb hK hP hD hS hI h_142 rfl hj_160 (fun _ _ _ => rfl) (show kPr _ 3 _ _ from (kv_S (by decide) ⟨_, rfl, h_159, h_159_2⟩)) (kPn_not rfl (by decide)) dX4_findIslands_252 (fun f H locs hI hP hD hS => ?_)
              refine lv_aload_n hx hb dX4_findIslands_253 rfl (lv_at hl 1 rfl) ?_
              refine lv_iload_n hx hb dX4_findIslands_254 rfl (lv_at hl 0 rfl) ?_
              refine lv_if_eq (tgt := 267) hx hb dX4_findIslands_255 (by decide) (fun _ => ?_) (fun h9 => by first | exact absurd h9 (by decide) | exact absurd (by decide) h9)
              refine lv_aload_n hx hb dX4_findIslands_267 rfl (lv_at hl 1 rfl) ?_
              refine kp_get hx hb hts i_X4 hown hK hP hI hW.tm rfl rfl 28 (by decide) (by decide) (hts (.fieldLink RX4 189 "IslandSolverModel" "islands" "I") (by decide +kernel)) (fun _ h9 => h9) dX4_findIslands_268 (kq_P (v0 := .int (nI c9)) rfl hc9 fun h_162 => ?_)
              refine kp_putP (v := .int (nI c9)) (ty := .int) hx hb hts i_X4 tyX4 tyX4_ok nmX4 hown hK hP hD hS hI hW.tm rfl rfl 28 (by decide) (by decide) (hts (.fieldLink RX4 189 "IslandSolverModel" "islands" "I") (by decide +kernel)) (fun _ h9 => h9) rfl (by decide +kernel) rfl rfl rfl (kv_S (by decide) ⟨c9, rfl, by omega⟩) dX4_findIslands_271 (fun f H locs hI hP hD hS => ?_)
              have hF := hF.trans (kFr.up (P := kPq) (w := .int (nI c9)) (k := 28) hW.tm rfl)
              have hW := hW.frw (kFr.up (P := kPy mr) (w := .int (nI c9)) (k := 28) hW.tm rfl)
              refine lv_iinc (v := nI (i2 + 1)) (lv' := [(2, .int (nI (i2 + 1))), (3, .int 0), (0, .ref mm)]) hx hb dX4_findIslands_274 hl (k := 2) rfl (nI_add i2 1) (by decide) rfl (fun ls hl => ?_)
              refine lv_goto (tgt := 188) hx hb dX4_findIslands_277 (by decide) ?_
              have hl : lv_has ls 7 [(0, .ref mm), (2, .int (nI (i2 + 1)))] := lv_sub hl [2, 0] rfl
              exact ih188 ((kup pv mm 28 (.int (nI c9)))) _ _ _ _ _ ⟨(i2 + 1), (c9), by omega, hI, hP, hD, hS, hl, hF, hW, kup_self, by omega, by omega⟩
            · refine lv_iconst (v := (-1)) hx hb dX4_findIslands_226 (by decide) ?_
              refine lv_goto (tgt := 252) hx hb dX4_findIslands_227 (by decide) ?_
              have hj_163 : i2 < τ 3 x_141 := by rw [show τ 3 x_141 = 256 from (hI.arr h_142 rfl).2.1]; omega
              refine W.eq (g2 := F0 m 252 ls (.int (-1) :: .int (nI (i2)) :: .ref x_141 :: [])) rfl ?_
              refine kp_iastX (pv' := pv) (j := i2) hx hb hK hP hD hS hI h_142 rfl hj_163 (fun _ _ _ => rfl) (show kPr _ 3 _ _ from (kv_S (by decide) ⟨_, rfl, by decide, by decide⟩)) (kPn_not rfl (by decide)) dX4_findIslands_252 (fun f H locs hI hP hD hS => ?_)
              refine lv_aload_n hx hb dX4_findIslands_253 rfl (lv_at hl 1 rfl) ?_
              refine lv_iload_n hx hb dX4_findIslands_254 rfl (lv_at hl 0 rfl) ?_
              refine lv_if_eq (tgt := 267) hx hb dX4_findIslands_255 (by decide) (fun _ => ?_) (fun h9 => by first | exact absurd h9 (by decide) | exact absurd (by decide) h9)
              refine lv_aload_n hx hb dX4_findIslands_267 rfl (lv_at hl 1 rfl) ?_
              refine kp_get hx hb hts i_X4 hown hK hP hI hW.tm rfl rfl 28 (by decide) (by decide) (hts (.fieldLink RX4 189 "IslandSolverModel" "islands" "I") (by decide +kernel)) (fun _ h9 => h9) dX4_findIslands_268 (kq_P (v0 := .int (nI c9)) rfl hc9 fun h_165 => ?_)
              refine kp_putP (v := .int (nI c9)) (ty := .int) hx hb hts i_X4 tyX4 tyX4_ok nmX4 hown hK hP hD hS hI hW.tm rfl rfl 28 (by decide) (by decide) (hts (.fieldLink RX4 189 "IslandSolverModel" "islands" "I") (by decide +kernel)) (fun _ h9 => h9) rfl (by decide +kernel) rfl rfl rfl (kv_S (by decide) ⟨c9, rfl, by omega⟩) dX4_findIslands_271 (fun f H locs hI hP hD hS => ?_)
              have hF := hF.trans (kFr.up (P := kPq) (w := .int (nI c9)) (k := 28) hW.tm rfl)
              have hW := hW.frw (kFr.up (P := kPy mr) (w := .int (nI c9)) (k := 28) hW.tm rfl)
              refine lv_iinc (v := nI (i2 + 1)) (lv' := [(2, .int (nI (i2 + 1))), (3, .int 0), (0, .ref mm)]) hx hb dX4_findIslands_274 hl (k := 2) rfl (nI_add i2 1) (by decide) rfl (fun ls hl => ?_)
              refine lv_goto (tgt := 188) hx hb dX4_findIslands_277 (by decide) ?_
              have hl : lv_has ls 7 [(0, .ref mm), (2, .int (nI (i2 + 1)))] := lv_sub hl [2, 0] rfl
              exact ih188 ((kup pv mm 28 (.int (nI c9)))) _ _ _ _ _ ⟨(i2 + 1), (c9), by omega, hI, hP, hD, hS, hl, hF, hW, kup_self, by omega, by omega⟩
          · refine lv_iconst (v := 1) hx hb dX4_findIslands_206 (by decide) ?_
            refine lv_goto (tgt := 211) hx hb dX4_findIslands_207 (by decide) ?_
            refine lv_istore_n (lv' := [(3, .int 1), (0, .ref mm), (2, .int (nI i2))]) hx hb dX4_findIslands_211 rfl hl (by decide) rfl (fun ls hl => ?_)
            refine lv_aload_n hx hb dX4_findIslands_212 rfl (lv_at hl 1 rfl) ?_
            refine kp_get hx hb hts i_X4 hown hK hP hI hW.tm rfl rfl 29 (by decide) (by decide) (hts (.fieldLink RX4 81 "IslandSolverModel" "island" "[I") (by decide +kernel)) (fun _ h9 => h9) dX4_findIslands_213 (kq_RE 33 (by decide) fun x_166 h_167_e h_167 => ?_)
            refine lv_iload_n hx hb dX4_findIslands_216 rfl (lv_at hl 2 rfl) ?_
            refine lv_aload_n hx hb dX4_findIslands_217 rfl (lv_at hl 1 rfl) ?_
            refine kp_get hx hb hts i_X4 hown hK hP hI hW.tm rfl rfl 30 (by decide) (by decide) (hts (.fieldLink RX4 84 "IslandSolverModel" "label" "[I") (by decide +kernel)) (fun _ h9 => h9) dX4_findIslands_218 (kq_E h_136_e ?_)
            refine lv_iload_n hx hb dX4_findIslands_221 rfl (lv_at hl 2 rfl) ?_
            have hj_170 : i2 < τ 3 x_135 := by rw [show τ 3 x_135 = 256 from (hI.arr h_136 rfl).2.1]; omega
            refine W.eq (g2 := F0 m 222 ls (.int (nI (i2)) :: .ref x_135 :: [.int (nI i2), .ref x_166])) rfl ?_
            refine kp_iald (j := i2) hx hb hK hP hI h_136 rfl hj_170 dX4_findIslands_222 (ka_E h_139_3 ?_)
            refine lv_if_ge (tgt := 230) hx hb dX4_findIslands_223 (by decide) (fun c_173 => ?_) (fun c_173 => ?_)
            · obtain ⟨j_174, hj_174, rfl⟩ := kz_rgn (n := 256) h_139 h_139_2 (Int32.not_lt.mpr c_173) (by decide)
              refine lv_iload_n hx hb dX4_findIslands_230 rfl (lv_at hl 0 rfl) ?_
              refine lv_if_eq (tgt := 241) hx hb dX4_findIslands_231 (by decide) (fun h9 => by first | exact absurd h9 (by decide) | exact absurd (by decide) h9) (fun _ => ?_)
              refine lv_aload_n hx hb dX4_findIslands_234 rfl (lv_at hl 1 rfl) ?_
              refine kp_get hx hb hts i_X4 hown hK hP hI hW.tm rfl rfl 28 (by decide) (by decide) (hts (.fieldLink RX4 189 "IslandSolverModel" "islands" "I") (by decide +kernel)) (fun _ h9 => h9) dX4_findIslands_235 (kq_P (v0 := .int (nI c9)) rfl hc9 fun h_176 => ?_)
              refine lv_goto (tgt := 252) hx hb dX4_findIslands_238 (by decide) ?_
              have hj_177 : i2 < τ 3 x_166 := by rw [show τ 3 x_166 = 256 from (hI.arr h_167 rfl).2.1]; omega
              refine W.eq (g2 := F0 m 252 ls (.int (nI c9) :: .int (nI (i2)) :: .ref x_166 :: [])) rfl ?_
              refine kp_iastX (pv' := pv) (j := i2) hx hb hK hP hD hS hI h_167 rfl hj_177 (fun _ _ _ => rfl) (show kPr _ 3 _ _ from (kv_S (by decide) ⟨_, rfl, kz_r256 (by omega)⟩)) (kPn_not rfl (by decide)) dX4_findIslands_252 (fun f H locs hI hP hD hS => ?_)
              refine lv_aload_n hx hb dX4_findIslands_253 rfl (lv_at hl 1 rfl) ?_
              refine lv_iload_n hx hb dX4_findIslands_254 rfl (lv_at hl 0 rfl) ?_
              refine lv_if_eq (tgt := 267) hx hb dX4_findIslands_255 (by decide) (fun h9 => by first | exact absurd h9 (by decide) | exact absurd (by decide) h9) (fun _ => ?_)
              refine lv_aload_n hx hb dX4_findIslands_258 rfl (lv_at hl 1 rfl) ?_
              refine kp_get hx hb hts i_X4 hown hK hP hI hW.tm rfl rfl 28 (by decide) (by decide) (hts (.fieldLink RX4 189 "IslandSolverModel" "islands" "I") (by decide +kernel)) (fun _ h9 => h9) dX4_findIslands_259 (kq_P (v0 := .int (nI c9)) rfl hc9 fun h_179 => ?_)
              refine lv_iconst (v := 1) hx hb dX4_findIslands_262 (by decide) ?_
              refine lv_iadd hx hb dX4_findIslands_263 ?_
              refine lv_topi (nm_r (show (nI c9) + 1 = nI (c9 + 1) from nI_add c9 1) ?_)
              refine lv_goto (tgt := 271) hx hb dX4_findIslands_264 (by decide) ?_
              refine kp_putP (v := .int (nI (c9 + 1))) (ty := .int) hx hb hts i_X4 tyX4 tyX4_ok nmX4 hown hK hP hD hS hI hW.tm rfl rfl 28 (by decide) (by decide) (hts (.fieldLink RX4 189 "IslandSolverModel" "islands" "I") (by decide +kernel)) (fun _ h9 => h9) rfl (by decide +kernel) rfl rfl rfl (kv_S (by decide) ⟨c9 + 1, rfl, by omega⟩) dX4_findIslands_271 (fun f H locs hI hP hD hS => ?_)
              have hF := hF.trans (kFr.up (P := kPq) (w := .int (nI (c9 + 1))) (k := 28) hW.tm rfl)
              have hW := hW.frw (kFr.up (P := kPy mr) (w := .int (nI (c9 + 1))) (k := 28) hW.tm rfl)
              refine lv_iinc (v := nI (i2 + 1)) (lv' := [(2, .int (nI (i2 + 1))), (3, .int 1), (0, .ref mm)]) hx hb dX4_findIslands_274 hl (k := 2) rfl (nI_add i2 1) (by decide) rfl (fun ls hl => ?_)
              refine lv_goto (tgt := 188) hx hb dX4_findIslands_277 (by decide) ?_
              have hl : lv_has ls 7 [(0, .ref mm), (2, .int (nI (i2 + 1)))] := lv_sub hl [2, 0] rfl
              exact ih188 ((kup pv mm 28 (.int (nI (c9 + 1))))) _ _ _ _ _ ⟨(i2 + 1), (c9 + 1), by omega, hI, hP, hD, hS, hl, hF, hW, kup_self, by omega, by omega⟩
            · refine lv_iconst (v := (-1)) hx hb dX4_findIslands_226 (by decide) ?_
              refine lv_goto (tgt := 252) hx hb dX4_findIslands_227 (by decide) ?_
              have hj_180 : i2 < τ 3 x_166 := by rw [show τ 3 x_166 = 256 from (hI.arr h_167 rfl).2.1]; omega
              refine W.eq (g2 := F0 m 252 ls (.int (-1) :: .int (nI (i2)) :: .ref x_166 :: [])) rfl ?_
              refine kp_iastX (pv' := pv) (j := i2) hx hb hK hP hD hS hI h_167 rfl hj_180 (fun _ _ _ => rfl) (show kPr _ 3 _ _ from (kv_S (by decide) ⟨_, rfl, by decide, by decide⟩)) (kPn_not rfl (by decide)) dX4_findIslands_252 (fun f H locs hI hP hD hS => ?_)
              refine lv_aload_n hx hb dX4_findIslands_253 rfl (lv_at hl 1 rfl) ?_
              refine lv_iload_n hx hb dX4_findIslands_254 rfl (lv_at hl 0 rfl) ?_
              refine lv_if_eq (tgt := 267) hx hb dX4_findIslands_255 (by decide) (fun h9 => by first | exact absurd h9 (by decide) | exact absurd (by decide) h9) (fun _ => ?_)
              refine lv_aload_n hx hb dX4_findIslands_258 rfl (lv_at hl 1 rfl) ?_
              refine kp_get hx hb hts i_X4 hown hK hP hI hW.tm rfl rfl 28 (by decide) (by decide) (hts (.fieldLink RX4 189 "IslandSolverModel" "islands" "I") (by decide +kernel)) (fun _ h9 => h9) dX4_findIslands_259 (kq_P (v0 := .int (nI c9)) rfl hc9 fun h_182 => ?_)
              refine lv_iconst (v := 1) hx hb dX4_findIslands_262 (by decide) ?_
              refine lv_iadd hx hb dX4_findIslands_263 ?_
              refine lv_topi (nm_r (show (nI c9) + 1 = nI (c9 + 1) from nI_add c9 1) ?_)
              refine lv_goto (tgt := 271) hx hb dX4_findIslands_264 (by decide) ?_
              refine kp_putP (v := .int (nI (c9 + 1))) (ty := .int) hx hb hts i_X4 tyX4 tyX4_ok nmX4 hown hK hP hD hS hI hW.tm rfl rfl 28 (by decide) (by decide) (hts (.fieldLink RX4 189 "IslandSolverModel" "islands" "I") (by decide +kernel)) (fun _ h9 => h9) rfl (by decide +kernel) rfl rfl rfl (kv_S (by decide) ⟨c9 + 1, rfl, by omega⟩) dX4_findIslands_271 (fun f H locs hI hP hD hS => ?_)
              have hF := hF.trans (kFr.up (P := kPq) (w := .int (nI (c9 + 1))) (k := 28) hW.tm rfl)
              have hW := hW.frw (kFr.up (P := kPy mr) (w := .int (nI (c9 + 1))) (k := 28) hW.tm rfl)
              refine lv_iinc (v := nI (i2 + 1)) (lv' := [(2, .int (nI (i2 + 1))), (3, .int 1), (0, .ref mm)]) hx hb dX4_findIslands_274 hl (k := 2) rfl (nI_add i2 1) (by decide) rfl (fun ls hl => ?_)
              refine lv_goto (tgt := 188) hx hb dX4_findIslands_277 (by decide) ?_
              have hl : lv_has ls 7 [(0, .ref mm), (2, .int (nI (i2 + 1)))] := lv_sub hl [2, 0] rfl
              exact ih188 ((kup pv mm 28 (.int (nI (c9 + 1))))) _ _ _ _ _ ⟨(i2 + 1), (c9 + 1), by omega, hI, hP, hD, hS, hl, hF, hW, kup_self, by omega, by omega⟩
      · obtain rfl : z1 = 1 := (hz1).resolve_left c_95
        refine lv_iconst (v := 0) hx hb dX4_findIslands_50 (by decide) ?_
        refine lv_istore_n (lv' := [(1, .int 0), (0, .ref mm), (2, .int (nI i3))]) hx hb dX4_findIslands_51 rfl hl (by decide) rfl (fun ls hl => ?_)
        refine lv_iconst (v := 0) hx hb dX4_findIslands_52 (by decide) ?_
        refine lv_istore_n (lv' := [(3, .int 0), (1, .int 0), (0, .ref mm), (2, .int (nI i3))]) hx hb dX4_findIslands_53 rfl hl (by decide) rfl (fun ls hl => ?_)
        have hl : lv_has ls 7 [(0, .ref mm), (1, .int 0), (2, .int (nI i3)), (3, .int 0)] := lv_sub hl [2, 1, 3, 0] rfl
        refine kl_loop (Inv := fun n54 _ L f H locs ls => ∃ (i4 : Nat) (z3 : Int32), mr - i4 < n54 ∧ kI dA τ pv0 L f ∧ va_P (dC, dI) vwCl (va_pl L f) H ∧ va_D A (va_pl L f) ∧ va_S A s.heap H locs ∧ lv_has ls 7 [(0, .ref mm), (1, .int z3), (2, .int (nI i3)), (3, .int (nI i4))] ∧ i4 ≤ mr ∧ (z3 = 0 ∨ z3 = 1)) (fun _ _ _ _ _ _ h9 => by obtain ⟨_, _, hn, _⟩ := h9; exact Nat.not_lt_zero _ hn) (fun n54 ih54 _ L f H locs ls h9 => ?_) (mr - 0 + 1) (fun _ _ => .null) _ _ _ _ _ ⟨0, 0, Nat.lt_succ_self _, hI, hP, hD, hS, hl, Nat.zero_le _, (Or.inl rfl)⟩
        obtain ⟨i4, z3, hn54, hI, hP, hD, hS, hl, hib, hz3⟩ := h9
        refine lv_iload_n hx hb dX4_findIslands_54 rfl (lv_at hl 3 rfl) ?_
        refine lv_aload_n hx hb dX4_findIslands_55 rfl (lv_at hl 0 rfl) ?_
        refine kp_get hx hb hts i_X4 hown hK hP hI hW.tm rfl rfl 6 (by decide) (by decide) (hts (.fieldLink RX4 129 "IslandSolverModel" "rows" "I") (by decide +kernel)) (fun _ h9 => h9) dX4_findIslands_56 (kq_P (v0 := .int (nI mr)) rfl hW.p6 fun h_184 => ?_)
        refine lv_icmp_ge (tgt := 175) hx hb dX4_findIslands_59 (by decide) (fun c_185 => ?_) (fun c_185 => ?_)
        · have n_186 : mr ≤ i4 := (nI_leI (by omega) (by omega)).mp (show nI mr ≤ nI i4 from c_185)
          refine lv_iinc (v := nI (i3 + 1)) (lv' := [(2, .int (nI (i3 + 1))), (0, .ref mm), (1, .int z3), (3, .int (nI i4))]) hx hb dX4_findIslands_175 hl (k := 2) rfl (nI_add i3 1) (by decide) rfl (fun ls hl => ?_)
          refine lv_goto (tgt := 39) hx hb dX4_findIslands_178 (by decide) ?_
          have hl : lv_has ls 7 [(0, .ref mm), (1, .int z3), (2, .int (nI (i3 + 1)))] := lv_sub hl [1, 2, 0] rfl
          exact ih39 (fun _ _ => .null) _ _ _ _ _ ⟨(i3 + 1), z3, by omega, hI, hP, hD, hS, hl, by omega, hz3⟩
        · have n_187 : ¬ mr ≤ i4 := fun h9 => (show ¬ nI mr ≤ nI i4 from c_185) ((nI_leI (by omega) (by omega)).mpr h9)
          refine lv_aload_n hx hb dX4_findIslands_62 rfl (lv_at hl 0 rfl) ?_
          refine kp_get hx hb hts i_X4 hown hK hP hI hW.tm rfl rfl 7 (by decide) (by decide) (hts (.fieldLink RX4 24 "IslandSolverModel" "firsts" "[I") (by decide +kernel)) (fun _ h9 => h9) dX4_findIslands_63 (kq_P (v0 := .ref fa) rfl hW.p7 fun h_189 => ?_)
          refine lv_iload_n hx hb dX4_findIslands_66 rfl (lv_at hl 3 rfl) ?_
          have hj_190 : i4 < τ 3 fa := by rw [show τ 3 fa = 1024 from (hI.arr hW.tf rfl).2.1]; omega
          refine W.eq (g2 := F0 m 67 ls (.int (nI (i4)) :: .ref fa :: [])) rfl ?_
          obtain ⟨ra193, rb193, rt193, ja193, la193, jb193, lb193, jt193, lt193, kt193⟩ := hW.rw (r := i4) (by omega)
          refine kp_iald (j := i4) hx hb hK hP hI hW.tf rfl hj_190 dX4_findIslands_67 (ka_P (x0 := nI ra193) rfl ja193 ?_)
          refine lv_istore (lv' := [(4, .int (nI ra193)), (0, .ref mm), (1, .int z3), (2, .int (nI i3)), (3, .int (nI i4))]) hx hb dX4_findIslands_68 hl (by decide) rfl (fun ls hl => ?_)
          refine lv_aload_n hx hb dX4_findIslands_70 rfl (lv_at hl 1 rfl) ?_
          refine kp_get hx hb hts i_X4 hown hK hP hI hW.tm rfl rfl 8 (by decide) (by decide) (hts (.fieldLink RX4 27 "IslandSolverModel" "seconds" "[I") (by decide +kernel)) (fun _ h9 => h9) dX4_findIslands_71 (kq_P (v0 := .ref sa) rfl hW.p8 fun h_195 => ?_)
          refine lv_iload_n hx hb dX4_findIslands_74 rfl (lv_at hl 4 rfl) ?_
          have hj_196 : i4 < τ 3 sa := by rw [show τ 3 sa = 1024 from (hI.arr hW.ts rfl).2.1]; omega
          refine W.eq (g2 := F0 m 75 ls (.int (nI (i4)) :: .ref sa :: [])) rfl ?_
          rcases rb193 with _ | rb193_2
          · refine kp_iald (j := i4) hx hb hK hP hI hW.ts rfl hj_196 dX4_findIslands_75 (ka_P (x0 := (-1)) rfl jb193 ?_)
            refine lv_istore (lv' := [(5, .int (-1)), (4, .int (nI ra193)), (0, .ref mm), (1, .int z3), (2, .int (nI i3)), (3, .int (nI i4))]) hx hb dX4_findIslands_76 hl (by decide) rfl (fun ls hl => ?_)
            refine lv_aload_n hx hb dX4_findIslands_78 rfl (lv_at hl 2 rfl) ?_
            refine lv_iload hx hb dX4_findIslands_79 (lv_at hl 1 rfl) ?_
            refine kd_calli (va_runV (As := [.int (nI ra193)]) (rest := []) ⟨hx, hb, hml, hown, hts⟩ (k_movN l dC dI dA ad _ τ pv0 _ _ hI mm fa sa aa ia sf mb mr mk mi hW ra193 (by omega)) (cwV 1 hts gX4_findIslands_X4_movable rfl rfl rfl (by decide +kernel) ⟨Nat.le_of_ble_eq_true rfl, Nat.le_of_ble_eq_true rfl⟩) (kd_preV hP hD hK hS hA hE hI hW.tm rfl rfl) rfl rfl hl.1 rfl (lv_room (Nat.le_of_ble_eq_true rfl)) dX4_findIslands_81 ⟨Nat.le_of_ble_eq_true rfl, Nat.le_of_ble_eq_true rfl⟩) hD hS hA (fun r_200 u_199 H locs hw hP hD hS => ?_)
            obtain ⟨hr_200, hI⟩ := hw
            refine lv_if_eq (tgt := 169) hx hb dX4_findIslands_84 (by decide) (fun c_201 => ?_) (fun c_201 => ?_)
            · subst c_201
              refine lv_iinc (v := nI (i4 + 1)) (lv' := [(3, .int (nI (i4 + 1))), (5, .int (-1)), (4, .int (nI ra193)), (0, .ref mm), (1, .int z3), (2, .int (nI i3))]) hx hb dX4_findIslands_169 hl (k := 5) rfl (nI_add i4 1) (by decide) rfl (fun ls hl => ?_)
              refine lv_goto (tgt := 54) hx hb dX4_findIslands_172 (by decide) ?_
              have hl : lv_has ls 7 [(0, .ref mm), (1, .int z3), (2, .int (nI i3)), (3, .int (nI (i4 + 1)))] := lv_sub hl [3, 4, 5, 0] rfl
              exact ih54 (fun _ _ => .null) _ _ _ _ _ ⟨(i4 + 1), z3, by omega, hI, hP, hD, hS, hl, by omega, hz3⟩
            · obtain rfl : r_200 = 1 := (hr_200).resolve_left c_201
              refine lv_aload_n hx hb dX4_findIslands_87 rfl (lv_at hl 2 rfl) ?_
              refine lv_iload hx hb dX4_findIslands_88 (lv_at hl 0 rfl) ?_
              refine kd_calli (va_runV (As := [.int (-1)]) (rest := []) ⟨hx, hb, hml, hown, hts⟩ (k_movM l dC dI dA ad _ τ pv0 _ _ hI mm fa sa aa ia sf mb mr mk mi hW ) (cwV 1 hts gX4_findIslands_X4_movable rfl rfl rfl (by decide +kernel) ⟨Nat.le_of_ble_eq_true rfl, Nat.le_of_ble_eq_true rfl⟩) (kd_preV hP hD hK hS hA hE hI hW.tm rfl rfl) rfl rfl hl.1 rfl (lv_room (Nat.le_of_ble_eq_true rfl)) dX4_findIslands_90 ⟨Nat.le_of_ble_eq_true rfl, Nat.le_of_ble_eq_true rfl⟩) hD hS hA (fun r_203 u_202 H locs hw hP hD hS => ?_)
              obtain ⟨rfl, hI⟩ := hw
              refine lv_if_eq (tgt := 169) hx hb dX4_findIslands_93 (by decide) (fun _ => ?_) (fun h9 => by first | exact absurd h9 (by decide) | exact absurd (by decide) h9)
              refine lv_iinc (v := nI (i4 + 1)) (lv' := [(3, .int (nI (i4 + 1))), (5, .int (-1)), (4, .int (nI ra193)), (0, .ref mm), (1, .int z3), (2, .int (nI i3))]) hx hb dX4_findIslands_169 hl (k := 5) rfl (nI_add i4 1) (by decide) rfl (fun ls hl => ?_)
              refine lv_goto (tgt := 54) hx hb dX4_findIslands_172 (by decide) ?_
              have hl : lv_has ls 7 [(0, .ref mm), (1, .int z3), (2, .int (nI i3)), (3, .int (nI (i4 + 1)))] := lv_sub hl [3, 4, 5, 0] rfl
              exact ih54 (fun _ _ => .null) _ _ _ _ _ ⟨(i4 + 1), z3, by omega, hI, hP, hD, hS, hl, by omega, hz3⟩
          · refine kp_iald (j := i4) hx hb hK hP hI hW.ts rfl hj_196 dX4_findIslands_75 (ka_P (x0 := (nI rb193_2)) rfl jb193 ?_)
            refine lv_istore (lv' := [(5, .int (nI rb193_2)), (4, .int (nI ra193)), (0, .ref mm), (1, .int z3), (2, .int (nI i3)), (3, .int (nI i4))]) hx hb dX4_findIslands_76 hl (by decide) rfl (fun ls hl => ?_)
            refine lv_aload_n hx hb dX4_findIslands_78 rfl (lv_at hl 2 rfl) ?_
            refine lv_iload hx hb dX4_findIslands_79 (lv_at hl 1 rfl) ?_
            refine kd_calli (va_runV (As := [.int (nI ra193)]) (rest := []) ⟨hx, hb, hml, hown, hts⟩ (k_movN l dC dI dA ad _ τ pv0 _ _ hI mm fa sa aa ia sf mb mr mk mi hW ra193 (by omega)) (cwV 1 hts gX4_findIslands_X4_movable rfl rfl rfl (by decide +kernel) ⟨Nat.le_of_ble_eq_true rfl, Nat.le_of_ble_eq_true rfl⟩) (kd_preV hP hD hK hS hA hE hI hW.tm rfl rfl) rfl rfl hl.1 rfl (lv_room (Nat.le_of_ble_eq_true rfl)) dX4_findIslands_81 ⟨Nat.le_of_ble_eq_true rfl, Nat.le_of_ble_eq_true rfl⟩) hD hS hA (fun r_205 u_204 H locs hw hP hD hS => ?_)
            obtain ⟨hr_205, hI⟩ := hw
            refine lv_if_eq (tgt := 169) hx hb dX4_findIslands_84 (by decide) (fun c_206 => ?_) (fun c_206 => ?_)
            · subst c_206
              refine lv_iinc (v := nI (i4 + 1)) (lv' := [(3, .int (nI (i4 + 1))), (5, .int (nI rb193_2)), (4, .int (nI ra193)), (0, .ref mm), (1, .int z3), (2, .int (nI i3))]) hx hb dX4_findIslands_169 hl (k := 5) rfl (nI_add i4 1) (by decide) rfl (fun ls hl => ?_)
              refine lv_goto (tgt := 54) hx hb dX4_findIslands_172 (by decide) ?_
              have hl : lv_has ls 7 [(0, .ref mm), (1, .int z3), (2, .int (nI i3)), (3, .int (nI (i4 + 1)))] := lv_sub hl [3, 4, 5, 0] rfl
              exact ih54 (fun _ _ => .null) _ _ _ _ _ ⟨(i4 + 1), z3, by omega, hI, hP, hD, hS, hl, by omega, hz3⟩
            · obtain rfl : r_205 = 1 := (hr_205).resolve_left c_206
              refine lv_aload_n hx hb dX4_findIslands_87 rfl (lv_at hl 2 rfl) ?_
              refine lv_iload hx hb dX4_findIslands_88 (lv_at hl 0 rfl) ?_
              refine kd_calli (va_runV (As := [.int (nI rb193_2)]) (rest := []) ⟨hx, hb, hml, hown, hts⟩ (k_movN l dC dI dA ad _ τ pv0 _ _ hI mm fa sa aa ia sf mb mr mk mi hW rb193_2 (by omega)) (cwV 1 hts gX4_findIslands_X4_movable rfl rfl rfl (by decide +kernel) ⟨Nat.le_of_ble_eq_true rfl, Nat.le_of_ble_eq_true rfl⟩) (kd_preV hP hD hK hS hA hE hI hW.tm rfl rfl) rfl rfl hl.1 rfl (lv_room (Nat.le_of_ble_eq_true rfl)) dX4_findIslands_90 ⟨Nat.le_of_ble_eq_true rfl, Nat.le_of_ble_eq_true rfl⟩) hD hS hA (fun r_208 u_207 H locs hw hP hD hS => ?_)
              obtain ⟨hr_208, hI⟩ := hw
              refine lv_if_eq (tgt := 169) hx hb dX4_findIslands_93 (by decide) (fun c_209 => ?_) (fun c_209 => ?_)
              · subst c_209
                refine lv_iinc (v := nI (i4 + 1)) (lv' := [(3, .int (nI (i4 + 1))), (5, .int (nI rb193_2)), (4, .int (nI ra193)), (0, .ref mm), (1, .int z3), (2, .int (nI i3))]) hx hb dX4_findIslands_169 hl (k := 5) rfl (nI_add i4 1) (by decide) rfl (fun ls hl => ?_)
                refine lv_goto (tgt := 54) hx hb dX4_findIslands_172 (by decide) ?_
                have hl : lv_has ls 7 [(0, .ref mm), (1, .int z3), (2, .int (nI i3)), (3, .int (nI (i4 + 1)))] := lv_sub hl [3, 4, 5, 0] rfl
                exact ih54 (fun _ _ => .null) _ _ _ _ _ ⟨(i4 + 1), z3, by omega, hI, hP, hD, hS, hl, by omega, hz3⟩
              · obtain rfl : r_208 = 1 := (hr_208).resolve_left c_209
                refine lv_aload_n hx hb dX4_findIslands_96 rfl (lv_at hl 2 rfl) ?_
                refine kp_get hx hb hts i_X4 hown hK hP hI hW.tm rfl rfl 30 (by decide) (by decide) (hts (.fieldLink RX4 84 "IslandSolverModel" "label" "[I") (by decide +kernel)) (fun _ h9 => h9) dX4_findIslands_97 (kq_RE 34 (by decide) fun x_210 h_211_e h_211 => ?_)
                refine lv_iload hx hb dX4_findIslands_100 (lv_at hl 1 rfl) ?_
                have hj_212 : ra193 < τ 3 x_210 := by rw [show τ 3 x_210 = 256 from (hI.arr h_211 rfl).2.1]; omega
                refine W.eq (g2 := F0 m 102 ls (.int (nI (ra193)) :: .ref x_210 :: [])) rfl ?_
                refine kp_iald (j := ra193) hx hb hK hP hI h_211 rfl hj_212 dX4_findIslands_102 (ka_3E fun x_213 h_214 h_214_2 h_214_3 => ?_)
                refine lv_aload_n hx hb dX4_findIslands_103 rfl (lv_at hl 2 rfl) ?_
                refine kp_get hx hb hts i_X4 hown hK hP hI hW.tm rfl rfl 30 (by decide) (by decide) (hts (.fieldLink RX4 84 "IslandSolverModel" "label" "[I") (by decide +kernel)) (fun _ h9 => h9) dX4_findIslands_104 (kq_E h_211_e ?_)
                refine lv_iload hx hb dX4_findIslands_107 (lv_at hl 0 rfl) ?_
                have hj_217 : rb193_2 < τ 3 x_210 := by rw [show τ 3 x_210 = 256 from (hI.arr h_211 rfl).2.1]; omega
                refine W.eq (g2 := F0 m 109 ls (.int (nI (rb193_2)) :: .ref x_210 :: [.int x_213])) rfl ?_
                refine kp_iald (j := rb193_2) hx hb hK hP hI h_211 rfl hj_217 dX4_findIslands_109 (ka_3E fun x_218 h_219 h_219_2 h_219_3 => ?_)
                refine lv_icmp_eq (tgt := 169) hx hb dX4_findIslands_110 (by decide) (fun c_220 => ?_) (fun c_220 => ?_)
                · refine lv_iinc (v := nI (i4 + 1)) (lv' := [(3, .int (nI (i4 + 1))), (5, .int (nI rb193_2)), (4, .int (nI ra193)), (0, .ref mm), (1, .int z3), (2, .int (nI i3))]) hx hb dX4_findIslands_169 hl (k := 5) rfl (nI_add i4 1) (by decide) rfl (fun ls hl => ?_)
                  refine lv_goto (tgt := 54) hx hb dX4_findIslands_172 (by decide) ?_
                  have hl : lv_has ls 7 [(0, .ref mm), (1, .int z3), (2, .int (nI i3)), (3, .int (nI (i4 + 1)))] := lv_sub hl [3, 4, 5, 0] rfl
                  exact ih54 (fun _ _ => .null) _ _ _ _ _ ⟨(i4 + 1), z3, by omega, hI, hP, hD, hS, hl, by omega, hz3⟩
                · refine lv_aload_n hx hb dX4_findIslands_113 rfl (lv_at hl 2 rfl) ?_
                  refine kp_get hx hb hts i_X4 hown hK hP hI hW.tm rfl rfl 30 (by decide) (by decide) (hts (.fieldLink RX4 84 "IslandSolverModel" "label" "[I") (by decide +kernel)) (fun _ h9 => h9) dX4_findIslands_114 (kq_E h_211_e ?_)
                  refine lv_iload hx hb dX4_findIslands_117 (lv_at hl 1 rfl) ?_
                  have hj_223 : ra193 < τ 3 x_210 := by rw [show τ 3 x_210 = 256 from (hI.arr h_211 rfl).2.1]; omega
                  refine W.eq (g2 := F0 m 119 ls (.int (nI (ra193)) :: .ref x_210 :: [])) rfl ?_
                  refine kp_iald (j := ra193) hx hb hK hP hI h_211 rfl hj_223 dX4_findIslands_119 (ka_E h_214_3 ?_)
                  refine lv_aload_n hx hb dX4_findIslands_120 rfl (lv_at hl 2 rfl) ?_
                  refine kp_get hx hb hts i_X4 hown hK hP hI hW.tm rfl rfl 30 (by decide) (by decide) (hts (.fieldLink RX4 84 "IslandSolverModel" "label" "[I") (by decide +kernel)) (fun _ h9 => h9) dX4_findIslands_121 (kq_E h_211_e ?_)
                  refine lv_iload hx hb dX4_findIslands_124 (lv_at hl 0 rfl) ?_
                  have hj_228 : rb193_2 < τ 3 x_210 := by rw [show τ 3 x_210 = 256 from (hI.arr h_211 rfl).2.1]; omega
                  refine W.eq (g2 := F0 m 126 ls (.int (nI (rb193_2)) :: .ref x_210 :: [.int x_213])) rfl ?_
                  refine kp_iald (j := rb193_2) hx hb hK hP hI h_211 rfl hj_228 dX4_findIslands_126 (ka_E h_219_3 ?_)
                  refine lv_icmp_ge (tgt := 140) hx hb dX4_findIslands_127 (by decide) (fun c_231 => ?_) (fun c_231 => ?_)
                  · refine lv_aload_n hx hb dX4_findIslands_140 rfl (lv_at hl 2 rfl) ?_
                    refine kp_get hx hb hts i_X4 hown hK hP hI hW.tm rfl rfl 30 (by decide) (by decide) (hts (.fieldLink RX4 84 "IslandSolverModel" "label" "[I") (by decide +kernel)) (fun _ h9 => h9) dX4_findIslands_141 (kq_E h_211_e ?_)
                    refine lv_iload hx hb dX4_findIslands_144 (lv_at hl 0 rfl) ?_
                    have hj_234 : rb193_2 < τ 3 x_210 := by rw [show τ 3 x_210 = 256 from (hI.arr h_211 rfl).2.1]; omega
                    refine W.eq (g2 := F0 m 146 ls (.int (nI (rb193_2)) :: .ref x_210 :: [])) rfl ?_
                    refine kp_iald (j := rb193_2) hx hb hK hP hI h_211 rfl hj_234 dX4_findIslands_146 (ka_E h_219_3 ?_)
                    refine lv_istore (lv' := [(6, .int x_218), (5, .int (nI rb193_2)), (4, .int (nI ra193)), (0, .ref mm), (1, .int z3), (2, .int (nI i3)), (3, .int (nI i4))]) hx hb dX4_findIslands_147 hl (by decide) rfl (fun ls hl => ?_)
                    refine lv_aload_n hx hb dX4_findIslands_149 rfl (lv_at hl 3 rfl) ?_
                    refine kp_get hx hb hts i_X4 hown hK hP hI hW.tm rfl rfl 30 (by decide) (by decide) (hts (.fieldLink RX4 84 "IslandSolverModel" "label" "[I") (by decide +kernel)) (fun _ h9 => h9) dX4_findIslands_150 (kq_E h_211_e ?_)
                    refine lv_iload hx hb dX4_findIslands_153 (lv_at hl 2 rfl) ?_
                    refine lv_iload hx hb dX4_findIslands_155 (lv_at hl 0 rfl) ?_
                    have hj_239 : ra193 < τ 3 x_210 := by rw [show τ 3 x_210 = 256 from (hI.arr h_211 rfl).2.1]; omega
                    refine W.eq (g2 := F0 m 157 ls (.int x_218 :: .int (nI (ra193)) :: .ref x_210 :: [])) rfl ?_
                    refine kp_iastX (pv' := pv0) (j := ra193) hx hb hK hP hD hS hI h_211 rfl hj_239 (fun _ _ _ => rfl) (show kPr _ 3 _ _ from (kv_S (by decide) ⟨_, rfl, h_219, h_219_2⟩)) (kPn_not rfl (by decide)) dX4_findIslands_157 (fun f H locs hI hP hD hS => ?_)
                    refine lv_aload_n hx hb dX4_findIslands_158 rfl (lv_at hl 3 rfl) ?_
                    refine kp_get hx hb hts i_X4 hown hK hP hI hW.tm rfl rfl 30 (by decide) (by decide) (hts (.fieldLink RX4 84 "IslandSolverModel" "label" "[I") (by decide +kernel)) (fun _ h9 => h9) dX4_findIslands_159 (kq_RE 34 (by decide) fun x_240 h_241_e h_241 => ?_)
                    refine lv_iload hx hb dX4_findIslands_162 (lv_at hl 1 rfl) ?_
                    refine lv_iload hx hb dX4_findIslands_164 (lv_at hl 0 rfl) ?_
                    have hj_242 : rb193_2 < τ 3 x_240 := by rw [show τ 3 x_240 = 256 from (hI.arr h_241 rfl).2.1]; omega
                    refine W.eq (g2 := F0 m 166 ls (.int x_218 :: .int (nI (rb193_2)) :: .ref x_240 :: [])) rfl ?_
                    refine kp_iastX (pv' := pv0) (j := rb193_2) hx hb hK hP hD hS hI h_241 rfl hj_242 (fun _ _ _ => rfl) (show kPr _ 3 _ _ from (kv_S (by decide) ⟨_, rfl, h_219, h_219_2⟩)) (kPn_not rfl (by decide)) dX4_findIslands_166 (fun f H locs hI hP hD hS => ?_)
                    refine lv_iconst (v := 1) hx hb dX4_findIslands_167 (by decide) ?_
                    refine lv_istore_n (lv' := [(1, .int 1), (6, .int x_218), (5, .int (nI rb193_2)), (4, .int (nI ra193)), (0, .ref mm), (2, .int (nI i3)), (3, .int (nI i4))]) hx hb dX4_findIslands_168 rfl hl (by decide) rfl (fun ls hl => ?_)
                    refine lv_iinc (v := nI (i4 + 1)) (lv' := [(3, .int (nI (i4 + 1))), (1, .int 1), (6, .int x_218), (5, .int (nI rb193_2)), (4, .int (nI ra193)), (0, .ref mm), (2, .int (nI i3))]) hx hb dX4_findIslands_169 hl (k := 6) rfl (nI_add i4 1) (by decide) rfl (fun ls hl => ?_)
                    refine lv_goto (tgt := 54) hx hb dX4_findIslands_172 (by decide) ?_
                    have hl : lv_has ls 7 [(0, .ref mm), (1, .int 1), (2, .int (nI i3)), (3, .int (nI (i4 + 1)))] := lv_sub hl [5, 1, 6, 0] rfl
                    exact ih54 (fun _ _ => .null) _ _ _ _ _ ⟨(i4 + 1), 1, by omega, hI, hP, hD, hS, hl, by omega, (Or.inr rfl)⟩
                  · refine lv_aload_n hx hb dX4_findIslands_130 rfl (lv_at hl 2 rfl) ?_
                    refine kp_get hx hb hts i_X4 hown hK hP hI hW.tm rfl rfl 30 (by decide) (by decide) (hts (.fieldLink RX4 84 "IslandSolverModel" "label" "[I") (by decide +kernel)) (fun _ h9 => h9) dX4_findIslands_131 (kq_E h_211_e ?_)
                    refine lv_iload hx hb dX4_findIslands_134 (lv_at hl 1 rfl) ?_
                    have hj_245 : ra193 < τ 3 x_210 := by rw [show τ 3 x_210 = 256 from (hI.arr h_211 rfl).2.1]; omega
                    refine W.eq (g2 := F0 m 136 ls (.int (nI (ra193)) :: .ref x_210 :: [])) rfl ?_
                    refine kp_iald (j := ra193) hx hb hK hP hI h_211 rfl hj_245 dX4_findIslands_136 (ka_E h_214_3 ?_)
                    refine lv_goto (tgt := 147) hx hb dX4_findIslands_137 (by decide) ?_
                    refine lv_istore (lv' := [(6, .int x_213), (5, .int (nI rb193_2)), (4, .int (nI ra193)), (0, .ref mm), (1, .int z3), (2, .int (nI i3)), (3, .int (nI i4))]) hx hb dX4_findIslands_147 hl (by decide) rfl (fun ls hl => ?_)
                    refine lv_aload_n hx hb dX4_findIslands_149 rfl (lv_at hl 3 rfl) ?_
                    refine kp_get hx hb hts i_X4 hown hK hP hI hW.tm rfl rfl 30 (by decide) (by decide) (hts (.fieldLink RX4 84 "IslandSolverModel" "label" "[I") (by decide +kernel)) (fun _ h9 => h9) dX4_findIslands_150 (kq_E h_211_e ?_)
                    refine lv_iload hx hb dX4_findIslands_153 (lv_at hl 2 rfl) ?_
                    refine lv_iload hx hb dX4_findIslands_155 (lv_at hl 0 rfl) ?_
                    have hj_250 : ra193 < τ 3 x_210 := by rw [show τ 3 x_210 = 256 from (hI.arr h_211 rfl).2.1]; omega
                    refine W.eq (g2 := F0 m 157 ls (.int x_213 :: .int (nI (ra193)) :: .ref x_210 :: [])) rfl ?_
                    refine kp_iastX (pv' := pv0) (j := ra193) hx hb hK hP hD hS hI h_211 rfl hj_250 (fun _ _ _ => rfl) (show kPr _ 3 _ _ from (kv_S (by decide) ⟨_, rfl, h_214, h_214_2⟩)) (kPn_not rfl (by decide)) dX4_findIslands_157 (fun f H locs hI hP hD hS => ?_)
                    refine lv_aload_n hx hb dX4_findIslands_158 rfl (lv_at hl 3 rfl) ?_
                    refine kp_get hx hb hts i_X4 hown hK hP hI hW.tm rfl rfl 30 (by decide) (by decide) (hts (.fieldLink RX4 84 "IslandSolverModel" "label" "[I") (by decide +kernel)) (fun _ h9 => h9) dX4_findIslands_159 (kq_RE 34 (by decide) fun x_251 h_252_e h_252 => ?_)
                    refine lv_iload hx hb dX4_findIslands_162 (lv_at hl 1 rfl) ?_
                    refine lv_iload hx hb dX4_findIslands_164 (lv_at hl 0 rfl) ?_
                    have hj_253 : rb193_2 < τ 3 x_251 := by rw [show τ 3 x_251 = 256 from (hI.arr h_252 rfl).2.1]; omega
                    refine W.eq (g2 := F0 m 166 ls (.int x_213 :: .int (nI (rb193_2)) :: .ref x_251 :: [])) rfl ?_
                    refine kp_iastX (pv' := pv0) (j := rb193_2) hx hb hK hP hD hS hI h_252 rfl hj_253 (fun _ _ _ => rfl) (show kPr _ 3 _ _ from (kv_S (by decide) ⟨_, rfl, h_214, h_214_2⟩)) (kPn_not rfl (by decide)) dX4_findIslands_166 (fun f H locs hI hP hD hS => ?_)
                    refine lv_iconst (v := 1) hx hb dX4_findIslands_167 (by decide) ?_
                    refine lv_istore_n (lv' := [(1, .int 1), (6, .int x_213), (5, .int (nI rb193_2)), (4, .int (nI ra193)), (0, .ref mm), (2, .int (nI i3)), (3, .int (nI i4))]) hx hb dX4_findIslands_168 rfl hl (by decide) rfl (fun ls hl => ?_)
                    refine lv_iinc (v := nI (i4 + 1)) (lv' := [(3, .int (nI (i4 + 1))), (1, .int 1), (6, .int x_213), (5, .int (nI rb193_2)), (4, .int (nI ra193)), (0, .ref mm), (2, .int (nI i3))]) hx hb dX4_findIslands_169 hl (k := 6) rfl (nI_add i4 1) (by decide) rfl (fun ls hl => ?_)
                    refine lv_goto (tgt := 54) hx hb dX4_findIslands_172 (by decide) ?_
                    have hl : lv_has ls 7 [(0, .ref mm), (1, .int 1), (2, .int (nI i3)), (3, .int (nI (i4 + 1)))] := lv_sub hl [5, 1, 6, 0] rfl
                    exact ih54 (fun _ _ => .null) _ _ _ _ _ ⟨(i4 + 1), 1, by omega, hI, hP, hD, hS, hl, by omega, (Or.inr rfl)⟩
  · have n_254 : ¬ mb ≤ i := fun h9 => (show ¬ nI mb ≤ nI i from c_3) ((nI_leI (by omega) (by omega)).mpr h9)
    refine lv_aload_n hx hb dX4_findIslands_10 rfl (lv_at hl 0 rfl) ?_
    refine kp_get hx hb hts i_X4 hown hK hP hI hW.tm rfl rfl 30 (by decide) (by decide) (hts (.fieldLink RX4 84 "IslandSolverModel" "label" "[I") (by decide +kernel)) (fun _ h9 => h9) dX4_findIslands_11 (kq_RE 34 (by decide) fun x_255 h_256_e h_256 => ?_)
    refine lv_iload_n hx hb dX4_findIslands_14 rfl (lv_at hl 1 rfl) ?_
    refine lv_aload_n hx hb dX4_findIslands_15 rfl (lv_at hl 0 rfl) ?_
    refine lv_iload_n hx hb dX4_findIslands_16 rfl (lv_at hl 1 rfl) ?_
    refine kd_calli (va_runV (As := [.int (nI i)]) (rest := [.int (nI i), .ref x_255]) ⟨hx, hb, hml, hown, hts⟩ (k_movN l dC dI dA ad _ τ pv0 _ _ hI mm fa sa aa ia sf mb mr mk mi hW i (by omega)) (cwV 1 hts gX4_findIslands_X4_movable rfl rfl rfl (by decide +kernel) ⟨Nat.le_of_ble_eq_true rfl, Nat.le_of_ble_eq_true rfl⟩) (kd_preV hP hD hK hS hA hE hI hW.tm rfl rfl) rfl rfl hl.1 rfl (lv_room (Nat.le_of_ble_eq_true rfl)) dX4_findIslands_17 ⟨Nat.le_of_ble_eq_true rfl, Nat.le_of_ble_eq_true rfl⟩) hD hS hA (fun r_258 u_257 H locs hw hP hD hS => ?_)
    obtain ⟨hr_258, hI⟩ := hw
    refine lv_if_eq (tgt := 27) hx hb dX4_findIslands_20 (by decide) (fun c_259 => ?_) (fun c_259 => ?_)
    · subst c_259
      refine lv_iconst (v := (-1)) hx hb dX4_findIslands_27 (by decide) ?_
      have hj_260 : i < τ 3 x_255 := by rw [show τ 3 x_255 = 256 from (hI.arr h_256 rfl).2.1]; omega
      refine W.eq (g2 := F0 m 28 ls (.int (-1) :: .int (nI (i)) :: .ref x_255 :: [])) rfl ?_
      refine kp_iastX (pv' := pv0) (j := i) hx hb hK hP hD hS hI h_256 rfl hj_260 (fun _ _ _ => rfl) (show kPr _ 3 _ _ from (kv_S (by decide) ⟨_, rfl, by decide, by decide⟩)) (kPn_not rfl (by decide)) dX4_findIslands_28 (fun f H locs hI hP hD hS => ?_)
      refine lv_iinc (v := nI (i + 1)) (lv' := [(1, .int (nI (i + 1))), (0, .ref mm)]) hx hb dX4_findIslands_29 hl (k := 1) rfl (nI_add i 1) (by decide) rfl (fun ls hl => ?_)
      refine lv_goto (tgt := 2) hx hb dX4_findIslands_32 (by decide) ?_
      have hl : lv_has ls 7 [(0, .ref mm), (1, .int (nI (i + 1)))] := lv_sub hl [1, 0] rfl
      exact ih2 (fun _ _ => .null) _ _ _ _ _ ⟨(i + 1), by omega, hI, hP, hD, hS, hl, by omega⟩
    · obtain rfl : r_258 = 1 := (hr_258).resolve_left c_259
      refine lv_iload_n hx hb dX4_findIslands_23 rfl (lv_at hl 1 rfl) ?_
      refine lv_goto (tgt := 28) hx hb dX4_findIslands_24 (by decide) ?_
      have hj_261 : i < τ 3 x_255 := by rw [show τ 3 x_255 = 256 from (hI.arr h_256 rfl).2.1]; omega
      refine W.eq (g2 := F0 m 28 ls (.int (nI i) :: .int (nI (i)) :: .ref x_255 :: [])) rfl ?_
      refine kp_iastX (pv' := pv0) (j := i) hx hb hK hP hD hS hI h_256 rfl hj_261 (fun _ _ _ => rfl) (show kPr _ 3 _ _ from (kv_S (by decide) ⟨_, rfl, kz_r256 (by omega)⟩)) (kPn_not rfl (by decide)) dX4_findIslands_28 (fun f H locs hI hP hD hS => ?_)
      refine lv_iinc (v := nI (i + 1)) (lv' := [(1, .int (nI (i + 1))), (0, .ref mm)]) hx hb dX4_findIslands_29 hl (k := 1) rfl (nI_add i 1) (by decide) rfl (fun ls hl => ?_)
      refine lv_goto (tgt := 2) hx hb dX4_findIslands_32 (by decide) ?_
      have hl : lv_has ls 7 [(0, .ref mm), (1, .int (nI (i + 1)))] := lv_sub hl [1, 0] rfl
      exact ih2 (fun _ _ => .null) _ _ _ _ _ ⟨(i + 1), by omega, hI, hP, hD, hS, hl, by omega⟩
set_option maxHeartbeats 4000000 in
set_option maxRecDepth 100000 in
theorem k_sleeping (l : Launch) (dC : Nat → ClassId) (dI : Nat → Nat → Nat) (dA : Nat → ClassId) (ad sz : Nat) (τ : Nat → Nat → Nat) (pv0 : Nat → Nat → Value) (L : List Nat) (f : Nat → va_E) (hI : kI dA τ pv0 L f) (mm fa sa aa ia sf mb mr mk mi : Nat) (hW : kMd τ pv0 mm fa sa aa ia sf mb mr mk mi)  : Met l yX4_sleeping wsX4_sleeping ({ frames := 2, cells := 0, slots := 0, locals := 48 } : Room) (va_Pc [.ref mm] (kB dC dI dA ad sz L f)) (va_Qi (fun r u => ∃ pv2, kFr kPq τ pv0 τ pv2 ∧ kI dA τ pv2 u.1 u.2) (kR dC dI dA (va_A (va_pl L f) sz)) (va_A (va_pl L f) sz)) 0 0 (va_A (va_pl L f) sz) := by
  refine Met.ofW (cc := cX4_sleeping) (maxL := 3) (ret := (some .int)) (by decide) rfl ?_
  intro p e s m args below meth c s₁ B hml hv
  obtain ⟨rfl, hsz, hP, hK, hD0, hE⟩ := hv
  have hx := B.exec
  have hb := B.bytes
  have hr := B.returns
  have hts := atoms_spec (ws := wsX4_sleeping) B.pre
  have hown : s.vm.findClass RX4 = some m.cls := findClass_of_methodNamed B.named
  have hlocks := B.notSynchronized
  have i_X4 : ∀ w ∈ u_ws RX4 TX4 35, w ∈ wsX4_sleeping := by decide +kernel
  subst hsz
  have hD := hD0.self (sz := s.heap.size)
  generalize hAe : va_A (va_pl L f) s.heap.size = A at hD hE ⊢
  have hA : ∀ q : Nat, s.heap.size ≤ q → A q := fun q h => by rw [← hAe]; exact Or.inr h
  have hS : va_S A s.heap s.heap [] := va_S.rf
  have hP : va_P (dC, dI) vwCl (va_pl L f) s.heap := hP
  have hK : va_K (dC, dI) vwCl (tyA dA) s := hK
  have hl := lv_entry ([.ref mm]) (n := 3) (Nat.le_of_ble_eq_true rfl)
  rw [lg_entry_eq]
  generalize (lg_sl ([.ref mm]) ++ List.replicate (3 - (lg_sl ([.ref mm])).length) Slot.unset).toArray = ls at hl ⊢
  have hl : lv_has ls 3 [(0, .ref mm)] := hl
  have hnb := hW.lb
  have hnr := hW.lr
  have hnk := hW.lk
  have hni := hW.li
  have hF : kFr kPq τ pv0 τ pv0 := kFr.rf
  refine lv_aload_n hx hb dX4_sleeping_0 rfl (lv_at hl 0 rfl) ?_
  refine kd_callv (va_runV (As := []) (rest := []) ⟨hx, hb, hml, hown, hts⟩ (k_findIsl l dC dI dA ad _ τ pv0 _ _ hI mm fa sa aa ia sf mb mr mk mi hW ) (cwV 0 hts gX4_sleeping_X4_findIslands rfl rfl rfl (by decide +kernel) ⟨Nat.le_of_ble_eq_true rfl, Nat.le_of_ble_eq_true rfl⟩) (kd_preV hP hD hK hS hA hE hI hW.tm rfl rfl) rfl rfl hl.1 rfl (lv_room (Nat.le_of_ble_eq_true rfl)) dX4_sleeping_1 ⟨Nat.le_of_ble_eq_true rfl, Nat.le_of_ble_eq_true rfl⟩) hD hS hA (fun u_1 H locs hw hP hD hS => ?_)
  obtain ⟨pv, hF9, hI⟩ := hw
  have hF := hF.trans (hF9)
  have hW := hW.frq hF9
  refine lv_iconst (v := 0) hx hb dX4_sleeping_4 (by decide) ?_
  refine lv_istore_n (lv' := [(1, .int 0), (0, .ref mm)]) hx hb dX4_sleeping_5 rfl hl (by decide) rfl (fun ls hl => ?_)
  refine lv_iconst (v := 0) hx hb dX4_sleeping_6 (by decide) ?_
  refine lv_istore_n (lv' := [(2, .int 0), (1, .int 0), (0, .ref mm)]) hx hb dX4_sleeping_7 rfl hl (by decide) rfl (fun ls hl => ?_)
  have hl : lv_has ls 3 [(0, .ref mm), (1, .int 0), (2, .int 0)] := lv_sub hl [2, 1, 0] rfl
  refine kl_loop (Inv := fun n8 _ L f H locs ls => ∃ (i : Nat) (c8 : Int32), 256 - i < n8 ∧ kI dA τ pv L f ∧ va_P (dC, dI) vwCl (va_pl L f) H ∧ va_D A (va_pl L f) ∧ va_S A s.heap H locs ∧ lv_has ls 3 [(0, .ref mm), (1, .int c8), (2, .int (nI i))] ∧ i ≤ 256) (fun _ _ _ _ _ _ h9 => by obtain ⟨_, _, hn, _⟩ := h9; exact Nat.not_lt_zero _ hn) (fun n8 ih8 _ L f H locs ls h9 => ?_) (256 - 0 + 1) (fun _ _ => .null) _ _ _ _ _ ⟨0, 0, Nat.lt_succ_self _, hI, hP, hD, hS, hl, Nat.zero_le _⟩
  obtain ⟨i, c8, hn8, hI, hP, hD, hS, hl, hib⟩ := h9
  refine lv_iload_n hx hb dX4_sleeping_8 rfl (lv_at hl 2 rfl) ?_
  refine lv_aload_n hx hb dX4_sleeping_9 rfl (lv_at hl 0 rfl) ?_
  refine kp_get hx hb hts i_X4 hown hK hP hI hW.tm rfl rfl 28 (by decide) (by decide) (hts (.fieldLink RX4 189 "IslandSolverModel" "islands" "I") (by decide +kernel)) (fun _ h9 => h9) dX4_sleeping_10 (kq_L6 rfl fun x_2 w_4 h_3 => ?_)
  refine lv_icmp_ge (tgt := 39) hx hb dX4_sleeping_13 (by decide) (fun c_5 => ?_) (fun c_5 => ?_)
  · have n_6 : x_2 ≤ i := (nI_leI (by omega) (by omega)).mp (show nI x_2 ≤ nI i from c_5)
    refine lv_iload_n hx hb dX4_sleeping_39 rfl (lv_at hl 1 rfl) ?_
    refine W.widen (k := 0) (n := 0) (Nat.le_of_ble_eq_true rfl) (Nat.le_of_ble_eq_true rfl) ?_
    exact W.iret (v := c8) hx hb hr (fun t ht hW9 => ⟨⟨c8, (L, f), rfl, ⟨_, hF, hI⟩, by rw [ht]; exact hP, va_K.moved hW9.alike hK, hD⟩, hS.F ht⟩) hS.2.2 dX4_sleeping_40
  · have n_7 : ¬ x_2 ≤ i := fun h9 => (show ¬ nI x_2 ≤ nI i from c_5) ((nI_leI (by omega) (by omega)).mpr h9)
    refine lv_aload_n hx hb dX4_sleeping_16 rfl (lv_at hl 0 rfl) ?_
    refine kp_get hx hb hts i_X4 hown hK hP hI hW.tm rfl rfl 31 (by decide) (by decide) (hts (.fieldLink RX4 87 "IslandSolverModel" "awake" "[Z") (by decide +kernel)) (fun _ h9 => h9) dX4_sleeping_17 (kq_RE 35 (by decide) fun x_8 h_9_e h_9 => ?_)
    refine lv_iload_n hx hb dX4_sleeping_20 rfl (lv_at hl 2 rfl) ?_
    have hj_10 : i < τ 3 x_8 := by rw [show τ 3 x_8 = 256 from (hI.arr h_9 rfl).2.1]; omega
    refine W.eq (g2 := F0 m 21 ls (.int (nI (i)) :: .ref x_8 :: [])) rfl ?_
    refine kp_zald (j := i) hx hb hK hP hI h_9 rfl hj_10 dX4_sleeping_21 (ka_Z fun x_11 h_12 => ?_)
    refine lv_if_eq (tgt := 29) hx hb dX4_sleeping_22 (by decide) (fun c_13 => ?_) (fun c_13 => ?_)
    · subst c_13
      refine lv_iload_n hx hb dX4_sleeping_29 rfl (lv_at hl 1 rfl) ?_
      refine lv_iconst (v := 1) hx hb dX4_sleeping_30 (by decide) ?_
      refine lv_iadd hx hb dX4_sleeping_31 ?_
      refine lv_topi (fun x_14 ex_14 => ?_)
      refine lv_istore_n (lv' := [(1, .int x_14), (0, .ref mm), (2, .int (nI i))]) hx hb dX4_sleeping_32 rfl hl (by decide) rfl (fun ls hl => ?_)
      refine lv_iinc (v := nI (i + 1)) (lv' := [(2, .int (nI (i + 1))), (1, .int x_14), (0, .ref mm)]) hx hb dX4_sleeping_33 hl (k := 2) rfl (nI_add i 1) (by decide) rfl (fun ls hl => ?_)
      refine lv_goto (tgt := 8) hx hb dX4_sleeping_36 (by decide) ?_
      have hl : lv_has ls 3 [(0, .ref mm), (1, .int x_14), (2, .int (nI (i + 1)))] := lv_sub hl [2, 1, 0] rfl
      exact ih8 (fun _ _ => .null) _ _ _ _ _ ⟨(i + 1), x_14, by omega, hI, hP, hD, hS, hl, by omega⟩
    · obtain rfl : x_11 = 1 := (h_12).resolve_left c_13
      refine lv_iload_n hx hb dX4_sleeping_25 rfl (lv_at hl 1 rfl) ?_
      refine lv_goto (tgt := 32) hx hb dX4_sleeping_26 (by decide) ?_
      refine lv_istore_n (lv' := [(1, .int c8), (0, .ref mm), (2, .int (nI i))]) hx hb dX4_sleeping_32 rfl hl (by decide) rfl (fun ls hl => ?_)
      refine lv_iinc (v := nI (i + 1)) (lv' := [(2, .int (nI (i + 1))), (1, .int c8), (0, .ref mm)]) hx hb dX4_sleeping_33 hl (k := 2) rfl (nI_add i 1) (by decide) rfl (fun ls hl => ?_)
      refine lv_goto (tgt := 8) hx hb dX4_sleeping_36 (by decide) ?_
      have hl : lv_has ls 3 [(0, .ref mm), (1, .int c8), (2, .int (nI (i + 1)))] := lv_sub hl [2, 1, 0] rfl
      exact ih8 (fun _ _ => .null) _ _ _ _ _ ⟨(i + 1), c8, by omega, hI, hP, hD, hS, hl, by omega⟩
