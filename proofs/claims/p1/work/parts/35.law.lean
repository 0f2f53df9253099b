set_option maxHeartbeats 8000000 in
set_option maxRecDepth 100000 in
theorem law_5 {p : Program} {l : Launch} {e : Env} {s : State} {m9 : MethodId} {below : List Frame} {meth : Method} {c : Code} {b : Nat} {xs : Nat → Int32} (hlt : l.stackTraces = false) (C0 : lw_At p s m9 meth c b 8 xs) {dC : Nat → ClassId} {dI : Nat → Nat → Nat} {ad : Nat} (hE : kx_E ad (fun q : Nat => s.heap.size ≤ q) s s.heap)
    (x lb lr lk pn pp pq wo re fr mm a2 a3 a4 a5 a7 a8 a9 a10 a11 a12 a13 a14 a15 a16 a17 a18 a20 a21 a29 a30 a31 o od : Nat) (cR ca2 ca3 ca4 ca5 cJ cD : ClassId) (H : Heap) (locs : List Loc) (ls : Array Slot) (hK : va_K (dC, dI) vwCl [(cR, .object "IslandSolver$Row"), (ca2, .float), (ca3, .boolean), (ca4, .int), (ca5, .float), (cJ, .long), (cD, .double)] s) (hP : va_P (dC, dI) vwCl [(x, .inr (4, [.ref lb, .ref lr, .ref lk, .ref pn, .ref pp, .ref pq, .int 8, .float FP.fconst1, .float 1031798784, .int 0, .int 1, .int 0, .int 0, .ref wo, .ref re, .ref fr])), (lb, .inr (0, [.int 0, .ref ad, .int 0])), (lr, .inr (0, [.int 0, .ref ad, .int 0])), (lk, .inr (0, [.int 0, .ref ad, .int 0])), (pn, .inr (3, [.float 0, .float 0, .float 0])), (pp, .inr (3, [.float 0, .float 0, .float 0])), (pq, .inr (3, [.float 0, .float 0, .float 0])), (fr, .inl (cR, 8, .inr (.inr (.inr (.inr (fun _ => none)))))), (mm, .inr (5, [.int 0, .int 0, .ref a2, .ref a3, .ref a4, .ref a5, .int 0, .ref a7, .ref a8, .ref a9, .ref a10, .ref a11, .ref a12, .ref a13, .ref a14, .ref a15, .ref a16, .ref a17, .ref a18, .int 0, .ref a20, .ref a21, .int 8, .float FP.fconst1, .float 1031798784, .int 0, .int 1, .int 0, .int 0, .ref a29, .ref a30, .ref a31, .float 0, .float 0, .float 0])), (a2, .inl (ca2, 3328, .inr (.inr (.inl (fun _ => 0))))), (a3, .inl (ca3, 256, .inl (fun _ => 0))), (a4, .inl (ca4, 256, .inl (fun _ => 0))), (a5, .inl (ca5, 9, .inr (.inr (.inl (fun _ => 0))))), (o, .inl (cJ, 1, .inr (.inl (fun _ => 0)))), (od, .inl (cD, 1, .inr (.inr (.inr (.inl (fun _ => 0))))))] H) (hD : va_D (fun q : Nat => s.heap.size ≤ q) [(x, .inr (4, [.ref lb, .ref lr, .ref lk, .ref pn, .ref pp, .ref pq, .int 8, .float FP.fconst1, .float 1031798784, .int 0, .int 1, .int 0, .int 0, .ref wo, .ref re, .ref fr])), (lb, .inr (0, [.int 0, .ref ad, .int 0])), (lr, .inr (0, [.int 0, .ref ad, .int 0])), (lk, .inr (0, [.int 0, .ref ad, .int 0])), (pn, .inr (3, [.float 0, .float 0, .float 0])), (pp, .inr (3, [.float 0, .float 0, .float 0])), (pq, .inr (3, [.float 0, .float 0, .float 0])), (fr, .inl (cR, 8, .inr (.inr (.inr (.inr (fun _ => none)))))), (mm, .inr (5, [.int 0, .int 0, .ref a2, .ref a3, .ref a4, .ref a5, .int 0, .ref a7, .ref a8, .ref a9, .ref a10, .ref a11, .ref a12, .ref a13, .ref a14, .ref a15, .ref a16, .ref a17, .ref a18, .int 0, .ref a20, .ref a21, .int 8, .float FP.fconst1, .float 1031798784, .int 0, .int 1, .int 0, .int 0, .ref a29, .ref a30, .ref a31, .float 0, .float 0, .float 0])), (a2, .inl (ca2, 3328, .inr (.inr (.inl (fun _ => 0))))), (a3, .inl (ca3, 256, .inl (fun _ => 0))), (a4, .inl (ca4, 256, .inl (fun _ => 0))), (a5, .inl (ca5, 9, .inr (.inr (.inl (fun _ => 0))))), (o, .inl (cJ, 1, .inr (.inl (fun _ => 0)))), (od, .inl (cD, 1, .inr (.inr (.inr (.inl (fun _ => 0))))))]) (hS : va_S (fun q : Nat => s.heap.size ≤ q) s.heap H locs) (hl : lv_has ls 10 [(5, .int 0), (4, .ref od), (3, .ref o), (2, .ref mm), (1, .ref x), (0, .ref b)]) :
    W p l e room_1 s m9 #[Value.ref b] below meth c H locs 34 27736 (lw_Z below #[Value.ref b] s) (F0 m9 699 ls []) := by
  obtain ⟨hx, hb, hr, hml, hown, hts, hX, hbl, hlocks, hgv⟩ := C0
  have hts := fun w h => hts w (wsL_law_in w h)
  have hown : s.vm.findClass RL = some m9.cls := hown
  have hA : ∀ q : Nat, s.heap.size ≤ q → (fun q : Nat => s.heap.size ≤ q) q := fun _ h => h
  have hbA : ¬ (fun q : Nat => s.heap.size ≤ q) b := Nat.not_le.mpr hbl
  generalize hAe : (fun q : Nat => s.heap.size ≤ q) = A at hE hD hS hA hbA
  refine lv_aload_n hx hb dL_law_699 rfl (lv_at hl 4 rfl) ?_
  refine lv_aload_n hx hb dL_law_700 rfl (lv_at hl 5 rfl) ?_
  refine lv_iload hx hb dL_law_701 (lv_at hl 0 rfl) ?_
  refine lv_iconst (v := 1) hx hb dL_law_703 (by decide) ?_
  refine lv_iadd hx hb dL_law_704 ?_
  refine lv_topi (fun x_1 ex_1 => ?_)
  obtain rfl : x_1 = 1 := by rw [ex_1]; decide
  refine va_sld hx hb hX hbl hbA hS (i := 1) (by unfold vp_in; decide) dL_law_705 ?_
  refine lv_aload_n hx hb dL_law_706 rfl (lv_at hl 5 rfl) ?_
  refine lv_iload hx hb dL_law_707 (lv_at hl 0 rfl) ?_
  refine lv_iconst (v := 2) hx hb dL_law_709 (by decide) ?_
  refine lv_iadd hx hb dL_law_710 ?_
  refine lv_topi (fun x_2 ex_2 => ?_)
  obtain rfl : x_2 = 2 := by rw [ex_2]; decide
  refine va_sld hx hb hX hbl hbA hS (i := 2) (by unfold vp_in; decide) dL_law_711 ?_
  refine lv_i2f hx hb dL_law_712 ?_
  refine lv_ldcf (v := 1040187392) hx hb hown (hts (.constantFloat RL 75 (1040187392)) (by decide +kernel)) dL_law_713 ?_
  refine lv_fmul hx hb dL_law_715 (kf_8 _) ?_
  refine lv_aload_n hx hb dL_law_716 rfl (lv_at hl 5 rfl) ?_
  refine lv_iload hx hb dL_law_717 (lv_at hl 0 rfl) ?_
  refine lv_iconst (v := 3) hx hb dL_law_719 (by decide) ?_
  refine lv_iadd hx hb dL_law_720 ?_
  refine lv_topi (fun x_3 ex_3 => ?_)
  obtain rfl : x_3 = 3 := by rw [ex_3]; decide
  refine va_sld hx hb hX hbl hbA hS (i := 3) (by unfold vp_in; decide) dL_law_721 ?_
  refine lv_i2f hx hb dL_law_722 ?_
  refine lv_ldcf (v := 1040187392) hx hb hown (hts (.constantFloat RL 75 (1040187392)) (by decide +kernel)) dL_law_723 ?_
  refine lv_fmul hx hb dL_law_725 (kf_8 _) ?_
  refine lv_aload_n hx hb dL_law_726 rfl (lv_at hl 5 rfl) ?_
  refine lv_iload hx hb dL_law_727 (lv_at hl 0 rfl) ?_
  refine lv_iconst (v := 4) hx hb dL_law_729 (by decide) ?_
  refine lv_iadd hx hb dL_law_730 ?_
  refine lv_topi (fun x_4 ex_4 => ?_)
  obtain rfl : x_4 = 4 := by rw [ex_4]; decide
  refine va_sld hx hb hX hbl hbA hS (i := 4) (by unfold vp_in; decide) dL_law_731 ?_
  refine lv_i2f hx hb dL_law_732 ?_
  refine lv_ldcf (v := 1040187392) hx hb hown (hts (.constantFloat RL 75 (1040187392)) (by decide +kernel)) dL_law_733 ?_
  refine lv_fmul hx hb dL_law_735 (kf_8 _) ?_
  refine kc_calli (wc := [(x, .inr (4, [.ref lb, .ref lr, .ref lk, .ref pn, .ref pp, .ref pq, .int 8, .float FP.fconst1, .float 1031798784, .int 0, .int 1, .int 0, .int 0, .ref wo, .ref re, .ref fr])), (pn, .inr (3, [.float 0, .float 0, .float 0])), (pp, .inr (3, [.float 0, .float 0, .float 0])), (pq, .inr (3, [.float 0, .float 0, .float 0]))]) (wr := [(lb, .inr (0, [.int 0, .ref ad, .int 0])), (lr, .inr (0, [.int 0, .ref ad, .int 0])), (lk, .inr (0, [.int 0, .ref ad, .int 0])), (fr, .inl (cR, 8, .inr (.inr (.inr (.inr (fun _ => none)))))), (mm, .inr (5, [.int 0, .int 0, .ref a2, .ref a3, .ref a4, .ref a5, .int 0, .ref a7, .ref a8, .ref a9, .ref a10, .ref a11, .ref a12, .ref a13, .ref a14, .ref a15, .ref a16, .ref a17, .ref a18, .int 0, .ref a20, .ref a21, .int 8, .float FP.fconst1, .float 1031798784, .int 0, .int 1, .int 0, .int 0, .ref a29, .ref a30, .ref a31, .float 0, .float 0, .float 0])), (a2, .inl (ca2, 3328, .inr (.inr (.inl (fun _ => 0))))), (a3, .inl (ca3, 256, .inl (fun _ => 0))), (a4, .inl (ca4, 256, .inl (fun _ => 0))), (a5, .inl (ca5, 9, .inr (.inr (.inl (fun _ => 0))))), (o, .inl (cJ, 1, .inr (.inl (fun _ => 0)))), (od, .inl (cD, 1, .inr (.inr (.inr (.inl (fun _ => 0))))))]) (tyr := [(cR, .object "IslandSolver$Row"), (ca2, .float), (ca3, .boolean), (ca4, .int), (ca5, .float), (cJ, .long), (cD, .double)]) (vx_runSW (As := [.ref x, .int (xs (1 : Int32).toNatClampNeg), .float (FP.fmul (FP.i2f (xs (2 : Int32).toNatClampNeg)) 1040187392), .float (FP.fmul (FP.i2f (xs (3 : Int32).toNatClampNeg)) 1040187392), .float (FP.fmul (FP.i2f (xs (4 : Int32).toNatClampNeg)) 1040187392)]) (rest := []) ⟨hx, hb, hml, hown, hts⟩ (w_vector l dC dI ad _ x lb lr lk pn pp pq 0 wo re fr (xs (1 : Int32).toNatClampNeg) (FP.fmul (FP.i2f (xs (2 : Int32).toNatClampNeg)) 1040187392) (FP.fmul (FP.i2f (xs (3 : Int32).toNatClampNeg)) 1040187392) (FP.fmul (FP.i2f (xs (4 : Int32).toNatClampNeg)) 1040187392) hlt) (vx_cwSW 5 hts gL_law_L_vector rfl rfl rfl (by decide +kernel) ⟨Nat.le_of_ble_eq_true rfl, Nat.le_of_ble_eq_true rfl⟩) (kc_preS hP hD hK hS hA hE [0, 4, 5, 6] rfl (by decide) [] rfl) rfl rfl hl.1 rfl (lv_room (Nat.le_of_ble_eq_true rfl)) dL_law_736 ⟨Nat.le_of_ble_eq_true rfl, Nat.le_of_ble_eq_true rfl⟩) hP hD hK hS hA [0, 4, 5, 6] [1, 2, 3, 7, 8, 9, 10, 11, 12, 13, 14] rfl rfl (by decide) (by decide) [0, 1, 2, 3, 4, 5, 6] rfl (fun r_5 u H locs hw hP hD hK hS => ?_)
  have hP : va_P (dC, dI) vwCl [(lb, .inr (0, [.int 0, .ref ad, .int 0])), (lr, .inr (0, [.int 0, .ref ad, .int 0])), (lk, .inr (0, [.int 0, .ref ad, .int 0])), (fr, .inl (cR, 8, .inr (.inr (.inr (.inr (fun _ => none)))))), (mm, .inr (5, [.int 0, .int 0, .ref a2, .ref a3, .ref a4, .ref a5, .int 0, .ref a7, .ref a8, .ref a9, .ref a10, .ref a11, .ref a12, .ref a13, .ref a14, .ref a15, .ref a16, .ref a17, .ref a18, .int 0, .ref a20, .ref a21, .int 8, .float FP.fconst1, .float 1031798784, .int 0, .int 1, .int 0, .int 0, .ref a29, .ref a30, .ref a31, .float 0, .float 0, .float 0])), (a2, .inl (ca2, 3328, .inr (.inr (.inl (fun _ => 0))))), (a3, .inl (ca3, 256, .inl (fun _ => 0))), (a4, .inl (ca4, 256, .inl (fun _ => 0))), (a5, .inl (ca5, 9, .inr (.inr (.inl (fun _ => 0))))), (o, .inl (cJ, 1, .inr (.inl (fun _ => 0)))), (od, .inl (cD, 1, .inr (.inr (.inr (.inl (fun _ => 0))))))] H := hP
  have hD : va_D A [(lb, .inr (0, [.int 0, .ref ad, .int 0])), (lr, .inr (0, [.int 0, .ref ad, .int 0])), (lk, .inr (0, [.int 0, .ref ad, .int 0])), (fr, .inl (cR, 8, .inr (.inr (.inr (.inr (fun _ => none)))))), (mm, .inr (5, [.int 0, .int 0, .ref a2, .ref a3, .ref a4, .ref a5, .int 0, .ref a7, .ref a8, .ref a9, .ref a10, .ref a11, .ref a12, .ref a13, .ref a14, .ref a15, .ref a16, .ref a17, .ref a18, .int 0, .ref a20, .ref a21, .int 8, .float FP.fconst1, .float 1031798784, .int 0, .int 1, .int 0, .int 0, .ref a29, .ref a30, .ref a31, .float 0, .float 0, .float 0])), (a2, .inl (ca2, 3328, .inr (.inr (.inl (fun _ => 0))))), (a3, .inl (ca3, 256, .inl (fun _ => 0))), (a4, .inl (ca4, 256, .inl (fun _ => 0))), (a5, .inl (ca5, 9, .inr (.inr (.inl (fun _ => 0))))), (o, .inl (cJ, 1, .inr (.inl (fun _ => 0)))), (od, .inl (cD, 1, .inr (.inr (.inr (.inl (fun _ => 0))))))] := hD
  have hK : va_K (dC, dI) vwCl [(cR, .object "IslandSolver$Row"), (ca2, .float), (ca3, .boolean), (ca4, .int), (ca5, .float), (cJ, .long), (cD, .double)] s := hK.sub [0, 1, 2, 3, 4, 5, 6] rfl
  rcases hw with ⟨k_6, rfl⟩ | ⟨k_7, rfl⟩ | ⟨k_8, rfl⟩
  · refine lv_istore (lv' := [(6, .int 0), (5, .int 0), (4, .ref od), (3, .ref o), (2, .ref mm), (1, .ref x), (0, .ref b)]) hx hb dL_law_739 hl (by decide) rfl (fun ls hl => ?_)
    refine lv_aload_n hx hb dL_law_741 rfl (lv_at hl 4 rfl) ?_
    refine lv_aload_n hx hb dL_law_742 rfl (lv_at hl 6 rfl) ?_
    refine lv_iload hx hb dL_law_743 (lv_at hl 1 rfl) ?_
    refine lv_iconst (v := 1) hx hb dL_law_745 (by decide) ?_
    refine lv_iadd hx hb dL_law_746 ?_
    refine lv_topi (fun x_9 ex_9 => ?_)
    obtain rfl : x_9 = 1 := by rw [ex_9]; decide
    refine va_sld hx hb hX hbl hbA hS (i := 1) (by unfold vp_in; decide) dL_law_747 ?_
    refine lv_aload_n hx hb dL_law_748 rfl (lv_at hl 6 rfl) ?_
    refine lv_iload hx hb dL_law_749 (lv_at hl 1 rfl) ?_
    refine lv_iconst (v := 2) hx hb dL_law_751 (by decide) ?_
    refine lv_iadd hx hb dL_law_752 ?_
    refine lv_topi (fun x_10 ex_10 => ?_)
    obtain rfl : x_10 = 2 := by rw [ex_10]; decide
    refine va_sld hx hb hX hbl hbA hS (i := 2) (by unfold vp_in; decide) dL_law_753 ?_
    refine lv_i2f hx hb dL_law_754 ?_
    refine lv_ldcf (v := 1040187392) hx hb hown (hts (.constantFloat RL 75 (1040187392)) (by decide +kernel)) dL_law_755 ?_
    refine lv_fmul hx hb dL_law_757 (kf_8 _) ?_
    refine lv_aload_n hx hb dL_law_758 rfl (lv_at hl 6 rfl) ?_
    refine lv_iload hx hb dL_law_759 (lv_at hl 1 rfl) ?_
    refine lv_iconst (v := 3) hx hb dL_law_761 (by decide) ?_
    refine lv_iadd hx hb dL_law_762 ?_
    refine lv_topi (fun x_11 ex_11 => ?_)
    obtain rfl : x_11 = 3 := by rw [ex_11]; decide
    refine va_sld hx hb hX hbl hbA hS (i := 3) (by unfold vp_in; decide) dL_law_763 ?_
    refine lv_i2f hx hb dL_law_764 ?_
    refine lv_ldcf (v := 1040187392) hx hb hown (hts (.constantFloat RL 75 (1040187392)) (by decide +kernel)) dL_law_765 ?_
    refine lv_fmul hx hb dL_law_767 (kf_8 _) ?_
    refine lv_aload_n hx hb dL_law_768 rfl (lv_at hl 6 rfl) ?_
    refine lv_iload hx hb dL_law_769 (lv_at hl 1 rfl) ?_
    refine lv_iconst (v := 4) hx hb dL_law_771 (by decide) ?_
    refine lv_iadd hx hb dL_law_772 ?_
    refine lv_topi (fun x_12 ex_12 => ?_)
    obtain rfl : x_12 = 4 := by rw [ex_12]; decide
    refine va_sld hx hb hX hbl hbA hS (i := 4) (by unfold vp_in; decide) dL_law_773 ?_
    refine lv_i2f hx hb dL_law_774 ?_
    refine lv_ldcf (v := 1040187392) hx hb hown (hts (.constantFloat RL 75 (1040187392)) (by decide +kernel)) dL_law_775 ?_
    refine lv_fmul hx hb dL_law_777 (kf_8 _) ?_
    refine kc_callv (wc := [(mm, .inr (5, [.int 0, .int 0, .ref a2, .ref a3, .ref a4, .ref a5, .int 0, .ref a7, .ref a8, .ref a9, .ref a10, .ref a11, .ref a12, .ref a13, .ref a14, .ref a15, .ref a16, .ref a17, .ref a18, .int 0, .ref a20, .ref a21, .int 8, .float FP.fconst1, .float 1031798784, .int 0, .int 1, .int 0, .int 0, .ref a29, .ref a30, .ref a31, .float 0, .float 0, .float 0])), (a5, .inl (ca5, 9, .inr (.inr (.inl (fun _ => 0)))))]) (wr := [(lb, .inr (0, [.int 0, .ref ad, .int 0])), (lr, .inr (0, [.int 0, .ref ad, .int 0])), (lk, .inr (0, [.int 0, .ref ad, .int 0])), (fr, .inl (cR, 8, .inr (.inr (.inr (.inr (fun _ => none)))))), (a2, .inl (ca2, 3328, .inr (.inr (.inl (fun _ => 0))))), (a3, .inl (ca3, 256, .inl (fun _ => 0))), (a4, .inl (ca4, 256, .inl (fun _ => 0))), (o, .inl (cJ, 1, .inr (.inl (fun _ => 0)))), (od, .inl (cD, 1, .inr (.inr (.inr (.inl (fun _ => 0))))))]) (tyr := [(cR, .object "IslandSolver$Row"), (ca2, .float), (ca3, .boolean), (ca4, .int), (ca5, .float), (cJ, .long), (cD, .double)]) (va_runV (As := [.int (xs (1 : Int32).toNatClampNeg), .float (FP.fmul (FP.i2f (xs (2 : Int32).toNatClampNeg)) 1040187392), .float (FP.fmul (FP.i2f (xs (3 : Int32).toNatClampNeg)) 1040187392), .float (FP.fmul (FP.i2f (xs (4 : Int32).toNatClampNeg)) 1040187392)]) (rest := []) ⟨hx, hb, hml, hown, hts⟩ (m_vector l dC dI ad _ mm 0 a2 a3 a4 a5 a7 a8 a9 a10 a11 a12 a13 a14 a15 a16 a17 a18 a20 a21 0 a29 a30 a31 0 0 0 ca5 (fun _ => 0) (xs (1 : Int32).toNatClampNeg) (FP.fmul (FP.i2f (xs (2 : Int32).toNatClampNeg)) 1040187392) (FP.fmul (FP.i2f (xs (3 : Int32).toNatClampNeg)) 1040187392) (FP.fmul (FP.i2f (xs (4 : Int32).toNatClampNeg)) 1040187392)) (cwV 4 hts gL_law_X4_vector rfl rfl rfl (by decide +kernel) ⟨Nat.le_of_ble_eq_true rfl, Nat.le_of_ble_eq_true rfl⟩) (kc_preV hP hD hK hS hA hE [4, 8] rfl (by decide) [4] rfl 4 rfl rfl) rfl rfl hl.1 rfl (lv_room (Nat.le_of_ble_eq_true rfl)) dL_law_778 ⟨Nat.le_of_ble_eq_true rfl, Nat.le_of_ble_eq_true rfl⟩) hP hD hK hS hA [4, 8] [0, 1, 2, 3, 5, 6, 7, 9, 10] rfl rfl (by decide) (by decide) [0, 1, 2, 3, 4, 5, 6] rfl (fun u H locs hw hP hD hK hS => ?_)
    obtain ⟨fs_13, rfl⟩ : ∃ z, z = u := ⟨_, rfl⟩
    have hP : va_P (dC, dI) vwCl [(lb, .inr (0, [.int 0, .ref ad, .int 0])), (lr, .inr (0, [.int 0, .ref ad, .int 0])), (lk, .inr (0, [.int 0, .ref ad, .int 0])), (fr, .inl (cR, 8, .inr (.inr (.inr (.inr (fun _ => none)))))), (a2, .inl (ca2, 3328, .inr (.inr (.inl (fun _ => 0))))), (a3, .inl (ca3, 256, .inl (fun _ => 0))), (a4, .inl (ca4, 256, .inl (fun _ => 0))), (o, .inl (cJ, 1, .inr (.inl (fun _ => 0)))), (od, .inl (cD, 1, .inr (.inr (.inr (.inl (fun _ => 0)))))), (mm, .inr (5, fs_13))] H := hP
    have hD : va_D A [(lb, .inr (0, [.int 0, .ref ad, .int 0])), (lr, .inr (0, [.int 0, .ref ad, .int 0])), (lk, .inr (0, [.int 0, .ref ad, .int 0])), (fr, .inl (cR, 8, .inr (.inr (.inr (.inr (fun _ => none)))))), (a2, .inl (ca2, 3328, .inr (.inr (.inl (fun _ => 0))))), (a3, .inl (ca3, 256, .inl (fun _ => 0))), (a4, .inl (ca4, 256, .inl (fun _ => 0))), (o, .inl (cJ, 1, .inr (.inl (fun _ => 0)))), (od, .inl (cD, 1, .inr (.inr (.inr (.inl (fun _ => 0)))))), (mm, .inr (5, fs_13))] := hD
    have hK : va_K (dC, dI) vwCl [(cR, .object "IslandSolver$Row"), (ca2, .float), (ca3, .boolean), (ca4, .int), (ca5, .float), (cJ, .long), (cD, .double)] s := hK.sub [0, 1, 2, 3, 4, 5, 6] rfl
    rcases hw with ⟨k_15, hf_14⟩ | ⟨k_16, hf_14⟩ | ⟨k_17, hf_14⟩
    · refine lv_aload_n hx hb dL_law_781 rfl (lv_at hl 4 rfl) ?_
      refine kc_calli (wc := [(mm, .inr (5, fs_13))]) (wr := [(lb, .inr (0, [.int 0, .ref ad, .int 0])), (lr, .inr (0, [.int 0, .ref ad, .int 0])), (lk, .inr (0, [.int 0, .ref ad, .int 0])), (fr, .inl (cR, 8, .inr (.inr (.inr (.inr (fun _ => none)))))), (a2, .inl (ca2, 3328, .inr (.inr (.inl (fun _ => 0))))), (a3, .inl (ca3, 256, .inl (fun _ => 0))), (a4, .inl (ca4, 256, .inl (fun _ => 0))), (o, .inl (cJ, 1, .inr (.inl (fun _ => 0)))), (od, .inl (cD, 1, .inr (.inr (.inr (.inl (fun _ => 0))))))]) (tyr := [(cR, .object "IslandSolver$Row"), (ca2, .float), (ca3, .boolean), (ca4, .int), (ca5, .float), (cJ, .long), (cD, .double)]) (va_runV (As := []) (rest := []) ⟨hx, hb, hml, hown, hts⟩ (c_thrown l dC dI ad _ mm fs_13 0 hf_14) (cwV 0 hts gL_law_X4_thrown rfl rfl rfl (by decide +kernel) ⟨Nat.le_of_ble_eq_true rfl, Nat.le_of_ble_eq_true rfl⟩) (kc_preV hP hD hK hS hA hE [9] rfl (by decide) [] rfl 9 rfl rfl) rfl rfl hl.1 rfl (lv_room (Nat.le_of_ble_eq_true rfl)) dL_law_782 ⟨Nat.le_of_ble_eq_true rfl, Nat.le_of_ble_eq_true rfl⟩) hP hD hK hS hA [9] [0, 1, 2, 3, 4, 5, 6, 7, 8] rfl rfl (by decide) (by decide) [0, 1, 2, 3, 4, 5, 6] rfl (fun r_18 u H locs hw hP hD hK hS => ?_)
      subst hw
      have hP : va_P (dC, dI) vwCl [(lb, .inr (0, [.int 0, .ref ad, .int 0])), (lr, .inr (0, [.int 0, .ref ad, .int 0])), (lk, .inr (0, [.int 0, .ref ad, .int 0])), (fr, .inl (cR, 8, .inr (.inr (.inr (.inr (fun _ => none)))))), (a2, .inl (ca2, 3328, .inr (.inr (.inl (fun _ => 0))))), (a3, .inl (ca3, 256, .inl (fun _ => 0))), (a4, .inl (ca4, 256, .inl (fun _ => 0))), (o, .inl (cJ, 1, .inr (.inl (fun _ => 0)))), (od, .inl (cD, 1, .inr (.inr (.inr (.inl (fun _ => 0)))))), (mm, .inr (5, fs_13))] H := hP
      have hD : va_D A [(lb, .inr (0, [.int 0, .ref ad, .int 0])), (lr, .inr (0, [.int 0, .ref ad, .int 0])), (lk, .inr (0, [.int 0, .ref ad, .int 0])), (fr, .inl (cR, 8, .inr (.inr (.inr (.inr (fun _ => none)))))), (a2, .inl (ca2, 3328, .inr (.inr (.inl (fun _ => 0))))), (a3, .inl (ca3, 256, .inl (fun _ => 0))), (a4, .inl (ca4, 256, .inl (fun _ => 0))), (o, .inl (cJ, 1, .inr (.inl (fun _ => 0)))), (od, .inl (cD, 1, .inr (.inr (.inr (.inl (fun _ => 0)))))), (mm, .inr (5, fs_13))] := hD
      have hK : va_K (dC, dI) vwCl [(cR, .object "IslandSolver$Row"), (ca2, .float), (ca3, .boolean), (ca4, .int), (ca5, .float), (cJ, .long), (cD, .double)] s := hK.sub [0, 1, 2, 3, 4, 5, 6] rfl
      refine lv_iload hx hb dL_law_785 (lv_at hl 0 rfl) ?_
      refine lv_icmp_eq (tgt := 792) hx hb dL_law_787 (by decide) (fun _ => ?_) (fun h9 => absurd h9 (by decide))
      refine lv_goto (tgt := 1653) hx hb dL_law_792 (by decide) ?_
      refine lv_iinc (v := 8) (lv' := [(5, .int 8), (6, .int 0), (4, .ref od), (3, .ref o), (2, .ref mm), (1, .ref x), (0, .ref b)]) hx hb dL_law_1653 hl (k := 1) rfl (by decide) (by decide) rfl (fun ls hl => ?_)
      refine lv_goto (tgt := 28) hx hb dL_law_1656 (by decide) ?_
      refine lv_iload hx hb dL_law_28 (lv_at hl 0 rfl) ?_
      refine lv_aload_n hx hb dL_law_30 rfl (lv_at hl 6 rfl) ?_
      refine va_slen hx hb hX hbl hbA hS dL_law_31 ?_
      refine W.eq (g2 := F0 m9 32 ls [.int 8, .int 8]) rfl ?_
      refine lv_bipush (v := 8) hx hb dL_law_32 (by decide) ?_
      refine lv_isub hx hb dL_law_34 ?_
      refine lv_topi (fun x_19 ex_19 => ?_)
      obtain rfl : x_19 = 0 := by rw [ex_19]; decide
      refine lv_icmp_gt (tgt := 1659) hx hb dL_law_35 (by decide) (fun _ => ?_) (fun h9 => absurd h9 (by decide))
      refine lv_iconst (v := 1) hx hb dL_law_1659 (by decide) ?_
      refine va_forget (fun q hq => by have h9 := hS.2.2 q hq; rw [← hAe] at h9; exact h9) ?_
      refine W.widen (k := 600002) (n := 7302232) (Nat.le_of_ble_eq_true rfl) (Nat.le_of_ble_eq_true rfl) ?_
      exact lw_ret hx hb hr hlocks dL_law_1660
    · exact absurd (k_6.symm.trans k_16) (by decide)
    · exact absurd (k_6.symm.trans k_17) (by decide)
  · refine lv_istore (lv' := [(6, .int 1), (5, .int 0), (4, .ref od), (3, .ref o), (2, .ref mm), (1, .ref x), (0, .ref b)]) hx hb dL_law_739 hl (by decide) rfl (fun ls hl => ?_)
    refine lv_aload_n hx hb dL_law_741 rfl (lv_at hl 4 rfl) ?_
    refine lv_aload_n hx hb dL_law_742 rfl (lv_at hl 6 rfl) ?_
    refine lv_iload hx hb dL_law_743 (lv_at hl 1 rfl) ?_
    refine lv_iconst (v := 1) hx hb dL_law_745 (by decide) ?_
    refine lv_iadd hx hb dL_law_746 ?_
    refine lv_topi (fun x_20 ex_20 => ?_)
    obtain rfl : x_20 = 1 := by rw [ex_20]; decide
    refine va_sld hx hb hX hbl hbA hS (i := 1) (by unfold vp_in; decide) dL_law_747 ?_
    refine lv_aload_n hx hb dL_law_748 rfl (lv_at hl 6 rfl) ?_
    refine lv_iload hx hb dL_law_749 (lv_at hl 1 rfl) ?_
    refine lv_iconst (v := 2) hx hb dL_law_751 (by decide) ?_
    refine lv_iadd hx hb dL_law_752 ?_
    refine lv_topi (fun x_21 ex_21 => ?_)
    obtain rfl : x_21 = 2 := by rw [ex_21]; decide
    refine va_sld hx hb hX hbl hbA hS (i := 2) (by unfold vp_in; decide) dL_law_753 ?_
    refine lv_i2f hx hb dL_law_754 ?_
    refine lv_ldcf (v := 1040187392) hx hb hown (hts (.constantFloat RL 75 (1040187392)) (by decide +kernel)) dL_law_755 ?_
    refine lv_fmul hx hb dL_law_757 (kf_8 _) ?_
    refine lv_aload_n hx hb dL_law_758 rfl (lv_at hl 6 rfl) ?_
    refine lv_iload hx hb dL_law_759 (lv_at hl 1 rfl) ?_
    refine lv_iconst (v := 3) hx hb dL_law_761 (by decide) ?_
    refine lv_iadd hx hb dL_law_762 ?_
    refine lv_topi (fun x_22 ex_22 => ?_)
    obtain rfl : x_22 = 3 := by rw [ex_22]; decide
    refine va_sld hx hb hX hbl hbA hS (i := 3) (by unfold vp_in; decide) dL_law_763 ?_
    refine lv_i2f hx hb dL_law_764 ?_
    refine lv_ldcf (v := 1040187392) hx hb hown (hts (.constantFloat RL 75 (1040187392)) (by decide +kernel)) dL_law_765 ?_
    refine lv_fmul hx hb dL_law_767 (kf_8 _) ?_
    refine lv_aload_n hx hb dL_law_768 rfl (lv_at hl 6 rfl) ?_
    refine lv_iload hx hb dL_law_769 (lv_at hl 1 rfl) ?_
    refine lv_iconst (v := 4) hx hb dL_law_771 (by decide) ?_
    refine lv_iadd hx hb dL_law_772 ?_
    refine lv_topi (fun x_23 ex_23 => ?_)
    obtain rfl : x_23 = 4 := by rw [ex_23]; decide
    refine va_sld hx hb hX hbl hbA hS (i := 4) (by unfold vp_in; decide) dL_law_773 ?_
    refine lv_i2f hx hb dL_law_774 ?_
    refine lv_ldcf (v := 1040187392) hx hb hown (hts (.constantFloat RL 75 (1040187392)) (by decide +kernel)) dL_law_775 ?_
    refine lv_fmul hx hb dL_law_777 (kf_8 _) ?_
    refine kc_callv (wc := [(mm, .inr (5, [.int 0, .int 0, .ref a2, .ref a3, .ref a4, .ref a5, .int 0, .ref a7, .ref a8, .ref a9, .ref a10, .ref a11, .ref a12, .ref a13, .ref a14, .ref a15, .ref a16, .ref a17, .ref a18, .int 0, .ref a20, .ref a21, .int 8, .float FP.fconst1, .float 1031798784, .int 0, .int 1, .int 0, .int 0, .ref a29, .ref a30, .ref a31, .float 0, .float 0, .float 0])), (a5, .inl (ca5, 9, .inr (.inr (.inl (fun _ => 0)))))]) (wr := [(lb, .inr (0, [.int 0, .ref ad, .int 0])), (lr, .inr (0, [.int 0, .ref ad, .int 0])), (lk, .inr (0, [.int 0, .ref ad, .int 0])), (fr, .inl (cR, 8, .inr (.inr (.inr (.inr (fun _ => none)))))), (a2, .inl (ca2, 3328, .inr (.inr (.inl (fun _ => 0))))), (a3, .inl (ca3, 256, .inl (fun _ => 0))), (a4, .inl (ca4, 256, .inl (fun _ => 0))), (o, .inl (cJ, 1, .inr (.inl (fun _ => 0)))), (od, .inl (cD, 1, .inr (.inr (.inr (.inl (fun _ => 0))))))]) (tyr := [(cR, .object "IslandSolver$Row"), (ca2, .float), (ca3, .boolean), (ca4, .int), (ca5, .float), (cJ, .long), (cD, .double)]) (va_runV (As := [.int (xs (1 : Int32).toNatClampNeg), .float (FP.fmul (FP.i2f (xs (2 : Int32).toNatClampNeg)) 1040187392), .float (FP.fmul (FP.i2f (xs (3 : Int32).toNatClampNeg)) 1040187392), .float (FP.fmul (FP.i2f (xs (4 : Int32).toNatClampNeg)) 1040187392)]) (rest := []) ⟨hx, hb, hml, hown, hts⟩ (m_vector l dC dI ad _ mm 0 a2 a3 a4 a5 a7 a8 a9 a10 a11 a12 a13 a14 a15 a16 a17 a18 a20 a21 0 a29 a30 a31 0 0 0 ca5 (fun _ => 0) (xs (1 : Int32).toNatClampNeg) (FP.fmul (FP.i2f (xs (2 : Int32).toNatClampNeg)) 1040187392) (FP.fmul (FP.i2f (xs (3 : Int32).toNatClampNeg)) 1040187392) (FP.fmul (FP.i2f (xs (4 : Int32).toNatClampNeg)) 1040187392)) (cwV 4 hts gL_law_X4_vector rfl rfl rfl (by decide +kernel) ⟨Nat.le_of_ble_eq_true rfl, Nat.le_of_ble_eq_true rfl⟩) (kc_preV hP hD hK hS hA hE [4, 8] rfl (by decide) [4] rfl 4 rfl rfl) rfl rfl hl.1 rfl (lv_room (Nat.le_of_ble_eq_true rfl)) dL_law_778 ⟨Nat.le_of_ble_eq_true rfl, Nat.le_of_ble_eq_true rfl⟩) hP hD hK hS hA [4, 8] [0, 1, 2, 3, 5, 6, 7, 9, 10] rfl rfl (by decide) (by decide) [0, 1, 2, 3, 4, 5, 6] rfl (fun u H locs hw hP hD hK hS => ?_)
    obtain ⟨fs_24, rfl⟩ : ∃ z, z = u := ⟨_, rfl⟩
    have hP : va_P (dC, dI) vwCl [(lb, .inr (0, [.int 0, .ref ad, .int 0])), (lr, .inr (0, [.int 0, .ref ad, .int 0])), (lk, .inr (0, [.int 0, .ref ad, .int 0])), (fr, .inl (cR, 8, .inr (.inr (.inr (.inr (fun _ => none)))))), (a2, .inl (ca2, 3328, .inr (.inr (.inl (fun _ => 0))))), (a3, .inl (ca3, 256, .inl (fun _ => 0))), (a4, .inl (ca4, 256, .inl (fun _ => 0))), (o, .inl (cJ, 1, .inr (.inl (fun _ => 0)))), (od, .inl (cD, 1, .inr (.inr (.inr (.inl (fun _ => 0)))))), (mm, .inr (5, fs_24))] H := hP
    have hD : va_D A [(lb, .inr (0, [.int 0, .ref ad, .int 0])), (lr, .inr (0, [.int 0, .ref ad, .int 0])), (lk, .inr (0, [.int 0, .ref ad, .int 0])), (fr, .inl (cR, 8, .inr (.inr (.inr (.inr (fun _ => none)))))), (a2, .inl (ca2, 3328, .inr (.inr (.inl (fun _ => 0))))), (a3, .inl (ca3, 256, .inl (fun _ => 0))), (a4, .inl (ca4, 256, .inl (fun _ => 0))), (o, .inl (cJ, 1, .inr (.inl (fun _ => 0)))), (od, .inl (cD, 1, .inr (.inr (.inr (.inl (fun _ => 0)))))), (mm, .inr (5, fs_24))] := hD
    have hK : va_K (dC, dI) vwCl [(cR, .object "IslandSolver$Row"), (ca2, .float), (ca3, .boolean), (ca4, .int), (ca5, .float), (cJ, .long), (cD, .double)] s := hK.sub [0, 1, 2, 3, 4, 5, 6] rfl
    rcases hw with ⟨k_26, hf_25⟩ | ⟨k_27, hf_25⟩ | ⟨k_28, hf_25⟩
    · exact absurd (k_7.symm.trans k_26) (by decide)
    · refine lv_aload_n hx hb dL_law_781 rfl (lv_at hl 4 rfl) ?_
      refine kc_calli (wc := [(mm, .inr (5, fs_24))]) (wr := [(lb, .inr (0, [.int 0, .ref ad, .int 0])), (lr, .inr (0, [.int 0, .ref ad, .int 0])), (lk, .inr (0, [.int 0, .ref ad, .int 0])), (fr, .inl (cR, 8, .inr (.inr (.inr (.inr (fun _ => none)))))), (a2, .inl (ca2, 3328, .inr (.inr (.inl (fun _ => 0))))), (a3, .inl (ca3, 256, .inl (fun _ => 0))), (a4, .inl (ca4, 256, .inl (fun _ => 0))), (o, .inl (cJ, 1, .inr (.inl (fun _ => 0)))), (od, .inl (cD, 1, .inr (.inr (.inr (.inl (fun _ => 0))))))]) (tyr := [(cR, .object "IslandSolver$Row"), (ca2, .float), (ca3, .boolean), (ca4, .int), (ca5, .float), (cJ, .long), (cD, .double)]) (va_runV (As := []) (rest := []) ⟨hx, hb, hml, hown, hts⟩ (c_thrown l dC dI ad _ mm fs_24 1 hf_25) (cwV 0 hts gL_law_X4_thrown rfl rfl rfl (by decide +kernel) ⟨Nat.le_of_ble_eq_true rfl, Nat.le_of_ble_eq_true rfl⟩) (kc_preV hP hD hK hS hA hE [9] rfl (by decide) [] rfl 9 rfl rfl) rfl rfl hl.1 rfl (lv_room (Nat.le_of_ble_eq_true rfl)) dL_law_782 ⟨Nat.le_of_ble_eq_true rfl, Nat.le_of_ble_eq_true rfl⟩) hP hD hK hS hA [9] [0, 1, 2, 3, 4, 5, 6, 7, 8] rfl rfl (by decide) (by decide) [0, 1, 2, 3, 4, 5, 6] rfl (fun r_29 u H locs hw hP hD hK hS => ?_)
      subst hw
      have hP : va_P (dC, dI) vwCl [(lb, .inr (0, [.int 0, .ref ad, .int 0])), (lr, .inr (0, [.int 0, .ref ad, .int 0])), (lk, .inr (0, [.int 0, .ref ad, .int 0])), (fr, .inl (cR, 8, .inr (.inr (.inr (.inr (fun _ => none)))))), (a2, .inl (ca2, 3328, .inr (.inr (.inl (fun _ => 0))))), (a3, .inl (ca3, 256, .inl (fun _ => 0))), (a4, .inl (ca4, 256, .inl (fun _ => 0))), (o, .inl (cJ, 1, .inr (.inl (fun _ => 0)))), (od, .inl (cD, 1, .inr (.inr (.inr (.inl (fun _ => 0)))))), (mm, .inr (5, fs_24))] H := hP
      have hD : va_D A [(lb, .inr (0, [.int 0, .ref ad, .int 0])), (lr, .inr (0, [.int 0, .ref ad, .int 0])), (lk, .inr (0, [.int 0, .ref ad, .int 0])), (fr, .inl (cR, 8, .inr (.inr (.inr (.inr (fun _ => none)))))), (a2, .inl (ca2, 3328, .inr (.inr (.inl (fun _ => 0))))), (a3, .inl (ca3, 256, .inl (fun _ => 0))), (a4, .inl (ca4, 256, .inl (fun _ => 0))), (o, .inl (cJ, 1, .inr (.inl (fun _ => 0)))), (od, .inl (cD, 1, .inr (.inr (.inr (.inl (fun _ => 0)))))), (mm, .inr (5, fs_24))] := hD
      have hK : va_K (dC, dI) vwCl [(cR, .object "IslandSolver$Row"), (ca2, .float), (ca3, .boolean), (ca4, .int), (ca5, .float), (cJ, .long), (cD, .double)] s := hK.sub [0, 1, 2, 3, 4, 5, 6] rfl
      refine lv_iload hx hb dL_law_785 (lv_at hl 0 rfl) ?_
      refine lv_icmp_eq (tgt := 792) hx hb dL_law_787 (by decide) (fun _ => ?_) (fun h9 => absurd h9 (by decide))
      refine lv_goto (tgt := 1653) hx hb dL_law_792 (by decide) ?_
      refine lv_iinc (v := 8) (lv' := [(5, .int 8), (6, .int 1), (4, .ref od), (3, .ref o), (2, .ref mm), (1, .ref x), (0, .ref b)]) hx hb dL_law_1653 hl (k := 1) rfl (by decide) (by decide) rfl (fun ls hl => ?_)
      refine lv_goto (tgt := 28) hx hb dL_law_1656 (by decide) ?_
      refine lv_iload hx hb dL_law_28 (lv_at hl 0 rfl) ?_
      refine lv_aload_n hx hb dL_law_30 rfl (lv_at hl 6 rfl) ?_
      refine va_slen hx hb hX hbl hbA hS dL_law_31 ?_
      refine W.eq (g2 := F0 m9 32 ls [.int 8, .int 8]) rfl ?_
      refine lv_bipush (v := 8) hx hb dL_law_32 (by decide) ?_
      refine lv_isub hx hb dL_law_34 ?_
      refine lv_topi (fun x_30 ex_30 => ?_)
      obtain rfl : x_30 = 0 := by rw [ex_30]; decide
      refine lv_icmp_gt (tgt := 1659) hx hb dL_law_35 (by decide) (fun _ => ?_) (fun h9 => absurd h9 (by decide))
      refine lv_iconst (v := 1) hx hb dL_law_1659 (by decide) ?_
      refine va_forget (fun q hq => by have h9 := hS.2.2 q hq; rw [← hAe] at h9; exact h9) ?_
      refine W.widen (k := 600002) (n := 7302232) (Nat.le_of_ble_eq_true rfl) (Nat.le_of_ble_eq_true rfl) ?_
      exact lw_ret hx hb hr hlocks dL_law_1660
    · exact absurd (k_7.symm.trans k_28) (by decide)
  · refine lv_istore (lv' := [(6, .int 2), (5, .int 0), (4, .ref od), (3, .ref o), (2, .ref mm), (1, .ref x), (0, .ref b)]) hx hb dL_law_739 hl (by decide) rfl (fun ls hl => ?_)
    refine lv_aload_n hx hb dL_law_741 rfl (lv_at hl 4 rfl) ?_
    refine lv_aload_n hx hb dL_law_742 rfl (lv_at hl 6 rfl) ?_
    refine lv_iload hx hb dL_law_743 (lv_at hl 1 rfl) ?_
    refine lv_iconst (v := 1) hx hb dL_law_745 (by decide) ?_
    refine lv_iadd hx hb dL_law_746 ?_
    refine lv_topi (fun x_31 ex_31 => ?_)
    obtain rfl : x_31 = 1 := by rw [ex_31]; decide
    refine va_sld hx hb hX hbl hbA hS (i := 1) (by unfold vp_in; decide) dL_law_747 ?_
    refine lv_aload_n hx hb dL_law_748 rfl (lv_at hl 6 rfl) ?_
    refine lv_iload hx hb dL_law_749 (lv_at hl 1 rfl) ?_
    refine lv_iconst (v := 2) hx hb dL_law_751 (by decide) ?_
    refine lv_iadd hx hb dL_law_752 ?_
    refine lv_topi (fun x_32 ex_32 => ?_)
    obtain rfl : x_32 = 2 := by rw [ex_32]; decide
    refine va_sld hx hb hX hbl hbA hS (i := 2) (by unfold vp_in; decide) dL_law_753 ?_
    refine lv_i2f hx hb dL_law_754 ?_
    refine lv_ldcf (v := 1040187392) hx hb hown (hts (.constantFloat RL 75 (1040187392)) (by decide +kernel)) dL_law_755 ?_
    refine lv_fmul hx hb dL_law_757 (kf_8 _) ?_
    refine lv_aload_n hx hb dL_law_758 rfl (lv_at hl 6 rfl) ?_
    refine lv_iload hx hb dL_law_759 (lv_at hl 1 rfl) ?_
    refine lv_iconst (v := 3) hx hb dL_law_761 (by decide) ?_
    refine lv_iadd hx hb dL_law_762 ?_
    refine lv_topi (fun x_33 ex_33 => ?_)
    obtain rfl : x_33 = 3 := by rw [ex_33]; decide
    refine va_sld hx hb hX hbl hbA hS (i := 3) (by unfold vp_in; decide) dL_law_763 ?_
    refine lv_i2f hx hb dL_law_764 ?_
    refine lv_ldcf (v := 1040187392) hx hb hown (hts (.constantFloat RL 75 (1040187392)) (by decide +kernel)) dL_law_765 ?_
    refine lv_fmul hx hb dL_law_767 (kf_8 _) ?_
    refine lv_aload_n hx hb dL_law_768 rfl (lv_at hl 6 rfl) ?_
    refine lv_iload hx hb dL_law_769 (lv_at hl 1 rfl) ?_
    refine lv_iconst (v := 4) hx hb dL_law_771 (by decide) ?_
    refine lv_iadd hx hb dL_law_772 ?_
    refine lv_topi (fun x_34 ex_34 => ?_)
    obtain rfl : x_34 = 4 := by rw [ex_34]; decide
    refine va_sld hx hb hX hbl hbA hS (i := 4) (by unfold vp_in; decide) dL_law_773 ?_
    refine lv_i2f hx hb dL_law_774 ?_
    refine lv_ldcf (v := 1040187392) hx hb hown (hts (.constantFloat RL 75 (1040187392)) (by decide +kernel)) dL_law_775 ?_
    refine lv_fmul hx hb dL_law_777 (kf_8 _) ?_
    refine kc_callv (wc := [(mm, .inr (5, [.int 0, .int 0, .ref a2, .ref a3, .ref a4, .ref a5, .int 0, .ref a7, .ref a8, .ref a9, .ref a10, .ref a11, .ref a12, .ref a13, .ref a14, .ref a15, .ref a16, .ref a17, .ref a18, .int 0, .ref a20, .ref a21, .int 8, .float FP.fconst1, .float 1031798784, .int 0, .int 1, .int 0, .int 0, .ref a29, .ref a30, .ref a31, .float 0, .float 0, .float 0])), (a5, .inl (ca5, 9, .inr (.inr (.inl (fun _ => 0)))))]) (wr := [(lb, .inr (0, [.int 0, .ref ad, .int 0])), (lr, .inr (0, [.int 0, .ref ad, .int 0])), (lk, .inr (0, [.int 0, .ref ad, .int 0])), (fr, .inl (cR, 8, .inr (.inr (.inr (.inr (fun _ => none)))))), (a2, .inl (ca2, 3328, .inr (.inr (.inl (fun _ => 0))))), (a3, .inl (ca3, 256, .inl (fun _ => 0))), (a4, .inl (ca4, 256, .inl (fun _ => 0))), (o, .inl (cJ, 1, .inr (.inl (fun _ => 0)))), (od, .inl (cD, 1, .inr (.inr (.inr (.inl (fun _ => 0))))))]) (tyr := [(cR, .object "IslandSolver$Row"), (ca2, .float), (ca3, .boolean), (ca4, .int), (ca5, .float), (cJ, .long), (cD, .double)]) (va_runV (As := [.int (xs (1 : Int32).toNatClampNeg), .float (FP.fmul (FP.i2f (xs (2 : Int32).toNatClampNeg)) 1040187392), .float (FP.fmul (FP.i2f (xs (3 : Int32).toNatClampNeg)) 1040187392), .float (FP.fmul (FP.i2f (xs (4 : Int32).toNatClampNeg)) 1040187392)]) (rest := []) ⟨hx, hb, hml, hown, hts⟩ (m_vector l dC dI ad _ mm 0 a2 a3 a4 a5 a7 a8 a9 a10 a11 a12 a13 a14 a15 a16 a17 a18 a20 a21 0 a29 a30 a31 0 0 0 ca5 (fun _ => 0) (xs (1 : Int32).toNatClampNeg) (FP.fmul (FP.i2f (xs (2 : Int32).toNatClampNeg)) 1040187392) (FP.fmul (FP.i2f (xs (3 : Int32).toNatClampNeg)) 1040187392) (FP.fmul (FP.i2f (xs (4 : Int32).toNatClampNeg)) 1040187392)) (cwV 4 hts gL_law_X4_vector rfl rfl rfl (by decide +kernel) ⟨Nat.le_of_ble_eq_true rfl, Nat.le_of_ble_eq_true rfl⟩) (kc_preV hP hD hK hS hA hE [4, 8] rfl (by decide) [4] rfl 4 rfl rfl) rfl rfl hl.1 rfl (lv_room (Nat.le_of_ble_eq_true rfl)) dL_law_778 ⟨Nat.le_of_ble_eq_true rfl, Nat.le_of_ble_eq_true rfl⟩) hP hD hK hS hA [4, 8] [0, 1, 2, 3, 5, 6, 7, 9, 10] rfl rfl (by decide) (by decide) [0, 1, 2, 3, 4, 5, 6] rfl (fun u H locs hw hP hD hK hS => ?_)
    obtain ⟨fs_35, rfl⟩ : ∃ z, z = u := ⟨_, rfl⟩
    have hP : va_P (dC, dI) vwCl [(lb, .inr (0, [.int 0, .ref ad, .int 0])), (lr, .inr (0, [.int 0, .ref ad, .int 0])), (lk, .inr (0, [.int 0, .ref ad, .int 0])), (fr, .inl (cR, 8, .inr (.inr (.inr (.inr (fun _ => none)))))), (a2, .inl (ca2, 3328, .inr (.inr (.inl (fun _ => 0))))), (a3, .inl (ca3, 256, .inl (fun _ => 0))), (a4, .inl (ca4, 256, .inl (fun _ => 0))), (o, .inl (cJ, 1, .inr (.inl (fun _ => 0)))), (od, .inl (cD, 1, .inr (.inr (.inr (.inl (fun _ => 0)))))), (mm, .inr (5, fs_35))] H := hP
    have hD : va_D A [(lb, .inr (0, [.int 0, .ref ad, .int 0])), (lr, .inr (0, [.int 0, .ref ad, .int 0])), (lk, .inr (0, [.int 0, .ref ad, .int 0])), (fr, .inl (cR, 8, .inr (.inr (.inr (.inr (fun _ => none)))))), (a2, .inl (ca2, 3328, .inr (.inr (.inl (fun _ => 0))))), (a3, .inl (ca3, 256, .inl (fun _ => 0))), (a4, .inl (ca4, 256, .inl (fun _ => 0))), (o, .inl (cJ, 1, .inr (.inl (fun _ => 0)))), (od, .inl (cD, 1, .inr (.inr (.inr (.inl (fun _ => 0)))))), (mm, .inr (5, fs_35))] := hD
    have hK : va_K (dC, dI) vwCl [(cR, .object "IslandSolver$Row"), (ca2, .float), (ca3, .boolean), (ca4, .int), (ca5, .float), (cJ, .long), (cD, .double)] s := hK.sub [0, 1, 2, 3, 4, 5, 6] rfl
    rcases hw with ⟨k_37, hf_36⟩ | ⟨k_38, hf_36⟩ | ⟨k_39, hf_36⟩
    · exact absurd (k_8.symm.trans k_37) (by decide)
    · exact absurd (k_8.symm.trans k_38) (by decide)
    · refine lv_aload_n hx hb dL_law_781 rfl (lv_at hl 4 rfl) ?_
      refine kc_calli (wc := [(mm, .inr (5, fs_35))]) (wr := [(lb, .inr (0, [.int 0, .ref ad, .int 0])), (lr, .inr (0, [.int 0, .ref ad, .int 0])), (lk, .inr (0, [.int 0, .ref ad, .int 0])), (fr, .inl (cR, 8, .inr (.inr (.inr (.inr (fun _ => none)))))), (a2, .inl (ca2, 3328, .inr (.inr (.inl (fun _ => 0))))), (a3, .inl (ca3, 256, .inl (fun _ => 0))), (a4, .inl (ca4, 256, .inl (fun _ => 0))), (o, .inl (cJ, 1, .inr (.inl (fun _ => 0)))), (od, .inl (cD, 1, .inr (.inr (.inr (.inl (fun _ => 0))))))]) (tyr := [(cR, .object "IslandSolver$Row"), (ca2, .float), (ca3, .boolean), (ca4, .int), (ca5, .float), (cJ, .long), (cD, .double)]) (va_runV (As := []) (rest := []) ⟨hx, hb, hml, hown, hts⟩ (c_thrown l dC dI ad _ mm fs_35 2 hf_36) (cwV 0 hts gL_law_X4_thrown rfl rfl rfl (by decide +kernel) ⟨Nat.le_of_ble_eq_true rfl, Nat.le_of_ble_eq_true rfl⟩) (kc_preV hP hD hK hS hA hE [9] rfl (by decide) [] rfl 9 rfl rfl) rfl rfl hl.1 rfl (lv_room (Nat.le_of_ble_eq_true rfl)) dL_law_782 ⟨Nat.le_of_ble_eq_true rfl, Nat.le_of_ble_eq_true rfl⟩) hP hD hK hS hA [9] [0, 1, 2, 3, 4, 5, 6, 7, 8] rfl rfl (by decide) (by decide) [0, 1, 2, 3, 4, 5, 6] rfl (fun r_40 u H locs hw hP hD hK hS => ?_)
      subst hw
      have hP : va_P (dC, dI) vwCl [(lb, .inr (0, [.int 0, .ref ad, .int 0])), (lr, .inr (0, [.int 0, .ref ad, .int 0])), (lk, .inr (0, [.int 0, .ref ad, .int 0])), (fr, .inl (cR, 8, .inr (.inr (.inr (.inr (fun _ => none)))))), (a2, .inl (ca2, 3328, .inr (.inr (.inl (fun _ => 0))))), (a3, .inl (ca3, 256, .inl (fun _ => 0))), (a4, .inl (ca4, 256, .inl (fun _ => 0))), (o, .inl (cJ, 1, .inr (.inl (fun _ => 0)))), (od, .inl (cD, 1, .inr (.inr (.inr (.inl (fun _ => 0)))))), (mm, .inr (5, fs_35))] H := hP
      have hD : va_D A [(lb, .inr (0, [.int 0, .ref ad, .int 0])), (lr, .inr (0, [.int 0, .ref ad, .int 0])), (lk, .inr (0, [.int 0, .ref ad, .int 0])), (fr, .inl (cR, 8, .inr (.inr (.inr (.inr (fun _ => none)))))), (a2, .inl (ca2, 3328, .inr (.inr (.inl (fun _ => 0))))), (a3, .inl (ca3, 256, .inl (fun _ => 0))), (a4, .inl (ca4, 256, .inl (fun _ => 0))), (o, .inl (cJ, 1, .inr (.inl (fun _ => 0)))), (od, .inl (cD, 1, .inr (.inr (.inr (.inl (fun _ => 0)))))), (mm, .inr (5, fs_35))] := hD
      have hK : va_K (dC, dI) vwCl [(cR, .object "IslandSolver$Row"), (ca2, .float), (ca3, .boolean), (ca4, .int), (ca5, .float), (cJ, .long), (cD, .double)] s := hK.sub [0, 1, 2, 3, 4, 5, 6] rfl
      refine lv_iload hx hb dL_law_785 (lv_at hl 0 rfl) ?_
      refine lv_icmp_eq (tgt := 792) hx hb dL_law_787 (by decide) (fun _ => ?_) (fun h9 => absurd h9 (by decide))
      refine lv_goto (tgt := 1653) hx hb dL_law_792 (by decide) ?_
      refine lv_iinc (v := 8) (lv' := [(5, .int 8), (6, .int 2), (4, .ref od), (3, .ref o), (2, .ref mm), (1, .ref x), (0, .ref b)]) hx hb dL_law_1653 hl (k := 1) rfl (by decide) (by decide) rfl (fun ls hl => ?_)
      refine lv_goto (tgt := 28) hx hb dL_law_1656 (by decide) ?_
      refine lv_iload hx hb dL_law_28 (lv_at hl 0 rfl) ?_
      refine lv_aload_n hx hb dL_law_30 rfl (lv_at hl 6 rfl) ?_
      refine va_slen hx hb hX hbl hbA hS dL_law_31 ?_
      refine W.eq (g2 := F0 m9 32 ls [.int 8, .int 8]) rfl ?_
      refine lv_bipush (v := 8) hx hb dL_law_32 (by decide) ?_
      refine lv_isub hx hb dL_law_34 ?_
      refine lv_topi (fun x_41 ex_41 => ?_)
      obtain rfl : x_41 = 0 := by rw [ex_41]; decide
      refine lv_icmp_gt (tgt := 1659) hx hb dL_law_35 (by decide) (fun _ => ?_) (fun h9 => absurd h9 (by decide))
      refine lv_iconst (v := 1) hx hb dL_law_1659 (by decide) ?_
      refine va_forget (fun q hq => by have h9 := hS.2.2 q hq; rw [← hAe] at h9; exact h9) ?_
      refine W.widen (k := 600002) (n := 7302232) (Nat.le_of_ble_eq_true rfl) (Nat.le_of_ble_eq_true rfl) ?_
      exact lw_ret hx hb hr hlocks dL_law_1660

set_option maxHeartbeats 8000000 in
set_option maxRecDepth 100000 in
theorem law_8 {p : Program} {l : Launch} {e : Env} {s : State} {m9 : MethodId} {below : List Frame} {meth : Method} {c : Code} {b : Nat} {xs : Nat → Int32} (hlt : l.stackTraces = false) (C0 : lw_At p s m9 meth c b 8 xs) {dC : Nat → ClassId} {dI : Nat → Nat → Nat} {ad : Nat} (hE : kx_E ad (fun q : Nat => s.heap.size ≤ q) s s.heap)
    (x lb lr lk pn pp pq wo re fr mm a2 a3 a4 a5 a7 a8 a9 a10 a11 a12 a13 a14 a15 a16 a17 a18 a20 a21 a29 a30 a31 o od : Nat) (cR ca2 ca3 ca4 ca5 cJ cD : ClassId) (H : Heap) (locs : List Loc) (ls : Array Slot) (hK : va_K (dC, dI) vwCl [(cR, .object "IslandSolver$Row"), (ca2, .float), (ca3, .boolean), (ca4, .int), (ca5, .float), (cJ, .long), (cD, .double)] s) (hP : va_P (dC, dI) vwCl [(x, .inr (4, [.ref lb, .ref lr, .ref lk, .ref pn, .ref pp, .ref pq, .int 8, .float FP.fconst1, .float 1031798784, .int 0, .int 1, .int 0, .int 0, .ref wo, .ref re, .ref fr])), (lb, .inr (0, [.int 0, .ref ad, .int 0])), (lr, .inr (0, [.int 0, .ref ad, .int 0])), (lk, .inr (0, [.int 0, .ref ad, .int 0])), (pn, .inr (3, [.float 0, .float 0, .float 0])), (pp, .inr (3, [.float 0, .float 0, .float 0])), (pq, .inr (3, [.float 0, .float 0, .float 0])), (fr, .inl (cR, 8, .inr (.inr (.inr (.inr (fun _ => none)))))), (mm, .inr (5, [.int 0, .int 0, .ref a2, .ref a3, .ref a4, .ref a5, .int 0, .ref a7, .ref a8, .ref a9, .ref a10, .ref a11, .ref a12, .ref a13, .ref a14, .ref a15, .ref a16, .ref a17, .ref a18, .int 0, .ref a20, .ref a21, .int 8, .float FP.fconst1, .float 1031798784, .int 0, .int 1, .int 0, .int 0, .ref a29, .ref a30, .ref a31, .float 0, .float 0, .float 0])), (a2, .inl (ca2, 3328, .inr (.inr (.inl (fun _ => 0))))), (a3, .inl (ca3, 256, .inl (fun _ => 0))), (a4, .inl (ca4, 256, .inl (fun _ => 0))), (a5, .inl (ca5, 9, .inr (.inr (.inl (fun _ => 0))))), (o, .inl (cJ, 1, .inr (.inl (fun _ => 0)))), (od, .inl (cD, 1, .inr (.inr (.inr (.inl (fun _ => 0))))))] H) (hD : va_D (fun q : Nat => s.heap.size ≤ q) [(x, .inr (4, [.ref lb, .ref lr, .ref lk, .ref pn, .ref pp, .ref pq, .int 8, .float FP.fconst1, .float 1031798784, .int 0, .int 1, .int 0, .int 0, .ref wo, .ref re, .ref fr])), (lb, .inr (0, [.int 0, .ref ad, .int 0])), (lr, .inr (0, [.int 0, .ref ad, .int 0])), (lk, .inr (0, [.int 0, .ref ad, .int 0])), (pn, .inr (3, [.float 0, .float 0, .float 0])), (pp, .inr (3, [.float 0, .float 0, .float 0])), (pq, .inr (3, [.float 0, .float 0, .float 0])), (fr, .inl (cR, 8, .inr (.inr (.inr (.inr (fun _ => none)))))), (mm, .inr (5, [.int 0, .int 0, .ref a2, .ref a3, .ref a4, .ref a5, .int 0, .ref a7, .ref a8, .ref a9, .ref a10, .ref a11, .ref a12, .ref a13, .ref a14, .ref a15, .ref a16, .ref a17, .ref a18, .int 0, .ref a20, .ref a21, .int 8, .float FP.fconst1, .float 1031798784, .int 0, .int 1, .int 0, .int 0, .ref a29, .ref a30, .ref a31, .float 0, .float 0, .float 0])), (a2, .inl (ca2, 3328, .inr (.inr (.inl (fun _ => 0))))), (a3, .inl (ca3, 256, .inl (fun _ => 0))), (a4, .inl (ca4, 256, .inl (fun _ => 0))), (a5, .inl (ca5, 9, .inr (.inr (.inl (fun _ => 0))))), (o, .inl (cJ, 1, .inr (.inl (fun _ => 0)))), (od, .inl (cD, 1, .inr (.inr (.inr (.inl (fun _ => 0))))))]) (hS : va_S (fun q : Nat => s.heap.size ≤ q) s.heap H locs) (hl : lv_has ls 10 [(5, .int 0), (4, .ref od), (3, .ref o), (2, .ref mm), (1, .ref x), (0, .ref b)]) :
    W p l e room_1 s m9 #[Value.ref b] below meth c H locs 34 27736 (lw_Z below #[Value.ref b] s) (F0 m9 1093 ls []) := by
  obtain ⟨hx, hb, hr, hml, hown, hts, hX, hbl, hlocks, hgv⟩ := C0
  have hts := fun w h => hts w (wsL_law_in w h)
  have hown : s.vm.findClass RL = some m9.cls := hown
  have hA : ∀ q : Nat, s.heap.size ≤ q → (fun q : Nat => s.heap.size ≤ q) q := fun _ h => h
  have hbA : ¬ (fun q : Nat => s.heap.size ≤ q) b := Nat.not_le.mpr hbl
  generalize hAe : (fun q : Nat => s.heap.size ≤ q) = A at hE hD hS hA hbA
  refine lv_aload_n hx hb dL_law_1093 rfl (lv_at hl 4 rfl) ?_
  refine kc_calli (wc := [(x, .inr (4, [.ref lb, .ref lr, .ref lk, .ref pn, .ref pp, .ref pq, .int 8, .float FP.fconst1, .float 1031798784, .int 0, .int 1, .int 0, .int 0, .ref wo, .ref re, .ref fr])), (lb, .inr (0, [.int 0, .ref ad, .int 0])), (lr, .inr (0, [.int 0, .ref ad, .int 0])), (lk, .inr (0, [.int 0, .ref ad, .int 0]))]) (wr := [(pn, .inr (3, [.float 0, .float 0, .float 0])), (pp, .inr (3, [.float 0, .float 0, .float 0])), (pq, .inr (3, [.float 0, .float 0, .float 0])), (fr, .inl (cR, 8, .inr (.inr (.inr (.inr (fun _ => none)))))), (mm, .inr (5, [.int 0, .int 0, .ref a2, .ref a3, .ref a4, .ref a5, .int 0, .ref a7, .ref a8, .ref a9, .ref a10, .ref a11, .ref a12, .ref a13, .ref a14, .ref a15, .ref a16, .ref a17, .ref a18, .int 0, .ref a20, .ref a21, .int 8, .float FP.fconst1, .float 1031798784, .int 0, .int 1, .int 0, .int 0, .ref a29, .ref a30, .ref a31, .float 0, .float 0, .float 0])), (a2, .inl (ca2, 3328, .inr (.inr (.inl (fun _ => 0))))), (a3, .inl (ca3, 256, .inl (fun _ => 0))), (a4, .inl (ca4, 256, .inl (fun _ => 0))), (a5, .inl (ca5, 9, .inr (.inr (.inl (fun _ => 0))))), (o, .inl (cJ, 1, .inr (.inl (fun _ => 0)))), (od, .inl (cD, 1, .inr (.inr (.inr (.inl (fun _ => 0))))))]) (tyr := [(cR, .object "IslandSolver$Row"), (ca2, .float), (ca3, .boolean), (ca4, .int), (ca5, .float), (cJ, .long), (cD, .double)]) (va_runV (As := []) (rest := []) ⟨hx, hb, hml, hown, hts⟩ (c_clear l dC dI ad _ x lb lr lk pn pp pq 0 wo re fr) (cwV 0 hts gL_law_X3_clear rfl rfl rfl (by decide +kernel) ⟨Nat.le_of_ble_eq_true rfl, Nat.le_of_ble_eq_true rfl⟩) (kc_preV hP hD hK hS hA hE [0, 1, 2, 3] rfl (by decide) [] rfl 0 rfl rfl) rfl rfl hl.1 rfl (lv_room (Nat.le_of_ble_eq_true rfl)) dL_law_1094 ⟨Nat.le_of_ble_eq_true rfl, Nat.le_of_ble_eq_true rfl⟩) hP hD hK hS hA [0, 1, 2, 3] [4, 5, 6, 7, 8, 9, 10, 11, 12, 13, 14] rfl rfl (by decide) (by decide) [0, 1, 2, 3, 4, 5, 6] rfl (fun r_1 u H locs hw hP hD hK hS => ?_)
  subst hw
  have hP : va_P (dC, dI) vwCl [(pn, .inr (3, [.float 0, .float 0, .float 0])), (pp, .inr (3, [.float 0, .float 0, .float 0])), (pq, .inr (3, [.float 0, .float 0, .float 0])), (fr, .inl (cR, 8, .inr (.inr (.inr (.inr (fun _ => none)))))), (mm, .inr (5, [.int 0, .int 0, .ref a2, .ref a3, .ref a4, .ref a5, .int 0, .ref a7, .ref a8, .ref a9, .ref a10, .ref a11, .ref a12, .ref a13, .ref a14, .ref a15, .ref a16, .ref a17, .ref a18, .int 0, .ref a20, .ref a21, .int 8, .float FP.fconst1, .float 1031798784, .int 0, .int 1, .int 0, .int 0, .ref a29, .ref a30, .ref a31, .float 0, .float 0, .float 0])), (a2, .inl (ca2, 3328, .inr (.inr (.inl (fun _ => 0))))), (a3, .inl (ca3, 256, .inl (fun _ => 0))), (a4, .inl (ca4, 256, .inl (fun _ => 0))), (a5, .inl (ca5, 9, .inr (.inr (.inl (fun _ => 0))))), (o, .inl (cJ, 1, .inr (.inl (fun _ => 0)))), (od, .inl (cD, 1, .inr (.inr (.inr (.inl (fun _ => 0))))))] H := hP
  have hD : va_D A [(pn, .inr (3, [.float 0, .float 0, .float 0])), (pp, .inr (3, [.float 0, .float 0, .float 0])), (pq, .inr (3, [.float 0, .float 0, .float 0])), (fr, .inl (cR, 8, .inr (.inr (.inr (.inr (fun _ => none)))))), (mm, .inr (5, [.int 0, .int 0, .ref a2, .ref a3, .ref a4, .ref a5, .int 0, .ref a7, .ref a8, .ref a9, .ref a10, .ref a11, .ref a12, .ref a13, .ref a14, .ref a15, .ref a16, .ref a17, .ref a18, .int 0, .ref a20, .ref a21, .int 8, .float FP.fconst1, .float 1031798784, .int 0, .int 1, .int 0, .int 0, .ref a29, .ref a30, .ref a31, .float 0, .float 0, .float 0])), (a2, .inl (ca2, 3328, .inr (.inr (.inl (fun _ => 0))))), (a3, .inl (ca3, 256, .inl (fun _ => 0))), (a4, .inl (ca4, 256, .inl (fun _ => 0))), (a5, .inl (ca5, 9, .inr (.inr (.inl (fun _ => 0))))), (o, .inl (cJ, 1, .inr (.inl (fun _ => 0)))), (od, .inl (cD, 1, .inr (.inr (.inr (.inl (fun _ => 0))))))] := hD
  have hK : va_K (dC, dI) vwCl [(cR, .object "IslandSolver$Row"), (ca2, .float), (ca3, .boolean), (ca4, .int), (ca5, .float), (cJ, .long), (cD, .double)] s := hK.sub [0, 1, 2, 3, 4, 5, 6] rfl
  refine lv_aload_n hx hb dL_law_1097 rfl (lv_at hl 3 rfl) ?_
  refine kc_calli (wc := [(mm, .inr (5, [.int 0, .int 0, .ref a2, .ref a3, .ref a4, .ref a5, .int 0, .ref a7, .ref a8, .ref a9, .ref a10, .ref a11, .ref a12, .ref a13, .ref a14, .ref a15, .ref a16, .ref a17, .ref a18, .int 0, .ref a20, .ref a21, .int 8, .float FP.fconst1, .float 1031798784, .int 0, .int 1, .int 0, .int 0, .ref a29, .ref a30, .ref a31, .float 0, .float 0, .float 0]))]) (wr := [(pn, .inr (3, [.float 0, .float 0, .float 0])), (pp, .inr (3, [.float 0, .float 0, .float 0])), (pq, .inr (3, [.float 0, .float 0, .float 0])), (fr, .inl (cR, 8, .inr (.inr (.inr (.inr (fun _ => none)))))), (a2, .inl (ca2, 3328, .inr (.inr (.inl (fun _ => 0))))), (a3, .inl (ca3, 256, .inl (fun _ => 0))), (a4, .inl (ca4, 256, .inl (fun _ => 0))), (a5, .inl (ca5, 9, .inr (.inr (.inl (fun _ => 0))))), (o, .inl (cJ, 1, .inr (.inl (fun _ => 0)))), (od, .inl (cD, 1, .inr (.inr (.inr (.inl (fun _ => 0))))))]) (tyr := [(cR, .object "IslandSolver$Row"), (ca2, .float), (ca3, .boolean), (ca4, .int), (ca5, .float), (cJ, .long), (cD, .double)]) (va_runV (As := []) (rest := [.int 0]) ⟨hx, hb, hml, hown, hts⟩ (m_clear l dC dI ad _ mm 0 a2 a3 a4 a5 a7 a8 a9 a10 a11 a12 a13 a14 a15 a16 a17 a18 a20 a21 0 a29 a30 a31 0 0 0) (cwV 0 hts gL_law_X4_clear rfl rfl rfl (by decide +kernel) ⟨Nat.le_of_ble_eq_true rfl, Nat.le_of_ble_eq_true rfl⟩) (kc_preV hP hD hK hS hA hE [4] rfl (by decide) [] rfl 4 rfl rfl) rfl rfl hl.1 rfl (lv_room (Nat.le_of_ble_eq_true rfl)) dL_law_1098 ⟨Nat.le_of_ble_eq_true rfl, Nat.le_of_ble_eq_true rfl⟩) hP hD hK hS hA [4] [0, 1, 2, 3, 5, 6, 7, 8, 9, 10] rfl rfl (by decide) (by decide) [0, 1, 2, 3, 4, 5, 6] rfl (fun r_2 u H locs hw hP hD hK hS => ?_)
  obtain ⟨fs_3, rfl⟩ : ∃ z, z = u := ⟨_, rfl⟩
  have hP : va_P (dC, dI) vwCl [(pn, .inr (3, [.float 0, .float 0, .float 0])), (pp, .inr (3, [.float 0, .float 0, .float 0])), (pq, .inr (3, [.float 0, .float 0, .float 0])), (fr, .inl (cR, 8, .inr (.inr (.inr (.inr (fun _ => none)))))), (a2, .inl (ca2, 3328, .inr (.inr (.inl (fun _ => 0))))), (a3, .inl (ca3, 256, .inl (fun _ => 0))), (a4, .inl (ca4, 256, .inl (fun _ => 0))), (a5, .inl (ca5, 9, .inr (.inr (.inl (fun _ => 0))))), (o, .inl (cJ, 1, .inr (.inl (fun _ => 0)))), (od, .inl (cD, 1, .inr (.inr (.inr (.inl (fun _ => 0)))))), (mm, .inr (5, fs_3))] H := hP
  have hD : va_D A [(pn, .inr (3, [.float 0, .float 0, .float 0])), (pp, .inr (3, [.float 0, .float 0, .float 0])), (pq, .inr (3, [.float 0, .float 0, .float 0])), (fr, .inl (cR, 8, .inr (.inr (.inr (.inr (fun _ => none)))))), (a2, .inl (ca2, 3328, .inr (.inr (.inl (fun _ => 0))))), (a3, .inl (ca3, 256, .inl (fun _ => 0))), (a4, .inl (ca4, 256, .inl (fun _ => 0))), (a5, .inl (ca5, 9, .inr (.inr (.inl (fun _ => 0))))), (o, .inl (cJ, 1, .inr (.inl (fun _ => 0)))), (od, .inl (cD, 1, .inr (.inr (.inr (.inl (fun _ => 0)))))), (mm, .inr (5, fs_3))] := hD
  have hK : va_K (dC, dI) vwCl [(cR, .object "IslandSolver$Row"), (ca2, .float), (ca3, .boolean), (ca4, .int), (ca5, .float), (cJ, .long), (cD, .double)] s := hK.sub [0, 1, 2, 3, 4, 5, 6] rfl
  obtain ⟨hf_4, rfl⟩ := hw
  refine lv_icmp_eq (tgt := 1653) hx hb dL_law_1101 (by decide) (fun _ => ?_) (fun h9 => absurd h9 (by decide))
  refine lv_iinc (v := 8) (lv' := [(5, .int 8), (4, .ref od), (3, .ref o), (2, .ref mm), (1, .ref x), (0, .ref b)]) hx hb dL_law_1653 hl (k := 0) rfl (by decide) (by decide) rfl (fun ls hl => ?_)
  refine lv_goto (tgt := 28) hx hb dL_law_1656 (by decide) ?_
  refine lv_iload hx hb dL_law_28 (lv_at hl 0 rfl) ?_
  refine lv_aload_n hx hb dL_law_30 rfl (lv_at hl 5 rfl) ?_
  refine va_slen hx hb hX hbl hbA hS dL_law_31 ?_
  refine W.eq (g2 := F0 m9 32 ls [.int 8, .int 8]) rfl ?_
  refine lv_bipush (v := 8) hx hb dL_law_32 (by decide) ?_
  refine lv_isub hx hb dL_law_34 ?_
  refine lv_topi (fun x_5 ex_5 => ?_)
  obtain rfl : x_5 = 0 := by rw [ex_5]; decide
  refine lv_icmp_gt (tgt := 1659) hx hb dL_law_35 (by decide) (fun _ => ?_) (fun h9 => absurd h9 (by decide))
  refine lv_iconst (v := 1) hx hb dL_law_1659 (by decide) ?_
  refine va_forget (fun q hq => by have h9 := hS.2.2 q hq; rw [← hAe] at h9; exact h9) ?_
  refine W.widen (k := 600002) (n := 7302232) (Nat.le_of_ble_eq_true rfl) (Nat.le_of_ble_eq_true rfl) ?_
  exact lw_ret hx hb hr hlocks dL_law_1660
