set_option maxHeartbeats 8000000 in
set_option maxRecDepth 100000 in
theorem law_6 {p : Program} {l : Launch} {e : Env} {s : State} {m : MethodId} {below : List Frame} {meth : Method} {c : Code} {b L0 : Nat} {xs : Nat → Int32} (hlt : l.stackTraces = false) (C0 : lw_At p s m meth c b L0 xs) {dC : Nat → ClassId} {dI : Nat → Nat → Nat} {dA : Nat → ClassId} {ad : Nat} (hE : kx_E ad (fun q : Nat => s.heap.size ≤ q) s s.heap) (hK : va_K (dC, dI) vwCl (tyA dA) s) (hL0 : L0 ≤ 4096) (x mm o od ki : Nat) (hki : 8 * ki + 8 ≤ L0) (hnext : ∀ (L : List Nat) (f : Nat → va_E) (H : Heap) (locs : List Loc) (ls : Array Slot), kLw dA ad x mm o od L f → va_P (dC, dI) vwCl (va_pl L f) H → va_D (fun q : Nat => s.heap.size ≤ q) (va_pl L f) → va_S (fun q : Nat => s.heap.size ≤ q) s.heap H locs → lv_has ls 10 [(0, .ref b), (1, .ref x), (2, .ref mm), (3, .ref o), (4, .ref od), (5, .int (nI (8 * ki)))] → W p l e room_1 s m #[Value.ref b] below meth c H locs (100 + 16 * ki + 16) (40000 + 2000 * ki + 2000) (lw_Z below #[Value.ref b] s) (F0 m 1237 ls [])) (L : List Nat) (f : Nat → va_E) (H : Heap) (locs : List Loc) (ls : Array Slot) (hLw : kLw dA ad x mm o od L f) (hP : va_P (dC, dI) vwCl (va_pl L f) H) (hD : va_D (fun q : Nat => s.heap.size ≤ q) (va_pl L f)) (hS : va_S (fun q : Nat => s.heap.size ≤ q) s.heap H locs) (hl : lv_has ls 10 [(0, .ref b), (1, .ref x), (2, .ref mm), (3, .ref o), (4, .ref od), (5, .int (nI (8 * ki)))]) : W p l e room_1 s m #[Value.ref b] below meth c H locs (100 + 16 * ki) (40000 + 2000 * ki) (lw_Z below #[Value.ref b] s) (F0 m 682 ls []) := by
  obtain ⟨hx, hb, hr, hml, hown, hts, hX, hbl, hlocks, hgv⟩ := C0
  have hts := fun w h => hts w (wsL_law_in w h)
  have hown : s.vm.findClass RL = some m.cls := hown
  have hA : ∀ q : Nat, s.heap.size ≤ q → (fun q : Nat => s.heap.size ≤ q) q := fun _ h => h
  have hbA : ¬ (fun q : Nat => s.heap.size ≤ q) b := Nat.not_le.mpr hbl
  generalize hAe : (fun q : Nat => s.heap.size ≤ q) = A at hE hD hS hA hbA hnext
  obtain ⟨τ, pv, bl, rl, kl, ba, ra, ka, fr, nb, nr, nk, fa, sa, aa, ia, sf, mk, hWx, hWm, hR, hto, htd, hwc, hI⟩ := hLw
  refine lv_aload_n hx hb dL_law_682 rfl (lv_at hl 1 rfl) ?_
  refine lv_aload_n hx hb dL_law_683 rfl (lv_at hl 0 rfl) ?_
  refine lv_iload hx hb dL_law_684 (lv_at hl 5 rfl) ?_
  refine lv_iconst (v := 1) hx hb dL_law_686 (by decide) ?_
  refine lv_iadd hx hb dL_law_687 ?_
  refine lv_topi (nm_r (show (nI (8 * ki)) + 1 = nI ((8 * ki) + 1) from nI_add ((8 * ki)) 1) ?_)
  refine va_sld hx hb hX hbl hbA hS (i := nI ((8 * ki) + 1)) (vp_in_nI (by omega) (by omega)) dL_law_688 ?_
  refine lv_topi (nm_r (show xs (nI ((8 * ki) + 1)).toNatClampNeg = xs ((8 * ki) + 1) from by rw [nI_clamp (by omega)]) ?_)
  refine lv_aload_n hx hb dL_law_689 rfl (lv_at hl 0 rfl) ?_
  refine lv_iload hx hb dL_law_690 (lv_at hl 5 rfl) ?_
  refine lv_iconst (v := 2) hx hb dL_law_692 (by decide) ?_
  refine lv_iadd hx hb dL_law_693 ?_
  refine lv_topi (nm_r (show (nI (8 * ki)) + 2 = nI ((8 * ki) + 2) from nI_add ((8 * ki)) 2) ?_)
  refine va_sld hx hb hX hbl hbA hS (i := nI ((8 * ki) + 2)) (vp_in_nI (by omega) (by omega)) dL_law_694 ?_
  refine lv_topi (nm_r (show xs (nI ((8 * ki) + 2)).toNatClampNeg = xs ((8 * ki) + 2) from by rw [nI_clamp (by omega)]) ?_)
  refine lv_aload_n hx hb dL_law_695 rfl (lv_at hl 0 rfl) ?_
  refine lv_iload hx hb dL_law_696 (lv_at hl 5 rfl) ?_
  refine lv_iconst (v := 3) hx hb dL_law_698 (by decide) ?_
  refine lv_iadd hx hb dL_law_699 ?_
  refine lv_topi (nm_r (show (nI (8 * ki)) + 3 = nI ((8 * ki) + 3) from nI_add ((8 * ki)) 3) ?_)
  refine va_sld hx hb hX hbl hbA hS (i := nI ((8 * ki) + 3)) (vp_in_nI (by omega) (by omega)) dL_law_700 ?_
  refine lv_topi (nm_r (show xs (nI ((8 * ki) + 3)).toNatClampNeg = xs ((8 * ki) + 3) from by rw [nI_clamp (by omega)]) ?_)
  refine lv_i2f hx hb dL_law_701 ?_
  refine lv_ldcf (v := 1040187392) hx hb hown (hts (.constantFloat RL 75 (1040187392)) (by decide +kernel)) dL_law_702 ?_
  have hc_1 : fb 1040187392 1040187392 := by unfold fb; decide +kernel
  refine lv_fmul hx hb dL_law_704 (kf_8 _) ?_
  refine lv_aload_n hx hb dL_law_705 rfl (lv_at hl 0 rfl) ?_
  refine lv_iload hx hb dL_law_706 (lv_at hl 5 rfl) ?_
  refine lv_iconst (v := 4) hx hb dL_law_708 (by decide) ?_
  refine lv_iadd hx hb dL_law_709 ?_
  refine lv_topi (nm_r (show (nI (8 * ki)) + 4 = nI ((8 * ki) + 4) from nI_add ((8 * ki)) 4) ?_)
  refine va_sld hx hb hX hbl hbA hS (i := nI ((8 * ki) + 4)) (vp_in_nI (by omega) (by omega)) dL_law_710 ?_
  refine lv_topi (nm_r (show xs (nI ((8 * ki) + 4)).toNatClampNeg = xs ((8 * ki) + 4) from by rw [nI_clamp (by omega)]) ?_)
  refine lv_i2f hx hb dL_law_711 ?_
  refine lv_ldcf (v := 1040187392) hx hb hown (hts (.constantFloat RL 75 (1040187392)) (by decide +kernel)) dL_law_712 ?_
  have hc_2 : fb 1040187392 1040187392 := by unfold fb; decide +kernel
  refine lv_fmul hx hb dL_law_714 (kf_8 _) ?_
  refine lv_aload_n hx hb dL_law_715 rfl (lv_at hl 0 rfl) ?_
  refine lv_iload hx hb dL_law_716 (lv_at hl 5 rfl) ?_
  refine lv_iconst (v := 5) hx hb dL_law_718 (by decide) ?_
  refine lv_iadd hx hb dL_law_719 ?_
  refine lv_topi (nm_r (show (nI (8 * ki)) + 5 = nI ((8 * ki) + 5) from nI_add ((8 * ki)) 5) ?_)
  refine va_sld hx hb hX hbl hbA hS (i := nI ((8 * ki) + 5)) (vp_in_nI (by omega) (by omega)) dL_law_720 ?_
  refine lv_topi (nm_r (show xs (nI ((8 * ki) + 5)).toNatClampNeg = xs ((8 * ki) + 5) from by rw [nI_clamp (by omega)]) ?_)
  refine lv_i2f hx hb dL_law_721 ?_
  refine lv_ldcf (v := 1040187392) hx hb hown (hts (.constantFloat RL 75 (1040187392)) (by decide +kernel)) dL_law_722 ?_
  have hc_3 : fb 1040187392 1040187392 := by unfold fb; decide +kernel
  refine lv_fmul hx hb dL_law_724 (kf_8 _) ?_
  refine lv_aload_n hx hb dL_law_725 rfl (lv_at hl 0 rfl) ?_
  refine lv_iload hx hb dL_law_726 (lv_at hl 5 rfl) ?_
  refine lv_bipush (v := 6) hx hb dL_law_728 (by decide) ?_
  refine lv_iadd hx hb dL_law_730 ?_
  refine lv_topi (nm_r (show (nI (8 * ki)) + 6 = nI ((8 * ki) + 6) from nI_add ((8 * ki)) 6) ?_)
  refine va_sld hx hb hX hbl hbA hS (i := nI ((8 * ki) + 6)) (vp_in_nI (by omega) (by omega)) dL_law_731 ?_
  refine lv_topi (nm_r (show xs (nI ((8 * ki) + 6)).toNatClampNeg = xs ((8 * ki) + 6) from by rw [nI_clamp (by omega)]) ?_)
  refine lv_i2f hx hb dL_law_732 ?_
  refine lv_ldcf (v := 1040187392) hx hb hown (hts (.constantFloat RL 75 (1040187392)) (by decide +kernel)) dL_law_733 ?_
  have hc_4 : fb 1040187392 1040187392 := by unfold fb; decide +kernel
  refine lv_fmul hx hb dL_law_735 (kf_8 _) ?_
  refine lv_aload_n hx hb dL_law_736 rfl (lv_at hl 0 rfl) ?_
  refine lv_iload hx hb dL_law_737 (lv_at hl 5 rfl) ?_
  refine lv_bipush (v := 7) hx hb dL_law_739 (by decide) ?_
  refine lv_iadd hx hb dL_law_741 ?_
  refine lv_topi (nm_r (show (nI (8 * ki)) + 7 = nI ((8 * ki) + 7) from nI_add ((8 * ki)) 7) ?_)
  refine va_sld hx hb hX hbl hbA hS (i := nI ((8 * ki) + 7)) (vp_in_nI (by omega) (by omega)) dL_law_742 ?_
  refine lv_topi (nm_r (show xs (nI ((8 * ki) + 7)).toNatClampNeg = xs ((8 * ki) + 7) from by rw [nI_clamp (by omega)]) ?_)
  refine lv_aload_n hx hb dL_law_743 rfl (lv_at hl 3 rfl) ?_
  refine kd_calli (vx_runSW (As := [.ref x, .int (xs ((8 * ki) + 1)), .int (xs ((8 * ki) + 2)), .float (FP.fmul (FP.i2f (xs ((8 * ki) + 3))) 1040187392), .float (FP.fmul (FP.i2f (xs ((8 * ki) + 4))) 1040187392), .float (FP.fmul (FP.i2f (xs ((8 * ki) + 5))) 1040187392), .float (FP.fmul (FP.i2f (xs ((8 * ki) + 6))) 1040187392), .int (xs ((8 * ki) + 7)), .ref o]) (rest := []) ⟨hx, hb, hml, hown, hts⟩ (w_row l dC dI dA ad _ τ pv _ _ hI x bl rl kl ba ra ka fr nb nr nk hWx (xs ((8 * ki) + 1)) (xs ((8 * ki) + 2)) (FP.fmul (FP.i2f (xs ((8 * ki) + 3))) 1040187392) (FP.fmul (FP.i2f (xs ((8 * ki) + 4))) 1040187392) (FP.fmul (FP.i2f (xs ((8 * ki) + 5))) 1040187392) (FP.fmul (FP.i2f (xs ((8 * ki) + 6))) 1040187392) (xs ((8 * ki) + 7)) o hto hlt) (vx_cwSW 9 hts gL_law_L_row rfl rfl rfl (by decide +kernel) ⟨Nat.le_of_ble_eq_true rfl, Nat.le_of_ble_eq_true rfl⟩) (kd_preS hP hD hK hS hA hE) rfl rfl hl.1 rfl (lv_room (Nat.le_of_ble_eq_true rfl)) dL_law_744 ⟨kz_rmc (by omega), kz_rms (by omega)⟩) hD hS hA (fun r_6 u_5 H locs hw hP hD hS => ?_)
  have htx := hWx.tx
  have htm := hWm.tm
  have htf9 := hWm.tf
  have hts9 := hWm.ts
  have hta9 := hWm.ta
  obtain ⟨rfl, τ, pv, bl, rl, kl, ba, ra, ka, fr, nk, hF9, hWx, hB9, hR9, hans, hN9, hI⟩ := hw
  have hwc := ((hF9.pn htx (k := 10) rfl).trans hwc).trans (hF9.pn htm (k := 26) rfl).symm
  have hWm := hWm.frm hF9
  have hR := hR.x hF9 kPmC_D htf9 hts9 hta9 hB9 (fun i hi => hR9 i hi (Nat.lt_of_lt_of_le hi kinc_le)) (Nat.le_refl _) (Nat.le_refl _)
  have hto := hF9.ty hto
  have htd := hF9.ty htd
  refine lv_istore (lv' := [(6, .int (kc_row (xs ((8 * ki) + 1)) (xs ((8 * ki) + 2)) nb nr (FP.fmul (FP.i2f (xs ((8 * ki) + 3))) 1040187392) (FP.fmul (FP.i2f (xs ((8 * ki) + 4))) 1040187392) (FP.fmul (FP.i2f (xs ((8 * ki) + 5))) 1040187392) (FP.fmul (FP.i2f (xs ((8 * ki) + 6))) 1040187392))), (0, .ref b), (1, .ref x), (2, .ref mm), (3, .ref o), (4, .ref od), (5, .int (nI (8 * ki)))]) hx hb dL_law_747 hl (by decide) rfl (fun ls hl => ?_)
  refine lv_aload_n hx hb dL_law_749 rfl (lv_at hl 3 rfl) ?_
  refine lv_aload_n hx hb dL_law_750 rfl (lv_at hl 1 rfl) ?_
  refine lv_iload hx hb dL_law_751 (lv_at hl 6 rfl) ?_
  refine lv_iconst (v := 1) hx hb dL_law_753 (by decide) ?_
  refine lv_iadd hx hb dL_law_754 ?_
  refine lv_topi (nm_r (show (nI (8 * ki)) + 1 = nI ((8 * ki) + 1) from nI_add ((8 * ki)) 1) ?_)
  refine va_sld hx hb hX hbl hbA hS (i := nI ((8 * ki) + 1)) (vp_in_nI (by omega) (by omega)) dL_law_755 ?_
  refine lv_topi (nm_r (show xs (nI ((8 * ki) + 1)).toNatClampNeg = xs ((8 * ki) + 1) from by rw [nI_clamp (by omega)]) ?_)
  refine lv_aload_n hx hb dL_law_756 rfl (lv_at hl 1 rfl) ?_
  refine lv_iload hx hb dL_law_757 (lv_at hl 6 rfl) ?_
  refine lv_iconst (v := 2) hx hb dL_law_759 (by decide) ?_
  refine lv_iadd hx hb dL_law_760 ?_
  refine lv_topi (nm_r (show (nI (8 * ki)) + 2 = nI ((8 * ki) + 2) from nI_add ((8 * ki)) 2) ?_)
  refine va_sld hx hb hX hbl hbA hS (i := nI ((8 * ki) + 2)) (vp_in_nI (by omega) (by omega)) dL_law_761 ?_
  refine lv_topi (nm_r (show xs (nI ((8 * ki) + 2)).toNatClampNeg = xs ((8 * ki) + 2) from by rw [nI_clamp (by omega)]) ?_)
  refine lv_aload_n hx hb dL_law_762 rfl (lv_at hl 1 rfl) ?_
  refine lv_iload hx hb dL_law_763 (lv_at hl 6 rfl) ?_
  refine lv_iconst (v := 3) hx hb dL_law_765 (by decide) ?_
  refine lv_iadd hx hb dL_law_766 ?_
  refine lv_topi (nm_r (show (nI (8 * ki)) + 3 = nI ((8 * ki) + 3) from nI_add ((8 * ki)) 3) ?_)
  refine va_sld hx hb hX hbl hbA hS (i := nI ((8 * ki) + 3)) (vp_in_nI (by omega) (by omega)) dL_law_767 ?_
  refine lv_topi (nm_r (show xs (nI ((8 * ki) + 3)).toNatClampNeg = xs ((8 * ki) + 3) from by rw [nI_clamp (by omega)]) ?_)
  refine lv_i2f hx hb dL_law_768 ?_
  refine lv_ldcf (v := 1040187392) hx hb hown (hts (.constantFloat RL 75 (1040187392)) (by decide +kernel)) dL_law_769 ?_
  have hc_7 : fb 1040187392 1040187392 := by unfold fb; decide +kernel
  refine lv_fmul hx hb dL_law_771 (kf_8 _) ?_
  refine lv_aload_n hx hb dL_law_772 rfl (lv_at hl 1 rfl) ?_
  refine lv_iload hx hb dL_law_773 (lv_at hl 6 rfl) ?_
  refine lv_iconst (v := 4) hx hb dL_law_775 (by decide) ?_
  refine lv_iadd hx hb dL_law_776 ?_
  refine lv_topi (nm_r (show (nI (8 * ki)) + 4 = nI ((8 * ki) + 4) from nI_add ((8 * ki)) 4) ?_)
  refine va_sld hx hb hX hbl hbA hS (i := nI ((8 * ki) + 4)) (vp_in_nI (by omega) (by omega)) dL_law_777 ?_
  refine lv_topi (nm_r (show xs (nI ((8 * ki) + 4)).toNatClampNeg = xs ((8 * ki) + 4) from by rw [nI_clamp (by omega)]) ?_)
  refine lv_i2f hx hb dL_law_778 ?_
  refine lv_ldcf (v := 1040187392) hx hb hown (hts (.constantFloat RL 75 (1040187392)) (by decide +kernel)) dL_law_779 ?_
  have hc_8 : fb 1040187392 1040187392 := by unfold fb; decide +kernel
  refine lv_fmul hx hb dL_law_781 (kf_8 _) ?_
  refine lv_aload_n hx hb dL_law_782 rfl (lv_at hl 1 rfl) ?_
  refine lv_iload hx hb dL_law_783 (lv_at hl 6 rfl) ?_
  refine lv_iconst (v := 5) hx hb dL_law_785 (by decide) ?_
  refine lv_iadd hx hb dL_law_786 ?_
  refine lv_topi (nm_r (show (nI (8 * ki)) + 5 = nI ((8 * ki) + 5) from nI_add ((8 * ki)) 5) ?_)
  refine va_sld hx hb hX hbl hbA hS (i := nI ((8 * ki) + 5)) (vp_in_nI (by omega) (by omega)) dL_law_787 ?_
  refine lv_topi (nm_r (show xs (nI ((8 * ki) + 5)).toNatClampNeg = xs ((8 * ki) + 5) from by rw [nI_clamp (by omega)]) ?_)
  refine lv_i2f hx hb dL_law_788 ?_
  refine lv_ldcf (v := 1040187392) hx hb hown (hts (.constantFloat RL 75 (1040187392)) (by decide +kernel)) dL_law_789 ?_
  have hc_9 : fb 1040187392 1040187392 := by unfold fb; decide +kernel
  refine lv_fmul hx hb dL_law_791 (kf_8 _) ?_
  refine lv_aload_n hx hb dL_law_792 rfl (lv_at hl 1 rfl) ?_
  refine lv_iload hx hb dL_law_793 (lv_at hl 6 rfl) ?_
  refine lv_bipush (v := 6) hx hb dL_law_795 (by decide) ?_
  refine lv_iadd hx hb dL_law_797 ?_
  refine lv_topi (nm_r (show (nI (8 * ki)) + 6 = nI ((8 * ki) + 6) from nI_add ((8 * ki)) 6) ?_)
  refine va_sld hx hb hX hbl hbA hS (i := nI ((8 * ki) + 6)) (vp_in_nI (by omega) (by omega)) dL_law_798 ?_
  refine lv_topi (nm_r (show xs (nI ((8 * ki) + 6)).toNatClampNeg = xs ((8 * ki) + 6) from by rw [nI_clamp (by omega)]) ?_)
  refine lv_i2f hx hb dL_law_799 ?_
  refine lv_ldcf (v := 1040187392) hx hb hown (hts (.constantFloat RL 75 (1040187392)) (by decide +kernel)) dL_law_800 ?_
  have hc_10 : fb 1040187392 1040187392 := by unfold fb; decide +kernel
  refine lv_fmul hx hb dL_law_802 (kf_8 _) ?_
  refine lv_aload_n hx hb dL_law_803 rfl (lv_at hl 1 rfl) ?_
  refine lv_iload hx hb dL_law_804 (lv_at hl 6 rfl) ?_
  refine lv_bipush (v := 7) hx hb dL_law_806 (by decide) ?_
  refine lv_iadd hx hb dL_law_808 ?_
  refine lv_topi (nm_r (show (nI (8 * ki)) + 7 = nI ((8 * ki) + 7) from nI_add ((8 * ki)) 7) ?_)
  refine va_sld hx hb hX hbl hbA hS (i := nI ((8 * ki) + 7)) (vp_in_nI (by omega) (by omega)) dL_law_809 ?_
  refine lv_topi (nm_r (show xs (nI ((8 * ki) + 7)).toNatClampNeg = xs ((8 * ki) + 7) from by rw [nI_clamp (by omega)]) ?_)
  refine kd_calli (va_runV (As := [.int (xs ((8 * ki) + 1)), .int (xs ((8 * ki) + 2)), .float (FP.fmul (FP.i2f (xs ((8 * ki) + 3))) 1040187392), .float (FP.fmul (FP.i2f (xs ((8 * ki) + 4))) 1040187392), .float (FP.fmul (FP.i2f (xs ((8 * ki) + 5))) 1040187392), .float (FP.fmul (FP.i2f (xs ((8 * ki) + 6))) 1040187392), .int (xs ((8 * ki) + 7))]) (rest := []) ⟨hx, hb, hml, hown, hts⟩ (m_p_row l dC dI dA ad _ τ pv _ _ hI mm fa sa aa ia sf nb nr mk hWm (xs ((8 * ki) + 1)) (xs ((8 * ki) + 2)) (FP.fmul (FP.i2f (xs ((8 * ki) + 3))) 1040187392) (FP.fmul (FP.i2f (xs ((8 * ki) + 4))) 1040187392) (FP.fmul (FP.i2f (xs ((8 * ki) + 5))) 1040187392) (FP.fmul (FP.i2f (xs ((8 * ki) + 6))) 1040187392) (xs ((8 * ki) + 7))) (cwV 7 hts gL_law_X4_row rfl rfl rfl (by decide +kernel) ⟨Nat.le_of_ble_eq_true rfl, Nat.le_of_ble_eq_true rfl⟩) (kd_preV hP hD hK hS hA hE hI hWm.tm rfl rfl) rfl rfl hl.1 rfl (lv_room (Nat.le_of_ble_eq_true rfl)) dL_law_810 ⟨kz_rmc (by omega), kz_rms (by omega)⟩) hD hS hA (fun r_12 u_11 H locs hw hP hD hS => ?_)
  have htx := hWx.tx
  have htm := hWm.tm
  have htf9 := hWm.tf
  have hts9 := hWm.ts
  have hta9 := hWm.ta
  obtain ⟨pv, mk, hF9, hWm, hth, hansm, hq9, hI⟩ := hw
  have hR := hR.m (hF9.weak (kPxr_s nr)) hWx (Nat.le_refl _) kinc_le (Nat.le_refl _) htf9 hts9 hta9
  have hN9 := fun h9 => (hN9 h9).fr (hF9.weak (kPxr_s nr)) hWx (fun _ => rfl) (fun _ => rfl) (Nat.le_refl _) (by rw [kinc_0 h9]; exact Nat.lt_succ_self _)
  have hR := hR.push hN9 hq9
  have hwc := ((hF9.pn htx (k := 10) rfl).trans hwc).trans (hF9.pn htm (k := 26) rfl).symm
  have hans : (kc_row (xs ((8 * ki) + 1)) (xs ((8 * ki) + 2)) nb nr (FP.fmul (FP.i2f (xs ((8 * ki) + 3))) 1040187392) (FP.fmul (FP.i2f (xs ((8 * ki) + 4))) 1040187392) (FP.fmul (FP.i2f (xs ((8 * ki) + 5))) 1040187392) (FP.fmul (FP.i2f (xs ((8 * ki) + 6))) 1040187392)) = 0 → pv o 0 = .long (r_12).toInt64 := fun h9 => by rw [hansm h9]; exact (hF9.pn hto (k := 0) rfl).trans (hans h9)
  have hWx := hWx.frw (hF9.weak (kPw_xr nr))
  refine lv_istore (lv' := [(7, .int r_12), (6, .int (kc_row (xs ((8 * ki) + 1)) (xs ((8 * ki) + 2)) nb nr (FP.fmul (FP.i2f (xs ((8 * ki) + 3))) 1040187392) (FP.fmul (FP.i2f (xs ((8 * ki) + 4))) 1040187392) (FP.fmul (FP.i2f (xs ((8 * ki) + 5))) 1040187392) (FP.fmul (FP.i2f (xs ((8 * ki) + 6))) 1040187392))), (0, .ref b), (1, .ref x), (2, .ref mm), (3, .ref o), (4, .ref od), (5, .int (nI (8 * ki)))]) hx hb dL_law_813 hl (by decide) rfl (fun ls hl => ?_)
  refine lv_goto (tgt := 1237) hx hb dL_law_815 (by decide) ?_
  have hl : lv_has ls 10 [(0, .ref b), (1, .ref x), (2, .ref mm), (3, .ref o), (4, .ref od), (5, .int (nI (8 * ki)))] := lv_sub hl [2, 3, 4, 5, 6, 7] rfl
  refine W.widen (k := 100 + 16 * ki + 16) (n := 40000 + 2000 * ki + 2000) (by omega) (by omega) ?_
  exact hnext _ _ _ _ _ ⟨τ, pv, bl, rl, kl, ba, ra, ka, fr, nb, (kinc (kc_row (xs ((8 * ki) + 1)) (xs ((8 * ki) + 2)) nb nr (FP.fmul (FP.i2f (xs ((8 * ki) + 3))) 1040187392) (FP.fmul (FP.i2f (xs ((8 * ki) + 4))) 1040187392) (FP.fmul (FP.i2f (xs ((8 * ki) + 5))) 1040187392) (FP.fmul (FP.i2f (xs ((8 * ki) + 6))) 1040187392)) nr), nk, fa, sa, aa, ia, sf, mk, hWx, hWm, hR, hto, htd, hwc, hI⟩ hP hD hS hl
