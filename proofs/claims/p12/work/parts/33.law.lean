set_option maxHeartbeats 8000000 in
set_option maxRecDepth 100000 in
theorem law_6 {p : Program} {l : Launch} {e : Env} {s : State} {m : MethodId} {below : List Frame} {meth : Method} {c : Code} {b L0 : Nat} {xs : Nat → Int32} (hlt : l.stackTraces = false) (C0 : lw_At p s m meth c b L0 xs) {dC : Nat → ClassId} {dI : Nat → Nat → Nat} {dA : Nat → ClassId} {ad : Nat} (hE : kx_E ad (fun q : Nat => s.heap.size ≤ q) s s.heap) (hK : va_K (dC, dI) vwCl (tyA dA) s) (hL0 : L0 ≤ 4096) (x mm o od ki : Nat) (hki : 8 * ki + 8 ≤ L0) (hnext : ∀ (L : List Nat) (f : Nat → va_E) (H : Heap) (locs : List Loc) (ls : Array Slot), kLw dA ad x mm o od L f → va_P (dC, dI) vwCl (va_pl L f) H → va_D (fun q : Nat => s.heap.size ≤ q) (va_pl L f) → va_S (fun q : Nat => s.heap.size ≤ q) s.heap H locs → lv_has ls 10 [(0, .ref b), (1, .ref x), (2, .ref mm), (3, .ref o), (4, .ref od), (5, .int (nI (8 * ki)))] → W p l e room_1 s m #[Value.ref b] below meth c H locs (100 + 16 * ki + 16) (40000 + 2000 * ki + 2000) (lw_Z below #[Value.ref b] s) (F0 m 1254 ls [])) (L : List Nat) (f : Nat → va_E) (H : Heap) (locs : List Loc) (ls : Array Slot) (hLw : kLw dA ad x mm o od L f) (hP : va_P (dC, dI) vwCl (va_pl L f) H) (hD : va_D (fun q : Nat => s.heap.size ≤ q) (va_pl L f)) (hS : va_S (fun q : Nat => s.heap.size ≤ q) s.heap H locs) (hl : lv_has ls 10 [(0, .ref b), (1, .ref x), (2, .ref mm), (3, .ref o), (4, .ref od), (5, .int (nI (8 * ki)))]) : W p l e room_1 s m #[Value.ref b] below meth c H locs (100 + 16 * ki) (40000 + 2000 * ki) (lw_Z below #[Value.ref b] s) (F0 m 671 ls []) := by
  obtain ⟨hx, hb, hr, hml, hown, hts, hX, hbl, hlocks, hgv⟩ := C0
  have hts := fun w h => hts w (wsL_law_in w h)
  have hown : s.vm.findClass RL = some m.cls := hown
  have hA : ∀ q : Nat, s.heap.size ≤ q → (fun q : Nat => s.heap.size ≤ q) q := fun _ h => h
  have hbA : ¬ (fun q : Nat => s.heap.size ≤ q) b := Nat.not_le.mpr hbl
  generalize hAe : (fun q : Nat => s.heap.size ≤ q) = A at hE hD hS hA hbA hnext
  obtain ⟨τ, pv, bl, rl, kl, ba, ra, ka, fr, nb, nr, nk, fa, sa, aa, ia, sf, mk, hWx, hWm, hR, hto, htd, hwc, hI⟩ := hLw
  refine lv_aload_n hx hb dL_law_671 rfl (lv_at hl 1 rfl) ?_
  refine lv_aload_n hx hb dL_law_672 rfl (lv_at hl 0 rfl) ?_
  refine lv_iload hx hb dL_law_673 (lv_at hl 5 rfl) ?_
  refine lv_iconst (v := 1) hx hb dL_law_675 (by decide) ?_
  refine lv_iadd hx hb dL_law_676 ?_
  refine lv_topi (nm_r (show (nI (8 * ki)) + 1 = nI ((8 * ki) + 1) from nI_add ((8 * ki)) 1) ?_)
  refine va_sld hx hb hX hbl hbA hS (i := nI ((8 * ki) + 1)) (vp_in_nI (by omega) (by omega)) dL_law_677 ?_
  refine lv_topi (nm_r (show xs (nI ((8 * ki) + 1)).toNatClampNeg = xs ((8 * ki) + 1) from by rw [nI_clamp (by omega)]) ?_)
  refine lv_aload_n hx hb dL_law_678 rfl (lv_at hl 0 rfl) ?_
  refine lv_iload hx hb dL_law_679 (lv_at hl 5 rfl) ?_
  refine lv_iconst (v := 2) hx hb dL_law_681 (by decide) ?_
  refine lv_iadd hx hb dL_law_682 ?_
  refine lv_topi (nm_r (show (nI (8 * ki)) + 2 = nI ((8 * ki) + 2) from nI_add ((8 * ki)) 2) ?_)
  refine va_sld hx hb hX hbl hbA hS (i := nI ((8 * ki) + 2)) (vp_in_nI (by omega) (by omega)) dL_law_683 ?_
  refine lv_topi (nm_r (show xs (nI ((8 * ki) + 2)).toNatClampNeg = xs ((8 * ki) + 2) from by rw [nI_clamp (by omega)]) ?_)
  refine lv_aload_n hx hb dL_law_684 rfl (lv_at hl 0 rfl) ?_
  refine lv_iload hx hb dL_law_685 (lv_at hl 5 rfl) ?_
  refine lv_iconst (v := 3) hx hb dL_law_687 (by decide) ?_
  refine lv_iadd hx hb dL_law_688 ?_
  refine lv_topi (nm_r (show (nI (8 * ki)) + 3 = nI ((8 * ki) + 3) from nI_add ((8 * ki)) 3) ?_)
  refine va_sld hx hb hX hbl hbA hS (i := nI ((8 * ki) + 3)) (vp_in_nI (by omega) (by omega)) dL_law_689 ?_
  refine lv_topi (nm_r (show xs (nI ((8 * ki) + 3)).toNatClampNeg = xs ((8 * ki) + 3) from by rw [nI_clamp (by omega)]) ?_)
  refine lv_i2f hx hb dL_law_690 ?_
  refine lv_ldcf (v := 1040187392) hx hb hown (hts (.constantFloat RL 75 (1040187392)) (by decide +kernel)) dL_law_691 ?_
  have hc_1 : fb 1040187392 1040187392 := by unfold fb; decide +kernel
  refine lv_fmul hx hb dL_law_693 (kf_8 _) ?_
  refine lv_aload_n hx hb dL_law_694 rfl (lv_at hl 0 rfl) ?_
  refine lv_iload hx hb dL_law_695 (lv_at hl 5 rfl) ?_
  refine lv_iconst (v := 4) hx hb dL_law_697 (by decide) ?_
  refine lv_iadd hx hb dL_law_698 ?_
  refine lv_topi (nm_r (show (nI (8 * ki)) + 4 = nI ((8 * ki) + 4) from nI_add ((8 * ki)) 4) ?_)
  refine va_sld hx hb hX hbl hbA hS (i := nI ((8 * ki) + 4)) (vp_in_nI (by omega) (by omega)) dL_law_699 ?_
  refine lv_topi (nm_r (show xs (nI ((8 * ki) + 4)).toNatClampNeg = xs ((8 * ki) + 4) from by rw [nI_clamp (by omega)]) ?_)
  refine lv_i2f hx hb dL_law_700 ?_
  refine lv_ldcf (v := 1040187392) hx hb hown (hts (.constantFloat RL 75 (1040187392)) (by decide +kernel)) dL_law_701 ?_
  have hc_2 : fb 1040187392 1040187392 := by unfold fb; decide +kernel
  refine lv_fmul hx hb dL_law_703 (kf_8 _) ?_
  refine lv_aload_n hx hb dL_law_704 rfl (lv_at hl 0 rfl) ?_
  refine lv_iload hx hb dL_law_705 (lv_at hl 5 rfl) ?_
  refine lv_iconst (v := 5) hx hb dL_law_707 (by decide) ?_
  refine lv_iadd hx hb dL_law_708 ?_
  refine lv_topi (nm_r (show (nI (8 * ki)) + 5 = nI ((8 * ki) + 5) from nI_add ((8 * ki)) 5) ?_)
  refine va_sld hx hb hX hbl hbA hS (i := nI ((8 * ki) + 5)) (vp_in_nI (by omega) (by omega)) dL_law_709 ?_
  refine lv_topi (nm_r (show xs (nI ((8 * ki) + 5)).toNatClampNeg = xs ((8 * ki) + 5) from by rw [nI_clamp (by omega)]) ?_)
  refine lv_i2f hx hb dL_law_710 ?_
  refine lv_ldcf (v := 1040187392) hx hb hown (hts (.constantFloat RL 75 (1040187392)) (by decide +kernel)) dL_law_711 ?_
  have hc_3 : fb 1040187392 1040187392 := by unfold fb; decide +kernel
  refine lv_fmul hx hb dL_law_713 (kf_8 _) ?_
  refine lv_aload_n hx hb dL_law_714 rfl (lv_at hl 0 rfl) ?_
  refine lv_iload hx hb dL_law_715 (lv_at hl 5 rfl) ?_
  refine lv_bipush (v := 6) hx hb dL_law_717 (by decide) ?_
  refine lv_iadd hx hb dL_law_719 ?_
  refine lv_topi (nm_r (show (nI (8 * ki)) + 6 = nI ((8 * ki) + 6) from nI_add ((8 * ki)) 6) ?_)
  refine va_sld hx hb hX hbl hbA hS (i := nI ((8 * ki) + 6)) (vp_in_nI (by omega) (by omega)) dL_law_720 ?_
  refine lv_topi (nm_r (show xs (nI ((8 * ki) + 6)).toNatClampNeg = xs ((8 * ki) + 6) from by rw [nI_clamp (by omega)]) ?_)
  refine lv_i2f hx hb dL_law_721 ?_
  refine lv_ldcf (v := 1040187392) hx hb hown (hts (.constantFloat RL 75 (1040187392)) (by decide +kernel)) dL_law_722 ?_
  have hc_4 : fb 1040187392 1040187392 := by unfold fb; decide +kernel
  refine lv_fmul hx hb dL_law_724 (kf_8 _) ?_
  refine lv_aload_n hx hb dL_law_725 rfl (lv_at hl 0 rfl) ?_
  refine lv_iload hx hb dL_law_726 (lv_at hl 5 rfl) ?_
  refine lv_bipush (v := 7) hx hb dL_law_728 (by decide) ?_
  refine lv_iadd hx hb dL_law_730 ?_
  refine lv_topi (nm_r (show (nI (8 * ki)) + 7 = nI ((8 * ki) + 7) from nI_add ((8 * ki)) 7) ?_)
  refine va_sld hx hb hX hbl hbA hS (i := nI ((8 * ki) + 7)) (vp_in_nI (by omega) (by omega)) dL_law_731 ?_
  refine lv_topi (nm_r (show xs (nI ((8 * ki) + 7)).toNatClampNeg = xs ((8 * ki) + 7) from by rw [nI_clamp (by omega)]) ?_)
  refine lv_aload_n hx hb dL_law_732 rfl (lv_at hl 3 rfl) ?_
  refine kd_calli (vx_runSW (As := [.ref x, .int (xs ((8 * ki) + 1)), .int (xs ((8 * ki) + 2)), .float (FP.fmul (FP.i2f (xs ((8 * ki) + 3))) 1040187392), .float (FP.fmul (FP.i2f (xs ((8 * ki) + 4))) 1040187392), .float (FP.fmul (FP.i2f (xs ((8 * ki) + 5))) 1040187392), .float (FP.fmul (FP.i2f (xs ((8 * ki) + 6))) 1040187392), .int (xs ((8 * ki) + 7)), .ref o]) (rest := []) ⟨hx, hb, hml, hown, hts⟩ (w_row l dC dI dA ad _ τ pv _ _ hI x bl rl kl ba ra ka fr nb nr nk hWx (xs ((8 * ki) + 1)) (xs ((8 * ki) + 2)) (FP.fmul (FP.i2f (xs ((8 * ki) + 3))) 1040187392) (FP.fmul (FP.i2f (xs ((8 * ki) + 4))) 1040187392) (FP.fmul (FP.i2f (xs ((8 * ki) + 5))) 1040187392) (FP.fmul (FP.i2f (xs ((8 * ki) + 6))) 1040187392) (xs ((8 * ki) + 7)) o hto hlt) (vx_cwSW 9 hts gL_law_L_row rfl rfl rfl (by decide +kernel) ⟨Nat.le_of_ble_eq_true rfl, Nat.le_of_ble_eq_true rfl⟩) (kd_preS hP hD hK hS hA hE) rfl rfl hl.1 rfl (lv_room (Nat.le_of_ble_eq_true rfl)) dL_law_733 ⟨kz_rmc (by omega), kz_rms (by omega)⟩) hD hS hA (fun r_6 u_5 H locs hw hP hD hS => ?_)
  have htx := hWx.tx
  have htm := hWm.tm
  have htf9 := hWm.tf
  have hts9 := hWm.ts
  have hta9 := hWm.ta
  obtain ⟨rfl, τ, pv, bl, rl, kl, ba, ra, ka, fr, nk, hF9, hWx, hB9, hR9, hans, hN9, hI⟩ := hw
  have hwc := ((hF9.pn htx (k := 10) rfl).trans hwc).trans (hF9.pn htm (k := 26) rfl).symm
  have hWm := hWm.frm hF9
  have hR := hR.x hF9 kPmC_D htf9 hts9 hta9 hB9 (fun i hi => hR9 i hi (Nat.lt_of_lt_of_le hi kinc_le)) (Nat.le_refl _) (Nat.le_refl _)
  have hto := hF9.ty hto
  have htd := hF9.ty htd
  refine lv_istore (lv' := [(6, .int (kc_row (xs ((8 * ki) + 1)) (xs ((8 * ki) + 2)) nb nr (FP.fmul (FP.i2f (xs ((8 * ki) + 3))) 1040187392) (FP.fmul (FP.i2f (xs ((8 * ki) + 4))) 1040187392) (FP.fmul (FP.i2f (xs ((8 * ki) + 5))) 1040187392) (FP.fmul (FP.i2f (xs ((8 * ki) + 6))) 1040187392))), (0, .ref b), (1, .ref x), (2, .ref mm), (3, .ref o), (4, .ref od), (5, .int (nI (8 * ki)))]) hx hb dL_law_736 hl (by decide) rfl (fun ls hl => ?_)
  refine lv_aload_n hx hb dL_law_738 rfl (lv_at hl 3 rfl) ?_
  refine lv_aload_n hx hb dL_law_739 rfl (lv_at hl 1 rfl) ?_
  refine lv_iload hx hb dL_law_740 (lv_at hl 6 rfl) ?_
  refine lv_iconst (v := 1) hx hb dL_law_742 (by decide) ?_
  refine lv_iadd hx hb dL_law_743 ?_
  refine lv_topi (nm_r (show (nI (8 * ki)) + 1 = nI ((8 * ki) + 1) from nI_add ((8 * ki)) 1) ?_)
  refine va_sld hx hb hX hbl hbA hS (i := nI ((8 * ki) + 1)) (vp_in_nI (by omega) (by omega)) dL_law_744 ?_
  refine lv_topi (nm_r (show xs (nI ((8 * ki) + 1)).toNatClampNeg = xs ((8 * ki) + 1) from by rw [nI_clamp (by omega)]) ?_)
  refine lv_aload_n hx hb dL_law_745 rfl (lv_at hl 1 rfl) ?_
  refine lv_iload hx hb dL_law_746 (lv_at hl 6 rfl) ?_
  refine lv_iconst (v := 2) hx hb dL_law_748 (by decide) ?_
  refine lv_iadd hx hb dL_law_749 ?_
  refine lv_topi (nm_r (show (nI (8 * ki)) + 2 = nI ((8 * ki) + 2) from nI_add ((8 * ki)) 2) ?_)
  refine va_sld hx hb hX hbl hbA hS (i := nI ((8 * ki) + 2)) (vp_in_nI (by omega) (by omega)) dL_law_750 ?_
  refine lv_topi (nm_r (show xs (nI ((8 * ki) + 2)).toNatClampNeg = xs ((8 * ki) + 2) from by rw [nI_clamp (by omega)]) ?_)
  refine lv_aload_n hx hb dL_law_751 rfl (lv_at hl 1 rfl) ?_
  refine lv_iload hx hb dL_law_752 (lv_at hl 6 rfl) ?_
  refine lv_iconst (v := 3) hx hb dL_law_754 (by decide) ?_
  refine lv_iadd hx hb dL_law_755 ?_
  refine lv_topi (nm_r (show (nI (8 * ki)) + 3 = nI ((8 * ki) + 3) from nI_add ((8 * ki)) 3) ?_)
  refine va_sld hx hb hX hbl hbA hS (i := nI ((8 * ki) + 3)) (vp_in_nI (by omega) (by omega)) dL_law_756 ?_
  refine lv_topi (nm_r (show xs (nI ((8 * ki) + 3)).toNatClampNeg = xs ((8 * ki) + 3) from by rw [nI_clamp (by omega)]) ?_)
  refine lv_i2f hx hb dL_law_757 ?_
  refine lv_ldcf (v := 1040187392) hx hb hown (hts (.constantFloat RL 75 (1040187392)) (by decide +kernel)) dL_law_758 ?_
  have hc_7 : fb 1040187392 1040187392 := by unfold fb; decide +kernel
  refine lv_fmul hx hb dL_law_760 (kf_8 _) ?_
  refine lv_aload_n hx hb dL_law_761 rfl (lv_at hl 1 rfl) ?_
  refine lv_iload hx hb dL_law_762 (lv_at hl 6 rfl) ?_
  refine lv_iconst (v := 4) hx hb dL_law_764 (by decide) ?_
  refine lv_iadd hx hb dL_law_765 ?_
  refine lv_topi (nm_r (show (nI (8 * ki)) + 4 = nI ((8 * ki) + 4) from nI_add ((8 * ki)) 4) ?_)
  refine va_sld hx hb hX hbl hbA hS (i := nI ((8 * ki) + 4)) (vp_in_nI (by omega) (by omega)) dL_law_766 ?_
  refine lv_topi (nm_r (show xs (nI ((8 * ki) + 4)).toNatClampNeg = xs ((8 * ki) + 4) from by rw [nI_clamp (by omega)]) ?_)
  refine lv_i2f hx hb dL_law_767 ?_
  refine lv_ldcf (v := 1040187392) hx hb hown (hts (.constantFloat RL 75 (1040187392)) (by decide +kernel)) dL_law_768 ?_
  have hc_8 : fb 1040187392 1040187392 := by unfold fb; decide +kernel
  refine lv_fmul hx hb dL_law_770 (kf_8 _) ?_
  refine lv_aload_n hx hb dL_law_771 rfl (lv_at hl 1 rfl) ?_
  refine lv_iload hx hb dL_law_772 (lv_at hl 6 rfl) ?_
  refine lv_iconst (v := 5) hx hb dL_law_774 (by decide) ?_
  refine lv_iadd hx hb dL_law_775 ?_
  refine lv_topi (nm_r (show (nI (8 * ki)) + 5 = nI ((8 * ki) + 5) from nI_add ((8 * ki)) 5) ?_)
  refine va_sld hx hb hX hbl hbA hS (i := nI ((8 * ki) + 5)) (vp_in_nI (by omega) (by omega)) dL_law_776 ?_
  refine lv_topi (nm_r (show xs (nI ((8 * ki) + 5)).toNatClampNeg = xs ((8 * ki) + 5) from by rw [nI_clamp (by omega)]) ?_)
  refine lv_i2f hx hb dL_law_777 ?_
  refine lv_ldcf (v := 1040187392) hx hb hown (hts (.constantFloat RL 75 (1040187392)) (by decide +kernel)) dL_law_778 ?_
  have hc_9 : fb 1040187392 1040187392 := by unfold fb; decide +kernel
  refine lv_fmul hx hb dL_law_780 (kf_8 _) ?_
  refine lv_aload_n hx hb dL_law_781 rfl (lv_at hl 1 rfl) ?_
  refine lv_iload hx hb dL_law_782 (lv_at hl 6 rfl) ?_
  refine lv_bipush (v := 6) hx hb dL_law_784 (by decide) ?_
  refine lv_iadd hx hb dL_law_786 ?_
  refine lv_topi (nm_r (show (nI (8 * ki)) + 6 = nI ((8 * ki) + 6) from nI_add ((8 * ki)) 6) ?_)
  refine va_sld hx hb hX hbl hbA hS (i := nI ((8 * ki) + 6)) (vp_in_nI (by omega) (by omega)) dL_law_787 ?_
  refine lv_topi (nm_r (show xs (nI ((8 * ki) + 6)).toNatClampNeg = xs ((8 * ki) + 6) from by rw [nI_clamp (by omega)]) ?_)
  refine lv_i2f hx hb dL_law_788 ?_
  refine lv_ldcf (v := 1040187392) hx hb hown (hts (.constantFloat RL 75 (1040187392)) (by decide +kernel)) dL_law_789 ?_
  have hc_10 : fb 1040187392 1040187392 := by unfold fb; decide +kernel
  refine lv_fmul hx hb dL_law_791 (kf_8 _) ?_
  refine lv_aload_n hx hb dL_law_792 rfl (lv_at hl 1 rfl) ?_
  refine lv_iload hx hb dL_law_793 (lv_at hl 6 rfl) ?_
  refine lv_bipush (v := 7) hx hb dL_law_795 (by decide) ?_
  refine lv_iadd hx hb dL_law_797 ?_
  refine lv_topi (nm_r (show (nI (8 * ki)) + 7 = nI ((8 * ki) + 7) from nI_add ((8 * ki)) 7) ?_)
  refine va_sld hx hb hX hbl hbA hS (i := nI ((8 * ki) + 7)) (vp_in_nI (by omega) (by omega)) dL_law_798 ?_
  refine lv_topi (nm_r (show xs (nI ((8 * ki) + 7)).toNatClampNeg = xs ((8 * ki) + 7) from by rw [nI_clamp (by omega)]) ?_)
  refine kd_calli (va_runV (As := [.int (xs ((8 * ki) + 1)), .int (xs ((8 * ki) + 2)), .float (FP.fmul (FP.i2f (xs ((8 * ki) + 3))) 1040187392), .float (FP.fmul (FP.i2f (xs ((8 * ki) + 4))) 1040187392), .float (FP.fmul (FP.i2f (xs ((8 * ki) + 5))) 1040187392), .float (FP.fmul (FP.i2f (xs ((8 * ki) + 6))) 1040187392), .int (xs ((8 * ki) + 7))]) (rest := []) ⟨hx, hb, hml, hown, hts⟩ (m_p_row l dC dI dA ad _ τ pv _ _ hI mm fa sa aa ia sf nb nr mk hWm (xs ((8 * ki) + 1)) (xs ((8 * ki) + 2)) (FP.fmul (FP.i2f (xs ((8 * ki) + 3))) 1040187392) (FP.fmul (FP.i2f (xs ((8 * ki) + 4))) 1040187392) (FP.fmul (FP.i2f (xs ((8 * ki) + 5))) 1040187392) (FP.fmul (FP.i2f (xs ((8 * ki) + 6))) 1040187392) (xs ((8 * ki) + 7))) (cwV 7 hts gL_law_X4_row rfl rfl rfl (by decide +kernel) ⟨Nat.le_of_ble_eq_true rfl, Nat.le_of_ble_eq_true rfl⟩) (kd_preV hP hD hK hS hA hE hI hWm.tm rfl rfl) rfl rfl hl.1 rfl (lv_room (Nat.le_of_ble_eq_true rfl)) dL_law_799 ⟨kz_rmc (by omega), kz_rms (by omega)⟩) hD hS hA (fun r_12 u_11 H locs hw hP hD hS => ?_)
  have htx := hWx.tx
  have htm := hWm.tm
  have htf9 := hWm.tf
  have hts9 := hWm.ts
  have hta9 := hWm.ta
  obtain ⟨pv, mk, hF9, hWm, hth, hansm, hq9, hI⟩ := hw
  have hR := hR.m (hF9.weak (kPxr_s nr)) hWx (Nat.le_refl _) kinc_le (Nat.le_refl _) htf9 hts9 hta9
  have hN9 := fun h9 => (hN9 h9).fr (hF9.weak (kPxr_s nr)) hWx (fun _ => rfl) (fun _ => rfl) (Nat.le_refl _) (by rw [kinc_0 h9]; exact Nat.lt_succ_self _)
  have hR := hR.push hN9 hq9
  have hwc := ((hF9.pn htx (k := 10) rfl).trans hwc).trans (hF9.pn htm (k := 26) rfl).symm
  have hans : (kc_row (xs ((8 * ki) + 1)) (xs ((8 * ki) + 2)) nb nr (FP.fmul (FP.i2f (xs ((8 * ki) + 3))) 1040187392) (FP.fmul (FP.i2f (xs ((8 * ki) + 4))) 1040187392) (FP.fmul (FP.i2f (xs ((8 * ki) + 5))) 1040187392) (FP.fmul (FP.i2f (xs ((8 * ki) + 6))) 1040187392)) = 0 → pv o 0 = .long (r_12).toInt64 := fun h9 => by rw [hansm h9]; exact (hF9.pn hto (k := 0) rfl).trans (hans h9)
  have hWx := hWx.frw (hF9.weak (kPw_xr nr))
  refine lv_istore (lv' := [(7, .int r_12), (6, .int (kc_row (xs ((8 * ki) + 1)) (xs ((8 * ki) + 2)) nb nr (FP.fmul (FP.i2f (xs ((8 * ki) + 3))) 1040187392) (FP.fmul (FP.i2f (xs ((8 * ki) + 4))) 1040187392) (FP.fmul (FP.i2f (xs ((8 * ki) + 5))) 1040187392) (FP.fmul (FP.i2f (xs ((8 * ki) + 6))) 1040187392))), (0, .ref b), (1, .ref x), (2, .ref mm), (3, .ref o), (4, .ref od), (5, .int (nI (8 * ki)))]) hx hb dL_law_802 hl (by decide) rfl (fun ls hl => ?_)
  refine lv_goto (tgt := 1254) hx hb dL_law_804 (by decide) ?_
  have hl : lv_has ls 10 [(0, .ref b), (1, .ref x), (2, .ref mm), (3, .ref o), (4, .ref od), (5, .int (nI (8 * ki)))] := lv_sub hl [2, 3, 4, 5, 6, 7] rfl
  refine W.widen (k := 100 + 16 * ki + 16) (n := 40000 + 2000 * ki + 2000) (by omega) (by omega) ?_
  exact hnext _ _ _ _ _ ⟨τ, pv, bl, rl, kl, ba, ra, ka, fr, nb, (kinc (kc_row (xs ((8 * ki) + 1)) (xs ((8 * ki) + 2)) nb nr (FP.fmul (FP.i2f (xs ((8 * ki) + 3))) 1040187392) (FP.fmul (FP.i2f (xs ((8 * ki) + 4))) 1040187392) (FP.fmul (FP.i2f (xs ((8 * ki) + 5))) 1040187392) (FP.fmul (FP.i2f (xs ((8 * ki) + 6))) 1040187392)) nr), nk, fa, sa, aa, ia, sf, mk, hWx, hWm, hR, hto, htd, hwc, hI⟩ hP hD hS hl
