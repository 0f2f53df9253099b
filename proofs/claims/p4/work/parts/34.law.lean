set_option maxHeartbeats 8000000 in
set_option maxRecDepth 100000 in
theorem law_7 {p : Program} {l : Launch} {e : Env} {s : State} {m : MethodId} {below : List Frame} {meth : Method} {c : Code} {b L0 : Nat} {xs : Nat → Int32} (hlt : l.stackTraces = false) (C0 : lw_At p s m meth c b L0 xs) {dC : Nat → ClassId} {dI : Nat → Nat → Nat} {dA : Nat → ClassId} {ad : Nat} (hE : kx_E ad (fun q : Nat => s.heap.size ≤ q) s s.heap) (hK : va_K (dC, dI) vwCl (tyA dA) s) (hL0 : L0 ≤ 4096) (x mm o od ki : Nat) (hki : 8 * ki + 8 ≤ L0) (hnext : ∀ (L : List Nat) (f : Nat → va_E) (H : Heap) (locs : List Loc) (ls : Array Slot), kLw dA ad x mm o od L f → va_P (dC, dI) vwCl (va_pl L f) H → va_D (fun q : Nat => s.heap.size ≤ q) (va_pl L f) → va_S (fun q : Nat => s.heap.size ≤ q) s.heap H locs → lv_has ls 10 [(0, .ref b), (1, .ref x), (2, .ref mm), (3, .ref o), (4, .ref od), (5, .int (nI (8 * ki)))] → W p l e room_1 s m #[Value.ref b] below meth c H locs (100 + 16 * ki + 16) (40000 + 2000 * ki + 2000) (lw_Z below #[Value.ref b] s) (F0 m 1237 ls [])) (L : List Nat) (f : Nat → va_E) (H : Heap) (locs : List Loc) (ls : Array Slot) (hLw : kLw dA ad x mm o od L f) (hP : va_P (dC, dI) vwCl (va_pl L f) H) (hD : va_D (fun q : Nat => s.heap.size ≤ q) (va_pl L f)) (hS : va_S (fun q : Nat => s.heap.size ≤ q) s.heap H locs) (hl : lv_has ls 10 [(0, .ref b), (1, .ref x), (2, .ref mm), (3, .ref o), (4, .ref od), (5, .int (nI (8 * ki)))]) : W p l e room_1 s m #[Value.ref b] below meth c H locs (100 + 16 * ki) (40000 + 2000 * ki) (lw_Z below #[Value.ref b] s) (F0 m 818 ls []) := by
  obtain ⟨hx, hb, hr, hml, hown, hts, hX, hbl, hlocks, hgv⟩ := C0
  have hts := fun w h => hts w (wsL_law_in w h)
  have hown : s.vm.findClass RL = some m.cls := hown
  have hA : ∀ q : Nat, s.heap.size ≤ q → (fun q : Nat => s.heap.size ≤ q) q := fun _ h => h
  have hbA : ¬ (fun q : Nat => s.heap.size ≤ q) b := Nat.not_le.mpr hbl
  generalize hAe : (fun q : Nat => s.heap.size ≤ q) = A at hE hD hS hA hbA hnext
  obtain ⟨τ, pv, bl, rl, kl, ba, ra, ka, fr, nb, nr, nk, fa, sa, aa, ia, sf, mk, hWx, hWm, hR, hto, htd, hwc, hI⟩ := hLw
  refine lv_aload_n hx hb dL_law_818 rfl (lv_at hl 1 rfl) ?_
  refine lv_aload_n hx hb dL_law_819 rfl (lv_at hl 0 rfl) ?_
  refine lv_iload hx hb dL_law_820 (lv_at hl 5 rfl) ?_
  refine lv_iconst (v := 1) hx hb dL_law_822 (by decide) ?_
  refine lv_iadd hx hb dL_law_823 ?_
  refine lv_topi (nm_r (show (nI (8 * ki)) + 1 = nI ((8 * ki) + 1) from nI_add ((8 * ki)) 1) ?_)
  refine va_sld hx hb hX hbl hbA hS (i := nI ((8 * ki) + 1)) (vp_in_nI (by omega) (by omega)) dL_law_824 ?_
  refine lv_topi (nm_r (show xs (nI ((8 * ki) + 1)).toNatClampNeg = xs ((8 * ki) + 1) from by rw [nI_clamp (by omega)]) ?_)
  refine lv_aload_n hx hb dL_law_825 rfl (lv_at hl 0 rfl) ?_
  refine lv_iload hx hb dL_law_826 (lv_at hl 5 rfl) ?_
  refine lv_iconst (v := 2) hx hb dL_law_828 (by decide) ?_
  refine lv_iadd hx hb dL_law_829 ?_
  refine lv_topi (nm_r (show (nI (8 * ki)) + 2 = nI ((8 * ki) + 2) from nI_add ((8 * ki)) 2) ?_)
  refine va_sld hx hb hX hbl hbA hS (i := nI ((8 * ki) + 2)) (vp_in_nI (by omega) (by omega)) dL_law_830 ?_
  refine lv_topi (nm_r (show xs (nI ((8 * ki) + 2)).toNatClampNeg = xs ((8 * ki) + 2) from by rw [nI_clamp (by omega)]) ?_)
  refine lv_aload_n hx hb dL_law_831 rfl (lv_at hl 0 rfl) ?_
  refine lv_iload hx hb dL_law_832 (lv_at hl 5 rfl) ?_
  refine lv_iconst (v := 3) hx hb dL_law_834 (by decide) ?_
  refine lv_iadd hx hb dL_law_835 ?_
  refine lv_topi (nm_r (show (nI (8 * ki)) + 3 = nI ((8 * ki) + 3) from nI_add ((8 * ki)) 3) ?_)
  refine va_sld hx hb hX hbl hbA hS (i := nI ((8 * ki) + 3)) (vp_in_nI (by omega) (by omega)) dL_law_836 ?_
  refine lv_topi (nm_r (show xs (nI ((8 * ki) + 3)).toNatClampNeg = xs ((8 * ki) + 3) from by rw [nI_clamp (by omega)]) ?_)
  refine lv_i2f hx hb dL_law_837 ?_
  refine lv_ldcf (v := 1040187392) hx hb hown (hts (.constantFloat RL 75 (1040187392)) (by decide +kernel)) dL_law_838 ?_
  have hc_1 : fb 1040187392 1040187392 := by unfold fb; decide +kernel
  refine lv_fmul hx hb dL_law_840 (kf_8 _) ?_
  refine lv_aload_n hx hb dL_law_841 rfl (lv_at hl 0 rfl) ?_
  refine lv_iload hx hb dL_law_842 (lv_at hl 5 rfl) ?_
  refine lv_iconst (v := 4) hx hb dL_law_844 (by decide) ?_
  refine lv_iadd hx hb dL_law_845 ?_
  refine lv_topi (nm_r (show (nI (8 * ki)) + 4 = nI ((8 * ki) + 4) from nI_add ((8 * ki)) 4) ?_)
  refine va_sld hx hb hX hbl hbA hS (i := nI ((8 * ki) + 4)) (vp_in_nI (by omega) (by omega)) dL_law_846 ?_
  refine lv_topi (nm_r (show xs (nI ((8 * ki) + 4)).toNatClampNeg = xs ((8 * ki) + 4) from by rw [nI_clamp (by omega)]) ?_)
  refine lv_aload_n hx hb dL_law_847 rfl (lv_at hl 0 rfl) ?_
  refine lv_iload hx hb dL_law_848 (lv_at hl 5 rfl) ?_
  refine lv_iconst (v := 5) hx hb dL_law_850 (by decide) ?_
  refine lv_iadd hx hb dL_law_851 ?_
  refine lv_topi (nm_r (show (nI (8 * ki)) + 5 = nI ((8 * ki) + 5) from nI_add ((8 * ki)) 5) ?_)
  refine va_sld hx hb hX hbl hbA hS (i := nI ((8 * ki) + 5)) (vp_in_nI (by omega) (by omega)) dL_law_852 ?_
  refine lv_topi (nm_r (show xs (nI ((8 * ki) + 5)).toNatClampNeg = xs ((8 * ki) + 5) from by rw [nI_clamp (by omega)]) ?_)
  refine lv_i2f hx hb dL_law_853 ?_
  refine lv_ldcf (v := 1040187392) hx hb hown (hts (.constantFloat RL 75 (1040187392)) (by decide +kernel)) dL_law_854 ?_
  have hc_2 : fb 1040187392 1040187392 := by unfold fb; decide +kernel
  refine lv_fmul hx hb dL_law_856 (kf_8 _) ?_
  refine lv_aload_n hx hb dL_law_857 rfl (lv_at hl 0 rfl) ?_
  refine lv_iload hx hb dL_law_858 (lv_at hl 5 rfl) ?_
  refine lv_bipush (v := 6) hx hb dL_law_860 (by decide) ?_
  refine lv_iadd hx hb dL_law_862 ?_
  refine lv_topi (nm_r (show (nI (8 * ki)) + 6 = nI ((8 * ki) + 6) from nI_add ((8 * ki)) 6) ?_)
  refine va_sld hx hb hX hbl hbA hS (i := nI ((8 * ki) + 6)) (vp_in_nI (by omega) (by omega)) dL_law_863 ?_
  refine lv_topi (nm_r (show xs (nI ((8 * ki) + 6)).toNatClampNeg = xs ((8 * ki) + 6) from by rw [nI_clamp (by omega)]) ?_)
  refine lv_aload_n hx hb dL_law_864 rfl (lv_at hl 3 rfl) ?_
  obtain ⟨g9, hg9⟩ : ∃ g : Bool, g = kGx τ pv ba ra nb nr (xs ((8 * ki) + 1)) (xs ((8 * ki) + 2)) (xs ((8 * ki) + 4)) := ⟨_, rfl⟩
  have hgm := hg9.trans (hR.g hWx)
  refine kd_calli (vx_runSW (As := [.ref x, .int (xs ((8 * ki) + 1)), .int (xs ((8 * ki) + 2)), .float (FP.fmul (FP.i2f (xs ((8 * ki) + 3))) 1040187392), .int (xs ((8 * ki) + 4)), .float (FP.fmul (FP.i2f (xs ((8 * ki) + 5))) 1040187392), .int (xs ((8 * ki) + 6)), .ref o]) (rest := []) ⟨hx, hb, hml, hown, hts⟩ (w_rub l dC dI dA ad _ τ pv _ _ hI x bl rl kl ba ra ka fr nb nr nk hWx (xs ((8 * ki) + 1)) (xs ((8 * ki) + 2)) (FP.fmul (FP.i2f (xs ((8 * ki) + 3))) 1040187392) (xs ((8 * ki) + 4)) (FP.fmul (FP.i2f (xs ((8 * ki) + 5))) 1040187392) (xs ((8 * ki) + 6)) o hto g9 hg9 hlt) (vx_cwSW 8 hts gL_law_L_rub rfl rfl rfl (by decide +kernel) ⟨Nat.le_of_ble_eq_true rfl, Nat.le_of_ble_eq_true rfl⟩) (kd_preS hP hD hK hS hA hE) rfl rfl hl.1 rfl (lv_room (Nat.le_of_ble_eq_true rfl)) dL_law_865 ⟨kz_rmc (by omega), kz_rms (by omega)⟩) hD hS hA (fun r_4 u_3 H locs hw hP hD hS => ?_)
  have htx := hWx.tx
  have htm := hWm.tm
  have htf9 := hWm.tf
  have hts9 := hWm.ts
  have hta9 := hWm.ta
  obtain ⟨rfl, τ, pv, bl, rl, kl, ba, ra, ka, fr, nk, hF9, hWx, hB9, hR9, hans, hN9, hI⟩ := hw
  have hwc := ((hF9.pn htx (k := 10) rfl).trans hwc).trans (hF9.pn htm (k := 26) rfl).symm
  have hWm := hWm.frm hF9
  have hR := hR.x hF9 kPmC_D htf9 hts9 hta9 hB9 (fun i hi => hR9 i hi (Nat.lt_of_lt_of_le hi kinc_le)) (Nat.le_refl _) (Nat.le_refl _)
  have hgm := hgm.trans (kGm_fr hF9 kPmC_D htf9 hts9 hta9)
  have hto := hF9.ty hto
  have htd := hF9.ty htd
  refine lv_istore (lv' := [(6, .int (kc_rub (xs ((8 * ki) + 1)) (xs ((8 * ki) + 2)) nb nr (FP.fmul (FP.i2f (xs ((8 * ki) + 3))) 1040187392) (xs ((8 * ki) + 4)) (FP.fmul (FP.i2f (xs ((8 * ki) + 5))) 1040187392) g9)), (0, .ref b), (1, .ref x), (2, .ref mm), (3, .ref o), (4, .ref od), (5, .int (nI (8 * ki)))]) hx hb dL_law_868 hl (by decide) rfl (fun ls hl => ?_)
  refine lv_aload_n hx hb dL_law_870 rfl (lv_at hl 3 rfl) ?_
  refine lv_aload_n hx hb dL_law_871 rfl (lv_at hl 1 rfl) ?_
  refine lv_iload hx hb dL_law_872 (lv_at hl 6 rfl) ?_
  refine lv_iconst (v := 1) hx hb dL_law_874 (by decide) ?_
  refine lv_iadd hx hb dL_law_875 ?_
  refine lv_topi (nm_r (show (nI (8 * ki)) + 1 = nI ((8 * ki) + 1) from nI_add ((8 * ki)) 1) ?_)
  refine va_sld hx hb hX hbl hbA hS (i := nI ((8 * ki) + 1)) (vp_in_nI (by omega) (by omega)) dL_law_876 ?_
  refine lv_topi (nm_r (show xs (nI ((8 * ki) + 1)).toNatClampNeg = xs ((8 * ki) + 1) from by rw [nI_clamp (by omega)]) ?_)
  refine lv_aload_n hx hb dL_law_877 rfl (lv_at hl 1 rfl) ?_
  refine lv_iload hx hb dL_law_878 (lv_at hl 6 rfl) ?_
  refine lv_iconst (v := 2) hx hb dL_law_880 (by decide) ?_
  refine lv_iadd hx hb dL_law_881 ?_
  refine lv_topi (nm_r (show (nI (8 * ki)) + 2 = nI ((8 * ki) + 2) from nI_add ((8 * ki)) 2) ?_)
  refine va_sld hx hb hX hbl hbA hS (i := nI ((8 * ki) + 2)) (vp_in_nI (by omega) (by omega)) dL_law_882 ?_
  refine lv_topi (nm_r (show xs (nI ((8 * ki) + 2)).toNatClampNeg = xs ((8 * ki) + 2) from by rw [nI_clamp (by omega)]) ?_)
  refine lv_aload_n hx hb dL_law_883 rfl (lv_at hl 1 rfl) ?_
  refine lv_iload hx hb dL_law_884 (lv_at hl 6 rfl) ?_
  refine lv_iconst (v := 3) hx hb dL_law_886 (by decide) ?_
  refine lv_iadd hx hb dL_law_887 ?_
  refine lv_topi (nm_r (show (nI (8 * ki)) + 3 = nI ((8 * ki) + 3) from nI_add ((8 * ki)) 3) ?_)
  refine va_sld hx hb hX hbl hbA hS (i := nI ((8 * ki) + 3)) (vp_in_nI (by omega) (by omega)) dL_law_888 ?_
  refine lv_topi (nm_r (show xs (nI ((8 * ki) + 3)).toNatClampNeg = xs ((8 * ki) + 3) from by rw [nI_clamp (by omega)]) ?_)
  refine lv_i2f hx hb dL_law_889 ?_
  refine lv_ldcf (v := 1040187392) hx hb hown (hts (.constantFloat RL 75 (1040187392)) (by decide +kernel)) dL_law_890 ?_
  have hc_5 : fb 1040187392 1040187392 := by unfold fb; decide +kernel
  refine lv_fmul hx hb dL_law_892 (kf_8 _) ?_
  refine lv_aload_n hx hb dL_law_893 rfl (lv_at hl 1 rfl) ?_
  refine lv_iload hx hb dL_law_894 (lv_at hl 6 rfl) ?_
  refine lv_iconst (v := 4) hx hb dL_law_896 (by decide) ?_
  refine lv_iadd hx hb dL_law_897 ?_
  refine lv_topi (nm_r (show (nI (8 * ki)) + 4 = nI ((8 * ki) + 4) from nI_add ((8 * ki)) 4) ?_)
  refine va_sld hx hb hX hbl hbA hS (i := nI ((8 * ki) + 4)) (vp_in_nI (by omega) (by omega)) dL_law_898 ?_
  refine lv_topi (nm_r (show xs (nI ((8 * ki) + 4)).toNatClampNeg = xs ((8 * ki) + 4) from by rw [nI_clamp (by omega)]) ?_)
  refine lv_aload_n hx hb dL_law_899 rfl (lv_at hl 1 rfl) ?_
  refine lv_iload hx hb dL_law_900 (lv_at hl 6 rfl) ?_
  refine lv_iconst (v := 5) hx hb dL_law_902 (by decide) ?_
  refine lv_iadd hx hb dL_law_903 ?_
  refine lv_topi (nm_r (show (nI (8 * ki)) + 5 = nI ((8 * ki) + 5) from nI_add ((8 * ki)) 5) ?_)
  refine va_sld hx hb hX hbl hbA hS (i := nI ((8 * ki) + 5)) (vp_in_nI (by omega) (by omega)) dL_law_904 ?_
  refine lv_topi (nm_r (show xs (nI ((8 * ki) + 5)).toNatClampNeg = xs ((8 * ki) + 5) from by rw [nI_clamp (by omega)]) ?_)
  refine lv_i2f hx hb dL_law_905 ?_
  refine lv_ldcf (v := 1040187392) hx hb hown (hts (.constantFloat RL 75 (1040187392)) (by decide +kernel)) dL_law_906 ?_
  have hc_6 : fb 1040187392 1040187392 := by unfold fb; decide +kernel
  refine lv_fmul hx hb dL_law_908 (kf_8 _) ?_
  refine lv_aload_n hx hb dL_law_909 rfl (lv_at hl 1 rfl) ?_
  refine lv_iload hx hb dL_law_910 (lv_at hl 6 rfl) ?_
  refine lv_bipush (v := 6) hx hb dL_law_912 (by decide) ?_
  refine lv_iadd hx hb dL_law_914 ?_
  refine lv_topi (nm_r (show (nI (8 * ki)) + 6 = nI ((8 * ki) + 6) from nI_add ((8 * ki)) 6) ?_)
  refine va_sld hx hb hX hbl hbA hS (i := nI ((8 * ki) + 6)) (vp_in_nI (by omega) (by omega)) dL_law_915 ?_
  refine lv_topi (nm_r (show xs (nI ((8 * ki) + 6)).toNatClampNeg = xs ((8 * ki) + 6) from by rw [nI_clamp (by omega)]) ?_)
  refine kd_calli (va_runV (As := [.int (xs ((8 * ki) + 1)), .int (xs ((8 * ki) + 2)), .float (FP.fmul (FP.i2f (xs ((8 * ki) + 3))) 1040187392), .int (xs ((8 * ki) + 4)), .float (FP.fmul (FP.i2f (xs ((8 * ki) + 5))) 1040187392), .int (xs ((8 * ki) + 6))]) (rest := []) ⟨hx, hb, hml, hown, hts⟩ (m_p_rub l dC dI dA ad _ τ pv _ _ hI mm fa sa aa ia sf nb nr mk hWm (xs ((8 * ki) + 1)) (xs ((8 * ki) + 2)) (FP.fmul (FP.i2f (xs ((8 * ki) + 3))) 1040187392) (xs ((8 * ki) + 4)) (FP.fmul (FP.i2f (xs ((8 * ki) + 5))) 1040187392) (xs ((8 * ki) + 6)) g9 hgm) (cwV 6 hts gL_law_X4_rub rfl rfl rfl (by decide +kernel) ⟨Nat.le_of_ble_eq_true rfl, Nat.le_of_ble_eq_true rfl⟩) (kd_preV hP hD hK hS hA hE hI hWm.tm rfl rfl) rfl rfl hl.1 rfl (lv_room (Nat.le_of_ble_eq_true rfl)) dL_law_916 ⟨kz_rmc (by omega), kz_rms (by omega)⟩) hD hS hA (fun r_8 u_7 H locs hw hP hD hS => ?_)
  have htx := hWx.tx
  have htm := hWm.tm
  have htf9 := hWm.tf
  have hts9 := hWm.ts
  have hta9 := hWm.ta
  obtain ⟨pv, mk, hF9, hWm, hth, hansm, hq9, hI⟩ := hw
  have hR := hR.m (hF9.weak (kPxr_s nr)) hWx (Nat.le_refl _) kinc_le (Nat.le_refl _) htf9 hts9 hta9
  have hN9 := fun h9 => (hN9 h9).fr (hF9.weak (kPxr_s nr)) hWx (fun _ => rfl) (fun _ => rfl) (Nat.le_refl _) (by rw [kinc_0 h9]; exact Nat.lt_succ_self _)
  have hR := hR.push hN9 hq9
  have hwc := ((hF9.pn htx (k := 10) rfl).trans hwc).trans (hF9.pn htm (k := 26) rfl).symm
  have hans : (kc_rub (xs ((8 * ki) + 1)) (xs ((8 * ki) + 2)) nb nr (FP.fmul (FP.i2f (xs ((8 * ki) + 3))) 1040187392) (xs ((8 * ki) + 4)) (FP.fmul (FP.i2f (xs ((8 * ki) + 5))) 1040187392) g9) = 0 → pv o 0 = .long (r_8).toInt64 := fun h9 => by rw [hansm h9]; exact (hF9.pn hto (k := 0) rfl).trans (hans h9)
  have hWx := hWx.frw (hF9.weak (kPw_xr nr))
  refine lv_istore (lv' := [(7, .int r_8), (6, .int (kc_rub (xs ((8 * ki) + 1)) (xs ((8 * ki) + 2)) nb nr (FP.fmul (FP.i2f (xs ((8 * ki) + 3))) 1040187392) (xs ((8 * ki) + 4)) (FP.fmul (FP.i2f (xs ((8 * ki) + 5))) 1040187392) g9)), (0, .ref b), (1, .ref x), (2, .ref mm), (3, .ref o), (4, .ref od), (5, .int (nI (8 * ki)))]) hx hb dL_law_919 hl (by decide) rfl (fun ls hl => ?_)
  refine lv_goto (tgt := 1237) hx hb dL_law_921 (by decide) ?_
  have hl : lv_has ls 10 [(0, .ref b), (1, .ref x), (2, .ref mm), (3, .ref o), (4, .ref od), (5, .int (nI (8 * ki)))] := lv_sub hl [2, 3, 4, 5, 6, 7] rfl
  refine W.widen (k := 100 + 16 * ki + 16) (n := 40000 + 2000 * ki + 2000) (by omega) (by omega) ?_
  exact hnext _ _ _ _ _ ⟨τ, pv, bl, rl, kl, ba, ra, ka, fr, nb, (kinc (kc_rub (xs ((8 * ki) + 1)) (xs ((8 * ki) + 2)) nb nr (FP.fmul (FP.i2f (xs ((8 * ki) + 3))) 1040187392) (xs ((8 * ki) + 4)) (FP.fmul (FP.i2f (xs ((8 * ki) + 5))) 1040187392) g9) nr), nk, fa, sa, aa, ia, sf, mk, hWx, hWm, hR, hto, htd, hwc, hI⟩ hP hD hS hl

set_option maxHeartbeats 8000000 in
set_option maxRecDepth 100000 in
theorem law_8 {p : Program} {l : Launch} {e : Env} {s : State} {m : MethodId} {below : List Frame} {meth : Method} {c : Code} {b L0 : Nat} {xs : Nat → Int32} (hlt : l.stackTraces = false) (C0 : lw_At p s m meth c b L0 xs) {dC : Nat → ClassId} {dI : Nat → Nat → Nat} {dA : Nat → ClassId} {ad : Nat} (hE : kx_E ad (fun q : Nat => s.heap.size ≤ q) s s.heap) (hK : va_K (dC, dI) vwCl (tyA dA) s) (hL0 : L0 ≤ 4096) (x mm o od ki : Nat) (hki : 8 * ki + 8 ≤ L0) (hnext : ∀ (L : List Nat) (f : Nat → va_E) (H : Heap) (locs : List Loc) (ls : Array Slot), kLw dA ad x mm o od L f → va_P (dC, dI) vwCl (va_pl L f) H → va_D (fun q : Nat => s.heap.size ≤ q) (va_pl L f) → va_S (fun q : Nat => s.heap.size ≤ q) s.heap H locs → lv_has ls 10 [(0, .ref b), (1, .ref x), (2, .ref mm), (3, .ref o), (4, .ref od), (5, .int (nI (8 * ki)))] → W p l e room_1 s m #[Value.ref b] below meth c H locs (100 + 16 * ki + 16) (40000 + 2000 * ki + 2000) (lw_Z below #[Value.ref b] s) (F0 m 1237 ls [])) (L : List Nat) (f : Nat → va_E) (H : Heap) (locs : List Loc) (ls : Array Slot) (hLw : kLw dA ad x mm o od L f) (hP : va_P (dC, dI) vwCl (va_pl L f) H) (hD : va_D (fun q : Nat => s.heap.size ≤ q) (va_pl L f)) (hS : va_S (fun q : Nat => s.heap.size ≤ q) s.heap H locs) (hl : lv_has ls 10 [(0, .ref b), (1, .ref x), (2, .ref mm), (3, .ref o), (4, .ref od), (5, .int (nI (8 * ki)))]) : W p l e room_1 s m #[Value.ref b] below meth c H locs (100 + 16 * ki) (40000 + 2000 * ki) (lw_Z below #[Value.ref b] s) (F0 m 924 ls []) := by
  obtain ⟨hx, hb, hr, hml, hown, hts, hX, hbl, hlocks, hgv⟩ := C0
  have hts := fun w h => hts w (wsL_law_in w h)
  have hown : s.vm.findClass RL = some m.cls := hown
  have hA : ∀ q : Nat, s.heap.size ≤ q → (fun q : Nat => s.heap.size ≤ q) q := fun _ h => h
  have hbA : ¬ (fun q : Nat => s.heap.size ≤ q) b := Nat.not_le.mpr hbl
  generalize hAe : (fun q : Nat => s.heap.size ≤ q) = A at hE hD hS hA hbA hnext
  obtain ⟨τ, pv, bl, rl, kl, ba, ra, ka, fr, nb, nr, nk, fa, sa, aa, ia, sf, mk, hWx, hWm, hR, hto, htd, hwc, hI⟩ := hLw
  refine lv_aload_n hx hb dL_law_924 rfl (lv_at hl 1 rfl) ?_
  refine kd_calli (va_runV (As := []) (rest := []) ⟨hx, hb, hml, hown, hts⟩ (k_p_clear l dC dI dA ad _ τ pv _ _ hI x bl rl kl ba ra ka fr nb nr nk hWx ) (cwV 0 hts gL_law_X3_clear rfl rfl rfl (by decide +kernel) ⟨Nat.le_of_ble_eq_true rfl, Nat.le_of_ble_eq_true rfl⟩) (kd_preV hP hD hK hS hA hE hI hWx.tx rfl rfl) rfl rfl hl.1 rfl (lv_room (Nat.le_of_ble_eq_true rfl)) dL_law_925 ⟨kz_rmc (by omega), kz_rms (by omega)⟩) hD hS hA (fun r_2 u_1 H locs hw hP hD hS => ?_)
  have htx := hWx.tx
  have htm := hWm.tm
  have htf9 := hWm.tf
  have hts9 := hWm.ts
  have hta9 := hWm.ta
  obtain ⟨rfl, τ, pv, bl, rl, kl, ba, ra, ka, fr, nk, hF9, hWx, hB9, hR9, hI⟩ := hw
  have hwc := ((hF9.pn htx (k := 10) rfl).trans hwc).trans (hF9.pn htm (k := 26) rfl).symm
  have hWm := hWm.frm hF9
  have hR : kRel τ pv ba ra fa sa aa nb 0 := kRel.nil
  have hto := hF9.ty hto
  have htd := hF9.ty htd
  refine lv_pop hx hb dL_law_928 rfl ?_
  refine lv_aload_n hx hb dL_law_929 rfl (lv_at hl 2 rfl) ?_
  refine kd_calli (va_runV (As := []) (rest := []) ⟨hx, hb, hml, hown, hts⟩ (m_p_clear l dC dI dA ad _ τ pv _ _ hI mm fa sa aa ia sf nb nr mk hWm ) (cwV 0 hts gL_law_X4_clear rfl rfl rfl (by decide +kernel) ⟨Nat.le_of_ble_eq_true rfl, Nat.le_of_ble_eq_true rfl⟩) (kd_preV hP hD hK hS hA hE hI hWm.tm rfl rfl) rfl rfl hl.1 rfl (lv_room (Nat.le_of_ble_eq_true rfl)) dL_law_930 ⟨kz_rmc (by omega), kz_rms (by omega)⟩) hD hS hA (fun r_4 u_3 H locs hw hP hD hS => ?_)
  have htx := hWx.tx
  have htm := hWm.tm
  have htf9 := hWm.tf
  have hts9 := hWm.ts
  have hta9 := hWm.ta
  obtain ⟨rfl, pv, mk, hF9, hWm, hI⟩ := hw
  have hR := hR.m (hF9.weak (kPx_s nr)) hWx (Nat.le_refl _) (Nat.le_refl _) (Nat.zero_le _) htf9 hts9 hta9
  have hwc := ((hF9.pn htx (k := 10) rfl).trans hwc).trans (hF9.pn htm (k := 26) rfl).symm
  have hWx := hWx.frx hF9
  refine lv_pop hx hb dL_law_933 rfl ?_
  refine lv_goto (tgt := 1237) hx hb dL_law_934 (by decide) ?_
  have hl : lv_has ls 10 [(0, .ref b), (1, .ref x), (2, .ref mm), (3, .ref o), (4, .ref od), (5, .int (nI (8 * ki)))] := lv_sub hl [0, 1, 2, 3, 4, 5] rfl
  refine W.widen (k := 100 + 16 * ki + 16) (n := 40000 + 2000 * ki + 2000) (by omega) (by omega) ?_
  exact hnext _ _ _ _ _ ⟨τ, pv, bl, rl, kl, ba, ra, ka, fr, nb, 0, nk, fa, sa, aa, ia, sf, mk, hWx, hWm, hR, hto, htd, hwc, hI⟩ hP hD hS hl
