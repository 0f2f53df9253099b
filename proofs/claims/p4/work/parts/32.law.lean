set_option maxHeartbeats 8000000 in
set_option maxRecDepth 100000 in
theorem law_4 {p : Program} {l : Launch} {e : Env} {s : State} {m : MethodId} {below : List Frame} {meth : Method} {c : Code} {b L0 : Nat} {xs : Nat → Int32} (hlt : l.stackTraces = false) (C0 : lw_At p s m meth c b L0 xs) {dC : Nat → ClassId} {dI : Nat → Nat → Nat} {dA : Nat → ClassId} {ad : Nat} (hE : kx_E ad (fun q : Nat => s.heap.size ≤ q) s s.heap) (hK : va_K (dC, dI) vwCl (tyA dA) s) (hL0 : L0 ≤ 4096) (x mm o od ki : Nat) (hki : 8 * ki + 8 ≤ L0) (hnext : ∀ (L : List Nat) (f : Nat → va_E) (H : Heap) (locs : List Loc) (ls : Array Slot), kLw dA ad x mm o od L f → va_P (dC, dI) vwCl (va_pl L f) H → va_D (fun q : Nat => s.heap.size ≤ q) (va_pl L f) → va_S (fun q : Nat => s.heap.size ≤ q) s.heap H locs → lv_has ls 10 [(0, .ref b), (1, .ref x), (2, .ref mm), (3, .ref o), (4, .ref od), (5, .int (nI (8 * ki)))] → W p l e room_1 s m #[Value.ref b] below meth c H locs (100 + 16 * ki + 16) (40000 + 2000 * ki + 2000) (lw_Z below #[Value.ref b] s) (F0 m 1237 ls [])) (L : List Nat) (f : Nat → va_E) (H : Heap) (locs : List Loc) (ls : Array Slot) (hLw : kLw dA ad x mm o od L f) (hP : va_P (dC, dI) vwCl (va_pl L f) H) (hD : va_D (fun q : Nat => s.heap.size ≤ q) (va_pl L f)) (hS : va_S (fun q : Nat => s.heap.size ≤ q) s.heap H locs) (hl : lv_has ls 10 [(0, .ref b), (1, .ref x), (2, .ref mm), (3, .ref o), (4, .ref od), (5, .int (nI (8 * ki)))]) : W p l e room_1 s m #[Value.ref b] below meth c H locs (100 + 16 * ki) (40000 + 2000 * ki) (lw_Z below #[Value.ref b] s) (F0 m 569 ls []) := by
  obtain ⟨hx, hb, hr, hml, hown, hts, hX, hbl, hlocks, hgv⟩ := C0
  have hts := fun w h => hts w (wsL_law_in w h)
  have hown : s.vm.findClass RL = some m.cls := hown
  have hA : ∀ q : Nat, s.heap.size ≤ q → (fun q : Nat => s.heap.size ≤ q) q := fun _ h => h
  have hbA : ¬ (fun q : Nat => s.heap.size ≤ q) b := Nat.not_le.mpr hbl
  generalize hAe : (fun q : Nat => s.heap.size ≤ q) = A at hE hD hS hA hbA hnext
  obtain ⟨τ, pv, bl, rl, kl, ba, ra, ka, fr, nb, nr, nk, fa, sa, aa, ia, sf, mk, hWx, hWm, hR, hto, htd, hwc, hI⟩ := hLw
  refine lv_aload_n hx hb dL_law_569 rfl (lv_at hl 1 rfl) ?_
  refine lv_aload_n hx hb dL_law_570 rfl (lv_at hl 0 rfl) ?_
  refine lv_iload hx hb dL_law_571 (lv_at hl 5 rfl) ?_
  refine lv_iconst (v := 1) hx hb dL_law_573 (by decide) ?_
  refine lv_iadd hx hb dL_law_574 ?_
  refine lv_topi (nm_r (show (nI (8 * ki)) + 1 = nI ((8 * ki) + 1) from nI_add ((8 * ki)) 1) ?_)
  refine va_sld hx hb hX hbl hbA hS (i := nI ((8 * ki) + 1)) (vp_in_nI (by omega) (by omega)) dL_law_575 ?_
  refine lv_topi (nm_r (show xs (nI ((8 * ki) + 1)).toNatClampNeg = xs ((8 * ki) + 1) from by rw [nI_clamp (by omega)]) ?_)
  refine lv_aload_n hx hb dL_law_576 rfl (lv_at hl 3 rfl) ?_
  refine kd_calli (vx_runSW (As := [.ref x, .int (xs ((8 * ki) + 1)), .ref o]) (rest := []) ⟨hx, hb, hml, hown, hts⟩ (w_wake l dC dI dA ad _ τ pv _ _ hI x bl rl kl ba ra ka fr nb nr nk hWx (xs ((8 * ki) + 1)) o hto hlt) (vx_cwSW 3 hts gL_law_L_wake rfl rfl rfl (by decide +kernel) ⟨Nat.le_of_ble_eq_true rfl, Nat.le_of_ble_eq_true rfl⟩) (kd_preS hP hD hK hS hA hE) rfl rfl hl.1 rfl (lv_room (Nat.le_of_ble_eq_true rfl)) dL_law_577 ⟨kz_rmc (by omega), kz_rms (by omega)⟩) hD hS hA (fun r_2 u_1 H locs hw hP hD hS => ?_)
  have htx := hWx.tx
  have htm := hWm.tm
  have htf9 := hWm.tf
  have hts9 := hWm.ts
  have hta9 := hWm.ta
  obtain ⟨τ, pv, bl, rl, kl, ba, ra, ka, fr, nk, hF9, hWx, hB9, hR9, hI⟩ := hw
  have hwc := ((hF9.pn htx (k := 10) rfl).trans hwc).trans (hF9.pn htm (k := 26) rfl).symm
  have hWm := hWm.frm hF9
  have hR := hR.x hF9 kPmC_D htf9 hts9 hta9 hB9 (fun i hi => hR9 i hi hi) (Nat.le_refl _) (Nat.le_refl _)
  have hto := hF9.ty hto
  have htd := hF9.ty htd
  refine lv_istore (lv' := [(6, .int r_2), (0, .ref b), (1, .ref x), (2, .ref mm), (3, .ref o), (4, .ref od), (5, .int (nI (8 * ki)))]) hx hb dL_law_580 hl (by decide) rfl (fun ls hl => ?_)
  refine lv_aload_n hx hb dL_law_582 rfl (lv_at hl 3 rfl) ?_
  refine lv_aload_n hx hb dL_law_583 rfl (lv_at hl 1 rfl) ?_
  refine lv_iload hx hb dL_law_584 (lv_at hl 6 rfl) ?_
  refine lv_iconst (v := 1) hx hb dL_law_586 (by decide) ?_
  refine lv_iadd hx hb dL_law_587 ?_
  refine lv_topi (nm_r (show (nI (8 * ki)) + 1 = nI ((8 * ki) + 1) from nI_add ((8 * ki)) 1) ?_)
  refine va_sld hx hb hX hbl hbA hS (i := nI ((8 * ki) + 1)) (vp_in_nI (by omega) (by omega)) dL_law_588 ?_
  refine lv_topi (nm_r (show xs (nI ((8 * ki) + 1)).toNatClampNeg = xs ((8 * ki) + 1) from by rw [nI_clamp (by omega)]) ?_)
  refine kd_calli (va_runV (As := [.int (xs ((8 * ki) + 1))]) (rest := []) ⟨hx, hb, hml, hown, hts⟩ (m_p_wake l dC dI dA ad _ τ pv _ _ hI mm fa sa aa ia sf nb nr mk hWm (xs ((8 * ki) + 1))) (cwV 1 hts gL_law_X4_wake rfl rfl rfl (by decide +kernel) ⟨Nat.le_of_ble_eq_true rfl, Nat.le_of_ble_eq_true rfl⟩) (kd_preV hP hD hK hS hA hE hI hWm.tm rfl rfl) rfl rfl hl.1 rfl (lv_room (Nat.le_of_ble_eq_true rfl)) dL_law_589 ⟨kz_rmc (by omega), kz_rms (by omega)⟩) hD hS hA (fun r_4 u_3 H locs hw hP hD hS => ?_)
  have htx := hWx.tx
  have htm := hWm.tm
  have htf9 := hWm.tf
  have hts9 := hWm.ts
  have hta9 := hWm.ta
  obtain ⟨pv, mk, hF9, hWm, hI⟩ := hw
  have hR := hR.m (hF9.weak (kPx_s nr)) hWx (Nat.le_refl _) (Nat.le_refl _) (Nat.le_refl _) htf9 hts9 hta9
  have hwc := ((hF9.pn htx (k := 10) rfl).trans hwc).trans (hF9.pn htm (k := 26) rfl).symm
  have hWx := hWx.frx hF9
  refine lv_istore (lv' := [(7, .int r_4), (6, .int r_2), (0, .ref b), (1, .ref x), (2, .ref mm), (3, .ref o), (4, .ref od), (5, .int (nI (8 * ki)))]) hx hb dL_law_592 hl (by decide) rfl (fun ls hl => ?_)
  refine lv_goto (tgt := 1237) hx hb dL_law_594 (by decide) ?_
  have hl : lv_has ls 10 [(0, .ref b), (1, .ref x), (2, .ref mm), (3, .ref o), (4, .ref od), (5, .int (nI (8 * ki)))] := lv_sub hl [2, 3, 4, 5, 6, 7] rfl
  refine W.widen (k := 100 + 16 * ki + 16) (n := 40000 + 2000 * ki + 2000) (by omega) (by omega) ?_
  exact hnext _ _ _ _ _ ⟨τ, pv, bl, rl, kl, ba, ra, ka, fr, nb, nr, nk, fa, sa, aa, ia, sf, mk, hWx, hWm, hR, hto, htd, hwc, hI⟩ hP hD hS hl

set_option maxHeartbeats 8000000 in
set_option maxRecDepth 100000 in
theorem law_5 {p : Program} {l : Launch} {e : Env} {s : State} {m : MethodId} {below : List Frame} {meth : Method} {c : Code} {b L0 : Nat} {xs : Nat → Int32} (hlt : l.stackTraces = false) (C0 : lw_At p s m meth c b L0 xs) {dC : Nat → ClassId} {dI : Nat → Nat → Nat} {dA : Nat → ClassId} {ad : Nat} (hE : kx_E ad (fun q : Nat => s.heap.size ≤ q) s s.heap) (hK : va_K (dC, dI) vwCl (tyA dA) s) (hL0 : L0 ≤ 4096) (x mm o od ki : Nat) (hki : 8 * ki + 8 ≤ L0) (hnext : ∀ (L : List Nat) (f : Nat → va_E) (H : Heap) (locs : List Loc) (ls : Array Slot), kLw dA ad x mm o od L f → va_P (dC, dI) vwCl (va_pl L f) H → va_D (fun q : Nat => s.heap.size ≤ q) (va_pl L f) → va_S (fun q : Nat => s.heap.size ≤ q) s.heap H locs → lv_has ls 10 [(0, .ref b), (1, .ref x), (2, .ref mm), (3, .ref o), (4, .ref od), (5, .int (nI (8 * ki)))] → W p l e room_1 s m #[Value.ref b] below meth c H locs (100 + 16 * ki + 16) (40000 + 2000 * ki + 2000) (lw_Z below #[Value.ref b] s) (F0 m 1237 ls [])) (L : List Nat) (f : Nat → va_E) (H : Heap) (locs : List Loc) (ls : Array Slot) (hLw : kLw dA ad x mm o od L f) (hP : va_P (dC, dI) vwCl (va_pl L f) H) (hD : va_D (fun q : Nat => s.heap.size ≤ q) (va_pl L f)) (hS : va_S (fun q : Nat => s.heap.size ≤ q) s.heap H locs) (hl : lv_has ls 10 [(0, .ref b), (1, .ref x), (2, .ref mm), (3, .ref o), (4, .ref od), (5, .int (nI (8 * ki)))]) : W p l e room_1 s m #[Value.ref b] below meth c H locs (100 + 16 * ki) (40000 + 2000 * ki) (lw_Z below #[Value.ref b] s) (F0 m 597 ls []) := by
  obtain ⟨hx, hb, hr, hml, hown, hts, hX, hbl, hlocks, hgv⟩ := C0
  have hts := fun w h => hts w (wsL_law_in w h)
  have hown : s.vm.findClass RL = some m.cls := hown
  have hA : ∀ q : Nat, s.heap.size ≤ q → (fun q : Nat => s.heap.size ≤ q) q := fun _ h => h
  have hbA : ¬ (fun q : Nat => s.heap.size ≤ q) b := Nat.not_le.mpr hbl
  generalize hAe : (fun q : Nat => s.heap.size ≤ q) = A at hE hD hS hA hbA hnext
  obtain ⟨τ, pv, bl, rl, kl, ba, ra, ka, fr, nb, nr, nk, fa, sa, aa, ia, sf, mk, hWx, hWm, hR, hto, htd, hwc, hI⟩ := hLw
  refine lv_aload_n hx hb dL_law_597 rfl (lv_at hl 1 rfl) ?_
  refine lv_aload_n hx hb dL_law_598 rfl (lv_at hl 0 rfl) ?_
  refine lv_iload hx hb dL_law_599 (lv_at hl 5 rfl) ?_
  refine lv_iconst (v := 1) hx hb dL_law_601 (by decide) ?_
  refine lv_iadd hx hb dL_law_602 ?_
  refine lv_topi (nm_r (show (nI (8 * ki)) + 1 = nI ((8 * ki) + 1) from nI_add ((8 * ki)) 1) ?_)
  refine va_sld hx hb hX hbl hbA hS (i := nI ((8 * ki) + 1)) (vp_in_nI (by omega) (by omega)) dL_law_603 ?_
  refine lv_topi (nm_r (show xs (nI ((8 * ki) + 1)).toNatClampNeg = xs ((8 * ki) + 1) from by rw [nI_clamp (by omega)]) ?_)
  refine lv_aload_n hx hb dL_law_604 rfl (lv_at hl 0 rfl) ?_
  refine lv_iload hx hb dL_law_605 (lv_at hl 5 rfl) ?_
  refine lv_iconst (v := 2) hx hb dL_law_607 (by decide) ?_
  refine lv_iadd hx hb dL_law_608 ?_
  refine lv_topi (nm_r (show (nI (8 * ki)) + 2 = nI ((8 * ki) + 2) from nI_add ((8 * ki)) 2) ?_)
  refine va_sld hx hb hX hbl hbA hS (i := nI ((8 * ki) + 2)) (vp_in_nI (by omega) (by omega)) dL_law_609 ?_
  refine lv_topi (nm_r (show xs (nI ((8 * ki) + 2)).toNatClampNeg = xs ((8 * ki) + 2) from by rw [nI_clamp (by omega)]) ?_)
  refine lv_i2f hx hb dL_law_610 ?_
  refine lv_ldcf (v := 1040187392) hx hb hown (hts (.constantFloat RL 75 (1040187392)) (by decide +kernel)) dL_law_611 ?_
  have hc_1 : fb 1040187392 1040187392 := by unfold fb; decide +kernel
  refine lv_fmul hx hb dL_law_613 (kf_8 _) ?_
  refine lv_aload_n hx hb dL_law_614 rfl (lv_at hl 0 rfl) ?_
  refine lv_iload hx hb dL_law_615 (lv_at hl 5 rfl) ?_
  refine lv_iconst (v := 3) hx hb dL_law_617 (by decide) ?_
  refine lv_iadd hx hb dL_law_618 ?_
  refine lv_topi (nm_r (show (nI (8 * ki)) + 3 = nI ((8 * ki) + 3) from nI_add ((8 * ki)) 3) ?_)
  refine va_sld hx hb hX hbl hbA hS (i := nI ((8 * ki) + 3)) (vp_in_nI (by omega) (by omega)) dL_law_619 ?_
  refine lv_topi (nm_r (show xs (nI ((8 * ki) + 3)).toNatClampNeg = xs ((8 * ki) + 3) from by rw [nI_clamp (by omega)]) ?_)
  refine lv_i2f hx hb dL_law_620 ?_
  refine lv_ldcf (v := 1040187392) hx hb hown (hts (.constantFloat RL 75 (1040187392)) (by decide +kernel)) dL_law_621 ?_
  have hc_2 : fb 1040187392 1040187392 := by unfold fb; decide +kernel
  refine lv_fmul hx hb dL_law_623 (kf_8 _) ?_
  refine lv_aload_n hx hb dL_law_624 rfl (lv_at hl 0 rfl) ?_
  refine lv_iload hx hb dL_law_625 (lv_at hl 5 rfl) ?_
  refine lv_iconst (v := 4) hx hb dL_law_627 (by decide) ?_
  refine lv_iadd hx hb dL_law_628 ?_
  refine lv_topi (nm_r (show (nI (8 * ki)) + 4 = nI ((8 * ki) + 4) from nI_add ((8 * ki)) 4) ?_)
  refine va_sld hx hb hX hbl hbA hS (i := nI ((8 * ki) + 4)) (vp_in_nI (by omega) (by omega)) dL_law_629 ?_
  refine lv_topi (nm_r (show xs (nI ((8 * ki) + 4)).toNatClampNeg = xs ((8 * ki) + 4) from by rw [nI_clamp (by omega)]) ?_)
  refine lv_i2f hx hb dL_law_630 ?_
  refine lv_ldcf (v := 1040187392) hx hb hown (hts (.constantFloat RL 75 (1040187392)) (by decide +kernel)) dL_law_631 ?_
  have hc_3 : fb 1040187392 1040187392 := by unfold fb; decide +kernel
  refine lv_fmul hx hb dL_law_633 (kf_8 _) ?_
  refine kd_calli (vx_runSW (As := [.ref x, .int (xs ((8 * ki) + 1)), .float (FP.fmul (FP.i2f (xs ((8 * ki) + 2))) 1040187392), .float (FP.fmul (FP.i2f (xs ((8 * ki) + 3))) 1040187392), .float (FP.fmul (FP.i2f (xs ((8 * ki) + 4))) 1040187392)]) (rest := []) ⟨hx, hb, hml, hown, hts⟩ (w_vector l dC dI dA ad _ τ pv _ _ hI x bl rl kl ba ra ka fr nb nr nk hWx (xs ((8 * ki) + 1)) (FP.fmul (FP.i2f (xs ((8 * ki) + 2))) 1040187392) (FP.fmul (FP.i2f (xs ((8 * ki) + 3))) 1040187392) (FP.fmul (FP.i2f (xs ((8 * ki) + 4))) 1040187392) hlt) (vx_cwSW 5 hts gL_law_L_vector rfl rfl rfl (by decide +kernel) ⟨Nat.le_of_ble_eq_true rfl, Nat.le_of_ble_eq_true rfl⟩) (kd_preS hP hD hK hS hA hE) rfl rfl hl.1 rfl (lv_room (Nat.le_of_ble_eq_true rfl)) dL_law_634 ⟨kz_rmc (by omega), kz_rms (by omega)⟩) hD hS hA (fun r_5 u_4 H locs hw hP hD hS => ?_)
  have htx := hWx.tx
  have htm := hWm.tm
  have htf9 := hWm.tf
  have hts9 := hWm.ts
  have hta9 := hWm.ta
  obtain ⟨rfl, τ, pv, bl, rl, kl, ba, ra, ka, fr, nk, hF9, hWx, hB9, hR9, hI⟩ := hw
  have hwc := ((hF9.pn htx (k := 10) rfl).trans hwc).trans (hF9.pn htm (k := 26) rfl).symm
  have hWm := hWm.frm hF9
  have hR := hR.x hF9 kPmC_D htf9 hts9 hta9 hB9 (fun i hi => hR9 i hi hi) (Nat.le_refl _) (Nat.le_refl _)
  have hto := hF9.ty hto
  have htd := hF9.ty htd
  refine lv_istore (lv' := [(6, .int (kc_vector (xs ((8 * ki) + 1)) (FP.fmul (FP.i2f (xs ((8 * ki) + 2))) 1040187392) (FP.fmul (FP.i2f (xs ((8 * ki) + 3))) 1040187392) (FP.fmul (FP.i2f (xs ((8 * ki) + 4))) 1040187392))), (0, .ref b), (1, .ref x), (2, .ref mm), (3, .ref o), (4, .ref od), (5, .int (nI (8 * ki)))]) hx hb dL_law_637 hl (by decide) rfl (fun ls hl => ?_)
  refine lv_aload_n hx hb dL_law_639 rfl (lv_at hl 3 rfl) ?_
  refine lv_aload_n hx hb dL_law_640 rfl (lv_at hl 1 rfl) ?_
  refine lv_iload hx hb dL_law_641 (lv_at hl 6 rfl) ?_
  refine lv_iconst (v := 1) hx hb dL_law_643 (by decide) ?_
  refine lv_iadd hx hb dL_law_644 ?_
  refine lv_topi (nm_r (show (nI (8 * ki)) + 1 = nI ((8 * ki) + 1) from nI_add ((8 * ki)) 1) ?_)
  refine va_sld hx hb hX hbl hbA hS (i := nI ((8 * ki) + 1)) (vp_in_nI (by omega) (by omega)) dL_law_645 ?_
  refine lv_topi (nm_r (show xs (nI ((8 * ki) + 1)).toNatClampNeg = xs ((8 * ki) + 1) from by rw [nI_clamp (by omega)]) ?_)
  refine lv_aload_n hx hb dL_law_646 rfl (lv_at hl 1 rfl) ?_
  refine lv_iload hx hb dL_law_647 (lv_at hl 6 rfl) ?_
  refine lv_iconst (v := 2) hx hb dL_law_649 (by decide) ?_
  refine lv_iadd hx hb dL_law_650 ?_
  refine lv_topi (nm_r (show (nI (8 * ki)) + 2 = nI ((8 * ki) + 2) from nI_add ((8 * ki)) 2) ?_)
  refine va_sld hx hb hX hbl hbA hS (i := nI ((8 * ki) + 2)) (vp_in_nI (by omega) (by omega)) dL_law_651 ?_
  refine lv_topi (nm_r (show xs (nI ((8 * ki) + 2)).toNatClampNeg = xs ((8 * ki) + 2) from by rw [nI_clamp (by omega)]) ?_)
  refine lv_i2f hx hb dL_law_652 ?_
  refine lv_ldcf (v := 1040187392) hx hb hown (hts (.constantFloat RL 75 (1040187392)) (by decide +kernel)) dL_law_653 ?_
  have hc_6 : fb 1040187392 1040187392 := by unfold fb; decide +kernel
  refine lv_fmul hx hb dL_law_655 (kf_8 _) ?_
  refine lv_aload_n hx hb dL_law_656 rfl (lv_at hl 1 rfl) ?_
  refine lv_iload hx hb dL_law_657 (lv_at hl 6 rfl) ?_
  refine lv_iconst (v := 3) hx hb dL_law_659 (by decide) ?_
  refine lv_iadd hx hb dL_law_660 ?_
  refine lv_topi (nm_r (show (nI (8 * ki)) + 3 = nI ((8 * ki) + 3) from nI_add ((8 * ki)) 3) ?_)
  refine va_sld hx hb hX hbl hbA hS (i := nI ((8 * ki) + 3)) (vp_in_nI (by omega) (by omega)) dL_law_661 ?_
  refine lv_topi (nm_r (show xs (nI ((8 * ki) + 3)).toNatClampNeg = xs ((8 * ki) + 3) from by rw [nI_clamp (by omega)]) ?_)
  refine lv_i2f hx hb dL_law_662 ?_
  refine lv_ldcf (v := 1040187392) hx hb hown (hts (.constantFloat RL 75 (1040187392)) (by decide +kernel)) dL_law_663 ?_
  have hc_7 : fb 1040187392 1040187392 := by unfold fb; decide +kernel
  refine lv_fmul hx hb dL_law_665 (kf_8 _) ?_
  refine lv_aload_n hx hb dL_law_666 rfl (lv_at hl 1 rfl) ?_
  refine lv_iload hx hb dL_law_667 (lv_at hl 6 rfl) ?_
  refine lv_iconst (v := 4) hx hb dL_law_669 (by decide) ?_
  refine lv_iadd hx hb dL_law_670 ?_
  refine lv_topi (nm_r (show (nI (8 * ki)) + 4 = nI ((8 * ki) + 4) from nI_add ((8 * ki)) 4) ?_)
  refine va_sld hx hb hX hbl hbA hS (i := nI ((8 * ki) + 4)) (vp_in_nI (by omega) (by omega)) dL_law_671 ?_
  refine lv_topi (nm_r (show xs (nI ((8 * ki) + 4)).toNatClampNeg = xs ((8 * ki) + 4) from by rw [nI_clamp (by omega)]) ?_)
  refine lv_i2f hx hb dL_law_672 ?_
  refine lv_ldcf (v := 1040187392) hx hb hown (hts (.constantFloat RL 75 (1040187392)) (by decide +kernel)) dL_law_673 ?_
  have hc_8 : fb 1040187392 1040187392 := by unfold fb; decide +kernel
  refine lv_fmul hx hb dL_law_675 (kf_8 _) ?_
  refine kd_callv (va_runV (As := [.int (xs ((8 * ki) + 1)), .float (FP.fmul (FP.i2f (xs ((8 * ki) + 2))) 1040187392), .float (FP.fmul (FP.i2f (xs ((8 * ki) + 3))) 1040187392), .float (FP.fmul (FP.i2f (xs ((8 * ki) + 4))) 1040187392)]) (rest := []) ⟨hx, hb, hml, hown, hts⟩ (m_p_vector l dC dI dA ad _ τ pv _ _ hI mm fa sa aa ia sf nb nr mk hWm (xs ((8 * ki) + 1)) (FP.fmul (FP.i2f (xs ((8 * ki) + 2))) 1040187392) (FP.fmul (FP.i2f (xs ((8 * ki) + 3))) 1040187392) (FP.fmul (FP.i2f (xs ((8 * ki) + 4))) 1040187392)) (cwV 4 hts gL_law_X4_vector rfl rfl rfl (by decide +kernel) ⟨Nat.le_of_ble_eq_true rfl, Nat.le_of_ble_eq_true rfl⟩) (kd_preV hP hD hK hS hA hE hI hWm.tm rfl rfl) rfl rfl hl.1 rfl (lv_room (Nat.le_of_ble_eq_true rfl)) dL_law_676 ⟨kz_rmc (by omega), kz_rms (by omega)⟩) hD hS hA (fun u_9 H locs hw hP hD hS => ?_)
  have htx := hWx.tx
  have htm := hWm.tm
  have htf9 := hWm.tf
  have hts9 := hWm.ts
  have hta9 := hWm.ta
  obtain ⟨pv, mk, hF9, hWm, hth, hI⟩ := hw
  have hR := hR.m (hF9.weak (kPx_s nr)) hWx (Nat.le_refl _) (Nat.le_refl _) (Nat.le_refl _) htf9 hts9 hta9
  have hwc := ((hF9.pn htx (k := 10) rfl).trans hwc).trans (hF9.pn htm (k := 26) rfl).symm
  have hWx := hWx.frx hF9
  refine lv_goto (tgt := 1237) hx hb dL_law_679 (by decide) ?_
  have hl : lv_has ls 10 [(0, .ref b), (1, .ref x), (2, .ref mm), (3, .ref o), (4, .ref od), (5, .int (nI (8 * ki)))] := lv_sub hl [1, 2, 3, 4, 5, 6] rfl
  refine W.widen (k := 100 + 16 * ki + 16) (n := 40000 + 2000 * ki + 2000) (by omega) (by omega) ?_
  exact hnext _ _ _ _ _ ⟨τ, pv, bl, rl, kl, ba, ra, ka, fr, nb, nr, nk, fa, sa, aa, ia, sf, mk, hWx, hWm, hR, hto, htd, hwc, hI⟩ hP hD hS hl
