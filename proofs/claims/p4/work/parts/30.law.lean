set_option maxHeartbeats 8000000 in
set_option maxRecDepth 100000 in
theorem law_0 {p : Program} {l : Launch} {e : Env} {s : State} {m : MethodId} {below : List Frame} {meth : Method} {c : Code} {b L0 : Nat} {xs : Nat → Int32} (hlt : l.stackTraces = false) (C0 : lw_At p s m meth c b L0 xs) {dC : Nat → ClassId} {dI : Nat → Nat → Nat} {dA : Nat → ClassId} {ad : Nat} (hE : kx_E ad (fun q : Nat => s.heap.size ≤ q) s s.heap) (hK : va_K (dC, dI) vwCl (tyA dA) s) (hL0 : L0 ≤ 4096) (x mm o od ki : Nat) (hki : 8 * ki + 8 ≤ L0) (hnext : ∀ (L : List Nat) (f : Nat → va_E) (H : Heap) (locs : List Loc) (ls : Array Slot), kLw dA ad x mm o od L f → va_P (dC, dI) vwCl (va_pl L f) H → va_D (fun q : Nat => s.heap.size ≤ q) (va_pl L f) → va_S (fun q : Nat => s.heap.size ≤ q) s.heap H locs → lv_has ls 10 [(0, .ref b), (1, .ref x), (2, .ref mm), (3, .ref o), (4, .ref od), (5, .int (nI (8 * ki)))] → W p l e room_1 s m #[Value.ref b] below meth c H locs (100 + 16 * ki + 16) (40000 + 2000 * ki + 2000) (lw_Z below #[Value.ref b] s) (F0 m 1237 ls [])) (L : List Nat) (f : Nat → va_E) (H : Heap) (locs : List Loc) (ls : Array Slot) (hLw : kLw dA ad x mm o od L f) (hP : va_P (dC, dI) vwCl (va_pl L f) H) (hD : va_D (fun q : Nat => s.heap.size ≤ q) (va_pl L f)) (hS : va_S (fun q : Nat => s.heap.size ≤ q) s.heap H locs) (hl : lv_has ls 10 [(0, .ref b), (1, .ref x), (2, .ref mm), (3, .ref o), (4, .ref od), (5, .int (nI (8 * ki)))]) : W p l e room_1 s m #[Value.ref b] below meth c H locs (100 + 16 * ki) (40000 + 2000 * ki) (lw_Z below #[Value.ref b] s) (F0 m 128 ls []) := by
  obtain ⟨hx, hb, hr, hml, hown, hts, hX, hbl, hlocks, hgv⟩ := C0
  have hts := fun w h => hts w (wsL_law_in w h)
  have hown : s.vm.findClass RL = some m.cls := hown
  have hA : ∀ q : Nat, s.heap.size ≤ q → (fun q : Nat => s.heap.size ≤ q) q := fun _ h => h
  have hbA : ¬ (fun q : Nat => s.heap.size ≤ q) b := Nat.not_le.mpr hbl
  generalize hAe : (fun q : Nat => s.heap.size ≤ q) = A at hE hD hS hA hbA hnext
  obtain ⟨τ, pv, bl, rl, kl, ba, ra, ka, fr, nb, nr, nk, fa, sa, aa, ia, sf, mk, hWx, hWm, hR, hto, htd, hwc, hI⟩ := hLw
  refine lv_aload_n hx hb dL_law_128 rfl (lv_at hl 1 rfl) ?_
  refine lv_aload_n hx hb dL_law_129 rfl (lv_at hl 0 rfl) ?_
  refine lv_iload hx hb dL_law_130 (lv_at hl 5 rfl) ?_
  refine lv_iconst (v := 1) hx hb dL_law_132 (by decide) ?_
  refine lv_iadd hx hb dL_law_133 ?_
  refine lv_topi (nm_r (show (nI (8 * ki)) + 1 = nI ((8 * ki) + 1) from nI_add ((8 * ki)) 1) ?_)
  refine va_sld hx hb hX hbl hbA hS (i := nI ((8 * ki) + 1)) (vp_in_nI (by omega) (by omega)) dL_law_134 ?_
  refine lv_topi (nm_r (show xs (nI ((8 * ki) + 1)).toNatClampNeg = xs ((8 * ki) + 1) from by rw [nI_clamp (by omega)]) ?_)
  refine lv_i2f hx hb dL_law_135 ?_
  refine lv_ldcf (v := 1040187392) hx hb hown (hts (.constantFloat RL 75 (1040187392)) (by decide +kernel)) dL_law_136 ?_
  have hc_1 : fb 1040187392 1040187392 := by unfold fb; decide +kernel
  refine lv_fmul hx hb dL_law_138 (kf_8 _) ?_
  refine lv_aload_n hx hb dL_law_139 rfl (lv_at hl 0 rfl) ?_
  refine lv_iload hx hb dL_law_140 (lv_at hl 5 rfl) ?_
  refine lv_iconst (v := 2) hx hb dL_law_142 (by decide) ?_
  refine lv_iadd hx hb dL_law_143 ?_
  refine lv_topi (nm_r (show (nI (8 * ki)) + 2 = nI ((8 * ki) + 2) from nI_add ((8 * ki)) 2) ?_)
  refine va_sld hx hb hX hbl hbA hS (i := nI ((8 * ki) + 2)) (vp_in_nI (by omega) (by omega)) dL_law_144 ?_
  refine lv_topi (nm_r (show xs (nI ((8 * ki) + 2)).toNatClampNeg = xs ((8 * ki) + 2) from by rw [nI_clamp (by omega)]) ?_)
  refine lv_i2f hx hb dL_law_145 ?_
  refine lv_ldcf (v := 1040187392) hx hb hown (hts (.constantFloat RL 75 (1040187392)) (by decide +kernel)) dL_law_146 ?_
  have hc_2 : fb 1040187392 1040187392 := by unfold fb; decide +kernel
  refine lv_fmul hx hb dL_law_148 (kf_8 _) ?_
  refine lv_aload_n hx hb dL_law_149 rfl (lv_at hl 0 rfl) ?_
  refine lv_iload hx hb dL_law_150 (lv_at hl 5 rfl) ?_
  refine lv_iconst (v := 3) hx hb dL_law_152 (by decide) ?_
  refine lv_iadd hx hb dL_law_153 ?_
  refine lv_topi (nm_r (show (nI (8 * ki)) + 3 = nI ((8 * ki) + 3) from nI_add ((8 * ki)) 3) ?_)
  refine va_sld hx hb hX hbl hbA hS (i := nI ((8 * ki) + 3)) (vp_in_nI (by omega) (by omega)) dL_law_154 ?_
  refine lv_topi (nm_r (show xs (nI ((8 * ki) + 3)).toNatClampNeg = xs ((8 * ki) + 3) from by rw [nI_clamp (by omega)]) ?_)
  refine lv_i2f hx hb dL_law_155 ?_
  refine lv_ldcf (v := 1040187392) hx hb hown (hts (.constantFloat RL 75 (1040187392)) (by decide +kernel)) dL_law_156 ?_
  have hc_3 : fb 1040187392 1040187392 := by unfold fb; decide +kernel
  refine lv_fmul hx hb dL_law_158 (kf_8 _) ?_
  refine lv_aload_n hx hb dL_law_159 rfl (lv_at hl 0 rfl) ?_
  refine lv_iload hx hb dL_law_160 (lv_at hl 5 rfl) ?_
  refine lv_iconst (v := 4) hx hb dL_law_162 (by decide) ?_
  refine lv_iadd hx hb dL_law_163 ?_
  refine lv_topi (nm_r (show (nI (8 * ki)) + 4 = nI ((8 * ki) + 4) from nI_add ((8 * ki)) 4) ?_)
  refine va_sld hx hb hX hbl hbA hS (i := nI ((8 * ki) + 4)) (vp_in_nI (by omega) (by omega)) dL_law_164 ?_
  refine lv_topi (nm_r (show xs (nI ((8 * ki) + 4)).toNatClampNeg = xs ((8 * ki) + 4) from by rw [nI_clamp (by omega)]) ?_)
  refine lv_i2f hx hb dL_law_165 ?_
  refine lv_ldcf (v := 1040187392) hx hb hown (hts (.constantFloat RL 75 (1040187392)) (by decide +kernel)) dL_law_166 ?_
  have hc_4 : fb 1040187392 1040187392 := by unfold fb; decide +kernel
  refine lv_fmul hx hb dL_law_168 (kf_8 _) ?_
  refine lv_aload_n hx hb dL_law_169 rfl (lv_at hl 3 rfl) ?_
  refine kd_calli (vx_runSW (As := [.ref x, .float (FP.fmul (FP.i2f (xs ((8 * ki) + 1))) 1040187392), .float (FP.fmul (FP.i2f (xs ((8 * ki) + 2))) 1040187392), .float (FP.fmul (FP.i2f (xs ((8 * ki) + 3))) 1040187392), .float (FP.fmul (FP.i2f (xs ((8 * ki) + 4))) 1040187392), .ref o]) (rest := []) ⟨hx, hb, hml, hown, hts⟩ (w_body l dC dI dA ad _ τ pv _ _ hI x bl rl kl ba ra ka fr nb nr nk hWx (FP.fmul (FP.i2f (xs ((8 * ki) + 1))) 1040187392) (FP.fmul (FP.i2f (xs ((8 * ki) + 2))) 1040187392) (FP.fmul (FP.i2f (xs ((8 * ki) + 3))) 1040187392) (FP.fmul (FP.i2f (xs ((8 * ki) + 4))) 1040187392) o hto hlt) (vx_cwSW 6 hts gL_law_L_body rfl rfl rfl (by decide +kernel) ⟨Nat.le_of_ble_eq_true rfl, Nat.le_of_ble_eq_true rfl⟩) (kd_preS hP hD hK hS hA hE) rfl rfl hl.1 rfl (lv_room (Nat.le_of_ble_eq_true rfl)) dL_law_170 ⟨kz_rmc (by omega), kz_rms (by omega)⟩) hD hS hA (fun r_6 u_5 H locs hw hP hD hS => ?_)
  have htx := hWx.tx
  have htm := hWm.tm
  have htf9 := hWm.tf
  have hts9 := hWm.ts
  have hta9 := hWm.ta
  obtain ⟨rfl, τ, pv, bl, rl, kl, ba, ra, ka, fr, nk, hF9, hWx, hB9, hR9, hans, hI⟩ := hw
  have hwc := ((hF9.pn htx (k := 10) rfl).trans hwc).trans (hF9.pn htm (k := 26) rfl).symm
  have hWm := hWm.frm hF9
  have hR := hR.x hF9 kPmC_D htf9 hts9 hta9 hB9 (fun i hi => hR9 i hi hi) (kinc_le (c := kc_body2 nb (FP.fmul (FP.i2f (xs ((8 * ki) + 1))) 1040187392) (FP.fmul (FP.i2f (xs ((8 * ki) + 2))) 1040187392) (FP.fmul (FP.i2f (xs ((8 * ki) + 3))) 1040187392) (FP.fmul (FP.i2f (xs ((8 * ki) + 4))) 1040187392))) (Nat.le_refl _)
  have hto := hF9.ty hto
  have htd := hF9.ty htd
  refine lv_istore (lv' := [(6, .int (kc_body2 nb (FP.fmul (FP.i2f (xs ((8 * ki) + 1))) 1040187392) (FP.fmul (FP.i2f (xs ((8 * ki) + 2))) 1040187392) (FP.fmul (FP.i2f (xs ((8 * ki) + 3))) 1040187392) (FP.fmul (FP.i2f (xs ((8 * ki) + 4))) 1040187392))), (0, .ref b), (1, .ref x), (2, .ref mm), (3, .ref o), (4, .ref od), (5, .int (nI (8 * ki)))]) hx hb dL_law_173 hl (by decide) rfl (fun ls hl => ?_)
  refine lv_aload_n hx hb dL_law_175 rfl (lv_at hl 3 rfl) ?_
  refine lv_aload_n hx hb dL_law_176 rfl (lv_at hl 1 rfl) ?_
  refine lv_iload hx hb dL_law_177 (lv_at hl 6 rfl) ?_
  refine lv_iconst (v := 1) hx hb dL_law_179 (by decide) ?_
  refine lv_iadd hx hb dL_law_180 ?_
  refine lv_topi (nm_r (show (nI (8 * ki)) + 1 = nI ((8 * ki) + 1) from nI_add ((8 * ki)) 1) ?_)
  refine va_sld hx hb hX hbl hbA hS (i := nI ((8 * ki) + 1)) (vp_in_nI (by omega) (by omega)) dL_law_181 ?_
  refine lv_topi (nm_r (show xs (nI ((8 * ki) + 1)).toNatClampNeg = xs ((8 * ki) + 1) from by rw [nI_clamp (by omega)]) ?_)
  refine lv_i2f hx hb dL_law_182 ?_
  refine lv_ldcf (v := 1040187392) hx hb hown (hts (.constantFloat RL 75 (1040187392)) (by decide +kernel)) dL_law_183 ?_
  have hc_7 : fb 1040187392 1040187392 := by unfold fb; decide +kernel
  refine lv_fmul hx hb dL_law_185 (kf_8 _) ?_
  refine lv_aload_n hx hb dL_law_186 rfl (lv_at hl 1 rfl) ?_
  refine lv_iload hx hb dL_law_187 (lv_at hl 6 rfl) ?_
  refine lv_iconst (v := 2) hx hb dL_law_189 (by decide) ?_
  refine lv_iadd hx hb dL_law_190 ?_
  refine lv_topi (nm_r (show (nI (8 * ki)) + 2 = nI ((8 * ki) + 2) from nI_add ((8 * ki)) 2) ?_)
  refine va_sld hx hb hX hbl hbA hS (i := nI ((8 * ki) + 2)) (vp_in_nI (by omega) (by omega)) dL_law_191 ?_
  refine lv_topi (nm_r (show xs (nI ((8 * ki) + 2)).toNatClampNeg = xs ((8 * ki) + 2) from by rw [nI_clamp (by omega)]) ?_)
  refine lv_i2f hx hb dL_law_192 ?_
  refine lv_ldcf (v := 1040187392) hx hb hown (hts (.constantFloat RL 75 (1040187392)) (by decide +kernel)) dL_law_193 ?_
  have hc_8 : fb 1040187392 1040187392 := by unfold fb; decide +kernel
  refine lv_fmul hx hb dL_law_195 (kf_8 _) ?_
  refine lv_aload_n hx hb dL_law_196 rfl (lv_at hl 1 rfl) ?_
  refine lv_iload hx hb dL_law_197 (lv_at hl 6 rfl) ?_
  refine lv_iconst (v := 3) hx hb dL_law_199 (by decide) ?_
  refine lv_iadd hx hb dL_law_200 ?_
  refine lv_topi (nm_r (show (nI (8 * ki)) + 3 = nI ((8 * ki) + 3) from nI_add ((8 * ki)) 3) ?_)
  refine va_sld hx hb hX hbl hbA hS (i := nI ((8 * ki) + 3)) (vp_in_nI (by omega) (by omega)) dL_law_201 ?_
  refine lv_topi (nm_r (show xs (nI ((8 * ki) + 3)).toNatClampNeg = xs ((8 * ki) + 3) from by rw [nI_clamp (by omega)]) ?_)
  refine lv_i2f hx hb dL_law_202 ?_
  refine lv_ldcf (v := 1040187392) hx hb hown (hts (.constantFloat RL 75 (1040187392)) (by decide +kernel)) dL_law_203 ?_
  have hc_9 : fb 1040187392 1040187392 := by unfold fb; decide +kernel
  refine lv_fmul hx hb dL_law_205 (kf_8 _) ?_
  refine lv_aload_n hx hb dL_law_206 rfl (lv_at hl 1 rfl) ?_
  refine lv_iload hx hb dL_law_207 (lv_at hl 6 rfl) ?_
  refine lv_iconst (v := 4) hx hb dL_law_209 (by decide) ?_
  refine lv_iadd hx hb dL_law_210 ?_
  refine lv_topi (nm_r (show (nI (8 * ki)) + 4 = nI ((8 * ki) + 4) from nI_add ((8 * ki)) 4) ?_)
  refine va_sld hx hb hX hbl hbA hS (i := nI ((8 * ki) + 4)) (vp_in_nI (by omega) (by omega)) dL_law_211 ?_
  refine lv_topi (nm_r (show xs (nI ((8 * ki) + 4)).toNatClampNeg = xs ((8 * ki) + 4) from by rw [nI_clamp (by omega)]) ?_)
  refine lv_i2f hx hb dL_law_212 ?_
  refine lv_ldcf (v := 1040187392) hx hb hown (hts (.constantFloat RL 75 (1040187392)) (by decide +kernel)) dL_law_213 ?_
  have hc_10 : fb 1040187392 1040187392 := by unfold fb; decide +kernel
  refine lv_fmul hx hb dL_law_215 (kf_8 _) ?_
  refine kd_calli (va_runV (As := [.float (FP.fmul (FP.i2f (xs ((8 * ki) + 1))) 1040187392), .float (FP.fmul (FP.i2f (xs ((8 * ki) + 2))) 1040187392), .float (FP.fmul (FP.i2f (xs ((8 * ki) + 3))) 1040187392), .float (FP.fmul (FP.i2f (xs ((8 * ki) + 4))) 1040187392)]) (rest := []) ⟨hx, hb, hml, hown, hts⟩ (m_p_body l dC dI dA ad _ τ pv _ _ hI mm fa sa aa ia sf nb nr mk hWm (FP.fmul (FP.i2f (xs ((8 * ki) + 1))) 1040187392) (FP.fmul (FP.i2f (xs ((8 * ki) + 2))) 1040187392) (FP.fmul (FP.i2f (xs ((8 * ki) + 3))) 1040187392) (FP.fmul (FP.i2f (xs ((8 * ki) + 4))) 1040187392)) (cwV 4 hts gL_law_X4_body rfl rfl rfl (by decide +kernel) ⟨Nat.le_of_ble_eq_true rfl, Nat.le_of_ble_eq_true rfl⟩) (kd_preV hP hD hK hS hA hE hI hWm.tm rfl rfl) rfl rfl hl.1 rfl (lv_room (Nat.le_of_ble_eq_true rfl)) dL_law_216 ⟨kz_rmc (by omega), kz_rms (by omega)⟩) hD hS hA (fun r_12 u_11 H locs hw hP hD hS => ?_)
  have htx := hWx.tx
  have htm := hWm.tm
  have htf9 := hWm.tf
  have hts9 := hWm.ts
  have hta9 := hWm.ta
  obtain ⟨pv, mk, hF9, hWm, hth, hansm, hI⟩ := hw
  have hR := hR.m (hF9.weak (kPx_s nr)) hWx (Nat.le_refl _) (Nat.le_refl _) (Nat.le_refl _) htf9 hts9 hta9
  have hwc := ((hF9.pn htx (k := 10) rfl).trans hwc).trans (hF9.pn htm (k := 26) rfl).symm
  have hans : (kc_body2 nb (FP.fmul (FP.i2f (xs ((8 * ki) + 1))) 1040187392) (FP.fmul (FP.i2f (xs ((8 * ki) + 2))) 1040187392) (FP.fmul (FP.i2f (xs ((8 * ki) + 3))) 1040187392) (FP.fmul (FP.i2f (xs ((8 * ki) + 4))) 1040187392)) = 0 → pv o 0 = .long (r_12).toInt64 := fun h9 => by rw [hansm h9]; exact (hF9.pn hto (k := 0) rfl).trans (hans h9)
  have hWx := hWx.frx hF9
  refine lv_istore (lv' := [(7, .int r_12), (6, .int (kc_body2 nb (FP.fmul (FP.i2f (xs ((8 * ki) + 1))) 1040187392) (FP.fmul (FP.i2f (xs ((8 * ki) + 2))) 1040187392) (FP.fmul (FP.i2f (xs ((8 * ki) + 3))) 1040187392) (FP.fmul (FP.i2f (xs ((8 * ki) + 4))) 1040187392))), (0, .ref b), (1, .ref x), (2, .ref mm), (3, .ref o), (4, .ref od), (5, .int (nI (8 * ki)))]) hx hb dL_law_219 hl (by decide) rfl (fun ls hl => ?_)
  refine lv_goto (tgt := 1237) hx hb dL_law_221 (by decide) ?_
  have hl : lv_has ls 10 [(0, .ref b), (1, .ref x), (2, .ref mm), (3, .ref o), (4, .ref od), (5, .int (nI (8 * ki)))] := lv_sub hl [2, 3, 4, 5, 6, 7] rfl
  refine W.widen (k := 100 + 16 * ki + 16) (n := 40000 + 2000 * ki + 2000) (by omega) (by omega) ?_
  exact hnext _ _ _ _ _ ⟨τ, pv, bl, rl, kl, ba, ra, ka, fr, (kinc (kc_body2 nb (FP.fmul (FP.i2f (xs ((8 * ki) + 1))) 1040187392) (FP.fmul (FP.i2f (xs ((8 * ki) + 2))) 1040187392) (FP.fmul (FP.i2f (xs ((8 * ki) + 3))) 1040187392) (FP.fmul (FP.i2f (xs ((8 * ki) + 4))) 1040187392)) nb), nr, nk, fa, sa, aa, ia, sf, mk, hWx, hWm, hR, hto, htd, hwc, hI⟩ hP hD hS hl

set_option maxHeartbeats 8000000 in
set_option maxRecDepth 100000 in
theorem law_1 {p : Program} {l : Launch} {e : Env} {s : State} {m : MethodId} {below : List Frame} {meth : Method} {c : Code} {b L0 : Nat} {xs : Nat → Int32} (hlt : l.stackTraces = false) (C0 : lw_At p s m meth c b L0 xs) {dC : Nat → ClassId} {dI : Nat → Nat → Nat} {dA : Nat → ClassId} {ad : Nat} (hE : kx_E ad (fun q : Nat => s.heap.size ≤ q) s s.heap) (hK : va_K (dC, dI) vwCl (tyA dA) s) (hL0 : L0 ≤ 4096) (x mm o od ki : Nat) (hki : 8 * ki + 8 ≤ L0) (hnext : ∀ (L : List Nat) (f : Nat → va_E) (H : Heap) (locs : List Loc) (ls : Array Slot), kLw dA ad x mm o od L f → va_P (dC, dI) vwCl (va_pl L f) H → va_D (fun q : Nat => s.heap.size ≤ q) (va_pl L f) → va_S (fun q : Nat => s.heap.size ≤ q) s.heap H locs → lv_has ls 10 [(0, .ref b), (1, .ref x), (2, .ref mm), (3, .ref o), (4, .ref od), (5, .int (nI (8 * ki)))] → W p l e room_1 s m #[Value.ref b] below meth c H locs (100 + 16 * ki + 16) (40000 + 2000 * ki + 2000) (lw_Z below #[Value.ref b] s) (F0 m 1237 ls [])) (L : List Nat) (f : Nat → va_E) (H : Heap) (locs : List Loc) (ls : Array Slot) (hLw : kLw dA ad x mm o od L f) (hP : va_P (dC, dI) vwCl (va_pl L f) H) (hD : va_D (fun q : Nat => s.heap.size ≤ q) (va_pl L f)) (hS : va_S (fun q : Nat => s.heap.size ≤ q) s.heap H locs) (hl : lv_has ls 10 [(0, .ref b), (1, .ref x), (2, .ref mm), (3, .ref o), (4, .ref od), (5, .int (nI (8 * ki)))]) : W p l e room_1 s m #[Value.ref b] below meth c H locs (100 + 16 * ki) (40000 + 2000 * ki) (lw_Z below #[Value.ref b] s) (F0 m 224 ls []) := by
  obtain ⟨hx, hb, hr, hml, hown, hts, hX, hbl, hlocks, hgv⟩ := C0
  have hts := fun w h => hts w (wsL_law_in w h)
  have hown : s.vm.findClass RL = some m.cls := hown
  have hA : ∀ q : Nat, s.heap.size ≤ q → (fun q : Nat => s.heap.size ≤ q) q := fun _ h => h
  have hbA : ¬ (fun q : Nat => s.heap.size ≤ q) b := Nat.not_le.mpr hbl
  generalize hAe : (fun q : Nat => s.heap.size ≤ q) = A at hE hD hS hA hbA hnext
  obtain ⟨τ, pv, bl, rl, kl, ba, ra, ka, fr, nb, nr, nk, fa, sa, aa, ia, sf, mk, hWx, hWm, hR, hto, htd, hwc, hI⟩ := hLw
  refine lv_aload_n hx hb dL_law_224 rfl (lv_at hl 1 rfl) ?_
  refine lv_aload_n hx hb dL_law_225 rfl (lv_at hl 0 rfl) ?_
  refine lv_iload hx hb dL_law_226 (lv_at hl 5 rfl) ?_
  refine lv_iconst (v := 1) hx hb dL_law_228 (by decide) ?_
  refine lv_iadd hx hb dL_law_229 ?_
  refine lv_topi (nm_r (show (nI (8 * ki)) + 1 = nI ((8 * ki) + 1) from nI_add ((8 * ki)) 1) ?_)
  refine va_sld hx hb hX hbl hbA hS (i := nI ((8 * ki) + 1)) (vp_in_nI (by omega) (by omega)) dL_law_230 ?_
  refine lv_topi (nm_r (show xs (nI ((8 * ki) + 1)).toNatClampNeg = xs ((8 * ki) + 1) from by rw [nI_clamp (by omega)]) ?_)
  refine lv_aload_n hx hb dL_law_231 rfl (lv_at hl 0 rfl) ?_
  refine lv_iload hx hb dL_law_232 (lv_at hl 5 rfl) ?_
  refine lv_iconst (v := 2) hx hb dL_law_234 (by decide) ?_
  refine lv_iadd hx hb dL_law_235 ?_
  refine lv_topi (nm_r (show (nI (8 * ki)) + 2 = nI ((8 * ki) + 2) from nI_add ((8 * ki)) 2) ?_)
  refine va_sld hx hb hX hbl hbA hS (i := nI ((8 * ki) + 2)) (vp_in_nI (by omega) (by omega)) dL_law_236 ?_
  refine lv_topi (nm_r (show xs (nI ((8 * ki) + 2)).toNatClampNeg = xs ((8 * ki) + 2) from by rw [nI_clamp (by omega)]) ?_)
  refine lv_i2f hx hb dL_law_237 ?_
  refine lv_ldcf (v := 1040187392) hx hb hown (hts (.constantFloat RL 75 (1040187392)) (by decide +kernel)) dL_law_238 ?_
  have hc_1 : fb 1040187392 1040187392 := by unfold fb; decide +kernel
  refine lv_fmul hx hb dL_law_240 (kf_8 _) ?_
  refine lv_aload_n hx hb dL_law_241 rfl (lv_at hl 0 rfl) ?_
  refine lv_iload hx hb dL_law_242 (lv_at hl 5 rfl) ?_
  refine lv_iconst (v := 3) hx hb dL_law_244 (by decide) ?_
  refine lv_iadd hx hb dL_law_245 ?_
  refine lv_topi (nm_r (show (nI (8 * ki)) + 3 = nI ((8 * ki) + 3) from nI_add ((8 * ki)) 3) ?_)
  refine va_sld hx hb hX hbl hbA hS (i := nI ((8 * ki) + 3)) (vp_in_nI (by omega) (by omega)) dL_law_246 ?_
  refine lv_topi (nm_r (show xs (nI ((8 * ki) + 3)).toNatClampNeg = xs ((8 * ki) + 3) from by rw [nI_clamp (by omega)]) ?_)
  refine lv_i2f hx hb dL_law_247 ?_
  refine lv_ldcf (v := 1040187392) hx hb hown (hts (.constantFloat RL 75 (1040187392)) (by decide +kernel)) dL_law_248 ?_
  have hc_2 : fb 1040187392 1040187392 := by unfold fb; decide +kernel
  refine lv_fmul hx hb dL_law_250 (kf_8 _) ?_
  refine lv_aload_n hx hb dL_law_251 rfl (lv_at hl 0 rfl) ?_
  refine lv_iload hx hb dL_law_252 (lv_at hl 5 rfl) ?_
  refine lv_iconst (v := 4) hx hb dL_law_254 (by decide) ?_
  refine lv_iadd hx hb dL_law_255 ?_
  refine lv_topi (nm_r (show (nI (8 * ki)) + 4 = nI ((8 * ki) + 4) from nI_add ((8 * ki)) 4) ?_)
  refine va_sld hx hb hX hbl hbA hS (i := nI ((8 * ki) + 4)) (vp_in_nI (by omega) (by omega)) dL_law_256 ?_
  refine lv_topi (nm_r (show xs (nI ((8 * ki) + 4)).toNatClampNeg = xs ((8 * ki) + 4) from by rw [nI_clamp (by omega)]) ?_)
  refine lv_i2f hx hb dL_law_257 ?_
  refine lv_ldcf (v := 1040187392) hx hb hown (hts (.constantFloat RL 75 (1040187392)) (by decide +kernel)) dL_law_258 ?_
  have hc_3 : fb 1040187392 1040187392 := by unfold fb; decide +kernel
  refine lv_fmul hx hb dL_law_260 (kf_8 _) ?_
  refine kd_calli (vx_runSW (As := [.ref x, .int (xs ((8 * ki) + 1)), .float (FP.fmul (FP.i2f (xs ((8 * ki) + 2))) 1040187392), .float (FP.fmul (FP.i2f (xs ((8 * ki) + 3))) 1040187392), .float (FP.fmul (FP.i2f (xs ((8 * ki) + 4))) 1040187392)]) (rest := []) ⟨hx, hb, hml, hown, hts⟩ (w_lean l dC dI dA ad _ τ pv _ _ hI x bl rl kl ba ra ka fr nb nr nk hWx (xs ((8 * ki) + 1)) (FP.fmul (FP.i2f (xs ((8 * ki) + 2))) 1040187392) (FP.fmul (FP.i2f (xs ((8 * ki) + 3))) 1040187392) (FP.fmul (FP.i2f (xs ((8 * ki) + 4))) 1040187392) hlt) (vx_cwSW 5 hts gL_law_L_lean rfl rfl rfl (by decide +kernel) ⟨Nat.le_of_ble_eq_true rfl, Nat.le_of_ble_eq_true rfl⟩) (kd_preS hP hD hK hS hA hE) rfl rfl hl.1 rfl (lv_room (Nat.le_of_ble_eq_true rfl)) dL_law_261 ⟨kz_rmc (by omega), kz_rms (by omega)⟩) hD hS hA (fun r_5 u_4 H locs hw hP hD hS => ?_)
  have htx := hWx.tx
  have htm := hWm.tm
  have htf9 := hWm.tf
  have hts9 := hWm.ts
  have hta9 := hWm.ta
  obtain ⟨rfl, τ, pv, bl, rl, kl, ba, ra, ka, fr, nk, hF9, hWx, hB9, hR9, hI⟩ := hw
  have hwc := ((hF9.pn htx (k := 10) rfl).trans hwc).trans (hF9.pn htm (k := 26) rfl).symm
  have hWm := hWm.frm hF9
  have hR := hR.x hF9 kPmC_D htf9 hts9 hta9 hB9 (fun i hi => hR9 i hi hi) (Nat.le_refl _) (Nat.le_refl _)
  have hto := hF9.ty hto
  have htd := hF9.ty htd
  refine lv_istore (lv' := [(6, .int (kc_lean (xs ((8 * ki) + 1)) nb (FP.fmul (FP.i2f (xs ((8 * ki) + 2))) 1040187392) (FP.fmul (FP.i2f (xs ((8 * ki) + 3))) 1040187392) (FP.fmul (FP.i2f (xs ((8 * ki) + 4))) 1040187392))), (0, .ref b), (1, .ref x), (2, .ref mm), (3, .ref o), (4, .ref od), (5, .int (nI (8 * ki)))]) hx hb dL_law_264 hl (by decide) rfl (fun ls hl => ?_)
  refine lv_aload_n hx hb dL_law_266 rfl (lv_at hl 3 rfl) ?_
  refine lv_aload_n hx hb dL_law_267 rfl (lv_at hl 1 rfl) ?_
  refine lv_iload hx hb dL_law_268 (lv_at hl 6 rfl) ?_
  refine lv_iconst (v := 1) hx hb dL_law_270 (by decide) ?_
  refine lv_iadd hx hb dL_law_271 ?_
  refine lv_topi (nm_r (show (nI (8 * ki)) + 1 = nI ((8 * ki) + 1) from nI_add ((8 * ki)) 1) ?_)
  refine va_sld hx hb hX hbl hbA hS (i := nI ((8 * ki) + 1)) (vp_in_nI (by omega) (by omega)) dL_law_272 ?_
  refine lv_topi (nm_r (show xs (nI ((8 * ki) + 1)).toNatClampNeg = xs ((8 * ki) + 1) from by rw [nI_clamp (by omega)]) ?_)
  refine lv_aload_n hx hb dL_law_273 rfl (lv_at hl 1 rfl) ?_
  refine lv_iload hx hb dL_law_274 (lv_at hl 6 rfl) ?_
  refine lv_iconst (v := 2) hx hb dL_law_276 (by decide) ?_
  refine lv_iadd hx hb dL_law_277 ?_
  refine lv_topi (nm_r (show (nI (8 * ki)) + 2 = nI ((8 * ki) + 2) from nI_add ((8 * ki)) 2) ?_)
  refine va_sld hx hb hX hbl hbA hS (i := nI ((8 * ki) + 2)) (vp_in_nI (by omega) (by omega)) dL_law_278 ?_
  refine lv_topi (nm_r (show xs (nI ((8 * ki) + 2)).toNatClampNeg = xs ((8 * ki) + 2) from by rw [nI_clamp (by omega)]) ?_)
  refine lv_i2f hx hb dL_law_279 ?_
  refine lv_ldcf (v := 1040187392) hx hb hown (hts (.constantFloat RL 75 (1040187392)) (by decide +kernel)) dL_law_280 ?_
  have hc_6 : fb 1040187392 1040187392 := by unfold fb; decide +kernel
  refine lv_fmul hx hb dL_law_282 (kf_8 _) ?_
  refine lv_aload_n hx hb dL_law_283 rfl (lv_at hl 1 rfl) ?_
  refine lv_iload hx hb dL_law_284 (lv_at hl 6 rfl) ?_
  refine lv_iconst (v := 3) hx hb dL_law_286 (by decide) ?_
  refine lv_iadd hx hb dL_law_287 ?_
  refine lv_topi (nm_r (show (nI (8 * ki)) + 3 = nI ((8 * ki) + 3) from nI_add ((8 * ki)) 3) ?_)
  refine va_sld hx hb hX hbl hbA hS (i := nI ((8 * ki) + 3)) (vp_in_nI (by omega) (by omega)) dL_law_288 ?_
  refine lv_topi (nm_r (show xs (nI ((8 * ki) + 3)).toNatClampNeg = xs ((8 * ki) + 3) from by rw [nI_clamp (by omega)]) ?_)
  refine lv_i2f hx hb dL_law_289 ?_
  refine lv_ldcf (v := 1040187392) hx hb hown (hts (.constantFloat RL 75 (1040187392)) (by decide +kernel)) dL_law_290 ?_
  have hc_7 : fb 1040187392 1040187392 := by unfold fb; decide +kernel
  refine lv_fmul hx hb dL_law_292 (kf_8 _) ?_
  refine lv_aload_n hx hb dL_law_293 rfl (lv_at hl 1 rfl) ?_
  refine lv_iload hx hb dL_law_294 (lv_at hl 6 rfl) ?_
  refine lv_iconst (v := 4) hx hb dL_law_296 (by decide) ?_
  refine lv_iadd hx hb dL_law_297 ?_
  refine lv_topi (nm_r (show (nI (8 * ki)) + 4 = nI ((8 * ki) + 4) from nI_add ((8 * ki)) 4) ?_)
  refine va_sld hx hb hX hbl hbA hS (i := nI ((8 * ki) + 4)) (vp_in_nI (by omega) (by omega)) dL_law_298 ?_
  refine lv_topi (nm_r (show xs (nI ((8 * ki) + 4)).toNatClampNeg = xs ((8 * ki) + 4) from by rw [nI_clamp (by omega)]) ?_)
  refine lv_i2f hx hb dL_law_299 ?_
  refine lv_ldcf (v := 1040187392) hx hb hown (hts (.constantFloat RL 75 (1040187392)) (by decide +kernel)) dL_law_300 ?_
  have hc_8 : fb 1040187392 1040187392 := by unfold fb; decide +kernel
  refine lv_fmul hx hb dL_law_302 (kf_8 _) ?_
  refine kd_callv (va_runV (As := [.int (xs ((8 * ki) + 1)), .float (FP.fmul (FP.i2f (xs ((8 * ki) + 2))) 1040187392), .float (FP.fmul (FP.i2f (xs ((8 * ki) + 3))) 1040187392), .float (FP.fmul (FP.i2f (xs ((8 * ki) + 4))) 1040187392)]) (rest := []) ⟨hx, hb, hml, hown, hts⟩ (m_p_lean l dC dI dA ad _ τ pv _ _ hI mm fa sa aa ia sf nb nr mk hWm (xs ((8 * ki) + 1)) (FP.fmul (FP.i2f (xs ((8 * ki) + 2))) 1040187392) (FP.fmul (FP.i2f (xs ((8 * ki) + 3))) 1040187392) (FP.fmul (FP.i2f (xs ((8 * ki) + 4))) 1040187392)) (cwV 4 hts gL_law_X4_lean rfl rfl rfl (by decide +kernel) ⟨Nat.le_of_ble_eq_true rfl, Nat.le_of_ble_eq_true rfl⟩) (kd_preV hP hD hK hS hA hE hI hWm.tm rfl rfl) rfl rfl hl.1 rfl (lv_room (Nat.le_of_ble_eq_true rfl)) dL_law_303 ⟨kz_rmc (by omega), kz_rms (by omega)⟩) hD hS hA (fun u_9 H locs hw hP hD hS => ?_)
  have htx := hWx.tx
  have htm := hWm.tm
  have htf9 := hWm.tf
  have hts9 := hWm.ts
  have hta9 := hWm.ta
  obtain ⟨pv, mk, hF9, hWm, hth, hI⟩ := hw
  have hR := hR.m (hF9.weak (kPx_s nr)) hWx (Nat.le_refl _) (Nat.le_refl _) (Nat.le_refl _) htf9 hts9 hta9
  have hwc := ((hF9.pn htx (k := 10) rfl).trans hwc).trans (hF9.pn htm (k := 26) rfl).symm
  have hWx := hWx.frx hF9
  refine lv_goto (tgt := 1237) hx hb dL_law_306 (by decide) ?_
  have hl : lv_has ls 10 [(0, .ref b), (1, .ref x), (2, .ref mm), (3, .ref o), (4, .ref od), (5, .int (nI (8 * ki)))] := lv_sub hl [1, 2, 3, 4, 5, 6] rfl
  refine W.widen (k := 100 + 16 * ki + 16) (n := 40000 + 2000 * ki + 2000) (by omega) (by omega) ?_
  exact hnext _ _ _ _ _ ⟨τ, pv, bl, rl, kl, ba, ra, ka, fr, nb, nr, nk, fa, sa, aa, ia, sf, mk, hWx, hWm, hR, hto, htd, hwc, hI⟩ hP hD hS hl
