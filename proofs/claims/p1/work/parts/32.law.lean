set_option maxHeartbeats 8000000 in
set_option maxRecDepth 100000 in
theorem law_6 {p : Program} {l : Launch} {e : Env} {s : State} {m9 : MethodId} {below : List Frame} {meth : Method} {c : Code} {b : Nat} {xs : Nat → Int32} (hlt : l.stackTraces = false) (C0 : lw_At p s m9 meth c b 8 xs) {dC : Nat → ClassId} {dI : Nat → Nat → Nat} {ad : Nat} (hE : kx_E ad (fun q : Nat => s.heap.size ≤ q) s s.heap)
    (x lb lr lk pn pp pq wo re fr mm a2 a3 a4 a5 a7 a8 a9 a10 a11 a12 a13 a14 a15 a16 a17 a18 a20 a21 a29 a30 a31 o od : Nat) (cR ca2 ca3 ca4 ca5 cJ cD : ClassId) (H : Heap) (locs : List Loc) (ls : Array Slot) (hK : va_K (dC, dI) vwCl [(cR, .object "IslandSolver$Row"), (ca2, .float), (ca3, .boolean), (ca4, .int), (ca5, .float), (cJ, .long), (cD, .double)] s) (hP : va_P (dC, dI) vwCl [(x, .inr (4, [.ref lb, .ref lr, .ref lk, .ref pn, .ref pp, .ref pq, .int 8, .float FP.fconst1, .float 1031798784, .int 0, .int 1, .int 0, .int 0, .ref wo, .ref re, .ref fr])), (lb, .inr (0, [.int 0, .ref ad, .int 0])), (lr, .inr (0, [.int 0, .ref ad, .int 0])), (lk, .inr (0, [.int 0, .ref ad, .int 0])), (pn, .inr (3, [.float 0, .float 0, .float 0])), (pp, .inr (3, [.float 0, .float 0, .float 0])), (pq, .inr (3, [.float 0, .float 0, .float 0])), (fr, .inl (cR, 8, .inr (.inr (.inr (.inr (fun _ => none)))))), (mm, .inr (5, [.int 0, .int 0, .ref a2, .ref a3, .ref a4, .ref a5, .int 0, .ref a7, .ref a8, .ref a9, .ref a10, .ref a11, .ref a12, .ref a13, .ref a14, .ref a15, .ref a16, .ref a17, .ref a18, .int 0, .ref a20, .ref a21, .int 8, .float FP.fconst1, .float 1031798784, .int 0, .int 1, .int 0, .int 0, .ref a29, .ref a30, .ref a31, .float 0, .float 0, .float 0])), (a2, .inl (ca2, 3328, .inr (.inr (.inl (fun _ => 0))))), (a3, .inl (ca3, 256, .inl (fun _ => 0))), (a4, .inl (ca4, 256, .inl (fun _ => 0))), (a5, .inl (ca5, 9, .inr (.inr (.inl (fun _ => 0))))), (o, .inl (cJ, 1, .inr (.inl (fun _ => 0)))), (od, .inl (cD, 1, .inr (.inr (.inr (.inl (fun _ => 0))))))] H) (hD : va_D (fun q : Nat => s.heap.size ≤ q) [(x, .inr (4, [.ref lb, .ref lr, .ref lk, .ref pn, .ref pp, .ref pq, .int 8, .float FP.fconst1, .float 1031798784, .int 0, .int 1, .int 0, .int 0, .ref wo, .ref re, .ref fr])), (lb, .inr (0, [.int 0, .ref ad, .int 0])), (lr, .inr (0, [.int 0, .ref ad, .int 0])), (lk, .inr (0, [.int 0, .ref ad, .int 0])), (pn, .inr (3, [.float 0, .float 0, .float 0])), (pp, .inr (3, [.float 0, .float 0, .float 0])), (pq, .inr (3, [.float 0, .float 0, .float 0])), (fr, .inl (cR, 8, .inr (.inr (.inr (.inr (fun _ => none)))))), (mm, .inr (5, [.int 0, .int 0, .ref a2, .ref a3, .ref a4, .ref a5, .int 0, .ref a7, .ref a8, .ref a9, .ref a10, .ref a11, .ref a12, .ref a13, .ref a14, .ref a15, .ref a16, .ref a17, .ref a18, .int 0, .ref a20, .ref a21, .int 8, .float FP.fconst1, .float 1031798784, .int 0, .int 1, .int 0, .int 0, .ref a29, .ref a30, .ref a31, .float 0, .float 0, .float 0])), (a2, .inl (ca2, 3328, .inr (.inr (.inl (fun _ => 0))))), (a3, .inl (ca3, 256, .inl (fun _ => 0))), (a4, .inl (ca4, 256, .inl (fun _ => 0))), (a5, .inl (ca5, 9, .inr (.inr (.inl (fun _ => 0))))), (o, .inl (cJ, 1, .inr (.inl (fun _ => 0)))), (od, .inl (cD, 1, .inr (.inr (.inr (.inl (fun _ => 0))))))]) (hS : va_S (fun q : Nat => s.heap.size ≤ q) s.heap H locs) (hl : lv_has ls 10 [(5, .int 0), (4, .ref od), (3, .ref o), (2, .ref mm), (1, .ref x), (0, .ref b)]) :
    W p l e room_1 s m9 #[Value.ref b] below meth c H locs 34 27736 (lw_Z below #[Value.ref b] s) (F0 m9 795 ls []) := by
  obtain ⟨hx, hb, hr, hml, hown, hts, hX, hbl, hlocks, hgv⟩ := C0
  have hts := fun w h => hts w (wsL_law_in w h)
  have hown : s.vm.findClass RL = some m9.cls := hown
  have hA : ∀ q : Nat, s.heap.size ≤ q → (fun q : Nat => s.heap.size ≤ q) q := fun _ h => h
  have hbA : ¬ (fun q : Nat => s.heap.size ≤ q) b := Nat.not_le.mpr hbl
  generalize hAe : (fun q : Nat => s.heap.size ≤ q) = A at hE hD hS hA hbA
  refine lv_aload_n hx hb dL_law_795 rfl (lv_at hl 4 rfl) ?_
  refine lv_aload_n hx hb dL_law_796 rfl (lv_at hl 5 rfl) ?_
  refine lv_iload hx hb dL_law_797 (lv_at hl 0 rfl) ?_
  refine lv_iconst (v := 1) hx hb dL_law_799 (by decide) ?_
  refine lv_iadd hx hb dL_law_800 ?_
  refine lv_topi (fun x_1 ex_1 => ?_)
  obtain rfl : x_1 = 1 := by rw [ex_1]; decide
  refine va_sld hx hb hX hbl hbA hS (i := 1) (by unfold vp_in; decide) dL_law_801 ?_
  refine lv_aload_n hx hb dL_law_802 rfl (lv_at hl 5 rfl) ?_
  refine lv_iload hx hb dL_law_803 (lv_at hl 0 rfl) ?_
  refine lv_iconst (v := 2) hx hb dL_law_805 (by decide) ?_
  refine lv_iadd hx hb dL_law_806 ?_
  refine lv_topi (fun x_2 ex_2 => ?_)
  obtain rfl : x_2 = 2 := by rw [ex_2]; decide
  refine va_sld hx hb hX hbl hbA hS (i := 2) (by unfold vp_in; decide) dL_law_807 ?_
  refine lv_aload_n hx hb dL_law_808 rfl (lv_at hl 5 rfl) ?_
  refine lv_iload hx hb dL_law_809 (lv_at hl 0 rfl) ?_
  refine lv_iconst (v := 3) hx hb dL_law_811 (by decide) ?_
  refine lv_iadd hx hb dL_law_812 ?_
  refine lv_topi (fun x_3 ex_3 => ?_)
  obtain rfl : x_3 = 3 := by rw [ex_3]; decide
  refine va_sld hx hb hX hbl hbA hS (i := 3) (by unfold vp_in; decide) dL_law_813 ?_
  refine lv_i2f hx hb dL_law_814 ?_
  refine lv_ldcf (v := 1040187392) hx hb hown (hts (.constantFloat RL 75 (1040187392)) (by decide +kernel)) dL_law_815 ?_
  refine lv_fmul hx hb dL_law_817 (kf_8 _) ?_
  refine lv_aload_n hx hb dL_law_818 rfl (lv_at hl 5 rfl) ?_
  refine lv_iload hx hb dL_law_819 (lv_at hl 0 rfl) ?_
  refine lv_iconst (v := 4) hx hb dL_law_821 (by decide) ?_
  refine lv_iadd hx hb dL_law_822 ?_
  refine lv_topi (fun x_4 ex_4 => ?_)
  obtain rfl : x_4 = 4 := by rw [ex_4]; decide
  refine va_sld hx hb hX hbl hbA hS (i := 4) (by unfold vp_in; decide) dL_law_823 ?_
  refine lv_i2f hx hb dL_law_824 ?_
  refine lv_ldcf (v := 1040187392) hx hb hown (hts (.constantFloat RL 75 (1040187392)) (by decide +kernel)) dL_law_825 ?_
  refine lv_fmul hx hb dL_law_827 (kf_8 _) ?_
  refine lv_aload_n hx hb dL_law_828 rfl (lv_at hl 5 rfl) ?_
  refine lv_iload hx hb dL_law_829 (lv_at hl 0 rfl) ?_
  refine lv_iconst (v := 5) hx hb dL_law_831 (by decide) ?_
  refine lv_iadd hx hb dL_law_832 ?_
  refine lv_topi (fun x_5 ex_5 => ?_)
  obtain rfl : x_5 = 5 := by rw [ex_5]; decide
  refine va_sld hx hb hX hbl hbA hS (i := 5) (by unfold vp_in; decide) dL_law_833 ?_
  refine lv_i2f hx hb dL_law_834 ?_
  refine lv_ldcf (v := 1040187392) hx hb hown (hts (.constantFloat RL 75 (1040187392)) (by decide +kernel)) dL_law_835 ?_
  refine lv_fmul hx hb dL_law_837 (kf_8 _) ?_
  refine lv_aload_n hx hb dL_law_838 rfl (lv_at hl 5 rfl) ?_
  refine lv_iload hx hb dL_law_839 (lv_at hl 0 rfl) ?_
  refine lv_bipush (v := 6) hx hb dL_law_841 (by decide) ?_
  refine lv_iadd hx hb dL_law_843 ?_
  refine lv_topi (fun x_6 ex_6 => ?_)
  obtain rfl : x_6 = 6 := by rw [ex_6]; decide
  refine va_sld hx hb hX hbl hbA hS (i := 6) (by unfold vp_in; decide) dL_law_844 ?_
  refine lv_i2f hx hb dL_law_845 ?_
  refine lv_ldcf (v := 1040187392) hx hb hown (hts (.constantFloat RL 75 (1040187392)) (by decide +kernel)) dL_law_846 ?_
  refine lv_fmul hx hb dL_law_848 (kf_8 _) ?_
  refine lv_aload_n hx hb dL_law_849 rfl (lv_at hl 5 rfl) ?_
  refine lv_iload hx hb dL_law_850 (lv_at hl 0 rfl) ?_
  refine lv_bipush (v := 7) hx hb dL_law_852 (by decide) ?_
  refine lv_iadd hx hb dL_law_854 ?_
  refine lv_topi (fun x_7 ex_7 => ?_)
  obtain rfl : x_7 = 7 := by rw [ex_7]; decide
  refine va_sld hx hb hX hbl hbA hS (i := 7) (by unfold vp_in; decide) dL_law_855 ?_
  refine lv_aload_n hx hb dL_law_856 rfl (lv_at hl 2 rfl) ?_
  refine kc_calli (wc := [(x, .inr (4, [.ref lb, .ref lr, .ref lk, .ref pn, .ref pp, .ref pq, .int 8, .float FP.fconst1, .float 1031798784, .int 0, .int 1, .int 0, .int 0, .ref wo, .ref re, .ref fr])), (lb, .inr (0, [.int 0, .ref ad, .int 0])), (o, .inl (cJ, 1, .inr (.inl (fun _ => 0))))]) (wr := [(lr, .inr (0, [.int 0, .ref ad, .int 0])), (lk, .inr (0, [.int 0, .ref ad, .int 0])), (pn, .inr (3, [.float 0, .float 0, .float 0])), (pp, .inr (3, [.float 0, .float 0, .float 0])), (pq, .inr (3, [.float 0, .float 0, .float 0])), (fr, .inl (cR, 8, .inr (.inr (.inr (.inr (fun _ => none)))))), (mm, .inr (5, [.int 0, .int 0, .ref a2, .ref a3, .ref a4, .ref a5, .int 0, .ref a7, .ref a8, .ref a9, .ref a10, .ref a11, .ref a12, .ref a13, .ref a14, .ref a15, .ref a16, .ref a17, .ref a18, .int 0, .ref a20, .ref a21, .int 8, .float FP.fconst1, .float 1031798784, .int 0, .int 1, .int 0, .int 0, .ref a29, .ref a30, .ref a31, .float 0, .float 0, .float 0])), (a2, .inl (ca2, 3328, .inr (.inr (.inl (fun _ => 0))))), (a3, .inl (ca3, 256, .inl (fun _ => 0))), (a4, .inl (ca4, 256, .inl (fun _ => 0))), (a5, .inl (ca5, 9, .inr (.inr (.inl (fun _ => 0))))), (od, .inl (cD, 1, .inr (.inr (.inr (.inl (fun _ => 0))))))]) (tyr := [(cR, .object "IslandSolver$Row"), (ca2, .float), (ca3, .boolean), (ca4, .int), (ca5, .float), (cJ, .long), (cD, .double)]) (vx_runSW (As := [.ref x, .int (xs (1 : Int32).toNatClampNeg), .int (xs (2 : Int32).toNatClampNeg), .float (FP.fmul (FP.i2f (xs (3 : Int32).toNatClampNeg)) 1040187392), .float (FP.fmul (FP.i2f (xs (4 : Int32).toNatClampNeg)) 1040187392), .float (FP.fmul (FP.i2f (xs (5 : Int32).toNatClampNeg)) 1040187392), .float (FP.fmul (FP.i2f (xs (6 : Int32).toNatClampNeg)) 1040187392), .int (xs (7 : Int32).toNatClampNeg), .ref o]) (rest := []) ⟨hx, hb, hml, hown, hts⟩ (w_row l dC dI ad _ x lb lr lk pn pp pq 0 wo re fr (xs (1 : Int32).toNatClampNeg) (xs (2 : Int32).toNatClampNeg) (FP.fmul (FP.i2f (xs (3 : Int32).toNatClampNeg)) 1040187392) (FP.fmul (FP.i2f (xs (4 : Int32).toNatClampNeg)) 1040187392) (FP.fmul (FP.i2f (xs (5 : Int32).toNatClampNeg)) 1040187392) (FP.fmul (FP.i2f (xs (6 : Int32).toNatClampNeg)) 1040187392) (xs (7 : Int32).toNatClampNeg) o cJ (fun _ => 0) hlt) (vx_cwSW 9 hts gL_law_L_row rfl rfl rfl (by decide +kernel) ⟨Nat.le_of_ble_eq_true rfl, Nat.le_of_ble_eq_true rfl⟩) (kc_preS hP hD hK hS hA hE [0, 1, 13] rfl (by decide) [5] rfl) rfl rfl hl.1 rfl (lv_room (Nat.le_of_ble_eq_true rfl)) dL_law_857 ⟨Nat.le_of_ble_eq_true rfl, Nat.le_of_ble_eq_true rfl⟩) hP hD hK hS hA [0, 1, 13] [2, 3, 4, 5, 6, 7, 8, 9, 10, 11, 12, 14] rfl rfl (by decide) (by decide) [0, 1, 2, 3, 4, 5, 6] rfl (fun r_8 u H locs hw hP hD hK hS => ?_)
  subst hw
  have hP : va_P (dC, dI) vwCl [(lr, .inr (0, [.int 0, .ref ad, .int 0])), (lk, .inr (0, [.int 0, .ref ad, .int 0])), (pn, .inr (3, [.float 0, .float 0, .float 0])), (pp, .inr (3, [.float 0, .float 0, .float 0])), (pq, .inr (3, [.float 0, .float 0, .float 0])), (fr, .inl (cR, 8, .inr (.inr (.inr (.inr (fun _ => none)))))), (mm, .inr (5, [.int 0, .int 0, .ref a2, .ref a3, .ref a4, .ref a5, .int 0, .ref a7, .ref a8, .ref a9, .ref a10, .ref a11, .ref a12, .ref a13, .ref a14, .ref a15, .ref a16, .ref a17, .ref a18, .int 0, .ref a20, .ref a21, .int 8, .float FP.fconst1, .float 1031798784, .int 0, .int 1, .int 0, .int 0, .ref a29, .ref a30, .ref a31, .float 0, .float 0, .float 0])), (a2, .inl (ca2, 3328, .inr (.inr (.inl (fun _ => 0))))), (a3, .inl (ca3, 256, .inl (fun _ => 0))), (a4, .inl (ca4, 256, .inl (fun _ => 0))), (a5, .inl (ca5, 9, .inr (.inr (.inl (fun _ => 0))))), (od, .inl (cD, 1, .inr (.inr (.inr (.inl (fun _ => 0))))))] H := hP
  have hD : va_D A [(lr, .inr (0, [.int 0, .ref ad, .int 0])), (lk, .inr (0, [.int 0, .ref ad, .int 0])), (pn, .inr (3, [.float 0, .float 0, .float 0])), (pp, .inr (3, [.float 0, .float 0, .float 0])), (pq, .inr (3, [.float 0, .float 0, .float 0])), (fr, .inl (cR, 8, .inr (.inr (.inr (.inr (fun _ => none)))))), (mm, .inr (5, [.int 0, .int 0, .ref a2, .ref a3, .ref a4, .ref a5, .int 0, .ref a7, .ref a8, .ref a9, .ref a10, .ref a11, .ref a12, .ref a13, .ref a14, .ref a15, .ref a16, .ref a17, .ref a18, .int 0, .ref a20, .ref a21, .int 8, .float FP.fconst1, .float 1031798784, .int 0, .int 1, .int 0, .int 0, .ref a29, .ref a30, .ref a31, .float 0, .float 0, .float 0])), (a2, .inl (ca2, 3328, .inr (.inr (.inl (fun _ => 0))))), (a3, .inl (ca3, 256, .inl (fun _ => 0))), (a4, .inl (ca4, 256, .inl (fun _ => 0))), (a5, .inl (ca5, 9, .inr (.inr (.inl (fun _ => 0))))), (od, .inl (cD, 1, .inr (.inr (.inr (.inl (fun _ => 0))))))] := hD
  have hK : va_K (dC, dI) vwCl [(cR, .object "IslandSolver$Row"), (ca2, .float), (ca3, .boolean), (ca4, .int), (ca5, .float), (cJ, .long), (cD, .double)] s := hK.sub [0, 1, 2, 3, 4, 5, 6] rfl
  refine lv_istore (lv' := [(6, .int 1), (5, .int 0), (4, .ref od), (3, .ref o), (2, .ref mm), (1, .ref x), (0, .ref b)]) hx hb dL_law_860 hl (by decide) rfl (fun ls hl => ?_)
  refine lv_aload_n hx hb dL_law_862 rfl (lv_at hl 4 rfl) ?_
  refine lv_aload_n hx hb dL_law_863 rfl (lv_at hl 6 rfl) ?_
  refine lv_iload hx hb dL_law_864 (lv_at hl 1 rfl) ?_
  refine lv_iconst (v := 1) hx hb dL_law_866 (by decide) ?_
  refine lv_iadd hx hb dL_law_867 ?_
  refine lv_topi (fun x_9 ex_9 => ?_)
  obtain rfl : x_9 = 1 := by rw [ex_9]; decide
  refine va_sld hx hb hX hbl hbA hS (i := 1) (by unfold vp_in; decide) dL_law_868 ?_
  refine lv_aload_n hx hb dL_law_869 rfl (lv_at hl 6 rfl) ?_
  refine lv_iload hx hb dL_law_870 (lv_at hl 1 rfl) ?_
  refine lv_iconst (v := 2) hx hb dL_law_872 (by decide) ?_
  refine lv_iadd hx hb dL_law_873 ?_
  refine lv_topi (fun x_10 ex_10 => ?_)
  obtain rfl : x_10 = 2 := by rw [ex_10]; decide
  refine va_sld hx hb hX hbl hbA hS (i := 2) (by unfold vp_in; decide) dL_law_874 ?_
  refine lv_aload_n hx hb dL_law_875 rfl (lv_at hl 6 rfl) ?_
  refine lv_iload hx hb dL_law_876 (lv_at hl 1 rfl) ?_
  refine lv_iconst (v := 3) hx hb dL_law_878 (by decide) ?_
  refine lv_iadd hx hb dL_law_879 ?_
  refine lv_topi (fun x_11 ex_11 => ?_)
  obtain rfl : x_11 = 3 := by rw [ex_11]; decide
  refine va_sld hx hb hX hbl hbA hS (i := 3) (by unfold vp_in; decide) dL_law_880 ?_
  refine lv_i2f hx hb dL_law_881 ?_
  refine lv_ldcf (v := 1040187392) hx hb hown (hts (.constantFloat RL 75 (1040187392)) (by decide +kernel)) dL_law_882 ?_
  refine lv_fmul hx hb dL_law_884 (kf_8 _) ?_
  refine lv_aload_n hx hb dL_law_885 rfl (lv_at hl 6 rfl) ?_
  refine lv_iload hx hb dL_law_886 (lv_at hl 1 rfl) ?_
  refine lv_iconst (v := 4) hx hb dL_law_888 (by decide) ?_
  refine lv_iadd hx hb dL_law_889 ?_
  refine lv_topi (fun x_12 ex_12 => ?_)
  obtain rfl : x_12 = 4 := by rw [ex_12]; decide
  refine va_sld hx hb hX hbl hbA hS (i := 4) (by unfold vp_in; decide) dL_law_890 ?_
  refine lv_i2f hx hb dL_law_891 ?_
  refine lv_ldcf (v := 1040187392) hx hb hown (hts (.constantFloat RL 75 (1040187392)) (by decide +kernel)) dL_law_892 ?_
  refine lv_fmul hx hb dL_law_894 (kf_8 _) ?_
  refine lv_aload_n hx hb dL_law_895 rfl (lv_at hl 6 rfl) ?_
  refine lv_iload hx hb dL_law_896 (lv_at hl 1 rfl) ?_
  refine lv_iconst (v := 5) hx hb dL_law_898 (by decide) ?_
  refine lv_iadd hx hb dL_law_899 ?_
  refine lv_topi (fun x_13 ex_13 => ?_)
  obtain rfl : x_13 = 5 := by rw [ex_13]; decide
  refine va_sld hx hb hX hbl hbA hS (i := 5) (by unfold vp_in; decide) dL_law_900 ?_
  refine lv_i2f hx hb dL_law_901 ?_
  refine lv_ldcf (v := 1040187392) hx hb hown (hts (.constantFloat RL 75 (1040187392)) (by decide +kernel)) dL_law_902 ?_
  refine lv_fmul hx hb dL_law_904 (kf_8 _) ?_
  refine lv_aload_n hx hb dL_law_905 rfl (lv_at hl 6 rfl) ?_
  refine lv_iload hx hb dL_law_906 (lv_at hl 1 rfl) ?_
  refine lv_bipush (v := 6) hx hb dL_law_908 (by decide) ?_
  refine lv_iadd hx hb dL_law_910 ?_
  refine lv_topi (fun x_14 ex_14 => ?_)
  obtain rfl : x_14 = 6 := by rw [ex_14]; decide
  refine va_sld hx hb hX hbl hbA hS (i := 6) (by unfold vp_in; decide) dL_law_911 ?_
  refine lv_i2f hx hb dL_law_912 ?_
  refine lv_ldcf (v := 1040187392) hx hb hown (hts (.constantFloat RL 75 (1040187392)) (by decide +kernel)) dL_law_913 ?_
  refine lv_fmul hx hb dL_law_915 (kf_8 _) ?_
  refine lv_aload_n hx hb dL_law_916 rfl (lv_at hl 6 rfl) ?_
  refine lv_iload hx hb dL_law_917 (lv_at hl 1 rfl) ?_
  refine lv_bipush (v := 7) hx hb dL_law_919 (by decide) ?_
  refine lv_iadd hx hb dL_law_921 ?_
  refine lv_topi (fun x_15 ex_15 => ?_)
  obtain rfl : x_15 = 7 := by rw [ex_15]; decide
  refine va_sld hx hb hX hbl hbA hS (i := 7) (by unfold vp_in; decide) dL_law_922 ?_
  refine kc_calli (wc := [(mm, .inr (5, [.int 0, .int 0, .ref a2, .ref a3, .ref a4, .ref a5, .int 0, .ref a7, .ref a8, .ref a9, .ref a10, .ref a11, .ref a12, .ref a13, .ref a14, .ref a15, .ref a16, .ref a17, .ref a18, .int 0, .ref a20, .ref a21, .int 8, .float FP.fconst1, .float 1031798784, .int 0, .int 1, .int 0, .int 0, .ref a29, .ref a30, .ref a31, .float 0, .float 0, .float 0]))]) (wr := [(lr, .inr (0, [.int 0, .ref ad, .int 0])), (lk, .inr (0, [.int 0, .ref ad, .int 0])), (pn, .inr (3, [.float 0, .float 0, .float 0])), (pp, .inr (3, [.float 0, .float 0, .float 0])), (pq, .inr (3, [.float 0, .float 0, .float 0])), (fr, .inl (cR, 8, .inr (.inr (.inr (.inr (fun _ => none)))))), (a2, .inl (ca2, 3328, .inr (.inr (.inl (fun _ => 0))))), (a3, .inl (ca3, 256, .inl (fun _ => 0))), (a4, .inl (ca4, 256, .inl (fun _ => 0))), (a5, .inl (ca5, 9, .inr (.inr (.inl (fun _ => 0))))), (od, .inl (cD, 1, .inr (.inr (.inr (.inl (fun _ => 0))))))]) (tyr := [(cR, .object "IslandSolver$Row"), (ca2, .float), (ca3, .boolean), (ca4, .int), (ca5, .float), (cJ, .long), (cD, .double)]) (va_runV (As := [.int (xs (1 : Int32).toNatClampNeg), .int (xs (2 : Int32).toNatClampNeg), .float (FP.fmul (FP.i2f (xs (3 : Int32).toNatClampNeg)) 1040187392), .float (FP.fmul (FP.i2f (xs (4 : Int32).toNatClampNeg)) 1040187392), .float (FP.fmul (FP.i2f (xs (5 : Int32).toNatClampNeg)) 1040187392), .float (FP.fmul (FP.i2f (xs (6 : Int32).toNatClampNeg)) 1040187392), .int (xs (7 : Int32).toNatClampNeg)]) (rest := []) ⟨hx, hb, hml, hown, hts⟩ (m_row l dC dI ad _ mm 0 a2 a3 a4 a5 a7 a8 a9 a10 a11 a12 a13 a14 a15 a16 a17 a18 a20 a21 0 a29 a30 a31 0 0 0 (xs (1 : Int32).toNatClampNeg) (xs (2 : Int32).toNatClampNeg) (FP.fmul (FP.i2f (xs (3 : Int32).toNatClampNeg)) 1040187392) (FP.fmul (FP.i2f (xs (4 : Int32).toNatClampNeg)) 1040187392) (FP.fmul (FP.i2f (xs (5 : Int32).toNatClampNeg)) 1040187392) (FP.fmul (FP.i2f (xs (6 : Int32).toNatClampNeg)) 1040187392) (xs (7 : Int32).toNatClampNeg)) (cwV 7 hts gL_law_X4_row rfl rfl rfl (by decide +kernel) ⟨Nat.le_of_ble_eq_true rfl, Nat.le_of_ble_eq_true rfl⟩) (kc_preV hP hD hK hS hA hE [6] rfl (by decide) [] rfl 6 rfl rfl) rfl rfl hl.1 rfl (lv_room (Nat.le_of_ble_eq_true rfl)) dL_law_923 ⟨Nat.le_of_ble_eq_true rfl, Nat.le_of_ble_eq_true rfl⟩) hP hD hK hS hA [6] [0, 1, 2, 3, 4, 5, 7, 8, 9, 10, 11] rfl rfl (by decide) (by decide) [0, 1, 2, 3, 4, 5, 6] rfl (fun r_16 u H locs hw hP hD hK hS => ?_)
  obtain ⟨fs_17, rfl⟩ : ∃ z, z = u := ⟨_, rfl⟩
  have hP : va_P (dC, dI) vwCl [(lr, .inr (0, [.int 0, .ref ad, .int 0])), (lk, .inr (0, [.int 0, .ref ad, .int 0])), (pn, .inr (3, [.float 0, .float 0, .float 0])), (pp, .inr (3, [.float 0, .float 0, .float 0])), (pq, .inr (3, [.float 0, .float 0, .float 0])), (fr, .inl (cR, 8, .inr (.inr (.inr (.inr (fun _ => none)))))), (a2, .inl (ca2, 3328, .inr (.inr (.inl (fun _ => 0))))), (a3, .inl (ca3, 256, .inl (fun _ => 0))), (a4, .inl (ca4, 256, .inl (fun _ => 0))), (a5, .inl (ca5, 9, .inr (.inr (.inl (fun _ => 0))))), (od, .inl (cD, 1, .inr (.inr (.inr (.inl (fun _ => 0)))))), (mm, .inr (5, fs_17))] H := hP
  have hD : va_D A [(lr, .inr (0, [.int 0, .ref ad, .int 0])), (lk, .inr (0, [.int 0, .ref ad, .int 0])), (pn, .inr (3, [.float 0, .float 0, .float 0])), (pp, .inr (3, [.float 0, .float 0, .float 0])), (pq, .inr (3, [.float 0, .float 0, .float 0])), (fr, .inl (cR, 8, .inr (.inr (.inr (.inr (fun _ => none)))))), (a2, .inl (ca2, 3328, .inr (.inr (.inl (fun _ => 0))))), (a3, .inl (ca3, 256, .inl (fun _ => 0))), (a4, .inl (ca4, 256, .inl (fun _ => 0))), (a5, .inl (ca5, 9, .inr (.inr (.inl (fun _ => 0))))), (od, .inl (cD, 1, .inr (.inr (.inr (.inl (fun _ => 0)))))), (mm, .inr (5, fs_17))] := hD
  have hK : va_K (dC, dI) vwCl [(cR, .object "IslandSolver$Row"), (ca2, .float), (ca3, .boolean), (ca4, .int), (ca5, .float), (cJ, .long), (cD, .double)] s := hK.sub [0, 1, 2, 3, 4, 5, 6] rfl
  obtain ⟨hf_18, rfl⟩ := hw
  refine lv_istore (lv' := [(7, .int 0), (6, .int 1), (5, .int 0), (4, .ref od), (3, .ref o), (2, .ref mm), (1, .ref x), (0, .ref b)]) hx hb dL_law_926 hl (by decide) rfl (fun ls hl => ?_)
  refine lv_aload_n hx hb dL_law_928 rfl (lv_at hl 5 rfl) ?_
  refine kc_calli (wc := [(mm, .inr (5, fs_17))]) (wr := [(lr, .inr (0, [.int 0, .ref ad, .int 0])), (lk, .inr (0, [.int 0, .ref ad, .int 0])), (pn, .inr (3, [.float 0, .float 0, .float 0])), (pp, .inr (3, [.float 0, .float 0, .float 0])), (pq, .inr (3, [.float 0, .float 0, .float 0])), (fr, .inl (cR, 8, .inr (.inr (.inr (.inr (fun _ => none)))))), (a2, .inl (ca2, 3328, .inr (.inr (.inl (fun _ => 0))))), (a3, .inl (ca3, 256, .inl (fun _ => 0))), (a4, .inl (ca4, 256, .inl (fun _ => 0))), (a5, .inl (ca5, 9, .inr (.inr (.inl (fun _ => 0))))), (od, .inl (cD, 1, .inr (.inr (.inr (.inl (fun _ => 0))))))]) (tyr := [(cR, .object "IslandSolver$Row"), (ca2, .float), (ca3, .boolean), (ca4, .int), (ca5, .float), (cJ, .long), (cD, .double)]) (va_runV (As := []) (rest := []) ⟨hx, hb, hml, hown, hts⟩ (c_thrown l dC dI ad _ mm fs_17 1 hf_18) (cwV 0 hts gL_law_X4_thrown rfl rfl rfl (by decide +kernel) ⟨Nat.le_of_ble_eq_true rfl, Nat.le_of_ble_eq_true rfl⟩) (kc_preV hP hD hK hS hA hE [11] rfl (by decide) [] rfl 11 rfl rfl) rfl rfl hl.1 rfl (lv_room (Nat.le_of_ble_eq_true rfl)) dL_law_929 ⟨Nat.le_of_ble_eq_true rfl, Nat.le_of_ble_eq_true rfl⟩) hP hD hK hS hA [11] [0, 1, 2, 3, 4, 5, 6, 7, 8, 9, 10] rfl rfl (by decide) (by decide) [0, 1, 2, 3, 4, 5, 6] rfl (fun r_19 u H locs hw hP hD hK hS => ?_)
  subst hw
  have hP : va_P (dC, dI) vwCl [(lr, .inr (0, [.int 0, .ref ad, .int 0])), (lk, .inr (0, [.int 0, .ref ad, .int 0])), (pn, .inr (3, [.float 0, .float 0, .float 0])), (pp, .inr (3, [.float 0, .float 0, .float 0])), (pq, .inr (3, [.float 0, .float 0, .float 0])), (fr, .inl (cR, 8, .inr (.inr (.inr (.inr (fun _ => none)))))), (a2, .inl (ca2, 3328, .inr (.inr (.inl (fun _ => 0))))), (a3, .inl (ca3, 256, .inl (fun _ => 0))), (a4, .inl (ca4, 256, .inl (fun _ => 0))), (a5, .inl (ca5, 9, .inr (.inr (.inl (fun _ => 0))))), (od, .inl (cD, 1, .inr (.inr (.inr (.inl (fun _ => 0)))))), (mm, .inr (5, fs_17))] H := hP
  have hD : va_D A [(lr, .inr (0, [.int 0, .ref ad, .int 0])), (lk, .inr (0, [.int 0, .ref ad, .int 0])), (pn, .inr (3, [.float 0, .float 0, .float 0])), (pp, .inr (3, [.float 0, .float 0, .float 0])), (pq, .inr (3, [.float 0, .float 0, .float 0])), (fr, .inl (cR, 8, .inr (.inr (.inr (.inr (fun _ => none)))))), (a2, .inl (ca2, 3328, .inr (.inr (.inl (fun _ => 0))))), (a3, .inl (ca3, 256, .inl (fun _ => 0))), (a4, .inl (ca4, 256, .inl (fun _ => 0))), (a5, .inl (ca5, 9, .inr (.inr (.inl (fun _ => 0))))), (od, .inl (cD, 1, .inr (.inr (.inr (.inl (fun _ => 0)))))), (mm, .inr (5, fs_17))] := hD
  have hK : va_K (dC, dI) vwCl [(cR, .object "IslandSolver$Row"), (ca2, .float), (ca3, .boolean), (ca4, .int), (ca5, .float), (cJ, .long), (cD, .double)] s := hK.sub [0, 1, 2, 3, 4, 5, 6] rfl
  refine lv_iload hx hb dL_law_932 (lv_at hl 1 rfl) ?_
  refine lv_icmp_eq (tgt := 939) hx hb dL_law_934 (by decide) (fun _ => ?_) (fun h9 => absurd h9 (by decide))
  refine lv_iload hx hb dL_law_939 (lv_at hl 1 rfl) ?_
  refine lv_if_ne (tgt := 956) hx hb dL_law_941 (by decide) (fun _ => ?_) (fun h9 => absurd h9 (by decide))
  refine lv_goto (tgt := 1653) hx hb dL_law_956 (by decide) ?_
  refine lv_iinc (v := 8) (lv' := [(5, .int 8), (7, .int 0), (6, .int 1), (4, .ref od), (3, .ref o), (2, .ref mm), (1, .ref x), (0, .ref b)]) hx hb dL_law_1653 hl (k := 2) rfl (by decide) (by decide) rfl (fun ls hl => ?_)
  refine lv_goto (tgt := 28) hx hb dL_law_1656 (by decide) ?_
  refine lv_iload hx hb dL_law_28 (lv_at hl 0 rfl) ?_
  refine lv_aload_n hx hb dL_law_30 rfl (lv_at hl 7 rfl) ?_
  refine va_slen hx hb hX hbl hbA hS dL_law_31 ?_
  refine W.eq (g2 := F0 m9 32 ls [.int 8, .int 8]) rfl ?_
  refine lv_bipush (v := 8) hx hb dL_law_32 (by decide) ?_
  refine lv_isub hx hb dL_law_34 ?_
  refine lv_topi (fun x_20 ex_20 => ?_)
  obtain rfl : x_20 = 0 := by rw [ex_20]; decide
  refine lv_icmp_gt (tgt := 1659) hx hb dL_law_35 (by decide) (fun _ => ?_) (fun h9 => absurd h9 (by decide))
  refine lv_iconst (v := 1) hx hb dL_law_1659 (by decide) ?_
  refine va_forget (fun q hq => by have h9 := hS.2.2 q hq; rw [← hAe] at h9; exact h9) ?_
  refine W.widen (k := 600002) (n := 7302232) (Nat.le_of_ble_eq_true rfl) (Nat.le_of_ble_eq_true rfl) ?_
  exact lw_ret hx hb hr hlocks dL_law_1660

set_option maxHeartbeats 8000000 in
set_option maxRecDepth 100000 in
theorem law_7 {p : Program} {l : Launch} {e : Env} {s : State} {m9 : MethodId} {below : List Frame} {meth : Method} {c : Code} {b : Nat} {xs : Nat → Int32} (hlt : l.stackTraces = false) (C0 : lw_At p s m9 meth c b 8 xs) {dC : Nat → ClassId} {dI : Nat → Nat → Nat} {ad : Nat} (hE : kx_E ad (fun q : Nat => s.heap.size ≤ q) s s.heap)
    (x lb lr lk pn pp pq wo re fr mm a2 a3 a4 a5 a7 a8 a9 a10 a11 a12 a13 a14 a15 a16 a17 a18 a20 a21 a29 a30 a31 o od : Nat) (cR ca2 ca3 ca4 ca5 cJ cD : ClassId) (H : Heap) (locs : List Loc) (ls : Array Slot) (hK : va_K (dC, dI) vwCl [(cR, .object "IslandSolver$Row"), (ca2, .float), (ca3, .boolean), (ca4, .int), (ca5, .float), (cJ, .long), (cD, .double)] s) (hP : va_P (dC, dI) vwCl [(x, .inr (4, [.ref lb, .ref lr, .ref lk, .ref pn, .ref pp, .ref pq, .int 8, .float FP.fconst1, .float 1031798784, .int 0, .int 1, .int 0, .int 0, .ref wo, .ref re, .ref fr])), (lb, .inr (0, [.int 0, .ref ad, .int 0])), (lr, .inr (0, [.int 0, .ref ad, .int 0])), (lk, .inr (0, [.int 0, .ref ad, .int 0])), (pn, .inr (3, [.float 0, .float 0, .float 0])), (pp, .inr (3, [.float 0, .float 0, .float 0])), (pq, .inr (3, [.float 0, .float 0, .float 0])), (fr, .inl (cR, 8, .inr (.inr (.inr (.inr (fun _ => none)))))), (mm, .inr (5, [.int 0, .int 0, .ref a2, .ref a3, .ref a4, .ref a5, .int 0, .ref a7, .ref a8, .ref a9, .ref a10, .ref a11, .ref a12, .ref a13, .ref a14, .ref a15, .ref a16, .ref a17, .ref a18, .int 0, .ref a20, .ref a21, .int 8, .float FP.fconst1, .float 1031798784, .int 0, .int 1, .int 0, .int 0, .ref a29, .ref a30, .ref a31, .float 0, .float 0, .float 0])), (a2, .inl (ca2, 3328, .inr (.inr (.inl (fun _ => 0))))), (a3, .inl (ca3, 256, .inl (fun _ => 0))), (a4, .inl (ca4, 256, .inl (fun _ => 0))), (a5, .inl (ca5, 9, .inr (.inr (.inl (fun _ => 0))))), (o, .inl (cJ, 1, .inr (.inl (fun _ => 0)))), (od, .inl (cD, 1, .inr (.inr (.inr (.inl (fun _ => 0))))))] H) (hD : va_D (fun q : Nat => s.heap.size ≤ q) [(x, .inr (4, [.ref lb, .ref lr, .ref lk, .ref pn, .ref pp, .ref pq, .int 8, .float FP.fconst1, .float 1031798784, .int 0, .int 1, .int 0, .int 0, .ref wo, .ref re, .ref fr])), (lb, .inr (0, [.int 0, .ref ad, .int 0])), (lr, .inr (0, [.int 0, .ref ad, .int 0])), (lk, .inr (0, [.int 0, .ref ad, .int 0])), (pn, .inr (3, [.float 0, .float 0, .float 0])), (pp, .inr (3, [.float 0, .float 0, .float 0])), (pq, .inr (3, [.float 0, .float 0, .float 0])), (fr, .inl (cR, 8, .inr (.inr (.inr (.inr (fun _ => none)))))), (mm, .inr (5, [.int 0, .int 0, .ref a2, .ref a3, .ref a4, .ref a5, .int 0, .ref a7, .ref a8, .ref a9, .ref a10, .ref a11, .ref a12, .ref a13, .ref a14, .ref a15, .ref a16, .ref a17, .ref a18, .int 0, .ref a20, .ref a21, .int 8, .float FP.fconst1, .float 1031798784, .int 0, .int 1, .int 0, .int 0, .ref a29, .ref a30, .ref a31, .float 0, .float 0, .float 0])), (a2, .inl (ca2, 3328, .inr (.inr (.inl (fun _ => 0))))), (a3, .inl (ca3, 256, .inl (fun _ => 0))), (a4, .inl (ca4, 256, .inl (fun _ => 0))), (a5, .inl (ca5, 9, .inr (.inr (.inl (fun _ => 0))))), (o, .inl (cJ, 1, .inr (.inl (fun _ => 0)))), (od, .inl (cD, 1, .inr (.inr (.inr (.inl (fun _ => 0))))))]) (hS : va_S (fun q : Nat => s.heap.size ≤ q) s.heap H locs) (hl : lv_has ls 10 [(5, .int 0), (4, .ref od), (3, .ref o), (2, .ref mm), (1, .ref x), (0, .ref b)]) :
    W p l e room_1 s m9 #[Value.ref b] below meth c H locs 34 27736 (lw_Z below #[Value.ref b] s) (F0 m9 959 ls []) := by
  obtain ⟨hx, hb, hr, hml, hown, hts, hX, hbl, hlocks, hgv⟩ := C0
  have hts := fun w h => hts w (wsL_law_in w h)
  have hown : s.vm.findClass RL = some m9.cls := hown
  have hA : ∀ q : Nat, s.heap.size ≤ q → (fun q : Nat => s.heap.size ≤ q) q := fun _ h => h
  have hbA : ¬ (fun q : Nat => s.heap.size ≤ q) b := Nat.not_le.mpr hbl
  generalize hAe : (fun q : Nat => s.heap.size ≤ q) = A at hE hD hS hA hbA
  refine lv_aload_n hx hb dL_law_959 rfl (lv_at hl 4 rfl) ?_
  refine lv_aload_n hx hb dL_law_960 rfl (lv_at hl 5 rfl) ?_
  refine lv_iload hx hb dL_law_961 (lv_at hl 0 rfl) ?_
  refine lv_iconst (v := 1) hx hb dL_law_963 (by decide) ?_
  refine lv_iadd hx hb dL_law_964 ?_
  refine lv_topi (fun x_1 ex_1 => ?_)
  obtain rfl : x_1 = 1 := by rw [ex_1]; decide
  refine va_sld hx hb hX hbl hbA hS (i := 1) (by unfold vp_in; decide) dL_law_965 ?_
  refine lv_aload_n hx hb dL_law_966 rfl (lv_at hl 5 rfl) ?_
  refine lv_iload hx hb dL_law_967 (lv_at hl 0 rfl) ?_
  refine lv_iconst (v := 2) hx hb dL_law_969 (by decide) ?_
  refine lv_iadd hx hb dL_law_970 ?_
  refine lv_topi (fun x_2 ex_2 => ?_)
  obtain rfl : x_2 = 2 := by rw [ex_2]; decide
  refine va_sld hx hb hX hbl hbA hS (i := 2) (by unfold vp_in; decide) dL_law_971 ?_
  refine lv_aload_n hx hb dL_law_972 rfl (lv_at hl 5 rfl) ?_
  refine lv_iload hx hb dL_law_973 (lv_at hl 0 rfl) ?_
  refine lv_iconst (v := 3) hx hb dL_law_975 (by decide) ?_
  refine lv_iadd hx hb dL_law_976 ?_
  refine lv_topi (fun x_3 ex_3 => ?_)
  obtain rfl : x_3 = 3 := by rw [ex_3]; decide
  refine va_sld hx hb hX hbl hbA hS (i := 3) (by unfold vp_in; decide) dL_law_977 ?_
  refine lv_i2f hx hb dL_law_978 ?_
  refine lv_ldcf (v := 1040187392) hx hb hown (hts (.constantFloat RL 75 (1040187392)) (by decide +kernel)) dL_law_979 ?_
  refine lv_fmul hx hb dL_law_981 (kf_8 _) ?_
  refine lv_aload_n hx hb dL_law_982 rfl (lv_at hl 5 rfl) ?_
  refine lv_iload hx hb dL_law_983 (lv_at hl 0 rfl) ?_
  refine lv_iconst (v := 4) hx hb dL_law_985 (by decide) ?_
  refine lv_iadd hx hb dL_law_986 ?_
  refine lv_topi (fun x_4 ex_4 => ?_)
  obtain rfl : x_4 = 4 := by rw [ex_4]; decide
  refine va_sld hx hb hX hbl hbA hS (i := 4) (by unfold vp_in; decide) dL_law_987 ?_
  refine lv_aload_n hx hb dL_law_988 rfl (lv_at hl 5 rfl) ?_
  refine lv_iload hx hb dL_law_989 (lv_at hl 0 rfl) ?_
  refine lv_iconst (v := 5) hx hb dL_law_991 (by decide) ?_
  refine lv_iadd hx hb dL_law_992 ?_
  refine lv_topi (fun x_5 ex_5 => ?_)
  obtain rfl : x_5 = 5 := by rw [ex_5]; decide
  refine va_sld hx hb hX hbl hbA hS (i := 5) (by unfold vp_in; decide) dL_law_993 ?_
  refine lv_i2f hx hb dL_law_994 ?_
  refine lv_ldcf (v := 1040187392) hx hb hown (hts (.constantFloat RL 75 (1040187392)) (by decide +kernel)) dL_law_995 ?_
  refine lv_fmul hx hb dL_law_997 (kf_8 _) ?_
  refine lv_aload_n hx hb dL_law_998 rfl (lv_at hl 5 rfl) ?_
  refine lv_iload hx hb dL_law_999 (lv_at hl 0 rfl) ?_
  refine lv_bipush (v := 6) hx hb dL_law_1001 (by decide) ?_
  refine lv_iadd hx hb dL_law_1003 ?_
  refine lv_topi (fun x_6 ex_6 => ?_)
  obtain rfl : x_6 = 6 := by rw [ex_6]; decide
  refine va_sld hx hb hX hbl hbA hS (i := 6) (by unfold vp_in; decide) dL_law_1004 ?_
  refine lv_aload_n hx hb dL_law_1005 rfl (lv_at hl 2 rfl) ?_
  refine kc_calli (wc := [(x, .inr (4, [.ref lb, .ref lr, .ref lk, .ref pn, .ref pp, .ref pq, .int 8, .float FP.fconst1, .float 1031798784, .int 0, .int 1, .int 0, .int 0, .ref wo, .ref re, .ref fr])), (lb, .inr (0, [.int 0, .ref ad, .int 0])), (o, .inl (cJ, 1, .inr (.inl (fun _ => 0))))]) (wr := [(lr, .inr (0, [.int 0, .ref ad, .int 0])), (lk, .inr (0, [.int 0, .ref ad, .int 0])), (pn, .inr (3, [.float 0, .float 0, .float 0])), (pp, .inr (3, [.float 0, .float 0, .float 0])), (pq, .inr (3, [.float 0, .float 0, .float 0])), (fr, .inl (cR, 8, .inr (.inr (.inr (.inr (fun _ => none)))))), (mm, .inr (5, [.int 0, .int 0, .ref a2, .ref a3, .ref a4, .ref a5, .int 0, .ref a7, .ref a8, .ref a9, .ref a10, .ref a11, .ref a12, .ref a13, .ref a14, .ref a15, .ref a16, .ref a17, .ref a18, .int 0, .ref a20, .ref a21, .int 8, .float FP.fconst1, .float 1031798784, .int 0, .int 1, .int 0, .int 0, .ref a29, .ref a30, .ref a31, .float 0, .float 0, .float 0])), (a2, .inl (ca2, 3328, .inr (.inr (.inl (fun _ => 0))))), (a3, .inl (ca3, 256, .inl (fun _ => 0))), (a4, .inl (ca4, 256, .inl (fun _ => 0))), (a5, .inl (ca5, 9, .inr (.inr (.inl (fun _ => 0))))), (od, .inl (cD, 1, .inr (.inr (.inr (.inl (fun _ => 0))))))]) (tyr := [(cR, .object "IslandSolver$Row"), (ca2, .float), (ca3, .boolean), (ca4, .int), (ca5, .float), (cJ, .long), (cD, .double)]) (vx_runSW (As := [.ref x, .int (xs (1 : Int32).toNatClampNeg), .int (xs (2 : Int32).toNatClampNeg), .float (FP.fmul (FP.i2f (xs (3 : Int32).toNatClampNeg)) 1040187392), .int (xs (4 : Int32).toNatClampNeg), .float (FP.fmul (FP.i2f (xs (5 : Int32).toNatClampNeg)) 1040187392), .int (xs (6 : Int32).toNatClampNeg), .ref o]) (rest := []) ⟨hx, hb, hml, hown, hts⟩ (w_rub l dC dI ad _ x lb lr lk pn pp pq 0 wo re fr (xs (1 : Int32).toNatClampNeg) (xs (2 : Int32).toNatClampNeg) (FP.fmul (FP.i2f (xs (3 : Int32).toNatClampNeg)) 1040187392) (xs (4 : Int32).toNatClampNeg) (FP.fmul (FP.i2f (xs (5 : Int32).toNatClampNeg)) 1040187392) (xs (6 : Int32).toNatClampNeg) o cJ (fun _ => 0) hlt) (vx_cwSW 8 hts gL_law_L_rub rfl rfl rfl (by decide +kernel) ⟨Nat.le_of_ble_eq_true rfl, Nat.le_of_ble_eq_true rfl⟩) (kc_preS hP hD hK hS hA hE [0, 1, 13] rfl (by decide) [5] rfl) rfl rfl hl.1 rfl (lv_room (Nat.le_of_ble_eq_true rfl)) dL_law_1006 ⟨Nat.le_of_ble_eq_true rfl, Nat.le_of_ble_eq_true rfl⟩) hP hD hK hS hA [0, 1, 13] [2, 3, 4, 5, 6, 7, 8, 9, 10, 11, 12, 14] rfl rfl (by decide) (by decide) [0, 1, 2, 3, 4, 5, 6] rfl (fun r_7 u H locs hw hP hD hK hS => ?_)
  subst hw
  have hP : va_P (dC, dI) vwCl [(lr, .inr (0, [.int 0, .ref ad, .int 0])), (lk, .inr (0, [.int 0, .ref ad, .int 0])), (pn, .inr (3, [.float 0, .float 0, .float 0])), (pp, .inr (3, [.float 0, .float 0, .float 0])), (pq, .inr (3, [.float 0, .float 0, .float 0])), (fr, .inl (cR, 8, .inr (.inr (.inr (.inr (fun _ => none)))))), (mm, .inr (5, [.int 0, .int 0, .ref a2, .ref a3, .ref a4, .ref a5, .int 0, .ref a7, .ref a8, .ref a9, .ref a10, .ref a11, .ref a12, .ref a13, .ref a14, .ref a15, .ref a16, .ref a17, .ref a18, .int 0, .ref a20, .ref a21, .int 8, .float FP.fconst1, .float 1031798784, .int 0, .int 1, .int 0, .int 0, .ref a29, .ref a30, .ref a31, .float 0, .float 0, .float 0])), (a2, .inl (ca2, 3328, .inr (.inr (.inl (fun _ => 0))))), (a3, .inl (ca3, 256, .inl (fun _ => 0))), (a4, .inl (ca4, 256, .inl (fun _ => 0))), (a5, .inl (ca5, 9, .inr (.inr (.inl (fun _ => 0))))), (od, .inl (cD, 1, .inr (.inr (.inr (.inl (fun _ => 0))))))] H := hP
  have hD : va_D A [(lr, .inr (0, [.int 0, .ref ad, .int 0])), (lk, .inr (0, [.int 0, .ref ad, .int 0])), (pn, .inr (3, [.float 0, .float 0, .float 0])), (pp, .inr (3, [.float 0, .float 0, .float 0])), (pq, .inr (3, [.float 0, .float 0, .float 0])), (fr, .inl (cR, 8, .inr (.inr (.inr (.inr (fun _ => none)))))), (mm, .inr (5, [.int 0, .int 0, .ref a2, .ref a3, .ref a4, .ref a5, .int 0, .ref a7, .ref a8, .ref a9, .ref a10, .ref a11, .ref a12, .ref a13, .ref a14, .ref a15, .ref a16, .ref a17, .ref a18, .int 0, .ref a20, .ref a21, .int 8, .float FP.fconst1, .float 1031798784, .int 0, .int 1, .int 0, .int 0, .ref a29, .ref a30, .ref a31, .float 0, .float 0, .float 0])), (a2, .inl (ca2, 3328, .inr (.inr (.inl (fun _ => 0))))), (a3, .inl (ca3, 256, .inl (fun _ => 0))), (a4, .inl (ca4, 256, .inl (fun _ => 0))), (a5, .inl (ca5, 9, .inr (.inr (.inl (fun _ => 0))))), (od, .inl (cD, 1, .inr (.inr (.inr (.inl (fun _ => 0))))))] := hD
  have hK : va_K (dC, dI) vwCl [(cR, .object "IslandSolver$Row"), (ca2, .float), (ca3, .boolean), (ca4, .int), (ca5, .float), (cJ, .long), (cD, .double)] s := hK.sub [0, 1, 2, 3, 4, 5, 6] rfl
  refine lv_istore (lv' := [(6, .int 1), (5, .int 0), (4, .ref od), (3, .ref o), (2, .ref mm), (1, .ref x), (0, .ref b)]) hx hb dL_law_1009 hl (by decide) rfl (fun ls hl => ?_)
  refine lv_aload_n hx hb dL_law_1011 rfl (lv_at hl 4 rfl) ?_
  refine lv_aload_n hx hb dL_law_1012 rfl (lv_at hl 6 rfl) ?_
  refine lv_iload hx hb dL_law_1013 (lv_at hl 1 rfl) ?_
  refine lv_iconst (v := 1) hx hb dL_law_1015 (by decide) ?_
  refine lv_iadd hx hb dL_law_1016 ?_
  refine lv_topi (fun x_8 ex_8 => ?_)
  obtain rfl : x_8 = 1 := by rw [ex_8]; decide
  refine va_sld hx hb hX hbl hbA hS (i := 1) (by unfold vp_in; decide) dL_law_1017 ?_
  refine lv_aload_n hx hb dL_law_1018 rfl (lv_at hl 6 rfl) ?_
  refine lv_iload hx hb dL_law_1019 (lv_at hl 1 rfl) ?_
  refine lv_iconst (v := 2) hx hb dL_law_1021 (by decide) ?_
  refine lv_iadd hx hb dL_law_1022 ?_
  refine lv_topi (fun x_9 ex_9 => ?_)
  obtain rfl : x_9 = 2 := by rw [ex_9]; decide
  refine va_sld hx hb hX hbl hbA hS (i := 2) (by unfold vp_in; decide) dL_law_1023 ?_
  refine lv_aload_n hx hb dL_law_1024 rfl (lv_at hl 6 rfl) ?_
  refine lv_iload hx hb dL_law_1025 (lv_at hl 1 rfl) ?_
  refine lv_iconst (v := 3) hx hb dL_law_1027 (by decide) ?_
  refine lv_iadd hx hb dL_law_1028 ?_
  refine lv_topi (fun x_10 ex_10 => ?_)
  obtain rfl : x_10 = 3 := by rw [ex_10]; decide
  refine va_sld hx hb hX hbl hbA hS (i := 3) (by unfold vp_in; decide) dL_law_1029 ?_
  refine lv_i2f hx hb dL_law_1030 ?_
  refine lv_ldcf (v := 1040187392) hx hb hown (hts (.constantFloat RL 75 (1040187392)) (by decide +kernel)) dL_law_1031 ?_
  refine lv_fmul hx hb dL_law_1033 (kf_8 _) ?_
  refine lv_aload_n hx hb dL_law_1034 rfl (lv_at hl 6 rfl) ?_
  refine lv_iload hx hb dL_law_1035 (lv_at hl 1 rfl) ?_
  refine lv_iconst (v := 4) hx hb dL_law_1037 (by decide) ?_
  refine lv_iadd hx hb dL_law_1038 ?_
  refine lv_topi (fun x_11 ex_11 => ?_)
  obtain rfl : x_11 = 4 := by rw [ex_11]; decide
  refine va_sld hx hb hX hbl hbA hS (i := 4) (by unfold vp_in; decide) dL_law_1039 ?_
  refine lv_aload_n hx hb dL_law_1040 rfl (lv_at hl 6 rfl) ?_
  refine lv_iload hx hb dL_law_1041 (lv_at hl 1 rfl) ?_
  refine lv_iconst (v := 5) hx hb dL_law_1043 (by decide) ?_
  refine lv_iadd hx hb dL_law_1044 ?_
  refine lv_topi (fun x_12 ex_12 => ?_)
  obtain rfl : x_12 = 5 := by rw [ex_12]; decide
  refine va_sld hx hb hX hbl hbA hS (i := 5) (by unfold vp_in; decide) dL_law_1045 ?_
  refine lv_i2f hx hb dL_law_1046 ?_
  refine lv_ldcf (v := 1040187392) hx hb hown (hts (.constantFloat RL 75 (1040187392)) (by decide +kernel)) dL_law_1047 ?_
  refine lv_fmul hx hb dL_law_1049 (kf_8 _) ?_
  refine lv_aload_n hx hb dL_law_1050 rfl (lv_at hl 6 rfl) ?_
  refine lv_iload hx hb dL_law_1051 (lv_at hl 1 rfl) ?_
  refine lv_bipush (v := 6) hx hb dL_law_1053 (by decide) ?_
  refine lv_iadd hx hb dL_law_1055 ?_
  refine lv_topi (fun x_13 ex_13 => ?_)
  obtain rfl : x_13 = 6 := by rw [ex_13]; decide
  refine va_sld hx hb hX hbl hbA hS (i := 6) (by unfold vp_in; decide) dL_law_1056 ?_
  refine kc_calli (wc := [(mm, .inr (5, [.int 0, .int 0, .ref a2, .ref a3, .ref a4, .ref a5, .int 0, .ref a7, .ref a8, .ref a9, .ref a10, .ref a11, .ref a12, .ref a13, .ref a14, .ref a15, .ref a16, .ref a17, .ref a18, .int 0, .ref a20, .ref a21, .int 8, .float FP.fconst1, .float 1031798784, .int 0, .int 1, .int 0, .int 0, .ref a29, .ref a30, .ref a31, .float 0, .float 0, .float 0]))]) (wr := [(lr, .inr (0, [.int 0, .ref ad, .int 0])), (lk, .inr (0, [.int 0, .ref ad, .int 0])), (pn, .inr (3, [.float 0, .float 0, .float 0])), (pp, .inr (3, [.float 0, .float 0, .float 0])), (pq, .inr (3, [.float 0, .float 0, .float 0])), (fr, .inl (cR, 8, .inr (.inr (.inr (.inr (fun _ => none)))))), (a2, .inl (ca2, 3328, .inr (.inr (.inl (fun _ => 0))))), (a3, .inl (ca3, 256, .inl (fun _ => 0))), (a4, .inl (ca4, 256, .inl (fun _ => 0))), (a5, .inl (ca5, 9, .inr (.inr (.inl (fun _ => 0))))), (od, .inl (cD, 1, .inr (.inr (.inr (.inl (fun _ => 0))))))]) (tyr := [(cR, .object "IslandSolver$Row"), (ca2, .float), (ca3, .boolean), (ca4, .int), (ca5, .float), (cJ, .long), (cD, .double)]) (va_runV (As := [.int (xs (1 : Int32).toNatClampNeg), .int (xs (2 : Int32).toNatClampNeg), .float (FP.fmul (FP.i2f (xs (3 : Int32).toNatClampNeg)) 1040187392), .int (xs (4 : Int32).toNatClampNeg), .float (FP.fmul (FP.i2f (xs (5 : Int32).toNatClampNeg)) 1040187392), .int (xs (6 : Int32).toNatClampNeg)]) (rest := []) ⟨hx, hb, hml, hown, hts⟩ (m_rub l dC dI ad _ mm 0 a2 a3 a4 a5 a7 a8 a9 a10 a11 a12 a13 a14 a15 a16 a17 a18 a20 a21 0 a29 a30 a31 0 0 0 (xs (1 : Int32).toNatClampNeg) (xs (2 : Int32).toNatClampNeg) (FP.fmul (FP.i2f (xs (3 : Int32).toNatClampNeg)) 1040187392) (xs (4 : Int32).toNatClampNeg) (FP.fmul (FP.i2f (xs (5 : Int32).toNatClampNeg)) 1040187392) (xs (6 : Int32).toNatClampNeg)) (cwV 6 hts gL_law_X4_rub rfl rfl rfl (by decide +kernel) ⟨Nat.le_of_ble_eq_true rfl, Nat.le_of_ble_eq_true rfl⟩) (kc_preV hP hD hK hS hA hE [6] rfl (by decide) [] rfl 6 rfl rfl) rfl rfl hl.1 rfl (lv_room (Nat.le_of_ble_eq_true rfl)) dL_law_1057 ⟨Nat.le_of_ble_eq_true rfl, Nat.le_of_ble_eq_true rfl⟩) hP hD hK hS hA [6] [0, 1, 2, 3, 4, 5, 7, 8, 9, 10, 11] rfl rfl (by decide) (by decide) [0, 1, 2, 3, 4, 5, 6] rfl (fun r_14 u H locs hw hP hD hK hS => ?_)
  obtain ⟨fs_15, rfl⟩ : ∃ z, z = u := ⟨_, rfl⟩
  have hP : va_P (dC, dI) vwCl [(lr, .inr (0, [.int 0, .ref ad, .int 0])), (lk, .inr (0, [.int 0, .ref ad, .int 0])), (pn, .inr (3, [.float 0, .float 0, .float 0])), (pp, .inr (3, [.float 0, .float 0, .float 0])), (pq, .inr (3, [.float 0, .float 0, .float 0])), (fr, .inl (cR, 8, .inr (.inr (.inr (.inr (fun _ => none)))))), (a2, .inl (ca2, 3328, .inr (.inr (.inl (fun _ => 0))))), (a3, .inl (ca3, 256, .inl (fun _ => 0))), (a4, .inl (ca4, 256, .inl (fun _ => 0))), (a5, .inl (ca5, 9, .inr (.inr (.inl (fun _ => 0))))), (od, .inl (cD, 1, .inr (.inr (.inr (.inl (fun _ => 0)))))), (mm, .inr (5, fs_15))] H := hP
  have hD : va_D A [(lr, .inr (0, [.int 0, .ref ad, .int 0])), (lk, .inr (0, [.int 0, .ref ad, .int 0])), (pn, .inr (3, [.float 0, .float 0, .float 0])), (pp, .inr (3, [.float 0, .float 0, .float 0])), (pq, .inr (3, [.float 0, .float 0, .float 0])), (fr, .inl (cR, 8, .inr (.inr (.inr (.inr (fun _ => none)))))), (a2, .inl (ca2, 3328, .inr (.inr (.inl (fun _ => 0))))), (a3, .inl (ca3, 256, .inl (fun _ => 0))), (a4, .inl (ca4, 256, .inl (fun _ => 0))), (a5, .inl (ca5, 9, .inr (.inr (.inl (fun _ => 0))))), (od, .inl (cD, 1, .inr (.inr (.inr (.inl (fun _ => 0)))))), (mm, .inr (5, fs_15))] := hD
  have hK : va_K (dC, dI) vwCl [(cR, .object "IslandSolver$Row"), (ca2, .float), (ca3, .boolean), (ca4, .int), (ca5, .float), (cJ, .long), (cD, .double)] s := hK.sub [0, 1, 2, 3, 4, 5, 6] rfl
  obtain ⟨hf_16, rfl⟩ := hw
  refine lv_istore (lv' := [(7, .int 0), (6, .int 1), (5, .int 0), (4, .ref od), (3, .ref o), (2, .ref mm), (1, .ref x), (0, .ref b)]) hx hb dL_law_1060 hl (by decide) rfl (fun ls hl => ?_)
  refine lv_aload_n hx hb dL_law_1062 rfl (lv_at hl 5 rfl) ?_
  refine kc_calli (wc := [(mm, .inr (5, fs_15))]) (wr := [(lr, .inr (0, [.int 0, .ref ad, .int 0])), (lk, .inr (0, [.int 0, .ref ad, .int 0])), (pn, .inr (3, [.float 0, .float 0, .float 0])), (pp, .inr (3, [.float 0, .float 0, .float 0])), (pq, .inr (3, [.float 0, .float 0, .float 0])), (fr, .inl (cR, 8, .inr (.inr (.inr (.inr (fun _ => none)))))), (a2, .inl (ca2, 3328, .inr (.inr (.inl (fun _ => 0))))), (a3, .inl (ca3, 256, .inl (fun _ => 0))), (a4, .inl (ca4, 256, .inl (fun _ => 0))), (a5, .inl (ca5, 9, .inr (.inr (.inl (fun _ => 0))))), (od, .inl (cD, 1, .inr (.inr (.inr (.inl (fun _ => 0))))))]) (tyr := [(cR, .object "IslandSolver$Row"), (ca2, .float), (ca3, .boolean), (ca4, .int), (ca5, .float), (cJ, .long), (cD, .double)]) (va_runV (As := []) (rest := []) ⟨hx, hb, hml, hown, hts⟩ (c_thrown l dC dI ad _ mm fs_15 1 hf_16) (cwV 0 hts gL_law_X4_thrown rfl rfl rfl (by decide +kernel) ⟨Nat.le_of_ble_eq_true rfl, Nat.le_of_ble_eq_true rfl⟩) (kc_preV hP hD hK hS hA hE [11] rfl (by decide) [] rfl 11 rfl rfl) rfl rfl hl.1 rfl (lv_room (Nat.le_of_ble_eq_true rfl)) dL_law_1063 ⟨Nat.le_of_ble_eq_true rfl, Nat.le_of_ble_eq_true rfl⟩) hP hD hK hS hA [11] [0, 1, 2, 3, 4, 5, 6, 7, 8, 9, 10] rfl rfl (by decide) (by decide) [0, 1, 2, 3, 4, 5, 6] rfl (fun r_17 u H locs hw hP hD hK hS => ?_)
  subst hw
  have hP : va_P (dC, dI) vwCl [(lr, .inr (0, [.int 0, .ref ad, .int 0])), (lk, .inr (0, [.int 0, .ref ad, .int 0])), (pn, .inr (3, [.float 0, .float 0, .float 0])), (pp, .inr (3, [.float 0, .float 0, .float 0])), (pq, .inr (3, [.float 0, .float 0, .float 0])), (fr, .inl (cR, 8, .inr (.inr (.inr (.inr (fun _ => none)))))), (a2, .inl (ca2, 3328, .inr (.inr (.inl (fun _ => 0))))), (a3, .inl (ca3, 256, .inl (fun _ => 0))), (a4, .inl (ca4, 256, .inl (fun _ => 0))), (a5, .inl (ca5, 9, .inr (.inr (.inl (fun _ => 0))))), (od, .inl (cD, 1, .inr (.inr (.inr (.inl (fun _ => 0)))))), (mm, .inr (5, fs_15))] H := hP
  have hD : va_D A [(lr, .inr (0, [.int 0, .ref ad, .int 0])), (lk, .inr (0, [.int 0, .ref ad, .int 0])), (pn, .inr (3, [.float 0, .float 0, .float 0])), (pp, .inr (3, [.float 0, .float 0, .float 0])), (pq, .inr (3, [.float 0, .float 0, .float 0])), (fr, .inl (cR, 8, .inr (.inr (.inr (.inr (fun _ => none)))))), (a2, .inl (ca2, 3328, .inr (.inr (.inl (fun _ => 0))))), (a3, .inl (ca3, 256, .inl (fun _ => 0))), (a4, .inl (ca4, 256, .inl (fun _ => 0))), (a5, .inl (ca5, 9, .inr (.inr (.inl (fun _ => 0))))), (od, .inl (cD, 1, .inr (.inr (.inr (.inl (fun _ => 0)))))), (mm, .inr (5, fs_15))] := hD
  have hK : va_K (dC, dI) vwCl [(cR, .object "IslandSolver$Row"), (ca2, .float), (ca3, .boolean), (ca4, .int), (ca5, .float), (cJ, .long), (cD, .double)] s := hK.sub [0, 1, 2, 3, 4, 5, 6] rfl
  refine lv_iload hx hb dL_law_1066 (lv_at hl 1 rfl) ?_
  refine lv_icmp_eq (tgt := 1073) hx hb dL_law_1068 (by decide) (fun _ => ?_) (fun h9 => absurd h9 (by decide))
  refine lv_iload hx hb dL_law_1073 (lv_at hl 1 rfl) ?_
  refine lv_if_ne (tgt := 1090) hx hb dL_law_1075 (by decide) (fun _ => ?_) (fun h9 => absurd h9 (by decide))
  refine lv_goto (tgt := 1653) hx hb dL_law_1090 (by decide) ?_
  refine lv_iinc (v := 8) (lv' := [(5, .int 8), (7, .int 0), (6, .int 1), (4, .ref od), (3, .ref o), (2, .ref mm), (1, .ref x), (0, .ref b)]) hx hb dL_law_1653 hl (k := 2) rfl (by decide) (by decide) rfl (fun ls hl => ?_)
  refine lv_goto (tgt := 28) hx hb dL_law_1656 (by decide) ?_
  refine lv_iload hx hb dL_law_28 (lv_at hl 0 rfl) ?_
  refine lv_aload_n hx hb dL_law_30 rfl (lv_at hl 7 rfl) ?_
  refine va_slen hx hb hX hbl hbA hS dL_law_31 ?_
  refine W.eq (g2 := F0 m9 32 ls [.int 8, .int 8]) rfl ?_
  refine lv_bipush (v := 8) hx hb dL_law_32 (by decide) ?_
  refine lv_isub hx hb dL_law_34 ?_
  refine lv_topi (fun x_18 ex_18 => ?_)
  obtain rfl : x_18 = 0 := by rw [ex_18]; decide
  refine lv_icmp_gt (tgt := 1659) hx hb dL_law_35 (by decide) (fun _ => ?_) (fun h9 => absurd h9 (by decide))
  refine lv_iconst (v := 1) hx hb dL_law_1659 (by decide) ?_
  refine va_forget (fun q hq => by have h9 := hS.2.2 q hq; rw [← hAe] at h9; exact h9) ?_
  refine W.widen (k := 600002) (n := 7302232) (Nat.le_of_ble_eq_true rfl) (Nat.le_of_ble_eq_true rfl) ?_
  exact lw_ret hx hb hr hlocks dL_law_1660
