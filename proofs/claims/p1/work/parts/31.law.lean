set_option maxHeartbeats 8000000 in
set_option maxRecDepth 100000 in
theorem law_2 {p : Program} {l : Launch} {e : Env} {s : State} {m9 : MethodId} {below : List Frame} {meth : Method} {c : Code} {b : Nat} {xs : Nat → Int32} (hlt : l.stackTraces = false) (C0 : lw_At p s m9 meth c b 8 xs) {dC : Nat → ClassId} {dI : Nat → Nat → Nat} {ad : Nat} (hE : kx_E ad (fun q : Nat => s.heap.size ≤ q) s s.heap)
    (x lb lr lk pn pp pq wo re fr mm a2 a3 a4 a5 a7 a8 a9 a10 a11 a12 a13 a14 a15 a16 a17 a18 a20 a21 a29 a30 a31 o od : Nat) (cR ca2 ca3 ca4 ca5 cJ cD : ClassId) (H : Heap) (locs : List Loc) (ls : Array Slot) (hK : va_K (dC, dI) vwCl [(cR, .object "IslandSolver$Row"), (ca2, .float), (ca3, .boolean), (ca4, .int), (ca5, .float), (cJ, .long), (cD, .double)] s) (hP : va_P (dC, dI) vwCl [(x, .inr (4, [.ref lb, .ref lr, .ref lk, .ref pn, .ref pp, .ref pq, .int 8, .float FP.fconst1, .float 1031798784, .int 0, .int 1, .int 0, .int 0, .ref wo, .ref re, .ref fr])), (lb, .inr (0, [.int 0, .ref ad, .int 0])), (lr, .inr (0, [.int 0, .ref ad, .int 0])), (lk, .inr (0, [.int 0, .ref ad, .int 0])), (pn, .inr (3, [.float 0, .float 0, .float 0])), (pp, .inr (3, [.float 0, .float 0, .float 0])), (pq, .inr (3, [.float 0, .float 0, .float 0])), (fr, .inl (cR, 8, .inr (.inr (.inr (.inr (fun _ => none)))))), (mm, .inr (5, [.int 0, .int 0, .ref a2, .ref a3, .ref a4, .ref a5, .int 0, .ref a7, .ref a8, .ref a9, .ref a10, .ref a11, .ref a12, .ref a13, .ref a14, .ref a15, .ref a16, .ref a17, .ref a18, .int 0, .ref a20, .ref a21, .int 8, .float FP.fconst1, .float 1031798784, .int 0, .int 1, .int 0, .int 0, .ref a29, .ref a30, .ref a31, .float 0, .float 0, .float 0])), (a2, .inl (ca2, 3328, .inr (.inr (.inl (fun _ => 0))))), (a3, .inl (ca3, 256, .inl (fun _ => 0))), (a4, .inl (ca4, 256, .inl (fun _ => 0))), (a5, .inl (ca5, 9, .inr (.inr (.inl (fun _ => 0))))), (o, .inl (cJ, 1, .inr (.inl (fun _ => 0)))), (od, .inl (cD, 1, .inr (.inr (.inr (.inl (fun _ => 0))))))] H) (hD : va_D (fun q : Nat => s.heap.size ≤ q) [(x, .inr (4, [.ref lb, .ref lr, .ref lk, .ref pn, .ref pp, .ref pq, .int 8, .float FP.fconst1, .float 1031798784, .int 0, .int 1, .int 0, .int 0, .ref wo, .ref re, .ref fr])), (lb, .inr (0, [.int 0, .ref ad, .int 0])), (lr, .inr (0, [.int 0, .ref ad, .int 0])), (lk, .inr (0, [.int 0, .ref ad, .int 0])), (pn, .inr (3, [.float 0, .float 0, .float 0])), (pp, .inr (3, [.float 0, .float 0, .float 0])), (pq, .inr (3, [.float 0, .float 0, .float 0])), (fr, .inl (cR, 8, .inr (.inr (.inr (.inr (fun _ => none)))))), (mm, .inr (5, [.int 0, .int 0, .ref a2, .ref a3, .ref a4, .ref a5, .int 0, .ref a7, .ref a8, .ref a9, .ref a10, .ref a11, .ref a12, .ref a13, .ref a14, .ref a15, .ref a16, .ref a17, .ref a18, .int 0, .ref a20, .ref a21, .int 8, .float FP.fconst1, .float 1031798784, .int 0, .int 1, .int 0, .int 0, .ref a29, .ref a30, .ref a31, .float 0, .float 0, .float 0])), (a2, .inl (ca2, 3328, .inr (.inr (.inl (fun _ => 0))))), (a3, .inl (ca3, 256, .inl (fun _ => 0))), (a4, .inl (ca4, 256, .inl (fun _ => 0))), (a5, .inl (ca5, 9, .inr (.inr (.inl (fun _ => 0))))), (o, .inl (cJ, 1, .inr (.inl (fun _ => 0)))), (od, .inl (cD, 1, .inr (.inr (.inr (.inl (fun _ => 0))))))]) (hS : va_S (fun q : Nat => s.heap.size ≤ q) s.heap H locs) (hl : lv_has ls 10 [(5, .int 0), (4, .ref od), (3, .ref o), (2, .ref mm), (1, .ref x), (0, .ref b)]) :
    W p l e room_1 s m9 #[Value.ref b] below meth c H locs 34 27736 (lw_Z below #[Value.ref b] s) (F0 m9 348 ls []) := by
  obtain ⟨hx, hb, hr, hml, hown, hts, hX, hbl, hlocks, hgv⟩ := C0
  have hts := fun w h => hts w (wsL_law_in w h)
  have hown : s.vm.findClass RL = some m9.cls := hown
  have hA : ∀ q : Nat, s.heap.size ≤ q → (fun q : Nat => s.heap.size ≤ q) q := fun _ h => h
  have hbA : ¬ (fun q : Nat => s.heap.size ≤ q) b := Nat.not_le.mpr hbl
  generalize hAe : (fun q : Nat => s.heap.size ≤ q) = A at hE hD hS hA hbA
  refine lv_aload_n hx hb dL_law_348 rfl (lv_at hl 4 rfl) ?_
  refine lv_aload_n hx hb dL_law_349 rfl (lv_at hl 5 rfl) ?_
  refine lv_iload hx hb dL_law_350 (lv_at hl 0 rfl) ?_
  refine lv_iconst (v := 1) hx hb dL_law_352 (by decide) ?_
  refine lv_iadd hx hb dL_law_353 ?_
  refine lv_topi (fun x_1 ex_1 => ?_)
  obtain rfl : x_1 = 1 := by rw [ex_1]; decide
  refine va_sld hx hb hX hbl hbA hS (i := 1) (by unfold vp_in; decide) dL_law_354 ?_
  refine lv_aload_n hx hb dL_law_355 rfl (lv_at hl 5 rfl) ?_
  refine lv_iload hx hb dL_law_356 (lv_at hl 0 rfl) ?_
  refine lv_iconst (v := 2) hx hb dL_law_358 (by decide) ?_
  refine lv_iadd hx hb dL_law_359 ?_
  refine lv_topi (fun x_2 ex_2 => ?_)
  obtain rfl : x_2 = 2 := by rw [ex_2]; decide
  refine va_sld hx hb hX hbl hbA hS (i := 2) (by unfold vp_in; decide) dL_law_360 ?_
  refine lv_i2f hx hb dL_law_361 ?_
  refine lv_ldcf (v := 1040187392) hx hb hown (hts (.constantFloat RL 75 (1040187392)) (by decide +kernel)) dL_law_362 ?_
  refine lv_fmul hx hb dL_law_364 (kf_8 _) ?_
  refine lv_aload_n hx hb dL_law_365 rfl (lv_at hl 5 rfl) ?_
  refine lv_iload hx hb dL_law_366 (lv_at hl 0 rfl) ?_
  refine lv_iconst (v := 3) hx hb dL_law_368 (by decide) ?_
  refine lv_iadd hx hb dL_law_369 ?_
  refine lv_topi (fun x_3 ex_3 => ?_)
  obtain rfl : x_3 = 3 := by rw [ex_3]; decide
  refine va_sld hx hb hX hbl hbA hS (i := 3) (by unfold vp_in; decide) dL_law_370 ?_
  refine lv_i2f hx hb dL_law_371 ?_
  refine lv_ldcf (v := 1040187392) hx hb hown (hts (.constantFloat RL 75 (1040187392)) (by decide +kernel)) dL_law_372 ?_
  refine lv_fmul hx hb dL_law_374 (kf_8 _) ?_
  refine lv_aload_n hx hb dL_law_375 rfl (lv_at hl 5 rfl) ?_
  refine lv_iload hx hb dL_law_376 (lv_at hl 0 rfl) ?_
  refine lv_iconst (v := 4) hx hb dL_law_378 (by decide) ?_
  refine lv_iadd hx hb dL_law_379 ?_
  refine lv_topi (fun x_4 ex_4 => ?_)
  obtain rfl : x_4 = 4 := by rw [ex_4]; decide
  refine va_sld hx hb hX hbl hbA hS (i := 4) (by unfold vp_in; decide) dL_law_380 ?_
  refine lv_i2f hx hb dL_law_381 ?_
  refine lv_ldcf (v := 1040187392) hx hb hown (hts (.constantFloat RL 75 (1040187392)) (by decide +kernel)) dL_law_382 ?_
  refine lv_fmul hx hb dL_law_384 (kf_8 _) ?_
  refine lv_aload_n hx hb dL_law_385 rfl (lv_at hl 5 rfl) ?_
  refine lv_iload hx hb dL_law_386 (lv_at hl 0 rfl) ?_
  refine lv_iconst (v := 5) hx hb dL_law_388 (by decide) ?_
  refine lv_iadd hx hb dL_law_389 ?_
  refine lv_topi (fun x_5 ex_5 => ?_)
  obtain rfl : x_5 = 5 := by rw [ex_5]; decide
  refine va_sld hx hb hX hbl hbA hS (i := 5) (by unfold vp_in; decide) dL_law_390 ?_
  refine lv_i2f hx hb dL_law_391 ?_
  refine lv_ldcf (v := 1040187392) hx hb hown (hts (.constantFloat RL 75 (1040187392)) (by decide +kernel)) dL_law_392 ?_
  refine lv_fmul hx hb dL_law_394 (kf_8 _) ?_
  refine lv_aload_n hx hb dL_law_395 rfl (lv_at hl 5 rfl) ?_
  refine lv_iload hx hb dL_law_396 (lv_at hl 0 rfl) ?_
  refine lv_bipush (v := 6) hx hb dL_law_398 (by decide) ?_
  refine lv_iadd hx hb dL_law_400 ?_
  refine lv_topi (fun x_6 ex_6 => ?_)
  obtain rfl : x_6 = 6 := by rw [ex_6]; decide
  refine va_sld hx hb hX hbl hbA hS (i := 6) (by unfold vp_in; decide) dL_law_401 ?_
  refine lv_i2f hx hb dL_law_402 ?_
  refine lv_ldcf (v := 1040187392) hx hb hown (hts (.constantFloat RL 75 (1040187392)) (by decide +kernel)) dL_law_403 ?_
  refine lv_fmul hx hb dL_law_405 (kf_8 _) ?_
  refine lv_aload_n hx hb dL_law_406 rfl (lv_at hl 5 rfl) ?_
  refine lv_iload hx hb dL_law_407 (lv_at hl 0 rfl) ?_
  refine lv_bipush (v := 7) hx hb dL_law_409 (by decide) ?_
  refine lv_iadd hx hb dL_law_411 ?_
  refine lv_topi (fun x_7 ex_7 => ?_)
  obtain rfl : x_7 = 7 := by rw [ex_7]; decide
  refine va_sld hx hb hX hbl hbA hS (i := 7) (by unfold vp_in; decide) dL_law_412 ?_
  refine lv_i2f hx hb dL_law_413 ?_
  refine lv_ldcf (v := 1040187392) hx hb hown (hts (.constantFloat RL 75 (1040187392)) (by decide +kernel)) dL_law_414 ?_
  refine lv_fmul hx hb dL_law_416 (kf_8 _) ?_
  refine kc_calli (wc := [(x, .inr (4, [.ref lb, .ref lr, .ref lk, .ref pn, .ref pp, .ref pq, .int 8, .float FP.fconst1, .float 1031798784, .int 0, .int 1, .int 0, .int 0, .ref wo, .ref re, .ref fr])), (lb, .inr (0, [.int 0, .ref ad, .int 0]))]) (wr := [(lr, .inr (0, [.int 0, .ref ad, .int 0])), (lk, .inr (0, [.int 0, .ref ad, .int 0])), (pn, .inr (3, [.float 0, .float 0, .float 0])), (pp, .inr (3, [.float 0, .float 0, .float 0])), (pq, .inr (3, [.float 0, .float 0, .float 0])), (fr, .inl (cR, 8, .inr (.inr (.inr (.inr (fun _ => none)))))), (mm, .inr (5, [.int 0, .int 0, .ref a2, .ref a3, .ref a4, .ref a5, .int 0, .ref a7, .ref a8, .ref a9, .ref a10, .ref a11, .ref a12, .ref a13, .ref a14, .ref a15, .ref a16, .ref a17, .ref a18, .int 0, .ref a20, .ref a21, .int 8, .float FP.fconst1, .float 1031798784, .int 0, .int 1, .int 0, .int 0, .ref a29, .ref a30, .ref a31, .float 0, .float 0, .float 0])), (a2, .inl (ca2, 3328, .inr (.inr (.inl (fun _ => 0))))), (a3, .inl (ca3, 256, .inl (fun _ => 0))), (a4, .inl (ca4, 256, .inl (fun _ => 0))), (a5, .inl (ca5, 9, .inr (.inr (.inl (fun _ => 0))))), (o, .inl (cJ, 1, .inr (.inl (fun _ => 0)))), (od, .inl (cD, 1, .inr (.inr (.inr (.inl (fun _ => 0))))))]) (tyr := [(cR, .object "IslandSolver$Row"), (ca2, .float), (ca3, .boolean), (ca4, .int), (ca5, .float), (cJ, .long), (cD, .double)]) (vx_runSW (As := [.ref x, .int (xs (1 : Int32).toNatClampNeg), .float (FP.fmul (FP.i2f (xs (2 : Int32).toNatClampNeg)) 1040187392), .float (FP.fmul (FP.i2f (xs (3 : Int32).toNatClampNeg)) 1040187392), .float (FP.fmul (FP.i2f (xs (4 : Int32).toNatClampNeg)) 1040187392), .float (FP.fmul (FP.i2f (xs (5 : Int32).toNatClampNeg)) 1040187392), .float (FP.fmul (FP.i2f (xs (6 : Int32).toNatClampNeg)) 1040187392), .float (FP.fmul (FP.i2f (xs (7 : Int32).toNatClampNeg)) 1040187392)]) (rest := []) ⟨hx, hb, hml, hown, hts⟩ (w_set l dC dI ad _ x lb lr lk pn pp pq 0 wo re fr (xs (1 : Int32).toNatClampNeg) (FP.fmul (FP.i2f (xs (2 : Int32).toNatClampNeg)) 1040187392) (FP.fmul (FP.i2f (xs (3 : Int32).toNatClampNeg)) 1040187392) (FP.fmul (FP.i2f (xs (4 : Int32).toNatClampNeg)) 1040187392) (FP.fmul (FP.i2f (xs (5 : Int32).toNatClampNeg)) 1040187392) (FP.fmul (FP.i2f (xs (6 : Int32).toNatClampNeg)) 1040187392) (FP.fmul (FP.i2f (xs (7 : Int32).toNatClampNeg)) 1040187392) hlt) (vx_cwSW 8 hts gL_law_L_set rfl rfl rfl (by decide +kernel) ⟨Nat.le_of_ble_eq_true rfl, Nat.le_of_ble_eq_true rfl⟩) (kc_preS hP hD hK hS hA hE [0, 1] rfl (by decide) [] rfl) rfl rfl hl.1 rfl (lv_room (Nat.le_of_ble_eq_true rfl)) dL_law_417 ⟨Nat.le_of_ble_eq_true rfl, Nat.le_of_ble_eq_true rfl⟩) hP hD hK hS hA [0, 1] [2, 3, 4, 5, 6, 7, 8, 9, 10, 11, 12, 13, 14] rfl rfl (by decide) (by decide) [0, 1, 2, 3, 4, 5, 6] rfl (fun r_8 u H locs hw hP hD hK hS => ?_)
  subst hw
  have hP : va_P (dC, dI) vwCl [(lr, .inr (0, [.int 0, .ref ad, .int 0])), (lk, .inr (0, [.int 0, .ref ad, .int 0])), (pn, .inr (3, [.float 0, .float 0, .float 0])), (pp, .inr (3, [.float 0, .float 0, .float 0])), (pq, .inr (3, [.float 0, .float 0, .float 0])), (fr, .inl (cR, 8, .inr (.inr (.inr (.inr (fun _ => none)))))), (mm, .inr (5, [.int 0, .int 0, .ref a2, .ref a3, .ref a4, .ref a5, .int 0, .ref a7, .ref a8, .ref a9, .ref a10, .ref a11, .ref a12, .ref a13, .ref a14, .ref a15, .ref a16, .ref a17, .ref a18, .int 0, .ref a20, .ref a21, .int 8, .float FP.fconst1, .float 1031798784, .int 0, .int 1, .int 0, .int 0, .ref a29, .ref a30, .ref a31, .float 0, .float 0, .float 0])), (a2, .inl (ca2, 3328, .inr (.inr (.inl (fun _ => 0))))), (a3, .inl (ca3, 256, .inl (fun _ => 0))), (a4, .inl (ca4, 256, .inl (fun _ => 0))), (a5, .inl (ca5, 9, .inr (.inr (.inl (fun _ => 0))))), (o, .inl (cJ, 1, .inr (.inl (fun _ => 0)))), (od, .inl (cD, 1, .inr (.inr (.inr (.inl (fun _ => 0))))))] H := hP
  have hD : va_D A [(lr, .inr (0, [.int 0, .ref ad, .int 0])), (lk, .inr (0, [.int 0, .ref ad, .int 0])), (pn, .inr (3, [.float 0, .float 0, .float 0])), (pp, .inr (3, [.float 0, .float 0, .float 0])), (pq, .inr (3, [.float 0, .float 0, .float 0])), (fr, .inl (cR, 8, .inr (.inr (.inr (.inr (fun _ => none)))))), (mm, .inr (5, [.int 0, .int 0, .ref a2, .ref a3, .ref a4, .ref a5, .int 0, .ref a7, .ref a8, .ref a9, .ref a10, .ref a11, .ref a12, .ref a13, .ref a14, .ref a15, .ref a16, .ref a17, .ref a18, .int 0, .ref a20, .ref a21, .int 8, .float FP.fconst1, .float 1031798784, .int 0, .int 1, .int 0, .int 0, .ref a29, .ref a30, .ref a31, .float 0, .float 0, .float 0])), (a2, .inl (ca2, 3328, .inr (.inr (.inl (fun _ => 0))))), (a3, .inl (ca3, 256, .inl (fun _ => 0))), (a4, .inl (ca4, 256, .inl (fun _ => 0))), (a5, .inl (ca5, 9, .inr (.inr (.inl (fun _ => 0))))), (o, .inl (cJ, 1, .inr (.inl (fun _ => 0)))), (od, .inl (cD, 1, .inr (.inr (.inr (.inl (fun _ => 0))))))] := hD
  have hK : va_K (dC, dI) vwCl [(cR, .object "IslandSolver$Row"), (ca2, .float), (ca3, .boolean), (ca4, .int), (ca5, .float), (cJ, .long), (cD, .double)] s := hK.sub [0, 1, 2, 3, 4, 5, 6] rfl
  refine lv_istore (lv' := [(6, .int 1), (5, .int 0), (4, .ref od), (3, .ref o), (2, .ref mm), (1, .ref x), (0, .ref b)]) hx hb dL_law_420 hl (by decide) rfl (fun ls hl => ?_)
  refine lv_aload_n hx hb dL_law_422 rfl (lv_at hl 4 rfl) ?_
  refine lv_aload_n hx hb dL_law_423 rfl (lv_at hl 6 rfl) ?_
  refine lv_iload hx hb dL_law_424 (lv_at hl 1 rfl) ?_
  refine lv_iconst (v := 1) hx hb dL_law_426 (by decide) ?_
  refine lv_iadd hx hb dL_law_427 ?_
  refine lv_topi (fun x_9 ex_9 => ?_)
  obtain rfl : x_9 = 1 := by rw [ex_9]; decide
  refine va_sld hx hb hX hbl hbA hS (i := 1) (by unfold vp_in; decide) dL_law_428 ?_
  refine lv_aload_n hx hb dL_law_429 rfl (lv_at hl 6 rfl) ?_
  refine lv_iload hx hb dL_law_430 (lv_at hl 1 rfl) ?_
  refine lv_iconst (v := 2) hx hb dL_law_432 (by decide) ?_
  refine lv_iadd hx hb dL_law_433 ?_
  refine lv_topi (fun x_10 ex_10 => ?_)
  obtain rfl : x_10 = 2 := by rw [ex_10]; decide
  refine va_sld hx hb hX hbl hbA hS (i := 2) (by unfold vp_in; decide) dL_law_434 ?_
  refine lv_i2f hx hb dL_law_435 ?_
  refine lv_ldcf (v := 1040187392) hx hb hown (hts (.constantFloat RL 75 (1040187392)) (by decide +kernel)) dL_law_436 ?_
  refine lv_fmul hx hb dL_law_438 (kf_8 _) ?_
  refine lv_aload_n hx hb dL_law_439 rfl (lv_at hl 6 rfl) ?_
  refine lv_iload hx hb dL_law_440 (lv_at hl 1 rfl) ?_
  refine lv_iconst (v := 3) hx hb dL_law_442 (by decide) ?_
  refine lv_iadd hx hb dL_law_443 ?_
  refine lv_topi (fun x_11 ex_11 => ?_)
  obtain rfl : x_11 = 3 := by rw [ex_11]; decide
  refine va_sld hx hb hX hbl hbA hS (i := 3) (by unfold vp_in; decide) dL_law_444 ?_
  refine lv_i2f hx hb dL_law_445 ?_
  refine lv_ldcf (v := 1040187392) hx hb hown (hts (.constantFloat RL 75 (1040187392)) (by decide +kernel)) dL_law_446 ?_
  refine lv_fmul hx hb dL_law_448 (kf_8 _) ?_
  refine lv_aload_n hx hb dL_law_449 rfl (lv_at hl 6 rfl) ?_
  refine lv_iload hx hb dL_law_450 (lv_at hl 1 rfl) ?_
  refine lv_iconst (v := 4) hx hb dL_law_452 (by decide) ?_
  refine lv_iadd hx hb dL_law_453 ?_
  refine lv_topi (fun x_12 ex_12 => ?_)
  obtain rfl : x_12 = 4 := by rw [ex_12]; decide
  refine va_sld hx hb hX hbl hbA hS (i := 4) (by unfold vp_in; decide) dL_law_454 ?_
  refine lv_i2f hx hb dL_law_455 ?_
  refine lv_ldcf (v := 1040187392) hx hb hown (hts (.constantFloat RL 75 (1040187392)) (by decide +kernel)) dL_law_456 ?_
  refine lv_fmul hx hb dL_law_458 (kf_8 _) ?_
  refine lv_aload_n hx hb dL_law_459 rfl (lv_at hl 6 rfl) ?_
  refine lv_iload hx hb dL_law_460 (lv_at hl 1 rfl) ?_
  refine lv_iconst (v := 5) hx hb dL_law_462 (by decide) ?_
  refine lv_iadd hx hb dL_law_463 ?_
  refine lv_topi (fun x_13 ex_13 => ?_)
  obtain rfl : x_13 = 5 := by rw [ex_13]; decide
  refine va_sld hx hb hX hbl hbA hS (i := 5) (by unfold vp_in; decide) dL_law_464 ?_
  refine lv_i2f hx hb dL_law_465 ?_
  refine lv_ldcf (v := 1040187392) hx hb hown (hts (.constantFloat RL 75 (1040187392)) (by decide +kernel)) dL_law_466 ?_
  refine lv_fmul hx hb dL_law_468 (kf_8 _) ?_
  refine lv_aload_n hx hb dL_law_469 rfl (lv_at hl 6 rfl) ?_
  refine lv_iload hx hb dL_law_470 (lv_at hl 1 rfl) ?_
  refine lv_bipush (v := 6) hx hb dL_law_472 (by decide) ?_
  refine lv_iadd hx hb dL_law_474 ?_
  refine lv_topi (fun x_14 ex_14 => ?_)
  obtain rfl : x_14 = 6 := by rw [ex_14]; decide
  refine va_sld hx hb hX hbl hbA hS (i := 6) (by unfold vp_in; decide) dL_law_475 ?_
  refine lv_i2f hx hb dL_law_476 ?_
  refine lv_ldcf (v := 1040187392) hx hb hown (hts (.constantFloat RL 75 (1040187392)) (by decide +kernel)) dL_law_477 ?_
  refine lv_fmul hx hb dL_law_479 (kf_8 _) ?_
  refine lv_aload_n hx hb dL_law_480 rfl (lv_at hl 6 rfl) ?_
  refine lv_iload hx hb dL_law_481 (lv_at hl 1 rfl) ?_
  refine lv_bipush (v := 7) hx hb dL_law_483 (by decide) ?_
  refine lv_iadd hx hb dL_law_485 ?_
  refine lv_topi (fun x_15 ex_15 => ?_)
  obtain rfl : x_15 = 7 := by rw [ex_15]; decide
  refine va_sld hx hb hX hbl hbA hS (i := 7) (by unfold vp_in; decide) dL_law_486 ?_
  refine lv_i2f hx hb dL_law_487 ?_
  refine lv_ldcf (v := 1040187392) hx hb hown (hts (.constantFloat RL 75 (1040187392)) (by decide +kernel)) dL_law_488 ?_
  refine lv_fmul hx hb dL_law_490 (kf_8 _) ?_
  refine kc_callv (wc := [(mm, .inr (5, [.int 0, .int 0, .ref a2, .ref a3, .ref a4, .ref a5, .int 0, .ref a7, .ref a8, .ref a9, .ref a10, .ref a11, .ref a12, .ref a13, .ref a14, .ref a15, .ref a16, .ref a17, .ref a18, .int 0, .ref a20, .ref a21, .int 8, .float FP.fconst1, .float 1031798784, .int 0, .int 1, .int 0, .int 0, .ref a29, .ref a30, .ref a31, .float 0, .float 0, .float 0]))]) (wr := [(lr, .inr (0, [.int 0, .ref ad, .int 0])), (lk, .inr (0, [.int 0, .ref ad, .int 0])), (pn, .inr (3, [.float 0, .float 0, .float 0])), (pp, .inr (3, [.float 0, .float 0, .float 0])), (pq, .inr (3, [.float 0, .float 0, .float 0])), (fr, .inl (cR, 8, .inr (.inr (.inr (.inr (fun _ => none)))))), (a2, .inl (ca2, 3328, .inr (.inr (.inl (fun _ => 0))))), (a3, .inl (ca3, 256, .inl (fun _ => 0))), (a4, .inl (ca4, 256, .inl (fun _ => 0))), (a5, .inl (ca5, 9, .inr (.inr (.inl (fun _ => 0))))), (o, .inl (cJ, 1, .inr (.inl (fun _ => 0)))), (od, .inl (cD, 1, .inr (.inr (.inr (.inl (fun _ => 0))))))]) (tyr := [(cR, .object "IslandSolver$Row"), (ca2, .float), (ca3, .boolean), (ca4, .int), (ca5, .float), (cJ, .long), (cD, .double)]) (va_runV (As := [.int (xs (1 : Int32).toNatClampNeg), .float (FP.fmul (FP.i2f (xs (2 : Int32).toNatClampNeg)) 1040187392), .float (FP.fmul (FP.i2f (xs (3 : Int32).toNatClampNeg)) 1040187392), .float (FP.fmul (FP.i2f (xs (4 : Int32).toNatClampNeg)) 1040187392), .float (FP.fmul (FP.i2f (xs (5 : Int32).toNatClampNeg)) 1040187392), .float (FP.fmul (FP.i2f (xs (6 : Int32).toNatClampNeg)) 1040187392), .float (FP.fmul (FP.i2f (xs (7 : Int32).toNatClampNeg)) 1040187392)]) (rest := []) ⟨hx, hb, hml, hown, hts⟩ (m_set l dC dI ad _ mm 0 a2 a3 a4 a5 a7 a8 a9 a10 a11 a12 a13 a14 a15 a16 a17 a18 a20 a21 0 a29 a30 a31 0 0 0 (xs (1 : Int32).toNatClampNeg) (FP.fmul (FP.i2f (xs (2 : Int32).toNatClampNeg)) 1040187392) (FP.fmul (FP.i2f (xs (3 : Int32).toNatClampNeg)) 1040187392) (FP.fmul (FP.i2f (xs (4 : Int32).toNatClampNeg)) 1040187392) (FP.fmul (FP.i2f (xs (5 : Int32).toNatClampNeg)) 1040187392) (FP.fmul (FP.i2f (xs (6 : Int32).toNatClampNeg)) 1040187392) (FP.fmul (FP.i2f (xs (7 : Int32).toNatClampNeg)) 1040187392)) (cwV 7 hts gL_law_X4_set rfl rfl rfl (by decide +kernel) ⟨Nat.le_of_ble_eq_true rfl, Nat.le_of_ble_eq_true rfl⟩) (kc_preV hP hD hK hS hA hE [6] rfl (by decide) [] rfl 6 rfl rfl) rfl rfl hl.1 rfl (lv_room (Nat.le_of_ble_eq_true rfl)) dL_law_491 ⟨Nat.le_of_ble_eq_true rfl, Nat.le_of_ble_eq_true rfl⟩) hP hD hK hS hA [6] [0, 1, 2, 3, 4, 5, 7, 8, 9, 10, 11, 12] rfl rfl (by decide) (by decide) [0, 1, 2, 3, 4, 5, 6] rfl (fun u H locs hw hP hD hK hS => ?_)
  obtain ⟨fs_16, rfl⟩ : ∃ z, z = u := ⟨_, rfl⟩
  have hP : va_P (dC, dI) vwCl [(lr, .inr (0, [.int 0, .ref ad, .int 0])), (lk, .inr (0, [.int 0, .ref ad, .int 0])), (pn, .inr (3, [.float 0, .float 0, .float 0])), (pp, .inr (3, [.float 0, .float 0, .float 0])), (pq, .inr (3, [.float 0, .float 0, .float 0])), (fr, .inl (cR, 8, .inr (.inr (.inr (.inr (fun _ => none)))))), (a2, .inl (ca2, 3328, .inr (.inr (.inl (fun _ => 0))))), (a3, .inl (ca3, 256, .inl (fun _ => 0))), (a4, .inl (ca4, 256, .inl (fun _ => 0))), (a5, .inl (ca5, 9, .inr (.inr (.inl (fun _ => 0))))), (o, .inl (cJ, 1, .inr (.inl (fun _ => 0)))), (od, .inl (cD, 1, .inr (.inr (.inr (.inl (fun _ => 0)))))), (mm, .inr (5, fs_16))] H := hP
  have hD : va_D A [(lr, .inr (0, [.int 0, .ref ad, .int 0])), (lk, .inr (0, [.int 0, .ref ad, .int 0])), (pn, .inr (3, [.float 0, .float 0, .float 0])), (pp, .inr (3, [.float 0, .float 0, .float 0])), (pq, .inr (3, [.float 0, .float 0, .float 0])), (fr, .inl (cR, 8, .inr (.inr (.inr (.inr (fun _ => none)))))), (a2, .inl (ca2, 3328, .inr (.inr (.inl (fun _ => 0))))), (a3, .inl (ca3, 256, .inl (fun _ => 0))), (a4, .inl (ca4, 256, .inl (fun _ => 0))), (a5, .inl (ca5, 9, .inr (.inr (.inl (fun _ => 0))))), (o, .inl (cJ, 1, .inr (.inl (fun _ => 0)))), (od, .inl (cD, 1, .inr (.inr (.inr (.inl (fun _ => 0)))))), (mm, .inr (5, fs_16))] := hD
  have hK : va_K (dC, dI) vwCl [(cR, .object "IslandSolver$Row"), (ca2, .float), (ca3, .boolean), (ca4, .int), (ca5, .float), (cJ, .long), (cD, .double)] s := hK.sub [0, 1, 2, 3, 4, 5, 6] rfl
  have hf_17 := hw
  refine lv_aload_n hx hb dL_law_494 rfl (lv_at hl 4 rfl) ?_
  refine kc_calli (wc := [(mm, .inr (5, fs_16))]) (wr := [(lr, .inr (0, [.int 0, .ref ad, .int 0])), (lk, .inr (0, [.int 0, .ref ad, .int 0])), (pn, .inr (3, [.float 0, .float 0, .float 0])), (pp, .inr (3, [.float 0, .float 0, .float 0])), (pq, .inr (3, [.float 0, .float 0, .float 0])), (fr, .inl (cR, 8, .inr (.inr (.inr (.inr (fun _ => none)))))), (a2, .inl (ca2, 3328, .inr (.inr (.inl (fun _ => 0))))), (a3, .inl (ca3, 256, .inl (fun _ => 0))), (a4, .inl (ca4, 256, .inl (fun _ => 0))), (a5, .inl (ca5, 9, .inr (.inr (.inl (fun _ => 0))))), (o, .inl (cJ, 1, .inr (.inl (fun _ => 0)))), (od, .inl (cD, 1, .inr (.inr (.inr (.inl (fun _ => 0))))))]) (tyr := [(cR, .object "IslandSolver$Row"), (ca2, .float), (ca3, .boolean), (ca4, .int), (ca5, .float), (cJ, .long), (cD, .double)]) (va_runV (As := []) (rest := []) ⟨hx, hb, hml, hown, hts⟩ (c_thrown l dC dI ad _ mm fs_16 1 hf_17) (cwV 0 hts gL_law_X4_thrown rfl rfl rfl (by decide +kernel) ⟨Nat.le_of_ble_eq_true rfl, Nat.le_of_ble_eq_true rfl⟩) (kc_preV hP hD hK hS hA hE [12] rfl (by decide) [] rfl 12 rfl rfl) rfl rfl hl.1 rfl (lv_room (Nat.le_of_ble_eq_true rfl)) dL_law_495 ⟨Nat.le_of_ble_eq_true rfl, Nat.le_of_ble_eq_true rfl⟩) hP hD hK hS hA [12] [0, 1, 2, 3, 4, 5, 6, 7, 8, 9, 10, 11] rfl rfl (by decide) (by decide) [0, 1, 2, 3, 4, 5, 6] rfl (fun r_18 u H locs hw hP hD hK hS => ?_)
  subst hw
  have hP : va_P (dC, dI) vwCl [(lr, .inr (0, [.int 0, .ref ad, .int 0])), (lk, .inr (0, [.int 0, .ref ad, .int 0])), (pn, .inr (3, [.float 0, .float 0, .float 0])), (pp, .inr (3, [.float 0, .float 0, .float 0])), (pq, .inr (3, [.float 0, .float 0, .float 0])), (fr, .inl (cR, 8, .inr (.inr (.inr (.inr (fun _ => none)))))), (a2, .inl (ca2, 3328, .inr (.inr (.inl (fun _ => 0))))), (a3, .inl (ca3, 256, .inl (fun _ => 0))), (a4, .inl (ca4, 256, .inl (fun _ => 0))), (a5, .inl (ca5, 9, .inr (.inr (.inl (fun _ => 0))))), (o, .inl (cJ, 1, .inr (.inl (fun _ => 0)))), (od, .inl (cD, 1, .inr (.inr (.inr (.inl (fun _ => 0)))))), (mm, .inr (5, fs_16))] H := hP
  have hD : va_D A [(lr, .inr (0, [.int 0, .ref ad, .int 0])), (lk, .inr (0, [.int 0, .ref ad, .int 0])), (pn, .inr (3, [.float 0, .float 0, .float 0])), (pp, .inr (3, [.float 0, .float 0, .float 0])), (pq, .inr (3, [.float 0, .float 0, .float 0])), (fr, .inl (cR, 8, .inr (.inr (.inr (.inr (fun _ => none)))))), (a2, .inl (ca2, 3328, .inr (.inr (.inl (fun _ => 0))))), (a3, .inl (ca3, 256, .inl (fun _ => 0))), (a4, .inl (ca4, 256, .inl (fun _ => 0))), (a5, .inl (ca5, 9, .inr (.inr (.inl (fun _ => 0))))), (o, .inl (cJ, 1, .inr (.inl (fun _ => 0)))), (od, .inl (cD, 1, .inr (.inr (.inr (.inl (fun _ => 0)))))), (mm, .inr (5, fs_16))] := hD
  have hK : va_K (dC, dI) vwCl [(cR, .object "IslandSolver$Row"), (ca2, .float), (ca3, .boolean), (ca4, .int), (ca5, .float), (cJ, .long), (cD, .double)] s := hK.sub [0, 1, 2, 3, 4, 5, 6] rfl
  refine lv_iload hx hb dL_law_498 (lv_at hl 0 rfl) ?_
  refine lv_icmp_eq (tgt := 505) hx hb dL_law_500 (by decide) (fun _ => ?_) (fun h9 => absurd h9 (by decide))
  refine lv_goto (tgt := 1653) hx hb dL_law_505 (by decide) ?_
  refine lv_iinc (v := 8) (lv' := [(5, .int 8), (6, .int 1), (4, .ref od), (3, .ref o), (2, .ref mm), (1, .ref x), (0, .ref b)]) hx hb dL_law_1653 hl (k := 1) rfl (by decide) (by decide) rfl (fun ls hl => ?_)
  refine lv_goto (tgt := 28) hx hb dL_law_1656 (by decide) ?_
  refine lv_iload hx hb dL_law_28 (lv_at hl 0 rfl) ?_
  refine lv_aload_n hx hb dL_law_30 rfl (lv_at hl 6 rfl) ?_
  refine va_slen hx hb hX hbl hbA hS dL_law_31 ?_
  refine W.eq (g2 := F0 m9 32 ls [.int 8, .int 8]) rfl ?_
  refine lv_bipush (v := 8) hx hb dL_law_32 (by decide) ?_
  refine lv_isub hx hb dL_law_34 ?_
  refine lv_topi (fun x_19 ex_19 => ?_)
  obtain rfl : x_19 = 0 := by rw [ex_19]; decide
  refine lv_icmp_gt (tgt := 1659) hx hb dL_law_35 (by decide) (fun _ => ?_) (fun h9 => absurd h9 (by decide))
  refine lv_iconst (v := 1) hx hb dL_law_1659 (by decide) ?_
  refine va_forget (fun q hq => by have h9 := hS.2.2 q hq; rw [← hAe] at h9; exact h9) ?_
  refine W.widen (k := 600002) (n := 7302232) (Nat.le_of_ble_eq_true rfl) (Nat.le_of_ble_eq_true rfl) ?_
  exact lw_ret hx hb hr hlocks dL_law_1660

set_option maxHeartbeats 8000000 in
set_option maxRecDepth 100000 in
theorem law_3 {p : Program} {l : Launch} {e : Env} {s : State} {m9 : MethodId} {below : List Frame} {meth : Method} {c : Code} {b : Nat} {xs : Nat → Int32} (hlt : l.stackTraces = false) (C0 : lw_At p s m9 meth c b 8 xs) {dC : Nat → ClassId} {dI : Nat → Nat → Nat} {ad : Nat} (hE : kx_E ad (fun q : Nat => s.heap.size ≤ q) s s.heap)
    (x lb lr lk pn pp pq wo re fr mm a2 a3 a4 a5 a7 a8 a9 a10 a11 a12 a13 a14 a15 a16 a17 a18 a20 a21 a29 a30 a31 o od : Nat) (cR ca2 ca3 ca4 ca5 cJ cD : ClassId) (H : Heap) (locs : List Loc) (ls : Array Slot) (hK : va_K (dC, dI) vwCl [(cR, .object "IslandSolver$Row"), (ca2, .float), (ca3, .boolean), (ca4, .int), (ca5, .float), (cJ, .long), (cD, .double)] s) (hP : va_P (dC, dI) vwCl [(x, .inr (4, [.ref lb, .ref lr, .ref lk, .ref pn, .ref pp, .ref pq, .int 8, .float FP.fconst1, .float 1031798784, .int 0, .int 1, .int 0, .int 0, .ref wo, .ref re, .ref fr])), (lb, .inr (0, [.int 0, .ref ad, .int 0])), (lr, .inr (0, [.int 0, .ref ad, .int 0])), (lk, .inr (0, [.int 0, .ref ad, .int 0])), (pn, .inr (3, [.float 0, .float 0, .float 0])), (pp, .inr (3, [.float 0, .float 0, .float 0])), (pq, .inr (3, [.float 0, .float 0, .float 0])), (fr, .inl (cR, 8, .inr (.inr (.inr (.inr (fun _ => none)))))), (mm, .inr (5, [.int 0, .int 0, .ref a2, .ref a3, .ref a4, .ref a5, .int 0, .ref a7, .ref a8, .ref a9, .ref a10, .ref a11, .ref a12, .ref a13, .ref a14, .ref a15, .ref a16, .ref a17, .ref a18, .int 0, .ref a20, .ref a21, .int 8, .float FP.fconst1, .float 1031798784, .int 0, .int 1, .int 0, .int 0, .ref a29, .ref a30, .ref a31, .float 0, .float 0, .float 0])), (a2, .inl (ca2, 3328, .inr (.inr (.inl (fun _ => 0))))), (a3, .inl (ca3, 256, .inl (fun _ => 0))), (a4, .inl (ca4, 256, .inl (fun _ => 0))), (a5, .inl (ca5, 9, .inr (.inr (.inl (fun _ => 0))))), (o, .inl (cJ, 1, .inr (.inl (fun _ => 0)))), (od, .inl (cD, 1, .inr (.inr (.inr (.inl (fun _ => 0))))))] H) (hD : va_D (fun q : Nat => s.heap.size ≤ q) [(x, .inr (4, [.ref lb, .ref lr, .ref lk, .ref pn, .ref pp, .ref pq, .int 8, .float FP.fconst1, .float 1031798784, .int 0, .int 1, .int 0, .int 0, .ref wo, .ref re, .ref fr])), (lb, .inr (0, [.int 0, .ref ad, .int 0])), (lr, .inr (0, [.int 0, .ref ad, .int 0])), (lk, .inr (0, [.int 0, .ref ad, .int 0])), (pn, .inr (3, [.float 0, .float 0, .float 0])), (pp, .inr (3, [.float 0, .float 0, .float 0])), (pq, .inr (3, [.float 0, .float 0, .float 0])), (fr, .inl (cR, 8, .inr (.inr (.inr (.inr (fun _ => none)))))), (mm, .inr (5, [.int 0, .int 0, .ref a2, .ref a3, .ref a4, .ref a5, .int 0, .ref a7, .ref a8, .ref a9, .ref a10, .ref a11, .ref a12, .ref a13, .ref a14, .ref a15, .ref a16, .ref a17, .ref a18, .int 0, .ref a20, .ref a21, .int 8, .float FP.fconst1, .float 1031798784, .int 0, .int 1, .int 0, .int 0, .ref a29, .ref a30, .ref a31, .float 0, .float 0, .float 0])), (a2, .inl (ca2, 3328, .inr (.inr (.inl (fun _ => 0))))), (a3, .inl (ca3, 256, .inl (fun _ => 0))), (a4, .inl (ca4, 256, .inl (fun _ => 0))), (a5, .inl (ca5, 9, .inr (.inr (.inl (fun _ => 0))))), (o, .inl (cJ, 1, .inr (.inl (fun _ => 0)))), (od, .inl (cD, 1, .inr (.inr (.inr (.inl (fun _ => 0))))))]) (hS : va_S (fun q : Nat => s.heap.size ≤ q) s.heap H locs) (hl : lv_has ls 10 [(5, .int 0), (4, .ref od), (3, .ref o), (2, .ref mm), (1, .ref x), (0, .ref b)]) :
    W p l e room_1 s m9 #[Value.ref b] below meth c H locs 34 27736 (lw_Z below #[Value.ref b] s) (F0 m9 508 ls []) := by
  obtain ⟨hx, hb, hr, hml, hown, hts, hX, hbl, hlocks, hgv⟩ := C0
  have hts := fun w h => hts w (wsL_law_in w h)
  have hown : s.vm.findClass RL = some m9.cls := hown
  have hA : ∀ q : Nat, s.heap.size ≤ q → (fun q : Nat => s.heap.size ≤ q) q := fun _ h => h
  have hbA : ¬ (fun q : Nat => s.heap.size ≤ q) b := Nat.not_le.mpr hbl
  generalize hAe : (fun q : Nat => s.heap.size ≤ q) = A at hE hD hS hA hbA
  refine lv_aload_n hx hb dL_law_508 rfl (lv_at hl 4 rfl) ?_
  refine lv_aload_n hx hb dL_law_509 rfl (lv_at hl 5 rfl) ?_
  refine lv_iload hx hb dL_law_510 (lv_at hl 0 rfl) ?_
  refine lv_iconst (v := 1) hx hb dL_law_512 (by decide) ?_
  refine lv_iadd hx hb dL_law_513 ?_
  refine lv_topi (fun x_1 ex_1 => ?_)
  obtain rfl : x_1 = 1 := by rw [ex_1]; decide
  refine va_sld hx hb hX hbl hbA hS (i := 1) (by unfold vp_in; decide) dL_law_514 ?_
  refine lv_aload_n hx hb dL_law_515 rfl (lv_at hl 5 rfl) ?_
  refine lv_iload hx hb dL_law_516 (lv_at hl 0 rfl) ?_
  refine lv_iconst (v := 2) hx hb dL_law_518 (by decide) ?_
  refine lv_iadd hx hb dL_law_519 ?_
  refine lv_topi (fun x_2 ex_2 => ?_)
  obtain rfl : x_2 = 2 := by rw [ex_2]; decide
  refine va_sld hx hb hX hbl hbA hS (i := 2) (by unfold vp_in; decide) dL_law_520 ?_
  refine lv_aload_n hx hb dL_law_521 rfl (lv_at hl 5 rfl) ?_
  refine lv_iload hx hb dL_law_522 (lv_at hl 0 rfl) ?_
  refine lv_iconst (v := 3) hx hb dL_law_524 (by decide) ?_
  refine lv_iadd hx hb dL_law_525 ?_
  refine lv_topi (fun x_3 ex_3 => ?_)
  obtain rfl : x_3 = 3 := by rw [ex_3]; decide
  refine va_sld hx hb hX hbl hbA hS (i := 3) (by unfold vp_in; decide) dL_law_526 ?_
  refine lv_i2f hx hb dL_law_527 ?_
  refine lv_ldcf (v := 1040187392) hx hb hown (hts (.constantFloat RL 75 (1040187392)) (by decide +kernel)) dL_law_528 ?_
  refine lv_fmul hx hb dL_law_530 (kf_8 _) ?_
  refine lv_aload_n hx hb dL_law_531 rfl (lv_at hl 5 rfl) ?_
  refine lv_iload hx hb dL_law_532 (lv_at hl 0 rfl) ?_
  refine lv_iconst (v := 4) hx hb dL_law_534 (by decide) ?_
  refine lv_iadd hx hb dL_law_535 ?_
  refine lv_topi (fun x_4 ex_4 => ?_)
  obtain rfl : x_4 = 4 := by rw [ex_4]; decide
  refine va_sld hx hb hX hbl hbA hS (i := 4) (by unfold vp_in; decide) dL_law_536 ?_
  refine lv_i2f hx hb dL_law_537 ?_
  refine lv_ldcf (v := 1040187392) hx hb hown (hts (.constantFloat RL 75 (1040187392)) (by decide +kernel)) dL_law_538 ?_
  refine lv_fmul hx hb dL_law_540 (kf_8 _) ?_
  refine lv_aload_n hx hb dL_law_541 rfl (lv_at hl 5 rfl) ?_
  refine lv_iload hx hb dL_law_542 (lv_at hl 0 rfl) ?_
  refine lv_iconst (v := 5) hx hb dL_law_544 (by decide) ?_
  refine lv_iadd hx hb dL_law_545 ?_
  refine lv_topi (fun x_5 ex_5 => ?_)
  obtain rfl : x_5 = 5 := by rw [ex_5]; decide
  refine va_sld hx hb hX hbl hbA hS (i := 5) (by unfold vp_in; decide) dL_law_546 ?_
  refine lv_i2f hx hb dL_law_547 ?_
  refine lv_ldcf (v := 1040187392) hx hb hown (hts (.constantFloat RL 75 (1040187392)) (by decide +kernel)) dL_law_548 ?_
  refine lv_fmul hx hb dL_law_550 (kf_8 _) ?_
  refine lv_aload_n hx hb dL_law_551 rfl (lv_at hl 2 rfl) ?_
  refine kc_calli (wc := [(x, .inr (4, [.ref lb, .ref lr, .ref lk, .ref pn, .ref pp, .ref pq, .int 8, .float FP.fconst1, .float 1031798784, .int 0, .int 1, .int 0, .int 0, .ref wo, .ref re, .ref fr])), (lb, .inr (0, [.int 0, .ref ad, .int 0])), (o, .inl (cJ, 1, .inr (.inl (fun _ => 0))))]) (wr := [(lr, .inr (0, [.int 0, .ref ad, .int 0])), (lk, .inr (0, [.int 0, .ref ad, .int 0])), (pn, .inr (3, [.float 0, .float 0, .float 0])), (pp, .inr (3, [.float 0, .float 0, .float 0])), (pq, .inr (3, [.float 0, .float 0, .float 0])), (fr, .inl (cR, 8, .inr (.inr (.inr (.inr (fun _ => none)))))), (mm, .inr (5, [.int 0, .int 0, .ref a2, .ref a3, .ref a4, .ref a5, .int 0, .ref a7, .ref a8, .ref a9, .ref a10, .ref a11, .ref a12, .ref a13, .ref a14, .ref a15, .ref a16, .ref a17, .ref a18, .int 0, .ref a20, .ref a21, .int 8, .float FP.fconst1, .float 1031798784, .int 0, .int 1, .int 0, .int 0, .ref a29, .ref a30, .ref a31, .float 0, .float 0, .float 0])), (a2, .inl (ca2, 3328, .inr (.inr (.inl (fun _ => 0))))), (a3, .inl (ca3, 256, .inl (fun _ => 0))), (a4, .inl (ca4, 256, .inl (fun _ => 0))), (a5, .inl (ca5, 9, .inr (.inr (.inl (fun _ => 0))))), (od, .inl (cD, 1, .inr (.inr (.inr (.inl (fun _ => 0))))))]) (tyr := [(cR, .object "IslandSolver$Row"), (ca2, .float), (ca3, .boolean), (ca4, .int), (ca5, .float), (cJ, .long), (cD, .double)]) (vx_runSW (As := [.ref x, .int (xs (1 : Int32).toNatClampNeg), .int (xs (2 : Int32).toNatClampNeg), .float (FP.fmul (FP.i2f (xs (3 : Int32).toNatClampNeg)) 1040187392), .float (FP.fmul (FP.i2f (xs (4 : Int32).toNatClampNeg)) 1040187392), .float (FP.fmul (FP.i2f (xs (5 : Int32).toNatClampNeg)) 1040187392), .ref o]) (rest := []) ⟨hx, hb, hml, hown, hts⟩ (w_gain l dC dI ad _ x lb lr lk pn pp pq 0 wo re fr (xs (1 : Int32).toNatClampNeg) (xs (2 : Int32).toNatClampNeg) (FP.fmul (FP.i2f (xs (3 : Int32).toNatClampNeg)) 1040187392) (FP.fmul (FP.i2f (xs (4 : Int32).toNatClampNeg)) 1040187392) (FP.fmul (FP.i2f (xs (5 : Int32).toNatClampNeg)) 1040187392) o cJ (fun _ => 0) hlt) (vx_cwSW 7 hts gL_law_L_gain rfl rfl rfl (by decide +kernel) ⟨Nat.le_of_ble_eq_true rfl, Nat.le_of_ble_eq_true rfl⟩) (kc_preS hP hD hK hS hA hE [0, 1, 13] rfl (by decide) [5] rfl) rfl rfl hl.1 rfl (lv_room (Nat.le_of_ble_eq_true rfl)) dL_law_552 ⟨Nat.le_of_ble_eq_true rfl, Nat.le_of_ble_eq_true rfl⟩) hP hD hK hS hA [0, 1, 13] [2, 3, 4, 5, 6, 7, 8, 9, 10, 11, 12, 14] rfl rfl (by decide) (by decide) [0, 1, 2, 3, 4, 5, 6] rfl (fun r_6 u H locs hw hP hD hK hS => ?_)
  subst hw
  have hP : va_P (dC, dI) vwCl [(lr, .inr (0, [.int 0, .ref ad, .int 0])), (lk, .inr (0, [.int 0, .ref ad, .int 0])), (pn, .inr (3, [.float 0, .float 0, .float 0])), (pp, .inr (3, [.float 0, .float 0, .float 0])), (pq, .inr (3, [.float 0, .float 0, .float 0])), (fr, .inl (cR, 8, .inr (.inr (.inr (.inr (fun _ => none)))))), (mm, .inr (5, [.int 0, .int 0, .ref a2, .ref a3, .ref a4, .ref a5, .int 0, .ref a7, .ref a8, .ref a9, .ref a10, .ref a11, .ref a12, .ref a13, .ref a14, .ref a15, .ref a16, .ref a17, .ref a18, .int 0, .ref a20, .ref a21, .int 8, .float FP.fconst1, .float 1031798784, .int 0, .int 1, .int 0, .int 0, .ref a29, .ref a30, .ref a31, .float 0, .float 0, .float 0])), (a2, .inl (ca2, 3328, .inr (.inr (.inl (fun _ => 0))))), (a3, .inl (ca3, 256, .inl (fun _ => 0))), (a4, .inl (ca4, 256, .inl (fun _ => 0))), (a5, .inl (ca5, 9, .inr (.inr (.inl (fun _ => 0))))), (od, .inl (cD, 1, .inr (.inr (.inr (.inl (fun _ => 0))))))] H := hP
  have hD : va_D A [(lr, .inr (0, [.int 0, .ref ad, .int 0])), (lk, .inr (0, [.int 0, .ref ad, .int 0])), (pn, .inr (3, [.float 0, .float 0, .float 0])), (pp, .inr (3, [.float 0, .float 0, .float 0])), (pq, .inr (3, [.float 0, .float 0, .float 0])), (fr, .inl (cR, 8, .inr (.inr (.inr (.inr (fun _ => none)))))), (mm, .inr (5, [.int 0, .int 0, .ref a2, .ref a3, .ref a4, .ref a5, .int 0, .ref a7, .ref a8, .ref a9, .ref a10, .ref a11, .ref a12, .ref a13, .ref a14, .ref a15, .ref a16, .ref a17, .ref a18, .int 0, .ref a20, .ref a21, .int 8, .float FP.fconst1, .float 1031798784, .int 0, .int 1, .int 0, .int 0, .ref a29, .ref a30, .ref a31, .float 0, .float 0, .float 0])), (a2, .inl (ca2, 3328, .inr (.inr (.inl (fun _ => 0))))), (a3, .inl (ca3, 256, .inl (fun _ => 0))), (a4, .inl (ca4, 256, .inl (fun _ => 0))), (a5, .inl (ca5, 9, .inr (.inr (.inl (fun _ => 0))))), (od, .inl (cD, 1, .inr (.inr (.inr (.inl (fun _ => 0))))))] := hD
  have hK : va_K (dC, dI) vwCl [(cR, .object "IslandSolver$Row"), (ca2, .float), (ca3, .boolean), (ca4, .int), (ca5, .float), (cJ, .long), (cD, .double)] s := hK.sub [0, 1, 2, 3, 4, 5, 6] rfl
  refine lv_istore (lv' := [(6, .int 1), (5, .int 0), (4, .ref od), (3, .ref o), (2, .ref mm), (1, .ref x), (0, .ref b)]) hx hb dL_law_555 hl (by decide) rfl (fun ls hl => ?_)
  refine lv_aload_n hx hb dL_law_557 rfl (lv_at hl 4 rfl) ?_
  refine lv_aload_n hx hb dL_law_558 rfl (lv_at hl 6 rfl) ?_
  refine lv_iload hx hb dL_law_559 (lv_at hl 1 rfl) ?_
  refine lv_iconst (v := 1) hx hb dL_law_561 (by decide) ?_
  refine lv_iadd hx hb dL_law_562 ?_
  refine lv_topi (fun x_7 ex_7 => ?_)
  obtain rfl : x_7 = 1 := by rw [ex_7]; decide
  refine va_sld hx hb hX hbl hbA hS (i := 1) (by unfold vp_in; decide) dL_law_563 ?_
  refine lv_aload_n hx hb dL_law_564 rfl (lv_at hl 6 rfl) ?_
  refine lv_iload hx hb dL_law_565 (lv_at hl 1 rfl) ?_
  refine lv_iconst (v := 2) hx hb dL_law_567 (by decide) ?_
  refine lv_iadd hx hb dL_law_568 ?_
  refine lv_topi (fun x_8 ex_8 => ?_)
  obtain rfl : x_8 = 2 := by rw [ex_8]; decide
  refine va_sld hx hb hX hbl hbA hS (i := 2) (by unfold vp_in; decide) dL_law_569 ?_
  refine lv_aload_n hx hb dL_law_570 rfl (lv_at hl 6 rfl) ?_
  refine lv_iload hx hb dL_law_571 (lv_at hl 1 rfl) ?_
  refine lv_iconst (v := 3) hx hb dL_law_573 (by decide) ?_
  refine lv_iadd hx hb dL_law_574 ?_
  refine lv_topi (fun x_9 ex_9 => ?_)
  obtain rfl : x_9 = 3 := by rw [ex_9]; decide
  refine va_sld hx hb hX hbl hbA hS (i := 3) (by unfold vp_in; decide) dL_law_575 ?_
  refine lv_i2f hx hb dL_law_576 ?_
  refine lv_ldcf (v := 1040187392) hx hb hown (hts (.constantFloat RL 75 (1040187392)) (by decide +kernel)) dL_law_577 ?_
  refine lv_fmul hx hb dL_law_579 (kf_8 _) ?_
  refine lv_aload_n hx hb dL_law_580 rfl (lv_at hl 6 rfl) ?_
  refine lv_iload hx hb dL_law_581 (lv_at hl 1 rfl) ?_
  refine lv_iconst (v := 4) hx hb dL_law_583 (by decide) ?_
  refine lv_iadd hx hb dL_law_584 ?_
  refine lv_topi (fun x_10 ex_10 => ?_)
  obtain rfl : x_10 = 4 := by rw [ex_10]; decide
  refine va_sld hx hb hX hbl hbA hS (i := 4) (by unfold vp_in; decide) dL_law_585 ?_
  refine lv_i2f hx hb dL_law_586 ?_
  refine lv_ldcf (v := 1040187392) hx hb hown (hts (.constantFloat RL 75 (1040187392)) (by decide +kernel)) dL_law_587 ?_
  refine lv_fmul hx hb dL_law_589 (kf_8 _) ?_
  refine lv_aload_n hx hb dL_law_590 rfl (lv_at hl 6 rfl) ?_
  refine lv_iload hx hb dL_law_591 (lv_at hl 1 rfl) ?_
  refine lv_iconst (v := 5) hx hb dL_law_593 (by decide) ?_
  refine lv_iadd hx hb dL_law_594 ?_
  refine lv_topi (fun x_11 ex_11 => ?_)
  obtain rfl : x_11 = 5 := by rw [ex_11]; decide
  refine va_sld hx hb hX hbl hbA hS (i := 5) (by unfold vp_in; decide) dL_law_595 ?_
  refine lv_i2f hx hb dL_law_596 ?_
  refine lv_ldcf (v := 1040187392) hx hb hown (hts (.constantFloat RL 75 (1040187392)) (by decide +kernel)) dL_law_597 ?_
  refine lv_fmul hx hb dL_law_599 (kf_8 _) ?_
  refine kc_calli (wc := [(mm, .inr (5, [.int 0, .int 0, .ref a2, .ref a3, .ref a4, .ref a5, .int 0, .ref a7, .ref a8, .ref a9, .ref a10, .ref a11, .ref a12, .ref a13, .ref a14, .ref a15, .ref a16, .ref a17, .ref a18, .int 0, .ref a20, .ref a21, .int 8, .float FP.fconst1, .float 1031798784, .int 0, .int 1, .int 0, .int 0, .ref a29, .ref a30, .ref a31, .float 0, .float 0, .float 0]))]) (wr := [(lr, .inr (0, [.int 0, .ref ad, .int 0])), (lk, .inr (0, [.int 0, .ref ad, .int 0])), (pn, .inr (3, [.float 0, .float 0, .float 0])), (pp, .inr (3, [.float 0, .float 0, .float 0])), (pq, .inr (3, [.float 0, .float 0, .float 0])), (fr, .inl (cR, 8, .inr (.inr (.inr (.inr (fun _ => none)))))), (a2, .inl (ca2, 3328, .inr (.inr (.inl (fun _ => 0))))), (a3, .inl (ca3, 256, .inl (fun _ => 0))), (a4, .inl (ca4, 256, .inl (fun _ => 0))), (a5, .inl (ca5, 9, .inr (.inr (.inl (fun _ => 0))))), (od, .inl (cD, 1, .inr (.inr (.inr (.inl (fun _ => 0))))))]) (tyr := [(cR, .object "IslandSolver$Row"), (ca2, .float), (ca3, .boolean), (ca4, .int), (ca5, .float), (cJ, .long), (cD, .double)]) (va_runV (As := [.int (xs (1 : Int32).toNatClampNeg), .int (xs (2 : Int32).toNatClampNeg), .float (FP.fmul (FP.i2f (xs (3 : Int32).toNatClampNeg)) 1040187392), .float (FP.fmul (FP.i2f (xs (4 : Int32).toNatClampNeg)) 1040187392), .float (FP.fmul (FP.i2f (xs (5 : Int32).toNatClampNeg)) 1040187392)]) (rest := []) ⟨hx, hb, hml, hown, hts⟩ (m_gain l dC dI ad _ mm 0 a2 a3 a4 a5 a7 a8 a9 a10 a11 a12 a13 a14 a15 a16 a17 a18 a20 a21 0 a29 a30 a31 0 0 0 (xs (1 : Int32).toNatClampNeg) (xs (2 : Int32).toNatClampNeg) (FP.fmul (FP.i2f (xs (3 : Int32).toNatClampNeg)) 1040187392) (FP.fmul (FP.i2f (xs (4 : Int32).toNatClampNeg)) 1040187392) (FP.fmul (FP.i2f (xs (5 : Int32).toNatClampNeg)) 1040187392)) (cwV 5 hts gL_law_X4_gain rfl rfl rfl (by decide +kernel) ⟨Nat.le_of_ble_eq_true rfl, Nat.le_of_ble_eq_true rfl⟩) (kc_preV hP hD hK hS hA hE [6] rfl (by decide) [] rfl 6 rfl rfl) rfl rfl hl.1 rfl (lv_room (Nat.le_of_ble_eq_true rfl)) dL_law_600 ⟨Nat.le_of_ble_eq_true rfl, Nat.le_of_ble_eq_true rfl⟩) hP hD hK hS hA [6] [0, 1, 2, 3, 4, 5, 7, 8, 9, 10, 11] rfl rfl (by decide) (by decide) [0, 1, 2, 3, 4, 5, 6] rfl (fun r_12 u H locs hw hP hD hK hS => ?_)
  obtain ⟨fs_13, rfl⟩ : ∃ z, z = u := ⟨_, rfl⟩
  have hP : va_P (dC, dI) vwCl [(lr, .inr (0, [.int 0, .ref ad, .int 0])), (lk, .inr (0, [.int 0, .ref ad, .int 0])), (pn, .inr (3, [.float 0, .float 0, .float 0])), (pp, .inr (3, [.float 0, .float 0, .float 0])), (pq, .inr (3, [.float 0, .float 0, .float 0])), (fr, .inl (cR, 8, .inr (.inr (.inr (.inr (fun _ => none)))))), (a2, .inl (ca2, 3328, .inr (.inr (.inl (fun _ => 0))))), (a3, .inl (ca3, 256, .inl (fun _ => 0))), (a4, .inl (ca4, 256, .inl (fun _ => 0))), (a5, .inl (ca5, 9, .inr (.inr (.inl (fun _ => 0))))), (od, .inl (cD, 1, .inr (.inr (.inr (.inl (fun _ => 0)))))), (mm, .inr (5, fs_13))] H := hP
  have hD : va_D A [(lr, .inr (0, [.int 0, .ref ad, .int 0])), (lk, .inr (0, [.int 0, .ref ad, .int 0])), (pn, .inr (3, [.float 0, .float 0, .float 0])), (pp, .inr (3, [.float 0, .float 0, .float 0])), (pq, .inr (3, [.float 0, .float 0, .float 0])), (fr, .inl (cR, 8, .inr (.inr (.inr (.inr (fun _ => none)))))), (a2, .inl (ca2, 3328, .inr (.inr (.inl (fun _ => 0))))), (a3, .inl (ca3, 256, .inl (fun _ => 0))), (a4, .inl (ca4, 256, .inl (fun _ => 0))), (a5, .inl (ca5, 9, .inr (.inr (.inl (fun _ => 0))))), (od, .inl (cD, 1, .inr (.inr (.inr (.inl (fun _ => 0)))))), (mm, .inr (5, fs_13))] := hD
  have hK : va_K (dC, dI) vwCl [(cR, .object "IslandSolver$Row"), (ca2, .float), (ca3, .boolean), (ca4, .int), (ca5, .float), (cJ, .long), (cD, .double)] s := hK.sub [0, 1, 2, 3, 4, 5, 6] rfl
  obtain ⟨hf_14, rfl⟩ := hw
  refine lv_istore (lv' := [(7, .int 0), (6, .int 1), (5, .int 0), (4, .ref od), (3, .ref o), (2, .ref mm), (1, .ref x), (0, .ref b)]) hx hb dL_law_603 hl (by decide) rfl (fun ls hl => ?_)
  refine lv_aload_n hx hb dL_law_605 rfl (lv_at hl 5 rfl) ?_
  refine kc_calli (wc := [(mm, .inr (5, fs_13))]) (wr := [(lr, .inr (0, [.int 0, .ref ad, .int 0])), (lk, .inr (0, [.int 0, .ref ad, .int 0])), (pn, .inr (3, [.float 0, .float 0, .float 0])), (pp, .inr (3, [.float 0, .float 0, .float 0])), (pq, .inr (3, [.float 0, .float 0, .float 0])), (fr, .inl (cR, 8, .inr (.inr (.inr (.inr (fun _ => none)))))), (a2, .inl (ca2, 3328, .inr (.inr (.inl (fun _ => 0))))), (a3, .inl (ca3, 256, .inl (fun _ => 0))), (a4, .inl (ca4, 256, .inl (fun _ => 0))), (a5, .inl (ca5, 9, .inr (.inr (.inl (fun _ => 0))))), (od, .inl (cD, 1, .inr (.inr (.inr (.inl (fun _ => 0))))))]) (tyr := [(cR, .object "IslandSolver$Row"), (ca2, .float), (ca3, .boolean), (ca4, .int), (ca5, .float), (cJ, .long), (cD, .double)]) (va_runV (As := []) (rest := []) ⟨hx, hb, hml, hown, hts⟩ (c_thrown l dC dI ad _ mm fs_13 1 hf_14) (cwV 0 hts gL_law_X4_thrown rfl rfl rfl (by decide +kernel) ⟨Nat.le_of_ble_eq_true rfl, Nat.le_of_ble_eq_true rfl⟩) (kc_preV hP hD hK hS hA hE [11] rfl (by decide) [] rfl 11 rfl rfl) rfl rfl hl.1 rfl (lv_room (Nat.le_of_ble_eq_true rfl)) dL_law_606 ⟨Nat.le_of_ble_eq_true rfl, Nat.le_of_ble_eq_true rfl⟩) hP hD hK hS hA [11] [0, 1, 2, 3, 4, 5, 6, 7, 8, 9, 10] rfl rfl (by decide) (by decide) [0, 1, 2, 3, 4, 5, 6] rfl (fun r_15 u H locs hw hP hD hK hS => ?_)
  subst hw
  have hP : va_P (dC, dI) vwCl [(lr, .inr (0, [.int 0, .ref ad, .int 0])), (lk, .inr (0, [.int 0, .ref ad, .int 0])), (pn, .inr (3, [.float 0, .float 0, .float 0])), (pp, .inr (3, [.float 0, .float 0, .float 0])), (pq, .inr (3, [.float 0, .float 0, .float 0])), (fr, .inl (cR, 8, .inr (.inr (.inr (.inr (fun _ => none)))))), (a2, .inl (ca2, 3328, .inr (.inr (.inl (fun _ => 0))))), (a3, .inl (ca3, 256, .inl (fun _ => 0))), (a4, .inl (ca4, 256, .inl (fun _ => 0))), (a5, .inl (ca5, 9, .inr (.inr (.inl (fun _ => 0))))), (od, .inl (cD, 1, .inr (.inr (.inr (.inl (fun _ => 0)))))), (mm, .inr (5, fs_13))] H := hP
  have hD : va_D A [(lr, .inr (0, [.int 0, .ref ad, .int 0])), (lk, .inr (0, [.int 0, .ref ad, .int 0])), (pn, .inr (3, [.float 0, .float 0, .float 0])), (pp, .inr (3, [.float 0, .float 0, .float 0])), (pq, .inr (3, [.float 0, .float 0, .float 0])), (fr, .inl (cR, 8, .inr (.inr (.inr (.inr (fun _ => none)))))), (a2, .inl (ca2, 3328, .inr (.inr (.inl (fun _ => 0))))), (a3, .inl (ca3, 256, .inl (fun _ => 0))), (a4, .inl (ca4, 256, .inl (fun _ => 0))), (a5, .inl (ca5, 9, .inr (.inr (.inl (fun _ => 0))))), (od, .inl (cD, 1, .inr (.inr (.inr (.inl (fun _ => 0)))))), (mm, .inr (5, fs_13))] := hD
  have hK : va_K (dC, dI) vwCl [(cR, .object "IslandSolver$Row"), (ca2, .float), (ca3, .boolean), (ca4, .int), (ca5, .float), (cJ, .long), (cD, .double)] s := hK.sub [0, 1, 2, 3, 4, 5, 6] rfl
  refine lv_iload hx hb dL_law_609 (lv_at hl 1 rfl) ?_
  refine lv_icmp_eq (tgt := 616) hx hb dL_law_611 (by decide) (fun _ => ?_) (fun h9 => absurd h9 (by decide))
  refine lv_iload hx hb dL_law_616 (lv_at hl 1 rfl) ?_
  refine lv_if_ne (tgt := 633) hx hb dL_law_618 (by decide) (fun _ => ?_) (fun h9 => absurd h9 (by decide))
  refine lv_goto (tgt := 1653) hx hb dL_law_633 (by decide) ?_
  refine lv_iinc (v := 8) (lv' := [(5, .int 8), (7, .int 0), (6, .int 1), (4, .ref od), (3, .ref o), (2, .ref mm), (1, .ref x), (0, .ref b)]) hx hb dL_law_1653 hl (k := 2) rfl (by decide) (by decide) rfl (fun ls hl => ?_)
  refine lv_goto (tgt := 28) hx hb dL_law_1656 (by decide) ?_
  refine lv_iload hx hb dL_law_28 (lv_at hl 0 rfl) ?_
  refine lv_aload_n hx hb dL_law_30 rfl (lv_at hl 7 rfl) ?_
  refine va_slen hx hb hX hbl hbA hS dL_law_31 ?_
  refine W.eq (g2 := F0 m9 32 ls [.int 8, .int 8]) rfl ?_
  refine lv_bipush (v := 8) hx hb dL_law_32 (by decide) ?_
  refine lv_isub hx hb dL_law_34 ?_
  refine lv_topi (fun x_16 ex_16 => ?_)
  obtain rfl : x_16 = 0 := by rw [ex_16]; decide
  refine lv_icmp_gt (tgt := 1659) hx hb dL_law_35 (by decide) (fun _ => ?_) (fun h9 => absurd h9 (by decide))
  refine lv_iconst (v := 1) hx hb dL_law_1659 (by decide) ?_
  refine va_forget (fun q hq => by have h9 := hS.2.2 q hq; rw [← hAe] at h9; exact h9) ?_
  refine W.widen (k := 600002) (n := 7302232) (Nat.le_of_ble_eq_true rfl) (Nat.le_of_ble_eq_true rfl) ?_
  exact lw_ret hx hb hr hlocks dL_law_1660
