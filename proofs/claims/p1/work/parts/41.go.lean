set_option maxHeartbeats 8000000 in
set_option maxRecDepth 100000 in
theorem law_go {p : Program} {l : Launch} {e : Env} {s : State} {m9 : MethodId} {below : List Frame} {meth : Method} {c : Code} {b : Nat} {xs : Nat → Int32} (hlt : l.stackTraces = false) {L : Nat} (hL : L ≤ 8) (C0 : lw_At p s m9 meth c b L xs) {dC : Nat → ClassId} {dI : Nat → Nat → Nat} {ad : Nat} (hE : kx_E ad (fun q : Nat => s.heap.size ≤ q) s s.heap)
    (x lb lr lk pn pp pq wo re fr mm a2 a3 a4 a5 a7 a8 a9 a10 a11 a12 a13 a14 a15 a16 a17 a18 a20 a21 a29 a30 a31 o od : Nat) (cR ca2 ca3 ca4 ca5 cJ cD : ClassId) (H : Heap) (locs : List Loc) (ls : Array Slot) (hK : va_K (dC, dI) vwCl [(cR, .object "IslandSolver$Row"), (ca2, .float), (ca3, .boolean), (ca4, .int), (ca5, .float), (cJ, .long), (cD, .double)] s) (hP : va_P (dC, dI) vwCl [(x, .inr (4, [.ref lb, .ref lr, .ref lk, .ref pn, .ref pp, .ref pq, .int 8, .float FP.fconst1, .float 1031798784, .int 0, .int 1, .int 0, .int 0, .ref wo, .ref re, .ref fr])), (lb, .inr (0, [.int 0, .ref ad, .int 0])), (lr, .inr (0, [.int 0, .ref ad, .int 0])), (lk, .inr (0, [.int 0, .ref ad, .int 0])), (pn, .inr (3, [.float 0, .float 0, .float 0])), (pp, .inr (3, [.float 0, .float 0, .float 0])), (pq, .inr (3, [.float 0, .float 0, .float 0])), (fr, .inl (cR, 8, .inr (.inr (.inr (.inr (fun _ => none)))))), (mm, .inr (5, [.int 0, .int 0, .ref a2, .ref a3, .ref a4, .ref a5, .int 0, .ref a7, .ref a8, .ref a9, .ref a10, .ref a11, .ref a12, .ref a13, .ref a14, .ref a15, .ref a16, .ref a17, .ref a18, .int 0, .ref a20, .ref a21, .int 8, .float FP.fconst1, .float 1031798784, .int 0, .int 1, .int 0, .int 0, .ref a29, .ref a30, .ref a31, .float 0, .float 0, .float 0])), (a2, .inl (ca2, 3328, .inr (.inr (.inl (fun _ => 0))))), (a3, .inl (ca3, 256, .inl (fun _ => 0))), (a4, .inl (ca4, 256, .inl (fun _ => 0))), (a5, .inl (ca5, 9, .inr (.inr (.inl (fun _ => 0))))), (o, .inl (cJ, 1, .inr (.inl (fun _ => 0)))), (od, .inl (cD, 1, .inr (.inr (.inr (.inl (fun _ => 0))))))] H) (hD : va_D (fun q : Nat => s.heap.size ≤ q) [(x, .inr (4, [.ref lb, .ref lr, .ref lk, .ref pn, .ref pp, .ref pq, .int 8, .float FP.fconst1, .float 1031798784, .int 0, .int 1, .int 0, .int 0, .ref wo, .ref re, .ref fr])), (lb, .inr (0, [.int 0, .ref ad, .int 0])), (lr, .inr (0, [.int 0, .ref ad, .int 0])), (lk, .inr (0, [.int 0, .ref ad, .int 0])), (pn, .inr (3, [.float 0, .float 0, .float 0])), (pp, .inr (3, [.float 0, .float 0, .float 0])), (pq, .inr (3, [.float 0, .float 0, .float 0])), (fr, .inl (cR, 8, .inr (.inr (.inr (.inr (fun _ => none)))))), (mm, .inr (5, [.int 0, .int 0, .ref a2, .ref a3, .ref a4, .ref a5, .int 0, .ref a7, .ref a8, .ref a9, .ref a10, .ref a11, .ref a12, .ref a13, .ref a14, .ref a15, .ref a16, .ref a17, .ref a18, .int 0, .ref a20, .ref a21, .int 8, .float FP.fconst1, .float 1031798784, .int 0, .int 1, .int 0, .int 0, .ref a29, .ref a30, .ref a31, .float 0, .float 0, .float 0])), (a2, .inl (ca2, 3328, .inr (.inr (.inl (fun _ => 0))))), (a3, .inl (ca3, 256, .inl (fun _ => 0))), (a4, .inl (ca4, 256, .inl (fun _ => 0))), (a5, .inl (ca5, 9, .inr (.inr (.inl (fun _ => 0))))), (o, .inl (cJ, 1, .inr (.inl (fun _ => 0)))), (od, .inl (cD, 1, .inr (.inr (.inr (.inl (fun _ => 0))))))]) (hS : va_S (fun q : Nat => s.heap.size ≤ q) s.heap H locs) (hl : lv_has ls 10 [(5, .int 0), (4, .ref od), (3, .ref o), (2, .ref mm), (1, .ref x), (0, .ref b)]) :
    W p l e room_1 s m9 #[Value.ref b] below meth c H locs 34 27736 (lw_Z below #[Value.ref b] s) (F0 m9 28 ls []) := by
  obtain ⟨hx, hb, hr, hml, hown, hts0, hX, hbl, hlocks, hgv⟩ := id C0
  have hbA : ¬ (fun q : Nat => s.heap.size ≤ q) b := Nat.not_le.mpr hbl
  rcases Nat.lt_or_ge L 8 with hlt8 | hge8
  · refine lv_iload hx hb dL_law_28 (lv_at hl 0 rfl) ?_
    refine lv_aload_n hx hb dL_law_30 rfl (lv_at hl 5 rfl) ?_
    refine va_slen hx hb hX hbl hbA hS dL_law_31 ?_
    refine lv_bipush (v := 8) hx hb dL_law_32 (by decide) ?_
    refine lv_isub hx hb dL_law_34 ?_
    refine lv_icmp_gt (tgt := 1659) hx hb dL_law_35 (by decide) (fun _ => ?_) (fun h9 => absurd (kz_neg hlt8) h9)
    refine lv_iconst (v := 1) hx hb dL_law_1659 (by decide) ?_
    refine va_forget (fun q hq => hS.2.2 q hq) ?_
    refine W.widen (k := 600002) (n := 7302232) (Nat.le_of_ble_eq_true rfl) (Nat.le_of_ble_eq_true rfl) ?_
    exact lw_ret hx hb hr hlocks dL_law_1660
  · obtain rfl : L = 8 := Nat.le_antisymm hL hge8
    refine lv_iload hx hb dL_law_28 (lv_at hl 0 rfl) ?_
    refine lv_aload_n hx hb dL_law_30 rfl (lv_at hl 5 rfl) ?_
    refine va_slen hx hb hX hbl hbA hS dL_law_31 ?_
    refine lv_bipush (v := 8) hx hb dL_law_32 (by decide) ?_
    refine lv_isub hx hb dL_law_34 ?_
    refine lv_icmp_gt (tgt := 1659) hx hb dL_law_35 (by decide) (fun h9 => absurd h9 (by decide)) (fun _ => ?_)
    refine lv_aload_n hx hb dL_law_38 rfl (lv_at hl 5 rfl) ?_
    refine lv_iload hx hb dL_law_39 (lv_at hl 0 rfl) ?_
    refine va_sld hx hb hX hbl hbA hS (i := 0) (by unfold vp_in; decide) dL_law_41 ?_
    refine lv_bipush (v := 31) hx hb dL_law_42 (by decide) ?_
    refine lv_iand hx hb dL_law_44 ?_
    refine lv_topi (fun z ez => ?_)
    clear ez
    rcases kz_sp17 z with rfl | rfl | rfl | rfl | rfl | rfl | rfl | rfl | rfl | rfl | rfl | rfl | rfl | rfl | rfl | rfl | rfl | hout
    · refine lv_tableIn (tgt := 128) hx hb dL_law_45 (by decide) (by decide) rfl (by decide) ?_
      exact law_0 hlt C0 hE x lb lr lk pn pp pq wo re fr mm a2 a3 a4 a5 a7 a8 a9 a10 a11 a12 a13 a14 a15 a16 a17 a18 a20 a21 a29 a30 a31 o od cR ca2 ca3 ca4 ca5 cJ cD _ _ _ hK hP hD hS hl
    · refine lv_tableIn (tgt := 252) hx hb dL_law_45 (by decide) (by decide) rfl (by decide) ?_
      exact law_1 hlt C0 hE x lb lr lk pn pp pq wo re fr mm a2 a3 a4 a5 a7 a8 a9 a10 a11 a12 a13 a14 a15 a16 a17 a18 a20 a21 a29 a30 a31 o od cR ca2 ca3 ca4 ca5 cJ cD _ _ _ hK hP hD hS hl
    · refine lv_tableIn (tgt := 348) hx hb dL_law_45 (by decide) (by decide) rfl (by decide) ?_
      exact law_2 hlt C0 hE x lb lr lk pn pp pq wo re fr mm a2 a3 a4 a5 a7 a8 a9 a10 a11 a12 a13 a14 a15 a16 a17 a18 a20 a21 a29 a30 a31 o od cR ca2 ca3 ca4 ca5 cJ cD _ _ _ hK hP hD hS hl
    · refine lv_tableIn (tgt := 508) hx hb dL_law_45 (by decide) (by decide) rfl (by decide) ?_
      exact law_3 hlt C0 hE x lb lr lk pn pp pq wo re fr mm a2 a3 a4 a5 a7 a8 a9 a10 a11 a12 a13 a14 a15 a16 a17 a18 a20 a21 a29 a30 a31 o od cR ca2 ca3 ca4 ca5 cJ cD _ _ _ hK hP hD hS hl
    · refine lv_tableIn (tgt := 636) hx hb dL_law_45 (by decide) (by decide) rfl (by decide) ?_
      exact law_4 hlt C0 hE x lb lr lk pn pp pq wo re fr mm a2 a3 a4 a5 a7 a8 a9 a10 a11 a12 a13 a14 a15 a16 a17 a18 a20 a21 a29 a30 a31 o od cR ca2 ca3 ca4 ca5 cJ cD _ _ _ hK hP hD hS hl
    · refine lv_tableIn (tgt := 699) hx hb dL_law_45 (by decide) (by decide) rfl (by decide) ?_
      exact law_5 hlt C0 hE x lb lr lk pn pp pq wo re fr mm a2 a3 a4 a5 a7 a8 a9 a10 a11 a12 a13 a14 a15 a16 a17 a18 a20 a21 a29 a30 a31 o od cR ca2 ca3 ca4 ca5 cJ cD _ _ _ hK hP hD hS hl
    · refine lv_tableIn (tgt := 795) hx hb dL_law_45 (by decide) (by decide) rfl (by decide) ?_
      exact law_6 hlt C0 hE x lb lr lk pn pp pq wo re fr mm a2 a3 a4 a5 a7 a8 a9 a10 a11 a12 a13 a14 a15 a16 a17 a18 a20 a21 a29 a30 a31 o od cR ca2 ca3 ca4 ca5 cJ cD _ _ _ hK hP hD hS hl
    · refine lv_tableIn (tgt := 959) hx hb dL_law_45 (by decide) (by decide) rfl (by decide) ?_
      exact law_7 hlt C0 hE x lb lr lk pn pp pq wo re fr mm a2 a3 a4 a5 a7 a8 a9 a10 a11 a12 a13 a14 a15 a16 a17 a18 a20 a21 a29 a30 a31 o od cR ca2 ca3 ca4 ca5 cJ cD _ _ _ hK hP hD hS hl
    · refine lv_tableIn (tgt := 1093) hx hb dL_law_45 (by decide) (by decide) rfl (by decide) ?_
      exact law_8 hlt C0 hE x lb lr lk pn pp pq wo re fr mm a2 a3 a4 a5 a7 a8 a9 a10 a11 a12 a13 a14 a15 a16 a17 a18 a20 a21 a29 a30 a31 o od cR ca2 ca3 ca4 ca5 cJ cD _ _ _ hK hP hD hS hl
    · refine lv_tableIn (tgt := 1106) hx hb dL_law_45 (by decide) (by decide) rfl (by decide) ?_
      exact law_9 hlt C0 hE x lb lr lk pn pp pq wo re fr mm a2 a3 a4 a5 a7 a8 a9 a10 a11 a12 a13 a14 a15 a16 a17 a18 a20 a21 a29 a30 a31 o od cR ca2 ca3 ca4 ca5 cJ cD _ _ _ hK hP hD hS hl
    · refine lv_tableIn (tgt := 1194) hx hb dL_law_45 (by decide) (by decide) rfl (by decide) ?_
      exact law_10 hlt C0 hE x lb lr lk pn pp pq wo re fr mm a2 a3 a4 a5 a7 a8 a9 a10 a11 a12 a13 a14 a15 a16 a17 a18 a20 a21 a29 a30 a31 o od cR ca2 ca3 ca4 ca5 cJ cD _ _ _ hK hP hD hS hl
    · refine lv_tableIn (tgt := 1250) hx hb dL_law_45 (by decide) (by decide) rfl (by decide) ?_
      exact law_11 hlt C0 hE x lb lr lk pn pp pq wo re fr mm a2 a3 a4 a5 a7 a8 a9 a10 a11 a12 a13 a14 a15 a16 a17 a18 a20 a21 a29 a30 a31 o od cR ca2 ca3 ca4 ca5 cJ cD _ _ _ hK hP hD hS hl
    · refine lv_tableIn (tgt := 1306) hx hb dL_law_45 (by decide) (by decide) rfl (by decide) ?_
      exact law_12 hlt C0 hE x lb lr lk pn pp pq wo re fr mm a2 a3 a4 a5 a7 a8 a9 a10 a11 a12 a13 a14 a15 a16 a17 a18 a20 a21 a29 a30 a31 o od cR ca2 ca3 ca4 ca5 cJ cD _ _ _ hK hP hD hS hl
    · refine lv_tableIn (tgt := 1396) hx hb dL_law_45 (by decide) (by decide) rfl (by decide) ?_
      exact law_13 hlt C0 hE x lb lr lk pn pp pq wo re fr mm a2 a3 a4 a5 a7 a8 a9 a10 a11 a12 a13 a14 a15 a16 a17 a18 a20 a21 a29 a30 a31 o od cR ca2 ca3 ca4 ca5 cJ cD _ _ _ hK hP hD hS hl
    · refine lv_tableIn (tgt := 1464) hx hb dL_law_45 (by decide) (by decide) rfl (by decide) ?_
      exact law_14 hlt C0 hE x lb lr lk pn pp pq wo re fr mm a2 a3 a4 a5 a7 a8 a9 a10 a11 a12 a13 a14 a15 a16 a17 a18 a20 a21 a29 a30 a31 o od cR ca2 ca3 ca4 ca5 cJ cD _ _ _ hK hP hD hS hl
    · refine lv_tableIn (tgt := 1554) hx hb dL_law_45 (by decide) (by decide) rfl (by decide) ?_
      exact law_15 hlt C0 hE x lb lr lk pn pp pq wo re fr mm a2 a3 a4 a5 a7 a8 a9 a10 a11 a12 a13 a14 a15 a16 a17 a18 a20 a21 a29 a30 a31 o od cR ca2 ca3 ca4 ca5 cJ cD _ _ _ hK hP hD hS hl
    · refine lv_tableIn (tgt := 1610) hx hb dL_law_45 (by decide) (by decide) rfl (by decide) ?_
      exact law_16 hlt C0 hE x lb lr lk pn pp pq wo re fr mm a2 a3 a4 a5 a7 a8 a9 a10 a11 a12 a13 a14 a15 a16 a17 a18 a20 a21 a29 a30 a31 o od cR ca2 ca3 ca4 ca5 cJ cD _ _ _ hK hP hD hS hl
    · refine lv_tableOut (tgt := 1653) hx hb dL_law_45 (kz_out hout) (by decide) ?_
      exact law_d hlt C0 hE x lb lr lk pn pp pq wo re fr mm a2 a3 a4 a5 a7 a8 a9 a10 a11 a12 a13 a14 a15 a16 a17 a18 a20 a21 a29 a30 a31 o od cR ca2 ca3 ca4 ca5 cJ cD _ _ _ hK hP hD hS hl
