theorem kz_lp {L0 j : Nat} (h1 : L0 < 2 ^ 30) (h2 : j < 2 ^ 30) : (nI L0 - 8 < nI j) ↔ L0 < j + 8 := by
  rw [Int32.lt_iff_toInt_lt, show (8 : Int32) = nI 8 from rfl, pk_sub_toInt h1 (by decide), nI_toInt (by omega)]
  omega
set_option maxHeartbeats 8000000 in
set_option maxRecDepth 100000 in
theorem law_go {p : Program} {l : Launch} {e : Env} {s : State} {m : MethodId} {below : List Frame} {meth : Method} {c : Code} {b L0 : Nat} {xs : Nat → Int32} (hlt : l.stackTraces = false) (C0 : lw_At p s m meth c b L0 xs) {dC : Nat → ClassId} {dI : Nat → Nat → Nat} {dA : Nat → ClassId} {ad : Nat} (hE : kx_E ad (fun q : Nat => s.heap.size ≤ q) s s.heap) (hK : va_K (dC, dI) vwCl (tyA dA) s) (hL0 : L0 ≤ 4096) (x mm o od : Nat) : ∀ (n ki : Nat), L0 < 8 * ki + 8 * n + 8 → ki ≤ 512 → ∀ (L : List Nat) (f : Nat → va_E) (H : Heap) (locs : List Loc) (ls : Array Slot), kLw dA ad x mm o od L f → va_P (dC, dI) vwCl (va_pl L f) H → va_D (fun q : Nat => s.heap.size ≤ q) (va_pl L f) → va_S (fun q : Nat => s.heap.size ≤ q) s.heap H locs → lv_has ls 10 [(0, .ref b), (1, .ref x), (2, .ref mm), (3, .ref o), (4, .ref od), (5, .int (nI (8 * ki)))] → W p l e room_1 s m #[Value.ref b] below meth c H locs (100 + 16 * ki) (40000 + 2000 * ki) (lw_Z below #[Value.ref b] s) (F0 m 28 ls []) := by
  obtain ⟨hx, hb, hr, hml, hown, hts, hX, hbl, hlocks, hgv⟩ := id C0
  have hbA : ¬ (fun q : Nat => s.heap.size ≤ q) b := Nat.not_le.mpr hbl
  intro n
  induction n with
  | zero =>
    intro ki hn hki L f H locs ls hLw hP hD hS hl
    refine lv_iload hx hb dL_law_28 (lv_at hl 5 rfl) ?_
    refine lv_aload_n hx hb dL_law_30 rfl (lv_at hl 0 rfl) ?_
    refine va_slen hx hb hX hbl hbA hS dL_law_31 ?_
    refine lv_bipush (v := 8) hx hb dL_law_32 (by decide) ?_
    refine lv_isub hx hb dL_law_34 ?_
    refine lv_icmp_gt (tgt := 1243) hx hb dL_law_35 (by decide) (fun _ => ?_) (fun h9 => absurd ((kz_lp (L0 := L0) (j := 8 * ki) (by omega) (by omega)).mpr (by omega)) h9)
    refine lv_iconst (v := 1) hx hb dL_law_1243 (by decide) ?_
    refine va_forget (fun q hq => hS.2.2 q hq) ?_
    refine W.widen (k := 601024) (n := 7293033) (by omega) (by omega) ?_
    exact lw_ret hx hb hr hlocks dL_law_1244
  | succ n ih =>
    intro ki hn hki L f H locs ls hLw hP hD hS hl
    refine lv_iload hx hb dL_law_28 (lv_at hl 5 rfl) ?_
    refine lv_aload_n hx hb dL_law_30 rfl (lv_at hl 0 rfl) ?_
    refine va_slen hx hb hX hbl hbA hS dL_law_31 ?_
    refine lv_bipush (v := 8) hx hb dL_law_32 (by decide) ?_
    refine lv_isub hx hb dL_law_34 ?_
    refine lv_icmp_gt (tgt := 1243) hx hb dL_law_35 (by decide) (fun _ => ?_) (fun h9 => ?_)
    · refine lv_iconst (v := 1) hx hb dL_law_1243 (by decide) ?_
      refine va_forget (fun q hq => hS.2.2 q hq) ?_
      refine W.widen (k := 601024) (n := 7293033) (by omega) (by omega) ?_
      exact lw_ret hx hb hr hlocks dL_law_1244
    · have hki8 : 8 * ki + 8 ≤ L0 := by
        rcases Nat.lt_or_ge L0 (8 * ki + 8) with h8 | h8
        · exact absurd ((kz_lp (L0 := L0) (j := 8 * ki) (by omega) (by omega)).mpr h8) h9
        · exact h8
      have hnext : ∀ (L : List Nat) (f : Nat → va_E) (H : Heap) (locs : List Loc) (ls : Array Slot), kLw dA ad x mm o od L f → va_P (dC, dI) vwCl (va_pl L f) H → va_D (fun q : Nat => s.heap.size ≤ q) (va_pl L f) → va_S (fun q : Nat => s.heap.size ≤ q) s.heap H locs → lv_has ls 10 [(0, .ref b), (1, .ref x), (2, .ref mm), (3, .ref o), (4, .ref od), (5, .int (nI (8 * ki)))] → W p l e room_1 s m #[Value.ref b] below meth c H locs (100 + 16 * ki + 16) (40000 + 2000 * ki + 2000) (lw_Z below #[Value.ref b] s) (F0 m 1237 ls []) := by
        intro L f H locs ls hLw hP hD hS hl
        refine lv_iinc (v := nI (8 * (ki + 1))) (lv' := [(5, .int (nI (8 * (ki + 1)))), (0, .ref b), (1, .ref x), (2, .ref mm), (3, .ref o), (4, .ref od)]) hx hb dL_law_1237 hl (k := 5) rfl (nI_add (8 * ki) 8) (by decide) rfl (fun ls hl => ?_)
        refine lv_goto (tgt := 28) hx hb dL_law_1240 (by decide) ?_
        refine W.widen (k := 100 + 16 * (ki + 1)) (n := 40000 + 2000 * (ki + 1)) (by omega) (by omega) ?_
        exact ih (ki + 1) (by omega) (by omega) L f H locs ls hLw hP hD hS (lv_sub hl [1, 2, 3, 4, 5, 0] rfl)
      refine lv_aload_n hx hb dL_law_38 rfl (lv_at hl 0 rfl) ?_
      refine lv_iload hx hb dL_law_39 (lv_at hl 5 rfl) ?_
      refine va_sld hx hb hX hbl hbA hS (i := nI (8 * ki)) (vp_in_nI (by omega) (by omega)) dL_law_41 ?_
      refine lv_bipush (v := 31) hx hb dL_law_42 (by decide) ?_
      refine lv_iand hx hb dL_law_44 ?_
      refine lv_topi (fun z ez => ?_)
      clear ez
      rcases kz_sp17 z with rfl | rfl | rfl | rfl | rfl | rfl | rfl | rfl | rfl | rfl | rfl | rfl | rfl | rfl | rfl | rfl | rfl | hout
      · refine lv_tableIn (tgt := 128) hx hb dL_law_45 (by decide) (by decide) rfl (by decide) ?_
        exact law_0 hlt C0 hE hK hL0 x mm o od ki (by omega) hnext L f H locs ls hLw hP hD hS hl
      · refine lv_tableIn (tgt := 224) hx hb dL_law_45 (by decide) (by decide) rfl (by decide) ?_
        exact law_1 hlt C0 hE hK hL0 x mm o od ki (by omega) hnext L f H locs ls hLw hP hD hS hl
      · refine lv_tableIn (tgt := 309) hx hb dL_law_45 (by decide) (by decide) rfl (by decide) ?_
        exact law_2 hlt C0 hE hK hL0 x mm o od ki (by omega) hnext L f H locs ls hLw hP hD hS hl
      · refine lv_tableIn (tgt := 469) hx hb dL_law_45 (by decide) (by decide) rfl (by decide) ?_
        exact law_3 hlt C0 hE hK hL0 x mm o od ki (by omega) hnext L f H locs ls hLw hP hD hS hl
      · refine lv_tableIn (tgt := 569) hx hb dL_law_45 (by decide) (by decide) rfl (by decide) ?_
        exact law_4 hlt C0 hE hK hL0 x mm o od ki (by omega) hnext L f H locs ls hLw hP hD hS hl
      · refine lv_tableIn (tgt := 597) hx hb dL_law_45 (by decide) (by decide) rfl (by decide) ?_
        exact law_5 hlt C0 hE hK hL0 x mm o od ki (by omega) hnext L f H locs ls hLw hP hD hS hl
      · refine lv_tableIn (tgt := 682) hx hb dL_law_45 (by decide) (by decide) rfl (by decide) ?_
        exact law_6 hlt C0 hE hK hL0 x mm o od ki (by omega) hnext L f H locs ls hLw hP hD hS hl
      · refine lv_tableIn (tgt := 818) hx hb dL_law_45 (by decide) (by decide) rfl (by decide) ?_
        exact law_7 hlt C0 hE hK hL0 x mm o od ki (by omega) hnext L f H locs ls hLw hP hD hS hl
      · refine lv_tableIn (tgt := 924) hx hb dL_law_45 (by decide) (by decide) rfl (by decide) ?_
        exact law_8 hlt C0 hE hK hL0 x mm o od ki (by omega) hnext L f H locs ls hLw hP hD hS hl
      · refine lv_tableIn (tgt := 937) hx hb dL_law_45 (by decide) (by decide) rfl (by decide) ?_
        exact law_9 hlt C0 hE hK hL0 x mm o od ki (by omega) hnext L f H locs ls hLw hP hD hS hl
      · refine lv_tableIn (tgt := 1014) hx hb dL_law_45 (by decide) (by decide) rfl (by decide) ?_
        exact law_10 hlt C0 hE hK hL0 x mm o od ki (by omega) hnext L f H locs ls hLw hP hD hS hl
      · refine lv_tableIn (tgt := 1042) hx hb dL_law_45 (by decide) (by decide) rfl (by decide) ?_
        exact law_11 hlt C0 hE hK hL0 x mm o od ki (by omega) hnext L f H locs ls hLw hP hD hS hl
      · refine lv_tableIn (tgt := 1070) hx hb dL_law_45 (by decide) (by decide) rfl (by decide) ?_
        exact law_12 hlt C0 hE hK hL0 x mm o od ki (by omega) hnext L f H locs ls hLw hP hD hS hl
      · refine lv_tableIn (tgt := 1111) hx hb dL_law_45 (by decide) (by decide) rfl (by decide) ?_
        exact law_13 hlt C0 hE hK hL0 x mm o od ki (by omega) hnext L f H locs ls hLw hP hD hS hl
      · refine lv_tableIn (tgt := 1151) hx hb dL_law_45 (by decide) (by decide) rfl (by decide) ?_
        exact law_14 hlt C0 hE hK hL0 x mm o od ki (by omega) hnext L f H locs ls hLw hP hD hS hl
      · refine lv_tableIn (tgt := 1192) hx hb dL_law_45 (by decide) (by decide) rfl (by decide) ?_
        exact law_15 hlt C0 hE hK hL0 x mm o od ki (by omega) hnext L f H locs ls hLw hP hD hS hl
      · refine lv_tableIn (tgt := 1220) hx hb dL_law_45 (by decide) (by decide) rfl (by decide) ?_
        exact law_16 hlt C0 hE hK hL0 x mm o od ki (by omega) hnext L f H locs ls hLw hP hD hS hl
      · refine lv_tableOut (tgt := 1237) hx hb dL_law_45 (kz_out hout) (by decide) ?_
        refine W.widen (k := 100 + 16 * ki + 16) (n := 40000 + 2000 * ki + 2000) (by omega) (by omega) ?_
        exact hnext L f H locs ls hLw hP hD hS hl
