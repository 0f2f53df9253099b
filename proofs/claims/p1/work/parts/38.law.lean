set_option maxHeartbeats 8000000 in
set_option maxRecDepth 100000 in
theorem law_d {p : Program} {l : Launch} {e : Env} {s : State} {m9 : MethodId} {below : List Frame} {meth : Method} {c : Code} {b : Nat} {xs : Nat → Int32} (hlt : l.stackTraces = false) (C0 : lw_At p s m9 meth c b 8 xs) {dC : Nat → ClassId} {dI : Nat → Nat → Nat} {ad : Nat} (hE : kx_E ad (fun q : Nat => s.heap.size ≤ q) s s.heap)
    (x lb lr lk pn pp pq wo re fr mm a2 a3 a4 a5 a7 a8 a9 a10 a11 a12 a13 a14 a15 a16 a17 a18 a20 a21 a29 a30 a31 o od : Nat) (cR ca2 ca3 ca4 ca5 cJ cD : ClassId) (H : Heap) (locs : List Loc) (ls : Array Slot) (hK : va_K (dC, dI) vwCl [(cR, .object "IslandSolver$Row"), (ca2, .float), (ca3, .boolean), (ca4, .int), (ca5, .float), (cJ, .long), (cD, .double)] s) (hP : va_P (dC, dI) vwCl [(x, .inr (4, [.ref lb, .ref lr, .ref lk, .ref pn, .ref pp, .ref pq, .int 8, .float FP.fconst1, .float 1031798784, .int 0, .int 1, .int 0, .int 0, .ref wo, .ref re, .ref fr])), (lb, .inr (0, [.int 0, .ref ad, .int 0])), (lr, .inr (0, [.int 0, .ref ad, .int 0])), (lk, .inr (0, [.int 0, .ref ad, .int 0])), (pn, .inr (3, [.float 0, .float 0, .float 0])), (pp, .inr (3, [.float 0, .float 0, .float 0])), (pq, .inr (3, [.float 0, .float 0, .float 0])), (fr, .inl (cR, 8, .inr (.inr (.inr (.inr (fun _ => none)))))), (mm, .inr (5, [.int 0, .int 0, .ref a2, .ref a3, .ref a4, .ref a5, .int 0, .ref a7, .ref a8, .ref a9, .ref a10, .ref a11, .ref a12, .ref a13, .ref a14, .ref a15, .ref a16, .ref a17, .ref a18, .int 0, .ref a20, .ref a21, .int 8, .float FP.fconst1, .float 1031798784, .int 0, .int 1, .int 0, .int 0, .ref a29, .ref a30, .ref a31, .float 0, .float 0, .float 0])), (a2, .inl (ca2, 3328, .inr (.inr (.inl (fun _ => 0))))), (a3, .inl (ca3, 256, .inl (fun _ => 0))), (a4, .inl (ca4, 256, .inl (fun _ => 0))), (a5, .inl (ca5, 9, .inr (.inr (.inl (fun _ => 0))))), (o, .inl (cJ, 1, .inr (.inl (fun _ => 0)))), (od, .inl (cD, 1, .inr (.inr (.inr (.inl (fun _ => 0))))))] H) (hD : va_D (fun q : Nat => s.heap.size ≤ q) [(x, .inr (4, [.ref lb, .ref lr, .ref lk, .ref pn, .ref pp, .ref pq, .int 8, .float FP.fconst1, .float 1031798784, .int 0, .int 1, .int 0, .int 0, .ref wo, .ref re, .ref fr])), (lb, .inr (0, [.int 0, .ref ad, .int 0])), (lr, .inr (0, [.int 0, .ref ad, .int 0])), (lk, .inr (0, [.int 0, .ref ad, .int 0])), (pn, .inr (3, [.float 0, .float 0, .float 0])), (pp, .inr (3, [.float 0, .float 0, .float 0])), (pq, .inr (3, [.float 0, .float 0, .float 0])), (fr, .inl (cR, 8, .inr (.inr (.inr (.inr (fun _ => none)))))), (mm, .inr (5, [.int 0, .int 0, .ref a2, .ref a3, .ref a4, .ref a5, .int 0, .ref a7, .ref a8, .ref a9, .ref a10, .ref a11, .ref a12, .ref a13, .ref a14, .ref a15, .ref a16, .ref a17, .ref a18, .int 0, .ref a20, .ref a21, .int 8, .float FP.fconst1, .float 1031798784, .int 0, .int 1, .int 0, .int 0, .ref a29, .ref a30, .ref a31, .float 0, .float 0, .float 0])), (a2, .inl (ca2, 3328, .inr (.inr (.inl (fun _ => 0))))), (a3, .inl (ca3, 256, .inl (fun _ => 0))), (a4, .inl (ca4, 256, .inl (fun _ => 0))), (a5, .inl (ca5, 9, .inr (.inr (.inl (fun _ => 0))))), (o, .inl (cJ, 1, .inr (.inl (fun _ => 0)))), (od, .inl (cD, 1, .inr (.inr (.inr (.inl (fun _ => 0))))))]) (hS : va_S (fun q : Nat => s.heap.size ≤ q) s.heap H locs) (hl : lv_has ls 10 [(5, .int 0), (4, .ref od), (3, .ref o), (2, .ref mm), (1, .ref x), (0, .ref b)]) :
    W p l e room_1 s m9 #[Value.ref b] below meth c H locs 34 27736 (lw_Z below #[Value.ref b] s) (F0 m9 1653 ls []) := by
  obtain ⟨hx, hb, hr, hml, hown, hts, hX, hbl, hlocks, hgv⟩ := C0
  have hts := fun w h => hts w (wsL_law_in w h)
  have hown : s.vm.findClass RL = some m9.cls := hown
  have hA : ∀ q : Nat, s.heap.size ≤ q → (fun q : Nat => s.heap.size ≤ q) q := fun _ h => h
  have hbA : ¬ (fun q : Nat => s.heap.size ≤ q) b := Nat.not_le.mpr hbl
  generalize hAe : (fun q : Nat => s.heap.size ≤ q) = A at hE hD hS hA hbA
  refine lv_iinc (v := 8) (lv' := [(5, .int 8), (4, .ref od), (3, .ref o), (2, .ref mm), (1, .ref x), (0, .ref b)]) hx hb dL_law_1653 hl (k := 0) rfl (by decide) (by decide) rfl (fun ls hl => ?_)
  refine lv_goto (tgt := 28) hx hb dL_law_1656 (by decide) ?_
  refine lv_iload hx hb dL_law_28 (lv_at hl 0 rfl) ?_
  refine lv_aload_n hx hb dL_law_30 rfl (lv_at hl 5 rfl) ?_
  refine va_slen hx hb hX hbl hbA hS dL_law_31 ?_
  refine W.eq (g2 := F0 m9 32 ls [.int 8, .int 8]) rfl ?_
  refine lv_bipush (v := 8) hx hb dL_law_32 (by decide) ?_
  refine lv_isub hx hb dL_law_34 ?_
  refine lv_topi (fun x_1 ex_1 => ?_)
  obtain rfl : x_1 = 0 := by rw [ex_1]; decide
  refine lv_icmp_gt (tgt := 1659) hx hb dL_law_35 (by decide) (fun _ => ?_) (fun h9 => absurd h9 (by decide))
  refine lv_iconst (v := 1) hx hb dL_law_1659 (by decide) ?_
  refine va_forget (fun q hq => by have h9 := hS.2.2 q hq; rw [← hAe] at h9; exact h9) ?_
  refine W.widen (k := 600002) (n := 7302232) (Nat.le_of_ble_eq_true rfl) (Nat.le_of_ble_eq_true rfl) ?_
  exact lw_ret hx hb hr hlocks dL_law_1660
