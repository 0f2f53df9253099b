set_option maxHeartbeats 8000000 in
set_option maxRecDepth 100000 in
theorem kw_start2 {A : Nat → Prop} {s : State} {H : Heap} {dC : Nat → ClassId} {dI : Nat → Nat → Nat} {ad : Nat} {c_wo c_re c_fr c_a2 c_a3 c_a4 c_a5 c_a7 c_a8 c_a9 c_a10 c_a11 c_a12 c_a13 c_a14 c_a15 c_a16 c_a17 c_a18 c_a20 c_a21 c_a29 c_a30 c_a31 c_o c_od : ClassId} {x bl rl kl pn pp pq wo re fr mm a2 a3 a4 a5 a7 a8 a9 a10 a11 a12 a13 a14 a15 a16 a17 a18 a20 a21 a29 a30 a31 o od : Nat} (hO : va_AO "java/lang/Object" s) (hK : va_K (dC, dI) vwCl [(c_wo, .int), (c_re, .boolean), (c_fr, .object "IslandSolver$Row"), (c_a2, .float), (c_a3, .boolean), (c_a4, .int), (c_a5, .float), (c_a7, .int), (c_a8, .int), (c_a9, .float), (c_a10, .float), (c_a11, .float), (c_a12, .float), (c_a13, .float), (c_a14, .float), (c_a15, .int), (c_a16, .int), (c_a17, .float), (c_a18, .float), (c_a20, .int), (c_a21, .float), (c_a29, .int), (c_a30, .int), (c_a31, .boolean), (c_o, .long), (c_od, .double)] s) (hP : va_P (dC, dI) vwCl [(x, .inr (4, [.ref bl, .ref rl, .ref kl, .ref pn, .ref pp, .ref pq, .int 8, .float FP.fconst1, .float 1031798784, .int 0, .int 1, .int 0, .int 0, .ref wo, .ref re, .ref fr])), (bl, .inr (0, [.int 0, .ref ad, .int 0])), (rl, .inr (0, [.int 0, .ref ad, .int 0])), (kl, .inr (0, [.int 0, .ref ad, .int 0])), (pn, .inr (3, [.float 0, .float 0, .float 0])), (pp, .inr (3, [.float 0, .float 0, .float 0])), (pq, .inr (3, [.float 0, .float 0, .float 0])), (wo, .inl (c_wo, 256, .inl (fun _ => 0))), (re, .inl (c_re, 256, .inl (fun _ => 0))), (fr, .inl (c_fr, 8, .inr (.inr (.inr (.inr (fun _ => none)))))), (mm, .inr (5, [.int 0, .int 0, .ref a2, .ref a3, .ref a4, .ref a5, .int 0, .ref a7, .ref a8, .ref a9, .ref a10, .ref a11, .ref a12, .ref a13, .ref a14, .ref a15, .ref a16, .ref a17, .ref a18, .int 0, .ref a20, .ref a21, .int 8, .float FP.fconst1, .float 1031798784, .int 0, .int 1, .int 0, .int 0, .ref a29, .ref a30, .ref a31, .float 0, .float 0, .float 0])), (a2, .inl (c_a2, 3328, .inr (.inr (.inl (fun _ => 0))))), (a3, .inl (c_a3, 256, .inl (fun _ => 0))), (a4, .inl (c_a4, 256, .inl (fun _ => 0))), (a5, .inl (c_a5, 9, .inr (.inr (.inl (fun _ => 0))))), (a7, .inl (c_a7, 1024, .inl (fun _ => 0))), (a8, .inl (c_a8, 1024, .inl (fun _ => 0))), (a9, .inl (c_a9, 9216, .inr (.inr (.inl (fun _ => 0))))), (a10, .inl (c_a10, 1024, .inr (.inr (.inl (fun _ => 0))))), (a11, .inl (c_a11, 1024, .inr (.inr (.inl (fun _ => 0))))), (a12, .inl (c_a12, 1024, .inr (.inr (.inl (fun _ => 0))))), (a13, .inl (c_a13, 1024, .inr (.inr (.inl (fun _ => 0))))), (a14, .inl (c_a14, 1024, .inr (.inr (.inl (fun _ => 0))))), (a15, .inl (c_a15, 1024, .inl (fun _ => 0))), (a16, .inl (c_a16, 1024, .inl (fun _ => 0))), (a17, .inl (c_a17, 1024, .inr (.inr (.inl (fun _ => 0))))), (a18, .inl (c_a18, 1024, .inr (.inr (.inl (fun _ => 0))))), (a20, .inl (c_a20, 1024, .inl (fun _ => 0))), (a21, .inl (c_a21, 1024, .inr (.inr (.inl (fun _ => 0))))), (a29, .inl (c_a29, 256, .inl (fun _ => 0))), (a30, .inl (c_a30, 256, .inl (fun _ => 0))), (a31, .inl (c_a31, 256, .inl (fun _ => 0))), (o, .inl (c_o, 1, .inr (.inl (fun _ => 0)))), (od, .inl (c_od, 1, .inr (.inr (.inr (.inl (fun _ => 0))))))] H) (hD : va_D A [(x, .inr (4, [.ref bl, .ref rl, .ref kl, .ref pn, .ref pp, .ref pq, .int 8, .float FP.fconst1, .float 1031798784, .int 0, .int 1, .int 0, .int 0, .ref wo, .ref re, .ref fr])), (bl, .inr (0, [.int 0, .ref ad, .int 0])), (rl, .inr (0, [.int 0, .ref ad, .int 0])), (kl, .inr (0, [.int 0, .ref ad, .int 0])), (pn, .inr (3, [.float 0, .float 0, .float 0])), (pp, .inr (3, [.float 0, .float 0, .float 0])), (pq, .inr (3, [.float 0, .float 0, .float 0])), (wo, .inl (c_wo, 256, .inl (fun _ => 0))), (re, .inl (c_re, 256, .inl (fun _ => 0))), (fr, .inl (c_fr, 8, .inr (.inr (.inr (.inr (fun _ => none)))))), (mm, .inr (5, [.int 0, .int 0, .ref a2, .ref a3, .ref a4, .ref a5, .int 0, .ref a7, .ref a8, .ref a9, .ref a10, .ref a11, .ref a12, .ref a13, .ref a14, .ref a15, .ref a16, .ref a17, .ref a18, .int 0, .ref a20, .ref a21, .int 8, .float FP.fconst1, .float 1031798784, .int 0, .int 1, .int 0, .int 0, .ref a29, .ref a30, .ref a31, .float 0, .float 0, .float 0])), (a2, .inl (c_a2, 3328, .inr (.inr (.inl (fun _ => 0))))), (a3, .inl (c_a3, 256, .inl (fun _ => 0))), (a4, .inl (c_a4, 256, .inl (fun _ => 0))), (a5, .inl (c_a5, 9, .inr (.inr (.inl (fun _ => 0))))), (a7, .inl (c_a7, 1024, .inl (fun _ => 0))), (a8, .inl (c_a8, 1024, .inl (fun _ => 0))), (a9, .inl (c_a9, 9216, .inr (.inr (.inl (fun _ => 0))))), (a10, .inl (c_a10, 1024, .inr (.inr (.inl (fun _ => 0))))), (a11, .inl (c_a11, 1024, .inr (.inr (.inl (fun _ => 0))))), (a12, .inl (c_a12, 1024, .inr (.inr (.inl (fun _ => 0))))), (a13, .inl (c_a13, 1024, .inr (.inr (.inl (fun _ => 0))))), (a14, .inl (c_a14, 1024, .inr (.inr (.inl (fun _ => 0))))), (a15, .inl (c_a15, 1024, .inl (fun _ => 0))), (a16, .inl (c_a16, 1024, .inl (fun _ => 0))), (a17, .inl (c_a17, 1024, .inr (.inr (.inl (fun _ => 0))))), (a18, .inl (c_a18, 1024, .inr (.inr (.inl (fun _ => 0))))), (a20, .inl (c_a20, 1024, .inl (fun _ => 0))), (a21, .inl (c_a21, 1024, .inr (.inr (.inl (fun _ => 0))))), (a29, .inl (c_a29, 256, .inl (fun _ => 0))), (a30, .inl (c_a30, 256, .inl (fun _ => 0))), (a31, .inl (c_a31, 256, .inl (fun _ => 0))), (o, .inl (c_o, 1, .inr (.inl (fun _ => 0)))), (od, .inl (c_od, 1, .inr (.inr (.inr (.inl (fun _ => 0))))))]) :
    ∃ (dA : Nat → ClassId) (L : List Nat) (f : Nat → va_E), kLw dA ad x mm o od L f ∧ va_K (dC, dI) vwCl (tyA dA) s ∧ va_P (dC, dI) vwCl (va_pl L f) H ∧ va_D A (va_pl L f) := by
  obtain rfl := kcl hK 1 4 rfl rfl
  obtain rfl := kcl hK 0 5 rfl rfl
  obtain rfl := kcl hK 3 6 rfl rfl
  obtain rfl := kcl hK 0 7 rfl rfl
  obtain rfl := kcl hK 0 8 rfl rfl
  obtain rfl := kcl hK 3 9 rfl rfl
  obtain rfl := kcl hK 3 10 rfl rfl
  obtain rfl := kcl hK 3 11 rfl rfl
  obtain rfl := kcl hK 3 12 rfl rfl
  obtain rfl := kcl hK 3 13 rfl rfl
  obtain rfl := kcl hK 3 14 rfl rfl
  obtain rfl := kcl hK 0 15 rfl rfl
  obtain rfl := kcl hK 0 16 rfl rfl
  obtain rfl := kcl hK 3 17 rfl rfl
  obtain rfl := kcl hK 3 18 rfl rfl
  obtain rfl := kcl hK 0 19 rfl rfl
  obtain rfl := kcl hK 3 20 rfl rfl
  obtain rfl := kcl hK 0 21 rfl rfl
  obtain rfl := kcl hK 0 22 rfl rfl
  obtain rfl := kcl hK 1 23 rfl rfl
  exact kw_start hO (hK.sub [0, 1, 2, 3, 24, 25] rfl) hP hD
theorem kz_lc (x : Int64) : lg_cmp x x = 0 := by
  unfold lg_cmp
  simp
theorem kPy_m0 (mr t k : Nat) (h : kPy mr t k = true) : kPmD t k = true := by
  unfold kPy at h
  split at h <;> first | rfl | cases h
theorem kPw_x0 (t k : Nat) (h : kPw t k = true) : kPx0 t k = true := by
  unfold kPw at h
  split at h <;> first | rfl | cases h
