set_option maxHeartbeats 4000000 in
set_option maxRecDepth 100000 in
theorem c_lean (l : Launch) (dC : Nat → ClassId) (dI : Nat → Nat → Nat) (ad sz : Nat) (x : Nat) (lb : Nat) (lr : Nat) (lk : Nat) (pn : Nat) (pp : Nat) (pq : Nat) (stp : Int32) (wo : Nat) (re : Nat) (fr : Nat) (i : Int32) (a : UInt32) (b : UInt32) (c3 : UInt32) (hlt : l.stackTraces = false) : vx_Met l yX3_lean wsX3_lean ({ frames := 7, cells := 1, slots := 6, locals := 103 } : Room) (va_Pc [.ref x, .int i, .float a, .float b, .float c3] (kc_B (dC, dI) vwCl ad sz [(x, .inr (4, [.ref lb, .ref lr, .ref lk, .ref pn, .ref pp, .ref pq, .int 8, .float FP.fconst1, .float 1031798784, .int 0, .int 1, .int stp, .int 0, .ref wo, .ref re, .ref fr])), (lb, .inr (0, [.int 0, .ref ad, .int 0]))] [])) (fun _ _ _ _ => False) (kc_X (fun E => E = "java/lang/IndexOutOfBoundsException") (va_A [(x, .inr (4, [.ref lb, .ref lr, .ref lk, .ref pn, .ref pp, .ref pq, .int 8, .float FP.fconst1, .float 1031798784, .int 0, .int 1, .int stp, .int 0, .ref wo, .ref re, .ref fr])), (lb, .inr (0, [.int 0, .ref ad, .int 0]))] sz)) 1 6 (va_A [(x, .inr (4, [.ref lb, .ref lr, .ref lk, .ref pn, .ref pp, .ref pq, .int 8, .float FP.fconst1, .float 1031798784, .int 0, .int 1, .int stp, .int 0, .ref wo, .ref re, .ref fr])), (lb, .inr (0, [.int 0, .ref ad, .int 0]))] sz) := by
  refine vx_ofW (cc := cX3_lean) (maxL := 6) (ret := none) (by decide) rfl ?_
  intro p e s m args below meth c s₁ B hml ht hv
  obtain ⟨rfl, hsz, hP, hK, hD0, hE⟩ := hv
  have hx := B.exec
  have hb := B.bytes
  have hr := B.returns
  have hts := atoms_spec (ws := wsX3_lean) B.pre
  have hown : s.vm.findClass RX3 = some m.cls := findClass_of_methodNamed B.named
  have hlocks := B.notSynchronized
  subst hsz
  have hD := hD0.self (sz := s.heap.size)
  generalize hAe : va_A [(x, .inr (4, [.ref lb, .ref lr, .ref lk, .ref pn, .ref pp, .ref pq, .int 8, .float FP.fconst1, .float 1031798784, .int 0, .int 1, .int stp, .int 0, .ref wo, .ref re, .ref fr])), (lb, .inr (0, [.int 0, .ref ad, .int 0]))] s.heap.size = A at hD hE ⊢
  have hA : ∀ q : Nat, s.heap.size ≤ q → A q := fun q h => by rw [← hAe]; exact Or.inr h
  have hS : va_S A s.heap s.heap [] := va_S.rf
  have hP : va_P (dC, dI) vwCl [(x, .inr (4, [.ref lb, .ref lr, .ref lk, .ref pn, .ref pp, .ref pq, .int 8, .float FP.fconst1, .float 1031798784, .int 0, .int 1, .int stp, .int 0, .ref wo, .ref re, .ref fr])), (lb, .inr (0, [.int 0, .ref ad, .int 0]))] s.heap := hP
  have hl := lv_entry ([.ref x, .int i, .float a, .float b, .float c3]) (n := 6) (Nat.le_of_ble_eq_true rfl)
  rw [lg_entry_eq]
  generalize (lg_sl ([.ref x, .int i, .float a, .float b, .float c3]) ++ List.replicate (6 - (lg_sl ([.ref x, .int i, .float a, .float b, .float c3])).length) Slot.unset).toArray = ls at hl ⊢
  have hl : lv_has ls 6 [(0, .ref x), (1, .int i), (2, .float a), (3, .float b), (4, .float c3)] := hl
  refine lv_aload_n hx hb dX3_lean_0 rfl (lv_at hl 0 rfl) ?_
  refine lv_iload_n hx hb dX3_lean_1 rfl (lv_at hl 1 rfl) ?_
  refine kc_xn (wc := [(x, .inr (4, [.ref lb, .ref lr, .ref lk, .ref pn, .ref pp, .ref pq, .int 8, .float FP.fconst1, .float 1031798784, .int 0, .int 1, .int stp, .int 0, .ref wo, .ref re, .ref fr])), (lb, .inr (0, [.int 0, .ref ad, .int 0]))]) (wr := []) (vx_runV (As := [.int i]) (rest := []) ⟨hx, hb, hml, hown, hts⟩ (c_bodyAt l dC dI ad _ x lb lr lk pn pp pq stp wo re fr i hlt) (cwV 1 hts gX3_lean_X3_bodyAt rfl rfl rfl (by decide +kernel) ⟨Nat.le_of_ble_eq_true rfl, Nat.le_of_ble_eq_true rfl⟩) (kc_preV hP hD hK hS hA hE [0, 1] rfl (by decide) [] rfl 0 rfl rfl) rfl rfl hl.1 rfl (lv_room (Nat.le_of_ble_eq_true rfl)) dX3_lean_2 ⟨Nat.le_of_ble_eq_true rfl, Nat.le_of_ble_eq_true rfl⟩) (fun _ _ _ h => h) hP hD hS hA [0, 1] [] rfl rfl (by decide) (by decide) (fun E ce q9 H locs hEX hP hD hS hce hcv hcl => ?_)
  exact vx_out (fun x h => (ht x h).elim) hlocks hce hcv hcl (fun t h1 h2 => ⟨(), trivial, hEX, hS.F h1⟩) hS.2.2 (Nat.le_of_ble_eq_true rfl) (Nat.le_of_ble_eq_true rfl)
set_option maxHeartbeats 4000000 in
set_option maxRecDepth 100000 in
theorem c_set (l : Launch) (dC : Nat → ClassId) (dI : Nat → Nat → Nat) (ad sz : Nat) (x : Nat) (lb : Nat) (lr : Nat) (lk : Nat) (pn : Nat) (pp : Nat) (pq : Nat) (stp : Int32) (wo : Nat) (re : Nat) (fr : Nat) (i : Int32) (a : UInt32) (b : UInt32) (c3 : UInt32) (g4 : UInt32) (g5 : UInt32) (g6 : UInt32) (hlt : l.stackTraces = false) : vx_Met l yX3_set wsX3_set ({ frames := 7, cells := 1, slots := 6, locals := 103 } : Room) (va_Pc [.ref x, .int i, .float a, .float b, .float c3, .float g4, .float g5, .float g6] (kc_B (dC, dI) vwCl ad sz [(x, .inr (4, [.ref lb, .ref lr, .ref lk, .ref pn, .ref pp, .ref pq, .int 8, .float FP.fconst1, .float 1031798784, .int 0, .int 1, .int stp, .int 0, .ref wo, .ref re, .ref fr])), (lb, .inr (0, [.int 0, .ref ad, .int 0]))] [])) (fun _ _ _ _ => False) (kc_X (fun E => E = "java/lang/IndexOutOfBoundsException") (va_A [(x, .inr (4, [.ref lb, .ref lr, .ref lk, .ref pn, .ref pp, .ref pq, .int 8, .float FP.fconst1, .float 1031798784, .int 0, .int 1, .int stp, .int 0, .ref wo, .ref re, .ref fr])), (lb, .inr (0, [.int 0, .ref ad, .int 0]))] sz)) 1 6 (va_A [(x, .inr (4, [.ref lb, .ref lr, .ref lk, .ref pn, .ref pp, .ref pq, .int 8, .float FP.fconst1, .float 1031798784, .int 0, .int 1, .int stp, .int 0, .ref wo, .ref re, .ref fr])), (lb, .inr (0, [.int 0, .ref ad, .int 0]))] sz) := by
  refine vx_ofW (cc := cX3_set) (maxL := 9) (ret := none) (by decide) rfl ?_
  intro p e s m args below meth c s₁ B hml ht hv
  obtain ⟨rfl, hsz, hP, hK, hD0, hE⟩ := hv
  have hx := B.exec
  have hb := B.bytes
  have hr := B.returns
  have hts := atoms_spec (ws := wsX3_set) B.pre
  have hown : s.vm.findClass RX3 = some m.cls := findClass_of_methodNamed B.named
  have hlocks := B.notSynchronized
  subst hsz
  have hD := hD0.self (sz := s.heap.size)
  generalize hAe : va_A [(x, .inr (4, [.ref lb, .ref lr, .ref lk, .ref pn, .ref pp, .ref pq, .int 8, .float FP.fconst1, .float 1031798784, .int 0, .int 1, .int stp, .int 0, .ref wo, .ref re, .ref fr])), (lb, .inr (0, [.int 0, .ref ad, .int 0]))] s.heap.size = A at hD hE ⊢
  have hA : ∀ q : Nat, s.heap.size ≤ q → A q := fun q h => by rw [← hAe]; exact Or.inr h
  have hS : va_S A s.heap s.heap [] := va_S.rf
  have hP : va_P (dC, dI) vwCl [(x, .inr (4, [.ref lb, .ref lr, .ref lk, .ref pn, .ref pp, .ref pq, .int 8, .float FP.fconst1, .float 1031798784, .int 0, .int 1, .int stp, .int 0, .ref wo, .ref re, .ref fr])), (lb, .inr (0, [.int 0, .ref ad, .int 0]))] s.heap := hP
  have hl := lv_entry ([.ref x, .int i, .float a, .float b, .float c3, .float g4, .float g5, .float g6]) (n := 9) (Nat.le_of_ble_eq_true rfl)
  rw [lg_entry_eq]
  generalize (lg_sl ([.ref x, .int i, .float a, .float b, .float c3, .float g4, .float g5, .float g6]) ++ List.replicate (9 - (lg_sl ([.ref x, .int i, .float a, .float b, .float c3, .float g4, .float g5, .float g6])).length) Slot.unset).toArray = ls at hl ⊢
  have hl : lv_has ls 9 [(0, .ref x), (1, .int i), (2, .float a), (3, .float b), (4, .float c3), (5, .float g4), (6, .float g5), (7, .float g6)] := hl
  refine lv_aload_n hx hb dX3_set_0 rfl (lv_at hl 0 rfl) ?_
  refine lv_iload_n hx hb dX3_set_1 rfl (lv_at hl 1 rfl) ?_
  refine kc_xn (wc := [(x, .inr (4, [.ref lb, .ref lr, .ref lk, .ref pn, .ref pp, .ref pq, .int 8, .float FP.fconst1, .float 1031798784, .int 0, .int 1, .int stp, .int 0, .ref wo, .ref re, .ref fr])), (lb, .inr (0, [.int 0, .ref ad, .int 0]))]) (wr := []) (vx_runV (As := [.int i]) (rest := []) ⟨hx, hb, hml, hown, hts⟩ (c_bodyAt l dC dI ad _ x lb lr lk pn pp pq stp wo re fr i hlt) (cwV 1 hts gX3_set_X3_bodyAt rfl rfl rfl (by decide +kernel) ⟨Nat.le_of_ble_eq_true rfl, Nat.le_of_ble_eq_true rfl⟩) (kc_preV hP hD hK hS hA hE [0, 1] rfl (by decide) [] rfl 0 rfl rfl) rfl rfl hl.1 rfl (lv_room (Nat.le_of_ble_eq_true rfl)) dX3_set_2 ⟨Nat.le_of_ble_eq_true rfl, Nat.le_of_ble_eq_true rfl⟩) (fun _ _ _ h => h) hP hD hS hA [0, 1] [] rfl rfl (by decide) (by decide) (fun E ce q9 H locs hEX hP hD hS hce hcv hcl => ?_)
  exact vx_out (fun x h => (ht x h).elim) hlocks hce hcv hcl (fun t h1 h2 => ⟨(), trivial, hEX, hS.F h1⟩) hS.2.2 (Nat.le_of_ble_eq_true rfl) (Nat.le_of_ble_eq_true rfl)
set_option maxHeartbeats 4000000 in
set_option maxRecDepth 100000 in
theorem c_of (l : Launch) (dC : Nat → ClassId) (dI : Nat → Nat → Nat) (ad sz : Nat) (x : Nat) (lb : Nat) (lr : Nat) (lk : Nat) (pn : Nat) (pp : Nat) (pq : Nat) (stp : Int32) (wo : Nat) (re : Nat) (fr : Nat) (i : Int32) (j : Int32) (hlt : l.stackTraces = false) : vx_Met l yX3_of wsX3_of ({ frames := 7, cells := 1, slots := 6, locals := 103 } : Room) (va_Pc [.ref x, .int i, .int j] (kc_B (dC, dI) vwCl ad sz [(x, .inr (4, [.ref lb, .ref lr, .ref lk, .ref pn, .ref pp, .ref pq, .int 8, .float FP.fconst1, .float 1031798784, .int 0, .int 1, .int stp, .int 0, .ref wo, .ref re, .ref fr])), (lb, .inr (0, [.int 0, .ref ad, .int 0]))] [])) (fun _ _ _ _ => False) (kc_X (fun E => E = "java/lang/IndexOutOfBoundsException") (va_A [(x, .inr (4, [.ref lb, .ref lr, .ref lk, .ref pn, .ref pp, .ref pq, .int 8, .float FP.fconst1, .float 1031798784, .int 0, .int 1, .int stp, .int 0, .ref wo, .ref re, .ref fr])), (lb, .inr (0, [.int 0, .ref ad, .int 0]))] sz)) 1 6 (va_A [(x, .inr (4, [.ref lb, .ref lr, .ref lk, .ref pn, .ref pp, .ref pq, .int 8, .float FP.fconst1, .float 1031798784, .int 0, .int 1, .int stp, .int 0, .ref wo, .ref re, .ref fr])), (lb, .inr (0, [.int 0, .ref ad, .int 0]))] sz) := by
  refine vx_ofW (cc := cX3_of) (maxL := 4) (ret := (some .float)) (by decide) rfl ?_
  intro p e s m args below meth c s₁ B hml ht hv
  obtain ⟨rfl, hsz, hP, hK, hD0, hE⟩ := hv
  have hx := B.exec
  have hb := B.bytes
  have hr := B.returns
  have hts := atoms_spec (ws := wsX3_of) B.pre
  have hown : s.vm.findClass RX3 = some m.cls := findClass_of_methodNamed B.named
  have hlocks := B.notSynchronized
  subst hsz
  have hD := hD0.self (sz := s.heap.size)
  generalize hAe : va_A [(x, .inr (4, [.ref lb, .ref lr, .ref lk, .ref pn, .ref pp, .ref pq, .int 8, .float FP.fconst1, .float 1031798784, .int 0, .int 1, .int stp, .int 0, .ref wo, .ref re, .ref fr])), (lb, .inr (0, [.int 0, .ref ad, .int 0]))] s.heap.size = A at hD hE ⊢
  have hA : ∀ q : Nat, s.heap.size ≤ q → A q := fun q h => by rw [← hAe]; exact Or.inr h
  have hS : va_S A s.heap s.heap [] := va_S.rf
  have hP : va_P (dC, dI) vwCl [(x, .inr (4, [.ref lb, .ref lr, .ref lk, .ref pn, .ref pp, .ref pq, .int 8, .float FP.fconst1, .float 1031798784, .int 0, .int 1, .int stp, .int 0, .ref wo, .ref re, .ref fr])), (lb, .inr (0, [.int 0, .ref ad, .int 0]))] s.heap := hP
  have hl := lv_entry ([.ref x, .int i, .int j]) (n := 4) (Nat.le_of_ble_eq_true rfl)
  rw [lg_entry_eq]
  generalize (lg_sl ([.ref x, .int i, .int j]) ++ List.replicate (4 - (lg_sl ([.ref x, .int i, .int j])).length) Slot.unset).toArray = ls at hl ⊢
  have hl : lv_has ls 4 [(0, .ref x), (1, .int i), (2, .int j)] := hl
  refine lv_aload_n hx hb dX3_of_0 rfl (lv_at hl 0 rfl) ?_
  refine lv_iload_n hx hb dX3_of_1 rfl (lv_at hl 1 rfl) ?_
  refine kc_xn (wc := [(x, .inr (4, [.ref lb, .ref lr, .ref lk, .ref pn, .ref pp, .ref pq, .int 8, .float FP.fconst1, .float 1031798784, .int 0, .int 1, .int stp, .int 0, .ref wo, .ref re, .ref fr])), (lb, .inr (0, [.int 0, .ref ad, .int 0]))]) (wr := []) (vx_runV (As := [.int i]) (rest := []) ⟨hx, hb, hml, hown, hts⟩ (c_bodyAt l dC dI ad _ x lb lr lk pn pp pq stp wo re fr i hlt) (cwV 1 hts gX3_of_X3_bodyAt rfl rfl rfl (by decide +kernel) ⟨Nat.le_of_ble_eq_true rfl, Nat.le_of_ble_eq_true rfl⟩) (kc_preV hP hD hK hS hA hE [0, 1] rfl (by decide) [] rfl 0 rfl rfl) rfl rfl hl.1 rfl (lv_room (Nat.le_of_ble_eq_true rfl)) dX3_of_2 ⟨Nat.le_of_ble_eq_true rfl, Nat.le_of_ble_eq_true rfl⟩) (fun _ _ _ h => h) hP hD hS hA [0, 1] [] rfl rfl (by decide) (by decide) (fun E ce q9 H locs hEX hP hD hS hce hcv hcl => ?_)
  exact vx_out (fun x h => (ht x h).elim) hlocks hce hcv hcl (fun t h1 h2 => ⟨(), trivial, hEX, hS.F h1⟩) hS.2.2 (Nat.le_of_ble_eq_true rfl) (Nat.le_of_ble_eq_true rfl)
set_option maxHeartbeats 4000000 in
set_option maxRecDepth 100000 in
theorem c_about (l : Launch) (dC : Nat → ClassId) (dI : Nat → Nat → Nat) (ad sz : Nat) (x : Nat) (lb : Nat) (lr : Nat) (lk : Nat) (pn : Nat) (pp : Nat) (pq : Nat) (stp : Int32) (wo : Nat) (re : Nat) (fr : Nat) (i : Int32) (j : Int32) (hlt : l.stackTraces = false) : vx_Met l yX3_about wsX3_about ({ frames := 7, cells := 1, slots := 6, locals := 103 } : Room) (va_Pc [.ref x, .int i, .int j] (kc_B (dC, dI) vwCl ad sz [(x, .inr (4, [.ref lb, .ref lr, .ref lk, .ref pn, .ref pp, .ref pq, .int 8, .float FP.fconst1, .float 1031798784, .int 0, .int 1, .int stp, .int 0, .ref wo, .ref re, .ref fr])), (lb, .inr (0, [.int 0, .ref ad, .int 0]))] [])) (fun _ _ _ _ => False) (kc_X (fun E => E = "java/lang/IndexOutOfBoundsException") (va_A [(x, .inr (4, [.ref lb, .ref lr, .ref lk, .ref pn, .ref pp, .ref pq, .int 8, .float FP.fconst1, .float 1031798784, .int 0, .int 1, .int stp, .int 0, .ref wo, .ref re, .ref fr])), (lb, .inr (0, [.int 0, .ref ad, .int 0]))] sz)) 1 6 (va_A [(x, .inr (4, [.ref lb, .ref lr, .ref lk, .ref pn, .ref pp, .ref pq, .int 8, .float FP.fconst1, .float 1031798784, .int 0, .int 1, .int stp, .int 0, .ref wo, .ref re, .ref fr])), (lb, .inr (0, [.int 0, .ref ad, .int 0]))] sz) := by
  refine vx_ofW (cc := cX3_about) (maxL := 4) (ret := (some .int)) (by decide) rfl ?_
  intro p e s m args below meth c s₁ B hml ht hv
  obtain ⟨rfl, hsz, hP, hK, hD0, hE⟩ := hv
  have hx := B.exec
  have hb := B.bytes
  have hr := B.returns
  have hts := atoms_spec (ws := wsX3_about) B.pre
  have hown : s.vm.findClass RX3 = some m.cls := findClass_of_methodNamed B.named
  have hlocks := B.notSynchronized
  subst hsz
  have hD := hD0.self (sz := s.heap.size)
  generalize hAe : va_A [(x, .inr (4, [.ref lb, .ref lr, .ref lk, .ref pn, .ref pp, .ref pq, .int 8, .float FP.fconst1, .float 1031798784, .int 0, .int 1, .int stp, .int 0, .ref wo, .ref re, .ref fr])), (lb, .inr (0, [.int 0, .ref ad, .int 0]))] s.heap.size = A at hD hE ⊢
  have hA : ∀ q : Nat, s.heap.size ≤ q → A q := fun q h => by rw [← hAe]; exact Or.inr h
  have hS : va_S A s.heap s.heap [] := va_S.rf
  have hP : va_P (dC, dI) vwCl [(x, .inr (4, [.ref lb, .ref lr, .ref lk, .ref pn, .ref pp, .ref pq, .int 8, .float FP.fconst1, .float 1031798784, .int 0, .int 1, .int stp, .int 0, .ref wo, .ref re, .ref fr])), (lb, .inr (0, [.int 0, .ref ad, .int 0]))] s.heap := hP
  have hl := lv_entry ([.ref x, .int i, .int j]) (n := 4) (Nat.le_of_ble_eq_true rfl)
  rw [lg_entry_eq]
  generalize (lg_sl ([.ref x, .int i, .int j]) ++ List.replicate (4 - (lg_sl ([.ref x, .int i, .int j])).length) Slot.unset).toArray = ls at hl ⊢
  have hl : lv_has ls 4 [(0, .ref x), (1, .int i), (2, .int j)] := hl
  refine lv_aload_n hx hb dX3_about_0 rfl (lv_at hl 0 rfl) ?_
  refine lv_iload_n hx hb dX3_about_1 rfl (lv_at hl 1 rfl) ?_
  refine kc_xn (wc := [(x, .inr (4, [.ref lb, .ref lr, .ref lk, .ref pn, .ref pp, .ref pq, .int 8, .float FP.fconst1, .float 1031798784, .int 0, .int 1, .int stp, .int 0, .ref wo, .ref re, .ref fr])), (lb, .inr (0, [.int 0, .ref ad, .int 0]))]) (wr := []) (vx_runV (As := [.int i]) (rest := []) ⟨hx, hb, hml, hown, hts⟩ (c_bodyAt l dC dI ad _ x lb lr lk pn pp pq stp wo re fr i hlt) (cwV 1 hts gX3_about_X3_bodyAt rfl rfl rfl (by decide +kernel) ⟨Nat.le_of_ble_eq_true rfl, Nat.le_of_ble_eq_true rfl⟩) (kc_preV hP hD hK hS hA hE [0, 1] rfl (by decide) [] rfl 0 rfl rfl) rfl rfl hl.1 rfl (lv_room (Nat.le_of_ble_eq_true rfl)) dX3_about_2 ⟨Nat.le_of_ble_eq_true rfl, Nat.le_of_ble_eq_true rfl⟩) (fun _ _ _ h => h) hP hD hS hA [0, 1] [] rfl rfl (by decide) (by decide) (fun E ce q9 H locs hEX hP hD hS hce hcv hcl => ?_)
  exact vx_out (fun x h => (ht x h).elim) hlocks hce hcv hcl (fun t h1 h2 => ⟨(), trivial, hEX, hS.F h1⟩) hS.2.2 (Nat.le_of_ble_eq_true rfl) (Nat.le_of_ble_eq_true rfl)
set_option maxHeartbeats 4000000 in
set_option maxRecDepth 100000 in
theorem c_gain (l : Launch) (dC : Nat → ClassId) (dI : Nat → Nat → Nat) (ad sz : Nat) (x : Nat) (lb : Nat) (lr : Nat) (lk : Nat) (pn : Nat) (pp : Nat) (pq : Nat) (stp : Int32) (wo : Nat) (re : Nat) (fr : Nat) (i : Int32) (j : Int32) (a : UInt32) (b : UInt32) (c3 : UInt32) (hlt : l.stackTraces = false) : vx_Met l yX3_gain wsX3_gain ({ frames := 6, cells := 1, slots := 6, locals := 82 } : Room) (va_Pc [.ref x, .int i, .int j, .float a, .float b, .float c3] (kc_B (dC, dI) vwCl ad sz [(x, .inr (4, [.ref lb, .ref lr, .ref lk, .ref pn, .ref pp, .ref pq, .int 8, .float FP.fconst1, .float 1031798784, .int 0, .int 1, .int stp, .int 0, .ref wo, .ref re, .ref fr])), (lb, .inr (0, [.int 0, .ref ad, .int 0]))] [])) (fun _ _ _ _ => False) (kc_X (fun E => E = "java/lang/IndexOutOfBoundsException") (va_A [(x, .inr (4, [.ref lb, .ref lr, .ref lk, .ref pn, .ref pp, .ref pq, .int 8, .float FP.fconst1, .float 1031798784, .int 0, .int 1, .int stp, .int 0, .ref wo, .ref re, .ref fr])), (lb, .inr (0, [.int 0, .ref ad, .int 0]))] sz)) 1 6 (va_A [(x, .inr (4, [.ref lb, .ref lr, .ref lk, .ref pn, .ref pp, .ref pq, .int 8, .float FP.fconst1, .float 1031798784, .int 0, .int 1, .int stp, .int 0, .ref wo, .ref re, .ref fr])), (lb, .inr (0, [.int 0, .ref ad, .int 0]))] sz) := by
  refine vx_ofW (cc := cX3_gain) (maxL := 9) (ret := (some .int)) (by decide) rfl ?_
  intro p e s m args below meth c s₁ B hml ht hv
  obtain ⟨rfl, hsz, hP, hK, hD0, hE⟩ := hv
  have hx := B.exec
  have hb := B.bytes
  have hr := B.returns
  have hts := atoms_spec (ws := wsX3_gain) B.pre
  have hown : s.vm.findClass RX3 = some m.cls := findClass_of_methodNamed B.named
  have hlocks := B.notSynchronized
  have a_148 : ∀ w ∈ (vx_atS RX3 148 "java/lang/IndexOutOfBoundsException" ["java/lang/RuntimeException", "java/lang/Exception"]).filter goodWord, w ∈ wsX3_gain := fun _ h => List.mem_cons_of_mem _ (List.mem_append_left _ (List.mem_append_right _ h))
  subst hsz
  have hD := hD0.self (sz := s.heap.size)
  generalize hAe : va_A [(x, .inr (4, [.ref lb, .ref lr, .ref lk, .ref pn, .ref pp, .ref pq, .int 8, .float FP.fconst1, .float 1031798784, .int 0, .int 1, .int stp, .int 0, .ref wo, .ref re, .ref fr])), (lb, .inr (0, [.int 0, .ref ad, .int 0]))] s.heap.size = A at hD hE ⊢
  have hA : ∀ q : Nat, s.heap.size ≤ q → A q := fun q h => by rw [← hAe]; exact Or.inr h
  have hS : va_S A s.heap s.heap [] := va_S.rf
  have hP : va_P (dC, dI) vwCl [(x, .inr (4, [.ref lb, .ref lr, .ref lk, .ref pn, .ref pp, .ref pq, .int 8, .float FP.fconst1, .float 1031798784, .int 0, .int 1, .int stp, .int 0, .ref wo, .ref re, .ref fr])), (lb, .inr (0, [.int 0, .ref ad, .int 0]))] s.heap := hP
  have hl := lv_entry ([.ref x, .int i, .int j, .float a, .float b, .float c3]) (n := 9) (Nat.le_of_ble_eq_true rfl)
  rw [lg_entry_eq]
  generalize (lg_sl ([.ref x, .int i, .int j, .float a, .float b, .float c3]) ++ List.replicate (9 - (lg_sl ([.ref x, .int i, .int j, .float a, .float b, .float c3])).length) Slot.unset).toArray = ls at hl ⊢
  have hl : lv_has ls 9 [(0, .ref x), (1, .int i), (2, .int j), (3, .float a), (4, .float b), (5, .float c3)] := hl
  refine lv_aload_n hx hb dX3_gain_0 rfl (lv_at hl 0 rfl) ?_
  refine lv_iload_n hx hb dX3_gain_1 rfl (lv_at hl 1 rfl) ?_
  refine kc_calli (wc := [(x, .inr (4, [.ref lb, .ref lr, .ref lk, .ref pn, .ref pp, .ref pq, .int 8, .float FP.fconst1, .float 1031798784, .int 0, .int 1, .int stp, .int 0, .ref wo, .ref re, .ref fr])), (lb, .inr (0, [.int 0, .ref ad, .int 0]))]) (wr := []) (tyr := []) (va_runV (As := [.int i]) (rest := []) ⟨hx, hb, hml, hown, hts⟩ (c_isBody l dC dI ad _ x lb lr lk pn pp pq stp wo re fr i) (cwV 1 hts gX3_gain_X3_isBody rfl rfl rfl (by decide +kernel) ⟨Nat.le_of_ble_eq_true rfl, Nat.le_of_ble_eq_true rfl⟩) (kc_preV hP hD hK hS hA hE [0, 1] rfl (by decide) [] rfl 0 rfl rfl) rfl rfl hl.1 rfl (lv_room (Nat.le_of_ble_eq_true rfl)) dX3_gain_2 ⟨Nat.le_of_ble_eq_true rfl, Nat.le_of_ble_eq_true rfl⟩) hP hD hK hS hA [0, 1] [] rfl rfl (by decide) (by decide) [] rfl (fun r_1 u H locs hw hP hD hK hS => ?_)
  subst hw
  have hP : va_P (dC, dI) vwCl [(x, .inr (4, [.ref lb, .ref lr, .ref lk, .ref pn, .ref pp, .ref pq, .int 8, .float FP.fconst1, .float 1031798784, .int 0, .int 1, .int stp, .int 0, .ref wo, .ref re, .ref fr])), (lb, .inr (0, [.int 0, .ref ad, .int 0]))] H := hP
  have hD : va_D A [(x, .inr (4, [.ref lb, .ref lr, .ref lk, .ref pn, .ref pp, .ref pq, .int 8, .float FP.fconst1, .float 1031798784, .int 0, .int 1, .int stp, .int 0, .ref wo, .ref re, .ref fr])), (lb, .inr (0, [.int 0, .ref ad, .int 0]))] := hD
  have hK : va_K (dC, dI) vwCl [] s := hK.sub [] rfl
  refine lv_if_eq (tgt := 21) hx hb dX3_gain_5 (by decide) (fun _ => ?_) (fun h9 => absurd h9 (by decide))
  obtain ⟨sa_2, hsa_2⟩ := hE.str 146 "there are no such bodies" (by decide +kernel)
  have hat : ∀ w ∈ (vx_atS RX3 148 "java/lang/IndexOutOfBoundsException" ["java/lang/RuntimeException", "java/lang/Exception"]), w.before _ s = true := vx_hat (B := kx_non "java/lang/IndexOutOfBoundsException") (fun w h => hts w (a_148 w h)) (by decide +kernel) (hE.non "java/lang/IndexOutOfBoundsException" (by decide +kernel))
  refine W.widen (k := 0) (n := 0) (Nat.le_of_ble_eq_true rfl) (Nat.le_of_ble_eq_true rfl) ?_
  exact vx_throwS (A := A) (rest := []) hx hb hlt hown (by decide +kernel) (by decide +kernel) (hts (.classLink RX3 144 "java/lang/IndexOutOfBoundsException") (by decide +kernel)) (hts (.initialized "java/lang/IndexOutOfBoundsException") (by decide +kernel)) hsa_2 hat (by decide +kernel) hE.2.2.2.2.2.2.1 hE.2.2.2.2.2.2.2.1 hS (hl.1.trans hml.symm) dX3_gain_21 dX3_gain_24 dX3_gain_25 dX3_gain_27 dX3_gain_30 (fun x h => (ht x h).elim) (Nat.le_of_ble_eq_true rfl) (Nat.le_of_ble_eq_true rfl) (Nat.le_of_ble_eq_true rfl) (Nat.le_of_ble_eq_true rfl) hlocks (fun t hvm hz hk => ⟨(), trivial, rfl, Nat.le_trans hS.1 hz, fun q h1 h2 => (hk q (Nat.lt_of_lt_of_le h1 hS.1)).trans (hS.2.1 q h1 h2)⟩) hS.2.2 (Nat.le_of_ble_eq_true rfl) (Nat.le_of_ble_eq_true rfl)
set_option maxHeartbeats 4000000 in
set_option maxRecDepth 100000 in
theorem c_checkPair (l : Launch) (dC : Nat → ClassId) (dI : Nat → Nat → Nat) (ad sz : Nat) (x : Nat) (lb : Nat) (lr : Nat) (lk : Nat) (pn : Nat) (pp : Nat) (pq : Nat) (stp : Int32) (wo : Nat) (re : Nat) (fr : Nat) (i : Int32) (j : Int32) (hlt : l.stackTraces = false) : vx_Met l yX3_checkPair wsX3_checkPair ({ frames := 6, cells := 1, slots := 6, locals := 82 } : Room) (va_Pc [.ref x, .int i, .int j] (kc_B (dC, dI) vwCl ad sz [(x, .inr (4, [.ref lb, .ref lr, .ref lk, .ref pn, .ref pp, .ref pq, .int 8, .float FP.fconst1, .float 1031798784, .int 0, .int 1, .int stp, .int 0, .ref wo, .ref re, .ref fr])), (lb, .inr (0, [.int 0, .ref ad, .int 0]))] [])) (fun _ _ _ _ => False) (kc_X (fun E => E = "java/lang/IndexOutOfBoundsException") (va_A [(x, .inr (4, [.ref lb, .ref lr, .ref lk, .ref pn, .ref pp, .ref pq, .int 8, .float FP.fconst1, .float 1031798784, .int 0, .int 1, .int stp, .int 0, .ref wo, .ref re, .ref fr])), (lb, .inr (0, [.int 0, .ref ad, .int 0]))] sz)) 1 6 (va_A [(x, .inr (4, [.ref lb, .ref lr, .ref lk, .ref pn, .ref pp, .ref pq, .int 8, .float FP.fconst1, .float 1031798784, .int 0, .int 1, .int stp, .int 0, .ref wo, .ref re, .ref fr])), (lb, .inr (0, [.int 0, .ref ad, .int 0]))] sz) := by
  refine vx_ofW (cc := cX3_checkPair) (maxL := 3) (ret := none) (by decide) rfl ?_
  intro p e s m args below meth c s₁ B hml ht hv
  obtain ⟨rfl, hsz, hP, hK, hD0, hE⟩ := hv
  have hx := B.exec
  have hb := B.bytes
  have hr := B.returns
  have hts := atoms_spec (ws := wsX3_checkPair) B.pre
  have hown : s.vm.findClass RX3 = some m.cls := findClass_of_methodNamed B.named
  have hlocks := B.notSynchronized
  have a_148 : ∀ w ∈ (vx_atS RX3 148 "java/lang/IndexOutOfBoundsException" ["java/lang/RuntimeException", "java/lang/Exception"]).filter goodWord, w ∈ wsX3_checkPair := fun _ h => List.mem_cons_of_mem _ (List.mem_append_right _ h)
  subst hsz
  have hD := hD0.self (sz := s.heap.size)
  generalize hAe : va_A [(x, .inr (4, [.ref lb, .ref lr, .ref lk, .ref pn, .ref pp, .ref pq, .int 8, .float FP.fconst1, .float 1031798784, .int 0, .int 1, .int stp, .int 0, .ref wo, .ref re, .ref fr])), (lb, .inr (0, [.int 0, .ref ad, .int 0]))] s.heap.size = A at hD hE ⊢
  have hA : ∀ q : Nat, s.heap.size ≤ q → A q := fun q h => by rw [← hAe]; exact Or.inr h
  have hS : va_S A s.heap s.heap [] := va_S.rf
  have hP : va_P (dC, dI) vwCl [(x, .inr (4, [.ref lb, .ref lr, .ref lk, .ref pn, .ref pp, .ref pq, .int 8, .float FP.fconst1, .float 1031798784, .int 0, .int 1, .int stp, .int 0, .ref wo, .ref re, .ref fr])), (lb, .inr (0, [.int 0, .ref ad, .int 0]))] s.heap := hP
  have hl := lv_entry ([.ref x, .int i, .int j]) (n := 3) (Nat.le_of_ble_eq_true rfl)
  rw [lg_entry_eq]
  generalize (lg_sl ([.ref x, .int i, .int j]) ++ List.replicate (3 - (lg_sl ([.ref x, .int i, .int j])).length) Slot.unset).toArray = ls at hl ⊢
  have hl : lv_has ls 3 [(0, .ref x), (1, .int i), (2, .int j)] := hl
  refine lv_aload_n hx hb dX3_checkPair_0 rfl (lv_at hl 0 rfl) ?_
  refine lv_iload_n hx hb dX3_checkPair_1 rfl (lv_at hl 1 rfl) ?_
  refine kc_calli (wc := [(x, .inr (4, [.ref lb, .ref lr, .ref lk, .ref pn, .ref pp, .ref pq, .int 8, .float FP.fconst1, .float 1031798784, .int 0, .int 1, .int stp, .int 0, .ref wo, .ref re, .ref fr])), (lb, .inr (0, [.int 0, .ref ad, .int 0]))]) (wr := []) (tyr := []) (va_runV (As := [.int i]) (rest := []) ⟨hx, hb, hml, hown, hts⟩ (c_isBody l dC dI ad _ x lb lr lk pn pp pq stp wo re fr i) (cwV 1 hts gX3_checkPair_X3_isBody rfl rfl rfl (by decide +kernel) ⟨Nat.le_of_ble_eq_true rfl, Nat.le_of_ble_eq_true rfl⟩) (kc_preV hP hD hK hS hA hE [0, 1] rfl (by decide) [] rfl 0 rfl rfl) rfl rfl hl.1 rfl (lv_room (Nat.le_of_ble_eq_true rfl)) dX3_checkPair_2 ⟨Nat.le_of_ble_eq_true rfl, Nat.le_of_ble_eq_true rfl⟩) hP hD hK hS hA [0, 1] [] rfl rfl (by decide) (by decide) [] rfl (fun r_1 u H locs hw hP hD hK hS => ?_)
  subst hw
  have hP : va_P (dC, dI) vwCl [(x, .inr (4, [.ref lb, .ref lr, .ref lk, .ref pn, .ref pp, .ref pq, .int 8, .float FP.fconst1, .float 1031798784, .int 0, .int 1, .int stp, .int 0, .ref wo, .ref re, .ref fr])), (lb, .inr (0, [.int 0, .ref ad, .int 0]))] H := hP
  have hD : va_D A [(x, .inr (4, [.ref lb, .ref lr, .ref lk, .ref pn, .ref pp, .ref pq, .int 8, .float FP.fconst1, .float 1031798784, .int 0, .int 1, .int stp, .int 0, .ref wo, .ref re, .ref fr])), (lb, .inr (0, [.int 0, .ref ad, .int 0]))] := hD
  have hK : va_K (dC, dI) vwCl [] s := hK.sub [] rfl
  refine lv_if_eq (tgt := 26) hx hb dX3_checkPair_5 (by decide) (fun _ => ?_) (fun h9 => absurd h9 (by decide))
  obtain ⟨sa_2, hsa_2⟩ := hE.str 311 "there are no such two bodies" (by decide +kernel)
  have hat : ∀ w ∈ (vx_atS RX3 148 "java/lang/IndexOutOfBoundsException" ["java/lang/RuntimeException", "java/lang/Exception"]), w.before _ s = true := vx_hat (B := kx_non "java/lang/IndexOutOfBoundsException") (fun w h => hts w (a_148 w h)) (by decide +kernel) (hE.non "java/lang/IndexOutOfBoundsException" (by decide +kernel))
  refine W.widen (k := 0) (n := 0) (Nat.le_of_ble_eq_true rfl) (Nat.le_of_ble_eq_true rfl) ?_
  exact vx_throwSW (A := A) (rest := []) hx hb hlt hown (by decide +kernel) (by decide +kernel) (hts (.classLink RX3 144 "java/lang/IndexOutOfBoundsException") (by decide +kernel)) (hts (.initialized "java/lang/IndexOutOfBoundsException") (by decide +kernel)) hsa_2 hat (by decide +kernel) hE.2.2.2.2.2.2.1 hE.2.2.2.2.2.2.2.1 hS (hl.1.trans hml.symm) dX3_checkPair_26 dX3_checkPair_29 dX3_checkPair_30 dX3_checkPair_33 dX3_checkPair_36 (fun x h => (ht x h).elim) (Nat.le_of_ble_eq_true rfl) (Nat.le_of_ble_eq_true rfl) (Nat.le_of_ble_eq_true rfl) (Nat.le_of_ble_eq_true rfl) hlocks (fun t hvm hz hk => ⟨(), trivial, rfl, Nat.le_trans hS.1 hz, fun q h1 h2 => (hk q (Nat.lt_of_lt_of_le h1 hS.1)).trans (hS.2.1 q h1 h2)⟩) hS.2.2 (Nat.le_of_ble_eq_true rfl) (Nat.le_of_ble_eq_true rfl)
set_option maxHeartbeats 4000000 in
set_option maxRecDepth 100000 in
theorem c_row (l : Launch) (dC : Nat → ClassId) (dI : Nat → Nat → Nat) (ad sz : Nat) (x : Nat) (lb : Nat) (lr : Nat) (lk : Nat) (pn : Nat) (pp : Nat) (pq : Nat) (stp : Int32) (wo : Nat) (re : Nat) (fr : Nat) (i : Int32) (j : Int32) (a : UInt32) (b : UInt32) (c3 : UInt32) (g4 : UInt32) (k : Int32) (hlt : l.stackTraces = false) : vx_Met l yX3_row wsX3_row ({ frames := 7, cells := 1, slots := 6, locals := 104 } : Room) (va_Pc [.ref x, .int i, .int j, .float a, .float b, .float c3, .float g4, .int k] (kc_B (dC, dI) vwCl ad sz [(x, .inr (4, [.ref lb, .ref lr, .ref lk, .ref pn, .ref pp, .ref pq, .int 8, .float FP.fconst1, .float 1031798784, .int 0, .int 1, .int stp, .int 0, .ref wo, .ref re, .ref fr])), (lb, .inr (0, [.int 0, .ref ad, .int 0]))] [])) (fun _ _ _ _ => False) (kc_X (fun E => E = "java/lang/IndexOutOfBoundsException") (va_A [(x, .inr (4, [.ref lb, .ref lr, .ref lk, .ref pn, .ref pp, .ref pq, .int 8, .float FP.fconst1, .float 1031798784, .int 0, .int 1, .int stp, .int 0, .ref wo, .ref re, .ref fr])), (lb, .inr (0, [.int 0, .ref ad, .int 0]))] sz)) 1 6 (va_A [(x, .inr (4, [.ref lb, .ref lr, .ref lk, .ref pn, .ref pp, .ref pq, .int 8, .float FP.fconst1, .float 1031798784, .int 0, .int 1, .int stp, .int 0, .ref wo, .ref re, .ref fr])), (lb, .inr (0, [.int 0, .ref ad, .int 0]))] sz) := by
  refine vx_ofW (cc := cX3_row) (maxL := 9) (ret := (some .int)) (by decide) rfl ?_
  intro p e s m args below meth c s₁ B hml ht hv
  obtain ⟨rfl, hsz, hP, hK, hD0, hE⟩ := hv
  have hx := B.exec
  have hb := B.bytes
  have hr := B.returns
  have hts := atoms_spec (ws := wsX3_row) B.pre
  have hown : s.vm.findClass RX3 = some m.cls := findClass_of_methodNamed B.named
  have hlocks := B.notSynchronized
  subst hsz
  have hD := hD0.self (sz := s.heap.size)
  generalize hAe : va_A [(x, .inr (4, [.ref lb, .ref lr, .ref lk, .ref pn, .ref pp, .ref pq, .int 8, .float FP.fconst1, .float 1031798784, .int 0, .int 1, .int stp, .int 0, .ref wo, .ref re, .ref fr])), (lb, .inr (0, [.int 0, .ref ad, .int 0]))] s.heap.size = A at hD hE ⊢
  have hA : ∀ q : Nat, s.heap.size ≤ q → A q := fun q h => by rw [← hAe]; exact Or.inr h
  have hS : va_S A s.heap s.heap [] := va_S.rf
  have hP : va_P (dC, dI) vwCl [(x, .inr (4, [.ref lb, .ref lr, .ref lk, .ref pn, .ref pp, .ref pq, .int 8, .float FP.fconst1, .float 1031798784, .int 0, .int 1, .int stp, .int 0, .ref wo, .ref re, .ref fr])), (lb, .inr (0, [.int 0, .ref ad, .int 0]))] s.heap := hP
  have hl := lv_entry ([.ref x, .int i, .int j, .float a, .float b, .float c3, .float g4, .int k]) (n := 9) (Nat.le_of_ble_eq_true rfl)
  rw [lg_entry_eq]
  generalize (lg_sl ([.ref x, .int i, .int j, .float a, .float b, .float c3, .float g4, .int k]) ++ List.replicate (9 - (lg_sl ([.ref x, .int i, .int j, .float a, .float b, .float c3, .float g4, .int k])).length) Slot.unset).toArray = ls at hl ⊢
  have hl : lv_has ls 9 [(0, .ref x), (1, .int i), (2, .int j), (3, .float a), (4, .float b), (5, .float c3), (6, .float g4), (7, .int k)] := hl
  refine lv_aload_n hx hb dX3_row_0 rfl (lv_at hl 0 rfl) ?_
  refine lv_iload_n hx hb dX3_row_1 rfl (lv_at hl 1 rfl) ?_
  refine lv_iload_n hx hb dX3_row_2 rfl (lv_at hl 2 rfl) ?_
  refine kc_xn (wc := [(x, .inr (4, [.ref lb, .ref lr, .ref lk, .ref pn, .ref pp, .ref pq, .int 8, .float FP.fconst1, .float 1031798784, .int 0, .int 1, .int stp, .int 0, .ref wo, .ref re, .ref fr])), (lb, .inr (0, [.int 0, .ref ad, .int 0]))]) (wr := []) (vx_runV (As := [.int i, .int j]) (rest := []) ⟨hx, hb, hml, hown, hts⟩ (c_checkPair l dC dI ad _ x lb lr lk pn pp pq stp wo re fr i j hlt) (cwV 2 hts gX3_row_X3_checkPair rfl rfl rfl (by decide +kernel) ⟨Nat.le_of_ble_eq_true rfl, Nat.le_of_ble_eq_true rfl⟩) (kc_preV hP hD hK hS hA hE [0, 1] rfl (by decide) [] rfl 0 rfl rfl) rfl rfl hl.1 rfl (lv_room (Nat.le_of_ble_eq_true rfl)) dX3_row_3 ⟨Nat.le_of_ble_eq_true rfl, Nat.le_of_ble_eq_true rfl⟩) (fun _ _ _ h => h) hP hD hS hA [0, 1] [] rfl rfl (by decide) (by decide) (fun E ce q9 H locs hEX hP hD hS hce hcv hcl => ?_)
  exact vx_out (fun x h => (ht x h).elim) hlocks hce hcv hcl (fun t h1 h2 => ⟨(), trivial, hEX, hS.F h1⟩) hS.2.2 (Nat.le_of_ble_eq_true rfl) (Nat.le_of_ble_eq_true rfl)
set_option maxHeartbeats 4000000 in
set_option maxRecDepth 100000 in
theorem c_rub (l : Launch) (dC : Nat → ClassId) (dI : Nat → Nat → Nat) (ad sz : Nat) (x : Nat) (lb : Nat) (lr : Nat) (lk : Nat) (pn : Nat) (pp : Nat) (pq : Nat) (stp : Int32) (wo : Nat) (re : Nat) (fr : Nat) (i : Int32) (j : Int32) (a : UInt32) (k : Int32) (b : UInt32) (k2 : Int32) (hlt : l.stackTraces = false) : vx_Met l yX3_rub wsX3_rub ({ frames := 7, cells := 1, slots := 6, locals := 104 } : Room) (va_Pc [.ref x, .int i, .int j, .float a, .int k, .float b, .int k2] (kc_B (dC, dI) vwCl ad sz [(x, .inr (4, [.ref lb, .ref lr, .ref lk, .ref pn, .ref pp, .ref pq, .int 8, .float FP.fconst1, .float 1031798784, .int 0, .int 1, .int stp, .int 0, .ref wo, .ref re, .ref fr])), (lb, .inr (0, [.int 0, .ref ad, .int 0]))] [])) (fun _ _ _ _ => False) (kc_X (fun E => E = "java/lang/IndexOutOfBoundsException") (va_A [(x, .inr (4, [.ref lb, .ref lr, .ref lk, .ref pn, .ref pp, .ref pq, .int 8, .float FP.fconst1, .float 1031798784, .int 0, .int 1, .int stp, .int 0, .ref wo, .ref re, .ref fr])), (lb, .inr (0, [.int 0, .ref ad, .int 0]))] sz)) 1 6 (va_A [(x, .inr (4, [.ref lb, .ref lr, .ref lk, .ref pn, .ref pp, .ref pq, .int 8, .float FP.fconst1, .float 1031798784, .int 0, .int 1, .int stp, .int 0, .ref wo, .ref re, .ref fr])), (lb, .inr (0, [.int 0, .ref ad, .int 0]))] sz) := by
  refine vx_ofW (cc := cX3_rub) (maxL := 9) (ret := (some .int)) (by decide) rfl ?_
  intro p e s m args below meth c s₁ B hml ht hv
  obtain ⟨rfl, hsz, hP, hK, hD0, hE⟩ := hv
  have hx := B.exec
  have hb := B.bytes
  have hr := B.returns
  have hts := atoms_spec (ws := wsX3_rub) B.pre
  have hown : s.vm.findClass RX3 = some m.cls := findClass_of_methodNamed B.named
  have hlocks := B.notSynchronized
  subst hsz
  have hD := hD0.self (sz := s.heap.size)
  generalize hAe : va_A [(x, .inr (4, [.ref lb, .ref lr, .ref lk, .ref pn, .ref pp, .ref pq, .int 8, .float FP.fconst1, .float 1031798784, .int 0, .int 1, .int stp, .int 0, .ref wo, .ref re, .ref fr])), (lb, .inr (0, [.int 0, .ref ad, .int 0]))] s.heap.size = A at hD hE ⊢
  have hA : ∀ q : Nat, s.heap.size ≤ q → A q := fun q h => by rw [← hAe]; exact Or.inr h
  have hS : va_S A s.heap s.heap [] := va_S.rf
  have hP : va_P (dC, dI) vwCl [(x, .inr (4, [.ref lb, .ref lr, .ref lk, .ref pn, .ref pp, .ref pq, .int 8, .float FP.fconst1, .float 1031798784, .int 0, .int 1, .int stp, .int 0, .ref wo, .ref re, .ref fr])), (lb, .inr (0, [.int 0, .ref ad, .int 0]))] s.heap := hP
  have hl := lv_entry ([.ref x, .int i, .int j, .float a, .int k, .float b, .int k2]) (n := 9) (Nat.le_of_ble_eq_true rfl)
  rw [lg_entry_eq]
  generalize (lg_sl ([.ref x, .int i, .int j, .float a, .int k, .float b, .int k2]) ++ List.replicate (9 - (lg_sl ([.ref x, .int i, .int j, .float a, .int k, .float b, .int k2])).length) Slot.unset).toArray = ls at hl ⊢
  have hl : lv_has ls 9 [(0, .ref x), (1, .int i), (2, .int j), (3, .float a), (4, .int k), (5, .float b), (6, .int k2)] := hl
  refine lv_aload_n hx hb dX3_rub_0 rfl (lv_at hl 0 rfl) ?_
  refine lv_iload_n hx hb dX3_rub_1 rfl (lv_at hl 1 rfl) ?_
  refine lv_iload_n hx hb dX3_rub_2 rfl (lv_at hl 2 rfl) ?_
  refine kc_xn (wc := [(x, .inr (4, [.ref lb, .ref lr, .ref lk, .ref pn, .ref pp, .ref pq, .int 8, .float FP.fconst1, .float 1031798784, .int 0, .int 1, .int stp, .int 0, .ref wo, .ref re, .ref fr])), (lb, .inr (0, [.int 0, .ref ad, .int 0]))]) (wr := []) (vx_runV (As := [.int i, .int j]) (rest := []) ⟨hx, hb, hml, hown, hts⟩ (c_checkPair l dC dI ad _ x lb lr lk pn pp pq stp wo re fr i j hlt) (cwV 2 hts gX3_rub_X3_checkPair rfl rfl rfl (by decide +kernel) ⟨Nat.le_of_ble_eq_true rfl, Nat.le_of_ble_eq_true rfl⟩) (kc_preV hP hD hK hS hA hE [0, 1] rfl (by decide) [] rfl 0 rfl rfl) rfl rfl hl.1 rfl (lv_room (Nat.le_of_ble_eq_true rfl)) dX3_rub_3 ⟨Nat.le_of_ble_eq_true rfl, Nat.le_of_ble_eq_true rfl⟩) (fun _ _ _ h => h) hP hD hS hA [0, 1] [] rfl rfl (by decide) (by decide) (fun E ce q9 H locs hEX hP hD hS hce hcv hcl => ?_)
  exact vx_out (fun x h => (ht x h).elim) hlocks hce hcv hcl (fun t h1 h2 => ⟨(), trivial, hEX, hS.F h1⟩) hS.2.2 (Nat.le_of_ble_eq_true rfl) (Nat.le_of_ble_eq_true rfl)
set_option maxHeartbeats 4000000 in
set_option maxRecDepth 100000 in
theorem c_rowAt (l : Launch) (dC : Nat → ClassId) (dI : Nat → Nat → Nat) (ad sz : Nat) (x : Nat) (lb : Nat) (lr : Nat) (lk : Nat) (pn : Nat) (pp : Nat) (pq : Nat) (stp : Int32) (wo : Nat) (re : Nat) (fr : Nat) (i : Int32) (hlt : l.stackTraces = false) : vx_Met l yX3_rowAt wsX3_rowAt ({ frames := 6, cells := 1, slots := 6, locals := 82 } : Room) (va_Pc [.ref x, .int i] (kc_B (dC, dI) vwCl ad sz [(x, .inr (4, [.ref lb, .ref lr, .ref lk, .ref pn, .ref pp, .ref pq, .int 8, .float FP.fconst1, .float 1031798784, .int 0, .int 1, .int stp, .int 0, .ref wo, .ref re, .ref fr])), (lr, .inr (0, [.int 0, .ref ad, .int 0]))] [])) (fun _ _ _ _ => False) (kc_X (fun E => E = "java/lang/IndexOutOfBoundsException") (va_A [(x, .inr (4, [.ref lb, .ref lr, .ref lk, .ref pn, .ref pp, .ref pq, .int 8, .float FP.fconst1, .float 1031798784, .int 0, .int 1, .int stp, .int 0, .ref wo, .ref re, .ref fr])), (lr, .inr (0, [.int 0, .ref ad, .int 0]))] sz)) 1 6 (va_A [(x, .inr (4, [.ref lb, .ref lr, .ref lk, .ref pn, .ref pp, .ref pq, .int 8, .float FP.fconst1, .float 1031798784, .int 0, .int 1, .int stp, .int 0, .ref wo, .ref re, .ref fr])), (lr, .inr (0, [.int 0, .ref ad, .int 0]))] sz) := by
  refine vx_ofW (cc := cX3_rowAt) (maxL := 2) (ret := (some (.object "IslandSolver$Row"))) (by decide) rfl ?_
  intro p e s m args below meth c s₁ B hml ht hv
  obtain ⟨rfl, hsz, hP, hK, hD0, hE⟩ := hv
  have hx := B.exec
  have hb := B.bytes
  have hr := B.returns
  have hts := atoms_spec (ws := wsX3_rowAt) B.pre
  have hown : s.vm.findClass RX3 = some m.cls := findClass_of_methodNamed B.named
  have hlocks := B.notSynchronized
  have a_148 : ∀ w ∈ (vx_atS RX3 148 "java/lang/IndexOutOfBoundsException" ["java/lang/RuntimeException", "java/lang/Exception"]).filter goodWord, w ∈ wsX3_rowAt := fun _ h => List.mem_cons_of_mem _ (List.mem_append_right _ h)
  have i_X3 : ∀ w ∈ u_ws RX3 TX3 16, w ∈ wsX3_rowAt := (by decide +kernel)
  subst hsz
  have hD := hD0.self (sz := s.heap.size)
  generalize hAe : va_A [(x, .inr (4, [.ref lb, .ref lr, .ref lk, .ref pn, .ref pp, .ref pq, .int 8, .float FP.fconst1, .float 1031798784, .int 0, .int 1, .int stp, .int 0, .ref wo, .ref re, .ref fr])), (lr, .inr (0, [.int 0, .ref ad, .int 0]))] s.heap.size = A at hD hE ⊢
  have hA : ∀ q : Nat, s.heap.size ≤ q → A q := fun q h => by rw [← hAe]; exact Or.inr h
  have hS : va_S A s.heap s.heap [] := va_S.rf
  have hP : va_P (dC, dI) vwCl [(x, .inr (4, [.ref lb, .ref lr, .ref lk, .ref pn, .ref pp, .ref pq, .int 8, .float FP.fconst1, .float 1031798784, .int 0, .int 1, .int stp, .int 0, .ref wo, .ref re, .ref fr])), (lr, .inr (0, [.int 0, .ref ad, .int 0]))] s.heap := hP
  have hl := lv_entry ([.ref x, .int i]) (n := 2) (Nat.le_of_ble_eq_true rfl)
  rw [lg_entry_eq]
  generalize (lg_sl ([.ref x, .int i]) ++ List.replicate (2 - (lg_sl ([.ref x, .int i])).length) Slot.unset).toArray = ls at hl ⊢
  have hl : lv_has ls 2 [(0, .ref x), (1, .int i)] := hl
  refine lv_iload_n hx hb dX3_rowAt_0 rfl (lv_at hl 1 rfl) ?_
  refine lv_if_lt (tgt := 15) hx hb dX3_rowAt_1 (by decide) (fun c_1 => ?_) (fun c_1 => ?_)
  · obtain ⟨sa_2, hsa_2⟩ := hE.str 309 "there is no such row" (by decide +kernel)
    have hat : ∀ w ∈ (vx_atS RX3 148 "java/lang/IndexOutOfBoundsException" ["java/lang/RuntimeException", "java/lang/Exception"]), w.before _ s = true := vx_hat (B := kx_non "java/lang/IndexOutOfBoundsException") (fun w h => hts w (a_148 w h)) (by decide +kernel) (hE.non "java/lang/IndexOutOfBoundsException" (by decide +kernel))
    refine W.widen (k := 0) (n := 0) (Nat.le_of_ble_eq_true rfl) (Nat.le_of_ble_eq_true rfl) ?_
    exact vx_throwSW (A := A) (rest := []) hx hb hlt hown (by decide +kernel) (by decide +kernel) (hts (.classLink RX3 144 "java/lang/IndexOutOfBoundsException") (by decide +kernel)) (hts (.initialized "java/lang/IndexOutOfBoundsException") (by decide +kernel)) hsa_2 hat (by decide +kernel) hE.2.2.2.2.2.2.1 hE.2.2.2.2.2.2.2.1 hS (hl.1.trans hml.symm) dX3_rowAt_15 dX3_rowAt_18 dX3_rowAt_19 dX3_rowAt_22 dX3_rowAt_25 (fun x h => (ht x h).elim) (Nat.le_of_ble_eq_true rfl) (Nat.le_of_ble_eq_true rfl) (Nat.le_of_ble_eq_true rfl) (Nat.le_of_ble_eq_true rfl) hlocks (fun t hvm hz hk => ⟨(), trivial, rfl, Nat.le_trans hS.1 hz, fun q h1 h2 => (hk q (Nat.lt_of_lt_of_le h1 hS.1)).trans (hS.2.1 q h1 h2)⟩) hS.2.2 (Nat.le_of_ble_eq_true rfl) (Nat.le_of_ble_eq_true rfl)
  · refine lv_iload_n hx hb dX3_rowAt_4 rfl (lv_at hl 1 rfl) ?_
    refine lv_aload_n hx hb dX3_rowAt_5 rfl (lv_at hl 0 rfl) ?_
    refine va_get (D := (dC, dI)) (ci := 4) (v := .ref lr) (C := RX3) (T := TX3) (N := 16) hx hb hts i_X3 hown hK hP 0 rfl rfl 1 (by decide) (hts (.fieldLink RX3 16 "IslandSolver" "rows" "Ljava/util/ArrayList;") (by decide +kernel)) (fun _ h9 => h9) rfl dX3_rowAt_6 ?_
    refine kc_calli (wc := [(lr, .inr (0, [.int 0, .ref ad, .int 0]))]) (wr := [(x, .inr (4, [.ref lb, .ref lr, .ref lk, .ref pn, .ref pp, .ref pq, .int 8, .float FP.fconst1, .float 1031798784, .int 0, .int 1, .int stp, .int 0, .ref wo, .ref re, .ref fr]))]) (tyr := []) (va_runV (As := []) (rest := [.int i]) ⟨hx, hb, hml, hown, hts⟩ (c_size l dC dI ad _ lr 0 ad 0) (cwV 0 hts gX3_rowAt_Jx4a65c_size_8abf5 rfl rfl rfl (by decide +kernel) ⟨Nat.le_of_ble_eq_true rfl, Nat.le_of_ble_eq_true rfl⟩) (kc_preV hP hD hK hS hA hE [1] rfl (by decide) [] rfl 1 rfl rfl) rfl rfl hl.1 rfl (lv_room (Nat.le_of_ble_eq_true rfl)) dX3_rowAt_9 ⟨Nat.le_of_ble_eq_true rfl, Nat.le_of_ble_eq_true rfl⟩) hP hD hK hS hA [1] [0] rfl rfl (by decide) (by decide) [] rfl (fun r_3 u H locs hw hP hD hK hS => ?_)
    subst hw
    have hP : va_P (dC, dI) vwCl [(x, .inr (4, [.ref lb, .ref lr, .ref lk, .ref pn, .ref pp, .ref pq, .int 8, .float FP.fconst1, .float 1031798784, .int 0, .int 1, .int stp, .int 0, .ref wo, .ref re, .ref fr])), (lr, .inr (0, [.int 0, .ref ad, .int 0]))] H := hP
    have hD : va_D A [(x, .inr (4, [.ref lb, .ref lr, .ref lk, .ref pn, .ref pp, .ref pq, .int 8, .float FP.fconst1, .float 1031798784, .int 0, .int 1, .int stp, .int 0, .ref wo, .ref re, .ref fr])), (lr, .inr (0, [.int 0, .ref ad, .int 0]))] := hD
    have hK : va_K (dC, dI) vwCl [] s := hK.sub [] rfl
    refine lv_icmp_lt (tgt := 26) hx hb dX3_rowAt_12 (by decide) (fun c_4 => ?_) (fun c_4 => ?_)
    · exact absurd c_4 c_1
    · obtain ⟨sa_5, hsa_5⟩ := hE.str 309 "there is no such row" (by decide +kernel)
      have hat : ∀ w ∈ (vx_atS RX3 148 "java/lang/IndexOutOfBoundsException" ["java/lang/RuntimeException", "java/lang/Exception"]), w.before _ s = true := vx_hat (B := kx_non "java/lang/IndexOutOfBoundsException") (fun w h => hts w (a_148 w h)) (by decide +kernel) (hE.non "java/lang/IndexOutOfBoundsException" (by decide +kernel))
      refine W.widen (k := 0) (n := 0) (Nat.le_of_ble_eq_true rfl) (Nat.le_of_ble_eq_true rfl) ?_
      exact vx_throwSW (A := A) (rest := []) hx hb hlt hown (by decide +kernel) (by decide +kernel) (hts (.classLink RX3 144 "java/lang/IndexOutOfBoundsException") (by decide +kernel)) (hts (.initialized "java/lang/IndexOutOfBoundsException") (by decide +kernel)) hsa_5 hat (by decide +kernel) hE.2.2.2.2.2.2.1 hE.2.2.2.2.2.2.2.1 hS (hl.1.trans hml.symm) dX3_rowAt_15 dX3_rowAt_18 dX3_rowAt_19 dX3_rowAt_22 dX3_rowAt_25 (fun x h => (ht x h).elim) (Nat.le_of_ble_eq_true rfl) (Nat.le_of_ble_eq_true rfl) (Nat.le_of_ble_eq_true rfl) (Nat.le_of_ble_eq_true rfl) hlocks (fun t hvm hz hk => ⟨(), trivial, rfl, Nat.le_trans hS.1 hz, fun q h1 h2 => (hk q (Nat.lt_of_lt_of_le h1 hS.1)).trans (hS.2.1 q h1 h2)⟩) hS.2.2 (Nat.le_of_ble_eq_true rfl) (Nat.le_of_ble_eq_true rfl)
set_option maxHeartbeats 4000000 in
set_option maxRecDepth 100000 in
theorem c_ofRow (l : Launch) (dC : Nat → ClassId) (dI : Nat → Nat → Nat) (ad sz : Nat) (x : Nat) (lb : Nat) (lr : Nat) (lk : Nat) (pn : Nat) (pp : Nat) (pq : Nat) (stp : Int32) (wo : Nat) (re : Nat) (fr : Nat) (i : Int32) (j : Int32) (hlt : l.stackTraces = false) : vx_Met l yX3_ofRow wsX3_ofRow ({ frames := 7, cells := 1, slots := 6, locals := 103 } : Room) (va_Pc [.ref x, .int i, .int j] (kc_B (dC, dI) vwCl ad sz [(x, .inr (4, [.ref lb, .ref lr, .ref lk, .ref pn, .ref pp, .ref pq, .int 8, .float FP.fconst1, .float 1031798784, .int 0, .int 1, .int stp, .int 0, .ref wo, .ref re, .ref fr])), (lr, .inr (0, [.int 0, .ref ad, .int 0]))] [])) (fun _ _ _ _ => False) (kc_X (fun E => E = "java/lang/IndexOutOfBoundsException") (va_A [(x, .inr (4, [.ref lb, .ref lr, .ref lk, .ref pn, .ref pp, .ref pq, .int 8, .float FP.fconst1, .float 1031798784, .int 0, .int 1, .int stp, .int 0, .ref wo, .ref re, .ref fr])), (lr, .inr (0, [.int 0, .ref ad, .int 0]))] sz)) 1 6 (va_A [(x, .inr (4, [.ref lb, .ref lr, .ref lk, .ref pn, .ref pp, .ref pq, .int 8, .float FP.fconst1, .float 1031798784, .int 0, .int 1, .int stp, .int 0, .ref wo, .ref re, .ref fr])), (lr, .inr (0, [.int 0, .ref ad, .int 0]))] sz) := by
  refine vx_ofW (cc := cX3_ofRow) (maxL := 4) (ret := (some .float)) (by decide) rfl ?_
  intro p e s m args below meth c s₁ B hml ht hv
  obtain ⟨rfl, hsz, hP, hK, hD0, hE⟩ := hv
  have hx := B.exec
  have hb := B.bytes
  have hr := B.returns
  have hts := atoms_spec (ws := wsX3_ofRow) B.pre
  have hown : s.vm.findClass RX3 = some m.cls := findClass_of_methodNamed B.named
  have hlocks := B.notSynchronized
  subst hsz
  have hD := hD0.self (sz := s.heap.size)
  generalize hAe : va_A [(x, .inr (4, [.ref lb, .ref lr, .ref lk, .ref pn, .ref pp, .ref pq, .int 8, .float FP.fconst1, .float 1031798784, .int 0, .int 1, .int stp, .int 0, .ref wo, .ref re, .ref fr])), (lr, .inr (0, [.int 0, .ref ad, .int 0]))] s.heap.size = A at hD hE ⊢
  have hA : ∀ q : Nat, s.heap.size ≤ q → A q := fun q h => by rw [← hAe]; exact Or.inr h
  have hS : va_S A s.heap s.heap [] := va_S.rf
  have hP : va_P (dC, dI) vwCl [(x, .inr (4, [.ref lb, .ref lr, .ref lk, .ref pn, .ref pp, .ref pq, .int 8, .float FP.fconst1, .float 1031798784, .int 0, .int 1, .int stp, .int 0, .ref wo, .ref re, .ref fr])), (lr, .inr (0, [.int 0, .ref ad, .int 0]))] s.heap := hP
  have hl := lv_entry ([.ref x, .int i, .int j]) (n := 4) (Nat.le_of_ble_eq_true rfl)
  rw [lg_entry_eq]
  generalize (lg_sl ([.ref x, .int i, .int j]) ++ List.replicate (4 - (lg_sl ([.ref x, .int i, .int j])).length) Slot.unset).toArray = ls at hl ⊢
  have hl : lv_has ls 4 [(0, .ref x), (1, .int i), (2, .int j)] := hl
  refine lv_aload_n hx hb dX3_ofRow_0 rfl (lv_at hl 0 rfl) ?_
  refine lv_iload_n hx hb dX3_ofRow_1 rfl (lv_at hl 1 rfl) ?_
  refine kc_xn (wc := [(x, .inr (4, [.ref lb, .ref lr, .ref lk, .ref pn, .ref pp, .ref pq, .int 8, .float FP.fconst1, .float 1031798784, .int 0, .int 1, .int stp, .int 0, .ref wo, .ref re, .ref fr])), (lr, .inr (0, [.int 0, .ref ad, .int 0]))]) (wr := []) (vx_runV (As := [.int i]) (rest := []) ⟨hx, hb, hml, hown, hts⟩ (c_rowAt l dC dI ad _ x lb lr lk pn pp pq stp wo re fr i hlt) (cwV 1 hts gX3_ofRow_X3_rowAt rfl rfl rfl (by decide +kernel) ⟨Nat.le_of_ble_eq_true rfl, Nat.le_of_ble_eq_true rfl⟩) (kc_preV hP hD hK hS hA hE [0, 1] rfl (by decide) [] rfl 0 rfl rfl) rfl rfl hl.1 rfl (lv_room (Nat.le_of_ble_eq_true rfl)) dX3_ofRow_2 ⟨Nat.le_of_ble_eq_true rfl, Nat.le_of_ble_eq_true rfl⟩) (fun _ _ _ h => h) hP hD hS hA [0, 1] [] rfl rfl (by decide) (by decide) (fun E ce q9 H locs hEX hP hD hS hce hcv hcl => ?_)
  exact vx_out (fun x h => (ht x h).elim) hlocks hce hcv hcl (fun t h1 h2 => ⟨(), trivial, hEX, hS.F h1⟩) hS.2.2 (Nat.le_of_ble_eq_true rfl) (Nat.le_of_ble_eq_true rfl)
