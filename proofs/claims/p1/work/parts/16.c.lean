set_option maxHeartbeats 4000000 in
set_option maxRecDepth 100000 in
theorem c_numberIslands (l : Launch) (dC : Nat → ClassId) (dI : Nat → Nat → Nat) (ad sz : Nat) (x : Nat) (lb : Nat) (lr : Nat) (lk : Nat) (pn : Nat) (pp : Nat) (pq : Nat) (stp : Int32) (wo : Nat) (re : Nat) (fr : Nat) : Met l yX3_numberIslands wsX3_numberIslands ({ frames := 1, cells := 0, slots := 0, locals := 20 } : Room) (va_Pc [.ref x] (kc_B (dC, dI) vwCl ad sz [(x, .inr (4, [.ref lb, .ref lr, .ref lk, .ref pn, .ref pp, .ref pq, .int 8, .float FP.fconst1, .float 1031798784, .int 0, .int 1, .int stp, .int 0, .ref wo, .ref re, .ref fr])), (lb, .inr (0, [.int 0, .ref ad, .int 0]))] [])) (va_Qv (fun _ => True) (kc_R (S := Unit) (dC, dI) vwCl (va_A [(x, .inr (4, [.ref lb, .ref lr, .ref lk, .ref pn, .ref pp, .ref pq, .int 8, .float FP.fconst1, .float 1031798784, .int 0, .int 1, .int stp, .int 0, .ref wo, .ref re, .ref fr])), (lb, .inr (0, [.int 0, .ref ad, .int 0]))] sz) (fun _ => [(x, .inr (4, [.ref lb, .ref lr, .ref lk, .ref pn, .ref pp, .ref pq, .int 8, .float FP.fconst1, .float 1031798784, .int 0, .int 1, .int stp, .int 0, .ref wo, .ref re, .ref fr])), (lb, .inr (0, [.int 0, .ref ad, .int 0]))]) (fun _ => [])) (va_A [(x, .inr (4, [.ref lb, .ref lr, .ref lk, .ref pn, .ref pp, .ref pq, .int 8, .float FP.fconst1, .float 1031798784, .int 0, .int 1, .int stp, .int 0, .ref wo, .ref re, .ref fr])), (lb, .inr (0, [.int 0, .ref ad, .int 0]))] sz)) 0 0 (va_A [(x, .inr (4, [.ref lb, .ref lr, .ref lk, .ref pn, .ref pp, .ref pq, .int 8, .float FP.fconst1, .float 1031798784, .int 0, .int 1, .int stp, .int 0, .ref wo, .ref re, .ref fr])), (lb, .inr (0, [.int 0, .ref ad, .int 0]))] sz) := by
  refine Met.ofW (cc := cX3_numberIslands) (maxL := 4) (ret := none) (by decide) rfl ?_
  intro p e s m args below meth c s₁ B hml hv
  obtain ⟨rfl, hsz, hP, hK, hD0, hE⟩ := hv
  have hx := B.exec
  have hb := B.bytes
  have hr := B.returns
  have hts := atoms_spec (ws := wsX3_numberIslands) B.pre
  have hown : s.vm.findClass RX3 = some m.cls := findClass_of_methodNamed B.named
  have hlocks := B.notSynchronized
  have i_X3 : ∀ w ∈ u_ws RX3 TX3 16, w ∈ wsX3_numberIslands := (by decide +kernel)
  subst hsz
  have hD := hD0.self (sz := s.heap.size)
  generalize hAe : va_A [(x, .inr (4, [.ref lb, .ref lr, .ref lk, .ref pn, .ref pp, .ref pq, .int 8, .float FP.fconst1, .float 1031798784, .int 0, .int 1, .int stp, .int 0, .ref wo, .ref re, .ref fr])), (lb, .inr (0, [.int 0, .ref ad, .int 0]))] s.heap.size = A at hD hE ⊢
  have hA : ∀ q : Nat, s.heap.size ≤ q → A q := fun q h => by rw [← hAe]; exact Or.inr h
  have hS : va_S A s.heap s.heap [] := va_S.rf
  have hP : va_P (dC, dI) vwCl [(x, .inr (4, [.ref lb, .ref lr, .ref lk, .ref pn, .ref pp, .ref pq, .int 8, .float FP.fconst1, .float 1031798784, .int 0, .int 1, .int stp, .int 0, .ref wo, .ref re, .ref fr])), (lb, .inr (0, [.int 0, .ref ad, .int 0]))] s.heap := hP
  have hl := lv_entry ([.ref x]) (n := 4) (Nat.le_of_ble_eq_true rfl)
  rw [lg_entry_eq]
  generalize (lg_sl ([.ref x]) ++ List.replicate (4 - (lg_sl ([.ref x])).length) Slot.unset).toArray = ls at hl ⊢
  have hl : lv_has ls 4 [(0, .ref x)] := hl
  refine lv_aload_n hx hb dX3_numberIslands_0 rfl (lv_at hl 0 rfl) ?_
  refine lv_iconst (v := 0) hx hb dX3_numberIslands_1 (by decide) ?_
  refine va_put (D := (dC, dI)) (ci := 4) (v := .int 0) (ty := .int) (C := RX3) (T := TX3) (N := 16) hx hb hts i_X3 tyX3 tyX3_ok nmX3 hown hK hP hD hS 0 rfl rfl 12 (by decide) (hts (.fieldLink RX3 56 "IslandSolver" "islandCount" "I") (by decide +kernel)) (fun _ h9 => h9) rfl (by decide +kernel) rfl rfl (Nat.le_of_ble_eq_true rfl) dX3_numberIslands_2 (fun H locs hP hD hS => ?_)
  have hP : va_P (dC, dI) vwCl [(x, .inr (4, [.ref lb, .ref lr, .ref lk, .ref pn, .ref pp, .ref pq, .int 8, .float FP.fconst1, .float 1031798784, .int 0, .int 1, .int stp, .int 0, .ref wo, .ref re, .ref fr])), (lb, .inr (0, [.int 0, .ref ad, .int 0]))] H := hP
  have hD : va_D A [(x, .inr (4, [.ref lb, .ref lr, .ref lk, .ref pn, .ref pp, .ref pq, .int 8, .float FP.fconst1, .float 1031798784, .int 0, .int 1, .int stp, .int 0, .ref wo, .ref re, .ref fr])), (lb, .inr (0, [.int 0, .ref ad, .int 0]))] := hD
  refine lv_iconst (v := 0) hx hb dX3_numberIslands_5 (by decide) ?_
  refine lv_istore_n (lv' := [(1, .int 0), (0, .ref x)]) hx hb dX3_numberIslands_6 rfl hl (by decide) rfl (fun ls hl => ?_)
  refine lv_iload_n hx hb dX3_numberIslands_7 rfl (lv_at hl 0 rfl) ?_
  refine lv_aload_n hx hb dX3_numberIslands_8 rfl (lv_at hl 1 rfl) ?_
  refine va_get (D := (dC, dI)) (ci := 4) (v := .ref lb) (C := RX3) (T := TX3) (N := 16) hx hb hts i_X3 hown hK hP 0 rfl rfl 0 (by decide) (hts (.fieldLink RX3 10 "IslandSolver" "bodies" "Ljava/util/ArrayList;") (by decide +kernel)) (fun _ h9 => h9) rfl dX3_numberIslands_9 ?_
  refine kc_calli (wc := [(lb, .inr (0, [.int 0, .ref ad, .int 0]))]) (wr := [(x, .inr (4, [.ref lb, .ref lr, .ref lk, .ref pn, .ref pp, .ref pq, .int 8, .float FP.fconst1, .float 1031798784, .int 0, .int 1, .int stp, .int 0, .ref wo, .ref re, .ref fr]))]) (tyr := []) (va_runV (As := []) (rest := [.int 0]) ⟨hx, hb, hml, hown, hts⟩ (c_size l dC dI ad _ lb 0 ad 0) (cwV 0 hts gX3_numberIslands_Jx4a65c_size_8abf5 rfl rfl rfl (by decide +kernel) ⟨Nat.le_of_ble_eq_true rfl, Nat.le_of_ble_eq_true rfl⟩) (kc_preV hP hD hK hS hA hE [1] rfl (by decide) [] rfl 1 rfl rfl) rfl rfl hl.1 rfl (lv_room (Nat.le_of_ble_eq_true rfl)) dX3_numberIslands_12 ⟨Nat.le_of_ble_eq_true rfl, Nat.le_of_ble_eq_true rfl⟩) hP hD hK hS hA [1] [0] rfl rfl (by decide) (by decide) [] rfl (fun r_1 u H locs hw hP hD hK hS => ?_)
  subst hw
  have hP : va_P (dC, dI) vwCl [(x, .inr (4, [.ref lb, .ref lr, .ref lk, .ref pn, .ref pp, .ref pq, .int 8, .float FP.fconst1, .float 1031798784, .int 0, .int 1, .int stp, .int 0, .ref wo, .ref re, .ref fr])), (lb, .inr (0, [.int 0, .ref ad, .int 0]))] H := hP
  have hD : va_D A [(x, .inr (4, [.ref lb, .ref lr, .ref lk, .ref pn, .ref pp, .ref pq, .int 8, .float FP.fconst1, .float 1031798784, .int 0, .int 1, .int stp, .int 0, .ref wo, .ref re, .ref fr])), (lb, .inr (0, [.int 0, .ref ad, .int 0]))] := hD
  have hK : va_K (dC, dI) vwCl [] s := hK.sub [] rfl
  refine lv_icmp_ge (tgt := 82) hx hb dX3_numberIslands_15 (by decide) (fun _ => ?_) (fun h9 => absurd h9 (by decide))
  refine W.widen (k := 0) (n := 0) (Nat.le_of_ble_eq_true rfl) (Nat.le_of_ble_eq_true rfl) ?_
  have hP9 := hP.sub (ws' := [(x, .inr (4, [.ref lb, .ref lr, .ref lk, .ref pn, .ref pp, .ref pq, .int 8, .float FP.fconst1, .float 1031798784, .int 0, .int 1, .int stp, .int 0, .ref wo, .ref re, .ref fr])), (lb, .inr (0, [.int 0, .ref ad, .int 0]))]) [0, 1] rfl
  have hD9 := hD.sub (ws' := [(x, .inr (4, [.ref lb, .ref lr, .ref lk, .ref pn, .ref pp, .ref pq, .int 8, .float FP.fconst1, .float 1031798784, .int 0, .int 1, .int stp, .int 0, .ref wo, .ref re, .ref fr])), (lb, .inr (0, [.int 0, .ref ad, .int 0]))]) [0, 1] (by decide) rfl
  have hK9 := hK.sub (tys' := []) [] rfl
  exact W.vret hx hb hr (fun t ht hW => ⟨⟨(), rfl, trivial, by rw [ht]; exact hP9, va_K.moved hW.alike hK9, hD9⟩, hS.F ht⟩) hS.2.2 dX3_numberIslands_82
set_option maxHeartbeats 4000000 in
set_option maxRecDepth 100000 in
theorem c_measureRows (l : Launch) (dC : Nat → ClassId) (dI : Nat → Nat → Nat) (ad sz : Nat) (x : Nat) (lb : Nat) (lr : Nat) (lk : Nat) (pn : Nat) (pp : Nat) (pq : Nat) (stp : Int32) (wo : Nat) (re : Nat) (fr : Nat) : Met l yX3_measureRows wsX3_measureRows ({ frames := 1, cells := 0, slots := 0, locals := 20 } : Room) (va_Pc [.ref x] (kc_B (dC, dI) vwCl ad sz [(x, .inr (4, [.ref lb, .ref lr, .ref lk, .ref pn, .ref pp, .ref pq, .int 8, .float FP.fconst1, .float 1031798784, .int 0, .int 1, .int stp, .int 0, .ref wo, .ref re, .ref fr])), (lr, .inr (0, [.int 0, .ref ad, .int 0]))] [])) (va_Qv (fun _ => True) (kc_R (S := Unit) (dC, dI) vwCl (va_A [(x, .inr (4, [.ref lb, .ref lr, .ref lk, .ref pn, .ref pp, .ref pq, .int 8, .float FP.fconst1, .float 1031798784, .int 0, .int 1, .int stp, .int 0, .ref wo, .ref re, .ref fr])), (lr, .inr (0, [.int 0, .ref ad, .int 0]))] sz) (fun _ => [(x, .inr (4, [.ref lb, .ref lr, .ref lk, .ref pn, .ref pp, .ref pq, .int 8, .float FP.fconst1, .float 1031798784, .int 0, .int 1, .int stp, .int 0, .ref wo, .ref re, .ref fr])), (lr, .inr (0, [.int 0, .ref ad, .int 0]))]) (fun _ => [])) (va_A [(x, .inr (4, [.ref lb, .ref lr, .ref lk, .ref pn, .ref pp, .ref pq, .int 8, .float FP.fconst1, .float 1031798784, .int 0, .int 1, .int stp, .int 0, .ref wo, .ref re, .ref fr])), (lr, .inr (0, [.int 0, .ref ad, .int 0]))] sz)) 0 0 (va_A [(x, .inr (4, [.ref lb, .ref lr, .ref lk, .ref pn, .ref pp, .ref pq, .int 8, .float FP.fconst1, .float 1031798784, .int 0, .int 1, .int stp, .int 0, .ref wo, .ref re, .ref fr])), (lr, .inr (0, [.int 0, .ref ad, .int 0]))] sz) := by
  refine Met.ofW (cc := cX3_measureRows) (maxL := 2) (ret := none) (by decide) rfl ?_
  intro p e s m args below meth c s₁ B hml hv
  obtain ⟨rfl, hsz, hP, hK, hD0, hE⟩ := hv
  have hx := B.exec
  have hb := B.bytes
  have hr := B.returns
  have hts := atoms_spec (ws := wsX3_measureRows) B.pre
  have hown : s.vm.findClass RX3 = some m.cls := findClass_of_methodNamed B.named
  have hlocks := B.notSynchronized
  have i_X3 : ∀ w ∈ u_ws RX3 TX3 16, w ∈ wsX3_measureRows := (by decide +kernel)
  subst hsz
  have hD := hD0.self (sz := s.heap.size)
  generalize hAe : va_A [(x, .inr (4, [.ref lb, .ref lr, .ref lk, .ref pn, .ref pp, .ref pq, .int 8, .float FP.fconst1, .float 1031798784, .int 0, .int 1, .int stp, .int 0, .ref wo, .ref re, .ref fr])), (lr, .inr (0, [.int 0, .ref ad, .int 0]))] s.heap.size = A at hD hE ⊢
  have hA : ∀ q : Nat, s.heap.size ≤ q → A q := fun q h => by rw [← hAe]; exact Or.inr h
  have hS : va_S A s.heap s.heap [] := va_S.rf
  have hP : va_P (dC, dI) vwCl [(x, .inr (4, [.ref lb, .ref lr, .ref lk, .ref pn, .ref pp, .ref pq, .int 8, .float FP.fconst1, .float 1031798784, .int 0, .int 1, .int stp, .int 0, .ref wo, .ref re, .ref fr])), (lr, .inr (0, [.int 0, .ref ad, .int 0]))] s.heap := hP
  have hl := lv_entry ([.ref x]) (n := 2) (Nat.le_of_ble_eq_true rfl)
  rw [lg_entry_eq]
  generalize (lg_sl ([.ref x]) ++ List.replicate (2 - (lg_sl ([.ref x])).length) Slot.unset).toArray = ls at hl ⊢
  have hl : lv_has ls 2 [(0, .ref x)] := hl
  refine lv_iconst (v := 0) hx hb dX3_measureRows_0 (by decide) ?_
  refine lv_istore_n (lv' := [(1, .int 0), (0, .ref x)]) hx hb dX3_measureRows_1 rfl hl (by decide) rfl (fun ls hl => ?_)
  refine lv_iload_n hx hb dX3_measureRows_2 rfl (lv_at hl 0 rfl) ?_
  refine lv_aload_n hx hb dX3_measureRows_3 rfl (lv_at hl 1 rfl) ?_
  refine va_get (D := (dC, dI)) (ci := 4) (v := .ref lr) (C := RX3) (T := TX3) (N := 16) hx hb hts i_X3 hown hK hP 0 rfl rfl 1 (by decide) (hts (.fieldLink RX3 16 "IslandSolver" "rows" "Ljava/util/ArrayList;") (by decide +kernel)) (fun _ h9 => h9) rfl dX3_measureRows_4 ?_
  refine kc_calli (wc := [(lr, .inr (0, [.int 0, .ref ad, .int 0]))]) (wr := [(x, .inr (4, [.ref lb, .ref lr, .ref lk, .ref pn, .ref pp, .ref pq, .int 8, .float FP.fconst1, .float 1031798784, .int 0, .int 1, .int stp, .int 0, .ref wo, .ref re, .ref fr]))]) (tyr := []) (va_runV (As := []) (rest := [.int 0]) ⟨hx, hb, hml, hown, hts⟩ (c_size l dC dI ad _ lr 0 ad 0) (cwV 0 hts gX3_measureRows_Jx4a65c_size_8abf5 rfl rfl rfl (by decide +kernel) ⟨Nat.le_of_ble_eq_true rfl, Nat.le_of_ble_eq_true rfl⟩) (kc_preV hP hD hK hS hA hE [1] rfl (by decide) [] rfl 1 rfl rfl) rfl rfl hl.1 rfl (lv_room (Nat.le_of_ble_eq_true rfl)) dX3_measureRows_7 ⟨Nat.le_of_ble_eq_true rfl, Nat.le_of_ble_eq_true rfl⟩) hP hD hK hS hA [1] [0] rfl rfl (by decide) (by decide) [] rfl (fun r_1 u H locs hw hP hD hK hS => ?_)
  subst hw
  have hP : va_P (dC, dI) vwCl [(x, .inr (4, [.ref lb, .ref lr, .ref lk, .ref pn, .ref pp, .ref pq, .int 8, .float FP.fconst1, .float 1031798784, .int 0, .int 1, .int stp, .int 0, .ref wo, .ref re, .ref fr])), (lr, .inr (0, [.int 0, .ref ad, .int 0]))] H := hP
  have hD : va_D A [(x, .inr (4, [.ref lb, .ref lr, .ref lk, .ref pn, .ref pp, .ref pq, .int 8, .float FP.fconst1, .float 1031798784, .int 0, .int 1, .int stp, .int 0, .ref wo, .ref re, .ref fr])), (lr, .inr (0, [.int 0, .ref ad, .int 0]))] := hD
  have hK : va_K (dC, dI) vwCl [] s := hK.sub [] rfl
  refine lv_icmp_ge (tgt := 33) hx hb dX3_measureRows_10 (by decide) (fun _ => ?_) (fun h9 => absurd h9 (by decide))
  refine W.widen (k := 0) (n := 0) (Nat.le_of_ble_eq_true rfl) (Nat.le_of_ble_eq_true rfl) ?_
  have hP9 := hP.sub (ws' := [(x, .inr (4, [.ref lb, .ref lr, .ref lk, .ref pn, .ref pp, .ref pq, .int 8, .float FP.fconst1, .float 1031798784, .int 0, .int 1, .int stp, .int 0, .ref wo, .ref re, .ref fr])), (lr, .inr (0, [.int 0, .ref ad, .int 0]))]) [0, 1] rfl
  have hD9 := hD.sub (ws' := [(x, .inr (4, [.ref lb, .ref lr, .ref lk, .ref pn, .ref pp, .ref pq, .int 8, .float FP.fconst1, .float 1031798784, .int 0, .int 1, .int stp, .int 0, .ref wo, .ref re, .ref fr])), (lr, .inr (0, [.int 0, .ref ad, .int 0]))]) [0, 1] (by decide) rfl
  have hK9 := hK.sub (tys' := []) [] rfl
  exact W.vret hx hb hr (fun t ht hW => ⟨⟨(), rfl, trivial, by rw [ht]; exact hP9, va_K.moved hW.alike hK9, hD9⟩, hS.F ht⟩) hS.2.2 dX3_measureRows_33
set_option maxHeartbeats 4000000 in
set_option maxRecDepth 100000 in
theorem c_markAwake (l : Launch) (dC : Nat → ClassId) (dI : Nat → Nat → Nat) (ad sz : Nat) (x : Nat) (lb : Nat) (lr : Nat) (lk : Nat) (pn : Nat) (pp : Nat) (pq : Nat) (stp : Int32) (wo : Nat) (re : Nat) (fr : Nat) : Met l yX3_markAwake wsX3_markAwake ({ frames := 1, cells := 0, slots := 0, locals := 20 } : Room) (va_Pc [.ref x] (kc_B (dC, dI) vwCl ad sz [(x, .inr (4, [.ref lb, .ref lr, .ref lk, .ref pn, .ref pp, .ref pq, .int 8, .float FP.fconst1, .float 1031798784, .int 0, .int 1, .int stp, .int 0, .ref wo, .ref re, .ref fr])), (lb, .inr (0, [.int 0, .ref ad, .int 0]))] [])) (va_Qv (fun _ => True) (kc_R (S := Unit) (dC, dI) vwCl (va_A [(x, .inr (4, [.ref lb, .ref lr, .ref lk, .ref pn, .ref pp, .ref pq, .int 8, .float FP.fconst1, .float 1031798784, .int 0, .int 1, .int stp, .int 0, .ref wo, .ref re, .ref fr])), (lb, .inr (0, [.int 0, .ref ad, .int 0]))] sz) (fun _ => [(x, .inr (4, [.ref lb, .ref lr, .ref lk, .ref pn, .ref pp, .ref pq, .int 8, .float FP.fconst1, .float 1031798784, .int 0, .int 1, .int stp, .int 0, .ref wo, .ref re, .ref fr])), (lb, .inr (0, [.int 0, .ref ad, .int 0]))]) (fun _ => [])) (va_A [(x, .inr (4, [.ref lb, .ref lr, .ref lk, .ref pn, .ref pp, .ref pq, .int 8, .float FP.fconst1, .float 1031798784, .int 0, .int 1, .int stp, .int 0, .ref wo, .ref re, .ref fr])), (lb, .inr (0, [.int 0, .ref ad, .int 0]))] sz)) 0 0 (va_A [(x, .inr (4, [.ref lb, .ref lr, .ref lk, .ref pn, .ref pp, .ref pq, .int 8, .float FP.fconst1, .float 1031798784, .int 0, .int 1, .int stp, .int 0, .ref wo, .ref re, .ref fr])), (lb, .inr (0, [.int 0, .ref ad, .int 0]))] sz) := by
  refine Met.ofW (cc := cX3_markAwake) (maxL := 3) (ret := none) (by decide) rfl ?_
  intro p e s m args below meth c s₁ B hml hv
  obtain ⟨rfl, hsz, hP, hK, hD0, hE⟩ := hv
  have hx := B.exec
  have hb := B.bytes
  have hr := B.returns
  have hts := atoms_spec (ws := wsX3_markAwake) B.pre
  have hown : s.vm.findClass RX3 = some m.cls := findClass_of_methodNamed B.named
  have hlocks := B.notSynchronized
  have i_X3 : ∀ w ∈ u_ws RX3 TX3 16, w ∈ wsX3_markAwake := (by decide +kernel)
  subst hsz
  have hD := hD0.self (sz := s.heap.size)
  generalize hAe : va_A [(x, .inr (4, [.ref lb, .ref lr, .ref lk, .ref pn, .ref pp, .ref pq, .int 8, .float FP.fconst1, .float 1031798784, .int 0, .int 1, .int stp, .int 0, .ref wo, .ref re, .ref fr])), (lb, .inr (0, [.int 0, .ref ad, .int 0]))] s.heap.size = A at hD hE ⊢
  have hA : ∀ q : Nat, s.heap.size ≤ q → A q := fun q h => by rw [← hAe]; exact Or.inr h
  have hS : va_S A s.heap s.heap [] := va_S.rf
  have hP : va_P (dC, dI) vwCl [(x, .inr (4, [.ref lb, .ref lr, .ref lk, .ref pn, .ref pp, .ref pq, .int 8, .float FP.fconst1, .float 1031798784, .int 0, .int 1, .int stp, .int 0, .ref wo, .ref re, .ref fr])), (lb, .inr (0, [.int 0, .ref ad, .int 0]))] s.heap := hP
  have hl := lv_entry ([.ref x]) (n := 3) (Nat.le_of_ble_eq_true rfl)
  rw [lg_entry_eq]
  generalize (lg_sl ([.ref x]) ++ List.replicate (3 - (lg_sl ([.ref x])).length) Slot.unset).toArray = ls at hl ⊢
  have hl : lv_has ls 3 [(0, .ref x)] := hl
  refine lv_iconst (v := 0) hx hb dX3_markAwake_0 (by decide) ?_
  refine lv_istore_n (lv' := [(1, .int 0), (0, .ref x)]) hx hb dX3_markAwake_1 rfl hl (by decide) rfl (fun ls hl => ?_)
  refine lv_iload_n hx hb dX3_markAwake_2 rfl (lv_at hl 0 rfl) ?_
  refine lv_aload_n hx hb dX3_markAwake_3 rfl (lv_at hl 1 rfl) ?_
  refine va_get (D := (dC, dI)) (ci := 4) (v := .int 0) (C := RX3) (T := TX3) (N := 16) hx hb hts i_X3 hown hK hP 0 rfl rfl 12 (by decide) (hts (.fieldLink RX3 56 "IslandSolver" "islandCount" "I") (by decide +kernel)) (fun _ h9 => h9) rfl dX3_markAwake_4 ?_
  refine lv_icmp_ge (tgt := 23) hx hb dX3_markAwake_7 (by decide) (fun _ => ?_) (fun h9 => absurd h9 (by decide))
  refine lv_iconst (v := 0) hx hb dX3_markAwake_23 (by decide) ?_
  refine lv_istore_n (lv' := [(1, .int 0), (0, .ref x)]) hx hb dX3_markAwake_24 rfl hl (by decide) rfl (fun ls hl => ?_)
  refine lv_iload_n hx hb dX3_markAwake_25 rfl (lv_at hl 0 rfl) ?_
  refine lv_aload_n hx hb dX3_markAwake_26 rfl (lv_at hl 1 rfl) ?_
  refine va_get (D := (dC, dI)) (ci := 4) (v := .ref lb) (C := RX3) (T := TX3) (N := 16) hx hb hts i_X3 hown hK hP 0 rfl rfl 0 (by decide) (hts (.fieldLink RX3 10 "IslandSolver" "bodies" "Ljava/util/ArrayList;") (by decide +kernel)) (fun _ h9 => h9) rfl dX3_markAwake_27 ?_
  refine kc_calli (wc := [(lb, .inr (0, [.int 0, .ref ad, .int 0]))]) (wr := [(x, .inr (4, [.ref lb, .ref lr, .ref lk, .ref pn, .ref pp, .ref pq, .int 8, .float FP.fconst1, .float 1031798784, .int 0, .int 1, .int stp, .int 0, .ref wo, .ref re, .ref fr]))]) (tyr := []) (va_runV (As := []) (rest := [.int 0]) ⟨hx, hb, hml, hown, hts⟩ (c_size l dC dI ad _ lb 0 ad 0) (cwV 0 hts gX3_markAwake_Jx4a65c_size_8abf5 rfl rfl rfl (by decide +kernel) ⟨Nat.le_of_ble_eq_true rfl, Nat.le_of_ble_eq_true rfl⟩) (kc_preV hP hD hK hS hA hE [1] rfl (by decide) [] rfl 1 rfl rfl) rfl rfl hl.1 rfl (lv_room (Nat.le_of_ble_eq_true rfl)) dX3_markAwake_30 ⟨Nat.le_of_ble_eq_true rfl, Nat.le_of_ble_eq_true rfl⟩) hP hD hK hS hA [1] [0] rfl rfl (by decide) (by decide) [] rfl (fun r_1 u H locs hw hP hD hK hS => ?_)
  subst hw
  have hP : va_P (dC, dI) vwCl [(x, .inr (4, [.ref lb, .ref lr, .ref lk, .ref pn, .ref pp, .ref pq, .int 8, .float FP.fconst1, .float 1031798784, .int 0, .int 1, .int stp, .int 0, .ref wo, .ref re, .ref fr])), (lb, .inr (0, [.int 0, .ref ad, .int 0]))] H := hP
  have hD : va_D A [(x, .inr (4, [.ref lb, .ref lr, .ref lk, .ref pn, .ref pp, .ref pq, .int 8, .float FP.fconst1, .float 1031798784, .int 0, .int 1, .int stp, .int 0, .ref wo, .ref re, .ref fr])), (lb, .inr (0, [.int 0, .ref ad, .int 0]))] := hD
  have hK : va_K (dC, dI) vwCl [] s := hK.sub [] rfl
  refine lv_icmp_ge (tgt := 82) hx hb dX3_markAwake_33 (by decide) (fun _ => ?_) (fun h9 => absurd h9 (by decide))
  refine W.widen (k := 0) (n := 0) (Nat.le_of_ble_eq_true rfl) (Nat.le_of_ble_eq_true rfl) ?_
  have hP9 := hP.sub (ws' := [(x, .inr (4, [.ref lb, .ref lr, .ref lk, .ref pn, .ref pp, .ref pq, .int 8, .float FP.fconst1, .float 1031798784, .int 0, .int 1, .int stp, .int 0, .ref wo, .ref re, .ref fr])), (lb, .inr (0, [.int 0, .ref ad, .int 0]))]) [0, 1] rfl
  have hD9 := hD.sub (ws' := [(x, .inr (4, [.ref lb, .ref lr, .ref lk, .ref pn, .ref pp, .ref pq, .int 8, .float FP.fconst1, .float 1031798784, .int 0, .int 1, .int stp, .int 0, .ref wo, .ref re, .ref fr])), (lb, .inr (0, [.int 0, .ref ad, .int 0]))]) [0, 1] (by decide) rfl
  have hK9 := hK.sub (tys' := []) [] rfl
  exact W.vret hx hb hr (fun t ht hW => ⟨⟨(), rfl, trivial, by rw [ht]; exact hP9, va_K.moved hW.alike hK9, hD9⟩, hS.F ht⟩) hS.2.2 dX3_markAwake_82
set_option maxHeartbeats 4000000 in
set_option maxRecDepth 100000 in
theorem c_awakeIslands (l : Launch) (dC : Nat → ClassId) (dI : Nat → Nat → Nat) (ad sz : Nat) (x : Nat) (lb : Nat) (lr : Nat) (lk : Nat) (pn : Nat) (pp : Nat) (pq : Nat) (stp : Int32) (wo : Nat) (re : Nat) (fr : Nat) : Met l yX3_awakeIslands wsX3_awakeIslands ({ frames := 0, cells := 0, slots := 0, locals := 0 } : Room) (va_Pc [.ref x] (kc_B (dC, dI) vwCl ad sz [(x, .inr (4, [.ref lb, .ref lr, .ref lk, .ref pn, .ref pp, .ref pq, .int 8, .float FP.fconst1, .float 1031798784, .int 0, .int 1, .int stp, .int 0, .ref wo, .ref re, .ref fr]))] [])) (va_Qi (fun r _ => r = 0) (kc_R (S := Unit) (dC, dI) vwCl (va_A [(x, .inr (4, [.ref lb, .ref lr, .ref lk, .ref pn, .ref pp, .ref pq, .int 8, .float FP.fconst1, .float 1031798784, .int 0, .int 1, .int stp, .int 0, .ref wo, .ref re, .ref fr]))] sz) (fun _ => [(x, .inr (4, [.ref lb, .ref lr, .ref lk, .ref pn, .ref pp, .ref pq, .int 8, .float FP.fconst1, .float 1031798784, .int 0, .int 1, .int stp, .int 0, .ref wo, .ref re, .ref fr]))]) (fun _ => [])) (va_A [(x, .inr (4, [.ref lb, .ref lr, .ref lk, .ref pn, .ref pp, .ref pq, .int 8, .float FP.fconst1, .float 1031798784, .int 0, .int 1, .int stp, .int 0, .ref wo, .ref re, .ref fr]))] sz)) 0 0 (va_A [(x, .inr (4, [.ref lb, .ref lr, .ref lk, .ref pn, .ref pp, .ref pq, .int 8, .float FP.fconst1, .float 1031798784, .int 0, .int 1, .int stp, .int 0, .ref wo, .ref re, .ref fr]))] sz) := by
  refine Met.ofW (cc := cX3_awakeIslands) (maxL := 3) (ret := (some .int)) (by decide) rfl ?_
  intro p e s m args below meth c s₁ B hml hv
  obtain ⟨rfl, hsz, hP, hK, hD0, hE⟩ := hv
  have hx := B.exec
  have hb := B.bytes
  have hr := B.returns
  have hts := atoms_spec (ws := wsX3_awakeIslands) B.pre
  have hown : s.vm.findClass RX3 = some m.cls := findClass_of_methodNamed B.named
  have hlocks := B.notSynchronized
  have i_X3 : ∀ w ∈ u_ws RX3 TX3 16, w ∈ wsX3_awakeIslands := (by decide +kernel)
  subst hsz
  have hD := hD0.self (sz := s.heap.size)
  generalize hAe : va_A [(x, .inr (4, [.ref lb, .ref lr, .ref lk, .ref pn, .ref pp, .ref pq, .int 8, .float FP.fconst1, .float 1031798784, .int 0, .int 1, .int stp, .int 0, .ref wo, .ref re, .ref fr]))] s.heap.size = A at hD hE ⊢
  have hA : ∀ q : Nat, s.heap.size ≤ q → A q := fun q h => by rw [← hAe]; exact Or.inr h
  have hS : va_S A s.heap s.heap [] := va_S.rf
  have hP : va_P (dC, dI) vwCl [(x, .inr (4, [.ref lb, .ref lr, .ref lk, .ref pn, .ref pp, .ref pq, .int 8, .float FP.fconst1, .float 1031798784, .int 0, .int 1, .int stp, .int 0, .ref wo, .ref re, .ref fr]))] s.heap := hP
  have hl := lv_entry ([.ref x]) (n := 3) (Nat.le_of_ble_eq_true rfl)
  rw [lg_entry_eq]
  generalize (lg_sl ([.ref x]) ++ List.replicate (3 - (lg_sl ([.ref x])).length) Slot.unset).toArray = ls at hl ⊢
  have hl : lv_has ls 3 [(0, .ref x)] := hl
  refine lv_iconst (v := 0) hx hb dX3_awakeIslands_0 (by decide) ?_
  refine lv_istore_n (lv' := [(1, .int 0), (0, .ref x)]) hx hb dX3_awakeIslands_1 rfl hl (by decide) rfl (fun ls hl => ?_)
  refine lv_iconst (v := 0) hx hb dX3_awakeIslands_2 (by decide) ?_
  refine lv_istore_n (lv' := [(2, .int 0), (1, .int 0), (0, .ref x)]) hx hb dX3_awakeIslands_3 rfl hl (by decide) rfl (fun ls hl => ?_)
  refine lv_iload_n hx hb dX3_awakeIslands_4 rfl (lv_at hl 0 rfl) ?_
  refine lv_aload_n hx hb dX3_awakeIslands_5 rfl (lv_at hl 2 rfl) ?_
  refine va_get (D := (dC, dI)) (ci := 4) (v := .int 0) (C := RX3) (T := TX3) (N := 16) hx hb hts i_X3 hown hK hP 0 rfl rfl 12 (by decide) (hts (.fieldLink RX3 56 "IslandSolver" "islandCount" "I") (by decide +kernel)) (fun _ h9 => h9) rfl dX3_awakeIslands_6 ?_
  refine lv_icmp_ge (tgt := 31) hx hb dX3_awakeIslands_9 (by decide) (fun _ => ?_) (fun h9 => absurd h9 (by decide))
  refine lv_iload_n hx hb dX3_awakeIslands_31 rfl (lv_at hl 1 rfl) ?_
  refine W.widen (k := 0) (n := 0) (Nat.le_of_ble_eq_true rfl) (Nat.le_of_ble_eq_true rfl) ?_
  have hP9 := hP.sub (ws' := [(x, .inr (4, [.ref lb, .ref lr, .ref lk, .ref pn, .ref pp, .ref pq, .int 8, .float FP.fconst1, .float 1031798784, .int 0, .int 1, .int stp, .int 0, .ref wo, .ref re, .ref fr]))]) [0] rfl
  have hD9 := hD.sub (ws' := [(x, .inr (4, [.ref lb, .ref lr, .ref lk, .ref pn, .ref pp, .ref pq, .int 8, .float FP.fconst1, .float 1031798784, .int 0, .int 1, .int stp, .int 0, .ref wo, .ref re, .ref fr]))]) [0] (by decide) rfl
  have hK9 := hK.sub (tys' := []) [] rfl
  exact W.iret (v := 0) hx hb hr (fun t ht hW => ⟨⟨0, (), rfl, rfl, by rw [ht]; exact hP9, va_K.moved hW.alike hK9, hD9⟩, hS.F ht⟩) hS.2.2 dX3_awakeIslands_32
set_option maxHeartbeats 4000000 in
set_option maxRecDepth 100000 in
theorem c_rouseAwakeIslands (l : Launch) (dC : Nat → ClassId) (dI : Nat → Nat → Nat) (ad sz : Nat) (x : Nat) (lb : Nat) (lr : Nat) (lk : Nat) (pn : Nat) (pp : Nat) (pq : Nat) (stp : Int32) (wo : Nat) (re : Nat) (fr : Nat) : Met l yX3_rouseAwakeIslands wsX3_rouseAwakeIslands ({ frames := 1, cells := 0, slots := 0, locals := 20 } : Room) (va_Pc [.ref x] (kc_B (dC, dI) vwCl ad sz [(x, .inr (4, [.ref lb, .ref lr, .ref lk, .ref pn, .ref pp, .ref pq, .int 8, .float FP.fconst1, .float 1031798784, .int 0, .int 1, .int stp, .int 0, .ref wo, .ref re, .ref fr])), (lb, .inr (0, [.int 0, .ref ad, .int 0]))] [])) (va_Qv (fun _ => True) (kc_R (S := Unit) (dC, dI) vwCl (va_A [(x, .inr (4, [.ref lb, .ref lr, .ref lk, .ref pn, .ref pp, .ref pq, .int 8, .float FP.fconst1, .float 1031798784, .int 0, .int 1, .int stp, .int 0, .ref wo, .ref re, .ref fr])), (lb, .inr (0, [.int 0, .ref ad, .int 0]))] sz) (fun _ => [(x, .inr (4, [.ref lb, .ref lr, .ref lk, .ref pn, .ref pp, .ref pq, .int 8, .float FP.fconst1, .float 1031798784, .int 0, .int 1, .int stp, .int 0, .ref wo, .ref re, .ref fr])), (lb, .inr (0, [.int 0, .ref ad, .int 0]))]) (fun _ => [])) (va_A [(x, .inr (4, [.ref lb, .ref lr, .ref lk, .ref pn, .ref pp, .ref pq, .int 8, .float FP.fconst1, .float 1031798784, .int 0, .int 1, .int stp, .int 0, .ref wo, .ref re, .ref fr])), (lb, .inr (0, [.int 0, .ref ad, .int 0]))] sz)) 0 0 (va_A [(x, .inr (4, [.ref lb, .ref lr, .ref lk, .ref pn, .ref pp, .ref pq, .int 8, .float FP.fconst1, .float 1031798784, .int 0, .int 1, .int stp, .int 0, .ref wo, .ref re, .ref fr])), (lb, .inr (0, [.int 0, .ref ad, .int 0]))] sz) := by
  refine Met.ofW (cc := cX3_rouseAwakeIslands) (maxL := 3) (ret := none) (by decide) rfl ?_
  intro p e s m args below meth c s₁ B hml hv
  obtain ⟨rfl, hsz, hP, hK, hD0, hE⟩ := hv
  have hx := B.exec
  have hb := B.bytes
  have hr := B.returns
  have hts := atoms_spec (ws := wsX3_rouseAwakeIslands) B.pre
  have hown : s.vm.findClass RX3 = some m.cls := findClass_of_methodNamed B.named
  have hlocks := B.notSynchronized
  have i_X3 : ∀ w ∈ u_ws RX3 TX3 16, w ∈ wsX3_rouseAwakeIslands := (by decide +kernel)
  subst hsz
  have hD := hD0.self (sz := s.heap.size)
  generalize hAe : va_A [(x, .inr (4, [.ref lb, .ref lr, .ref lk, .ref pn, .ref pp, .ref pq, .int 8, .float FP.fconst1, .float 1031798784, .int 0, .int 1, .int stp, .int 0, .ref wo, .ref re, .ref fr])), (lb, .inr (0, [.int 0, .ref ad, .int 0]))] s.heap.size = A at hD hE ⊢
  have hA : ∀ q : Nat, s.heap.size ≤ q → A q := fun q h => by rw [← hAe]; exact Or.inr h
  have hS : va_S A s.heap s.heap [] := va_S.rf
  have hP : va_P (dC, dI) vwCl [(x, .inr (4, [.ref lb, .ref lr, .ref lk, .ref pn, .ref pp, .ref pq, .int 8, .float FP.fconst1, .float 1031798784, .int 0, .int 1, .int stp, .int 0, .ref wo, .ref re, .ref fr])), (lb, .inr (0, [.int 0, .ref ad, .int 0]))] s.heap := hP
  have hl := lv_entry ([.ref x]) (n := 3) (Nat.le_of_ble_eq_true rfl)
  rw [lg_entry_eq]
  generalize (lg_sl ([.ref x]) ++ List.replicate (3 - (lg_sl ([.ref x])).length) Slot.unset).toArray = ls at hl ⊢
  have hl : lv_has ls 3 [(0, .ref x)] := hl
  refine lv_iconst (v := 0) hx hb dX3_rouseAwakeIslands_0 (by decide) ?_
  refine lv_istore_n (lv' := [(1, .int 0), (0, .ref x)]) hx hb dX3_rouseAwakeIslands_1 rfl hl (by decide) rfl (fun ls hl => ?_)
  refine lv_iload_n hx hb dX3_rouseAwakeIslands_2 rfl (lv_at hl 0 rfl) ?_
  refine lv_aload_n hx hb dX3_rouseAwakeIslands_3 rfl (lv_at hl 1 rfl) ?_
  refine va_get (D := (dC, dI)) (ci := 4) (v := .ref lb) (C := RX3) (T := TX3) (N := 16) hx hb hts i_X3 hown hK hP 0 rfl rfl 0 (by decide) (hts (.fieldLink RX3 10 "IslandSolver" "bodies" "Ljava/util/ArrayList;") (by decide +kernel)) (fun _ h9 => h9) rfl dX3_rouseAwakeIslands_4 ?_
  refine kc_calli (wc := [(lb, .inr (0, [.int 0, .ref ad, .int 0]))]) (wr := [(x, .inr (4, [.ref lb, .ref lr, .ref lk, .ref pn, .ref pp, .ref pq, .int 8, .float FP.fconst1, .float 1031798784, .int 0, .int 1, .int stp, .int 0, .ref wo, .ref re, .ref fr]))]) (tyr := []) (va_runV (As := []) (rest := [.int 0]) ⟨hx, hb, hml, hown, hts⟩ (c_size l dC dI ad _ lb 0 ad 0) (cwV 0 hts gX3_rouseAwakeIslands_Jx4a65c_size_8abf5 rfl rfl rfl (by decide +kernel) ⟨Nat.le_of_ble_eq_true rfl, Nat.le_of_ble_eq_true rfl⟩) (kc_preV hP hD hK hS hA hE [1] rfl (by decide) [] rfl 1 rfl rfl) rfl rfl hl.1 rfl (lv_room (Nat.le_of_ble_eq_true rfl)) dX3_rouseAwakeIslands_7 ⟨Nat.le_of_ble_eq_true rfl, Nat.le_of_ble_eq_true rfl⟩) hP hD hK hS hA [1] [0] rfl rfl (by decide) (by decide) [] rfl (fun r_1 u H locs hw hP hD hK hS => ?_)
  subst hw
  have hP : va_P (dC, dI) vwCl [(x, .inr (4, [.ref lb, .ref lr, .ref lk, .ref pn, .ref pp, .ref pq, .int 8, .float FP.fconst1, .float 1031798784, .int 0, .int 1, .int stp, .int 0, .ref wo, .ref re, .ref fr])), (lb, .inr (0, [.int 0, .ref ad, .int 0]))] H := hP
  have hD : va_D A [(x, .inr (4, [.ref lb, .ref lr, .ref lk, .ref pn, .ref pp, .ref pq, .int 8, .float FP.fconst1, .float 1031798784, .int 0, .int 1, .int stp, .int 0, .ref wo, .ref re, .ref fr])), (lb, .inr (0, [.int 0, .ref ad, .int 0]))] := hD
  have hK : va_K (dC, dI) vwCl [] s := hK.sub [] rfl
  refine lv_icmp_ge (tgt := 54) hx hb dX3_rouseAwakeIslands_10 (by decide) (fun _ => ?_) (fun h9 => absurd h9 (by decide))
  refine W.widen (k := 0) (n := 0) (Nat.le_of_ble_eq_true rfl) (Nat.le_of_ble_eq_true rfl) ?_
  have hP9 := hP.sub (ws' := [(x, .inr (4, [.ref lb, .ref lr, .ref lk, .ref pn, .ref pp, .ref pq, .int 8, .float FP.fconst1, .float 1031798784, .int 0, .int 1, .int stp, .int 0, .ref wo, .ref re, .ref fr])), (lb, .inr (0, [.int 0, .ref ad, .int 0]))]) [0, 1] rfl
  have hD9 := hD.sub (ws' := [(x, .inr (4, [.ref lb, .ref lr, .ref lk, .ref pn, .ref pp, .ref pq, .int 8, .float FP.fconst1, .float 1031798784, .int 0, .int 1, .int stp, .int 0, .ref wo, .ref re, .ref fr])), (lb, .inr (0, [.int 0, .ref ad, .int 0]))]) [0, 1] (by decide) rfl
  have hK9 := hK.sub (tys' := []) [] rfl
  exact W.vret hx hb hr (fun t ht hW => ⟨⟨(), rfl, trivial, by rw [ht]; exact hP9, va_K.moved hW.alike hK9, hD9⟩, hS.F ht⟩) hS.2.2 dX3_rouseAwakeIslands_54
set_option maxHeartbeats 4000000 in
set_option maxRecDepth 100000 in
theorem c_dealOutIslands (l : Launch) (dC : Nat → ClassId) (dI : Nat → Nat → Nat) (ad sz : Nat) (x : Nat) (lb : Nat) (lr : Nat) (lk : Nat) (pn : Nat) (pp : Nat) (pq : Nat) (stp : Int32) (wo : Nat) (re : Nat) (fr : Nat) : Met l yX3_dealOutIslands wsX3_dealOutIslands ({ frames := 0, cells := 0, slots := 0, locals := 0 } : Room) (va_Pc [.ref x] (kc_B (dC, dI) vwCl ad sz [(x, .inr (4, [.ref lb, .ref lr, .ref lk, .ref pn, .ref pp, .ref pq, .int 8, .float FP.fconst1, .float 1031798784, .int 0, .int 1, .int stp, .int 0, .ref wo, .ref re, .ref fr]))] [])) (va_Qv (fun _ => True) (kc_R (S := Unit) (dC, dI) vwCl (va_A [(x, .inr (4, [.ref lb, .ref lr, .ref lk, .ref pn, .ref pp, .ref pq, .int 8, .float FP.fconst1, .float 1031798784, .int 0, .int 1, .int stp, .int 0, .ref wo, .ref re, .ref fr]))] sz) (fun _ => [(x, .inr (4, [.ref lb, .ref lr, .ref lk, .ref pn, .ref pp, .ref pq, .int 8, .float FP.fconst1, .float 1031798784, .int 0, .int 1, .int stp, .int 0, .ref wo, .ref re, .ref fr]))]) (fun _ => [])) (va_A [(x, .inr (4, [.ref lb, .ref lr, .ref lk, .ref pn, .ref pp, .ref pq, .int 8, .float FP.fconst1, .float 1031798784, .int 0, .int 1, .int stp, .int 0, .ref wo, .ref re, .ref fr]))] sz)) 0 0 (va_A [(x, .inr (4, [.ref lb, .ref lr, .ref lk, .ref pn, .ref pp, .ref pq, .int 8, .float FP.fconst1, .float 1031798784, .int 0, .int 1, .int stp, .int 0, .ref wo, .ref re, .ref fr]))] sz) := by
  refine Met.ofW (cc := cX3_dealOutIslands) (maxL := 3) (ret := none) (by decide) rfl ?_
  intro p e s m args below meth c s₁ B hml hv
  obtain ⟨rfl, hsz, hP, hK, hD0, hE⟩ := hv
  have hx := B.exec
  have hb := B.bytes
  have hr := B.returns
  have hts := atoms_spec (ws := wsX3_dealOutIslands) B.pre
  have hown : s.vm.findClass RX3 = some m.cls := findClass_of_methodNamed B.named
  have hlocks := B.notSynchronized
  have i_X3 : ∀ w ∈ u_ws RX3 TX3 16, w ∈ wsX3_dealOutIslands := (by decide +kernel)
  subst hsz
  have hD := hD0.self (sz := s.heap.size)
  generalize hAe : va_A [(x, .inr (4, [.ref lb, .ref lr, .ref lk, .ref pn, .ref pp, .ref pq, .int 8, .float FP.fconst1, .float 1031798784, .int 0, .int 1, .int stp, .int 0, .ref wo, .ref re, .ref fr]))] s.heap.size = A at hD hE ⊢
  have hA : ∀ q : Nat, s.heap.size ≤ q → A q := fun q h => by rw [← hAe]; exact Or.inr h
  have hS : va_S A s.heap s.heap [] := va_S.rf
  have hP : va_P (dC, dI) vwCl [(x, .inr (4, [.ref lb, .ref lr, .ref lk, .ref pn, .ref pp, .ref pq, .int 8, .float FP.fconst1, .float 1031798784, .int 0, .int 1, .int stp, .int 0, .ref wo, .ref re, .ref fr]))] s.heap := hP
  have hl := lv_entry ([.ref x]) (n := 3) (Nat.le_of_ble_eq_true rfl)
  rw [lg_entry_eq]
  generalize (lg_sl ([.ref x]) ++ List.replicate (3 - (lg_sl ([.ref x])).length) Slot.unset).toArray = ls at hl ⊢
  have hl : lv_has ls 3 [(0, .ref x)] := hl
  refine lv_iconst (v := 0) hx hb dX3_dealOutIslands_0 (by decide) ?_
  refine lv_istore_n (lv' := [(1, .int 0), (0, .ref x)]) hx hb dX3_dealOutIslands_1 rfl hl (by decide) rfl (fun ls hl => ?_)
  refine lv_iconst (v := 0) hx hb dX3_dealOutIslands_2 (by decide) ?_
  refine lv_istore_n (lv' := [(2, .int 0), (1, .int 0), (0, .ref x)]) hx hb dX3_dealOutIslands_3 rfl hl (by decide) rfl (fun ls hl => ?_)
  refine lv_iload_n hx hb dX3_dealOutIslands_4 rfl (lv_at hl 0 rfl) ?_
  refine lv_aload_n hx hb dX3_dealOutIslands_5 rfl (lv_at hl 2 rfl) ?_
  refine va_get (D := (dC, dI)) (ci := 4) (v := .int 0) (C := RX3) (T := TX3) (N := 16) hx hb hts i_X3 hown hK hP 0 rfl rfl 12 (by decide) (hts (.fieldLink RX3 56 "IslandSolver" "islandCount" "I") (by decide +kernel)) (fun _ h9 => h9) rfl dX3_dealOutIslands_6 ?_
  refine lv_icmp_ge (tgt := 53) hx hb dX3_dealOutIslands_9 (by decide) (fun _ => ?_) (fun h9 => absurd h9 (by decide))
  refine W.widen (k := 0) (n := 0) (Nat.le_of_ble_eq_true rfl) (Nat.le_of_ble_eq_true rfl) ?_
  have hP9 := hP.sub (ws' := [(x, .inr (4, [.ref lb, .ref lr, .ref lk, .ref pn, .ref pp, .ref pq, .int 8, .float FP.fconst1, .float 1031798784, .int 0, .int 1, .int stp, .int 0, .ref wo, .ref re, .ref fr]))]) [0] rfl
  have hD9 := hD.sub (ws' := [(x, .inr (4, [.ref lb, .ref lr, .ref lk, .ref pn, .ref pp, .ref pq, .int 8, .float FP.fconst1, .float 1031798784, .int 0, .int 1, .int stp, .int 0, .ref wo, .ref re, .ref fr]))]) [0] (by decide) rfl
  have hK9 := hK.sub (tys' := []) [] rfl
  exact W.vret hx hb hr (fun t ht hW => ⟨⟨(), rfl, trivial, by rw [ht]; exact hP9, va_K.moved hW.alike hK9, hD9⟩, hS.F ht⟩) hS.2.2 dX3_dealOutIslands_53
set_option maxHeartbeats 4000000 in
set_option maxRecDepth 100000 in
theorem c_dealOutRows (l : Launch) (dC : Nat → ClassId) (dI : Nat → Nat → Nat) (ad sz : Nat) (x : Nat) (lb : Nat) (lr : Nat) (lk : Nat) (pn : Nat) (pp : Nat) (pq : Nat) (stp : Int32) (wo : Nat) (re : Nat) (fr : Nat) (cR : ClassId) : Met l yX3_dealOutRows wsX3_dealOutRows ({ frames := 1, cells := 0, slots := 0, locals := 20 } : Room) (va_Pc [.ref x] (kc_B (dC, dI) vwCl ad sz [(x, .inr (4, [.ref lb, .ref lr, .ref lk, .ref pn, .ref pp, .ref pq, .int 8, .float FP.fconst1, .float 1031798784, .int 0, .int 1, .int stp, .int 0, .ref wo, .ref re, .ref fr])), (lr, .inr (0, [.int 0, .ref ad, .int 0])), (fr, .inl (cR, 8, .inr (.inr (.inr (.inr (fun _ => none))))))] [(cR, .object "IslandSolver$Row")])) (va_Qv (fun _ => True) (kc_R (S := Unit) (dC, dI) vwCl (va_A [(x, .inr (4, [.ref lb, .ref lr, .ref lk, .ref pn, .ref pp, .ref pq, .int 8, .float FP.fconst1, .float 1031798784, .int 0, .int 1, .int stp, .int 0, .ref wo, .ref re, .ref fr])), (lr, .inr (0, [.int 0, .ref ad, .int 0])), (fr, .inl (cR, 8, .inr (.inr (.inr (.inr (fun _ => none))))))] sz) (fun _ => [(x, .inr (4, [.ref lb, .ref lr, .ref lk, .ref pn, .ref pp, .ref pq, .int 8, .float FP.fconst1, .float 1031798784, .int 0, .int 1, .int stp, .int 0, .ref wo, .ref re, .ref fr])), (lr, .inr (0, [.int 0, .ref ad, .int 0])), (fr, .inl (cR, 8, .inr (.inr (.inr (.inr (fun _ => none))))))]) (fun _ => [(cR, .object "IslandSolver$Row")])) (va_A [(x, .inr (4, [.ref lb, .ref lr, .ref lk, .ref pn, .ref pp, .ref pq, .int 8, .float FP.fconst1, .float 1031798784, .int 0, .int 1, .int stp, .int 0, .ref wo, .ref re, .ref fr])), (lr, .inr (0, [.int 0, .ref ad, .int 0])), (fr, .inl (cR, 8, .inr (.inr (.inr (.inr (fun _ => none))))))] sz)) 0 0 (va_A [(x, .inr (4, [.ref lb, .ref lr, .ref lk, .ref pn, .ref pp, .ref pq, .int 8, .float FP.fconst1, .float 1031798784, .int 0, .int 1, .int stp, .int 0, .ref wo, .ref re, .ref fr])), (lr, .inr (0, [.int 0, .ref ad, .int 0])), (fr, .inl (cR, 8, .inr (.inr (.inr (.inr (fun _ => none))))))] sz) := by
  refine Met.ofW (cc := cX3_dealOutRows) (maxL := 4) (ret := none) (by decide) rfl ?_
  intro p e s m args below meth c s₁ B hml hv
  obtain ⟨rfl, hsz, hP, hK, hD0, hE⟩ := hv
  have hx := B.exec
  have hb := B.bytes
  have hr := B.returns
  have hts := atoms_spec (ws := wsX3_dealOutRows) B.pre
  have hown : s.vm.findClass RX3 = some m.cls := findClass_of_methodNamed B.named
  have hlocks := B.notSynchronized
  have i_X3 : ∀ w ∈ u_ws RX3 TX3 16, w ∈ wsX3_dealOutRows := (by decide +kernel)
  subst hsz
  have hD := hD0.self (sz := s.heap.size)
  generalize hAe : va_A [(x, .inr (4, [.ref lb, .ref lr, .ref lk, .ref pn, .ref pp, .ref pq, .int 8, .float FP.fconst1, .float 1031798784, .int 0, .int 1, .int stp, .int 0, .ref wo, .ref re, .ref fr])), (lr, .inr (0, [.int 0, .ref ad, .int 0])), (fr, .inl (cR, 8, .inr (.inr (.inr (.inr (fun _ => none))))))] s.heap.size = A at hD hE ⊢
  have hA : ∀ q : Nat, s.heap.size ≤ q → A q := fun q h => by rw [← hAe]; exact Or.inr h
  have hS : va_S A s.heap s.heap [] := va_S.rf
  have hP : va_P (dC, dI) vwCl [(x, .inr (4, [.ref lb, .ref lr, .ref lk, .ref pn, .ref pp, .ref pq, .int 8, .float FP.fconst1, .float 1031798784, .int 0, .int 1, .int stp, .int 0, .ref wo, .ref re, .ref fr])), (lr, .inr (0, [.int 0, .ref ad, .int 0])), (fr, .inl (cR, 8, .inr (.inr (.inr (.inr (fun _ => none))))))] s.heap := hP
  have hl := lv_entry ([.ref x]) (n := 4) (Nat.le_of_ble_eq_true rfl)
  rw [lg_entry_eq]
  generalize (lg_sl ([.ref x]) ++ List.replicate (4 - (lg_sl ([.ref x])).length) Slot.unset).toArray = ls at hl ⊢
  have hl : lv_has ls 4 [(0, .ref x)] := hl
  refine lv_iconst (v := 0) hx hb dX3_dealOutRows_0 (by decide) ?_
  refine lv_istore_n (lv' := [(1, .int 0), (0, .ref x)]) hx hb dX3_dealOutRows_1 rfl hl (by decide) rfl (fun ls hl => ?_)
  refine lv_iload_n hx hb dX3_dealOutRows_2 rfl (lv_at hl 0 rfl) ?_
  refine lv_bipush (v := 8) hx hb dX3_dealOutRows_3 (by decide) ?_
  refine lv_icmp_ge (tgt := 21) hx hb dX3_dealOutRows_5 (by decide) (fun h9 => absurd h9 (by decide)) (fun _ => ?_)
  refine lv_aload_n hx hb dX3_dealOutRows_8 rfl (lv_at hl 1 rfl) ?_
  refine va_get (D := (dC, dI)) (ci := 4) (v := .ref fr) (C := RX3) (T := TX3) (N := 16) hx hb hts i_X3 hown hK hP 0 rfl rfl 15 (by decide) (hts (.fieldLink RX3 69 "IslandSolver" "firstRow" "[LIslandSolver$Row;") (by decide +kernel)) (fun _ h9 => h9) rfl dX3_dealOutRows_9 ?_
  refine lv_iload_n hx hb dX3_dealOutRows_12 rfl (lv_at hl 0 rfl) ?_
  refine lv_null hx hb dX3_dealOutRows_13 ?_
  refine va_astqN hx hb hK hP hD hS 2 0 rfl rfl (i := 0) (by unfold vp_in; decide) dX3_dealOutRows_14 (fun H locs hP hD hS => ?_)
  rw [kz_none] at hP hD
  have hP : va_P (dC, dI) vwCl [(x, .inr (4, [.ref lb, .ref lr, .ref lk, .ref pn, .ref pp, .ref pq, .int 8, .float FP.fconst1, .float 1031798784, .int 0, .int 1, .int stp, .int 0, .ref wo, .ref re, .ref fr])), (lr, .inr (0, [.int 0, .ref ad, .int 0])), (fr, .inl (cR, 8, .inr (.inr (.inr (.inr (fun _ => none))))))] H := hP
  have hD : va_D A [(x, .inr (4, [.ref lb, .ref lr, .ref lk, .ref pn, .ref pp, .ref pq, .int 8, .float FP.fconst1, .float 1031798784, .int 0, .int 1, .int stp, .int 0, .ref wo, .ref re, .ref fr])), (lr, .inr (0, [.int 0, .ref ad, .int 0])), (fr, .inl (cR, 8, .inr (.inr (.inr (.inr (fun _ => none))))))] := hD
  refine lv_iinc (v := 1) (lv' := [(1, .int 1), (0, .ref x)]) hx hb dX3_dealOutRows_15 hl (k := 0) rfl (by decide) (by decide) rfl (fun ls hl => ?_)
  refine lv_goto (tgt := 2) hx hb dX3_dealOutRows_18 (by decide) ?_
  refine lv_iload_n hx hb dX3_dealOutRows_2 rfl (lv_at hl 0 rfl) ?_
  refine lv_bipush (v := 8) hx hb dX3_dealOutRows_3 (by decide) ?_
  refine lv_icmp_ge (tgt := 21) hx hb dX3_dealOutRows_5 (by decide) (fun h9 => absurd h9 (by decide)) (fun _ => ?_)
  refine lv_aload_n hx hb dX3_dealOutRows_8 rfl (lv_at hl 1 rfl) ?_
  refine va_get (D := (dC, dI)) (ci := 4) (v := .ref fr) (C := RX3) (T := TX3) (N := 16) hx hb hts i_X3 hown hK hP 0 rfl rfl 15 (by decide) (hts (.fieldLink RX3 69 "IslandSolver" "firstRow" "[LIslandSolver$Row;") (by decide +kernel)) (fun _ h9 => h9) rfl dX3_dealOutRows_9 ?_
  refine lv_iload_n hx hb dX3_dealOutRows_12 rfl (lv_at hl 0 rfl) ?_
  refine lv_null hx hb dX3_dealOutRows_13 ?_
  refine va_astqN hx hb hK hP hD hS 2 0 rfl rfl (i := 1) (by unfold vp_in; decide) dX3_dealOutRows_14 (fun H locs hP hD hS => ?_)
  rw [kz_none] at hP hD
  have hP : va_P (dC, dI) vwCl [(x, .inr (4, [.ref lb, .ref lr, .ref lk, .ref pn, .ref pp, .ref pq, .int 8, .float FP.fconst1, .float 1031798784, .int 0, .int 1, .int stp, .int 0, .ref wo, .ref re, .ref fr])), (lr, .inr (0, [.int 0, .ref ad, .int 0])), (fr, .inl (cR, 8, .inr (.inr (.inr (.inr (fun _ => none))))))] H := hP
  have hD : va_D A [(x, .inr (4, [.ref lb, .ref lr, .ref lk, .ref pn, .ref pp, .ref pq, .int 8, .float FP.fconst1, .float 1031798784, .int 0, .int 1, .int stp, .int 0, .ref wo, .ref re, .ref fr])), (lr, .inr (0, [.int 0, .ref ad, .int 0])), (fr, .inl (cR, 8, .inr (.inr (.inr (.inr (fun _ => none))))))] := hD
  refine lv_iinc (v := 2) (lv' := [(1, .int 2), (0, .ref x)]) hx hb dX3_dealOutRows_15 hl (k := 0) rfl (by decide) (by decide) rfl (fun ls hl => ?_)
  refine lv_goto (tgt := 2) hx hb dX3_dealOutRows_18 (by decide) ?_
  refine lv_iload_n hx hb dX3_dealOutRows_2 rfl (lv_at hl 0 rfl) ?_
  refine lv_bipush (v := 8) hx hb dX3_dealOutRows_3 (by decide) ?_
  refine lv_icmp_ge (tgt := 21) hx hb dX3_dealOutRows_5 (by decide) (fun h9 => absurd h9 (by decide)) (fun _ => ?_)
  refine lv_aload_n hx hb dX3_dealOutRows_8 rfl (lv_at hl 1 rfl) ?_
  refine va_get (D := (dC, dI)) (ci := 4) (v := .ref fr) (C := RX3) (T := TX3) (N := 16) hx hb hts i_X3 hown hK hP 0 rfl rfl 15 (by decide) (hts (.fieldLink RX3 69 "IslandSolver" "firstRow" "[LIslandSolver$Row;") (by decide +kernel)) (fun _ h9 => h9) rfl dX3_dealOutRows_9 ?_
  refine lv_iload_n hx hb dX3_dealOutRows_12 rfl (lv_at hl 0 rfl) ?_
  refine lv_null hx hb dX3_dealOutRows_13 ?_
  refine va_astqN hx hb hK hP hD hS 2 0 rfl rfl (i := 2) (by unfold vp_in; decide) dX3_dealOutRows_14 (fun H locs hP hD hS => ?_)
  rw [kz_none] at hP hD
  have hP : va_P (dC, dI) vwCl [(x, .inr (4, [.ref lb, .ref lr, .ref lk, .ref pn, .ref pp, .ref pq, .int 8, .float FP.fconst1, .float 1031798784, .int 0, .int 1, .int stp, .int 0, .ref wo, .ref re, .ref fr])), (lr, .inr (0, [.int 0, .ref ad, .int 0])), (fr, .inl (cR, 8, .inr (.inr (.inr (.inr (fun _ => none))))))] H := hP
  have hD : va_D A [(x, .inr (4, [.ref lb, .ref lr, .ref lk, .ref pn, .ref pp, .ref pq, .int 8, .float FP.fconst1, .float 1031798784, .int 0, .int 1, .int stp, .int 0, .ref wo, .ref re, .ref fr])), (lr, .inr (0, [.int 0, .ref ad, .int 0])), (fr, .inl (cR, 8, .inr (.inr (.inr (.inr (fun _ => none))))))] := hD
  refine lv_iinc (v := 3) (lv' := [(1, .int 3), (0, .ref x)]) hx hb dX3_dealOutRows_15 hl (k := 0) rfl (by decide) (by decide) rfl (fun ls hl => ?_)
  refine lv_goto (tgt := 2) hx hb dX3_dealOutRows_18 (by decide) ?_
  refine lv_iload_n hx hb dX3_dealOutRows_2 rfl (lv_at hl 0 rfl) ?_
  refine lv_bipush (v := 8) hx hb dX3_dealOutRows_3 (by decide) ?_
  refine lv_icmp_ge (tgt := 21) hx hb dX3_dealOutRows_5 (by decide) (fun h9 => absurd h9 (by decide)) (fun _ => ?_)
  refine lv_aload_n hx hb dX3_dealOutRows_8 rfl (lv_at hl 1 rfl) ?_
  refine va_get (D := (dC, dI)) (ci := 4) (v := .ref fr) (C := RX3) (T := TX3) (N := 16) hx hb hts i_X3 hown hK hP 0 rfl rfl 15 (by decide) (hts (.fieldLink RX3 69 "IslandSolver" "firstRow" "[LIslandSolver$Row;") (by decide +kernel)) (fun _ h9 => h9) rfl dX3_dealOutRows_9 ?_
  refine lv_iload_n hx hb dX3_dealOutRows_12 rfl (lv_at hl 0 rfl) ?_
  refine lv_null hx hb dX3_dealOutRows_13 ?_
  refine va_astqN hx hb hK hP hD hS 2 0 rfl rfl (i := 3) (by unfold vp_in; decide) dX3_dealOutRows_14 (fun H locs hP hD hS => ?_)
  rw [kz_none] at hP hD
  have hP : va_P (dC, dI) vwCl [(x, .inr (4, [.ref lb, .ref lr, .ref lk, .ref pn, .ref pp, .ref pq, .int 8, .float FP.fconst1, .float 1031798784, .int 0, .int 1, .int stp, .int 0, .ref wo, .ref re, .ref fr])), (lr, .inr (0, [.int 0, .ref ad, .int 0])), (fr, .inl (cR, 8, .inr (.inr (.inr (.inr (fun _ => none))))))] H := hP
  have hD : va_D A [(x, .inr (4, [.ref lb, .ref lr, .ref lk, .ref pn, .ref pp, .ref pq, .int 8, .float FP.fconst1, .float 1031798784, .int 0, .int 1, .int stp, .int 0, .ref wo, .ref re, .ref fr])), (lr, .inr (0, [.int 0, .ref ad, .int 0])), (fr, .inl (cR, 8, .inr (.inr (.inr (.inr (fun _ => none))))))] := hD
  refine lv_iinc (v := 4) (lv' := [(1, .int 4), (0, .ref x)]) hx hb dX3_dealOutRows_15 hl (k := 0) rfl (by decide) (by decide) rfl (fun ls hl => ?_)
  refine lv_goto (tgt := 2) hx hb dX3_dealOutRows_18 (by decide) ?_
  refine lv_iload_n hx hb dX3_dealOutRows_2 rfl (lv_at hl 0 rfl) ?_
  refine lv_bipush (v := 8) hx hb dX3_dealOutRows_3 (by decide) ?_
  refine lv_icmp_ge (tgt := 21) hx hb dX3_dealOutRows_5 (by decide) (fun h9 => absurd h9 (by decide)) (fun _ => ?_)
  refine lv_aload_n hx hb dX3_dealOutRows_8 rfl (lv_at hl 1 rfl) ?_
  refine va_get (D := (dC, dI)) (ci := 4) (v := .ref fr) (C := RX3) (T := TX3) (N := 16) hx hb hts i_X3 hown hK hP 0 rfl rfl 15 (by decide) (hts (.fieldLink RX3 69 "IslandSolver" "firstRow" "[LIslandSolver$Row;") (by decide +kernel)) (fun _ h9 => h9) rfl dX3_dealOutRows_9 ?_
  refine lv_iload_n hx hb dX3_dealOutRows_12 rfl (lv_at hl 0 rfl) ?_
  refine lv_null hx hb dX3_dealOutRows_13 ?_
  refine va_astqN hx hb hK hP hD hS 2 0 rfl rfl (i := 4) (by unfold vp_in; decide) dX3_dealOutRows_14 (fun H locs hP hD hS => ?_)
  rw [kz_none] at hP hD
  have hP : va_P (dC, dI) vwCl [(x, .inr (4, [.ref lb, .ref lr, .ref lk, .ref pn, .ref pp, .ref pq, .int 8, .float FP.fconst1, .float 1031798784, .int 0, .int 1, .int stp, .int 0, .ref wo, .ref re, .ref fr])), (lr, .inr (0, [.int 0, .ref ad, .int 0])), (fr, .inl (cR, 8, .inr (.inr (.inr (.inr (fun _ => none))))))] H := hP
  have hD : va_D A [(x, .inr (4, [.ref lb, .ref lr, .ref lk, .ref pn, .ref pp, .ref pq, .int 8, .float FP.fconst1, .float 1031798784, .int 0, .int 1, .int stp, .int 0, .ref wo, .ref re, .ref fr])), (lr, .inr (0, [.int 0, .ref ad, .int 0])), (fr, .inl (cR, 8, .inr (.inr (.inr (.inr (fun _ => none))))))] := hD
  refine lv_iinc (v := 5) (lv' := [(1, .int 5), (0, .ref x)]) hx hb dX3_dealOutRows_15 hl (k := 0) rfl (by decide) (by decide) rfl (fun ls hl => ?_)
  refine lv_goto (tgt := 2) hx hb dX3_dealOutRows_18 (by decide) ?_
  refine lv_iload_n hx hb dX3_dealOutRows_2 rfl (lv_at hl 0 rfl) ?_
  refine lv_bipush (v := 8) hx hb dX3_dealOutRows_3 (by decide) ?_
  refine lv_icmp_ge (tgt := 21) hx hb dX3_dealOutRows_5 (by decide) (fun h9 => absurd h9 (by decide)) (fun _ => ?_)
  refine lv_aload_n hx hb dX3_dealOutRows_8 rfl (lv_at hl 1 rfl) ?_
  refine va_get (D := (dC, dI)) (ci := 4) (v := .ref fr) (C := RX3) (T := TX3) (N := 16) hx hb hts i_X3 hown hK hP 0 rfl rfl 15 (by decide) (hts (.fieldLink RX3 69 "IslandSolver" "firstRow" "[LIslandSolver$Row;") (by decide +kernel)) (fun _ h9 => h9) rfl dX3_dealOutRows_9 ?_
  refine lv_iload_n hx hb dX3_dealOutRows_12 rfl (lv_at hl 0 rfl) ?_
  refine lv_null hx hb dX3_dealOutRows_13 ?_
  refine va_astqN hx hb hK hP hD hS 2 0 rfl rfl (i := 5) (by unfold vp_in; decide) dX3_dealOutRows_14 (fun H locs hP hD hS => ?_)
  rw [kz_none] at hP hD
  have hP : va_P (dC, dI) vwCl [(x, .inr (4, [.ref lb, .ref lr, .ref lk, .ref pn, .ref pp, .ref pq, .int 8, .float FP.fconst1, .float 1031798784, .int 0, .int 1, .int stp, .int 0, .ref wo, .ref re, .ref fr])), (lr, .inr (0, [.int 0, .ref ad, .int 0])), (fr, .inl (cR, 8, .inr (.inr (.inr (.inr (fun _ => none))))))] H := hP
  have hD : va_D A [(x, .inr (4, [.ref lb, .ref lr, .ref lk, .ref pn, .ref pp, .ref pq, .int 8, .float FP.fconst1, .float 1031798784, .int 0, .int 1, .int stp, .int 0, .ref wo, .ref re, .ref fr])), (lr, .inr (0, [.int 0, .ref ad, .int 0])), (fr, .inl (cR, 8, .inr (.inr (.inr (.inr (fun _ => none))))))] := hD
  refine lv_iinc (v := 6) (lv' := [(1, .int 6), (0, .ref x)]) hx hb dX3_dealOutRows_15 hl (k := 0) rfl (by decide) (by decide) rfl (fun ls hl => ?_)
  refine lv_goto (tgt := 2) hx hb dX3_dealOutRows_18 (by decide) ?_
  refine lv_iload_n hx hb dX3_dealOutRows_2 rfl (lv_at hl 0 rfl) ?_
  refine lv_bipush (v := 8) hx hb dX3_dealOutRows_3 (by decide) ?_
  refine lv_icmp_ge (tgt := 21) hx hb dX3_dealOutRows_5 (by decide) (fun h9 => absurd h9 (by decide)) (fun _ => ?_)
  refine lv_aload_n hx hb dX3_dealOutRows_8 rfl (lv_at hl 1 rfl) ?_
  refine va_get (D := (dC, dI)) (ci := 4) (v := .ref fr) (C := RX3) (T := TX3) (N := 16) hx hb hts i_X3 hown hK hP 0 rfl rfl 15 (by decide) (hts (.fieldLink RX3 69 "IslandSolver" "firstRow" "[LIslandSolver$Row;") (by decide +kernel)) (fun _ h9 => h9) rfl dX3_dealOutRows_9 ?_
  refine lv_iload_n hx hb dX3_dealOutRows_12 rfl (lv_at hl 0 rfl) ?_
  refine lv_null hx hb dX3_dealOutRows_13 ?_
  refine va_astqN hx hb hK hP hD hS 2 0 rfl rfl (i := 6) (by unfold vp_in; decide) dX3_dealOutRows_14 (fun H locs hP hD hS => ?_)
  rw [kz_none] at hP hD
  have hP : va_P (dC, dI) vwCl [(x, .inr (4, [.ref lb, .ref lr, .ref lk, .ref pn, .ref pp, .ref pq, .int 8, .float FP.fconst1, .float 1031798784, .int 0, .int 1, .int stp, .int 0, .ref wo, .ref re, .ref fr])), (lr, .inr (0, [.int 0, .ref ad, .int 0])), (fr, .inl (cR, 8, .inr (.inr (.inr (.inr (fun _ => none))))))] H := hP
  have hD : va_D A [(x, .inr (4, [.ref lb, .ref lr, .ref lk, .ref pn, .ref pp, .ref pq, .int 8, .float FP.fconst1, .float 1031798784, .int 0, .int 1, .int stp, .int 0, .ref wo, .ref re, .ref fr])), (lr, .inr (0, [.int 0, .ref ad, .int 0])), (fr, .inl (cR, 8, .inr (.inr (.inr (.inr (fun _ => none))))))] := hD
  refine lv_iinc (v := 7) (lv' := [(1, .int 7), (0, .ref x)]) hx hb dX3_dealOutRows_15 hl (k := 0) rfl (by decide) (by decide) rfl (fun ls hl => ?_)
  refine lv_goto (tgt := 2) hx hb dX3_dealOutRows_18 (by decide) ?_
  refine lv_iload_n hx hb dX3_dealOutRows_2 rfl (lv_at hl 0 rfl) ?_
  refine lv_bipush (v := 8) hx hb dX3_dealOutRows_3 (by decide) ?_
  refine lv_icmp_ge (tgt := 21) hx hb dX3_dealOutRows_5 (by decide) (fun h9 => absurd h9 (by decide)) (fun _ => ?_)
  refine lv_aload_n hx hb dX3_dealOutRows_8 rfl (lv_at hl 1 rfl) ?_
  refine va_get (D := (dC, dI)) (ci := 4) (v := .ref fr) (C := RX3) (T := TX3) (N := 16) hx hb hts i_X3 hown hK hP 0 rfl rfl 15 (by decide) (hts (.fieldLink RX3 69 "IslandSolver" "firstRow" "[LIslandSolver$Row;") (by decide +kernel)) (fun _ h9 => h9) rfl dX3_dealOutRows_9 ?_
  refine lv_iload_n hx hb dX3_dealOutRows_12 rfl (lv_at hl 0 rfl) ?_
  refine lv_null hx hb dX3_dealOutRows_13 ?_
  refine va_astqN hx hb hK hP hD hS 2 0 rfl rfl (i := 7) (by unfold vp_in; decide) dX3_dealOutRows_14 (fun H locs hP hD hS => ?_)
  rw [kz_none] at hP hD
  have hP : va_P (dC, dI) vwCl [(x, .inr (4, [.ref lb, .ref lr, .ref lk, .ref pn, .ref pp, .ref pq, .int 8, .float FP.fconst1, .float 1031798784, .int 0, .int 1, .int stp, .int 0, .ref wo, .ref re, .ref fr])), (lr, .inr (0, [.int 0, .ref ad, .int 0])), (fr, .inl (cR, 8, .inr (.inr (.inr (.inr (fun _ => none))))))] H := hP
  have hD : va_D A [(x, .inr (4, [.ref lb, .ref lr, .ref lk, .ref pn, .ref pp, .ref pq, .int 8, .float FP.fconst1, .float 1031798784, .int 0, .int 1, .int stp, .int 0, .ref wo, .ref re, .ref fr])), (lr, .inr (0, [.int 0, .ref ad, .int 0])), (fr, .inl (cR, 8, .inr (.inr (.inr (.inr (fun _ => none))))))] := hD
  refine lv_iinc (v := 8) (lv' := [(1, .int 8), (0, .ref x)]) hx hb dX3_dealOutRows_15 hl (k := 0) rfl (by decide) (by decide) rfl (fun ls hl => ?_)
  refine lv_goto (tgt := 2) hx hb dX3_dealOutRows_18 (by decide) ?_
  refine lv_iload_n hx hb dX3_dealOutRows_2 rfl (lv_at hl 0 rfl) ?_
  refine lv_bipush (v := 8) hx hb dX3_dealOutRows_3 (by decide) ?_
  refine lv_icmp_ge (tgt := 21) hx hb dX3_dealOutRows_5 (by decide) (fun _ => ?_) (fun h9 => absurd h9 (by decide))
  refine lv_aload_n hx hb dX3_dealOutRows_21 rfl (lv_at hl 1 rfl) ?_
  refine va_get (D := (dC, dI)) (ci := 4) (v := .ref lr) (C := RX3) (T := TX3) (N := 16) hx hb hts i_X3 hown hK hP 0 rfl rfl 1 (by decide) (hts (.fieldLink RX3 16 "IslandSolver" "rows" "Ljava/util/ArrayList;") (by decide +kernel)) (fun _ h9 => h9) rfl dX3_dealOutRows_22 ?_
  refine kc_calli (wc := [(lr, .inr (0, [.int 0, .ref ad, .int 0]))]) (wr := [(x, .inr (4, [.ref lb, .ref lr, .ref lk, .ref pn, .ref pp, .ref pq, .int 8, .float FP.fconst1, .float 1031798784, .int 0, .int 1, .int stp, .int 0, .ref wo, .ref re, .ref fr])), (fr, .inl (cR, 8, .inr (.inr (.inr (.inr (fun _ => none))))))]) (tyr := [(cR, .object "IslandSolver$Row")]) (va_runV (As := []) (rest := []) ⟨hx, hb, hml, hown, hts⟩ (c_size l dC dI ad _ lr 0 ad 0) (cwV 0 hts gX3_dealOutRows_Jx4a65c_size_8abf5 rfl rfl rfl (by decide +kernel) ⟨Nat.le_of_ble_eq_true rfl, Nat.le_of_ble_eq_true rfl⟩) (kc_preV hP hD hK hS hA hE [1] rfl (by decide) [] rfl 1 rfl rfl) rfl rfl hl.1 rfl (lv_room (Nat.le_of_ble_eq_true rfl)) dX3_dealOutRows_25 ⟨Nat.le_of_ble_eq_true rfl, Nat.le_of_ble_eq_true rfl⟩) hP hD hK hS hA [1] [0, 2] rfl rfl (by decide) (by decide) [0] rfl (fun r_1 u H locs hw hP hD hK hS => ?_)
  subst hw
  have hP : va_P (dC, dI) vwCl [(x, .inr (4, [.ref lb, .ref lr, .ref lk, .ref pn, .ref pp, .ref pq, .int 8, .float FP.fconst1, .float 1031798784, .int 0, .int 1, .int stp, .int 0, .ref wo, .ref re, .ref fr])), (fr, .inl (cR, 8, .inr (.inr (.inr (.inr (fun _ => none)))))), (lr, .inr (0, [.int 0, .ref ad, .int 0]))] H := hP
  have hD : va_D A [(x, .inr (4, [.ref lb, .ref lr, .ref lk, .ref pn, .ref pp, .ref pq, .int 8, .float FP.fconst1, .float 1031798784, .int 0, .int 1, .int stp, .int 0, .ref wo, .ref re, .ref fr])), (fr, .inl (cR, 8, .inr (.inr (.inr (.inr (fun _ => none)))))), (lr, .inr (0, [.int 0, .ref ad, .int 0]))] := hD
  have hK : va_K (dC, dI) vwCl [(cR, .object "IslandSolver$Row")] s := hK.sub [0] rfl
  refine lv_iconst (v := 1) hx hb dX3_dealOutRows_28 (by decide) ?_
  refine lv_isub hx hb dX3_dealOutRows_29 ?_
  refine lv_topi (fun x_2 ex_2 => ?_)
  obtain rfl : x_2 = (-1) := by rw [ex_2]; decide
  refine lv_istore_n (lv' := [(1, .int (-1)), (0, .ref x)]) hx hb dX3_dealOutRows_30 rfl hl (by decide) rfl (fun ls hl => ?_)
  refine lv_iload_n hx hb dX3_dealOutRows_31 rfl (lv_at hl 0 rfl) ?_
  refine lv_if_lt (tgt := 84) hx hb dX3_dealOutRows_32 (by decide) (fun _ => ?_) (fun h9 => absurd h9 (by decide))
  refine W.widen (k := 0) (n := 0) (Nat.le_of_ble_eq_true rfl) (Nat.le_of_ble_eq_true rfl) ?_
  have hP9 := hP.sub (ws' := [(x, .inr (4, [.ref lb, .ref lr, .ref lk, .ref pn, .ref pp, .ref pq, .int 8, .float FP.fconst1, .float 1031798784, .int 0, .int 1, .int stp, .int 0, .ref wo, .ref re, .ref fr])), (lr, .inr (0, [.int 0, .ref ad, .int 0])), (fr, .inl (cR, 8, .inr (.inr (.inr (.inr (fun _ => none))))))]) [0, 2, 1] rfl
  have hD9 := hD.sub (ws' := [(x, .inr (4, [.ref lb, .ref lr, .ref lk, .ref pn, .ref pp, .ref pq, .int 8, .float FP.fconst1, .float 1031798784, .int 0, .int 1, .int stp, .int 0, .ref wo, .ref re, .ref fr])), (lr, .inr (0, [.int 0, .ref ad, .int 0])), (fr, .inl (cR, 8, .inr (.inr (.inr (.inr (fun _ => none))))))]) [0, 2, 1] (by decide) rfl
  have hK9 := hK.sub (tys' := [(cR, .object "IslandSolver$Row")]) [0] rfl
  exact W.vret hx hb hr (fun t ht hW => ⟨⟨(), rfl, trivial, by rw [ht]; exact hP9, va_K.moved hW.alike hK9, hD9⟩, hS.F ht⟩) hS.2.2 dX3_dealOutRows_84
set_option maxHeartbeats 4000000 in
set_option maxRecDepth 100000 in
theorem c_solveRowsOf (l : Launch) (dC : Nat → ClassId) (dI : Nat → Nat → Nat) (ad sz : Nat) (x : Nat) (lb : Nat) (lr : Nat) (lk : Nat) (pn : Nat) (pp : Nat) (pq : Nat) (stp : Int32) (wo : Nat) (re : Nat) (fr : Nat) (cR : ClassId) : Met l yX3_solveRowsOf wsX3_solveRowsOf ({ frames := 0, cells := 0, slots := 0, locals := 0 } : Room) (va_Pc [.ref x, .int 0] (kc_B (dC, dI) vwCl ad sz [(x, .inr (4, [.ref lb, .ref lr, .ref lk, .ref pn, .ref pp, .ref pq, .int 8, .float FP.fconst1, .float 1031798784, .int 0, .int 1, .int stp, .int 0, .ref wo, .ref re, .ref fr])), (fr, .inl (cR, 8, .inr (.inr (.inr (.inr (fun _ => none))))))] [(cR, .object "IslandSolver$Row")])) (va_Qv (fun _ => True) (kc_R (S := Unit) (dC, dI) vwCl (va_A [(x, .inr (4, [.ref lb, .ref lr, .ref lk, .ref pn, .ref pp, .ref pq, .int 8, .float FP.fconst1, .float 1031798784, .int 0, .int 1, .int stp, .int 0, .ref wo, .ref re, .ref fr])), (fr, .inl (cR, 8, .inr (.inr (.inr (.inr (fun _ => none))))))] sz) (fun _ => [(x, .inr (4, [.ref lb, .ref lr, .ref lk, .ref pn, .ref pp, .ref pq, .int 8, .float FP.fconst1, .float 1031798784, .int 0, .int 1, .int stp, .int 0, .ref wo, .ref re, .ref fr])), (fr, .inl (cR, 8, .inr (.inr (.inr (.inr (fun _ => none))))))]) (fun _ => [(cR, .object "IslandSolver$Row")])) (va_A [(x, .inr (4, [.ref lb, .ref lr, .ref lk, .ref pn, .ref pp, .ref pq, .int 8, .float FP.fconst1, .float 1031798784, .int 0, .int 1, .int stp, .int 0, .ref wo, .ref re, .ref fr])), (fr, .inl (cR, 8, .inr (.inr (.inr (.inr (fun _ => none))))))] sz)) 0 0 (va_A [(x, .inr (4, [.ref lb, .ref lr, .ref lk, .ref pn, .ref pp, .ref pq, .int 8, .float FP.fconst1, .float 1031798784, .int 0, .int 1, .int stp, .int 0, .ref wo, .ref re, .ref fr])), (fr, .inl (cR, 8, .inr (.inr (.inr (.inr (fun _ => none))))))] sz) := by
  refine Met.ofW (cc := cX3_solveRowsOf) (maxL := 4) (ret := none) (by decide) rfl ?_
  intro p e s m args below meth c s₁ B hml hv
  obtain ⟨rfl, hsz, hP, hK, hD0, hE⟩ := hv
  have hx := B.exec
  have hb := B.bytes
  have hr := B.returns
  have hts := atoms_spec (ws := wsX3_solveRowsOf) B.pre
  have hown : s.vm.findClass RX3 = some m.cls := findClass_of_methodNamed B.named
  have hlocks := B.notSynchronized
  have i_X3 : ∀ w ∈ u_ws RX3 TX3 16, w ∈ wsX3_solveRowsOf := (by decide +kernel)
  subst hsz
  have hD := hD0.self (sz := s.heap.size)
  generalize hAe : va_A [(x, .inr (4, [.ref lb, .ref lr, .ref lk, .ref pn, .ref pp, .ref pq, .int 8, .float FP.fconst1, .float 1031798784, .int 0, .int 1, .int stp, .int 0, .ref wo, .ref re, .ref fr])), (fr, .inl (cR, 8, .inr (.inr (.inr (.inr (fun _ => none))))))] s.heap.size = A at hD hE ⊢
  have hA : ∀ q : Nat, s.heap.size ≤ q → A q := fun q h => by rw [← hAe]; exact Or.inr h
  have hS : va_S A s.heap s.heap [] := va_S.rf
  have hP : va_P (dC, dI) vwCl [(x, .inr (4, [.ref lb, .ref lr, .ref lk, .ref pn, .ref pp, .ref pq, .int 8, .float FP.fconst1, .float 1031798784, .int 0, .int 1, .int stp, .int 0, .ref wo, .ref re, .ref fr])), (fr, .inl (cR, 8, .inr (.inr (.inr (.inr (fun _ => none))))))] s.heap := hP
  have hl := lv_entry ([.ref x, .int 0]) (n := 4) (Nat.le_of_ble_eq_true rfl)
  rw [lg_entry_eq]
  generalize (lg_sl ([.ref x, .int 0]) ++ List.replicate (4 - (lg_sl ([.ref x, .int 0])).length) Slot.unset).toArray = ls at hl ⊢
  have hl : lv_has ls 4 [(0, .ref x), (1, .int 0)] := hl
  refine lv_aload_n hx hb dX3_solveRowsOf_0 rfl (lv_at hl 0 rfl) ?_
  refine va_get (D := (dC, dI)) (ci := 4) (v := .ref fr) (C := RX3) (T := TX3) (N := 16) hx hb hts i_X3 hown hK hP 0 rfl rfl 15 (by decide) (hts (.fieldLink RX3 69 "IslandSolver" "firstRow" "[LIslandSolver$Row;") (by decide +kernel)) (fun _ h9 => h9) rfl dX3_solveRowsOf_1 ?_
  refine lv_iload_n hx hb dX3_solveRowsOf_4 rfl (lv_at hl 1 rfl) ?_
  refine va_aldq hx hb hK hP 1 0 rfl rfl (i := 0) (by unfold vp_in; decide) dX3_solveRowsOf_5 ?_
  refine W.eq (g2 := F0 m 6 ls [.null]) rfl ?_
  refine lv_astore_nN (lv' := [(2, .null), (0, .ref x), (1, .int 0)]) hx hb dX3_solveRowsOf_6 rfl hl (by decide) rfl (fun ls hl => ?_)
  refine lv_aload_nN hx hb dX3_solveRowsOf_7 rfl (lv_at hl 0 rfl) ?_
  refine lv_ifnullN (tgt := 27) hx hb dX3_solveRowsOf_8 (by decide) ?_
  refine lv_iconst (v := 0) hx hb dX3_solveRowsOf_27 (by decide) ?_
  refine lv_istore_n (lv' := [(2, .int 0), (0, .ref x), (1, .int 0)]) hx hb dX3_solveRowsOf_28 rfl hl (by decide) rfl (fun ls hl => ?_)
  refine lv_iload_n hx hb dX3_solveRowsOf_29 rfl (lv_at hl 0 rfl) ?_
  refine lv_aload_n hx hb dX3_solveRowsOf_30 rfl (lv_at hl 1 rfl) ?_
  refine va_get (D := (dC, dI)) (ci := 4) (v := .int 8) (C := RX3) (T := TX3) (N := 16) hx hb hts i_X3 hown hK hP 0 rfl rfl 6 (by decide) (hts (.fieldLink RX3 35 "IslandSolver" "rounds" "I") (by decide +kernel)) (fun _ h9 => h9) rfl dX3_solveRowsOf_31 ?_
  refine lv_icmp_ge (tgt := 66) hx hb dX3_solveRowsOf_34 (by decide) (fun h9 => absurd h9 (by decide)) (fun _ => ?_)
  refine lv_aload_n hx hb dX3_solveRowsOf_37 rfl (lv_at hl 1 rfl) ?_
  refine va_get (D := (dC, dI)) (ci := 4) (v := .ref fr) (C := RX3) (T := TX3) (N := 16) hx hb hts i_X3 hown hK hP 0 rfl rfl 15 (by decide) (hts (.fieldLink RX3 69 "IslandSolver" "firstRow" "[LIslandSolver$Row;") (by decide +kernel)) (fun _ h9 => h9) rfl dX3_solveRowsOf_38 ?_
  refine lv_iload_n hx hb dX3_solveRowsOf_41 rfl (lv_at hl 2 rfl) ?_
  refine va_aldq hx hb hK hP 1 0 rfl rfl (i := 0) (by unfold vp_in; decide) dX3_solveRowsOf_42 ?_
  refine W.eq (g2 := F0 m 43 ls [.null]) rfl ?_
  refine lv_astore_nN (lv' := [(3, .null), (2, .int 0), (0, .ref x), (1, .int 0)]) hx hb dX3_solveRowsOf_43 rfl hl (by decide) rfl (fun ls hl => ?_)
  refine lv_aload_nN hx hb dX3_solveRowsOf_44 rfl (lv_at hl 0 rfl) ?_
  refine lv_ifnullN (tgt := 60) hx hb dX3_solveRowsOf_45 (by decide) ?_
  refine lv_iinc (v := 1) (lv' := [(2, .int 1), (3, .null), (0, .ref x), (1, .int 0)]) hx hb dX3_solveRowsOf_60 hl (k := 1) rfl (by decide) (by decide) rfl (fun ls hl => ?_)
  refine lv_goto (tgt := 29) hx hb dX3_solveRowsOf_63 (by decide) ?_
  refine lv_iload_n hx hb dX3_solveRowsOf_29 rfl (lv_at hl 0 rfl) ?_
  refine lv_aload_n hx hb dX3_solveRowsOf_30 rfl (lv_at hl 2 rfl) ?_
  refine va_get (D := (dC, dI)) (ci := 4) (v := .int 8) (C := RX3) (T := TX3) (N := 16) hx hb hts i_X3 hown hK hP 0 rfl rfl 6 (by decide) (hts (.fieldLink RX3 35 "IslandSolver" "rounds" "I") (by decide +kernel)) (fun _ h9 => h9) rfl dX3_solveRowsOf_31 ?_
  refine lv_icmp_ge (tgt := 66) hx hb dX3_solveRowsOf_34 (by decide) (fun h9 => absurd h9 (by decide)) (fun _ => ?_)
  refine lv_aload_n hx hb dX3_solveRowsOf_37 rfl (lv_at hl 2 rfl) ?_
  refine va_get (D := (dC, dI)) (ci := 4) (v := .ref fr) (C := RX3) (T := TX3) (N := 16) hx hb hts i_X3 hown hK hP 0 rfl rfl 15 (by decide) (hts (.fieldLink RX3 69 "IslandSolver" "firstRow" "[LIslandSolver$Row;") (by decide +kernel)) (fun _ h9 => h9) rfl dX3_solveRowsOf_38 ?_
  refine lv_iload_n hx hb dX3_solveRowsOf_41 rfl (lv_at hl 3 rfl) ?_
  refine va_aldq hx hb hK hP 1 0 rfl rfl (i := 0) (by unfold vp_in; decide) dX3_solveRowsOf_42 ?_
  refine W.eq (g2 := F0 m 43 ls [.null]) rfl ?_
  refine lv_astore_nN (lv' := [(3, .null), (2, .int 1), (0, .ref x), (1, .int 0)]) hx hb dX3_solveRowsOf_43 rfl hl (by decide) rfl (fun ls hl => ?_)
  refine lv_aload_nN hx hb dX3_solveRowsOf_44 rfl (lv_at hl 0 rfl) ?_
  refine lv_ifnullN (tgt := 60) hx hb dX3_solveRowsOf_45 (by decide) ?_
  refine lv_iinc (v := 2) (lv' := [(2, .int 2), (3, .null), (0, .ref x), (1, .int 0)]) hx hb dX3_solveRowsOf_60 hl (k := 1) rfl (by decide) (by decide) rfl (fun ls hl => ?_)
  refine lv_goto (tgt := 29) hx hb dX3_solveRowsOf_63 (by decide) ?_
  refine lv_iload_n hx hb dX3_solveRowsOf_29 rfl (lv_at hl 0 rfl) ?_
  refine lv_aload_n hx hb dX3_solveRowsOf_30 rfl (lv_at hl 2 rfl) ?_
  refine va_get (D := (dC, dI)) (ci := 4) (v := .int 8) (C := RX3) (T := TX3) (N := 16) hx hb hts i_X3 hown hK hP 0 rfl rfl 6 (by decide) (hts (.fieldLink RX3 35 "IslandSolver" "rounds" "I") (by decide +kernel)) (fun _ h9 => h9) rfl dX3_solveRowsOf_31 ?_
  refine lv_icmp_ge (tgt := 66) hx hb dX3_solveRowsOf_34 (by decide) (fun h9 => absurd h9 (by decide)) (fun _ => ?_)
  refine lv_aload_n hx hb dX3_solveRowsOf_37 rfl (lv_at hl 2 rfl) ?_
  refine va_get (D := (dC, dI)) (ci := 4) (v := .ref fr) (C := RX3) (T := TX3) (N := 16) hx hb hts i_X3 hown hK hP 0 rfl rfl 15 (by decide) (hts (.fieldLink RX3 69 "IslandSolver" "firstRow" "[LIslandSolver$Row;") (by decide +kernel)) (fun _ h9 => h9) rfl dX3_solveRowsOf_38 ?_
  refine lv_iload_n hx hb dX3_solveRowsOf_41 rfl (lv_at hl 3 rfl) ?_
  refine va_aldq hx hb hK hP 1 0 rfl rfl (i := 0) (by unfold vp_in; decide) dX3_solveRowsOf_42 ?_
  refine W.eq (g2 := F0 m 43 ls [.null]) rfl ?_
  refine lv_astore_nN (lv' := [(3, .null), (2, .int 2), (0, .ref x), (1, .int 0)]) hx hb dX3_solveRowsOf_43 rfl hl (by decide) rfl (fun ls hl => ?_)
  refine lv_aload_nN hx hb dX3_solveRowsOf_44 rfl (lv_at hl 0 rfl) ?_
  refine lv_ifnullN (tgt := 60) hx hb dX3_solveRowsOf_45 (by decide) ?_
  refine lv_iinc (v := 3) (lv' := [(2, .int 3), (3, .null), (0, .ref x), (1, .int 0)]) hx hb dX3_solveRowsOf_60 hl (k := 1) rfl (by decide) (by decide) rfl (fun ls hl => ?_)
  refine lv_goto (tgt := 29) hx hb dX3_solveRowsOf_63 (by decide) ?_
  refine lv_iload_n hx hb dX3_solveRowsOf_29 rfl (lv_at hl 0 rfl) ?_
  refine lv_aload_n hx hb dX3_solveRowsOf_30 rfl (lv_at hl 2 rfl) ?_
  refine va_get (D := (dC, dI)) (ci := 4) (v := .int 8) (C := RX3) (T := TX3) (N := 16) hx hb hts i_X3 hown hK hP 0 rfl rfl 6 (by decide) (hts (.fieldLink RX3 35 "IslandSolver" "rounds" "I") (by decide +kernel)) (fun _ h9 => h9) rfl dX3_solveRowsOf_31 ?_
  refine lv_icmp_ge (tgt := 66) hx hb dX3_solveRowsOf_34 (by decide) (fun h9 => absurd h9 (by decide)) (fun _ => ?_)
  refine lv_aload_n hx hb dX3_solveRowsOf_37 rfl (lv_at hl 2 rfl) ?_
  refine va_get (D := (dC, dI)) (ci := 4) (v := .ref fr) (C := RX3) (T := TX3) (N := 16) hx hb hts i_X3 hown hK hP 0 rfl rfl 15 (by decide) (hts (.fieldLink RX3 69 "IslandSolver" "firstRow" "[LIslandSolver$Row;") (by decide +kernel)) (fun _ h9 => h9) rfl dX3_solveRowsOf_38 ?_
  refine lv_iload_n hx hb dX3_solveRowsOf_41 rfl (lv_at hl 3 rfl) ?_
  refine va_aldq hx hb hK hP 1 0 rfl rfl (i := 0) (by unfold vp_in; decide) dX3_solveRowsOf_42 ?_
  refine W.eq (g2 := F0 m 43 ls [.null]) rfl ?_
  refine lv_astore_nN (lv' := [(3, .null), (2, .int 3), (0, .ref x), (1, .int 0)]) hx hb dX3_solveRowsOf_43 rfl hl (by decide) rfl (fun ls hl => ?_)
  refine lv_aload_nN hx hb dX3_solveRowsOf_44 rfl (lv_at hl 0 rfl) ?_
  refine lv_ifnullN (tgt := 60) hx hb dX3_solveRowsOf_45 (by decide) ?_
  refine lv_iinc (v := 4) (lv' := [(2, .int 4), (3, .null), (0, .ref x), (1, .int 0)]) hx hb dX3_solveRowsOf_60 hl (k := 1) rfl (by decide) (by decide) rfl (fun ls hl => ?_)
  refine lv_goto (tgt := 29) hx hb dX3_solveRowsOf_63 (by decide) ?_
  refine lv_iload_n hx hb dX3_solveRowsOf_29 rfl (lv_at hl 0 rfl) ?_
  refine lv_aload_n hx hb dX3_solveRowsOf_30 rfl (lv_at hl 2 rfl) ?_
  refine va_get (D := (dC, dI)) (ci := 4) (v := .int 8) (C := RX3) (T := TX3) (N := 16) hx hb hts i_X3 hown hK hP 0 rfl rfl 6 (by decide) (hts (.fieldLink RX3 35 "IslandSolver" "rounds" "I") (by decide +kernel)) (fun _ h9 => h9) rfl dX3_solveRowsOf_31 ?_
  refine lv_icmp_ge (tgt := 66) hx hb dX3_solveRowsOf_34 (by decide) (fun h9 => absurd h9 (by decide)) (fun _ => ?_)
  refine lv_aload_n hx hb dX3_solveRowsOf_37 rfl (lv_at hl 2 rfl) ?_
  refine va_get (D := (dC, dI)) (ci := 4) (v := .ref fr) (C := RX3) (T := TX3) (N := 16) hx hb hts i_X3 hown hK hP 0 rfl rfl 15 (by decide) (hts (.fieldLink RX3 69 "IslandSolver" "firstRow" "[LIslandSolver$Row;") (by decide +kernel)) (fun _ h9 => h9) rfl dX3_solveRowsOf_38 ?_
  refine lv_iload_n hx hb dX3_solveRowsOf_41 rfl (lv_at hl 3 rfl) ?_
  refine va_aldq hx hb hK hP 1 0 rfl rfl (i := 0) (by unfold vp_in; decide) dX3_solveRowsOf_42 ?_
  refine W.eq (g2 := F0 m 43 ls [.null]) rfl ?_
  refine lv_astore_nN (lv' := [(3, .null), (2, .int 4), (0, .ref x), (1, .int 0)]) hx hb dX3_solveRowsOf_43 rfl hl (by decide) rfl (fun ls hl => ?_)
  refine lv_aload_nN hx hb dX3_solveRowsOf_44 rfl (lv_at hl 0 rfl) ?_
  refine lv_ifnullN (tgt := 60) hx hb dX3_solveRowsOf_45 (by decide) ?_
  refine lv_iinc (v := 5) (lv' := [(2, .int 5), (3, .null), (0, .ref x), (1, .int 0)]) hx hb dX3_solveRowsOf_60 hl (k := 1) rfl (by decide) (by decide) rfl (fun ls hl => ?_)
  refine lv_goto (tgt := 29) hx hb dX3_solveRowsOf_63 (by decide) ?_
  refine lv_iload_n hx hb dX3_solveRowsOf_29 rfl (lv_at hl 0 rfl) ?_
  refine lv_aload_n hx hb dX3_solveRowsOf_30 rfl (lv_at hl 2 rfl) ?_
  refine va_get (D := (dC, dI)) (ci := 4) (v := .int 8) (C := RX3) (T := TX3) (N := 16) hx hb hts i_X3 hown hK hP 0 rfl rfl 6 (by decide) (hts (.fieldLink RX3 35 "IslandSolver" "rounds" "I") (by decide +kernel)) (fun _ h9 => h9) rfl dX3_solveRowsOf_31 ?_
  refine lv_icmp_ge (tgt := 66) hx hb dX3_solveRowsOf_34 (by decide) (fun h9 => absurd h9 (by decide)) (fun _ => ?_)
  refine lv_aload_n hx hb dX3_solveRowsOf_37 rfl (lv_at hl 2 rfl) ?_
  refine va_get (D := (dC, dI)) (ci := 4) (v := .ref fr) (C := RX3) (T := TX3) (N := 16) hx hb hts i_X3 hown hK hP 0 rfl rfl 15 (by decide) (hts (.fieldLink RX3 69 "IslandSolver" "firstRow" "[LIslandSolver$Row;") (by decide +kernel)) (fun _ h9 => h9) rfl dX3_solveRowsOf_38 ?_
  refine lv_iload_n hx hb dX3_solveRowsOf_41 rfl (lv_at hl 3 rfl) ?_
  refine va_aldq hx hb hK hP 1 0 rfl rfl (i := 0) (by unfold vp_in; decide) dX3_solveRowsOf_42 ?_
  refine W.eq (g2 := F0 m 43 ls [.null]) rfl ?_
  refine lv_astore_nN (lv' := [(3, .null), (2, .int 5), (0, .ref x), (1, .int 0)]) hx hb dX3_solveRowsOf_43 rfl hl (by decide) rfl (fun ls hl => ?_)
  refine lv_aload_nN hx hb dX3_solveRowsOf_44 rfl (lv_at hl 0 rfl) ?_
  refine lv_ifnullN (tgt := 60) hx hb dX3_solveRowsOf_45 (by decide) ?_
  refine lv_iinc (v := 6) (lv' := [(2, .int 6), (3, .null), (0, .ref x), (1, .int 0)]) hx hb dX3_solveRowsOf_60 hl (k := 1) rfl (by decide) (by decide) rfl (fun ls hl => ?_)
  refine lv_goto (tgt := 29) hx hb dX3_solveRowsOf_63 (by decide) ?_
  refine lv_iload_n hx hb dX3_solveRowsOf_29 rfl (lv_at hl 0 rfl) ?_
  refine lv_aload_n hx hb dX3_solveRowsOf_30 rfl (lv_at hl 2 rfl) ?_
  refine va_get (D := (dC, dI)) (ci := 4) (v := .int 8) (C := RX3) (T := TX3) (N := 16) hx hb hts i_X3 hown hK hP 0 rfl rfl 6 (by decide) (hts (.fieldLink RX3 35 "IslandSolver" "rounds" "I") (by decide +kernel)) (fun _ h9 => h9) rfl dX3_solveRowsOf_31 ?_
  refine lv_icmp_ge (tgt := 66) hx hb dX3_solveRowsOf_34 (by decide) (fun h9 => absurd h9 (by decide)) (fun _ => ?_)
  refine lv_aload_n hx hb dX3_solveRowsOf_37 rfl (lv_at hl 2 rfl) ?_
  refine va_get (D := (dC, dI)) (ci := 4) (v := .ref fr) (C := RX3) (T := TX3) (N := 16) hx hb hts i_X3 hown hK hP 0 rfl rfl 15 (by decide) (hts (.fieldLink RX3 69 "IslandSolver" "firstRow" "[LIslandSolver$Row;") (by decide +kernel)) (fun _ h9 => h9) rfl dX3_solveRowsOf_38 ?_
  refine lv_iload_n hx hb dX3_solveRowsOf_41 rfl (lv_at hl 3 rfl) ?_
  refine va_aldq hx hb hK hP 1 0 rfl rfl (i := 0) (by unfold vp_in; decide) dX3_solveRowsOf_42 ?_
  refine W.eq (g2 := F0 m 43 ls [.null]) rfl ?_
  refine lv_astore_nN (lv' := [(3, .null), (2, .int 6), (0, .ref x), (1, .int 0)]) hx hb dX3_solveRowsOf_43 rfl hl (by decide) rfl (fun ls hl => ?_)
  refine lv_aload_nN hx hb dX3_solveRowsOf_44 rfl (lv_at hl 0 rfl) ?_
  refine lv_ifnullN (tgt := 60) hx hb dX3_solveRowsOf_45 (by decide) ?_
  refine lv_iinc (v := 7) (lv' := [(2, .int 7), (3, .null), (0, .ref x), (1, .int 0)]) hx hb dX3_solveRowsOf_60 hl (k := 1) rfl (by decide) (by decide) rfl (fun ls hl => ?_)
  refine lv_goto (tgt := 29) hx hb dX3_solveRowsOf_63 (by decide) ?_
  refine lv_iload_n hx hb dX3_solveRowsOf_29 rfl (lv_at hl 0 rfl) ?_
  refine lv_aload_n hx hb dX3_solveRowsOf_30 rfl (lv_at hl 2 rfl) ?_
  refine va_get (D := (dC, dI)) (ci := 4) (v := .int 8) (C := RX3) (T := TX3) (N := 16) hx hb hts i_X3 hown hK hP 0 rfl rfl 6 (by decide) (hts (.fieldLink RX3 35 "IslandSolver" "rounds" "I") (by decide +kernel)) (fun _ h9 => h9) rfl dX3_solveRowsOf_31 ?_
  refine lv_icmp_ge (tgt := 66) hx hb dX3_solveRowsOf_34 (by decide) (fun h9 => absurd h9 (by decide)) (fun _ => ?_)
  refine lv_aload_n hx hb dX3_solveRowsOf_37 rfl (lv_at hl 2 rfl) ?_
  refine va_get (D := (dC, dI)) (ci := 4) (v := .ref fr) (C := RX3) (T := TX3) (N := 16) hx hb hts i_X3 hown hK hP 0 rfl rfl 15 (by decide) (hts (.fieldLink RX3 69 "IslandSolver" "firstRow" "[LIslandSolver$Row;") (by decide +kernel)) (fun _ h9 => h9) rfl dX3_solveRowsOf_38 ?_
  refine lv_iload_n hx hb dX3_solveRowsOf_41 rfl (lv_at hl 3 rfl) ?_
  refine va_aldq hx hb hK hP 1 0 rfl rfl (i := 0) (by unfold vp_in; decide) dX3_solveRowsOf_42 ?_
  refine W.eq (g2 := F0 m 43 ls [.null]) rfl ?_
  refine lv_astore_nN (lv' := [(3, .null), (2, .int 7), (0, .ref x), (1, .int 0)]) hx hb dX3_solveRowsOf_43 rfl hl (by decide) rfl (fun ls hl => ?_)
  refine lv_aload_nN hx hb dX3_solveRowsOf_44 rfl (lv_at hl 0 rfl) ?_
  refine lv_ifnullN (tgt := 60) hx hb dX3_solveRowsOf_45 (by decide) ?_
  refine lv_iinc (v := 8) (lv' := [(2, .int 8), (3, .null), (0, .ref x), (1, .int 0)]) hx hb dX3_solveRowsOf_60 hl (k := 1) rfl (by decide) (by decide) rfl (fun ls hl => ?_)
  refine lv_goto (tgt := 29) hx hb dX3_solveRowsOf_63 (by decide) ?_
  refine lv_iload_n hx hb dX3_solveRowsOf_29 rfl (lv_at hl 0 rfl) ?_
  refine lv_aload_n hx hb dX3_solveRowsOf_30 rfl (lv_at hl 2 rfl) ?_
  refine va_get (D := (dC, dI)) (ci := 4) (v := .int 8) (C := RX3) (T := TX3) (N := 16) hx hb hts i_X3 hown hK hP 0 rfl rfl 6 (by decide) (hts (.fieldLink RX3 35 "IslandSolver" "rounds" "I") (by decide +kernel)) (fun _ h9 => h9) rfl dX3_solveRowsOf_31 ?_
  refine lv_icmp_ge (tgt := 66) hx hb dX3_solveRowsOf_34 (by decide) (fun _ => ?_) (fun h9 => absurd h9 (by decide))
  refine W.widen (k := 0) (n := 0) (Nat.le_of_ble_eq_true rfl) (Nat.le_of_ble_eq_true rfl) ?_
  have hP9 := hP.sub (ws' := [(x, .inr (4, [.ref lb, .ref lr, .ref lk, .ref pn, .ref pp, .ref pq, .int 8, .float FP.fconst1, .float 1031798784, .int 0, .int 1, .int stp, .int 0, .ref wo, .ref re, .ref fr])), (fr, .inl (cR, 8, .inr (.inr (.inr (.inr (fun _ => none))))))]) [0, 1] rfl
  have hD9 := hD.sub (ws' := [(x, .inr (4, [.ref lb, .ref lr, .ref lk, .ref pn, .ref pp, .ref pq, .int 8, .float FP.fconst1, .float 1031798784, .int 0, .int 1, .int stp, .int 0, .ref wo, .ref re, .ref fr])), (fr, .inl (cR, 8, .inr (.inr (.inr (.inr (fun _ => none))))))]) [0, 1] (by decide) rfl
  have hK9 := hK.sub (tys' := [(cR, .object "IslandSolver$Row")]) [0] rfl
  exact W.vret hx hb hr (fun t ht hW => ⟨⟨(), rfl, trivial, by rw [ht]; exact hP9, va_K.moved hW.alike hK9, hD9⟩, hS.F ht⟩) hS.2.2 dX3_solveRowsOf_66
set_option maxHeartbeats 4000000 in
set_option maxRecDepth 100000 in
theorem c_settleBodies (l : Launch) (dC : Nat → ClassId) (dI : Nat → Nat → Nat) (ad sz : Nat) (x : Nat) (lb : Nat) (lr : Nat) (lk : Nat) (pn : Nat) (pp : Nat) (pq : Nat) (stp : Int32) (wo : Nat) (re : Nat) (fr : Nat) : Met l yX3_settleBodies wsX3_settleBodies ({ frames := 1, cells := 0, slots := 0, locals := 20 } : Room) (va_Pc [.ref x] (kc_B (dC, dI) vwCl ad sz [(x, .inr (4, [.ref lb, .ref lr, .ref lk, .ref pn, .ref pp, .ref pq, .int 8, .float FP.fconst1, .float 1031798784, .int 0, .int 1, .int stp, .int 0, .ref wo, .ref re, .ref fr])), (lb, .inr (0, [.int 0, .ref ad, .int 0]))] [])) (va_Qv (fun _ => True) (kc_R (S := Unit) (dC, dI) vwCl (va_A [(x, .inr (4, [.ref lb, .ref lr, .ref lk, .ref pn, .ref pp, .ref pq, .int 8, .float FP.fconst1, .float 1031798784, .int 0, .int 1, .int stp, .int 0, .ref wo, .ref re, .ref fr])), (lb, .inr (0, [.int 0, .ref ad, .int 0]))] sz) (fun _ => [(x, .inr (4, [.ref lb, .ref lr, .ref lk, .ref pn, .ref pp, .ref pq, .int 8, .float FP.fconst1, .float 1031798784, .int 0, .int 1, .int stp, .int 0, .ref wo, .ref re, .ref fr])), (lb, .inr (0, [.int 0, .ref ad, .int 0]))]) (fun _ => [])) (va_A [(x, .inr (4, [.ref lb, .ref lr, .ref lk, .ref pn, .ref pp, .ref pq, .int 8, .float FP.fconst1, .float 1031798784, .int 0, .int 1, .int stp, .int 0, .ref wo, .ref re, .ref fr])), (lb, .inr (0, [.int 0, .ref ad, .int 0]))] sz)) 0 0 (va_A [(x, .inr (4, [.ref lb, .ref lr, .ref lk, .ref pn, .ref pp, .ref pq, .int 8, .float FP.fconst1, .float 1031798784, .int 0, .int 1, .int stp, .int 0, .ref wo, .ref re, .ref fr])), (lb, .inr (0, [.int 0, .ref ad, .int 0]))] sz) := by
  refine Met.ofW (cc := cX3_settleBodies) (maxL := 3) (ret := none) (by decide) rfl ?_
  intro p e s m args below meth c s₁ B hml hv
  obtain ⟨rfl, hsz, hP, hK, hD0, hE⟩ := hv
  have hx := B.exec
  have hb := B.bytes
  have hr := B.returns
  have hts := atoms_spec (ws := wsX3_settleBodies) B.pre
  have hown : s.vm.findClass RX3 = some m.cls := findClass_of_methodNamed B.named
  have hlocks := B.notSynchronized
  have i_X3 : ∀ w ∈ u_ws RX3 TX3 16, w ∈ wsX3_settleBodies := (by decide +kernel)
  subst hsz
  have hD := hD0.self (sz := s.heap.size)
  generalize hAe : va_A [(x, .inr (4, [.ref lb, .ref lr, .ref lk, .ref pn, .ref pp, .ref pq, .int 8, .float FP.fconst1, .float 1031798784, .int 0, .int 1, .int stp, .int 0, .ref wo, .ref re, .ref fr])), (lb, .inr (0, [.int 0, .ref ad, .int 0]))] s.heap.size = A at hD hE ⊢
  have hA : ∀ q : Nat, s.heap.size ≤ q → A q := fun q h => by rw [← hAe]; exact Or.inr h
  have hS : va_S A s.heap s.heap [] := va_S.rf
  have hP : va_P (dC, dI) vwCl [(x, .inr (4, [.ref lb, .ref lr, .ref lk, .ref pn, .ref pp, .ref pq, .int 8, .float FP.fconst1, .float 1031798784, .int 0, .int 1, .int stp, .int 0, .ref wo, .ref re, .ref fr])), (lb, .inr (0, [.int 0, .ref ad, .int 0]))] s.heap := hP
  have hl := lv_entry ([.ref x]) (n := 3) (Nat.le_of_ble_eq_true rfl)
  rw [lg_entry_eq]
  generalize (lg_sl ([.ref x]) ++ List.replicate (3 - (lg_sl ([.ref x])).length) Slot.unset).toArray = ls at hl ⊢
  have hl : lv_has ls 3 [(0, .ref x)] := hl
  refine lv_iconst (v := 0) hx hb dX3_settleBodies_0 (by decide) ?_
  refine lv_istore_n (lv' := [(1, .int 0), (0, .ref x)]) hx hb dX3_settleBodies_1 rfl hl (by decide) rfl (fun ls hl => ?_)
  refine lv_iload_n hx hb dX3_settleBodies_2 rfl (lv_at hl 0 rfl) ?_
  refine lv_aload_n hx hb dX3_settleBodies_3 rfl (lv_at hl 1 rfl) ?_
  refine va_get (D := (dC, dI)) (ci := 4) (v := .ref lb) (C := RX3) (T := TX3) (N := 16) hx hb hts i_X3 hown hK hP 0 rfl rfl 0 (by decide) (hts (.fieldLink RX3 10 "IslandSolver" "bodies" "Ljava/util/ArrayList;") (by decide +kernel)) (fun _ h9 => h9) rfl dX3_settleBodies_4 ?_
  refine kc_calli (wc := [(lb, .inr (0, [.int 0, .ref ad, .int 0]))]) (wr := [(x, .inr (4, [.ref lb, .ref lr, .ref lk, .ref pn, .ref pp, .ref pq, .int 8, .float FP.fconst1, .float 1031798784, .int 0, .int 1, .int stp, .int 0, .ref wo, .ref re, .ref fr]))]) (tyr := []) (va_runV (As := []) (rest := [.int 0]) ⟨hx, hb, hml, hown, hts⟩ (c_size l dC dI ad _ lb 0 ad 0) (cwV 0 hts gX3_settleBodies_Jx4a65c_size_8abf5 rfl rfl rfl (by decide +kernel) ⟨Nat.le_of_ble_eq_true rfl, Nat.le_of_ble_eq_true rfl⟩) (kc_preV hP hD hK hS hA hE [1] rfl (by decide) [] rfl 1 rfl rfl) rfl rfl hl.1 rfl (lv_room (Nat.le_of_ble_eq_true rfl)) dX3_settleBodies_7 ⟨Nat.le_of_ble_eq_true rfl, Nat.le_of_ble_eq_true rfl⟩) hP hD hK hS hA [1] [0] rfl rfl (by decide) (by decide) [] rfl (fun r_1 u H locs hw hP hD hK hS => ?_)
  subst hw
  have hP : va_P (dC, dI) vwCl [(x, .inr (4, [.ref lb, .ref lr, .ref lk, .ref pn, .ref pp, .ref pq, .int 8, .float FP.fconst1, .float 1031798784, .int 0, .int 1, .int stp, .int 0, .ref wo, .ref re, .ref fr])), (lb, .inr (0, [.int 0, .ref ad, .int 0]))] H := hP
  have hD : va_D A [(x, .inr (4, [.ref lb, .ref lr, .ref lk, .ref pn, .ref pp, .ref pq, .int 8, .float FP.fconst1, .float 1031798784, .int 0, .int 1, .int stp, .int 0, .ref wo, .ref re, .ref fr])), (lb, .inr (0, [.int 0, .ref ad, .int 0]))] := hD
  have hK : va_K (dC, dI) vwCl [] s := hK.sub [] rfl
  refine lv_icmp_ge (tgt := 51) hx hb dX3_settleBodies_10 (by decide) (fun _ => ?_) (fun h9 => absurd h9 (by decide))
  refine W.widen (k := 0) (n := 0) (Nat.le_of_ble_eq_true rfl) (Nat.le_of_ble_eq_true rfl) ?_
  have hP9 := hP.sub (ws' := [(x, .inr (4, [.ref lb, .ref lr, .ref lk, .ref pn, .ref pp, .ref pq, .int 8, .float FP.fconst1, .float 1031798784, .int 0, .int 1, .int stp, .int 0, .ref wo, .ref re, .ref fr])), (lb, .inr (0, [.int 0, .ref ad, .int 0]))]) [0, 1] rfl
  have hD9 := hD.sub (ws' := [(x, .inr (4, [.ref lb, .ref lr, .ref lk, .ref pn, .ref pp, .ref pq, .int 8, .float FP.fconst1, .float 1031798784, .int 0, .int 1, .int stp, .int 0, .ref wo, .ref re, .ref fr])), (lb, .inr (0, [.int 0, .ref ad, .int 0]))]) [0, 1] (by decide) rfl
  have hK9 := hK.sub (tys' := []) [] rfl
  exact W.vret hx hb hr (fun t ht hW => ⟨⟨(), rfl, trivial, by rw [ht]; exact hP9, va_K.moved hW.alike hK9, hD9⟩, hS.F ht⟩) hS.2.2 dX3_settleBodies_51
set_option maxHeartbeats 4000000 in
set_option maxRecDepth 100000 in
theorem c_sleepers (l : Launch) (dC : Nat → ClassId) (dI : Nat → Nat → Nat) (ad sz : Nat) (x : Nat) (lb : Nat) (lr : Nat) (lk : Nat) (pn : Nat) (pp : Nat) (pq : Nat) (stp : Int32) (wo : Nat) (re : Nat) (fr : Nat) : Met l yX3_sleepers wsX3_sleepers ({ frames := 1, cells := 0, slots := 0, locals := 20 } : Room) (va_Pc [.ref x] (kc_B (dC, dI) vwCl ad sz [(x, .inr (4, [.ref lb, .ref lr, .ref lk, .ref pn, .ref pp, .ref pq, .int 8, .float FP.fconst1, .float 1031798784, .int 0, .int 1, .int stp, .int 0, .ref wo, .ref re, .ref fr])), (lb, .inr (0, [.int 0, .ref ad, .int 0]))] [])) (va_Qi (fun r _ => r = 0) (kc_R (S := Unit) (dC, dI) vwCl (va_A [(x, .inr (4, [.ref lb, .ref lr, .ref lk, .ref pn, .ref pp, .ref pq, .int 8, .float FP.fconst1, .float 1031798784, .int 0, .int 1, .int stp, .int 0, .ref wo, .ref re, .ref fr])), (lb, .inr (0, [.int 0, .ref ad, .int 0]))] sz) (fun _ => [(x, .inr (4, [.ref lb, .ref lr, .ref lk, .ref pn, .ref pp, .ref pq, .int 8, .float FP.fconst1, .float 1031798784, .int 0, .int 1, .int stp, .int 0, .ref wo, .ref re, .ref fr])), (lb, .inr (0, [.int 0, .ref ad, .int 0]))]) (fun _ => [])) (va_A [(x, .inr (4, [.ref lb, .ref lr, .ref lk, .ref pn, .ref pp, .ref pq, .int 8, .float FP.fconst1, .float 1031798784, .int 0, .int 1, .int stp, .int 0, .ref wo, .ref re, .ref fr])), (lb, .inr (0, [.int 0, .ref ad, .int 0]))] sz)) 0 0 (va_A [(x, .inr (4, [.ref lb, .ref lr, .ref lk, .ref pn, .ref pp, .ref pq, .int 8, .float FP.fconst1, .float 1031798784, .int 0, .int 1, .int stp, .int 0, .ref wo, .ref re, .ref fr])), (lb, .inr (0, [.int 0, .ref ad, .int 0]))] sz) := by
  refine Met.ofW (cc := cX3_sleepers) (maxL := 3) (ret := (some .int)) (by decide) rfl ?_
  intro p e s m args below meth c s₁ B hml hv
  obtain ⟨rfl, hsz, hP, hK, hD0, hE⟩ := hv
  have hx := B.exec
  have hb := B.bytes
  have hr := B.returns
  have hts := atoms_spec (ws := wsX3_sleepers) B.pre
  have hown : s.vm.findClass RX3 = some m.cls := findClass_of_methodNamed B.named
  have hlocks := B.notSynchronized
  have i_X3 : ∀ w ∈ u_ws RX3 TX3 16, w ∈ wsX3_sleepers := (by decide +kernel)
  subst hsz
  have hD := hD0.self (sz := s.heap.size)
  generalize hAe : va_A [(x, .inr (4, [.ref lb, .ref lr, .ref lk, .ref pn, .ref pp, .ref pq, .int 8, .float FP.fconst1, .float 1031798784, .int 0, .int 1, .int stp, .int 0, .ref wo, .ref re, .ref fr])), (lb, .inr (0, [.int 0, .ref ad, .int 0]))] s.heap.size = A at hD hE ⊢
  have hA : ∀ q : Nat, s.heap.size ≤ q → A q := fun q h => by rw [← hAe]; exact Or.inr h
  have hS : va_S A s.heap s.heap [] := va_S.rf
  have hP : va_P (dC, dI) vwCl [(x, .inr (4, [.ref lb, .ref lr, .ref lk, .ref pn, .ref pp, .ref pq, .int 8, .float FP.fconst1, .float 1031798784, .int 0, .int 1, .int stp, .int 0, .ref wo, .ref re, .ref fr])), (lb, .inr (0, [.int 0, .ref ad, .int 0]))] s.heap := hP
  have hl := lv_entry ([.ref x]) (n := 3) (Nat.le_of_ble_eq_true rfl)
  rw [lg_entry_eq]
  generalize (lg_sl ([.ref x]) ++ List.replicate (3 - (lg_sl ([.ref x])).length) Slot.unset).toArray = ls at hl ⊢
  have hl : lv_has ls 3 [(0, .ref x)] := hl
  refine lv_iconst (v := 0) hx hb dX3_sleepers_0 (by decide) ?_
  refine lv_istore_n (lv' := [(1, .int 0), (0, .ref x)]) hx hb dX3_sleepers_1 rfl hl (by decide) rfl (fun ls hl => ?_)
  refine lv_iconst (v := 0) hx hb dX3_sleepers_2 (by decide) ?_
  refine lv_istore_n (lv' := [(2, .int 0), (1, .int 0), (0, .ref x)]) hx hb dX3_sleepers_3 rfl hl (by decide) rfl (fun ls hl => ?_)
  refine lv_iload_n hx hb dX3_sleepers_4 rfl (lv_at hl 0 rfl) ?_
  refine lv_aload_n hx hb dX3_sleepers_5 rfl (lv_at hl 2 rfl) ?_
  refine va_get (D := (dC, dI)) (ci := 4) (v := .ref lb) (C := RX3) (T := TX3) (N := 16) hx hb hts i_X3 hown hK hP 0 rfl rfl 0 (by decide) (hts (.fieldLink RX3 10 "IslandSolver" "bodies" "Ljava/util/ArrayList;") (by decide +kernel)) (fun _ h9 => h9) rfl dX3_sleepers_6 ?_
  refine kc_calli (wc := [(lb, .inr (0, [.int 0, .ref ad, .int 0]))]) (wr := [(x, .inr (4, [.ref lb, .ref lr, .ref lk, .ref pn, .ref pp, .ref pq, .int 8, .float FP.fconst1, .float 1031798784, .int 0, .int 1, .int stp, .int 0, .ref wo, .ref re, .ref fr]))]) (tyr := []) (va_runV (As := []) (rest := [.int 0]) ⟨hx, hb, hml, hown, hts⟩ (c_size l dC dI ad _ lb 0 ad 0) (cwV 0 hts gX3_sleepers_Jx4a65c_size_8abf5 rfl rfl rfl (by decide +kernel) ⟨Nat.le_of_ble_eq_true rfl, Nat.le_of_ble_eq_true rfl⟩) (kc_preV hP hD hK hS hA hE [1] rfl (by decide) [] rfl 1 rfl rfl) rfl rfl hl.1 rfl (lv_room (Nat.le_of_ble_eq_true rfl)) dX3_sleepers_9 ⟨Nat.le_of_ble_eq_true rfl, Nat.le_of_ble_eq_true rfl⟩) hP hD hK hS hA [1] [0] rfl rfl (by decide) (by decide) [] rfl (fun r_1 u H locs hw hP hD hK hS => ?_)
  subst hw
  have hP : va_P (dC, dI) vwCl [(x, .inr (4, [.ref lb, .ref lr, .ref lk, .ref pn, .ref pp, .ref pq, .int 8, .float FP.fconst1, .float 1031798784, .int 0, .int 1, .int stp, .int 0, .ref wo, .ref re, .ref fr])), (lb, .inr (0, [.int 0, .ref ad, .int 0]))] H := hP
  have hD : va_D A [(x, .inr (4, [.ref lb, .ref lr, .ref lk, .ref pn, .ref pp, .ref pq, .int 8, .float FP.fconst1, .float 1031798784, .int 0, .int 1, .int stp, .int 0, .ref wo, .ref re, .ref fr])), (lb, .inr (0, [.int 0, .ref ad, .int 0]))] := hD
  have hK : va_K (dC, dI) vwCl [] s := hK.sub [] rfl
  refine lv_icmp_ge (tgt := 41) hx hb dX3_sleepers_12 (by decide) (fun _ => ?_) (fun h9 => absurd h9 (by decide))
  refine lv_iload_n hx hb dX3_sleepers_41 rfl (lv_at hl 1 rfl) ?_
  refine W.widen (k := 0) (n := 0) (Nat.le_of_ble_eq_true rfl) (Nat.le_of_ble_eq_true rfl) ?_
  have hP9 := hP.sub (ws' := [(x, .inr (4, [.ref lb, .ref lr, .ref lk, .ref pn, .ref pp, .ref pq, .int 8, .float FP.fconst1, .float 1031798784, .int 0, .int 1, .int stp, .int 0, .ref wo, .ref re, .ref fr])), (lb, .inr (0, [.int 0, .ref ad, .int 0]))]) [0, 1] rfl
  have hD9 := hD.sub (ws' := [(x, .inr (4, [.ref lb, .ref lr, .ref lk, .ref pn, .ref pp, .ref pq, .int 8, .float FP.fconst1, .float 1031798784, .int 0, .int 1, .int stp, .int 0, .ref wo, .ref re, .ref fr])), (lb, .inr (0, [.int 0, .ref ad, .int 0]))]) [0, 1] (by decide) rfl
  have hK9 := hK.sub (tys' := []) [] rfl
  exact W.iret (v := 0) hx hb hr (fun t ht hW => ⟨⟨0, (), rfl, rfl, by rw [ht]; exact hP9, va_K.moved hW.alike hK9, hD9⟩, hS.F ht⟩) hS.2.2 dX3_sleepers_42
set_option maxHeartbeats 4000000 in
set_option maxRecDepth 100000 in
theorem c_deadRows (l : Launch) (dC : Nat → ClassId) (dI : Nat → Nat → Nat) (ad sz : Nat) (x : Nat) (lb : Nat) (lr : Nat) (lk : Nat) (pn : Nat) (pp : Nat) (pq : Nat) (stp : Int32) (wo : Nat) (re : Nat) (fr : Nat) : Met l yX3_deadRows wsX3_deadRows ({ frames := 2, cells := 0, slots := 0, locals := 41 } : Room) (va_Pc [.ref x] (kc_B (dC, dI) vwCl ad sz [(x, .inr (4, [.ref lb, .ref lr, .ref lk, .ref pn, .ref pp, .ref pq, .int 8, .float FP.fconst1, .float 1031798784, .int 0, .int 1, .int stp, .int 0, .ref wo, .ref re, .ref fr])), (lr, .inr (0, [.int 0, .ref ad, .int 0]))] [])) (va_Qi (fun r _ => r = 0) (kc_R (S := Unit) (dC, dI) vwCl (va_A [(x, .inr (4, [.ref lb, .ref lr, .ref lk, .ref pn, .ref pp, .ref pq, .int 8, .float FP.fconst1, .float 1031798784, .int 0, .int 1, .int stp, .int 0, .ref wo, .ref re, .ref fr])), (lr, .inr (0, [.int 0, .ref ad, .int 0]))] sz) (fun _ => [(x, .inr (4, [.ref lb, .ref lr, .ref lk, .ref pn, .ref pp, .ref pq, .int 8, .float FP.fconst1, .float 1031798784, .int 0, .int 1, .int stp, .int 0, .ref wo, .ref re, .ref fr])), (lr, .inr (0, [.int 0, .ref ad, .int 0]))]) (fun _ => [])) (va_A [(x, .inr (4, [.ref lb, .ref lr, .ref lk, .ref pn, .ref pp, .ref pq, .int 8, .float FP.fconst1, .float 1031798784, .int 0, .int 1, .int stp, .int 0, .ref wo, .ref re, .ref fr])), (lr, .inr (0, [.int 0, .ref ad, .int 0]))] sz)) 0 0 (va_A [(x, .inr (4, [.ref lb, .ref lr, .ref lk, .ref pn, .ref pp, .ref pq, .int 8, .float FP.fconst1, .float 1031798784, .int 0, .int 1, .int stp, .int 0, .ref wo, .ref re, .ref fr])), (lr, .inr (0, [.int 0, .ref ad, .int 0]))] sz) := by
  refine Met.ofW (cc := cX3_deadRows) (maxL := 3) (ret := (some .int)) (by decide) rfl ?_
  intro p e s m args below meth c s₁ B hml hv
  obtain ⟨rfl, hsz, hP, hK, hD0, hE⟩ := hv
  have hx := B.exec
  have hb := B.bytes
  have hr := B.returns
  have hts := atoms_spec (ws := wsX3_deadRows) B.pre
  have hown : s.vm.findClass RX3 = some m.cls := findClass_of_methodNamed B.named
  have hlocks := B.notSynchronized
  have i_X3 : ∀ w ∈ u_ws RX3 TX3 16, w ∈ wsX3_deadRows := (by decide +kernel)
  subst hsz
  have hD := hD0.self (sz := s.heap.size)
  generalize hAe : va_A [(x, .inr (4, [.ref lb, .ref lr, .ref lk, .ref pn, .ref pp, .ref pq, .int 8, .float FP.fconst1, .float 1031798784, .int 0, .int 1, .int stp, .int 0, .ref wo, .ref re, .ref fr])), (lr, .inr (0, [.int 0, .ref ad, .int 0]))] s.heap.size = A at hD hE ⊢
  have hA : ∀ q : Nat, s.heap.size ≤ q → A q := fun q h => by rw [← hAe]; exact Or.inr h
  have hS : va_S A s.heap s.heap [] := va_S.rf
  have hP : va_P (dC, dI) vwCl [(x, .inr (4, [.ref lb, .ref lr, .ref lk, .ref pn, .ref pp, .ref pq, .int 8, .float FP.fconst1, .float 1031798784, .int 0, .int 1, .int stp, .int 0, .ref wo, .ref re, .ref fr])), (lr, .inr (0, [.int 0, .ref ad, .int 0]))] s.heap := hP
  have hl := lv_entry ([.ref x]) (n := 3) (Nat.le_of_ble_eq_true rfl)
  rw [lg_entry_eq]
  generalize (lg_sl ([.ref x]) ++ List.replicate (3 - (lg_sl ([.ref x])).length) Slot.unset).toArray = ls at hl ⊢
  have hl : lv_has ls 3 [(0, .ref x)] := hl
  refine lv_aload_n hx hb dX3_deadRows_0 rfl (lv_at hl 0 rfl) ?_
  refine kc_callv (wc := [(x, .inr (4, [.ref lb, .ref lr, .ref lk, .ref pn, .ref pp, .ref pq, .int 8, .float FP.fconst1, .float 1031798784, .int 0, .int 1, .int stp, .int 0, .ref wo, .ref re, .ref fr])), (lr, .inr (0, [.int 0, .ref ad, .int 0]))]) (wr := []) (tyr := []) (va_runV (As := []) (rest := []) ⟨hx, hb, hml, hown, hts⟩ (c_measureRows l dC dI ad _ x lb lr lk pn pp pq stp wo re fr) (cwV 0 hts gX3_deadRows_X3_measureRows rfl rfl rfl (by decide +kernel) ⟨Nat.le_of_ble_eq_true rfl, Nat.le_of_ble_eq_true rfl⟩) (kc_preV hP hD hK hS hA hE [0, 1] rfl (by decide) [] rfl 0 rfl rfl) rfl rfl hl.1 rfl (lv_room (Nat.le_of_ble_eq_true rfl)) dX3_deadRows_1 ⟨Nat.le_of_ble_eq_true rfl, Nat.le_of_ble_eq_true rfl⟩) hP hD hK hS hA [0, 1] [] rfl rfl (by decide) (by decide) [] rfl (fun u H locs hw hP hD hK hS => ?_)
  have hP : va_P (dC, dI) vwCl [(x, .inr (4, [.ref lb, .ref lr, .ref lk, .ref pn, .ref pp, .ref pq, .int 8, .float FP.fconst1, .float 1031798784, .int 0, .int 1, .int stp, .int 0, .ref wo, .ref re, .ref fr])), (lr, .inr (0, [.int 0, .ref ad, .int 0]))] H := hP
  have hD : va_D A [(x, .inr (4, [.ref lb, .ref lr, .ref lk, .ref pn, .ref pp, .ref pq, .int 8, .float FP.fconst1, .float 1031798784, .int 0, .int 1, .int stp, .int 0, .ref wo, .ref re, .ref fr])), (lr, .inr (0, [.int 0, .ref ad, .int 0]))] := hD
  have hK : va_K (dC, dI) vwCl [] s := hK.sub [] rfl
  refine lv_iconst (v := 0) hx hb dX3_deadRows_4 (by decide) ?_
  refine lv_istore_n (lv' := [(1, .int 0), (0, .ref x)]) hx hb dX3_deadRows_5 rfl hl (by decide) rfl (fun ls hl => ?_)
  refine lv_iconst (v := 0) hx hb dX3_deadRows_6 (by decide) ?_
  refine lv_istore_n (lv' := [(2, .int 0), (1, .int 0), (0, .ref x)]) hx hb dX3_deadRows_7 rfl hl (by decide) rfl (fun ls hl => ?_)
  refine lv_iload_n hx hb dX3_deadRows_8 rfl (lv_at hl 0 rfl) ?_
  refine lv_aload_n hx hb dX3_deadRows_9 rfl (lv_at hl 2 rfl) ?_
  refine va_get (D := (dC, dI)) (ci := 4) (v := .ref lr) (C := RX3) (T := TX3) (N := 16) hx hb hts i_X3 hown hK hP 0 rfl rfl 1 (by decide) (hts (.fieldLink RX3 16 "IslandSolver" "rows" "Ljava/util/ArrayList;") (by decide +kernel)) (fun _ h9 => h9) rfl dX3_deadRows_10 ?_
  refine kc_calli (wc := [(lr, .inr (0, [.int 0, .ref ad, .int 0]))]) (wr := [(x, .inr (4, [.ref lb, .ref lr, .ref lk, .ref pn, .ref pp, .ref pq, .int 8, .float FP.fconst1, .float 1031798784, .int 0, .int 1, .int stp, .int 0, .ref wo, .ref re, .ref fr]))]) (tyr := []) (va_runV (As := []) (rest := [.int 0]) ⟨hx, hb, hml, hown, hts⟩ (c_size l dC dI ad _ lr 0 ad 0) (cwV 0 hts gX3_deadRows_Jx4a65c_size_8abf5 rfl rfl rfl (by decide +kernel) ⟨Nat.le_of_ble_eq_true rfl, Nat.le_of_ble_eq_true rfl⟩) (kc_preV hP hD hK hS hA hE [1] rfl (by decide) [] rfl 1 rfl rfl) rfl rfl hl.1 rfl (lv_room (Nat.le_of_ble_eq_true rfl)) dX3_deadRows_13 ⟨Nat.le_of_ble_eq_true rfl, Nat.le_of_ble_eq_true rfl⟩) hP hD hK hS hA [1] [0] rfl rfl (by decide) (by decide) [] rfl (fun r_1 u H locs hw hP hD hK hS => ?_)
  subst hw
  have hP : va_P (dC, dI) vwCl [(x, .inr (4, [.ref lb, .ref lr, .ref lk, .ref pn, .ref pp, .ref pq, .int 8, .float FP.fconst1, .float 1031798784, .int 0, .int 1, .int stp, .int 0, .ref wo, .ref re, .ref fr])), (lr, .inr (0, [.int 0, .ref ad, .int 0]))] H := hP
  have hD : va_D A [(x, .inr (4, [.ref lb, .ref lr, .ref lk, .ref pn, .ref pp, .ref pq, .int 8, .float FP.fconst1, .float 1031798784, .int 0, .int 1, .int stp, .int 0, .ref wo, .ref re, .ref fr])), (lr, .inr (0, [.int 0, .ref ad, .int 0]))] := hD
  have hK : va_K (dC, dI) vwCl [] s := hK.sub [] rfl
  refine lv_icmp_ge (tgt := 45) hx hb dX3_deadRows_16 (by decide) (fun _ => ?_) (fun h9 => absurd h9 (by decide))
  refine lv_iload_n hx hb dX3_deadRows_45 rfl (lv_at hl 1 rfl) ?_
  refine W.widen (k := 0) (n := 0) (Nat.le_of_ble_eq_true rfl) (Nat.le_of_ble_eq_true rfl) ?_
  have hP9 := hP.sub (ws' := [(x, .inr (4, [.ref lb, .ref lr, .ref lk, .ref pn, .ref pp, .ref pq, .int 8, .float FP.fconst1, .float 1031798784, .int 0, .int 1, .int stp, .int 0, .ref wo, .ref re, .ref fr])), (lr, .inr (0, [.int 0, .ref ad, .int 0]))]) [0, 1] rfl
  have hD9 := hD.sub (ws' := [(x, .inr (4, [.ref lb, .ref lr, .ref lk, .ref pn, .ref pp, .ref pq, .int 8, .float FP.fconst1, .float 1031798784, .int 0, .int 1, .int stp, .int 0, .ref wo, .ref re, .ref fr])), (lr, .inr (0, [.int 0, .ref ad, .int 0]))]) [0, 1] (by decide) rfl
  have hK9 := hK.sub (tys' := []) [] rfl
  exact W.iret (v := 0) hx hb hr (fun t ht hW => ⟨⟨0, (), rfl, rfl, by rw [ht]; exact hP9, va_K.moved hW.alike hK9, hD9⟩, hS.F ht⟩) hS.2.2 dX3_deadRows_46
set_option maxHeartbeats 4000000 in
set_option maxRecDepth 100000 in
theorem c_stepOnce (l : Launch) (dC : Nat → ClassId) (dI : Nat → Nat → Nat) (ad sz : Nat) (x : Nat) (lb : Nat) (lr : Nat) (lk : Nat) (pn : Nat) (pp : Nat) (pq : Nat) (stp : Int32) (wo : Nat) (re : Nat) (fr : Nat) (cR : ClassId) : Met l yX3_stepOnce wsX3_stepOnce ({ frames := 2, cells := 0, slots := 0, locals := 43 } : Room) (va_Pc [.ref x] (kc_B (dC, dI) vwCl ad sz [(x, .inr (4, [.ref lb, .ref lr, .ref lk, .ref pn, .ref pp, .ref pq, .int 8, .float FP.fconst1, .float 1031798784, .int 0, .int 1, .int stp, .int 0, .ref wo, .ref re, .ref fr])), (lb, .inr (0, [.int 0, .ref ad, .int 0])), (lr, .inr (0, [.int 0, .ref ad, .int 0])), (fr, .inl (cR, 8, .inr (.inr (.inr (.inr (fun _ => none))))))] [(cR, .object "IslandSolver$Row")])) (va_Qv (fun _ => True) (kc_R (S := Int32) (dC, dI) vwCl (va_A [(x, .inr (4, [.ref lb, .ref lr, .ref lk, .ref pn, .ref pp, .ref pq, .int 8, .float FP.fconst1, .float 1031798784, .int 0, .int 1, .int stp, .int 0, .ref wo, .ref re, .ref fr])), (lb, .inr (0, [.int 0, .ref ad, .int 0])), (lr, .inr (0, [.int 0, .ref ad, .int 0])), (fr, .inl (cR, 8, .inr (.inr (.inr (.inr (fun _ => none))))))] sz) (fun u => [(x, .inr (4, [.ref lb, .ref lr, .ref lk, .ref pn, .ref pp, .ref pq, .int 8, .float FP.fconst1, .float 1031798784, .int 0, .int 1, .int u, .int 0, .ref wo, .ref re, .ref fr])), (lb, .inr (0, [.int 0, .ref ad, .int 0])), (lr, .inr (0, [.int 0, .ref ad, .int 0])), (fr, .inl (cR, 8, .inr (.inr (.inr (.inr (fun _ => none))))))]) (fun _ => [(cR, .object "IslandSolver$Row")])) (va_A [(x, .inr (4, [.ref lb, .ref lr, .ref lk, .ref pn, .ref pp, .ref pq, .int 8, .float FP.fconst1, .float 1031798784, .int 0, .int 1, .int stp, .int 0, .ref wo, .ref re, .ref fr])), (lb, .inr (0, [.int 0, .ref ad, .int 0])), (lr, .inr (0, [.int 0, .ref ad, .int 0])), (fr, .inl (cR, 8, .inr (.inr (.inr (.inr (fun _ => none))))))] sz)) 0 0 (va_A [(x, .inr (4, [.ref lb, .ref lr, .ref lk, .ref pn, .ref pp, .ref pq, .int 8, .float FP.fconst1, .float 1031798784, .int 0, .int 1, .int stp, .int 0, .ref wo, .ref re, .ref fr])), (lb, .inr (0, [.int 0, .ref ad, .int 0])), (lr, .inr (0, [.int 0, .ref ad, .int 0])), (fr, .inl (cR, 8, .inr (.inr (.inr (.inr (fun _ => none))))))] sz) := by
  refine Met.ofW (cc := cX3_stepOnce) (maxL := 2) (ret := none) (by decide) rfl ?_
  intro p e s m args below meth c s₁ B hml hv
  obtain ⟨rfl, hsz, hP, hK, hD0, hE⟩ := hv
  have hx := B.exec
  have hb := B.bytes
  have hr := B.returns
  have hts := atoms_spec (ws := wsX3_stepOnce) B.pre
  have hown : s.vm.findClass RX3 = some m.cls := findClass_of_methodNamed B.named
  have hlocks := B.notSynchronized
  have i_X3 : ∀ w ∈ u_ws RX3 TX3 16, w ∈ wsX3_stepOnce := (by decide +kernel)
  subst hsz
  have hD := hD0.self (sz := s.heap.size)
  generalize hAe : va_A [(x, .inr (4, [.ref lb, .ref lr, .ref lk, .ref pn, .ref pp, .ref pq, .int 8, .float FP.fconst1, .float 1031798784, .int 0, .int 1, .int stp, .int 0, .ref wo, .ref re, .ref fr])), (lb, .inr (0, [.int 0, .ref ad, .int 0])), (lr, .inr (0, [.int 0, .ref ad, .int 0])), (fr, .inl (cR, 8, .inr (.inr (.inr (.inr (fun _ => none))))))] s.heap.size = A at hD hE ⊢
  have hA : ∀ q : Nat, s.heap.size ≤ q → A q := fun q h => by rw [← hAe]; exact Or.inr h
  have hS : va_S A s.heap s.heap [] := va_S.rf
  have hP : va_P (dC, dI) vwCl [(x, .inr (4, [.ref lb, .ref lr, .ref lk, .ref pn, .ref pp, .ref pq, .int 8, .float FP.fconst1, .float 1031798784, .int 0, .int 1, .int stp, .int 0, .ref wo, .ref re, .ref fr])), (lb, .inr (0, [.int 0, .ref ad, .int 0])), (lr, .inr (0, [.int 0, .ref ad, .int 0])), (fr, .inl (cR, 8, .inr (.inr (.inr (.inr (fun _ => none))))))] s.heap := hP
  have hl := lv_entry ([.ref x]) (n := 2) (Nat.le_of_ble_eq_true rfl)
  rw [lg_entry_eq]
  generalize (lg_sl ([.ref x]) ++ List.replicate (2 - (lg_sl ([.ref x])).length) Slot.unset).toArray = ls at hl ⊢
  have hl : lv_has ls 2 [(0, .ref x)] := hl
  refine lv_aload_n hx hb dX3_stepOnce_0 rfl (lv_at hl 0 rfl) ?_
  refine kc_callv (wc := [(x, .inr (4, [.ref lb, .ref lr, .ref lk, .ref pn, .ref pp, .ref pq, .int 8, .float FP.fconst1, .float 1031798784, .int 0, .int 1, .int stp, .int 0, .ref wo, .ref re, .ref fr])), (lb, .inr (0, [.int 0, .ref ad, .int 0]))]) (wr := [(lr, .inr (0, [.int 0, .ref ad, .int 0])), (fr, .inl (cR, 8, .inr (.inr (.inr (.inr (fun _ => none))))))]) (tyr := [(cR, .object "IslandSolver$Row")]) (va_runV (As := []) (rest := []) ⟨hx, hb, hml, hown, hts⟩ (c_markAwake l dC dI ad _ x lb lr lk pn pp pq stp wo re fr) (cwV 0 hts gX3_stepOnce_X3_markAwake rfl rfl rfl (by decide +kernel) ⟨Nat.le_of_ble_eq_true rfl, Nat.le_of_ble_eq_true rfl⟩) (kc_preV hP hD hK hS hA hE [0, 1] rfl (by decide) [] rfl 0 rfl rfl) rfl rfl hl.1 rfl (lv_room (Nat.le_of_ble_eq_true rfl)) dX3_stepOnce_1 ⟨Nat.le_of_ble_eq_true rfl, Nat.le_of_ble_eq_true rfl⟩) hP hD hK hS hA [0, 1] [2, 3] rfl rfl (by decide) (by decide) [0] rfl (fun u H locs hw hP hD hK hS => ?_)
  have hP : va_P (dC, dI) vwCl [(lr, .inr (0, [.int 0, .ref ad, .int 0])), (fr, .inl (cR, 8, .inr (.inr (.inr (.inr (fun _ => none)))))), (x, .inr (4, [.ref lb, .ref lr, .ref lk, .ref pn, .ref pp, .ref pq, .int 8, .float FP.fconst1, .float 1031798784, .int 0, .int 1, .int stp, .int 0, .ref wo, .ref re, .ref fr])), (lb, .inr (0, [.int 0, .ref ad, .int 0]))] H := hP
  have hD : va_D A [(lr, .inr (0, [.int 0, .ref ad, .int 0])), (fr, .inl (cR, 8, .inr (.inr (.inr (.inr (fun _ => none)))))), (x, .inr (4, [.ref lb, .ref lr, .ref lk, .ref pn, .ref pp, .ref pq, .int 8, .float FP.fconst1, .float 1031798784, .int 0, .int 1, .int stp, .int 0, .ref wo, .ref re, .ref fr])), (lb, .inr (0, [.int 0, .ref ad, .int 0]))] := hD
  have hK : va_K (dC, dI) vwCl [(cR, .object "IslandSolver$Row")] s := hK.sub [0] rfl
  refine lv_aload_n hx hb dX3_stepOnce_4 rfl (lv_at hl 0 rfl) ?_
  refine kc_callv (wc := [(x, .inr (4, [.ref lb, .ref lr, .ref lk, .ref pn, .ref pp, .ref pq, .int 8, .float FP.fconst1, .float 1031798784, .int 0, .int 1, .int stp, .int 0, .ref wo, .ref re, .ref fr])), (lb, .inr (0, [.int 0, .ref ad, .int 0]))]) (wr := [(lr, .inr (0, [.int 0, .ref ad, .int 0])), (fr, .inl (cR, 8, .inr (.inr (.inr (.inr (fun _ => none))))))]) (tyr := [(cR, .object "IslandSolver$Row")]) (va_runV (As := []) (rest := []) ⟨hx, hb, hml, hown, hts⟩ (c_rouseAwakeIslands l dC dI ad _ x lb lr lk pn pp pq stp wo re fr) (cwV 0 hts gX3_stepOnce_X3_rouseAwakeIslands rfl rfl rfl (by decide +kernel) ⟨Nat.le_of_ble_eq_true rfl, Nat.le_of_ble_eq_true rfl⟩) (kc_preV hP hD hK hS hA hE [2, 3] rfl (by decide) [] rfl 2 rfl rfl) rfl rfl hl.1 rfl (lv_room (Nat.le_of_ble_eq_true rfl)) dX3_stepOnce_5 ⟨Nat.le_of_ble_eq_true rfl, Nat.le_of_ble_eq_true rfl⟩) hP hD hK hS hA [2, 3] [0, 1] rfl rfl (by decide) (by decide) [0] rfl (fun u H locs hw hP hD hK hS => ?_)
  have hP : va_P (dC, dI) vwCl [(lr, .inr (0, [.int 0, .ref ad, .int 0])), (fr, .inl (cR, 8, .inr (.inr (.inr (.inr (fun _ => none)))))), (x, .inr (4, [.ref lb, .ref lr, .ref lk, .ref pn, .ref pp, .ref pq, .int 8, .float FP.fconst1, .float 1031798784, .int 0, .int 1, .int stp, .int 0, .ref wo, .ref re, .ref fr])), (lb, .inr (0, [.int 0, .ref ad, .int 0]))] H := hP
  have hD : va_D A [(lr, .inr (0, [.int 0, .ref ad, .int 0])), (fr, .inl (cR, 8, .inr (.inr (.inr (.inr (fun _ => none)))))), (x, .inr (4, [.ref lb, .ref lr, .ref lk, .ref pn, .ref pp, .ref pq, .int 8, .float FP.fconst1, .float 1031798784, .int 0, .int 1, .int stp, .int 0, .ref wo, .ref re, .ref fr])), (lb, .inr (0, [.int 0, .ref ad, .int 0]))] := hD
  have hK : va_K (dC, dI) vwCl [(cR, .object "IslandSolver$Row")] s := hK.sub [0] rfl
  refine lv_aload_n hx hb dX3_stepOnce_8 rfl (lv_at hl 0 rfl) ?_
  refine kc_callv (wc := [(x, .inr (4, [.ref lb, .ref lr, .ref lk, .ref pn, .ref pp, .ref pq, .int 8, .float FP.fconst1, .float 1031798784, .int 0, .int 1, .int stp, .int 0, .ref wo, .ref re, .ref fr]))]) (wr := [(lr, .inr (0, [.int 0, .ref ad, .int 0])), (fr, .inl (cR, 8, .inr (.inr (.inr (.inr (fun _ => none)))))), (lb, .inr (0, [.int 0, .ref ad, .int 0]))]) (tyr := [(cR, .object "IslandSolver$Row")]) (va_runV (As := []) (rest := []) ⟨hx, hb, hml, hown, hts⟩ (c_dealOutIslands l dC dI ad _ x lb lr lk pn pp pq stp wo re fr) (cwV 0 hts gX3_stepOnce_X3_dealOutIslands rfl rfl rfl (by decide +kernel) ⟨Nat.le_of_ble_eq_true rfl, Nat.le_of_ble_eq_true rfl⟩) (kc_preV hP hD hK hS hA hE [2] rfl (by decide) [] rfl 2 rfl rfl) rfl rfl hl.1 rfl (lv_room (Nat.le_of_ble_eq_true rfl)) dX3_stepOnce_9 ⟨Nat.le_of_ble_eq_true rfl, Nat.le_of_ble_eq_true rfl⟩) hP hD hK hS hA [2] [0, 1, 3] rfl rfl (by decide) (by decide) [0] rfl (fun u H locs hw hP hD hK hS => ?_)
  have hP : va_P (dC, dI) vwCl [(lr, .inr (0, [.int 0, .ref ad, .int 0])), (fr, .inl (cR, 8, .inr (.inr (.inr (.inr (fun _ => none)))))), (lb, .inr (0, [.int 0, .ref ad, .int 0])), (x, .inr (4, [.ref lb, .ref lr, .ref lk, .ref pn, .ref pp, .ref pq, .int 8, .float FP.fconst1, .float 1031798784, .int 0, .int 1, .int stp, .int 0, .ref wo, .ref re, .ref fr]))] H := hP
  have hD : va_D A [(lr, .inr (0, [.int 0, .ref ad, .int 0])), (fr, .inl (cR, 8, .inr (.inr (.inr (.inr (fun _ => none)))))), (lb, .inr (0, [.int 0, .ref ad, .int 0])), (x, .inr (4, [.ref lb, .ref lr, .ref lk, .ref pn, .ref pp, .ref pq, .int 8, .float FP.fconst1, .float 1031798784, .int 0, .int 1, .int stp, .int 0, .ref wo, .ref re, .ref fr]))] := hD
  have hK : va_K (dC, dI) vwCl [(cR, .object "IslandSolver$Row")] s := hK.sub [0] rfl
  refine lv_aload_n hx hb dX3_stepOnce_12 rfl (lv_at hl 0 rfl) ?_
  refine kc_callv (wc := [(x, .inr (4, [.ref lb, .ref lr, .ref lk, .ref pn, .ref pp, .ref pq, .int 8, .float FP.fconst1, .float 1031798784, .int 0, .int 1, .int stp, .int 0, .ref wo, .ref re, .ref fr])), (lr, .inr (0, [.int 0, .ref ad, .int 0])), (fr, .inl (cR, 8, .inr (.inr (.inr (.inr (fun _ => none))))))]) (wr := [(lb, .inr (0, [.int 0, .ref ad, .int 0]))]) (tyr := [(cR, .object "IslandSolver$Row")]) (va_runV (As := []) (rest := []) ⟨hx, hb, hml, hown, hts⟩ (c_dealOutRows l dC dI ad _ x lb lr lk pn pp pq stp wo re fr cR) (cwV 0 hts gX3_stepOnce_X3_dealOutRows rfl rfl rfl (by decide +kernel) ⟨Nat.le_of_ble_eq_true rfl, Nat.le_of_ble_eq_true rfl⟩) (kc_preV hP hD hK hS hA hE [3, 0, 1] rfl (by decide) [0] rfl 3 rfl rfl) rfl rfl hl.1 rfl (lv_room (Nat.le_of_ble_eq_true rfl)) dX3_stepOnce_13 ⟨Nat.le_of_ble_eq_true rfl, Nat.le_of_ble_eq_true rfl⟩) hP hD hK hS hA [3, 0, 1] [2] rfl rfl (by decide) (by decide) [0] rfl (fun u H locs hw hP hD hK hS => ?_)
  have hP : va_P (dC, dI) vwCl [(lb, .inr (0, [.int 0, .ref ad, .int 0])), (x, .inr (4, [.ref lb, .ref lr, .ref lk, .ref pn, .ref pp, .ref pq, .int 8, .float FP.fconst1, .float 1031798784, .int 0, .int 1, .int stp, .int 0, .ref wo, .ref re, .ref fr])), (lr, .inr (0, [.int 0, .ref ad, .int 0])), (fr, .inl (cR, 8, .inr (.inr (.inr (.inr (fun _ => none))))))] H := hP
  have hD : va_D A [(lb, .inr (0, [.int 0, .ref ad, .int 0])), (x, .inr (4, [.ref lb, .ref lr, .ref lk, .ref pn, .ref pp, .ref pq, .int 8, .float FP.fconst1, .float 1031798784, .int 0, .int 1, .int stp, .int 0, .ref wo, .ref re, .ref fr])), (lr, .inr (0, [.int 0, .ref ad, .int 0])), (fr, .inl (cR, 8, .inr (.inr (.inr (.inr (fun _ => none))))))] := hD
  have hK : va_K (dC, dI) vwCl [(cR, .object "IslandSolver$Row")] s := hK.sub [0] rfl
  refine lv_aload_n hx hb dX3_stepOnce_16 rfl (lv_at hl 0 rfl) ?_
  refine va_get (D := (dC, dI)) (ci := 4) (v := .int 1) (C := RX3) (T := TX3) (N := 16) hx hb hts i_X3 hown hK hP 1 rfl rfl 10 (by decide) (hts (.fieldLink RX3 50 "IslandSolver" "workerCount" "I") (by decide +kernel)) (fun _ h9 => h9) rfl dX3_stepOnce_17 ?_
  refine lv_iconst (v := 1) hx hb dX3_stepOnce_20 (by decide) ?_
  refine lv_isub hx hb dX3_stepOnce_21 ?_
  refine lv_topi (fun x_1 ex_1 => ?_)
  obtain rfl : x_1 = 0 := by rw [ex_1]; decide
  refine lv_istore_n (lv' := [(1, .int 0), (0, .ref x)]) hx hb dX3_stepOnce_22 rfl hl (by decide) rfl (fun ls hl => ?_)
  refine lv_iload_n hx hb dX3_stepOnce_23 rfl (lv_at hl 0 rfl) ?_
  refine lv_if_lt (tgt := 38) hx hb dX3_stepOnce_24 (by decide) (fun h9 => absurd h9 (by decide)) (fun _ => ?_)
  refine lv_aload_n hx hb dX3_stepOnce_27 rfl (lv_at hl 1 rfl) ?_
  refine lv_iload_n hx hb dX3_stepOnce_28 rfl (lv_at hl 0 rfl) ?_
  refine kc_callv (wc := [(x, .inr (4, [.ref lb, .ref lr, .ref lk, .ref pn, .ref pp, .ref pq, .int 8, .float FP.fconst1, .float 1031798784, .int 0, .int 1, .int stp, .int 0, .ref wo, .ref re, .ref fr])), (fr, .inl (cR, 8, .inr (.inr (.inr (.inr (fun _ => none))))))]) (wr := [(lb, .inr (0, [.int 0, .ref ad, .int 0])), (lr, .inr (0, [.int 0, .ref ad, .int 0]))]) (tyr := [(cR, .object "IslandSolver$Row")]) (va_runV (As := [.int 0]) (rest := []) ⟨hx, hb, hml, hown, hts⟩ (c_solveRowsOf l dC dI ad _ x lb lr lk pn pp pq stp wo re fr cR) (cwV 1 hts gX3_stepOnce_X3_solveRowsOf rfl rfl rfl (by decide +kernel) ⟨Nat.le_of_ble_eq_true rfl, Nat.le_of_ble_eq_true rfl⟩) (kc_preV hP hD hK hS hA hE [1, 3] rfl (by decide) [0] rfl 1 rfl rfl) rfl rfl hl.1 rfl (lv_room (Nat.le_of_ble_eq_true rfl)) dX3_stepOnce_29 ⟨Nat.le_of_ble_eq_true rfl, Nat.le_of_ble_eq_true rfl⟩) hP hD hK hS hA [1, 3] [0, 2] rfl rfl (by decide) (by decide) [0] rfl (fun u H locs hw hP hD hK hS => ?_)
  have hP : va_P (dC, dI) vwCl [(lb, .inr (0, [.int 0, .ref ad, .int 0])), (lr, .inr (0, [.int 0, .ref ad, .int 0])), (x, .inr (4, [.ref lb, .ref lr, .ref lk, .ref pn, .ref pp, .ref pq, .int 8, .float FP.fconst1, .float 1031798784, .int 0, .int 1, .int stp, .int 0, .ref wo, .ref re, .ref fr])), (fr, .inl (cR, 8, .inr (.inr (.inr (.inr (fun _ => none))))))] H := hP
  have hD : va_D A [(lb, .inr (0, [.int 0, .ref ad, .int 0])), (lr, .inr (0, [.int 0, .ref ad, .int 0])), (x, .inr (4, [.ref lb, .ref lr, .ref lk, .ref pn, .ref pp, .ref pq, .int 8, .float FP.fconst1, .float 1031798784, .int 0, .int 1, .int stp, .int 0, .ref wo, .ref re, .ref fr])), (fr, .inl (cR, 8, .inr (.inr (.inr (.inr (fun _ => none))))))] := hD
  have hK : va_K (dC, dI) vwCl [(cR, .object "IslandSolver$Row")] s := hK.sub [0] rfl
  refine lv_iinc (v := (-1)) (lv' := [(1, .int (-1)), (0, .ref x)]) hx hb dX3_stepOnce_32 hl (k := 0) rfl (by decide) (by decide) rfl (fun ls hl => ?_)
  refine lv_goto (tgt := 23) hx hb dX3_stepOnce_35 (by decide) ?_
  refine lv_iload_n hx hb dX3_stepOnce_23 rfl (lv_at hl 0 rfl) ?_
  refine lv_if_lt (tgt := 38) hx hb dX3_stepOnce_24 (by decide) (fun _ => ?_) (fun h9 => absurd h9 (by decide))
  refine lv_aload_n hx hb dX3_stepOnce_38 rfl (lv_at hl 1 rfl) ?_
  refine kc_callv (wc := [(x, .inr (4, [.ref lb, .ref lr, .ref lk, .ref pn, .ref pp, .ref pq, .int 8, .float FP.fconst1, .float 1031798784, .int 0, .int 1, .int stp, .int 0, .ref wo, .ref re, .ref fr])), (lb, .inr (0, [.int 0, .ref ad, .int 0]))]) (wr := [(lr, .inr (0, [.int 0, .ref ad, .int 0])), (fr, .inl (cR, 8, .inr (.inr (.inr (.inr (fun _ => none))))))]) (tyr := [(cR, .object "IslandSolver$Row")]) (va_runV (As := []) (rest := []) ⟨hx, hb, hml, hown, hts⟩ (c_settleBodies l dC dI ad _ x lb lr lk pn pp pq stp wo re fr) (cwV 0 hts gX3_stepOnce_X3_settleBodies rfl rfl rfl (by decide +kernel) ⟨Nat.le_of_ble_eq_true rfl, Nat.le_of_ble_eq_true rfl⟩) (kc_preV hP hD hK hS hA hE [2, 0] rfl (by decide) [] rfl 2 rfl rfl) rfl rfl hl.1 rfl (lv_room (Nat.le_of_ble_eq_true rfl)) dX3_stepOnce_39 ⟨Nat.le_of_ble_eq_true rfl, Nat.le_of_ble_eq_true rfl⟩) hP hD hK hS hA [2, 0] [1, 3] rfl rfl (by decide) (by decide) [0] rfl (fun u H locs hw hP hD hK hS => ?_)
  have hP : va_P (dC, dI) vwCl [(lr, .inr (0, [.int 0, .ref ad, .int 0])), (fr, .inl (cR, 8, .inr (.inr (.inr (.inr (fun _ => none)))))), (x, .inr (4, [.ref lb, .ref lr, .ref lk, .ref pn, .ref pp, .ref pq, .int 8, .float FP.fconst1, .float 1031798784, .int 0, .int 1, .int stp, .int 0, .ref wo, .ref re, .ref fr])), (lb, .inr (0, [.int 0, .ref ad, .int 0]))] H := hP
  have hD : va_D A [(lr, .inr (0, [.int 0, .ref ad, .int 0])), (fr, .inl (cR, 8, .inr (.inr (.inr (.inr (fun _ => none)))))), (x, .inr (4, [.ref lb, .ref lr, .ref lk, .ref pn, .ref pp, .ref pq, .int 8, .float FP.fconst1, .float 1031798784, .int 0, .int 1, .int stp, .int 0, .ref wo, .ref re, .ref fr])), (lb, .inr (0, [.int 0, .ref ad, .int 0]))] := hD
  have hK : va_K (dC, dI) vwCl [(cR, .object "IslandSolver$Row")] s := hK.sub [0] rfl
  refine lv_aload_n hx hb dX3_stepOnce_42 rfl (lv_at hl 1 rfl) ?_
  refine va_get (D := (dC, dI)) (ci := 4) (v := .int 0) (C := RX3) (T := TX3) (N := 16) hx hb hts i_X3 hown hK hP 2 rfl rfl 9 (by decide) (hts (.fieldLink RX3 47 "IslandSolver" "still" "I") (by decide +kernel)) (fun _ h9 => h9) rfl dX3_stepOnce_43 ?_
  refine lv_if_le (tgt := 57) hx hb dX3_stepOnce_46 (by decide) (fun _ => ?_) (fun h9 => absurd h9 (by decide))
  refine lv_aload_n hx hb dX3_stepOnce_57 rfl (lv_at hl 1 rfl) ?_
  refine lv_dup hx hb dX3_stepOnce_58 rfl ?_
  refine va_get (D := (dC, dI)) (ci := 4) (v := .int stp) (C := RX3) (T := TX3) (N := 16) hx hb hts i_X3 hown hK hP 2 rfl rfl 11 (by decide) (hts (.fieldLink RX3 53 "IslandSolver" "steps" "I") (by decide +kernel)) (fun _ h9 => h9) rfl dX3_stepOnce_59 ?_
  refine lv_iconst (v := 1) hx hb dX3_stepOnce_62 (by decide) ?_
  refine lv_iadd hx hb dX3_stepOnce_63 ?_
  refine lv_topi (fun x_2 ex_2 => ?_)
  refine va_put (D := (dC, dI)) (ci := 4) (v := .int x_2) (ty := .int) (C := RX3) (T := TX3) (N := 16) hx hb hts i_X3 tyX3 tyX3_ok nmX3 hown hK hP hD hS 2 rfl rfl 11 (by decide) (hts (.fieldLink RX3 53 "IslandSolver" "steps" "I") (by decide +kernel)) (fun _ h9 => h9) rfl (by decide +kernel) rfl rfl (Nat.le_of_ble_eq_true rfl) dX3_stepOnce_64 (fun H locs hP hD hS => ?_)
  have hP : va_P (dC, dI) vwCl [(lr, .inr (0, [.int 0, .ref ad, .int 0])), (fr, .inl (cR, 8, .inr (.inr (.inr (.inr (fun _ => none)))))), (x, .inr (4, [.ref lb, .ref lr, .ref lk, .ref pn, .ref pp, .ref pq, .int 8, .float FP.fconst1, .float 1031798784, .int 0, .int 1, .int x_2, .int 0, .ref wo, .ref re, .ref fr])), (lb, .inr (0, [.int 0, .ref ad, .int 0]))] H := hP
  have hD : va_D A [(lr, .inr (0, [.int 0, .ref ad, .int 0])), (fr, .inl (cR, 8, .inr (.inr (.inr (.inr (fun _ => none)))))), (x, .inr (4, [.ref lb, .ref lr, .ref lk, .ref pn, .ref pp, .ref pq, .int 8, .float FP.fconst1, .float 1031798784, .int 0, .int 1, .int x_2, .int 0, .ref wo, .ref re, .ref fr])), (lb, .inr (0, [.int 0, .ref ad, .int 0]))] := hD
  refine W.widen (k := 0) (n := 0) (Nat.le_of_ble_eq_true rfl) (Nat.le_of_ble_eq_true rfl) ?_
  have hP9 := hP.sub (ws' := [(x, .inr (4, [.ref lb, .ref lr, .ref lk, .ref pn, .ref pp, .ref pq, .int 8, .float FP.fconst1, .float 1031798784, .int 0, .int 1, .int x_2, .int 0, .ref wo, .ref re, .ref fr])), (lb, .inr (0, [.int 0, .ref ad, .int 0])), (lr, .inr (0, [.int 0, .ref ad, .int 0])), (fr, .inl (cR, 8, .inr (.inr (.inr (.inr (fun _ => none))))))]) [2, 3, 0, 1] rfl
  have hD9 := hD.sub (ws' := [(x, .inr (4, [.ref lb, .ref lr, .ref lk, .ref pn, .ref pp, .ref pq, .int 8, .float FP.fconst1, .float 1031798784, .int 0, .int 1, .int x_2, .int 0, .ref wo, .ref re, .ref fr])), (lb, .inr (0, [.int 0, .ref ad, .int 0])), (lr, .inr (0, [.int 0, .ref ad, .int 0])), (fr, .inl (cR, 8, .inr (.inr (.inr (.inr (fun _ => none))))))]) [2, 3, 0, 1] (by decide) rfl
  have hK9 := hK.sub (tys' := [(cR, .object "IslandSolver$Row")]) [0] rfl
  exact W.vret hx hb hr (fun t ht hW => ⟨⟨x_2, rfl, trivial, by rw [ht]; exact hP9, va_K.moved hW.alike hK9, hD9⟩, hS.F ht⟩) hS.2.2 dX3_stepOnce_67
set_option maxHeartbeats 4000000 in
set_option maxRecDepth 100000 in
theorem c_lclear (l : Launch) (dC : Nat → ClassId) (dI : Nat → Nat → Nat) (ad sz : Nat) (h : Nat) (mo : Int32) (ea : Nat) : Met l yJx4a65c_clear_da8c8 wsJx4a65c_clear_da8c8 ({ frames := 0, cells := 0, slots := 0, locals := 0 } : Room) (va_Pc [.ref h] (kc_B (dC, dI) vwCl ad sz [(h, .inr (0, [.int mo, .ref ea, .int 0]))] [])) (va_Qv (fun _ => True) (kc_R (S := Int32) (dC, dI) vwCl (va_A [(h, .inr (0, [.int mo, .ref ea, .int 0]))] sz) (fun u => [(h, .inr (0, [.int u, .ref ea, .int 0]))]) (fun _ => [])) (va_A [(h, .inr (0, [.int mo, .ref ea, .int 0]))] sz)) 0 0 (va_A [(h, .inr (0, [.int mo, .ref ea, .int 0]))] sz) := by
  refine Met.ofW (cc := cJx4a65c_clear_da8c8) (maxL := 4) (ret := none) (by decide) rfl ?_
  intro p e s m args below meth c s₁ B hml hv
  obtain ⟨rfl, hsz, hP, hK, hD0, hE⟩ := hv
  have hx := B.exec
  have hb := B.bytes
  have hr := B.returns
  have hts := atoms_spec (ws := wsJx4a65c_clear_da8c8) B.pre
  have hown : s.vm.findClass RJx4a65c = some m.cls := findClass_of_methodNamed B.named
  have hlocks := B.notSynchronized
  have i_Jx4a65c : ∀ w ∈ u_ws RJx4a65c TJx4a65c 3, w ∈ wsJx4a65c_clear_da8c8 := (by decide +kernel)
  subst hsz
  have hD := hD0.self (sz := s.heap.size)
  generalize hAe : va_A [(h, .inr (0, [.int mo, .ref ea, .int 0]))] s.heap.size = A at hD hE ⊢
  have hA : ∀ q : Nat, s.heap.size ≤ q → A q := fun q h => by rw [← hAe]; exact Or.inr h
  have hS : va_S A s.heap s.heap [] := va_S.rf
  have hP : va_P (dC, dI) vwCl [(h, .inr (0, [.int mo, .ref ea, .int 0]))] s.heap := hP
  have hl := lv_entry ([.ref h]) (n := 4) (Nat.le_of_ble_eq_true rfl)
  rw [lg_entry_eq]
  generalize (lg_sl ([.ref h]) ++ List.replicate (4 - (lg_sl ([.ref h])).length) Slot.unset).toArray = ls at hl ⊢
  have hl : lv_has ls 4 [(0, .ref h)] := hl
  refine lv_aload_n hx hb dJx4a65c_clear_da8c8_0 rfl (lv_at hl 0 rfl) ?_
  refine lv_dup hx hb dJx4a65c_clear_da8c8_1 rfl ?_
  refine va_get (D := (dC, dI)) (ci := 0) (v := .int mo) (C := RJx4a65c) (T := TJx4a65c) (N := 3) hx hb hts i_Jx4a65c hown hK hP 0 rfl rfl 0 (by decide) (hts (.fieldLink RJx4a65c 63 "java/util/ArrayList" "modCount" "I") (by decide +kernel)) (fun _ h9 => u_same (hts (.sameField "java/util/ArrayList" "java/util/AbstractList" "modCount" "I") (by decide +kernel)) _ h9) rfl dJx4a65c_clear_da8c8_2 ?_
  refine lv_iconst (v := 1) hx hb dJx4a65c_clear_da8c8_5 (by decide) ?_
  refine lv_iadd hx hb dJx4a65c_clear_da8c8_6 ?_
  refine lv_topi (fun x_1 ex_1 => ?_)
  refine va_put (D := (dC, dI)) (ci := 0) (v := .int x_1) (ty := .int) (C := RJx4a65c) (T := TJx4a65c) (N := 3) hx hb hts i_Jx4a65c tyJx4a65c tyJx4a65c_ok nmJx4a65c hown hK hP hD hS 0 rfl rfl 0 (by decide) (hts (.fieldLink RJx4a65c 63 "java/util/ArrayList" "modCount" "I") (by decide +kernel)) (fun _ h9 => u_same (hts (.sameField "java/util/ArrayList" "java/util/AbstractList" "modCount" "I") (by decide +kernel)) _ h9) rfl (by decide +kernel) rfl rfl (Nat.le_of_ble_eq_true rfl) dJx4a65c_clear_da8c8_7 (fun H locs hP hD hS => ?_)
  have hP : va_P (dC, dI) vwCl [(h, .inr (0, [.int x_1, .ref ea, .int 0]))] H := hP
  have hD : va_D A [(h, .inr (0, [.int x_1, .ref ea, .int 0]))] := hD
  refine lv_aload_n hx hb dJx4a65c_clear_da8c8_10 rfl (lv_at hl 0 rfl) ?_
  refine va_get (D := (dC, dI)) (ci := 0) (v := .ref ea) (C := RJx4a65c) (T := TJx4a65c) (N := 3) hx hb hts i_Jx4a65c hown hK hP 0 rfl rfl 1 (by decide) (hts (.fieldLink RJx4a65c 9 "java/util/ArrayList" "elementData" "[Ljava/lang/Object;") (by decide +kernel)) (fun _ h9 => h9) rfl dJx4a65c_clear_da8c8_11 ?_
  refine lv_astore_n (lv' := [(1, .ref ea), (0, .ref h)]) hx hb dJx4a65c_clear_da8c8_14 rfl hl (by decide) rfl (fun ls hl => ?_)
  refine lv_aload_n hx hb dJx4a65c_clear_da8c8_15 rfl (lv_at hl 1 rfl) ?_
  refine va_get (D := (dC, dI)) (ci := 0) (v := .int 0) (C := RJx4a65c) (T := TJx4a65c) (N := 3) hx hb hts i_Jx4a65c hown hK hP 0 rfl rfl 2 (by decide) (hts (.fieldLink RJx4a65c 48 "java/util/ArrayList" "size" "I") (by decide +kernel)) (fun _ h9 => h9) rfl dJx4a65c_clear_da8c8_16 ?_
  refine lv_istore_n (lv' := [(2, .int 0), (1, .ref ea), (0, .ref h)]) hx hb dJx4a65c_clear_da8c8_19 rfl hl (by decide) rfl (fun ls hl => ?_)
  refine lv_aload_n hx hb dJx4a65c_clear_da8c8_20 rfl (lv_at hl 2 rfl) ?_
  refine lv_iconst (v := 0) hx hb dJx4a65c_clear_da8c8_21 (by decide) ?_
  refine lv_dup_x1 hx hb dJx4a65c_clear_da8c8_22 rfl rfl ?_
  refine va_put (D := (dC, dI)) (ci := 0) (v := .int 0) (ty := .int) (C := RJx4a65c) (T := TJx4a65c) (N := 3) hx hb hts i_Jx4a65c tyJx4a65c tyJx4a65c_ok nmJx4a65c hown hK hP hD hS 0 rfl rfl 2 (by decide) (hts (.fieldLink RJx4a65c 48 "java/util/ArrayList" "size" "I") (by decide +kernel)) (fun _ h9 => h9) rfl (by decide +kernel) rfl rfl (Nat.le_of_ble_eq_true rfl) dJx4a65c_clear_da8c8_23 (fun H locs hP hD hS => ?_)
  have hP : va_P (dC, dI) vwCl [(h, .inr (0, [.int x_1, .ref ea, .int 0]))] H := hP
  have hD : va_D A [(h, .inr (0, [.int x_1, .ref ea, .int 0]))] := hD
  refine lv_istore_n (lv' := [(3, .int 0), (2, .int 0), (1, .ref ea), (0, .ref h)]) hx hb dJx4a65c_clear_da8c8_26 rfl hl (by decide) rfl (fun ls hl => ?_)
  refine lv_iload_n hx hb dJx4a65c_clear_da8c8_27 rfl (lv_at hl 0 rfl) ?_
  refine lv_iload_n hx hb dJx4a65c_clear_da8c8_28 rfl (lv_at hl 1 rfl) ?_
  refine lv_icmp_ge (tgt := 42) hx hb dJx4a65c_clear_da8c8_29 (by decide) (fun _ => ?_) (fun h9 => absurd h9 (by decide))
  refine W.widen (k := 0) (n := 0) (Nat.le_of_ble_eq_true rfl) (Nat.le_of_ble_eq_true rfl) ?_
  have hP9 := hP.sub (ws' := [(h, .inr (0, [.int x_1, .ref ea, .int 0]))]) [0] rfl
  have hD9 := hD.sub (ws' := [(h, .inr (0, [.int x_1, .ref ea, .int 0]))]) [0] (by decide) rfl
  have hK9 := hK.sub (tys' := []) [] rfl
  exact W.vret hx hb hr (fun t ht hW => ⟨⟨x_1, rfl, trivial, by rw [ht]; exact hP9, va_K.moved hW.alike hK9, hD9⟩, hS.F ht⟩) hS.2.2 dJx4a65c_clear_da8c8_42
set_option maxHeartbeats 4000000 in
set_option maxRecDepth 100000 in
theorem c_clear (l : Launch) (dC : Nat → ClassId) (dI : Nat → Nat → Nat) (ad sz : Nat) (x : Nat) (lb : Nat) (lr : Nat) (lk : Nat) (pn : Nat) (pp : Nat) (pq : Nat) (stp : Int32) (wo : Nat) (re : Nat) (fr : Nat) : Met l yX3_clear wsX3_clear ({ frames := 1, cells := 0, slots := 0, locals := 23 } : Room) (va_Pc [.ref x] (kc_B (dC, dI) vwCl ad sz [(x, .inr (4, [.ref lb, .ref lr, .ref lk, .ref pn, .ref pp, .ref pq, .int 8, .float FP.fconst1, .float 1031798784, .int 0, .int 1, .int stp, .int 0, .ref wo, .ref re, .ref fr])), (lb, .inr (0, [.int 0, .ref ad, .int 0])), (lr, .inr (0, [.int 0, .ref ad, .int 0])), (lk, .inr (0, [.int 0, .ref ad, .int 0]))] [])) (va_Qi (fun r _ => r = 0) (kc_R (S := Unit) (dC, dI) vwCl (va_A [(x, .inr (4, [.ref lb, .ref lr, .ref lk, .ref pn, .ref pp, .ref pq, .int 8, .float FP.fconst1, .float 1031798784, .int 0, .int 1, .int stp, .int 0, .ref wo, .ref re, .ref fr])), (lb, .inr (0, [.int 0, .ref ad, .int 0])), (lr, .inr (0, [.int 0, .ref ad, .int 0])), (lk, .inr (0, [.int 0, .ref ad, .int 0]))] sz) (fun _ => []) (fun _ => [])) (va_A [(x, .inr (4, [.ref lb, .ref lr, .ref lk, .ref pn, .ref pp, .ref pq, .int 8, .float FP.fconst1, .float 1031798784, .int 0, .int 1, .int stp, .int 0, .ref wo, .ref re, .ref fr])), (lb, .inr (0, [.int 0, .ref ad, .int 0])), (lr, .inr (0, [.int 0, .ref ad, .int 0])), (lk, .inr (0, [.int 0, .ref ad, .int 0]))] sz)) 0 0 (va_A [(x, .inr (4, [.ref lb, .ref lr, .ref lk, .ref pn, .ref pp, .ref pq, .int 8, .float FP.fconst1, .float 1031798784, .int 0, .int 1, .int stp, .int 0, .ref wo, .ref re, .ref fr])), (lb, .inr (0, [.int 0, .ref ad, .int 0])), (lr, .inr (0, [.int 0, .ref ad, .int 0])), (lk, .inr (0, [.int 0, .ref ad, .int 0]))] sz) := by
  refine Met.ofW (cc := cX3_clear) (maxL := 4) (ret := (some .int)) (by decide) rfl ?_
  intro p e s m args below meth c s₁ B hml hv
  obtain ⟨rfl, hsz, hP, hK, hD0, hE⟩ := hv
  have hx := B.exec
  have hb := B.bytes
  have hr := B.returns
  have hts := atoms_spec (ws := wsX3_clear) B.pre
  have hown : s.vm.findClass RX3 = some m.cls := findClass_of_methodNamed B.named
  have hlocks := B.notSynchronized
  have i_X3 : ∀ w ∈ u_ws RX3 TX3 16, w ∈ wsX3_clear := (by decide +kernel)
  subst hsz
  have hD := hD0.self (sz := s.heap.size)
  generalize hAe : va_A [(x, .inr (4, [.ref lb, .ref lr, .ref lk, .ref pn, .ref pp, .ref pq, .int 8, .float FP.fconst1, .float 1031798784, .int 0, .int 1, .int stp, .int 0, .ref wo, .ref re, .ref fr])), (lb, .inr (0, [.int 0, .ref ad, .int 0])), (lr, .inr (0, [.int 0, .ref ad, .int 0])), (lk, .inr (0, [.int 0, .ref ad, .int 0]))] s.heap.size = A at hD hE ⊢
  have hA : ∀ q : Nat, s.heap.size ≤ q → A q := fun q h => by rw [← hAe]; exact Or.inr h
  have hS : va_S A s.heap s.heap [] := va_S.rf
  have hP : va_P (dC, dI) vwCl [(x, .inr (4, [.ref lb, .ref lr, .ref lk, .ref pn, .ref pp, .ref pq, .int 8, .float FP.fconst1, .float 1031798784, .int 0, .int 1, .int stp, .int 0, .ref wo, .ref re, .ref fr])), (lb, .inr (0, [.int 0, .ref ad, .int 0])), (lr, .inr (0, [.int 0, .ref ad, .int 0])), (lk, .inr (0, [.int 0, .ref ad, .int 0]))] s.heap := hP
  have hl := lv_entry ([.ref x]) (n := 4) (Nat.le_of_ble_eq_true rfl)
  rw [lg_entry_eq]
  generalize (lg_sl ([.ref x]) ++ List.replicate (4 - (lg_sl ([.ref x])).length) Slot.unset).toArray = ls at hl ⊢
  have hl : lv_has ls 4 [(0, .ref x)] := hl
  refine lv_aload_n hx hb dX3_clear_0 rfl (lv_at hl 0 rfl) ?_
  refine va_get (D := (dC, dI)) (ci := 4) (v := .ref lr) (C := RX3) (T := TX3) (N := 16) hx hb hts i_X3 hown hK hP 0 rfl rfl 1 (by decide) (hts (.fieldLink RX3 16 "IslandSolver" "rows" "Ljava/util/ArrayList;") (by decide +kernel)) (fun _ h9 => h9) rfl dX3_clear_1 ?_
  refine kc_calli (wc := [(lr, .inr (0, [.int 0, .ref ad, .int 0]))]) (wr := [(x, .inr (4, [.ref lb, .ref lr, .ref lk, .ref pn, .ref pp, .ref pq, .int 8, .float FP.fconst1, .float 1031798784, .int 0, .int 1, .int stp, .int 0, .ref wo, .ref re, .ref fr])), (lb, .inr (0, [.int 0, .ref ad, .int 0])), (lk, .inr (0, [.int 0, .ref ad, .int 0]))]) (tyr := []) (va_runV (As := []) (rest := []) ⟨hx, hb, hml, hown, hts⟩ (c_size l dC dI ad _ lr 0 ad 0) (cwV 0 hts gX3_clear_Jx4a65c_size_8abf5 rfl rfl rfl (by decide +kernel) ⟨Nat.le_of_ble_eq_true rfl, Nat.le_of_ble_eq_true rfl⟩) (kc_preV hP hD hK hS hA hE [2] rfl (by decide) [] rfl 2 rfl rfl) rfl rfl hl.1 rfl (lv_room (Nat.le_of_ble_eq_true rfl)) dX3_clear_4 ⟨Nat.le_of_ble_eq_true rfl, Nat.le_of_ble_eq_true rfl⟩) hP hD hK hS hA [2] [0, 1, 3] rfl rfl (by decide) (by decide) [] rfl (fun r_1 u H locs hw hP hD hK hS => ?_)
  subst hw
  have hP : va_P (dC, dI) vwCl [(x, .inr (4, [.ref lb, .ref lr, .ref lk, .ref pn, .ref pp, .ref pq, .int 8, .float FP.fconst1, .float 1031798784, .int 0, .int 1, .int stp, .int 0, .ref wo, .ref re, .ref fr])), (lb, .inr (0, [.int 0, .ref ad, .int 0])), (lk, .inr (0, [.int 0, .ref ad, .int 0])), (lr, .inr (0, [.int 0, .ref ad, .int 0]))] H := hP
  have hD : va_D A [(x, .inr (4, [.ref lb, .ref lr, .ref lk, .ref pn, .ref pp, .ref pq, .int 8, .float FP.fconst1, .float 1031798784, .int 0, .int 1, .int stp, .int 0, .ref wo, .ref re, .ref fr])), (lb, .inr (0, [.int 0, .ref ad, .int 0])), (lk, .inr (0, [.int 0, .ref ad, .int 0])), (lr, .inr (0, [.int 0, .ref ad, .int 0]))] := hD
  have hK : va_K (dC, dI) vwCl [] s := hK.sub [] rfl
  refine lv_istore_n (lv' := [(1, .int 0), (0, .ref x)]) hx hb dX3_clear_7 rfl hl (by decide) rfl (fun ls hl => ?_)
  refine lv_aload_n hx hb dX3_clear_8 rfl (lv_at hl 1 rfl) ?_
  refine va_get (D := (dC, dI)) (ci := 4) (v := .ref lk) (C := RX3) (T := TX3) (N := 16) hx hb hts i_X3 hown hK hP 0 rfl rfl 2 (by decide) (hts (.fieldLink RX3 19 "IslandSolver" "kept" "Ljava/util/ArrayList;") (by decide +kernel)) (fun _ h9 => h9) rfl dX3_clear_9 ?_
  refine lv_astore_n (lv' := [(2, .ref lk), (1, .int 0), (0, .ref x)]) hx hb dX3_clear_12 rfl hl (by decide) rfl (fun ls hl => ?_)
  refine lv_aload_n hx hb dX3_clear_13 rfl (lv_at hl 0 rfl) ?_
  refine kc_callv (wc := [(lk, .inr (0, [.int 0, .ref ad, .int 0]))]) (wr := [(x, .inr (4, [.ref lb, .ref lr, .ref lk, .ref pn, .ref pp, .ref pq, .int 8, .float FP.fconst1, .float 1031798784, .int 0, .int 1, .int stp, .int 0, .ref wo, .ref re, .ref fr])), (lb, .inr (0, [.int 0, .ref ad, .int 0])), (lr, .inr (0, [.int 0, .ref ad, .int 0]))]) (tyr := []) (va_runV (As := []) (rest := []) ⟨hx, hb, hml, hown, hts⟩ (c_lclear l dC dI ad _ lk 0 ad) (cwV 0 hts gX3_clear_Jx4a65c_clear_da8c8 rfl rfl rfl (by decide +kernel) ⟨Nat.le_of_ble_eq_true rfl, Nat.le_of_ble_eq_true rfl⟩) (kc_preV hP hD hK hS hA hE [2] rfl (by decide) [] rfl 2 rfl rfl) rfl rfl hl.1 rfl (lv_room (Nat.le_of_ble_eq_true rfl)) dX3_clear_14 ⟨Nat.le_of_ble_eq_true rfl, Nat.le_of_ble_eq_true rfl⟩) hP hD hK hS hA [2] [0, 1, 3] rfl rfl (by decide) (by decide) [] rfl (fun u H locs hw hP hD hK hS => ?_)
  obtain ⟨u_2, rfl⟩ : ∃ z, z = u := ⟨_, rfl⟩
  have hP : va_P (dC, dI) vwCl [(x, .inr (4, [.ref lb, .ref lr, .ref lk, .ref pn, .ref pp, .ref pq, .int 8, .float FP.fconst1, .float 1031798784, .int 0, .int 1, .int stp, .int 0, .ref wo, .ref re, .ref fr])), (lb, .inr (0, [.int 0, .ref ad, .int 0])), (lr, .inr (0, [.int 0, .ref ad, .int 0])), (lk, .inr (0, [.int u_2, .ref ad, .int 0]))] H := hP
  have hD : va_D A [(x, .inr (4, [.ref lb, .ref lr, .ref lk, .ref pn, .ref pp, .ref pq, .int 8, .float FP.fconst1, .float 1031798784, .int 0, .int 1, .int stp, .int 0, .ref wo, .ref re, .ref fr])), (lb, .inr (0, [.int 0, .ref ad, .int 0])), (lr, .inr (0, [.int 0, .ref ad, .int 0])), (lk, .inr (0, [.int u_2, .ref ad, .int 0]))] := hD
  have hK : va_K (dC, dI) vwCl [] s := hK.sub [] rfl
  refine lv_aload_n hx hb dX3_clear_17 rfl (lv_at hl 2 rfl) ?_
  refine lv_aload_n hx hb dX3_clear_18 rfl (lv_at hl 2 rfl) ?_
  refine va_get (D := (dC, dI)) (ci := 4) (v := .ref lr) (C := RX3) (T := TX3) (N := 16) hx hb hts i_X3 hown hK hP 0 rfl rfl 1 (by decide) (hts (.fieldLink RX3 16 "IslandSolver" "rows" "Ljava/util/ArrayList;") (by decide +kernel)) (fun _ h9 => h9) rfl dX3_clear_19 ?_
  refine va_put (D := (dC, dI)) (ci := 4) (v := .ref lr) (ty := .object "java/util/ArrayList") (C := RX3) (T := TX3) (N := 16) hx hb hts i_X3 tyX3 tyX3_ok nmX3 hown hK hP hD hS 0 rfl rfl 2 (by decide) (hts (.fieldLink RX3 19 "IslandSolver" "kept" "Ljava/util/ArrayList;") (by decide +kernel)) (fun _ h9 => h9) rfl (by decide +kernel) rfl rfl (Nat.le_of_ble_eq_true rfl) dX3_clear_22 (fun H locs hP hD hS => ?_)
  have hP : va_P (dC, dI) vwCl [(x, .inr (4, [.ref lb, .ref lr, .ref lr, .ref pn, .ref pp, .ref pq, .int 8, .float FP.fconst1, .float 1031798784, .int 0, .int 1, .int stp, .int 0, .ref wo, .ref re, .ref fr])), (lb, .inr (0, [.int 0, .ref ad, .int 0])), (lr, .inr (0, [.int 0, .ref ad, .int 0])), (lk, .inr (0, [.int u_2, .ref ad, .int 0]))] H := hP
  have hD : va_D A [(x, .inr (4, [.ref lb, .ref lr, .ref lr, .ref pn, .ref pp, .ref pq, .int 8, .float FP.fconst1, .float 1031798784, .int 0, .int 1, .int stp, .int 0, .ref wo, .ref re, .ref fr])), (lb, .inr (0, [.int 0, .ref ad, .int 0])), (lr, .inr (0, [.int 0, .ref ad, .int 0])), (lk, .inr (0, [.int u_2, .ref ad, .int 0]))] := hD
  refine lv_aload_n hx hb dX3_clear_25 rfl (lv_at hl 2 rfl) ?_
  refine lv_aload_n hx hb dX3_clear_26 rfl (lv_at hl 0 rfl) ?_
  refine va_put (D := (dC, dI)) (ci := 4) (v := .ref lk) (ty := .object "java/util/ArrayList") (C := RX3) (T := TX3) (N := 16) hx hb hts i_X3 tyX3 tyX3_ok nmX3 hown hK hP hD hS 0 rfl rfl 1 (by decide) (hts (.fieldLink RX3 16 "IslandSolver" "rows" "Ljava/util/ArrayList;") (by decide +kernel)) (fun _ h9 => h9) rfl (by decide +kernel) rfl rfl (Nat.le_of_ble_eq_true rfl) dX3_clear_27 (fun H locs hP hD hS => ?_)
  have hP : va_P (dC, dI) vwCl [(x, .inr (4, [.ref lb, .ref lk, .ref lr, .ref pn, .ref pp, .ref pq, .int 8, .float FP.fconst1, .float 1031798784, .int 0, .int 1, .int stp, .int 0, .ref wo, .ref re, .ref fr])), (lb, .inr (0, [.int 0, .ref ad, .int 0])), (lr, .inr (0, [.int 0, .ref ad, .int 0])), (lk, .inr (0, [.int u_2, .ref ad, .int 0]))] H := hP
  have hD : va_D A [(x, .inr (4, [.ref lb, .ref lk, .ref lr, .ref pn, .ref pp, .ref pq, .int 8, .float FP.fconst1, .float 1031798784, .int 0, .int 1, .int stp, .int 0, .ref wo, .ref re, .ref fr])), (lb, .inr (0, [.int 0, .ref ad, .int 0])), (lr, .inr (0, [.int 0, .ref ad, .int 0])), (lk, .inr (0, [.int u_2, .ref ad, .int 0]))] := hD
  refine lv_iconst (v := 0) hx hb dX3_clear_30 (by decide) ?_
  refine lv_istore_n (lv' := [(3, .int 0), (2, .ref lk), (1, .int 0), (0, .ref x)]) hx hb dX3_clear_31 rfl hl (by decide) rfl (fun ls hl => ?_)
  refine lv_iload_n hx hb dX3_clear_32 rfl (lv_at hl 0 rfl) ?_
  refine lv_aload_n hx hb dX3_clear_33 rfl (lv_at hl 3 rfl) ?_
  refine va_get (D := (dC, dI)) (ci := 4) (v := .ref lb) (C := RX3) (T := TX3) (N := 16) hx hb hts i_X3 hown hK hP 0 rfl rfl 0 (by decide) (hts (.fieldLink RX3 10 "IslandSolver" "bodies" "Ljava/util/ArrayList;") (by decide +kernel)) (fun _ h9 => h9) rfl dX3_clear_34 ?_
  refine kc_calli (wc := [(lb, .inr (0, [.int 0, .ref ad, .int 0]))]) (wr := [(x, .inr (4, [.ref lb, .ref lk, .ref lr, .ref pn, .ref pp, .ref pq, .int 8, .float FP.fconst1, .float 1031798784, .int 0, .int 1, .int stp, .int 0, .ref wo, .ref re, .ref fr])), (lr, .inr (0, [.int 0, .ref ad, .int 0])), (lk, .inr (0, [.int u_2, .ref ad, .int 0]))]) (tyr := []) (va_runV (As := []) (rest := [.int 0]) ⟨hx, hb, hml, hown, hts⟩ (c_size l dC dI ad _ lb 0 ad 0) (cwV 0 hts gX3_clear_Jx4a65c_size_8abf5 rfl rfl rfl (by decide +kernel) ⟨Nat.le_of_ble_eq_true rfl, Nat.le_of_ble_eq_true rfl⟩) (kc_preV hP hD hK hS hA hE [1] rfl (by decide) [] rfl 1 rfl rfl) rfl rfl hl.1 rfl (lv_room (Nat.le_of_ble_eq_true rfl)) dX3_clear_37 ⟨Nat.le_of_ble_eq_true rfl, Nat.le_of_ble_eq_true rfl⟩) hP hD hK hS hA [1] [0, 2, 3] rfl rfl (by decide) (by decide) [] rfl (fun r_3 u H locs hw hP hD hK hS => ?_)
  subst hw
  have hP : va_P (dC, dI) vwCl [(x, .inr (4, [.ref lb, .ref lk, .ref lr, .ref pn, .ref pp, .ref pq, .int 8, .float FP.fconst1, .float 1031798784, .int 0, .int 1, .int stp, .int 0, .ref wo, .ref re, .ref fr])), (lr, .inr (0, [.int 0, .ref ad, .int 0])), (lk, .inr (0, [.int u_2, .ref ad, .int 0])), (lb, .inr (0, [.int 0, .ref ad, .int 0]))] H := hP
  have hD : va_D A [(x, .inr (4, [.ref lb, .ref lk, .ref lr, .ref pn, .ref pp, .ref pq, .int 8, .float FP.fconst1, .float 1031798784, .int 0, .int 1, .int stp, .int 0, .ref wo, .ref re, .ref fr])), (lr, .inr (0, [.int 0, .ref ad, .int 0])), (lk, .inr (0, [.int u_2, .ref ad, .int 0])), (lb, .inr (0, [.int 0, .ref ad, .int 0]))] := hD
  have hK : va_K (dC, dI) vwCl [] s := hK.sub [] rfl
  refine lv_icmp_ge (tgt := 63) hx hb dX3_clear_40 (by decide) (fun _ => ?_) (fun h9 => absurd h9 (by decide))
  refine lv_iload_n hx hb dX3_clear_63 rfl (lv_at hl 2 rfl) ?_
  refine W.widen (k := 0) (n := 0) (Nat.le_of_ble_eq_true rfl) (Nat.le_of_ble_eq_true rfl) ?_
  have hP9 := hP.sub (ws' := []) [] rfl
  have hD9 := hD.sub (ws' := []) [] (by decide) rfl
  have hK9 := hK.sub (tys' := []) [] rfl
  exact W.iret (v := 0) hx hb hr (fun t ht hW => ⟨⟨0, (), rfl, rfl, by rw [ht]; exact hP9, va_K.moved hW.alike hK9, hD9⟩, hS.F ht⟩) hS.2.2 dX3_clear_64
set_option maxHeartbeats 4000000 in
set_option maxRecDepth 100000 in
theorem c_motion (l : Launch) (dC : Nat → ClassId) (dI : Nat → Nat → Nat) (ad sz : Nat) (x : Nat) (lb : Nat) (lr : Nat) (lk : Nat) (pn : Nat) (pp : Nat) (pq : Nat) (stp : Int32) (wo : Nat) (re : Nat) (fr : Nat) : Met l yX3_motion wsX3_motion ({ frames := 1, cells := 0, slots := 0, locals := 20 } : Room) (va_Pc [.ref x] (kc_B (dC, dI) vwCl ad sz [(x, .inr (4, [.ref lb, .ref lr, .ref lk, .ref pn, .ref pp, .ref pq, .int 8, .float FP.fconst1, .float 1031798784, .int 0, .int 1, .int stp, .int 0, .ref wo, .ref re, .ref fr])), (lb, .inr (0, [.int 0, .ref ad, .int 0]))] [])) (va_Qf (fun r _ => r = FP.fconst0) (kc_R (S := Unit) (dC, dI) vwCl (va_A [(x, .inr (4, [.ref lb, .ref lr, .ref lk, .ref pn, .ref pp, .ref pq, .int 8, .float FP.fconst1, .float 1031798784, .int 0, .int 1, .int stp, .int 0, .ref wo, .ref re, .ref fr])), (lb, .inr (0, [.int 0, .ref ad, .int 0]))] sz) (fun _ => []) (fun _ => [])) (va_A [(x, .inr (4, [.ref lb, .ref lr, .ref lk, .ref pn, .ref pp, .ref pq, .int 8, .float FP.fconst1, .float 1031798784, .int 0, .int 1, .int stp, .int 0, .ref wo, .ref re, .ref fr])), (lb, .inr (0, [.int 0, .ref ad, .int 0]))] sz)) 0 0 (va_A [(x, .inr (4, [.ref lb, .ref lr, .ref lk, .ref pn, .ref pp, .ref pq, .int 8, .float FP.fconst1, .float 1031798784, .int 0, .int 1, .int stp, .int 0, .ref wo, .ref re, .ref fr])), (lb, .inr (0, [.int 0, .ref ad, .int 0]))] sz) := by
  refine Met.ofW (cc := cX3_motion) (maxL := 4) (ret := (some .float)) (by decide) rfl ?_
  intro p e s m args below meth c s₁ B hml hv
  obtain ⟨rfl, hsz, hP, hK, hD0, hE⟩ := hv
  have hx := B.exec
  have hb := B.bytes
  have hr := B.returns
  have hts := atoms_spec (ws := wsX3_motion) B.pre
  have hown : s.vm.findClass RX3 = some m.cls := findClass_of_methodNamed B.named
  have hlocks := B.notSynchronized
  have i_X3 : ∀ w ∈ u_ws RX3 TX3 16, w ∈ wsX3_motion := (by decide +kernel)
  subst hsz
  have hD := hD0.self (sz := s.heap.size)
  generalize hAe : va_A [(x, .inr (4, [.ref lb, .ref lr, .ref lk, .ref pn, .ref pp, .ref pq, .int 8, .float FP.fconst1, .float 1031798784, .int 0, .int 1, .int stp, .int 0, .ref wo, .ref re, .ref fr])), (lb, .inr (0, [.int 0, .ref ad, .int 0]))] s.heap.size = A at hD hE ⊢
  have hA : ∀ q : Nat, s.heap.size ≤ q → A q := fun q h => by rw [← hAe]; exact Or.inr h
  have hS : va_S A s.heap s.heap [] := va_S.rf
  have hP : va_P (dC, dI) vwCl [(x, .inr (4, [.ref lb, .ref lr, .ref lk, .ref pn, .ref pp, .ref pq, .int 8, .float FP.fconst1, .float 1031798784, .int 0, .int 1, .int stp, .int 0, .ref wo, .ref re, .ref fr])), (lb, .inr (0, [.int 0, .ref ad, .int 0]))] s.heap := hP
  have hl := lv_entry ([.ref x]) (n := 4) (Nat.le_of_ble_eq_true rfl)
  rw [lg_entry_eq]
  generalize (lg_sl ([.ref x]) ++ List.replicate (4 - (lg_sl ([.ref x])).length) Slot.unset).toArray = ls at hl ⊢
  have hl : lv_has ls 4 [(0, .ref x)] := hl
  refine lv_fconst0 hx hb dX3_motion_0 ?_
  refine lv_fstore_n (lv' := [(1, .float FP.fconst0), (0, .ref x)]) hx hb dX3_motion_1 rfl hl (by decide) rfl (fun ls hl => ?_)
  refine lv_iconst (v := 0) hx hb dX3_motion_2 (by decide) ?_
  refine lv_istore_n (lv' := [(2, .int 0), (1, .float FP.fconst0), (0, .ref x)]) hx hb dX3_motion_3 rfl hl (by decide) rfl (fun ls hl => ?_)
  refine lv_iload_n hx hb dX3_motion_4 rfl (lv_at hl 0 rfl) ?_
  refine lv_aload_n hx hb dX3_motion_5 rfl (lv_at hl 2 rfl) ?_
  refine va_get (D := (dC, dI)) (ci := 4) (v := .ref lb) (C := RX3) (T := TX3) (N := 16) hx hb hts i_X3 hown hK hP 0 rfl rfl 0 (by decide) (hts (.fieldLink RX3 10 "IslandSolver" "bodies" "Ljava/util/ArrayList;") (by decide +kernel)) (fun _ h9 => h9) rfl dX3_motion_6 ?_
  refine kc_calli (wc := [(lb, .inr (0, [.int 0, .ref ad, .int 0]))]) (wr := [(x, .inr (4, [.ref lb, .ref lr, .ref lk, .ref pn, .ref pp, .ref pq, .int 8, .float FP.fconst1, .float 1031798784, .int 0, .int 1, .int stp, .int 0, .ref wo, .ref re, .ref fr]))]) (tyr := []) (va_runV (As := []) (rest := [.int 0]) ⟨hx, hb, hml, hown, hts⟩ (c_size l dC dI ad _ lb 0 ad 0) (cwV 0 hts gX3_motion_Jx4a65c_size_8abf5 rfl rfl rfl (by decide +kernel) ⟨Nat.le_of_ble_eq_true rfl, Nat.le_of_ble_eq_true rfl⟩) (kc_preV hP hD hK hS hA hE [1] rfl (by decide) [] rfl 1 rfl rfl) rfl rfl hl.1 rfl (lv_room (Nat.le_of_ble_eq_true rfl)) dX3_motion_9 ⟨Nat.le_of_ble_eq_true rfl, Nat.le_of_ble_eq_true rfl⟩) hP hD hK hS hA [1] [0] rfl rfl (by decide) (by decide) [] rfl (fun r_1 u H locs hw hP hD hK hS => ?_)
  subst hw
  have hP : va_P (dC, dI) vwCl [(x, .inr (4, [.ref lb, .ref lr, .ref lk, .ref pn, .ref pp, .ref pq, .int 8, .float FP.fconst1, .float 1031798784, .int 0, .int 1, .int stp, .int 0, .ref wo, .ref re, .ref fr])), (lb, .inr (0, [.int 0, .ref ad, .int 0]))] H := hP
  have hD : va_D A [(x, .inr (4, [.ref lb, .ref lr, .ref lk, .ref pn, .ref pp, .ref pq, .int 8, .float FP.fconst1, .float 1031798784, .int 0, .int 1, .int stp, .int 0, .ref wo, .ref re, .ref fr])), (lb, .inr (0, [.int 0, .ref ad, .int 0]))] := hD
  have hK : va_K (dC, dI) vwCl [] s := hK.sub [] rfl
  refine lv_icmp_ge (tgt := 47) hx hb dX3_motion_12 (by decide) (fun _ => ?_) (fun h9 => absurd h9 (by decide))
  refine lv_fload_n hx hb dX3_motion_47 rfl (lv_at hl 1 rfl) ?_
  refine W.widen (k := 0) (n := 0) (Nat.le_of_ble_eq_true rfl) (Nat.le_of_ble_eq_true rfl) ?_
  have hP9 := hP.sub (ws' := []) [] rfl
  have hD9 := hD.sub (ws' := []) [] (by decide) rfl
  have hK9 := hK.sub (tys' := []) [] rfl
  exact W.fret (v := FP.fconst0) hx hb hr (fun t ht hW => ⟨⟨FP.fconst0, (), rfl, rfl, by rw [ht]; exact hP9, va_K.moved hW.alike hK9, hD9⟩, hS.F ht⟩) hS.2.2 dX3_motion_48
