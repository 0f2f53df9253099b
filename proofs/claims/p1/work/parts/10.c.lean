set_option maxHeartbeats 4000000 in
set_option maxRecDepth 100000 in
theorem c_size (l : Launch) (dC : Nat → ClassId) (dI : Nat → Nat → Nat) (ad sz : Nat) (h : Nat) (mo : Int32) (ea : Nat) (n : Int32) : Met l yJx4a65c_size_8abf5 wsJx4a65c_size_8abf5 ({ frames := 0, cells := 0, slots := 0, locals := 0 } : Room) (va_Pc [.ref h] (kc_B (dC, dI) vwCl ad sz [(h, .inr (0, [.int mo, .ref ea, .int n]))] [])) (va_Qi (fun r _ => r = n) (kc_R (S := Unit) (dC, dI) vwCl (va_A [(h, .inr (0, [.int mo, .ref ea, .int n]))] sz) (fun _ => [(h, .inr (0, [.int mo, .ref ea, .int n]))]) (fun _ => [])) (va_A [(h, .inr (0, [.int mo, .ref ea, .int n]))] sz)) 0 0 (va_A [(h, .inr (0, [.int mo, .ref ea, .int n]))] sz) := by
  refine Met.ofW (cc := cJx4a65c_size_8abf5) (maxL := 1) (ret := (some .int)) (by decide) rfl ?_
  intro p e s m args below meth c s₁ B hml hv
  obtain ⟨rfl, hsz, hP, hK, hD0, hE⟩ := hv
  have hx := B.exec
  have hb := B.bytes
  have hr := B.returns
  have hts := atoms_spec (ws := wsJx4a65c_size_8abf5) B.pre
  have hown : s.vm.findClass RJx4a65c = some m.cls := findClass_of_methodNamed B.named
  have hlocks := B.notSynchronized
  have i_Jx4a65c : ∀ w ∈ u_ws RJx4a65c TJx4a65c 3, w ∈ wsJx4a65c_size_8abf5 := (by decide +kernel)
  subst hsz
  have hD := hD0.self (sz := s.heap.size)
  generalize hAe : va_A [(h, .inr (0, [.int mo, .ref ea, .int n]))] s.heap.size = A at hD hE ⊢
  have hA : ∀ q : Nat, s.heap.size ≤ q → A q := fun q h => by rw [← hAe]; exact Or.inr h
  have hS : va_S A s.heap s.heap [] := va_S.rf
  have hP : va_P (dC, dI) vwCl [(h, .inr (0, [.int mo, .ref ea, .int n]))] s.heap := hP
  have hl := lv_entry ([.ref h]) (n := 1) (Nat.le_of_ble_eq_true rfl)
  rw [lg_entry_eq]
  generalize (lg_sl ([.ref h]) ++ List.replicate (1 - (lg_sl ([.ref h])).length) Slot.unset).toArray = ls at hl ⊢
  have hl : lv_has ls 1 [(0, .ref h)] := hl
  refine lv_aload_n hx hb dJx4a65c_size_8abf5_0 rfl (lv_at hl 0 rfl) ?_
  refine va_get (D := (dC, dI)) (ci := 0) (v := .int n) (C := RJx4a65c) (T := TJx4a65c) (N := 3) hx hb hts i_Jx4a65c hown hK hP 0 rfl rfl 2 (by decide) (hts (.fieldLink RJx4a65c 48 "java/util/ArrayList" "size" "I") (by decide +kernel)) (fun _ h9 => h9) rfl dJx4a65c_size_8abf5_1 ?_
  refine W.widen (k := 0) (n := 0) (Nat.le_of_ble_eq_true rfl) (Nat.le_of_ble_eq_true rfl) ?_
  have hP9 := hP.sub (ws' := [(h, .inr (0, [.int mo, .ref ea, .int n]))]) [0] rfl
  have hD9 := hD.sub (ws' := [(h, .inr (0, [.int mo, .ref ea, .int n]))]) [0] (by decide) rfl
  have hK9 := hK.sub (tys' := []) [] rfl
  exact W.iret (v := n) hx hb hr (fun t ht hW => ⟨⟨n, (), rfl, rfl, by rw [ht]; exact hP9, va_K.moved hW.alike hK9, hD9⟩, hS.F ht⟩) hS.2.2 dJx4a65c_size_8abf5_4
set_option maxHeartbeats 4000000 in
set_option maxRecDepth 100000 in
theorem c_outside (l : Launch) (dC : Nat → ClassId) (dI : Nat → Nat → Nat) (ad sz : Nat) (v : UInt32) (lo : UInt32) (hi : UInt32) : Met l yX3_outside wsX3_outside ({ frames := 0, cells := 0, slots := 0, locals := 0 } : Room) (va_Pc [.float v, .float lo, .float hi] (kc_B (dC, dI) vwCl ad sz [] [])) (va_Qi (fun r _ => (kz_fin v lo hi = true ∧ r = 0) ∨ (kz_fin v lo hi = false ∧ r = 1)) (kc_R (S := Unit) (dC, dI) vwCl (va_A [] sz) (fun _ => []) (fun _ => [])) (va_A [] sz)) 0 0 (va_A [] sz) := by
  refine Met.ofW (cc := cX3_outside) (maxL := 3) (ret := (some .boolean)) (by decide) rfl ?_
  intro p e s m args below meth c s₁ B hml hv
  obtain ⟨rfl, hsz, hP, hK, hD0, hE⟩ := hv
  have hx := B.exec
  have hb := B.bytes
  have hr := B.returns
  have hts := atoms_spec (ws := wsX3_outside) B.pre
  have hown : s.vm.findClass RX3 = some m.cls := findClass_of_methodNamed B.named
  have hlocks := B.notSynchronized
  subst hsz
  have hD := hD0.self (sz := s.heap.size)
  generalize hAe : va_A [] s.heap.size = A at hD hE ⊢
  have hA : ∀ q : Nat, s.heap.size ≤ q → A q := fun q h => by rw [← hAe]; exact Or.inr h
  have hS : va_S A s.heap s.heap [] := va_S.rf
  have hP : va_P (dC, dI) vwCl [] s.heap := hP
  have hl := lv_entry ([.float v, .float lo, .float hi]) (n := 3) (Nat.le_of_ble_eq_true rfl)
  rw [lg_entry_eq]
  generalize (lg_sl ([.float v, .float lo, .float hi]) ++ List.replicate (3 - (lg_sl ([.float v, .float lo, .float hi])).length) Slot.unset).toArray = ls at hl ⊢
  have hl : lv_has ls 3 [(0, .float v), (1, .float lo), (2, .float hi)] := hl
  refine lv_fload_n hx hb dX3_outside_0 rfl (lv_at hl 0 rfl) ?_
  refine lv_fload_n hx hb dX3_outside_1 rfl (lv_at hl 1 rfl) ?_
  refine lv_fcmp hx hb dX3_outside_2 ?_
  refine lv_if_lt (tgt := 12) hx hb dX3_outside_3 (by decide) (fun c_1 => ?_) (fun c_1 => ?_)
  · refine lv_iconst (v := 1) hx hb dX3_outside_12 (by decide) ?_
    refine lv_goto (tgt := 17) hx hb dX3_outside_13 (by decide) ?_
    refine W.widen (k := 0) (n := 0) (Nat.le_of_ble_eq_true rfl) (Nat.le_of_ble_eq_true rfl) ?_
    have hP9 := hP.sub (ws' := []) [] rfl
    have hD9 := hD.sub (ws' := []) [] (by decide) rfl
    have hK9 := hK.sub (tys' := []) [] rfl
    exact W.zret (ty := .boolean) (v := 1) hx hb hr rfl (fun t ht hW => ⟨⟨1, (), rfl, Or.inr (⟨by simp only [kz_fin, c_1, decide_true, decide_false, Bool.not_true, Bool.not_false, Bool.and_true, Bool.true_and, Bool.and_false, Bool.false_and, Bool.and_self], rfl⟩), by rw [ht]; exact hP9, va_K.moved hW.alike hK9, hD9⟩, hS.F ht⟩) hS.2.2 dX3_outside_17
  · refine lv_fload_n hx hb dX3_outside_6 rfl (lv_at hl 0 rfl) ?_
    refine lv_fload_n hx hb dX3_outside_7 rfl (lv_at hl 2 rfl) ?_
    refine lv_fcmp hx hb dX3_outside_8 ?_
    refine lv_if_le (tgt := 16) hx hb dX3_outside_9 (by decide) (fun c_2 => ?_) (fun c_2 => ?_)
    · refine lv_iconst (v := 0) hx hb dX3_outside_16 (by decide) ?_
      refine W.widen (k := 0) (n := 0) (Nat.le_of_ble_eq_true rfl) (Nat.le_of_ble_eq_true rfl) ?_
      have hP9 := hP.sub (ws' := []) [] rfl
      have hD9 := hD.sub (ws' := []) [] (by decide) rfl
      have hK9 := hK.sub (tys' := []) [] rfl
      exact W.zret (ty := .boolean) (v := 0) hx hb hr rfl (fun t ht hW => ⟨⟨0, (), rfl, Or.inl ⟨by simp only [kz_fin, c_1, (Int32.not_lt.mpr c_2), decide_true, decide_false, Bool.not_true, Bool.not_false, Bool.and_true, Bool.true_and, Bool.and_false, Bool.false_and, Bool.and_self], rfl⟩, by rw [ht]; exact hP9, va_K.moved hW.alike hK9, hD9⟩, hS.F ht⟩) hS.2.2 dX3_outside_17
    · refine lv_iconst (v := 1) hx hb dX3_outside_12 (by decide) ?_
      refine lv_goto (tgt := 17) hx hb dX3_outside_13 (by decide) ?_
      refine W.widen (k := 0) (n := 0) (Nat.le_of_ble_eq_true rfl) (Nat.le_of_ble_eq_true rfl) ?_
      have hP9 := hP.sub (ws' := []) [] rfl
      have hD9 := hD.sub (ws' := []) [] (by decide) rfl
      have hK9 := hK.sub (tys' := []) [] rfl
      exact W.zret (ty := .boolean) (v := 1) hx hb hr rfl (fun t ht hW => ⟨⟨1, (), rfl, Or.inr (⟨by simp only [kz_fin, c_1, (Int32.not_le.mp c_2), decide_true, decide_false, Bool.not_true, Bool.not_false, Bool.and_true, Bool.true_and, Bool.and_false, Bool.false_and, Bool.and_self], rfl⟩), by rw [ht]; exact hP9, va_K.moved hW.alike hK9, hD9⟩, hS.F ht⟩) hS.2.2 dX3_outside_17
set_option maxHeartbeats 4000000 in
set_option maxRecDepth 100000 in
theorem c_within (l : Launch) (dC : Nat → ClassId) (dI : Nat → Nat → Nat) (ad sz : Nat) (v : UInt32) (lo : UInt32) (hi : UInt32) : Met l yX4_within wsX4_within ({ frames := 0, cells := 0, slots := 0, locals := 0 } : Room) (va_Pc [.float v, .float lo, .float hi] (kc_B (dC, dI) vwCl ad sz [] [])) (va_Qi (fun r _ => (kz_fin v lo hi = true ∧ r = 1) ∨ (kz_fin v lo hi = false ∧ r = 0)) (kc_R (S := Unit) (dC, dI) vwCl (va_A [] sz) (fun _ => []) (fun _ => [])) (va_A [] sz)) 0 0 (va_A [] sz) := by
  refine Met.ofW (cc := cX4_within) (maxL := 3) (ret := (some .boolean)) (by decide) rfl ?_
  intro p e s m args below meth c s₁ B hml hv
  obtain ⟨rfl, hsz, hP, hK, hD0, hE⟩ := hv
  have hx := B.exec
  have hb := B.bytes
  have hr := B.returns
  have hts := atoms_spec (ws := wsX4_within) B.pre
  have hown : s.vm.findClass RX4 = some m.cls := findClass_of_methodNamed B.named
  have hlocks := B.notSynchronized
  subst hsz
  have hD := hD0.self (sz := s.heap.size)
  generalize hAe : va_A [] s.heap.size = A at hD hE ⊢
  have hA : ∀ q : Nat, s.heap.size ≤ q → A q := fun q h => by rw [← hAe]; exact Or.inr h
  have hS : va_S A s.heap s.heap [] := va_S.rf
  have hP : va_P (dC, dI) vwCl [] s.heap := hP
  have hl := lv_entry ([.float v, .float lo, .float hi]) (n := 3) (Nat.le_of_ble_eq_true rfl)
  rw [lg_entry_eq]
  generalize (lg_sl ([.float v, .float lo, .float hi]) ++ List.replicate (3 - (lg_sl ([.float v, .float lo, .float hi])).length) Slot.unset).toArray = ls at hl ⊢
  have hl : lv_has ls 3 [(0, .float v), (1, .float lo), (2, .float hi)] := hl
  refine lv_fload_n hx hb dX4_within_0 rfl (lv_at hl 0 rfl) ?_
  refine lv_fload_n hx hb dX4_within_1 rfl (lv_at hl 1 rfl) ?_
  refine lv_fcmp hx hb dX4_within_2 ?_
  refine lv_if_lt (tgt := 16) hx hb dX4_within_3 (by decide) (fun c_1 => ?_) (fun c_1 => ?_)
  · refine lv_iconst (v := 0) hx hb dX4_within_16 (by decide) ?_
    refine W.widen (k := 0) (n := 0) (Nat.le_of_ble_eq_true rfl) (Nat.le_of_ble_eq_true rfl) ?_
    have hP9 := hP.sub (ws' := []) [] rfl
    have hD9 := hD.sub (ws' := []) [] (by decide) rfl
    have hK9 := hK.sub (tys' := []) [] rfl
    exact W.zret (ty := .boolean) (v := 0) hx hb hr rfl (fun t ht hW => ⟨⟨0, (), rfl, Or.inr (⟨by simp only [kz_fin, c_1, decide_true, decide_false, Bool.not_true, Bool.not_false, Bool.and_true, Bool.true_and, Bool.and_false, Bool.false_and, Bool.and_self], rfl⟩), by rw [ht]; exact hP9, va_K.moved hW.alike hK9, hD9⟩, hS.F ht⟩) hS.2.2 dX4_within_17
  · refine lv_fload_n hx hb dX4_within_6 rfl (lv_at hl 0 rfl) ?_
    refine lv_fload_n hx hb dX4_within_7 rfl (lv_at hl 2 rfl) ?_
    refine lv_fcmp hx hb dX4_within_8 ?_
    refine lv_if_gt (tgt := 16) hx hb dX4_within_9 (by decide) (fun c_2 => ?_) (fun c_2 => ?_)
    · refine lv_iconst (v := 0) hx hb dX4_within_16 (by decide) ?_
      refine W.widen (k := 0) (n := 0) (Nat.le_of_ble_eq_true rfl) (Nat.le_of_ble_eq_true rfl) ?_
      have hP9 := hP.sub (ws' := []) [] rfl
      have hD9 := hD.sub (ws' := []) [] (by decide) rfl
      have hK9 := hK.sub (tys' := []) [] rfl
      exact W.zret (ty := .boolean) (v := 0) hx hb hr rfl (fun t ht hW => ⟨⟨0, (), rfl, Or.inr (⟨by simp only [kz_fin, c_1, c_2, decide_true, decide_false, Bool.not_true, Bool.not_false, Bool.and_true, Bool.true_and, Bool.and_false, Bool.false_and, Bool.and_self], rfl⟩), by rw [ht]; exact hP9, va_K.moved hW.alike hK9, hD9⟩, hS.F ht⟩) hS.2.2 dX4_within_17
    · refine lv_iconst (v := 1) hx hb dX4_within_12 (by decide) ?_
      refine lv_goto (tgt := 17) hx hb dX4_within_13 (by decide) ?_
      refine W.widen (k := 0) (n := 0) (Nat.le_of_ble_eq_true rfl) (Nat.le_of_ble_eq_true rfl) ?_
      have hP9 := hP.sub (ws' := []) [] rfl
      have hD9 := hD.sub (ws' := []) [] (by decide) rfl
      have hK9 := hK.sub (tys' := []) [] rfl
      exact W.zret (ty := .boolean) (v := 1) hx hb hr rfl (fun t ht hW => ⟨⟨1, (), rfl, Or.inl ⟨by simp only [kz_fin, c_1, c_2, decide_true, decide_false, Bool.not_true, Bool.not_false, Bool.and_true, Bool.true_and, Bool.and_false, Bool.false_and, Bool.and_self], rfl⟩, by rw [ht]; exact hP9, va_K.moved hW.alike hK9, hD9⟩, hS.F ht⟩) hS.2.2 dX4_within_17
set_option maxHeartbeats 4000000 in
set_option maxRecDepth 100000 in
theorem c_isBody (l : Launch) (dC : Nat → ClassId) (dI : Nat → Nat → Nat) (ad sz : Nat) (x : Nat) (lb : Nat) (lr : Nat) (lk : Nat) (pn : Nat) (pp : Nat) (pq : Nat) (stp : Int32) (wo : Nat) (re : Nat) (fr : Nat) (i : Int32) : Met l yX3_isBody wsX3_isBody ({ frames := 1, cells := 0, slots := 0, locals := 20 } : Room) (va_Pc [.ref x, .int i] (kc_B (dC, dI) vwCl ad sz [(x, .inr (4, [.ref lb, .ref lr, .ref lk, .ref pn, .ref pp, .ref pq, .int 8, .float FP.fconst1, .float 1031798784, .int 0, .int 1, .int stp, .int 0, .ref wo, .ref re, .ref fr])), (lb, .inr (0, [.int 0, .ref ad, .int 0]))] [])) (va_Qi (fun r _ => r = 0) (kc_R (S := Unit) (dC, dI) vwCl (va_A [(x, .inr (4, [.ref lb, .ref lr, .ref lk, .ref pn, .ref pp, .ref pq, .int 8, .float FP.fconst1, .float 1031798784, .int 0, .int 1, .int stp, .int 0, .ref wo, .ref re, .ref fr])), (lb, .inr (0, [.int 0, .ref ad, .int 0]))] sz) (fun _ => [(x, .inr (4, [.ref lb, .ref lr, .ref lk, .ref pn, .ref pp, .ref pq, .int 8, .float FP.fconst1, .float 1031798784, .int 0, .int 1, .int stp, .int 0, .ref wo, .ref re, .ref fr])), (lb, .inr (0, [.int 0, .ref ad, .int 0]))]) (fun _ => [])) (va_A [(x, .inr (4, [.ref lb, .ref lr, .ref lk, .ref pn, .ref pp, .ref pq, .int 8, .float FP.fconst1, .float 1031798784, .int 0, .int 1, .int stp, .int 0, .ref wo, .ref re, .ref fr])), (lb, .inr (0, [.int 0, .ref ad, .int 0]))] sz)) 0 0 (va_A [(x, .inr (4, [.ref lb, .ref lr, .ref lk, .ref pn, .ref pp, .ref pq, .int 8, .float FP.fconst1, .float 1031798784, .int 0, .int 1, .int stp, .int 0, .ref wo, .ref re, .ref fr])), (lb, .inr (0, [.int 0, .ref ad, .int 0]))] sz) := by
  refine Met.ofW (cc := cX3_isBody) (maxL := 2) (ret := (some .boolean)) (by decide) rfl ?_
  intro p e s m args below meth c s₁ B hml hv
  obtain ⟨rfl, hsz, hP, hK, hD0, hE⟩ := hv
  have hx := B.exec
  have hb := B.bytes
  have hr := B.returns
  have hts := atoms_spec (ws := wsX3_isBody) B.pre
  have hown : s.vm.findClass RX3 = some m.cls := findClass_of_methodNamed B.named
  have hlocks := B.notSynchronized
  have i_X3 : ∀ w ∈ u_ws RX3 TX3 16, w ∈ wsX3_isBody := (by decide +kernel)
  subst hsz
  have hD := hD0.self (sz := s.heap.size)
  generalize hAe : va_A [(x, .inr (4, [.ref lb, .ref lr, .ref lk, .ref pn, .ref pp, .ref pq, .int 8, .float FP.fconst1, .float 1031798784, .int 0, .int 1, .int stp, .int 0, .ref wo, .ref re, .ref fr])), (lb, .inr (0, [.int 0, .ref ad, .int 0]))] s.heap.size = A at hD hE ⊢
  have hA : ∀ q : Nat, s.heap.size ≤ q → A q := fun q h => by rw [← hAe]; exact Or.inr h
  have hS : va_S A s.heap s.heap [] := va_S.rf
  have hP : va_P (dC, dI) vwCl [(x, .inr (4, [.ref lb, .ref lr, .ref lk, .ref pn, .ref pp, .ref pq, .int 8, .float FP.fconst1, .float 1031798784, .int 0, .int 1, .int stp, .int 0, .ref wo, .ref re, .ref fr])), (lb, .inr (0, [.int 0, .ref ad, .int 0]))] s.heap := hP
  have hl := lv_entry ([.ref x, .int i]) (n := 2) (Nat.le_of_ble_eq_true rfl)
  rw [lg_entry_eq]
  generalize (lg_sl ([.ref x, .int i]) ++ List.replicate (2 - (lg_sl ([.ref x, .int i])).length) Slot.unset).toArray = ls at hl ⊢
  have hl : lv_has ls 2 [(0, .ref x), (1, .int i)] := hl
  refine lv_iload_n hx hb dX3_isBody_0 rfl (lv_at hl 1 rfl) ?_
  refine lv_if_lt (tgt := 19) hx hb dX3_isBody_1 (by decide) (fun c_1 => ?_) (fun c_1 => ?_)
  · refine lv_iconst (v := 0) hx hb dX3_isBody_19 (by decide) ?_
    refine W.widen (k := 0) (n := 0) (Nat.le_of_ble_eq_true rfl) (Nat.le_of_ble_eq_true rfl) ?_
    have hP9 := hP.sub (ws' := [(x, .inr (4, [.ref lb, .ref lr, .ref lk, .ref pn, .ref pp, .ref pq, .int 8, .float FP.fconst1, .float 1031798784, .int 0, .int 1, .int stp, .int 0, .ref wo, .ref re, .ref fr])), (lb, .inr (0, [.int 0, .ref ad, .int 0]))]) [0, 1] rfl
    have hD9 := hD.sub (ws' := [(x, .inr (4, [.ref lb, .ref lr, .ref lk, .ref pn, .ref pp, .ref pq, .int 8, .float FP.fconst1, .float 1031798784, .int 0, .int 1, .int stp, .int 0, .ref wo, .ref re, .ref fr])), (lb, .inr (0, [.int 0, .ref ad, .int 0]))]) [0, 1] (by decide) rfl
    have hK9 := hK.sub (tys' := []) [] rfl
    exact W.zret (ty := .boolean) (v := 0) hx hb hr rfl (fun t ht hW => ⟨⟨0, (), rfl, rfl, by rw [ht]; exact hP9, va_K.moved hW.alike hK9, hD9⟩, hS.F ht⟩) hS.2.2 dX3_isBody_20
  · refine lv_iload_n hx hb dX3_isBody_4 rfl (lv_at hl 1 rfl) ?_
    refine lv_aload_n hx hb dX3_isBody_5 rfl (lv_at hl 0 rfl) ?_
    refine va_get (D := (dC, dI)) (ci := 4) (v := .ref lb) (C := RX3) (T := TX3) (N := 16) hx hb hts i_X3 hown hK hP 0 rfl rfl 0 (by decide) (hts (.fieldLink RX3 10 "IslandSolver" "bodies" "Ljava/util/ArrayList;") (by decide +kernel)) (fun _ h9 => h9) rfl dX3_isBody_6 ?_
    refine kc_calli (wc := [(lb, .inr (0, [.int 0, .ref ad, .int 0]))]) (wr := [(x, .inr (4, [.ref lb, .ref lr, .ref lk, .ref pn, .ref pp, .ref pq, .int 8, .float FP.fconst1, .float 1031798784, .int 0, .int 1, .int stp, .int 0, .ref wo, .ref re, .ref fr]))]) (tyr := []) (va_runV (As := []) (rest := [.int i]) ⟨hx, hb, hml, hown, hts⟩ (c_size l dC dI ad _ lb 0 ad 0) (cwV 0 hts gX3_isBody_Jx4a65c_size_8abf5 rfl rfl rfl (by decide +kernel) ⟨Nat.le_of_ble_eq_true rfl, Nat.le_of_ble_eq_true rfl⟩) (kc_preV hP hD hK hS hA hE [1] rfl (by decide) [] rfl 1 rfl rfl) rfl rfl hl.1 rfl (lv_room (Nat.le_of_ble_eq_true rfl)) dX3_isBody_9 ⟨Nat.le_of_ble_eq_true rfl, Nat.le_of_ble_eq_true rfl⟩) hP hD hK hS hA [1] [0] rfl rfl (by decide) (by decide) [] rfl (fun r_2 u H locs hw hP hD hK hS => ?_)
    subst hw
    have hP : va_P (dC, dI) vwCl [(x, .inr (4, [.ref lb, .ref lr, .ref lk, .ref pn, .ref pp, .ref pq, .int 8, .float FP.fconst1, .float 1031798784, .int 0, .int 1, .int stp, .int 0, .ref wo, .ref re, .ref fr])), (lb, .inr (0, [.int 0, .ref ad, .int 0]))] H := hP
    have hD : va_D A [(x, .inr (4, [.ref lb, .ref lr, .ref lk, .ref pn, .ref pp, .ref pq, .int 8, .float FP.fconst1, .float 1031798784, .int 0, .int 1, .int stp, .int 0, .ref wo, .ref re, .ref fr])), (lb, .inr (0, [.int 0, .ref ad, .int 0]))] := hD
    have hK : va_K (dC, dI) vwCl [] s := hK.sub [] rfl
    refine lv_icmp_ge (tgt := 19) hx hb dX3_isBody_12 (by decide) (fun c_3 => ?_) (fun c_3 => ?_)
    · refine lv_iconst (v := 0) hx hb dX3_isBody_19 (by decide) ?_
      refine W.widen (k := 0) (n := 0) (Nat.le_of_ble_eq_true rfl) (Nat.le_of_ble_eq_true rfl) ?_
      have hP9 := hP.sub (ws' := [(x, .inr (4, [.ref lb, .ref lr, .ref lk, .ref pn, .ref pp, .ref pq, .int 8, .float FP.fconst1, .float 1031798784, .int 0, .int 1, .int stp, .int 0, .ref wo, .ref re, .ref fr])), (lb, .inr (0, [.int 0, .ref ad, .int 0]))]) [0, 1] rfl
      have hD9 := hD.sub (ws' := [(x, .inr (4, [.ref lb, .ref lr, .ref lk, .ref pn, .ref pp, .ref pq, .int 8, .float FP.fconst1, .float 1031798784, .int 0, .int 1, .int stp, .int 0, .ref wo, .ref re, .ref fr])), (lb, .inr (0, [.int 0, .ref ad, .int 0]))]) [0, 1] (by decide) rfl
      have hK9 := hK.sub (tys' := []) [] rfl
      exact W.zret (ty := .boolean) (v := 0) hx hb hr rfl (fun t ht hW => ⟨⟨0, (), rfl, rfl, by rw [ht]; exact hP9, va_K.moved hW.alike hK9, hD9⟩, hS.F ht⟩) hS.2.2 dX3_isBody_20
    · exact absurd (Int32.not_le.mp c_3) c_1
set_option maxHeartbeats 4000000 in
set_option maxRecDepth 100000 in
theorem c_bodyAt (l : Launch) (dC : Nat → ClassId) (dI : Nat → Nat → Nat) (ad sz : Nat) (x : Nat) (lb : Nat) (lr : Nat) (lk : Nat) (pn : Nat) (pp : Nat) (pq : Nat) (stp : Int32) (wo : Nat) (re : Nat) (fr : Nat) (i : Int32) (hlt : l.stackTraces = false) : vx_Met l yX3_bodyAt wsX3_bodyAt ({ frames := 6, cells := 1, slots := 6, locals := 82 } : Room) (va_Pc [.ref x, .int i] (kc_B (dC, dI) vwCl ad sz [(x, .inr (4, [.ref lb, .ref lr, .ref lk, .ref pn, .ref pp, .ref pq, .int 8, .float FP.fconst1, .float 1031798784, .int 0, .int 1, .int stp, .int 0, .ref wo, .ref re, .ref fr])), (lb, .inr (0, [.int 0, .ref ad, .int 0]))] [])) (fun _ _ _ _ => False) (kc_X (fun E => E = "java/lang/IndexOutOfBoundsException") (va_A [(x, .inr (4, [.ref lb, .ref lr, .ref lk, .ref pn, .ref pp, .ref pq, .int 8, .float FP.fconst1, .float 1031798784, .int 0, .int 1, .int stp, .int 0, .ref wo, .ref re, .ref fr])), (lb, .inr (0, [.int 0, .ref ad, .int 0]))] sz)) 1 6 (va_A [(x, .inr (4, [.ref lb, .ref lr, .ref lk, .ref pn, .ref pp, .ref pq, .int 8, .float FP.fconst1, .float 1031798784, .int 0, .int 1, .int stp, .int 0, .ref wo, .ref re, .ref fr])), (lb, .inr (0, [.int 0, .ref ad, .int 0]))] sz) := by
  refine vx_ofW (cc := cX3_bodyAt) (maxL := 2) (ret := (some (.object "IslandSolver$Body"))) (by decide) rfl ?_
  intro p e s m args below meth c s₁ B hml ht hv
  obtain ⟨rfl, hsz, hP, hK, hD0, hE⟩ := hv
  have hx := B.exec
  have hb := B.bytes
  have hr := B.returns
  have hts := atoms_spec (ws := wsX3_bodyAt) B.pre
  have hown : s.vm.findClass RX3 = some m.cls := findClass_of_methodNamed B.named
  have hlocks := B.notSynchronized
  have a_148 : ∀ w ∈ (vx_atS RX3 148 "java/lang/IndexOutOfBoundsException" ["java/lang/RuntimeException", "java/lang/Exception"]).filter goodWord, w ∈ wsX3_bodyAt := fun _ h => List.mem_cons_of_mem _ (List.mem_append_right _ h)
  subst hsz
  have hD := hD0.self (sz := s.heap.size)
  generalize hAe : va_A [(x, .inr (4, [.ref lb, .ref lr, .ref lk, .ref pn, .ref pp, .ref pq, .int 8, .float FP.fconst1, .float 1031798784, .int 0, .int 1, .int stp, .int 0, .ref wo, .ref re, .ref fr])), (lb, .inr (0, [.int 0, .ref ad, .int 0]))] s.heap.size = A at hD hE ⊢
  have hA : ∀ q : Nat, s.heap.size ≤ q → A q := fun q h => by rw [← hAe]; exact Or.inr h
  have hS : va_S A s.heap s.heap [] := va_S.rf
  have hP : va_P (dC, dI) vwCl [(x, .inr (4, [.ref lb, .ref lr, .ref lk, .ref pn, .ref pp, .ref pq, .int 8, .float FP.fconst1, .float 1031798784, .int 0, .int 1, .int stp, .int 0, .ref wo, .ref re, .ref fr])), (lb, .inr (0, [.int 0, .ref ad, .int 0]))] s.heap := hP
  have hl := lv_entry ([.ref x, .int i]) (n := 2) (Nat.le_of_ble_eq_true rfl)
  rw [lg_entry_eq]
  generalize (lg_sl ([.ref x, .int i]) ++ List.replicate (2 - (lg_sl ([.ref x, .int i])).length) Slot.unset).toArray = ls at hl ⊢
  have hl : lv_has ls 2 [(0, .ref x), (1, .int i)] := hl
  refine lv_aload_n hx hb dX3_bodyAt_0 rfl (lv_at hl 0 rfl) ?_
  refine lv_iload_n hx hb dX3_bodyAt_1 rfl (lv_at hl 1 rfl) ?_
  refine kc_calli (wc := [(x, .inr (4, [.ref lb, .ref lr, .ref lk, .ref pn, .ref pp, .ref pq, .int 8, .float FP.fconst1, .float 1031798784, .int 0, .int 1, .int stp, .int 0, .ref wo, .ref re, .ref fr])), (lb, .inr (0, [.int 0, .ref ad, .int 0]))]) (wr := []) (tyr := []) (va_runV (As := [.int i]) (rest := []) ⟨hx, hb, hml, hown, hts⟩ (c_isBody l dC dI ad _ x lb lr lk pn pp pq stp wo re fr i) (cwV 1 hts gX3_bodyAt_X3_isBody rfl rfl rfl (by decide +kernel) ⟨Nat.le_of_ble_eq_true rfl, Nat.le_of_ble_eq_true rfl⟩) (kc_preV hP hD hK hS hA hE [0, 1] rfl (by decide) [] rfl 0 rfl rfl) rfl rfl hl.1 rfl (lv_room (Nat.le_of_ble_eq_true rfl)) dX3_bodyAt_2 ⟨Nat.le_of_ble_eq_true rfl, Nat.le_of_ble_eq_true rfl⟩) hP hD hK hS hA [0, 1] [] rfl rfl (by decide) (by decide) [] rfl (fun r_1 u H locs hw hP hD hK hS => ?_)
  subst hw
  have hP : va_P (dC, dI) vwCl [(x, .inr (4, [.ref lb, .ref lr, .ref lk, .ref pn, .ref pp, .ref pq, .int 8, .float FP.fconst1, .float 1031798784, .int 0, .int 1, .int stp, .int 0, .ref wo, .ref re, .ref fr])), (lb, .inr (0, [.int 0, .ref ad, .int 0]))] H := hP
  have hD : va_D A [(x, .inr (4, [.ref lb, .ref lr, .ref lk, .ref pn, .ref pp, .ref pq, .int 8, .float FP.fconst1, .float 1031798784, .int 0, .int 1, .int stp, .int 0, .ref wo, .ref re, .ref fr])), (lb, .inr (0, [.int 0, .ref ad, .int 0]))] := hD
  have hK : va_K (dC, dI) vwCl [] s := hK.sub [] rfl
  refine lv_if_ne (tgt := 19) hx hb dX3_bodyAt_5 (by decide) (fun h9 => absurd h9 (by decide)) (fun _ => ?_)
  obtain ⟨sa_2, hsa_2⟩ := hE.str 307 "there is no such body" (by decide +kernel)
  have hat : ∀ w ∈ (vx_atS RX3 148 "java/lang/IndexOutOfBoundsException" ["java/lang/RuntimeException", "java/lang/Exception"]), w.before _ s = true := vx_hat (B := kx_non "java/lang/IndexOutOfBoundsException") (fun w h => hts w (a_148 w h)) (by decide +kernel) (hE.non "java/lang/IndexOutOfBoundsException" (by decide +kernel))
  refine W.widen (k := 0) (n := 0) (Nat.le_of_ble_eq_true rfl) (Nat.le_of_ble_eq_true rfl) ?_
  exact vx_throwSW (A := A) (rest := []) hx hb hlt hown (by decide +kernel) (by decide +kernel) (hts (.classLink RX3 144 "java/lang/IndexOutOfBoundsException") (by decide +kernel)) (hts (.initialized "java/lang/IndexOutOfBoundsException") (by decide +kernel)) hsa_2 hat (by decide +kernel) hE.2.2.2.2.2.2.1 hE.2.2.2.2.2.2.2.1 hS (hl.1.trans hml.symm) dX3_bodyAt_8 dX3_bodyAt_11 dX3_bodyAt_12 dX3_bodyAt_15 dX3_bodyAt_18 (fun x h => (ht x h).elim) (Nat.le_of_ble_eq_true rfl) (Nat.le_of_ble_eq_true rfl) (Nat.le_of_ble_eq_true rfl) (Nat.le_of_ble_eq_true rfl) hlocks (fun t hvm hz hk => ⟨(), trivial, rfl, Nat.le_trans hS.1 hz, fun q h1 h2 => (hk q (Nat.lt_of_lt_of_le h1 hS.1)).trans (hS.2.1 q h1 h2)⟩) hS.2.2 (Nat.le_of_ble_eq_true rfl) (Nat.le_of_ble_eq_true rfl)
set_option maxHeartbeats 4000000 in
set_option maxRecDepth 100000 in
theorem c_wake (l : Launch) (dC : Nat → ClassId) (dI : Nat → Nat → Nat) (ad sz : Nat) (x : Nat) (lb : Nat) (lr : Nat) (lk : Nat) (pn : Nat) (pp : Nat) (pq : Nat) (stp : Int32) (wo : Nat) (re : Nat) (fr : Nat) (i : Int32) (hlt : l.stackTraces = false) : vx_Met l yX3_wake wsX3_wake ({ frames := 7, cells := 1, slots := 6, locals := 103 } : Room) (va_Pc [.ref x, .int i] (kc_B (dC, dI) vwCl ad sz [(x, .inr (4, [.ref lb, .ref lr, .ref lk, .ref pn, .ref pp, .ref pq, .int 8, .float FP.fconst1, .float 1031798784, .int 0, .int 1, .int stp, .int 0, .ref wo, .ref re, .ref fr])), (lb, .inr (0, [.int 0, .ref ad, .int 0]))] [])) (fun _ _ _ _ => False) (kc_X (fun E => E = "java/lang/IndexOutOfBoundsException") (va_A [(x, .inr (4, [.ref lb, .ref lr, .ref lk, .ref pn, .ref pp, .ref pq, .int 8, .float FP.fconst1, .float 1031798784, .int 0, .int 1, .int stp, .int 0, .ref wo, .ref re, .ref fr])), (lb, .inr (0, [.int 0, .ref ad, .int 0]))] sz)) 1 6 (va_A [(x, .inr (4, [.ref lb, .ref lr, .ref lk, .ref pn, .ref pp, .ref pq, .int 8, .float FP.fconst1, .float 1031798784, .int 0, .int 1, .int stp, .int 0, .ref wo, .ref re, .ref fr])), (lb, .inr (0, [.int 0, .ref ad, .int 0]))] sz) := by
  refine vx_ofW (cc := cX3_wake) (maxL := 4) (ret := (some .boolean)) (by decide) rfl ?_
  intro p e s m args below meth c s₁ B hml ht hv
  obtain ⟨rfl, hsz, hP, hK, hD0, hE⟩ := hv
  have hx := B.exec
  have hb := B.bytes
  have hr := B.returns
  have hts := atoms_spec (ws := wsX3_wake) B.pre
  have hown : s.vm.findClass RX3 = some m.cls := findClass_of_methodNamed B.named
  have hlocks := B.notSynchronized
  subst hsz
  have hD := hD0.self (sz := s.heap.size)
  generalize hAe : va_A [(x, .inr (4, [.ref lb, .ref lr, .ref lk, .ref pn, .ref pp, .ref pq, .int 8, .float FP.fconst1, .float 1031798784, .int 0, .int 1, .int stp, .int 0, .ref wo, .ref re, .ref fr])), (lb, .inr (0, [.int 0, .ref ad, .int 0]))] s.heap.size = A at hD hE ⊢
  have hA : ∀ q : Nat, s.heap.size ≤ q → A q := fun q h => by rw [← hAe]; exact Or.inr h
  have hS : va_S A s.heap s.heap [] := va_S.rf
  have hP : va_P (dC, dI) vwCl [(x, .inr (4, [.ref lb, .ref lr, .ref lk, .ref pn, .ref pp, .ref pq, .int 8, .float FP.fconst1, .float 1031798784, .int 0, .int 1, .int stp, .int 0, .ref wo, .ref re, .ref fr])), (lb, .inr (0, [.int 0, .ref ad, .int 0]))] s.heap := hP
  have hl := lv_entry ([.ref x, .int i]) (n := 4) (Nat.le_of_ble_eq_true rfl)
  rw [lg_entry_eq]
  generalize (lg_sl ([.ref x, .int i]) ++ List.replicate (4 - (lg_sl ([.ref x, .int i])).length) Slot.unset).toArray = ls at hl ⊢
  have hl : lv_has ls 4 [(0, .ref x), (1, .int i)] := hl
  refine lv_aload_n hx hb dX3_wake_0 rfl (lv_at hl 0 rfl) ?_
  refine lv_iload_n hx hb dX3_wake_1 rfl (lv_at hl 1 rfl) ?_
  refine kc_xn (wc := [(x, .inr (4, [.ref lb, .ref lr, .ref lk, .ref pn, .ref pp, .ref pq, .int 8, .float FP.fconst1, .float 1031798784, .int 0, .int 1, .int stp, .int 0, .ref wo, .ref re, .ref fr])), (lb, .inr (0, [.int 0, .ref ad, .int 0]))]) (wr := []) (vx_runV (As := [.int i]) (rest := []) ⟨hx, hb, hml, hown, hts⟩ (c_bodyAt l dC dI ad _ x lb lr lk pn pp pq stp wo re fr i hlt) (cwV 1 hts gX3_wake_X3_bodyAt rfl rfl rfl (by decide +kernel) ⟨Nat.le_of_ble_eq_true rfl, Nat.le_of_ble_eq_true rfl⟩) (kc_preV hP hD hK hS hA hE [0, 1] rfl (by decide) [] rfl 0 rfl rfl) rfl rfl hl.1 rfl (lv_room (Nat.le_of_ble_eq_true rfl)) dX3_wake_2 ⟨Nat.le_of_ble_eq_true rfl, Nat.le_of_ble_eq_true rfl⟩) (fun _ _ _ h => h) hP hD hS hA [0, 1] [] rfl rfl (by decide) (by decide) (fun E ce q9 H locs hEX hP hD hS hce hcv hcl => ?_)
  exact vx_out (fun x h => (ht x h).elim) hlocks hce hcv hcl (fun t h1 h2 => ⟨(), trivial, hEX, hS.F h1⟩) hS.2.2 (Nat.le_of_ble_eq_true rfl) (Nat.le_of_ble_eq_true rfl)
