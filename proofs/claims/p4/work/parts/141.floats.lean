set_option maxHeartbeats 4000000 in
set_option maxRecDepth 100000 in
theorem k_outside (l : Launch) (dC : Nat → ClassId) (dI : Nat → Nat → Nat) (dA : Nat → ClassId) (ad sz : Nat) (τ : Nat → Nat → Nat) (pv : Nat → Nat → Value) (L : List Nat) (f : Nat → va_E) (hI : kI dA τ pv L f) (a b c9 : UInt32) : Met l yX3_outside wsX3_outside ({ frames := 0, cells := 0, slots := 0, locals := 0 } : Room) (va_Pc [.float a, .float b, .float c9] (kB dC dI dA ad sz L f)) (va_Qi (fun r u => ((kz_fin a b c9 = true ∧ r = 0) ∨ (kz_fin a b c9 = false ∧ r = 1)) ∧ kI dA τ pv u.1 u.2) (kR dC dI dA (va_A (va_pl L f) sz)) (va_A (va_pl L f) sz)) 0 0 (va_A (va_pl L f) sz) := by
  refine Met.ofW (cc := cX3_outside) (maxL := 3) (ret := (some .boolean)) (by decide) rfl ?_
  intro p e s m args below meth c s₁ B hml hv
  obtain ⟨rfl, hsz, hP, hK, hD0, hE⟩ := hv
  have hx := B.exec
  have hb := B.bytes
  have hr := B.returns
  have hts := atoms_spec (ws := wsX3_outside) B.pre
  have hown : s.vm.findClass RX3 = some m.cls := findClass_of_methodNamed B.named
  have hlocks := B.notSynchronized
  subst hsz
  have hD := hD0.self (sz := s.heap.size)
  generalize hAe : va_A (va_pl L f) s.heap.size = A at hD hE ⊢
  have hA : ∀ q : Nat, s.heap.size ≤ q → A q := fun q h => by rw [← hAe]; exact Or.inr h
  have hS : va_S A s.heap s.heap [] := va_S.rf
  have hP : va_P (dC, dI) vwCl (va_pl L f) s.heap := hP
  have hK : va_K (dC, dI) vwCl (tyA dA) s := hK
  have hl := lv_entry ([.float a, .float b, .float c9]) (n := 3) (Nat.le_of_ble_eq_true rfl)
  rw [lg_entry_eq]
  generalize (lg_sl ([.float a, .float b, .float c9]) ++ List.replicate (3 - (lg_sl ([.float a, .float b, .float c9])).length) Slot.unset).toArray = ls at hl ⊢
  have hl : lv_has ls 3 [(0, .float a), (1, .float b), (2, .float c9)] := hl
  refine lv_fload_n hx hb dX3_outside_0 rfl (lv_at hl 0 rfl) ?_
  refine lv_fload_n hx hb dX3_outside_1 rfl (lv_at hl 1 rfl) ?_
  refine lv_fcmp hx hb dX3_outside_2 ?_
  refine lv_if_lt (tgt := 12) hx hb dX3_outside_3 (by decide) (fun c_1 => ?_) (fun c_1 => ?_)
  · refine lv_iconst (v := 1) hx hb dX3_outside_12 (by decide) ?_
    refine lv_goto (tgt := 17) hx hb dX3_outside_13 (by decide) ?_
    refine W.widen (k := 0) (n := 0) (Nat.le_of_ble_eq_true rfl) (Nat.le_of_ble_eq_true rfl) ?_
    exact W.zret (ty := .boolean) (v := 1) hx hb hr rfl (fun t ht hW9 => ⟨⟨1, (L, f), rfl, ⟨Or.inr ⟨by simp only [kz_fin, c_1, decide_true, decide_false, Bool.not_true, Bool.not_false, Bool.and_true, Bool.true_and, Bool.and_false, Bool.false_and, Bool.and_self], rfl⟩, hI⟩, by rw [ht]; exact hP, va_K.moved hW9.alike hK, hD⟩, hS.F ht⟩) hS.2.2 dX3_outside_17
  · refine lv_fload_n hx hb dX3_outside_6 rfl (lv_at hl 0 rfl) ?_
    refine lv_fload_n hx hb dX3_outside_7 rfl (lv_at hl 2 rfl) ?_
    refine lv_fcmp hx hb dX3_outside_8 ?_
    refine lv_if_le (tgt := 16) hx hb dX3_outside_9 (by decide) (fun c_2 => ?_) (fun c_2 => ?_)
    · refine lv_iconst (v := 0) hx hb dX3_outside_16 (by decide) ?_
      refine W.widen (k := 0) (n := 0) (Nat.le_of_ble_eq_true rfl) (Nat.le_of_ble_eq_true rfl) ?_
      exact W.zret (ty := .boolean) (v := 0) hx hb hr rfl (fun t ht hW9 => ⟨⟨0, (L, f), rfl, ⟨Or.inl ⟨by simp only [kz_fin, c_1, (Int32.not_lt.mpr c_2), decide_true, decide_false, Bool.not_true, Bool.not_false, Bool.and_true, Bool.true_and, Bool.and_false, Bool.false_and, Bool.and_self], rfl⟩, hI⟩, by rw [ht]; exact hP, va_K.moved hW9.alike hK, hD⟩, hS.F ht⟩) hS.2.2 dX3_outside_17
    · refine lv_iconst (v := 1) hx hb dX3_outside_12 (by decide) ?_
      refine lv_goto (tgt := 17) hx hb dX3_outside_13 (by decide) ?_
      refine W.widen (k := 0) (n := 0) (Nat.le_of_ble_eq_true rfl) (Nat.le_of_ble_eq_true rfl) ?_
      exact W.zret (ty := .boolean) (v := 1) hx hb hr rfl (fun t ht hW9 => ⟨⟨1, (L, f), rfl, ⟨Or.inr ⟨by simp only [kz_fin, c_1, (Int32.not_le.mp c_2), decide_true, decide_false, Bool.not_true, Bool.not_false, Bool.and_true, Bool.true_and, Bool.and_false, Bool.false_and, Bool.and_self], rfl⟩, hI⟩, by rw [ht]; exact hP, va_K.moved hW9.alike hK, hD⟩, hS.F ht⟩) hS.2.2 dX3_outside_17
set_option maxHeartbeats 4000000 in
set_option maxRecDepth 100000 in
theorem k_any1149239296 (l : Launch) (dC : Nat → ClassId) (dI : Nat → Nat → Nat) (dA : Nat → ClassId) (ad sz : Nat) (τ : Nat → Nat → Nat) (pv : Nat → Nat → Value) (L : List Nat) (f : Nat → va_E) (hI : kI dA τ pv L f) (a b c9 : UInt32) : Met l yX3_anyOutside wsX3_anyOutside ({ frames := 1, cells := 0, slots := 0, locals := 22 } : Room) (va_Pc [.float a, .float b, .float c9, .float 1149239296] (kB dC dI dA ad sz L f)) (va_Qi (fun r u => ((kz_any a b c9 1149239296 = true ∧ r = 0 ∧ fb 1149239296 a ∧ fb 1149239296 b ∧ fb 1149239296 c9) ∨ (kz_any a b c9 1149239296 = false ∧ r = 1)) ∧ kI dA τ pv u.1 u.2) (kR dC dI dA (va_A (va_pl L f) sz)) (va_A (va_pl L f) sz)) 0 0 (va_A (va_pl L f) sz) := by
  refine Met.ofW (cc := cX3_anyOutside) (maxL := 4) (ret := (some .boolean)) (by decide) rfl ?_
  intro p e s m args below meth c s₁ B hml hv
  obtain ⟨rfl, hsz, hP, hK, hD0, hE⟩ := hv
  have hx := B.exec
  have hb := B.bytes
  have hr := B.returns
  have hts := atoms_spec (ws := wsX3_anyOutside) B.pre
  have hown : s.vm.findClass RX3 = some m.cls := findClass_of_methodNamed B.named
  have hlocks := B.notSynchronized
  subst hsz
  have hD := hD0.self (sz := s.heap.size)
  generalize hAe : va_A (va_pl L f) s.heap.size = A at hD hE ⊢
  have hA : ∀ q : Nat, s.heap.size ≤ q → A q := fun q h => by rw [← hAe]; exact Or.inr h
  have hS : va_S A s.heap s.heap [] := va_S.rf
  have hP : va_P (dC, dI) vwCl (va_pl L f) s.heap := hP
  have hK : va_K (dC, dI) vwCl (tyA dA) s := hK
  have hl := lv_entry ([.float a, .float b, .float c9, .float 1149239296]) (n := 4) (Nat.le_of_ble_eq_true rfl)
  rw [lg_entry_eq]
  generalize (lg_sl ([.float a, .float b, .float c9, .float 1149239296]) ++ List.replicate (4 - (lg_sl ([.float a, .float b, .float c9, .float 1149239296])).length) Slot.unset).toArray = ls at hl ⊢
  have hl : lv_has ls 4 [(0, .float a), (1, .float b), (2, .float c9), (3, .float 1149239296)] := hl
  have hM9 : fb 1149239296 1149239296 := by unfold fb; decide +kernel
  refine lv_fload_n hx hb dX3_anyOutside_0 rfl (lv_at hl 0 rfl) ?_
  refine lv_fload_n hx hb dX3_anyOutside_1 rfl (lv_at hl 3 rfl) ?_
  refine lv_fneg hx hb dX3_anyOutside_2 ?_
  refine lv_fload_n hx hb dX3_anyOutside_3 rfl (lv_at hl 3 rfl) ?_
  refine kd_calli (va_runS (As := [.float a, .float (FP.fneg 1149239296), .float 1149239296]) (rest := []) ⟨hx, hb, hml, hown, hts⟩ (k_outside l dC dI dA ad _ τ pv _ _ hI a (FP.fneg 1149239296) 1149239296) (va_cwS 3 hts gX3_anyOutside_X3_outside rfl rfl rfl (by decide +kernel) ⟨Nat.le_of_ble_eq_true rfl, Nat.le_of_ble_eq_true rfl⟩) (kd_preS hP hD hK hS hA hE) rfl rfl hl.1 rfl (lv_room (Nat.le_of_ble_eq_true rfl)) dX3_anyOutside_4 ⟨Nat.le_of_ble_eq_true rfl, Nat.le_of_ble_eq_true rfl⟩) hD hS hA (fun r_2 u_1 H locs hw hP hD hS => ?_)
  obtain ⟨⟨k_3, rfl⟩ | ⟨k_3, rfl⟩, hI⟩ := hw
  · have fb_4 : fb 1149239296 a := fb_within (fb_neg (hM9 : fb 1149239296 1149239296)) (hM9 : fb 1149239296 1149239296) (by decide) k_3
    refine lv_if_ne (tgt := 30) hx hb dX3_anyOutside_7 (by decide) (fun h9 => by first | exact absurd h9 (by decide) | exact absurd (by decide) h9) (fun _ => ?_)
    refine lv_fload_n hx hb dX3_anyOutside_10 rfl (lv_at hl 1 rfl) ?_
    refine lv_fload_n hx hb dX3_anyOutside_11 rfl (lv_at hl 3 rfl) ?_
    refine lv_fneg hx hb dX3_anyOutside_12 ?_
    refine lv_fload_n hx hb dX3_anyOutside_13 rfl (lv_at hl 3 rfl) ?_
    refine kd_calli (va_runS (As := [.float b, .float (FP.fneg 1149239296), .float 1149239296]) (rest := []) ⟨hx, hb, hml, hown, hts⟩ (k_outside l dC dI dA ad _ τ pv _ _ hI b (FP.fneg 1149239296) 1149239296) (va_cwS 3 hts gX3_anyOutside_X3_outside rfl rfl rfl (by decide +kernel) ⟨Nat.le_of_ble_eq_true rfl, Nat.le_of_ble_eq_true rfl⟩) (kd_preS hP hD hK hS hA hE) rfl rfl hl.1 rfl (lv_room (Nat.le_of_ble_eq_true rfl)) dX3_anyOutside_14 ⟨Nat.le_of_ble_eq_true rfl, Nat.le_of_ble_eq_true rfl⟩) hD hS hA (fun r_6 u_5 H locs hw hP hD hS => ?_)
    obtain ⟨⟨k_7, rfl⟩ | ⟨k_7, rfl⟩, hI⟩ := hw
    · have fb_8 : fb 1149239296 b := fb_within (fb_neg (hM9 : fb 1149239296 1149239296)) (hM9 : fb 1149239296 1149239296) (by decide) k_7
      refine lv_if_ne (tgt := 30) hx hb dX3_anyOutside_17 (by decide) (fun h9 => by first | exact absurd h9 (by decide) | exact absurd (by decide) h9) (fun _ => ?_)
      refine lv_fload_n hx hb dX3_anyOutside_20 rfl (lv_at hl 2 rfl) ?_
      refine lv_fload_n hx hb dX3_anyOutside_21 rfl (lv_at hl 3 rfl) ?_
      refine lv_fneg hx hb dX3_anyOutside_22 ?_
      refine lv_fload_n hx hb dX3_anyOutside_23 rfl (lv_at hl 3 rfl) ?_
      refine kd_calli (va_runS (As := [.float c9, .float (FP.fneg 1149239296), .float 1149239296]) (rest := []) ⟨hx, hb, hml, hown, hts⟩ (k_outside l dC dI dA ad _ τ pv _ _ hI c9 (FP.fneg 1149239296) 1149239296) (va_cwS 3 hts gX3_anyOutside_X3_outside rfl rfl rfl (by decide +kernel) ⟨Nat.le_of_ble_eq_true rfl, Nat.le_of_ble_eq_true rfl⟩) (kd_preS hP hD hK hS hA hE) rfl rfl hl.1 rfl (lv_room (Nat.le_of_ble_eq_true rfl)) dX3_anyOutside_24 ⟨Nat.le_of_ble_eq_true rfl, Nat.le_of_ble_eq_true rfl⟩) hD hS hA (fun r_10 u_9 H locs hw hP hD hS => ?_)
      obtain ⟨⟨k_11, rfl⟩ | ⟨k_11, rfl⟩, hI⟩ := hw
      · have fb_12 : fb 1149239296 c9 := fb_within (fb_neg (hM9 : fb 1149239296 1149239296)) (hM9 : fb 1149239296 1149239296) (by decide) k_11
        refine lv_if_eq (tgt := 34) hx hb dX3_anyOutside_27 (by decide) (fun _ => ?_) (fun h9 => by first | exact absurd h9 (by decide) | exact absurd (by decide) h9)
        refine lv_iconst (v := 0) hx hb dX3_anyOutside_34 (by decide) ?_
        refine W.widen (k := 0) (n := 0) (Nat.le_of_ble_eq_true rfl) (Nat.le_of_ble_eq_true rfl) ?_
        exact W.zret (ty := .boolean) (v := 0) hx hb hr rfl (fun t ht hW9 => ⟨⟨0, (u_9.1, u_9.2), rfl, ⟨Or.inl ⟨by simp only [kz_any, k_3, k_7, k_11, decide_true, decide_false, Bool.not_true, Bool.not_false, Bool.and_true, Bool.true_and, Bool.and_false, Bool.false_and, Bool.and_self], rfl, fb_4, fb_8, fb_12⟩, hI⟩, by rw [ht]; exact hP, va_K.moved hW9.alike hK, hD⟩, hS.F ht⟩) hS.2.2 dX3_anyOutside_35
      · refine lv_if_eq (tgt := 34) hx hb dX3_anyOutside_27 (by decide) (fun h9 => by first | exact absurd h9 (by decide) | exact absurd (by decide) h9) (fun _ => ?_)
        refine lv_iconst (v := 1) hx hb dX3_anyOutside_30 (by decide) ?_
        refine lv_goto (tgt := 35) hx hb dX3_anyOutside_31 (by decide) ?_
        refine W.widen (k := 0) (n := 0) (Nat.le_of_ble_eq_true rfl) (Nat.le_of_ble_eq_true rfl) ?_
        exact W.zret (ty := .boolean) (v := 1) hx hb hr rfl (fun t ht hW9 => ⟨⟨1, (u_9.1, u_9.2), rfl, ⟨Or.inr ⟨by simp only [kz_any, k_3, k_7, k_11, decide_true, decide_false, Bool.not_true, Bool.not_false, Bool.and_true, Bool.true_and, Bool.and_false, Bool.false_and, Bool.and_self], rfl⟩, hI⟩, by rw [ht]; exact hP, va_K.moved hW9.alike hK, hD⟩, hS.F ht⟩) hS.2.2 dX3_anyOutside_35
    · refine lv_if_ne (tgt := 30) hx hb dX3_anyOutside_17 (by decide) (fun _ => ?_) (fun h9 => by first | exact absurd h9 (by decide) | exact absurd (by decide) h9)
      refine lv_iconst (v := 1) hx hb dX3_anyOutside_30 (by decide) ?_
      refine lv_goto (tgt := 35) hx hb dX3_anyOutside_31 (by decide) ?_
      refine W.widen (k := 0) (n := 0) (Nat.le_of_ble_eq_true rfl) (Nat.le_of_ble_eq_true rfl) ?_
      exact W.zret (ty := .boolean) (v := 1) hx hb hr rfl (fun t ht hW9 => ⟨⟨1, (u_5.1, u_5.2), rfl, ⟨Or.inr ⟨by simp only [kz_any, k_3, k_7, decide_true, decide_false, Bool.not_true, Bool.not_false, Bool.and_true, Bool.true_and, Bool.and_false, Bool.false_and, Bool.and_self], rfl⟩, hI⟩, by rw [ht]; exact hP, va_K.moved hW9.alike hK, hD⟩, hS.F ht⟩) hS.2.2 dX3_anyOutside_35
  · refine lv_if_ne (tgt := 30) hx hb dX3_anyOutside_7 (by decide) (fun _ => ?_) (fun h9 => by first | exact absurd h9 (by decide) | exact absurd (by decide) h9)
    refine lv_iconst (v := 1) hx hb dX3_anyOutside_30 (by decide) ?_
    refine lv_goto (tgt := 35) hx hb dX3_anyOutside_31 (by decide) ?_
    refine W.widen (k := 0) (n := 0) (Nat.le_of_ble_eq_true rfl) (Nat.le_of_ble_eq_true rfl) ?_
    exact W.zret (ty := .boolean) (v := 1) hx hb hr rfl (fun t ht hW9 => ⟨⟨1, (u_1.1, u_1.2), rfl, ⟨Or.inr ⟨by simp only [kz_any, k_3, decide_true, decide_false, Bool.not_true, Bool.not_false, Bool.and_true, Bool.true_and, Bool.and_false, Bool.false_and, Bool.and_self], rfl⟩, hI⟩, by rw [ht]; exact hP, va_K.moved hW9.alike hK, hD⟩, hS.F ht⟩) hS.2.2 dX3_anyOutside_35
set_option maxHeartbeats 4000000 in
set_option maxRecDepth 100000 in
theorem k_any1115684864 (l : Launch) (dC : Nat → ClassId) (dI : Nat → Nat → Nat) (dA : Nat → ClassId) (ad sz : Nat) (τ : Nat → Nat → Nat) (pv : Nat → Nat → Value) (L : List Nat) (f : Nat → va_E) (hI : kI dA τ pv L f) (a b c9 : UInt32) : Met l yX3_anyOutside wsX3_anyOutside ({ frames := 1, cells := 0, slots := 0, locals := 22 } : Room) (va_Pc [.float a, .float b, .float c9, .float 1115684864] (kB dC dI dA ad sz L f)) (va_Qi (fun r u => ((kz_any a b c9 1115684864 = true ∧ r = 0 ∧ fb 1115684864 a ∧ fb 1115684864 b ∧ fb 1115684864 c9) ∨ (kz_any a b c9 1115684864 = false ∧ r = 1)) ∧ kI dA τ pv u.1 u.2) (kR dC dI dA (va_A (va_pl L f) sz)) (va_A (va_pl L f) sz)) 0 0 (va_A (va_pl L f) sz) := by
  refine Met.ofW (cc := cX3_anyOutside) (maxL := 4) (ret := (some .boolean)) (by decide) rfl ?_
  intro p e s m args below meth c s₁ B hml hv
  obtain ⟨rfl, hsz, hP, hK, hD0, hE⟩ := hv
  have hx := B.exec
  have hb := B.bytes
  have hr := B.returns
  have hts := atoms_spec (ws := wsX3_anyOutside) B.pre
  have hown : s.vm.findClass RX3 = some m.cls := findClass_of_methodNamed B.named
  have hlocks := B.notSynchronized
  subst hsz
  have hD := hD0.self (sz := s.heap.size)
  generalize hAe : va_A (va_pl L f) s.heap.size = A at hD hE ⊢
  have hA : ∀ q : Nat, s.heap.size ≤ q → A q := fun q h => by rw [← hAe]; exact Or.inr h
  have hS : va_S A s.heap s.heap [] := va_S.rf
  have hP : va_P (dC, dI) vwCl (va_pl L f) s.heap := hP
  have hK : va_K (dC, dI) vwCl (tyA dA) s := hK
  have hl := lv_entry ([.float a, .float b, .float c9, .float 1115684864]) (n := 4) (Nat.le_of_ble_eq_true rfl)
  rw [lg_entry_eq]
  generalize (lg_sl ([.float a, .float b, .float c9, .float 1115684864]) ++ List.replicate (4 - (lg_sl ([.float a, .float b, .float c9, .float 1115684864])).length) Slot.unset).toArray = ls at hl ⊢
  have hl : lv_has ls 4 [(0, .float a), (1, .float b), (2, .float c9), (3, .float 1115684864)] := hl
  have hM9 : fb 1115684864 1115684864 := by unfold fb; decide +kernel
  refine lv_fload_n hx hb dX3_anyOutside_0 rfl (lv_at hl 0 rfl) ?_
  refine lv_fload_n hx hb dX3_anyOutside_1 rfl (lv_at hl 3 rfl) ?_
  refine lv_fneg hx hb dX3_anyOutside_2 ?_
  refine lv_fload_n hx hb dX3_anyOutside_3 rfl (lv_at hl 3 rfl) ?_
  refine kd_calli (va_runS (As := [.float a, .float (FP.fneg 1115684864), .float 1115684864]) (rest := []) ⟨hx, hb, hml, hown, hts⟩ (k_outside l dC dI dA ad _ τ pv _ _ hI a (FP.fneg 1115684864) 1115684864) (va_cwS 3 hts gX3_anyOutside_X3_outside rfl rfl rfl (by decide +kernel) ⟨Nat.le_of_ble_eq_true rfl, Nat.le_of_ble_eq_true rfl⟩) (kd_preS hP hD hK hS hA hE) rfl rfl hl.1 rfl (lv_room (Nat.le_of_ble_eq_true rfl)) dX3_anyOutside_4 ⟨Nat.le_of_ble_eq_true rfl, Nat.le_of_ble_eq_true rfl⟩) hD hS hA (fun r_2 u_1 H locs hw hP hD hS => ?_)
  obtain ⟨⟨k_3, rfl⟩ | ⟨k_3, rfl⟩, hI⟩ := hw
  · have fb_4 : fb 1115684864 a := fb_within (fb_neg (hM9 : fb 1115684864 1115684864)) (hM9 : fb 1115684864 1115684864) (by decide) k_3
    refine lv_if_ne (tgt := 30) hx hb dX3_anyOutside_7 (by decide) (fun h9 => by first | exact absurd h9 (by decide) | exact absurd (by decide) h9) (fun _ => ?_)
    refine lv_fload_n hx hb dX3_anyOutside_10 rfl (lv_at hl 1 rfl) ?_
    refine lv_fload_n hx hb dX3_anyOutside_11 rfl (lv_at hl 3 rfl) ?_
    refine lv_fneg hx hb dX3_anyOutside_12 ?_
    refine lv_fload_n hx hb dX3_anyOutside_13 rfl (lv_at hl 3 rfl) ?_
    refine kd_calli (va_runS (As := [.float b, .float (FP.fneg 1115684864), .float 1115684864]) (rest := []) ⟨hx, hb, hml, hown, hts⟩ (k_outside l dC dI dA ad _ τ pv _ _ hI b (FP.fneg 1115684864) 1115684864) (va_cwS 3 hts gX3_anyOutside_X3_outside rfl rfl rfl (by decide +kernel) ⟨Nat.le_of_ble_eq_true rfl, Nat.le_of_ble_eq_true rfl⟩) (kd_preS hP hD hK hS hA hE) rfl rfl hl.1 rfl (lv_room (Nat.le_of_ble_eq_true rfl)) dX3_anyOutside_14 ⟨Nat.le_of_ble_eq_true rfl, Nat.le_of_ble_eq_true rfl⟩) hD hS hA (fun r_6 u_5 H locs hw hP hD hS => ?_)
    obtain ⟨⟨k_7, rfl⟩ | ⟨k_7, rfl⟩, hI⟩ := hw
    · have fb_8 : fb 1115684864 b := fb_within (fb_neg (hM9 : fb 1115684864 1115684864)) (hM9 : fb 1115684864 1115684864) (by decide) k_7
      refine lv_if_ne (tgt := 30) hx hb dX3_anyOutside_17 (by decide) (fun h9 => by first | exact absurd h9 (by decide) | exact absurd (by decide) h9) (fun _ => ?_)
      refine lv_fload_n hx hb dX3_anyOutside_20 rfl (lv_at hl 2 rfl) ?_
      refine lv_fload_n hx hb dX3_anyOutside_21 rfl (lv_at hl 3 rfl) ?_
      refine lv_fneg hx hb dX3_anyOutside_22 ?_
      refine lv_fload_n hx hb dX3_anyOutside_23 rfl (lv_at hl 3 rfl) ?_
      refine kd_calli (va_runS (As := [.float c9, .float (FP.fneg 1115684864), .float 1115684864]) (rest := []) ⟨hx, hb, hml, hown, hts⟩ (k_outside l dC dI dA ad _ τ pv _ _ hI c9 (FP.fneg 1115684864) 1115684864) (va_cwS 3 hts gX3_anyOutside_X3_outside rfl rfl rfl (by decide +kernel) ⟨Nat.le_of_ble_eq_true rfl, Nat.le_of_ble_eq_true rfl⟩) (kd_preS hP hD hK hS hA hE) rfl rfl hl.1 rfl (lv_room (Nat.le_of_ble_eq_true rfl)) dX3_anyOutside_24 ⟨Nat.le_of_ble_eq_true rfl, Nat.le_of_ble_eq_true rfl⟩) hD hS hA (fun r_10 u_9 H locs hw hP hD hS => ?_)
      obtain ⟨⟨k_11, rfl⟩ | ⟨k_11, rfl⟩, hI⟩ := hw
      · have fb_12 : fb 1115684864 c9 := fb_within (fb_neg (hM9 : fb 1115684864 1115684864)) (hM9 : fb 1115684864 1115684864) (by decide) k_11
        refine lv_if_eq (tgt := 34) hx hb dX3_anyOutside_27 (by decide) (fun _ => ?_) (fun h9 => by first | exact absurd h9 (by decide) | exact absurd (by decide) h9)
        refine lv_iconst (v := 0) hx hb dX3_anyOutside_34 (by decide) ?_
        refine W.widen (k := 0) (n := 0) (Nat.le_of_ble_eq_true rfl) (Nat.le_of_ble_eq_true rfl) ?_
        exact W.zret (ty := .boolean) (v := 0) hx hb hr rfl (fun t ht hW9 => ⟨⟨0, (u_9.1, u_9.2), rfl, ⟨Or.inl ⟨by simp only [kz_any, k_3, k_7, k_11, decide_true, decide_false, Bool.not_true, Bool.not_false, Bool.and_true, Bool.true_and, Bool.and_false, Bool.false_and, Bool.and_self], rfl, fb_4, fb_8, fb_12⟩, hI⟩, by rw [ht]; exact hP, va_K.moved hW9.alike hK, hD⟩, hS.F ht⟩) hS.2.2 dX3_anyOutside_35
      · refine lv_if_eq (tgt := 34) hx hb dX3_anyOutside_27 (by decide) (fun h9 => by first | exact absurd h9 (by decide) | exact absurd (by decide) h9) (fun _ => ?_)
        refine lv_iconst (v := 1) hx hb dX3_anyOutside_30 (by decide) ?_
        refine lv_goto (tgt := 35) hx hb dX3_anyOutside_31 (by decide) ?_
        refine W.widen (k := 0) (n := 0) (Nat.le_of_ble_eq_true rfl) (Nat.le_of_ble_eq_true rfl) ?_
        exact W.zret (ty := .boolean) (v := 1) hx hb hr rfl (fun t ht hW9 => ⟨⟨1, (u_9.1, u_9.2), rfl, ⟨Or.inr ⟨by simp only [kz_any, k_3, k_7, k_11, decide_true, decide_false, Bool.not_true, Bool.not_false, Bool.and_true, Bool.true_and, Bool.and_false, Bool.false_and, Bool.and_self], rfl⟩, hI⟩, by rw [ht]; exact hP, va_K.moved hW9.alike hK, hD⟩, hS.F ht⟩) hS.2.2 dX3_anyOutside_35
    · refine lv_if_ne (tgt := 30) hx hb dX3_anyOutside_17 (by decide) (fun _ => ?_) (fun h9 => by first | exact absurd h9 (by decide) | exact absurd (by decide) h9)
      refine lv_iconst (v := 1) hx hb dX3_anyOutside_30 (by decide) ?_
      refine lv_goto (tgt := 35) hx hb dX3_anyOutside_31 (by decide) ?_
      refine W.widen (k := 0) (n := 0) (Nat.le_of_ble_eq_true rfl) (Nat.le_of_ble_eq_true rfl) ?_
      exact W.zret (ty := .boolean) (v := 1) hx hb hr rfl (fun t ht hW9 => ⟨⟨1, (u_5.1, u_5.2), rfl, ⟨Or.inr ⟨by simp only [kz_any, k_3, k_7, decide_true, decide_false, Bool.not_true, Bool.not_false, Bool.and_true, Bool.true_and, Bool.and_false, Bool.false_and, Bool.and_self], rfl⟩, hI⟩, by rw [ht]; exact hP, va_K.moved hW9.alike hK, hD⟩, hS.F ht⟩) hS.2.2 dX3_anyOutside_35
  · refine lv_if_ne (tgt := 30) hx hb dX3_anyOutside_7 (by decide) (fun _ => ?_) (fun h9 => by first | exact absurd h9 (by decide) | exact absurd (by decide) h9)
    refine lv_iconst (v := 1) hx hb dX3_anyOutside_30 (by decide) ?_
    refine lv_goto (tgt := 35) hx hb dX3_anyOutside_31 (by decide) ?_
    refine W.widen (k := 0) (n := 0) (Nat.le_of_ble_eq_true rfl) (Nat.le_of_ble_eq_true rfl) ?_
    exact W.zret (ty := .boolean) (v := 1) hx hb hr rfl (fun t ht hW9 => ⟨⟨1, (u_1.1, u_1.2), rfl, ⟨Or.inr ⟨by simp only [kz_any, k_3, decide_true, decide_false, Bool.not_true, Bool.not_false, Bool.and_true, Bool.true_and, Bool.and_false, Bool.false_and, Bool.and_self], rfl⟩, hI⟩, by rw [ht]; exact hP, va_K.moved hW9.alike hK, hD⟩, hS.F ht⟩) hS.2.2 dX3_anyOutside_35
