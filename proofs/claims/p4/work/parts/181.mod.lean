set_option maxHeartbeats 4000000 in
set_option maxRecDepth 100000 in
theorem k_within (l : Launch) (dC : Nat → ClassId) (dI : Nat → Nat → Nat) (dA : Nat → ClassId) (ad sz : Nat) (τ : Nat → Nat → Nat) (pv : Nat → Nat → Value) (L : List Nat) (f : Nat → va_E) (hI : kI dA τ pv L f) (a b c9 : UInt32) : Met l yX4_within wsX4_within ({ frames := 0, cells := 0, slots := 0, locals := 0 } : Room) (va_Pc [.float a, .float b, .float c9] (kB dC dI dA ad sz L f)) (va_Qi (fun r u => ((kz_fin a b c9 = true ∧ r = 1) ∨ (kz_fin a b c9 = false ∧ r = 0)) ∧ kI dA τ pv u.1 u.2) (kR dC dI dA (va_A (va_pl L f) sz)) (va_A (va_pl L f) sz)) 0 0 (va_A (va_pl L f) sz) := by
  refine Met.ofW (cc := cX4_within) (maxL := 3) (ret := (some .boolean)) (by decide) rfl ?_
  intro p e s m args below meth c s₁ B hml hv
  obtain ⟨rfl, hsz, hP, hK, hD0, hE⟩ := hv
  have hx := B.exec
  have hb := B.bytes
  have hr := B.returns
  have hts := atoms_spec (ws := wsX4_within) B.pre
  have hown : s.vm.findClass RX4 = some m.cls := findClass_of_methodNamed B.named
  have hlocks := B.notSynchronized
  subst hsz
  have hD := hD0.self (sz := s.heap.size)
  generalize hAe : va_A (va_pl L f) s.heap.size = A at hD hE ⊢
  have hA : ∀ q : Nat, s.heap.size ≤ q → A q := fun q h => by rw [← hAe]; exact Or.inr h
  have hS : va_S A s.heap s.heap [] := va_S.rf
  have hP : va_P (dC, dI) vwCl (va_pl L f) s.heap := hP
  have hK : va_K (dC, dI) vwCl (tyA dA) s := hK
  have hl := lv_entry ([.float a, .float b, .float c9]) (n := 3) (Nat.le_of_ble_eq_true rfl)
  rw [lg_entry_eq]
  generalize (lg_sl ([.float a, .float b, .float c9]) ++ List.replicate (3 - (lg_sl ([.float a, .float b, .float c9])).length) Slot.unset).toArray = ls at hl ⊢
  have hl : lv_has ls 3 [(0, .float a), (1, .float b), (2, .float c9)] := hl
  refine lv_fload_n hx hb dX4_within_0 rfl (lv_at hl 0 rfl) ?_
  refine lv_fload_n hx hb dX4_within_1 rfl (lv_at hl 1 rfl) ?_
  refine lv_fcmp hx hb dX4_within_2 ?_
  refine lv_if_lt (tgt := 16) hx hb dX4_within_3 (by decide) (fun c_1 => ?_) (fun c_1 => ?_)
  · refine lv_iconst (v := 0) hx hb dX4_within_16 (by decide) ?_
    refine W.widen (k := 0) (n := 0) (Nat.le_of_ble_eq_true rfl) (Nat.le_of_ble_eq_true rfl) ?_
    exact W.zret (ty := .boolean) (v := 0) hx hb hr rfl (fun t ht hW9 => ⟨⟨0, (L, f), rfl, ⟨Or.inr ⟨by simp only [kz_fin, c_1, decide_true, decide_false, Bool.not_true, Bool.not_false, Bool.and_true, Bool.true_and, Bool.and_false, Bool.false_and, Bool.and_self], rfl⟩, hI⟩, by rw [ht]; exact hP, va_K.moved hW9.alike hK, hD⟩, hS.F ht⟩) hS.2.2 dX4_within_17
  · refine lv_fload_n hx hb dX4_within_6 rfl (lv_at hl 0 rfl) ?_
    refine lv_fload_n hx hb dX4_within_7 rfl (lv_at hl 2 rfl) ?_
    refine lv_fcmp hx hb dX4_within_8 ?_
    refine lv_if_gt (tgt := 16) hx hb dX4_within_9 (by decide) (fun c_2 => ?_) (fun c_2 => ?_)
    · refine lv_iconst (v := 0) hx hb dX4_within_16 (by decide) ?_
      refine W.widen (k := 0) (n := 0) (Nat.le_of_ble_eq_true rfl) (Nat.le_of_ble_eq_true rfl) ?_
      exact W.zret (ty := .boolean) (v := 0) hx hb hr rfl (fun t ht hW9 => ⟨⟨0, (L, f), rfl, ⟨Or.inr ⟨by simp only [kz_fin, c_1, c_2, decide_true, decide_false, Bool.not_true, Bool.not_false, Bool.and_true, Bool.true_and, Bool.and_false, Bool.false_and, Bool.and_self], rfl⟩, hI⟩, by rw [ht]; exact hP, va_K.moved hW9.alike hK, hD⟩, hS.F ht⟩) hS.2.2 dX4_within_17
    · refine lv_iconst (v := 1) hx hb dX4_within_12 (by decide) ?_
      refine lv_goto (tgt := 17) hx hb dX4_within_13 (by decide) ?_
      refine W.widen (k := 0) (n := 0) (Nat.le_of_ble_eq_true rfl) (Nat.le_of_ble_eq_true rfl) ?_
      exact W.zret (ty := .boolean) (v := 1) hx hb hr rfl (fun t ht hW9 => ⟨⟨1, (L, f), rfl, ⟨Or.inl ⟨by simp only [kz_fin, c_1, c_2, decide_true, decide_false, Bool.not_true, Bool.not_false, Bool.and_true, Bool.true_and, Bool.and_false, Bool.false_and, Bool.and_self], rfl⟩, hI⟩, by rw [ht]; exact hP, va_K.moved hW9.alike hK, hD⟩, hS.F ht⟩) hS.2.2 dX4_within_17
set_option maxHeartbeats 4000000 in
set_option maxRecDepth 100000 in
theorem k_held4 (l : Launch) (dC : Nat → ClassId) (dI : Nat → Nat → Nat) (dA : Nat → ClassId) (ad sz : Nat) (τ : Nat → Nat → Nat) (pv : Nat → Nat → Value) (L : List Nat) (f : Nat → va_E) (hI : kI dA τ pv L f) (A0 B0 : Nat) (x lo hi : UInt32) (hx0 : fb A0 x) (hlo : fb B0 lo) (hhi : fb B0 hi) (hA0 : A0 < 2139095040) (hB0 : B0 < 2139095040) : Met l yX4_held wsX4_held ({ frames := 0, cells := 0, slots := 0, locals := 0 } : Room) (va_Pc [.float x, .float lo, .float hi] (kB dC dI dA ad sz L f)) (va_Qf (fun r u => fb B0 r ∧ kI dA τ pv u.1 u.2) (kR dC dI dA (va_A (va_pl L f) sz)) (va_A (va_pl L f) sz)) 0 0 (va_A (va_pl L f) sz) := by
  refine Met.ofW (cc := cX4_held) (maxL := 3) (ret := (some .float)) (by decide) rfl ?_
  intro p e s m args below meth c s₁ B hml hv
  obtain ⟨rfl, hsz, hP, hK, hD0, hE⟩ := hv
  have hx := B.exec
  have hb := B.bytes
  have hr := B.returns
  have hts := atoms_spec (ws := wsX4_held) B.pre
  have hown : s.vm.findClass RX4 = some m.cls := findClass_of_methodNamed B.named
  have hlocks := B.notSynchronized
  subst hsz
  have hD := hD0.self (sz := s.heap.size)
  generalize hAe : va_A (va_pl L f) s.heap.size = A at hD hE ⊢
  have hA : ∀ q : Nat, s.heap.size ≤ q → A q := fun q h => by rw [← hAe]; exact Or.inr h
  have hS : va_S A s.heap s.heap [] := va_S.rf
  have hP : va_P (dC, dI) vwCl (va_pl L f) s.heap := hP
  have hK : va_K (dC, dI) vwCl (tyA dA) s := hK
  have hl := lv_entry ([.float x, .float lo, .float hi]) (n := 3) (Nat.le_of_ble_eq_true rfl)
  rw [lg_entry_eq]
  generalize (lg_sl ([.float x, .float lo, .float hi]) ++ List.replicate (3 - (lg_sl ([.float x, .float lo, .float hi])).length) Slot.unset).toArray = ls at hl ⊢
  have hl : lv_has ls 3 [(0, .float x), (1, .float lo), (2, .float hi)] := hl
  refine lv_fload_n hx hb dX4_held_0 rfl (lv_at hl 0 rfl) ?_
  refine lv_fload_n hx hb dX4_held_1 rfl (lv_at hl 1 rfl) ?_
  refine lv_fcmp hx hb dX4_held_2 ?_
  refine lv_if_ge (tgt := 10) hx hb dX4_held_3 (by decide) (fun c_1 => ?_) (fun c_1 => ?_)
  · refine lv_fload_n hx hb dX4_held_10 rfl (lv_at hl 0 rfl) ?_
    refine lv_fload_n hx hb dX4_held_11 rfl (lv_at hl 2 rfl) ?_
    refine lv_fcmp hx hb dX4_held_12 ?_
    refine lv_if_le (tgt := 20) hx hb dX4_held_13 (by decide) (fun c_2 => ?_) (fun c_2 => ?_)
    · refine lv_fload_n hx hb dX4_held_20 rfl (lv_at hl 0 rfl) ?_
      refine W.widen (k := 0) (n := 0) (Nat.le_of_ble_eq_true rfl) (Nat.le_of_ble_eq_true rfl) ?_
      exact W.fret (v := x) hx hb hr (fun t ht hW9 => ⟨⟨x, (L, f), rfl, ⟨kf_hold hx0 hlo hhi hA0 hB0 c_1 c_2, hI⟩, by rw [ht]; exact hP, va_K.moved hW9.alike hK, hD⟩, hS.F ht⟩) hS.2.2 dX4_held_21
    · refine lv_fload_n hx hb dX4_held_16 rfl (lv_at hl 2 rfl) ?_
      refine lv_goto (tgt := 21) hx hb dX4_held_17 (by decide) ?_
      refine W.widen (k := 0) (n := 0) (Nat.le_of_ble_eq_true rfl) (Nat.le_of_ble_eq_true rfl) ?_
      exact W.fret (v := hi) hx hb hr (fun t ht hW9 => ⟨⟨hi, (L, f), rfl, ⟨hhi, hI⟩, by rw [ht]; exact hP, va_K.moved hW9.alike hK, hD⟩, hS.F ht⟩) hS.2.2 dX4_held_21
  · refine lv_fload_n hx hb dX4_held_6 rfl (lv_at hl 1 rfl) ?_
    refine lv_goto (tgt := 21) hx hb dX4_held_7 (by decide) ?_
    refine W.widen (k := 0) (n := 0) (Nat.le_of_ble_eq_true rfl) (Nat.le_of_ble_eq_true rfl) ?_
    exact W.fret (v := lo) hx hb hr (fun t ht hW9 => ⟨⟨lo, (L, f), rfl, ⟨hlo, hI⟩, by rw [ht]; exact hP, va_K.moved hW9.alike hK, hD⟩, hS.F ht⟩) hS.2.2 dX4_held_21
set_option maxHeartbeats 4000000 in
set_option maxRecDepth 100000 in
theorem k_goes1 (l : Launch) (dC : Nat → ClassId) (dI : Nat → Nat → Nat) (dA : Nat → ClassId) (ad sz : Nat) (τ : Nat → Nat → Nat) (pv : Nat → Nat → Value) (L : List Nat) (f : Nat → va_E) (hI : kI dA τ pv L f) (mm fa sa aa ia sf mb mr mk mi : Nat) (hW : kMd τ pv mm fa sa aa ia sf mb mr mk mi)  : Met l yX4_goes wsX4_goes ({ frames := 0, cells := 0, slots := 0, locals := 0 } : Room) (va_Pc [.ref mm, .int 1, .int 1, .int 1] (kB dC dI dA ad sz L f)) (va_Qi (fun r u => r = 1 ∧ kI dA τ (kup pv mm 0 (.int 0)) u.1 u.2) (kR dC dI dA (va_A (va_pl L f) sz)) (va_A (va_pl L f) sz)) 0 0 (va_A (va_pl L f) sz) := by
  refine Met.ofW (cc := cX4_goes) (maxL := 4) (ret := (some .boolean)) (by decide) rfl ?_
  intro p e s m args below meth c s₁ B hml hv
  obtain ⟨rfl, hsz, hP, hK, hD0, hE⟩ := hv
  have hx := B.exec
  have hb := B.bytes
  have hr := B.returns
  have hts := atoms_spec (ws := wsX4_goes) B.pre
  have hown : s.vm.findClass RX4 = some m.cls := findClass_of_methodNamed B.named
  have hlocks := B.notSynchronized
  have i_X4 : ∀ w ∈ u_ws RX4 TX4 35, w ∈ wsX4_goes := by decide +kernel
  subst hsz
  have hD := hD0.self (sz := s.heap.size)
  generalize hAe : va_A (va_pl L f) s.heap.size = A at hD hE ⊢
  have hA : ∀ q : Nat, s.heap.size ≤ q → A q := fun q h => by rw [← hAe]; exact Or.inr h
  have hS : va_S A s.heap s.heap [] := va_S.rf
  have hP : va_P (dC, dI) vwCl (va_pl L f) s.heap := hP
  have hK : va_K (dC, dI) vwCl (tyA dA) s := hK
  have hl := lv_entry ([.ref mm, .int 1, .int 1, .int 1]) (n := 4) (Nat.le_of_ble_eq_true rfl)
  rw [lg_entry_eq]
  generalize (lg_sl ([.ref mm, .int 1, .int 1, .int 1]) ++ List.replicate (4 - (lg_sl ([.ref mm, .int 1, .int 1, .int 1])).length) Slot.unset).toArray = ls at hl ⊢
  have hl : lv_has ls 4 [(0, .ref mm), (1, .int 1), (2, .int 1), (3, .int 1)] := hl
  have hnb := hW.lb
  have hnr := hW.lr
  have hnk := hW.lk
  have hni := hW.li
  refine lv_aload_n hx hb dX4_goes_0 rfl (lv_at hl 0 rfl) ?_
  refine lv_iload_n hx hb dX4_goes_1 rfl (lv_at hl 1 rfl) ?_
  refine lv_if_ne (tgt := 9) hx hb dX4_goes_2 (by decide) (fun _ => ?_) (fun h9 => by first | exact absurd h9 (by decide) | exact absurd (by decide) h9)
  refine lv_iload_n hx hb dX4_goes_9 rfl (lv_at hl 2 rfl) ?_
  refine lv_if_ne (tgt := 17) hx hb dX4_goes_10 (by decide) (fun _ => ?_) (fun h9 => by first | exact absurd h9 (by decide) | exact absurd (by decide) h9)
  refine lv_iload_n hx hb dX4_goes_17 rfl (lv_at hl 3 rfl) ?_
  refine lv_if_ne (tgt := 25) hx hb dX4_goes_18 (by decide) (fun _ => ?_) (fun h9 => by first | exact absurd h9 (by decide) | exact absurd (by decide) h9)
  refine lv_iconst (v := 0) hx hb dX4_goes_25 (by decide) ?_
  refine kp_putP (v := .int 0) (ty := .int) hx hb hts i_X4 tyX4 tyX4_ok nmX4 hown hK hP hD hS hI hW.tm rfl rfl 0 (by decide) (by decide) (hts (.fieldLink RX4 90 "IslandSolverModel" "thrown" "I") (by decide +kernel)) (fun _ h9 => h9) rfl (by decide +kernel) rfl rfl rfl (kv_I _) dX4_goes_26 (fun f H locs hI hP hD hS => ?_)
  have hW := hW.frw (kFr.up (P := kPy mr) (w := .int 0) (k := 0) hW.tm rfl)
  refine lv_aload_n hx hb dX4_goes_29 rfl (lv_at hl 0 rfl) ?_
  refine kp_get hx hb hts i_X4 hown hK hP hI hW.tm rfl rfl 0 (by decide) (by decide) (hts (.fieldLink RX4 90 "IslandSolverModel" "thrown" "I") (by decide +kernel)) (fun _ h9 => h9) dX4_goes_30 (kq_P (v0 := .int 0) rfl kup_self fun h_2 => ?_)
  refine lv_if_ne (tgt := 40) hx hb dX4_goes_33 (by decide) (fun h9 => by first | exact absurd h9 (by decide) | exact absurd (by decide) h9) (fun _ => ?_)
  refine lv_iconst (v := 1) hx hb dX4_goes_36 (by decide) ?_
  refine lv_goto (tgt := 41) hx hb dX4_goes_37 (by decide) ?_
  refine W.widen (k := 0) (n := 0) (Nat.le_of_ble_eq_true rfl) (Nat.le_of_ble_eq_true rfl) ?_
  exact W.zret (ty := .boolean) (v := 1) hx hb hr rfl (fun t ht hW9 => ⟨⟨1, (L, f), rfl, ⟨rfl, hI⟩, by rw [ht]; exact hP, va_K.moved hW9.alike hK, hD⟩, hS.F ht⟩) hS.2.2 dX4_goes_41
set_option maxHeartbeats 4000000 in
set_option maxRecDepth 100000 in
theorem k_goes2 (l : Launch) (dC : Nat → ClassId) (dI : Nat → Nat → Nat) (dA : Nat → ClassId) (ad sz : Nat) (τ : Nat → Nat → Nat) (pv : Nat → Nat → Value) (L : List Nat) (f : Nat → va_E) (hI : kI dA τ pv L f) (mm fa sa aa ia sf mb mr mk mi : Nat) (hW : kMd τ pv mm fa sa aa ia sf mb mr mk mi) (g : Int32) (k : Int32) : Met l yX4_goes wsX4_goes ({ frames := 0, cells := 0, slots := 0, locals := 0 } : Room) (va_Pc [.ref mm, .int 0, .int g, .int k] (kB dC dI dA ad sz L f)) (va_Qi (fun r u => r = 0 ∧ kI dA τ (kup pv mm 0 (.int 1)) u.1 u.2) (kR dC dI dA (va_A (va_pl L f) sz)) (va_A (va_pl L f) sz)) 0 0 (va_A (va_pl L f) sz) := by
  refine Met.ofW (cc := cX4_goes) (maxL := 4) (ret := (some .boolean)) (by decide) rfl ?_
  intro p e s m args below meth c s₁ B hml hv
  obtain ⟨rfl, hsz, hP, hK, hD0, hE⟩ := hv
  have hx := B.exec
  have hb := B.bytes
  have hr := B.returns
  have hts := atoms_spec (ws := wsX4_goes) B.pre
  have hown : s.vm.findClass RX4 = some m.cls := findClass_of_methodNamed B.named
  have hlocks := B.notSynchronized
  have i_X4 : ∀ w ∈ u_ws RX4 TX4 35, w ∈ wsX4_goes := by decide +kernel
  subst hsz
  have hD := hD0.self (sz := s.heap.size)
  generalize hAe : va_A (va_pl L f) s.heap.size = A at hD hE ⊢
  have hA : ∀ q : Nat, s.heap.size ≤ q → A q := fun q h => by rw [← hAe]; exact Or.inr h
  have hS : va_S A s.heap s.heap [] := va_S.rf
  have hP : va_P (dC, dI) vwCl (va_pl L f) s.heap := hP
  have hK : va_K (dC, dI) vwCl (tyA dA) s := hK
  have hl := lv_entry ([.ref mm, .int 0, .int g, .int k]) (n := 4) (Nat.le_of_ble_eq_true rfl)
  rw [lg_entry_eq]
  generalize (lg_sl ([.ref mm, .int 0, .int g, .int k]) ++ List.replicate (4 - (lg_sl ([.ref mm, .int 0, .int g, .int k])).length) Slot.unset).toArray = ls at hl ⊢
  have hl : lv_has ls 4 [(0, .ref mm), (1, .int 0), (2, .int g), (3, .int k)] := hl
  have hnb := hW.lb
  have hnr := hW.lr
  have hnk := hW.lk
  have hni := hW.li
  refine lv_aload_n hx hb dX4_goes_0 rfl (lv_at hl 0 rfl) ?_
  refine lv_iload_n hx hb dX4_goes_1 rfl (lv_at hl 1 rfl) ?_
  refine lv_if_ne (tgt := 9) hx hb dX4_goes_2 (by decide) (fun h9 => by first | exact absurd h9 (by decide) | exact absurd (by decide) h9) (fun _ => ?_)
  refine lv_iconst (v := 1) hx hb dX4_goes_5 (by decide) ?_
  refine lv_goto (tgt := 26) hx hb dX4_goes_6 (by decide) ?_
  refine kp_putP (v := .int 1) (ty := .int) hx hb hts i_X4 tyX4 tyX4_ok nmX4 hown hK hP hD hS hI hW.tm rfl rfl 0 (by decide) (by decide) (hts (.fieldLink RX4 90 "IslandSolverModel" "thrown" "I") (by decide +kernel)) (fun _ h9 => h9) rfl (by decide +kernel) rfl rfl rfl (kv_I _) dX4_goes_26 (fun f H locs hI hP hD hS => ?_)
  have hW := hW.frw (kFr.up (P := kPy mr) (w := .int 1) (k := 0) hW.tm rfl)
  refine lv_aload_n hx hb dX4_goes_29 rfl (lv_at hl 0 rfl) ?_
  refine kp_get hx hb hts i_X4 hown hK hP hI hW.tm rfl rfl 0 (by decide) (by decide) (hts (.fieldLink RX4 90 "IslandSolverModel" "thrown" "I") (by decide +kernel)) (fun _ h9 => h9) dX4_goes_30 (kq_P (v0 := .int 1) rfl kup_self fun h_2 => ?_)
  refine lv_if_ne (tgt := 40) hx hb dX4_goes_33 (by decide) (fun _ => ?_) (fun h9 => by first | exact absurd h9 (by decide) | exact absurd (by decide) h9)
  refine lv_iconst (v := 0) hx hb dX4_goes_40 (by decide) ?_
  refine W.widen (k := 0) (n := 0) (Nat.le_of_ble_eq_true rfl) (Nat.le_of_ble_eq_true rfl) ?_
  exact W.zret (ty := .boolean) (v := 0) hx hb hr rfl (fun t ht hW9 => ⟨⟨0, (L, f), rfl, ⟨rfl, hI⟩, by rw [ht]; exact hP, va_K.moved hW9.alike hK, hD⟩, hS.F ht⟩) hS.2.2 dX4_goes_41
set_option maxHeartbeats 4000000 in
set_option maxRecDepth 100000 in
theorem k_goes3 (l : Launch) (dC : Nat → ClassId) (dI : Nat → Nat → Nat) (dA : Nat → ClassId) (ad sz : Nat) (τ : Nat → Nat → Nat) (pv : Nat → Nat → Value) (L : List Nat) (f : Nat → va_E) (hI : kI dA τ pv L f) (mm fa sa aa ia sf mb mr mk mi : Nat) (hW : kMd τ pv mm fa sa aa ia sf mb mr mk mi) (k : Int32) : Met l yX4_goes wsX4_goes ({ frames := 0, cells := 0, slots := 0, locals := 0 } : Room) (va_Pc [.ref mm, .int 1, .int 0, .int k] (kB dC dI dA ad sz L f)) (va_Qi (fun r u => r = 0 ∧ kI dA τ (kup pv mm 0 (.int 2)) u.1 u.2) (kR dC dI dA (va_A (va_pl L f) sz)) (va_A (va_pl L f) sz)) 0 0 (va_A (va_pl L f) sz) := by
  refine Met.ofW (cc := cX4_goes) (maxL := 4) (ret := (some .boolean)) (by decide) rfl ?_
  intro p e s m args below meth c s₁ B hml hv
  obtain ⟨rfl, hsz, hP, hK, hD0, hE⟩ := hv
  have hx := B.exec
  have hb := B.bytes
  have hr := B.returns
  have hts := atoms_spec (ws := wsX4_goes) B.pre
  have hown : s.vm.findClass RX4 = some m.cls := findClass_of_methodNamed B.named
  have hlocks := B.notSynchronized
  have i_X4 : ∀ w ∈ u_ws RX4 TX4 35, w ∈ wsX4_goes := by decide +kernel
  subst hsz
  have hD := hD0.self (sz := s.heap.size)
  generalize hAe : va_A (va_pl L f) s.heap.size = A at hD hE ⊢
  have hA : ∀ q : Nat, s.heap.size ≤ q → A q := fun q h => by rw [← hAe]; exact Or.inr h
  have hS : va_S A s.heap s.heap [] := va_S.rf
  have hP : va_P (dC, dI) vwCl (va_pl L f) s.heap := hP
  have hK : va_K (dC, dI) vwCl (tyA dA) s := hK
  have hl := lv_entry ([.ref mm, .int 1, .int 0, .int k]) (n := 4) (Nat.le_of_ble_eq_true rfl)
  rw [lg_entry_eq]
  generalize (lg_sl ([.ref mm, .int 1, .int 0, .int k]) ++ List.replicate (4 - (lg_sl ([.ref mm, .int 1, .int 0, .int k])).length) Slot.unset).toArray = ls at hl ⊢
  have hl : lv_has ls 4 [(0, .ref mm), (1, .int 1), (2, .int 0), (3, .int k)] := hl
  have hnb := hW.lb
  have hnr := hW.lr
  have hnk := hW.lk
  have hni := hW.li
  refine lv_aload_n hx hb dX4_goes_0 rfl (lv_at hl 0 rfl) ?_
  refine lv_iload_n hx hb dX4_goes_1 rfl (lv_at hl 1 rfl) ?_
  refine lv_if_ne (tgt := 9) hx hb dX4_goes_2 (by decide) (fun _ => ?_) (fun h9 => by first | exact absurd h9 (by decide) | exact absurd (by decide) h9)
  refine lv_iload_n hx hb dX4_goes_9 rfl (lv_at hl 2 rfl) ?_
  refine lv_if_ne (tgt := 17) hx hb dX4_goes_10 (by decide) (fun h9 => by first | exact absurd h9 (by decide) | exact absurd (by decide) h9) (fun _ => ?_)
  refine lv_iconst (v := 2) hx hb dX4_goes_13 (by decide) ?_
  refine lv_goto (tgt := 26) hx hb dX4_goes_14 (by decide) ?_
  refine kp_putP (v := .int 2) (ty := .int) hx hb hts i_X4 tyX4 tyX4_ok nmX4 hown hK hP hD hS hI hW.tm rfl rfl 0 (by decide) (by decide) (hts (.fieldLink RX4 90 "IslandSolverModel" "thrown" "I") (by decide +kernel)) (fun _ h9 => h9) rfl (by decide +kernel) rfl rfl rfl (kv_I _) dX4_goes_26 (fun f H locs hI hP hD hS => ?_)
  have hW := hW.frw (kFr.up (P := kPy mr) (w := .int 2) (k := 0) hW.tm rfl)
  refine lv_aload_n hx hb dX4_goes_29 rfl (lv_at hl 0 rfl) ?_
  refine kp_get hx hb hts i_X4 hown hK hP hI hW.tm rfl rfl 0 (by decide) (by decide) (hts (.fieldLink RX4 90 "IslandSolverModel" "thrown" "I") (by decide +kernel)) (fun _ h9 => h9) dX4_goes_30 (kq_P (v0 := .int 2) rfl kup_self fun h_2 => ?_)
  refine lv_if_ne (tgt := 40) hx hb dX4_goes_33 (by decide) (fun _ => ?_) (fun h9 => by first | exact absurd h9 (by decide) | exact absurd (by decide) h9)
  refine lv_iconst (v := 0) hx hb dX4_goes_40 (by decide) ?_
  refine W.widen (k := 0) (n := 0) (Nat.le_of_ble_eq_true rfl) (Nat.le_of_ble_eq_true rfl) ?_
  exact W.zret (ty := .boolean) (v := 0) hx hb hr rfl (fun t ht hW9 => ⟨⟨0, (L, f), rfl, ⟨rfl, hI⟩, by rw [ht]; exact hP, va_K.moved hW9.alike hK, hD⟩, hS.F ht⟩) hS.2.2 dX4_goes_41
set_option maxHeartbeats 4000000 in
set_option maxRecDepth 100000 in
theorem k_goes4 (l : Launch) (dC : Nat → ClassId) (dI : Nat → Nat → Nat) (dA : Nat → ClassId) (ad sz : Nat) (τ : Nat → Nat → Nat) (pv : Nat → Nat → Value) (L : List Nat) (f : Nat → va_E) (hI : kI dA τ pv L f) (mm fa sa aa ia sf mb mr mk mi : Nat) (hW : kMd τ pv mm fa sa aa ia sf mb mr mk mi)  : Met l yX4_goes wsX4_goes ({ frames := 0, cells := 0, slots := 0, locals := 0 } : Room) (va_Pc [.ref mm, .int 1, .int 1, .int 0] (kB dC dI dA ad sz L f)) (va_Qi (fun r u => r = 0 ∧ kI dA τ (kup pv mm 0 (.int 3)) u.1 u.2) (kR dC dI dA (va_A (va_pl L f) sz)) (va_A (va_pl L f) sz)) 0 0 (va_A (va_pl L f) sz) := by
  refine Met.ofW (cc := cX4_goes) (maxL := 4) (ret := (some .boolean)) (by decide) rfl ?_
  intro p e s m args below meth c s₁ B hml hv
  obtain ⟨rfl, hsz, hP, hK, hD0, hE⟩ := hv
  have hx := B.exec
  have hb := B.bytes
  have hr := B.returns
  have hts := atoms_spec (ws := wsX4_goes) B.pre
  have hown : s.vm.findClass RX4 = some m.cls := findClass_of_methodNamed B.named
  have hlocks := B.notSynchronized
  have i_X4 : ∀ w ∈ u_ws RX4 TX4 35, w ∈ wsX4_goes := by decide +kernel
  subst hsz
  have hD := hD0.self (sz := s.heap.size)
  generalize hAe : va_A (va_pl L f) s.heap.size = A at hD hE ⊢
  have hA : ∀ q : Nat, s.heap.size ≤ q → A q := fun q h => by rw [← hAe]; exact Or.inr h
  have hS : va_S A s.heap s.heap [] := va_S.rf
  have hP : va_P (dC, dI) vwCl (va_pl L f) s.heap := hP
  have hK : va_K (dC, dI) vwCl (tyA dA) s := hK
  have hl := lv_entry ([.ref mm, .int 1, .int 1, .int 0]) (n := 4) (Nat.le_of_ble_eq_true rfl)
  rw [lg_entry_eq]
  generalize (lg_sl ([.ref mm, .int 1, .int 1, .int 0]) ++ List.replicate (4 - (lg_sl ([.ref mm, .int 1, .int 1, .int 0])).length) Slot.unset).toArray = ls at hl ⊢
  have hl : lv_has ls 4 [(0, .ref mm), (1, .int 1), (2, .int 1), (3, .int 0)] := hl
  have hnb := hW.lb
  have hnr := hW.lr
  have hnk := hW.lk
  have hni := hW.li
  refine lv_aload_n hx hb dX4_goes_0 rfl (lv_at hl 0 rfl) ?_
  refine lv_iload_n hx hb dX4_goes_1 rfl (lv_at hl 1 rfl) ?_
  refine lv_if_ne (tgt := 9) hx hb dX4_goes_2 (by decide) (fun _ => ?_) (fun h9 => by first | exact absurd h9 (by decide) | exact absurd (by decide) h9)
  refine lv_iload_n hx hb dX4_goes_9 rfl (lv_at hl 2 rfl) ?_
  refine lv_if_ne (tgt := 17) hx hb dX4_goes_10 (by decide) (fun _ => ?_) (fun h9 => by first | exact absurd h9 (by decide) | exact absurd (by decide) h9)
  refine lv_iload_n hx hb dX4_goes_17 rfl (lv_at hl 3 rfl) ?_
  refine lv_if_ne (tgt := 25) hx hb dX4_goes_18 (by decide) (fun h9 => by first | exact absurd h9 (by decide) | exact absurd (by decide) h9) (fun _ => ?_)
  refine lv_iconst (v := 3) hx hb dX4_goes_21 (by decide) ?_
  refine lv_goto (tgt := 26) hx hb dX4_goes_22 (by decide) ?_
  refine kp_putP (v := .int 3) (ty := .int) hx hb hts i_X4 tyX4 tyX4_ok nmX4 hown hK hP hD hS hI hW.tm rfl rfl 0 (by decide) (by decide) (hts (.fieldLink RX4 90 "IslandSolverModel" "thrown" "I") (by decide +kernel)) (fun _ h9 => h9) rfl (by decide +kernel) rfl rfl rfl (kv_I _) dX4_goes_26 (fun f H locs hI hP hD hS => ?_)
  have hW := hW.frw (kFr.up (P := kPy mr) (w := .int 3) (k := 0) hW.tm rfl)
  refine lv_aload_n hx hb dX4_goes_29 rfl (lv_at hl 0 rfl) ?_
  refine kp_get hx hb hts i_X4 hown hK hP hI hW.tm rfl rfl 0 (by decide) (by decide) (hts (.fieldLink RX4 90 "IslandSolverModel" "thrown" "I") (by decide +kernel)) (fun _ h9 => h9) dX4_goes_30 (kq_P (v0 := .int 3) rfl kup_self fun h_2 => ?_)
  refine lv_if_ne (tgt := 40) hx hb dX4_goes_33 (by decide) (fun _ => ?_) (fun h9 => by first | exact absurd h9 (by decide) | exact absurd (by decide) h9)
  refine lv_iconst (v := 0) hx hb dX4_goes_40 (by decide) ?_
  refine W.widen (k := 0) (n := 0) (Nat.le_of_ble_eq_true rfl) (Nat.le_of_ble_eq_true rfl) ?_
  exact W.zret (ty := .boolean) (v := 0) hx hb hr rfl (fun t ht hW9 => ⟨⟨0, (L, f), rfl, ⟨rfl, hI⟩, by rw [ht]; exact hP, va_K.moved hW9.alike hK, hD⟩, hS.F ht⟩) hS.2.2 dX4_goes_41
set_option maxHeartbeats 4000000 in
set_option maxRecDepth 100000 in
theorem k_known (l : Launch) (dC : Nat → ClassId) (dI : Nat → Nat → Nat) (dA : Nat → ClassId) (ad sz : Nat) (τ : Nat → Nat → Nat) (pv : Nat → Nat → Value) (L : List Nat) (f : Nat → va_E) (hI : kI dA τ pv L f) (mm fa sa aa ia sf mb mr mk mi : Nat) (hW : kMd τ pv mm fa sa aa ia sf mb mr mk mi) (n : Int32) : Met l yX4_known wsX4_known ({ frames := 0, cells := 0, slots := 0, locals := 0 } : Room) (va_Pc [.ref mm, .int n] (kB dC dI dA ad sz L f)) (va_Qi (fun r u => ((r = 1 ∧ ∃ j, j < mb ∧ n = nI j) ∨ (r = 0 ∧ (n < 0 ∨ nI mb ≤ n))) ∧ kI dA τ pv u.1 u.2) (kR dC dI dA (va_A (va_pl L f) sz)) (va_A (va_pl L f) sz)) 0 0 (va_A (va_pl L f) sz) := by
  refine Met.ofW (cc := cX4_known) (maxL := 2) (ret := (some .boolean)) (by decide) rfl ?_
  intro p e s m args below meth c s₁ B hml hv
  obtain ⟨rfl, hsz, hP, hK, hD0, hE⟩ := hv
  have hx := B.exec
  have hb := B.bytes
  have hr := B.returns
  have hts := atoms_spec (ws := wsX4_known) B.pre
  have hown : s.vm.findClass RX4 = some m.cls := findClass_of_methodNamed B.named
  have hlocks := B.notSynchronized
  have i_X4 : ∀ w ∈ u_ws RX4 TX4 35, w ∈ wsX4_known := by decide +kernel
  subst hsz
  have hD := hD0.self (sz := s.heap.size)
  generalize hAe : va_A (va_pl L f) s.heap.size = A at hD hE ⊢
  have hA : ∀ q : Nat, s.heap.size ≤ q → A q := fun q h => by rw [← hAe]; exact Or.inr h
  have hS : va_S A s.heap s.heap [] := va_S.rf
  have hP : va_P (dC, dI) vwCl (va_pl L f) s.heap := hP
  have hK : va_K (dC, dI) vwCl (tyA dA) s := hK
  have hl := lv_entry ([.ref mm, .int n]) (n := 2) (Nat.le_of_ble_eq_true rfl)
  rw [lg_entry_eq]
  generalize (lg_sl ([.ref mm, .int n]) ++ List.replicate (2 - (lg_sl ([.ref mm, .int n])).length) Slot.unset).toArray = ls at hl ⊢
  have hl : lv_has ls 2 [(0, .ref mm), (1, .int n)] := hl
  have hnb := hW.lb
  have hnr := hW.lr
  have hnk := hW.lk
  have hni := hW.li
  refine lv_iload_n hx hb dX4_known_0 rfl (lv_at hl 1 rfl) ?_
  refine lv_if_lt (tgt := 16) hx hb dX4_known_1 (by decide) (fun c_1 => ?_) (fun c_1 => ?_)
  · refine lv_iconst (v := 0) hx hb dX4_known_16 (by decide) ?_
    refine W.widen (k := 0) (n := 0) (Nat.le_of_ble_eq_true rfl) (Nat.le_of_ble_eq_true rfl) ?_
    exact W.zret (ty := .boolean) (v := 0) hx hb hr rfl (fun t ht hW9 => ⟨⟨0, (L, f), rfl, ⟨Or.inr ⟨rfl, Or.inl c_1⟩, hI⟩, by rw [ht]; exact hP, va_K.moved hW9.alike hK, hD⟩, hS.F ht⟩) hS.2.2 dX4_known_17
  · refine lv_iload_n hx hb dX4_known_4 rfl (lv_at hl 1 rfl) ?_
    refine lv_aload_n hx hb dX4_known_5 rfl (lv_at hl 0 rfl) ?_
    refine kp_get hx hb hts i_X4 hown hK hP hI hW.tm rfl rfl 1 (by decide) (by decide) (hts (.fieldLink RX4 93 "IslandSolverModel" "bodies" "I") (by decide +kernel)) (fun _ h9 => h9) dX4_known_6 (kq_P (v0 := .int (nI mb)) rfl hW.p1 fun h_3 => ?_)
    refine lv_icmp_ge (tgt := 16) hx hb dX4_known_9 (by decide) (fun c_4 => ?_) (fun c_4 => ?_)
    · refine lv_iconst (v := 0) hx hb dX4_known_16 (by decide) ?_
      refine W.widen (k := 0) (n := 0) (Nat.le_of_ble_eq_true rfl) (Nat.le_of_ble_eq_true rfl) ?_
      exact W.zret (ty := .boolean) (v := 0) hx hb hr rfl (fun t ht hW9 => ⟨⟨0, (L, f), rfl, ⟨Or.inr ⟨rfl, Or.inr c_4⟩, hI⟩, by rw [ht]; exact hP, va_K.moved hW9.alike hK, hD⟩, hS.F ht⟩) hS.2.2 dX4_known_17
    · refine lv_iconst (v := 1) hx hb dX4_known_12 (by decide) ?_
      refine lv_goto (tgt := 17) hx hb dX4_known_13 (by decide) ?_
      refine W.widen (k := 0) (n := 0) (Nat.le_of_ble_eq_true rfl) (Nat.le_of_ble_eq_true rfl) ?_
      exact W.zret (ty := .boolean) (v := 1) hx hb hr rfl (fun t ht hW9 => ⟨⟨1, (L, f), rfl, ⟨Or.inl ⟨rfl, kz_is c_1 c_4 (by omega)⟩, hI⟩, by rw [ht]; exact hP, va_K.moved hW9.alike hK, hD⟩, hS.F ht⟩) hS.2.2 dX4_known_17
set_option maxHeartbeats 4000000 in
set_option maxRecDepth 100000 in
theorem k_movN (l : Launch) (dC : Nat → ClassId) (dI : Nat → Nat → Nat) (dA : Nat → ClassId) (ad sz : Nat) (τ : Nat → Nat → Nat) (pv : Nat → Nat → Value) (L : List Nat) (f : Nat → va_E) (hI : kI dA τ pv L f) (mm fa sa aa ia sf mb mr mk mi : Nat) (hW : kMd τ pv mm fa sa aa ia sf mb mr mk mi) (b : Nat) (hb9 : b < 256) : Met l yX4_movable wsX4_movable ({ frames := 0, cells := 0, slots := 0, locals := 0 } : Room) (va_Pc [.ref mm, .int (nI b)] (kB dC dI dA ad sz L f)) (va_Qi (fun r u => (r = 0 ∨ r = 1) ∧ kI dA τ pv u.1 u.2) (kR dC dI dA (va_A (va_pl L f) sz)) (va_A (va_pl L f) sz)) 0 0 (va_A (va_pl L f) sz) := by
  refine Met.ofW (cc := cX4_movable) (maxL := 3) (ret := (some .boolean)) (by decide) rfl ?_
  intro p e s m args below meth c s₁ B hml hv
  obtain ⟨rfl, hsz, hP, hK, hD0, hE⟩ := hv
  have hx := B.exec
  have hb := B.bytes
  have hr := B.returns
  have hts := atoms_spec (ws := wsX4_movable) B.pre
  have hown : s.vm.findClass RX4 = some m.cls := findClass_of_methodNamed B.named
  have hlocks := B.notSynchronized
  have i_X4 : ∀ w ∈ u_ws RX4 TX4 35, w ∈ wsX4_movable := by decide +kernel
  subst hsz
  have hD := hD0.self (sz := s.heap.size)
  generalize hAe : va_A (va_pl L f) s.heap.size = A at hD hE ⊢
  have hA : ∀ q : Nat, s.heap.size ≤ q → A q := fun q h => by rw [← hAe]; exact Or.inr h
  have hS : va_S A s.heap s.heap [] := va_S.rf
  have hP : va_P (dC, dI) vwCl (va_pl L f) s.heap := hP
  have hK : va_K (dC, dI) vwCl (tyA dA) s := hK
  have hl := lv_entry ([.ref mm, .int (nI b)]) (n := 3) (Nat.le_of_ble_eq_true rfl)
  rw [lg_entry_eq]
  generalize (lg_sl ([.ref mm, .int (nI b)]) ++ List.replicate (3 - (lg_sl ([.ref mm, .int (nI b)])).length) Slot.unset).toArray = ls at hl ⊢
  have hl : lv_has ls 3 [(0, .ref mm), (1, .int (nI b))] := hl
  have hnb := hW.lb
  have hnr := hW.lr
  have hnk := hW.lk
  have hni := hW.li
  refine lv_bipush (v := 13) hx hb dX4_movable_0 (by decide) ?_
  refine lv_iload_n hx hb dX4_movable_2 rfl (lv_at hl 1 rfl) ?_
  refine lv_imul hx hb dX4_movable_3 ?_
  refine lv_topi (nm_r (show (13 : Int32) * (nI b) = nI (13 * b) from pk_mul 13 b) ?_)
  refine lv_istore_n (lv' := [(2, .int (nI (13 * b))), (0, .ref mm), (1, .int (nI b))]) hx hb dX4_movable_4 rfl hl (by decide) rfl (fun ls hl => ?_)
  refine lv_iload_n hx hb dX4_movable_5 rfl (lv_at hl 2 rfl) ?_
  refine lv_if_lt (tgt := 61) hx hb dX4_movable_6 (by decide) (fun h9 => absurd h9 (nI_pos (n := b) (by omega))) (fun _ => ?_)
  refine lv_aload_n hx hb dX4_movable_9 rfl (lv_at hl 1 rfl) ?_
  refine kp_get hx hb hts i_X4 hown hK hP hI hW.tm rfl rfl 2 (by decide) (by decide) (hts (.fieldLink RX4 7 "IslandSolverModel" "body" "[F") (by decide +kernel)) (fun _ h9 => h9) dX4_movable_10 (kq_RE 15 (by decide) fun x_1 h_2_e h_2 => ?_)
  refine lv_iload_n hx hb dX4_movable_13 rfl (lv_at hl 0 rfl) ?_
  refine lv_bipush (v := 6) hx hb dX4_movable_14 (by decide) ?_
  refine lv_iadd hx hb dX4_movable_16 ?_
  refine lv_topi (nm_r (show (nI (13 * b)) + 6 = nI (13 * b + 6) from nI_add (13 * b) 6) ?_)
  have hj_3 : 13 * b + 6 < τ 3 x_1 := by rw [show τ 3 x_1 = 3328 from (hI.arr h_2 rfl).2.1]; omega
  refine W.eq (g2 := F0 m 17 ls (.int (nI (13 * b + 6)) :: .ref x_1 :: [])) rfl ?_
  refine kp_faldE (j := 13 * b + 6) hx hb hK hP hI h_2 rfl hj_3 dX4_movable_17 (ka_FE (cd := 1098907648) (show kEc 15 (13 * b + 6) = 1098907648 from if_neg (by omega)) (by decide) fun x_4 h_5_e h_5 => ?_)
  refine lv_fconst0 hx hb dX4_movable_18 ?_
  refine lv_fcmp hx hb dX4_movable_19 ?_
  refine lv_if_gt (tgt := 57) hx hb dX4_movable_20 (by decide) (fun c_6 => ?_) (fun c_6 => ?_)
  · refine lv_iconst (v := 1) hx hb dX4_movable_57 (by decide) ?_
    refine lv_goto (tgt := 62) hx hb dX4_movable_58 (by decide) ?_
    refine W.widen (k := 0) (n := 0) (Nat.le_of_ble_eq_true rfl) (Nat.le_of_ble_eq_true rfl) ?_
    exact W.zret (ty := .boolean) (v := 1) hx hb hr rfl (fun t ht hW9 => ⟨⟨1, (L, f), rfl, ⟨(Or.inr rfl), hI⟩, by rw [ht]; exact hP, va_K.moved hW9.alike hK, hD⟩, hS.F ht⟩) hS.2.2 dX4_movable_62
  · refine lv_aload_n hx hb dX4_movable_23 rfl (lv_at hl 1 rfl) ?_
    refine kp_get hx hb hts i_X4 hown hK hP hI hW.tm rfl rfl 2 (by decide) (by decide) (hts (.fieldLink RX4 7 "IslandSolverModel" "body" "[F") (by decide +kernel)) (fun _ h9 => h9) dX4_movable_24 (kq_E h_2_e ?_)
    refine lv_iload_n hx hb dX4_movable_27 rfl (lv_at hl 0 rfl) ?_
    refine lv_bipush (v := 7) hx hb dX4_movable_28 (by decide) ?_
    refine lv_iadd hx hb dX4_movable_30 ?_
    refine lv_topi (nm_r (show (nI (13 * b)) + 7 = nI (13 * b + 7) from nI_add (13 * b) 7) ?_)
    have hj_9 : 13 * b + 7 < τ 3 x_1 := by rw [show τ 3 x_1 = 3328 from (hI.arr h_2 rfl).2.1]; omega
    refine W.eq (g2 := F0 m 31 ls (.int (nI (13 * b + 7)) :: .ref x_1 :: [])) rfl ?_
    refine kp_faldE (j := 13 * b + 7) hx hb hK hP hI h_2 rfl hj_9 dX4_movable_31 (ka_FE (cd := 1098907648) (show kEc 15 (13 * b + 7) = 1098907648 from if_neg (by omega)) (by decide) fun x_10 h_11_e h_11 => ?_)
    refine lv_aload_n hx hb dX4_movable_32 rfl (lv_at hl 1 rfl) ?_
    refine kp_get hx hb hts i_X4 hown hK hP hI hW.tm rfl rfl 2 (by decide) (by decide) (hts (.fieldLink RX4 7 "IslandSolverModel" "body" "[F") (by decide +kernel)) (fun _ h9 => h9) dX4_movable_33 (kq_E h_2_e ?_)
    refine lv_iload_n hx hb dX4_movable_36 rfl (lv_at hl 0 rfl) ?_
    refine lv_bipush (v := 8) hx hb dX4_movable_37 (by decide) ?_
    refine lv_iadd hx hb dX4_movable_39 ?_
    refine lv_topi (nm_r (show (nI (13 * b)) + 8 = nI (13 * b + 8) from nI_add (13 * b) 8) ?_)
    have hj_14 : 13 * b + 8 < τ 3 x_1 := by rw [show τ 3 x_1 = 3328 from (hI.arr h_2 rfl).2.1]; omega
    refine W.eq (g2 := F0 m 40 ls (.int (nI (13 * b + 8)) :: .ref x_1 :: [.float x_10])) rfl ?_
    refine kp_faldE (j := 13 * b + 8) hx hb hK hP hI h_2 rfl hj_14 dX4_movable_40 (ka_FE (cd := 1098907648) (show kEc 15 (13 * b + 8) = 1098907648 from if_neg (by omega)) (by decide) fun x_15 h_16_e h_16 => ?_)
    refine kw_fadd (M := 1107296256) hx hb dX4_movable_41 h_11 h_16 (by decide) (by decide) (by decide +kernel) (by decide) (fun z_17 hz_18 => ?_)
    refine lv_aload_n hx hb dX4_movable_42 rfl (lv_at hl 1 rfl) ?_
    refine kp_get hx hb hts i_X4 hown hK hP hI hW.tm rfl rfl 2 (by decide) (by decide) (hts (.fieldLink RX4 7 "IslandSolverModel" "body" "[F") (by decide +kernel)) (fun _ h9 => h9) dX4_movable_43 (kq_E h_2_e ?_)
    refine lv_iload_n hx hb dX4_movable_46 rfl (lv_at hl 0 rfl) ?_
    refine lv_bipush (v := 9) hx hb dX4_movable_47 (by decide) ?_
    refine lv_iadd hx hb dX4_movable_49 ?_
    refine lv_topi (nm_r (show (nI (13 * b)) + 9 = nI (13 * b + 9) from nI_add (13 * b) 9) ?_)
    have hj_21 : 13 * b + 9 < τ 3 x_1 := by rw [show τ 3 x_1 = 3328 from (hI.arr h_2 rfl).2.1]; omega
    refine W.eq (g2 := F0 m 50 ls (.int (nI (13 * b + 9)) :: .ref x_1 :: [.float z_17])) rfl ?_
    refine kp_faldE (j := 13 * b + 9) hx hb hK hP hI h_2 rfl hj_21 dX4_movable_50 (ka_FE (cd := 1098907648) (show kEc 15 (13 * b + 9) = 1098907648 from if_neg (by omega)) (by decide) fun x_22 h_23_e h_23 => ?_)
    refine kw_fadd (M := 1111490560) hx hb dX4_movable_51 hz_18 h_23 (by decide) (by decide) (by decide +kernel) (by decide) (fun z_24 hz_25 => ?_)
    refine lv_fconst0 hx hb dX4_movable_52 ?_
    refine lv_fcmp hx hb dX4_movable_53 ?_
    refine lv_if_le (tgt := 61) hx hb dX4_movable_54 (by decide) (fun c_26 => ?_) (fun c_26 => ?_)
    · refine lv_iconst (v := 0) hx hb dX4_movable_61 (by decide) ?_
      refine W.widen (k := 0) (n := 0) (Nat.le_of_ble_eq_true rfl) (Nat.le_of_ble_eq_true rfl) ?_
      exact W.zret (ty := .boolean) (v := 0) hx hb hr rfl (fun t ht hW9 => ⟨⟨0, (L, f), rfl, ⟨(Or.inl rfl), hI⟩, by rw [ht]; exact hP, va_K.moved hW9.alike hK, hD⟩, hS.F ht⟩) hS.2.2 dX4_movable_62
    · refine lv_iconst (v := 1) hx hb dX4_movable_57 (by decide) ?_
      refine lv_goto (tgt := 62) hx hb dX4_movable_58 (by decide) ?_
      refine W.widen (k := 0) (n := 0) (Nat.le_of_ble_eq_true rfl) (Nat.le_of_ble_eq_true rfl) ?_
      exact W.zret (ty := .boolean) (v := 1) hx hb hr rfl (fun t ht hW9 => ⟨⟨1, (L, f), rfl, ⟨(Or.inr rfl), hI⟩, by rw [ht]; exact hP, va_K.moved hW9.alike hK, hD⟩, hS.F ht⟩) hS.2.2 dX4_movable_62
set_option maxHeartbeats 4000000 in
set_option maxRecDepth 100000 in
theorem k_movM (l : Launch) (dC : Nat → ClassId) (dI : Nat → Nat → Nat) (dA : Nat → ClassId) (ad sz : Nat) (τ : Nat → Nat → Nat) (pv : Nat → Nat → Value) (L : List Nat) (f : Nat → va_E) (hI : kI dA τ pv L f) (mm fa sa aa ia sf mb mr mk mi : Nat) (hW : kMd τ pv mm fa sa aa ia sf mb mr mk mi)  : Met l yX4_movable wsX4_movable ({ frames := 0, cells := 0, slots := 0, locals := 0 } : Room) (va_Pc [.ref mm, .int (-1)] (kB dC dI dA ad sz L f)) (va_Qi (fun r u => r = 0 ∧ kI dA τ pv u.1 u.2) (kR dC dI dA (va_A (va_pl L f) sz)) (va_A (va_pl L f) sz)) 0 0 (va_A (va_pl L f) sz) := by
  refine Met.ofW (cc := cX4_movable) (maxL := 3) (ret := (some .boolean)) (by decide) rfl ?_
  intro p e s m args below meth c s₁ B hml hv
  obtain ⟨rfl, hsz, hP, hK, hD0, hE⟩ := hv
  have hx := B.exec
  have hb := B.bytes
  have hr := B.returns
  have hts := atoms_spec (ws := wsX4_movable) B.pre
  have hown : s.vm.findClass RX4 = some m.cls := findClass_of_methodNamed B.named
  have hlocks := B.notSynchronized
  subst hsz
  have hD := hD0.self (sz := s.heap.size)
  generalize hAe : va_A (va_pl L f) s.heap.size = A at hD hE ⊢
  have hA : ∀ q : Nat, s.heap.size ≤ q → A q := fun q h => by rw [← hAe]; exact Or.inr h
  have hS : va_S A s.heap s.heap [] := va_S.rf
  have hP : va_P (dC, dI) vwCl (va_pl L f) s.heap := hP
  have hK : va_K (dC, dI) vwCl (tyA dA) s := hK
  have hl := lv_entry ([.ref mm, .int (-1)]) (n := 3) (Nat.le_of_ble_eq_true rfl)
  rw [lg_entry_eq]
  generalize (lg_sl ([.ref mm, .int (-1)]) ++ List.replicate (3 - (lg_sl ([.ref mm, .int (-1)])).length) Slot.unset).toArray = ls at hl ⊢
  have hl : lv_has ls 3 [(0, .ref mm), (1, .int (-1))] := hl
  have hnb := hW.lb
  have hnr := hW.lr
  have hnk := hW.lk
  have hni := hW.li
  refine lv_bipush (v := 13) hx hb dX4_movable_0 (by decide) ?_
  refine lv_iload_n hx hb dX4_movable_2 rfl (lv_at hl 1 rfl) ?_
  refine lv_imul hx hb dX4_movable_3 ?_
  refine lv_topi (nm_r (show (13 : Int32) * (-1) = (-13) by decide) ?_)
  refine lv_istore_n (lv' := [(2, .int (-13)), (0, .ref mm), (1, .int (-1))]) hx hb dX4_movable_4 rfl hl (by decide) rfl (fun ls hl => ?_)
  refine lv_iload_n hx hb dX4_movable_5 rfl (lv_at hl 2 rfl) ?_
  refine lv_if_lt (tgt := 61) hx hb dX4_movable_6 (by decide) (fun _ => ?_) (fun h9 => by first | exact absurd h9 (by decide) | exact absurd (by decide) h9)
  refine lv_iconst (v := 0) hx hb dX4_movable_61 (by decide) ?_
  refine W.widen (k := 0) (n := 0) (Nat.le_of_ble_eq_true rfl) (Nat.le_of_ble_eq_true rfl) ?_
  exact W.zret (ty := .boolean) (v := 0) hx hb hr rfl (fun t ht hW9 => ⟨⟨0, (L, f), rfl, ⟨rfl, hI⟩, by rw [ht]; exact hP, va_K.moved hW9.alike hK, hD⟩, hS.F ht⟩) hS.2.2 dX4_movable_62
set_option maxHeartbeats 4000000 in
set_option maxRecDepth 100000 in
theorem k_rouse4 (l : Launch) (dC : Nat → ClassId) (dI : Nat → Nat → Nat) (dA : Nat → ClassId) (ad sz : Nat) (τ : Nat → Nat → Nat) (pv : Nat → Nat → Value) (L : List Nat) (f : Nat → va_E) (hI : kI dA τ pv L f) (mm fa sa aa ia sf mb mr mk mi : Nat) (hW : kMd τ pv mm fa sa aa ia sf mb mr mk mi) (b : Nat) (hb9 : b < 256) : Met l yX4_rouse wsX4_rouse ({ frames := 0, cells := 0, slots := 0, locals := 0 } : Room) (va_Pc [.ref mm, .int (nI b)] (kB dC dI dA ad sz L f)) (va_Qv (fun u => kI dA τ pv u.1 u.2) (kR dC dI dA (va_A (va_pl L f) sz)) (va_A (va_pl L f) sz)) 0 0 (va_A (va_pl L f) sz) := by
  refine Met.ofW (cc := cX4_rouse) (maxL := 2) (ret := none) (by decide) rfl ?_
  intro p e s m args below meth c s₁ B hml hv
  obtain ⟨rfl, hsz, hP, hK, hD0, hE⟩ := hv
  have hx := B.exec
  have hb := B.bytes
  have hr := B.returns
  have hts := atoms_spec (ws := wsX4_rouse) B.pre
  have hown : s.vm.findClass RX4 = some m.cls := findClass_of_methodNamed B.named
  have hlocks := B.notSynchronized
  have i_X4 : ∀ w ∈ u_ws RX4 TX4 35, w ∈ wsX4_rouse := by decide +kernel
  subst hsz
  have hD := hD0.self (sz := s.heap.size)
  generalize hAe : va_A (va_pl L f) s.heap.size = A at hD hE ⊢
  have hA : ∀ q : Nat, s.heap.size ≤ q → A q := fun q h => by rw [← hAe]; exact Or.inr h
  have hS : va_S A s.heap s.heap [] := va_S.rf
  have hP : va_P (dC, dI) vwCl (va_pl L f) s.heap := hP
  have hK : va_K (dC, dI) vwCl (tyA dA) s := hK
  have hl := lv_entry ([.ref mm, .int (nI b)]) (n := 2) (Nat.le_of_ble_eq_true rfl)
  rw [lg_entry_eq]
  generalize (lg_sl ([.ref mm, .int (nI b)]) ++ List.replicate (2 - (lg_sl ([.ref mm, .int (nI b)])).length) Slot.unset).toArray = ls at hl ⊢
  have hl : lv_has ls 2 [(0, .ref mm), (1, .int (nI b))] := hl
  have hnb := hW.lb
  have hnr := hW.lr
  have hnk := hW.lk
  have hni := hW.li
  refine lv_aload_n hx hb dX4_rouse_0 rfl (lv_at hl 0 rfl) ?_
  refine kp_get hx hb hts i_X4 hown hK hP hI hW.tm rfl rfl 3 (by decide) (by decide) (hts (.fieldLink RX4 13 "IslandSolverModel" "asleep" "[Z") (by decide +kernel)) (fun _ h9 => h9) dX4_rouse_1 (kq_RE 16 (by decide) fun x_1 h_2_e h_2 => ?_)
  refine lv_iload_n hx hb dX4_rouse_4 rfl (lv_at hl 1 rfl) ?_
  refine lv_iconst (v := 0) hx hb dX4_rouse_5 (by decide) ?_
  have hj_3 : b < τ 3 x_1 := by rw [show τ 3 x_1 = 256 from (hI.arr h_2 rfl).2.1]; omega
  refine W.eq (g2 := F0 m 6 ls (.int 0 :: .int (nI (b)) :: .ref x_1 :: [])) rfl ?_
  refine kp_zastX (pv' := pv) (j := b) hx hb hK hP hD hS hI h_2 rfl hj_3 (Or.inl rfl) (fun _ _ _ => rfl) (show kPr _ 1 _ _ from (kv_Z (Or.inl rfl))) (kPn_not rfl (by decide)) dX4_rouse_6 (fun f H locs hI hP hD hS => ?_)
  refine lv_aload_n hx hb dX4_rouse_7 rfl (lv_at hl 0 rfl) ?_
  refine kp_get hx hb hts i_X4 hown hK hP hI hW.tm rfl rfl 4 (by decide) (by decide) (hts (.fieldLink RX4 17 "IslandSolverModel" "quiet" "[I") (by decide +kernel)) (fun _ h9 => h9) dX4_rouse_8 (kq_RE 17 (by decide) fun x_4 h_5_e h_5 => ?_)
  refine lv_iload_n hx hb dX4_rouse_11 rfl (lv_at hl 1 rfl) ?_
  refine lv_iconst (v := 0) hx hb dX4_rouse_12 (by decide) ?_
  have hj_6 : b < τ 3 x_4 := by rw [show τ 3 x_4 = 256 from (hI.arr h_5 rfl).2.1]; omega
  refine W.eq (g2 := F0 m 13 ls (.int 0 :: .int (nI (b)) :: .ref x_4 :: [])) rfl ?_
  refine kp_iastX (pv' := pv) (j := b) hx hb hK hP hD hS hI h_5 rfl hj_6 (fun _ _ _ => rfl) (show kPr _ 0 _ _ from (kv_I _)) (kPn_not rfl (by decide)) dX4_rouse_13 (fun f H locs hI hP hD hS => ?_)
  refine W.widen (k := 0) (n := 0) (Nat.le_of_ble_eq_true rfl) (Nat.le_of_ble_eq_true rfl) ?_
  exact W.vret hx hb hr (fun t ht hW9 => ⟨⟨(L, f), rfl, hI, by rw [ht]; exact hP, va_K.moved hW9.alike hK, hD⟩, hS.F ht⟩) hS.2.2 dX4_rouse_14
set_option maxHeartbeats 4000000 in
set_option maxRecDepth 100000 in
theorem k_keptOf (l : Launch) (dC : Nat → ClassId) (dI : Nat → Nat → Nat) (dA : Nat → ClassId) (ad sz : Nat) (τ : Nat → Nat → Nat) (pv : Nat → Nat → Value) (L : List Nat) (f : Nat → va_E) (hI : kI dA τ pv L f) (mm fa sa aa ia sf mb mr mk mi : Nat) (hW : kMd τ pv mm fa sa aa ia sf mb mr mk mi) (ky : Int32) : Met l yX4_keptOf wsX4_keptOf ({ frames := 0, cells := 0, slots := 0, locals := 0 } : Room) (va_Pc [.ref mm, .int ky] (kB dC dI dA ad sz L f)) (va_Qf (fun r u => fb 1224736768 r ∧ kI dA τ pv u.1 u.2) (kR dC dI dA (va_A (va_pl L f) sz)) (va_A (va_pl L f) sz)) 0 0 (va_A (va_pl L f) sz) := by
  refine Met.ofW (cc := cX4_keptOf) (maxL := 3) (ret := (some .float)) (by decide) rfl ?_
  intro p e s m args below meth c s₁ B hml hv
  obtain ⟨rfl, hsz, hP, hK, hD0, hE⟩ := hv
  have hx := B.exec
  have hb := B.bytes
  have hr := B.returns
  have hts := atoms_spec (ws := wsX4_keptOf) B.pre
  have hown : s.vm.findClass RX4 = some m.cls := findClass_of_methodNamed B.named
  have hlocks := B.notSynchronized
  have i_X4 : ∀ w ∈ u_ws RX4 TX4 35, w ∈ wsX4_keptOf := by decide +kernel
  subst hsz
  have hD := hD0.self (sz := s.heap.size)
  generalize hAe : va_A (va_pl L f) s.heap.size = A at hD hE ⊢
  have hA : ∀ q : Nat, s.heap.size ≤ q → A q := fun q h => by rw [← hAe]; exact Or.inr h
  have hS : va_S A s.heap s.heap [] := va_S.rf
  have hP : va_P (dC, dI) vwCl (va_pl L f) s.heap := hP
  have hK : va_K (dC, dI) vwCl (tyA dA) s := hK
  have hl := lv_entry ([.ref mm, .int ky]) (n := 3) (Nat.le_of_ble_eq_true rfl)
  rw [lg_entry_eq]
  generalize (lg_sl ([.ref mm, .int ky]) ++ List.replicate (3 - (lg_sl ([.ref mm, .int ky])).length) Slot.unset).toArray = ls at hl ⊢
  have hl : lv_has ls 3 [(0, .ref mm), (1, .int ky)] := hl
  have hnb := hW.lb
  have hnr := hW.lr
  have hnk := hW.lk
  have hni := hW.li
  refine lv_iconst (v := 0) hx hb dX4_keptOf_0 (by decide) ?_
  refine lv_istore_n (lv' := [(2, .int 0), (0, .ref mm), (1, .int ky)]) hx hb dX4_keptOf_1 rfl hl (by decide) rfl (fun ls hl => ?_)
  have hl : lv_has ls 3 [(0, .ref mm), (1, .int ky), (2, .int 0)] := lv_sub hl [1, 2, 0] rfl
  refine kl_loop (Inv := fun n2 _ L f H locs ls => ∃ (i : Nat), mk - i < n2 ∧ kI dA τ pv L f ∧ va_P (dC, dI) vwCl (va_pl L f) H ∧ va_D A (va_pl L f) ∧ va_S A s.heap H locs ∧ lv_has ls 3 [(0, .ref mm), (1, .int ky), (2, .int (nI i))] ∧ i ≤ mk) (fun _ _ _ _ _ _ h9 => by obtain ⟨_, hn, _⟩ := h9; exact Nat.not_lt_zero _ hn) (fun n2 ih2 _ L f H locs ls h9 => ?_) (mk - 0 + 1) (fun _ _ => .null) _ _ _ _ _ ⟨0, Nat.lt_succ_self _, hI, hP, hD, hS, hl, Nat.zero_le _⟩
  obtain ⟨i, hn2, hI, hP, hD, hS, hl, hib⟩ := h9
  refine lv_iload_n hx hb dX4_keptOf_2 rfl (lv_at hl 2 rfl) ?_
  refine lv_aload_n hx hb dX4_keptOf_3 rfl (lv_at hl 0 rfl) ?_
  refine kp_get hx hb hts i_X4 hown hK hP hI hW.tm rfl rfl 19 (by decide) (by decide) (hts (.fieldLink RX4 122 "IslandSolverModel" "kept" "I") (by decide +kernel)) (fun _ h9 => h9) dX4_keptOf_4 (kq_P (v0 := .int (nI mk)) rfl hW.p19 fun h_2 => ?_)
  refine lv_icmp_ge (tgt := 37) hx hb dX4_keptOf_7 (by decide) (fun c_3 => ?_) (fun c_3 => ?_)
  · have n_4 : mk ≤ i := (nI_leI (by omega) (by omega)).mp (show nI mk ≤ nI i from c_3)
    refine lv_fconst0 hx hb dX4_keptOf_37 ?_
    refine W.widen (k := 0) (n := 0) (Nat.le_of_ble_eq_true rfl) (Nat.le_of_ble_eq_true rfl) ?_
    exact W.fret (v := FP.fconst0) hx hb hr (fun t ht hW9 => ⟨⟨FP.fconst0, (L, f), rfl, ⟨(fb_le kc_0 (by decide)), hI⟩, by rw [ht]; exact hP, va_K.moved hW9.alike hK, hD⟩, hS.F ht⟩) hS.2.2 dX4_keptOf_38
  · have n_5 : ¬ mk ≤ i := fun h9 => (show ¬ nI mk ≤ nI i from c_3) ((nI_leI (by omega) (by omega)).mpr h9)
    refine lv_iload_n hx hb dX4_keptOf_10 rfl (lv_at hl 1 rfl) ?_
    refine lv_if_lt (tgt := 37) hx hb dX4_keptOf_11 (by decide) (fun c_6 => ?_) (fun c_6 => ?_)
    · refine lv_fconst0 hx hb dX4_keptOf_37 ?_
      refine W.widen (k := 0) (n := 0) (Nat.le_of_ble_eq_true rfl) (Nat.le_of_ble_eq_true rfl) ?_
      exact W.fret (v := FP.fconst0) hx hb hr (fun t ht hW9 => ⟨⟨FP.fconst0, (L, f), rfl, ⟨(fb_le kc_0 (by decide)), hI⟩, by rw [ht]; exact hP, va_K.moved hW9.alike hK, hD⟩, hS.F ht⟩) hS.2.2 dX4_keptOf_38
    · refine lv_aload_n hx hb dX4_keptOf_14 rfl (lv_at hl 0 rfl) ?_
      refine kp_get hx hb hts i_X4 hown hK hP hI hW.tm rfl rfl 20 (by decide) (by decide) (hts (.fieldLink RX4 60 "IslandSolverModel" "keptKeys" "[I") (by decide +kernel)) (fun _ h9 => h9) dX4_keptOf_15 (kq_RE 31 (by decide) fun x_7 h_8_e h_8 => ?_)
      refine lv_iload_n hx hb dX4_keptOf_18 rfl (lv_at hl 2 rfl) ?_
      have hj_9 : i < τ 3 x_7 := by rw [show τ 3 x_7 = 1024 from (hI.arr h_8 rfl).2.1]; omega
      refine W.eq (g2 := F0 m 19 ls (.int (nI (i)) :: .ref x_7 :: [])) rfl ?_
      refine kp_iald (j := i) hx hb hK hP hI h_8 rfl hj_9 dX4_keptOf_19 (ka_I fun x_10 => ?_)
      refine lv_iload_n hx hb dX4_keptOf_20 rfl (lv_at hl 1 rfl) ?_
      refine lv_icmp_ne (tgt := 31) hx hb dX4_keptOf_21 (by decide) (fun c_12 => ?_) (fun c_12 => ?_)
      · refine lv_iinc (v := nI (i + 1)) (lv' := [(2, .int (nI (i + 1))), (0, .ref mm), (1, .int ky)]) hx hb dX4_keptOf_31 hl (k := 2) rfl (nI_add i 1) (by decide) rfl (fun ls hl => ?_)
        refine lv_goto (tgt := 2) hx hb dX4_keptOf_34 (by decide) ?_
        have hl : lv_has ls 3 [(0, .ref mm), (1, .int ky), (2, .int (nI (i + 1)))] := lv_sub hl [1, 2, 0] rfl
        exact ih2 (fun _ _ => .null) _ _ _ _ _ ⟨(i + 1), by omega, hI, hP, hD, hS, hl, by omega⟩
      · refine lv_aload_n hx hb dX4_keptOf_24 rfl (lv_at hl 0 rfl) ?_
        refine kp_get hx hb hts i_X4 hown hK hP hI hW.tm rfl rfl 21 (by decide) (by decide) (hts (.fieldLink RX4 63 "IslandSolverModel" "keptImpulses" "[F") (by decide +kernel)) (fun _ h9 => h9) dX4_keptOf_25 (kq_RE 32 (by decide) fun x_13 h_14_e h_14 => ?_)
        refine lv_iload_n hx hb dX4_keptOf_28 rfl (lv_at hl 2 rfl) ?_
        have hj_15 : i < τ 3 x_13 := by rw [show τ 3 x_13 = 1024 from (hI.arr h_14 rfl).2.1]; omega
        refine W.eq (g2 := F0 m 29 ls (.int (nI (i)) :: .ref x_13 :: [])) rfl ?_
        refine kp_fald (j := i) hx hb hK hP hI h_14 rfl hj_15 dX4_keptOf_29 (ka_F (cd := 1224736768) rfl (by decide) fun x_16 h_17 => ?_)
        refine W.widen (k := 0) (n := 0) (Nat.le_of_ble_eq_true rfl) (Nat.le_of_ble_eq_true rfl) ?_
        exact W.fret (v := x_16) hx hb hr (fun t ht hW9 => ⟨⟨x_16, (L, f), rfl, ⟨h_17, hI⟩, by rw [ht]; exact hP, va_K.moved hW9.alike hK, hD⟩, hS.F ht⟩) hS.2.2 dX4_keptOf_30
set_option maxHeartbeats 4000000 in
set_option maxRecDepth 100000 in
theorem k_limited (l : Launch) (dC : Nat → ClassId) (dI : Nat → Nat → Nat) (dA : Nat → ClassId) (ad sz : Nat) (τ : Nat → Nat → Nat) (pv : Nat → Nat → Value) (L : List Nat) (f : Nat → va_E) (hI : kI dA τ pv L f) (mm fa sa aa ia sf mb mr mk mi : Nat) (hW : kMd τ pv mm fa sa aa ia sf mb mr mk mi) (r : Nat) (hr : r < mr) (hri : r ≤ mi) (A0 : Nat) (x : UInt32) (hx0 : fb A0 x) (hA0 : A0 < 2139095040) : Met l yX4_limited wsX4_limited ({ frames := 1, cells := 0, slots := 0, locals := 22 } : Room) (va_Pc [.ref mm, .int (nI r), .float x] (kB dC dI dA ad sz L f)) (va_Qf (fun z u => fb 1224736768 z ∧ (pv aa r = .int (-1) → fb 1199570944 z) ∧ kI dA τ pv u.1 u.2) (kR dC dI dA (va_A (va_pl L f) sz)) (va_A (va_pl L f) sz)) 0 0 (va_A (va_pl L f) sz) := by
  refine Met.ofW (cc := cX4_limited) (maxL := 4) (ret := (some .float)) (by decide) rfl ?_
  intro p e s m args below meth c s₁ B hml hv
  obtain ⟨rfl, hsz, hP, hK, hD0, hE⟩ := hv
  have hx := B.exec
  have hb := B.bytes
  have hr := B.returns
  have hts := atoms_spec (ws := wsX4_limited) B.pre
  have hown : s.vm.findClass RX4 = some m.cls := findClass_of_methodNamed B.named
  have hlocks := B.notSynchronized
  have i_X4 : ∀ w ∈ u_ws RX4 TX4 35, w ∈ wsX4_limited := by decide +kernel
  subst hsz
  have hD := hD0.self (sz := s.heap.size)
  generalize hAe : va_A (va_pl L f) s.heap.size = A at hD hE ⊢
  have hA : ∀ q : Nat, s.heap.size ≤ q → A q := fun q h => by rw [← hAe]; exact Or.inr h
  have hS : va_S A s.heap s.heap [] := va_S.rf
  have hP : va_P (dC, dI) vwCl (va_pl L f) s.heap := hP
  have hK : va_K (dC, dI) vwCl (tyA dA) s := hK
  have hl := lv_entry ([.ref mm, .int (nI r), .float x]) (n := 4) (Nat.le_of_ble_eq_true rfl)
  rw [lg_entry_eq]
  generalize (lg_sl ([.ref mm, .int (nI r), .float x]) ++ List.replicate (4 - (lg_sl ([.ref mm, .int (nI r), .float x])).length) Slot.unset).toArray = ls at hl ⊢
  have hl : lv_has ls 4 [(0, .ref mm), (1, .int (nI r)), (2, .float x)] := hl
  have hnb := hW.lb
  have hnr := hW.lr
  have hnk := hW.lk
  have hni := hW.li
  refine lv_aload_n hx hb dX4_limited_0 rfl (lv_at hl 0 rfl) ?_
  refine kp_get hx hb hts i_X4 hown hK hP hI hW.tm rfl rfl 15 (by decide) (by decide) (hts (.fieldLink RX4 48 "IslandSolverModel" "ats" "[I") (by decide +kernel)) (fun _ h9 => h9) dX4_limited_1 (kq_P (v0 := .ref aa) rfl hW.p15 fun h_2 => ?_)
  refine lv_iload_n hx hb dX4_limited_4 rfl (lv_at hl 1 rfl) ?_
  have hj_3 : r < τ 3 aa := by rw [show τ 3 aa = 1024 from (hI.arr hW.ta rfl).2.1]; omega
  refine W.eq (g2 := F0 m 5 ls (.int (nI (r)) :: .ref aa :: [])) rfl ?_
  obtain ⟨ra6, rb6, rt6, ja6, la6, jb6, lb6, jt6, lt6, kt6⟩ := hW.rw (r := r) (by omega)
  rcases rt6 with _ | rt6_2
  · refine kp_iald (j := r) hx hb hK hP hI hW.ta rfl hj_3 dX4_limited_5 (ka_P (x0 := (-1)) rfl jt6 ?_)
    refine lv_if_ge (tgt := 26) hx hb dX4_limited_6 (by decide) (fun h9 => by first | exact absurd h9 (by decide) | exact absurd (by decide) h9) (fun _ => ?_)
    refine lv_fload_n hx hb dX4_limited_9 rfl (lv_at hl 2 rfl) ?_
    refine lv_aload_n hx hb dX4_limited_10 rfl (lv_at hl 0 rfl) ?_
    refine kp_get hx hb hts i_X4 hown hK hP hI hW.tm rfl rfl 12 (by decide) (by decide) (hts (.fieldLink RX4 39 "IslandSolverModel" "lows" "[F") (by decide +kernel)) (fun _ h9 => h9) dX4_limited_11 (kq_RE 24 (by decide) fun x_7 h_8_e h_8 => ?_)
    refine lv_iload_n hx hb dX4_limited_14 rfl (lv_at hl 1 rfl) ?_
    have hj_9 : r < τ 3 x_7 := by rw [show τ 3 x_7 = 1024 from (hI.arr h_8 rfl).2.1]; omega
    refine W.eq (g2 := F0 m 15 ls (.int (nI (r)) :: .ref x_7 :: [.float x])) rfl ?_
    refine kp_fald (j := r) hx hb hK hP hI h_8 rfl hj_9 dX4_limited_15 (ka_F (cd := 1199570944) rfl (by decide) fun x_10 h_11 => ?_)
    refine lv_aload_n hx hb dX4_limited_16 rfl (lv_at hl 0 rfl) ?_
    refine kp_get hx hb hts i_X4 hown hK hP hI hW.tm rfl rfl 13 (by decide) (by decide) (hts (.fieldLink RX4 42 "IslandSolverModel" "highs" "[F") (by decide +kernel)) (fun _ h9 => h9) dX4_limited_17 (kq_RE 25 (by decide) fun x_12 h_13_e h_13 => ?_)
    refine lv_iload_n hx hb dX4_limited_20 rfl (lv_at hl 1 rfl) ?_
    have hj_14 : r < τ 3 x_12 := by rw [show τ 3 x_12 = 1024 from (hI.arr h_13 rfl).2.1]; omega
    refine W.eq (g2 := F0 m 21 ls (.int (nI (r)) :: .ref x_12 :: [.float x_10, .float x])) rfl ?_
    refine kp_fald (j := r) hx hb hK hP hI h_13 rfl hj_14 dX4_limited_21 (ka_F (cd := 1199570944) rfl (by decide) fun x_15 h_16 => ?_)
    refine kd_callf (va_runS (As := [.float x, .float x_10, .float x_15]) (rest := []) ⟨hx, hb, hml, hown, hts⟩ (k_held4 l dC dI dA ad _ τ pv _ _ hI A0 1199570944 x x_10 x_15 hx0 h_11 h_16 hA0 (by decide)) (va_cwS 3 hts gX4_limited_X4_held rfl rfl rfl (by decide +kernel) ⟨Nat.le_of_ble_eq_true rfl, Nat.le_of_ble_eq_true rfl⟩) (kd_preS hP hD hK hS hA hE) rfl rfl hl.1 rfl (lv_room (Nat.le_of_ble_eq_true rfl)) dX4_limited_22 ⟨Nat.le_of_ble_eq_true rfl, Nat.le_of_ble_eq_true rfl⟩) hD hS hA (fun r_18 u_17 H locs hw hP hD hS => ?_)
    obtain ⟨hr_18, hI⟩ := hw
    refine W.widen (k := 0) (n := 0) (Nat.le_of_ble_eq_true rfl) (Nat.le_of_ble_eq_true rfl) ?_
    exact W.fret (v := r_18) hx hb hr (fun t ht hW9 => ⟨⟨r_18, (u_17.1, u_17.2), rfl, ⟨(fb_le hr_18 (by decide)), fun _ => hr_18, hI⟩, by rw [ht]; exact hP, va_K.moved hW9.alike hK, hD⟩, hS.F ht⟩) hS.2.2 dX4_limited_25
  · refine kp_iald (j := r) hx hb hK hP hI hW.ta rfl hj_3 dX4_limited_5 (ka_P (x0 := (nI rt6_2)) rfl jt6 ?_)
    have ka6 := kt6 rt6_2 rfl
    refine lv_if_ge (tgt := 26) hx hb dX4_limited_6 (by decide) (fun _ => ?_) (fun h9 => absurd (nI_pos' (n := rt6_2) (by omega)) h9)
    have im9 : pv ia rt6_2 = .int 0 := hW.im (t := 0) (by omega) ka6 (by decide)
    refine lv_aload_n hx hb dX4_limited_26 rfl (lv_at hl 0 rfl) ?_
    refine kp_get hx hb hts i_X4 hown hK hP hI hW.tm rfl rfl 14 (by decide) (by decide) (hts (.fieldLink RX4 45 "IslandSolverModel" "frictions" "[F") (by decide +kernel)) (fun _ h9 => h9) dX4_limited_27 (kq_RE 26 (by decide) fun x_19 h_20_e h_20 => ?_)
    refine lv_iload_n hx hb dX4_limited_30 rfl (lv_at hl 1 rfl) ?_
    have hj_21 : r < τ 3 x_19 := by rw [show τ 3 x_19 = 1024 from (hI.arr h_20 rfl).2.1]; omega
    refine W.eq (g2 := F0 m 31 ls (.int (nI (r)) :: .ref x_19 :: [])) rfl ?_
    refine kp_fald (j := r) hx hb hK hP hI h_20 rfl hj_21 dX4_limited_31 (ka_F (cd := 1090519040) rfl (by decide) fun x_22 h_23 => ?_)
    refine lv_aload_n hx hb dX4_limited_32 rfl (lv_at hl 0 rfl) ?_
    refine kp_get hx hb hts i_X4 hown hK hP hI hW.tm rfl rfl 17 (by decide) (by decide) (hts (.fieldLink RX4 54 "IslandSolverModel" "impulses" "[F") (by decide +kernel)) (fun _ h9 => h9) dX4_limited_33 (kq_P (v0 := .ref ia) rfl hW.p17 fun h_25 => ?_)
    refine lv_aload_n hx hb dX4_limited_36 rfl (lv_at hl 0 rfl) ?_
    refine kp_get hx hb hts i_X4 hown hK hP hI hW.tm rfl rfl 15 (by decide) (by decide) (hts (.fieldLink RX4 48 "IslandSolverModel" "ats" "[I") (by decide +kernel)) (fun _ h9 => h9) dX4_limited_37 (kq_P (v0 := .ref aa) rfl hW.p15 fun h_27 => ?_)
    refine lv_iload_n hx hb dX4_limited_40 rfl (lv_at hl 1 rfl) ?_
    have hj_28 : r < τ 3 aa := by rw [show τ 3 aa = 1024 from (hI.arr hW.ta rfl).2.1]; omega
    refine W.eq (g2 := F0 m 41 ls (.int (nI (r)) :: .ref aa :: [.ref ia, .float x_22])) rfl ?_
    refine kp_iald (j := r) hx hb hK hP hI hW.ta rfl hj_28 dX4_limited_41 (ka_P (x0 := (nI rt6_2)) rfl jt6 ?_)
    have hj_31 : rt6_2 < τ 3 ia := by rw [show τ 3 ia = 1024 from (hI.arr hW.ti rfl).2.1]; omega
    refine W.eq (g2 := F0 m 42 ls (.int (nI (rt6_2)) :: .ref ia :: [.float x_22])) rfl ?_
    refine kp_fald (j := rt6_2) hx hb hK hP hI hW.ti rfl hj_31 dX4_limited_42 (ka_29 fun x_32 h_33 h_33_2 => ?_)
    refine kw_fmul (M := 1224736768) hx hb dX4_limited_43 h_23 (h_33_2 im9) (by decide) (by decide) (by decide +kernel) (by decide) (fun z_34 hz_35 => ?_)
    refine lv_fstore_n (lv' := [(3, .float z_34), (0, .ref mm), (1, .int (nI r)), (2, .float x)]) hx hb dX4_limited_44 rfl hl (by decide) rfl (fun ls hl => ?_)
    refine lv_fload_n hx hb dX4_limited_45 rfl (lv_at hl 0 rfl) ?_
    refine lv_fconst0 hx hb dX4_limited_46 ?_
    refine lv_fcmp hx hb dX4_limited_47 ?_
    refine lv_if_ge (tgt := 55) hx hb dX4_limited_48 (by decide) (fun c_36 => ?_) (fun c_36 => ?_)
    · refine lv_fload_n hx hb dX4_limited_55 rfl (lv_at hl 0 rfl) ?_
      refine lv_fstore_n (lv' := [(3, .float z_34), (0, .ref mm), (1, .int (nI r)), (2, .float x)]) hx hb dX4_limited_56 rfl hl (by decide) rfl (fun ls hl => ?_)
      refine lv_fload_n hx hb dX4_limited_57 rfl (lv_at hl 3 rfl) ?_
      refine lv_fconst0 hx hb dX4_limited_58 ?_
      refine lv_fload_n hx hb dX4_limited_59 rfl (lv_at hl 0 rfl) ?_
      refine kw_fsub (M := 1224736768) hx hb dX4_limited_60 kc_0 hz_35 (by decide) (by decide) (by decide +kernel) (by decide) (fun z_37 hz_38 => ?_)
      refine lv_fload_n hx hb dX4_limited_61 rfl (lv_at hl 0 rfl) ?_
      refine kd_callf (va_runS (As := [.float x, .float z_37, .float z_34]) (rest := []) ⟨hx, hb, hml, hown, hts⟩ (k_held4 l dC dI dA ad _ τ pv _ _ hI A0 1224736768 x z_37 z_34 hx0 hz_38 hz_35 hA0 (by decide)) (va_cwS 3 hts gX4_limited_X4_held rfl rfl rfl (by decide +kernel) ⟨Nat.le_of_ble_eq_true rfl, Nat.le_of_ble_eq_true rfl⟩) (kd_preS hP hD hK hS hA hE) rfl rfl hl.1 rfl (lv_room (Nat.le_of_ble_eq_true rfl)) dX4_limited_62 ⟨Nat.le_of_ble_eq_true rfl, Nat.le_of_ble_eq_true rfl⟩) hD hS hA (fun r_40 u_39 H locs hw hP hD hS => ?_)
      obtain ⟨hr_40, hI⟩ := hw
      refine W.widen (k := 0) (n := 0) (Nat.le_of_ble_eq_true rfl) (Nat.le_of_ble_eq_true rfl) ?_
      exact W.fret (v := r_40) hx hb hr (fun t ht hW9 => ⟨⟨r_40, (u_39.1, u_39.2), rfl, ⟨hr_40, fun h9 => absurd (Value.int.inj (jt6.symm.trans h9)) (fun h8 => nI_pos (n := rt6_2) (by omega) (by rw [show nI rt6_2 = -1 from h8]; decide)), hI⟩, by rw [ht]; exact hP, va_K.moved hW9.alike hK, hD⟩, hS.F ht⟩) hS.2.2 dX4_limited_65
    · refine lv_fconst0 hx hb dX4_limited_51 ?_
      refine lv_goto (tgt := 56) hx hb dX4_limited_52 (by decide) ?_
      refine lv_fstore_n (lv' := [(3, .float FP.fconst0), (0, .ref mm), (1, .int (nI r)), (2, .float x)]) hx hb dX4_limited_56 rfl hl (by decide) rfl (fun ls hl => ?_)
      refine lv_fload_n hx hb dX4_limited_57 rfl (lv_at hl 3 rfl) ?_
      refine lv_fconst0 hx hb dX4_limited_58 ?_
      refine lv_fload_n hx hb dX4_limited_59 rfl (lv_at hl 0 rfl) ?_
      refine kw_fsub (M := 0) hx hb dX4_limited_60 kc_0 kc_0 (by decide) (by decide) (by decide +kernel) (by decide) (fun z_41 hz_42 => ?_)
      refine lv_fload_n hx hb dX4_limited_61 rfl (lv_at hl 0 rfl) ?_
      refine kd_callf (va_runS (As := [.float x, .float z_41, .float FP.fconst0]) (rest := []) ⟨hx, hb, hml, hown, hts⟩ (k_held4 l dC dI dA ad _ τ pv _ _ hI A0 0 x z_41 FP.fconst0 hx0 hz_42 kc_0 hA0 (by decide)) (va_cwS 3 hts gX4_limited_X4_held rfl rfl rfl (by decide +kernel) ⟨Nat.le_of_ble_eq_true rfl, Nat.le_of_ble_eq_true rfl⟩) (kd_preS hP hD hK hS hA hE) rfl rfl hl.1 rfl (lv_room (Nat.le_of_ble_eq_true rfl)) dX4_limited_62 ⟨Nat.le_of_ble_eq_true rfl, Nat.le_of_ble_eq_true rfl⟩) hD hS hA (fun r_44 u_43 H locs hw hP hD hS => ?_)
      obtain ⟨hr_44, hI⟩ := hw
      refine W.widen (k := 0) (n := 0) (Nat.le_of_ble_eq_true rfl) (Nat.le_of_ble_eq_true rfl) ?_
      exact W.fret (v := r_44) hx hb hr (fun t ht hW9 => ⟨⟨r_44, (u_43.1, u_43.2), rfl, ⟨(fb_le hr_44 (by decide)), fun h9 => absurd (Value.int.inj (jt6.symm.trans h9)) (fun h8 => nI_pos (n := rt6_2) (by omega) (by rw [show nI rt6_2 = -1 from h8]; decide)), hI⟩, by rw [ht]; exact hP, va_K.moved hW9.alike hK, hD⟩, hS.F ht⟩) hS.2.2 dX4_limited_65
