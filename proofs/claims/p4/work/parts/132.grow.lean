set_option maxHeartbeats 4000000 in
set_option maxRecDepth 100000 in
theorem k_growA7 (l : Launch) (dC : Nat → ClassId) (dI : Nat → Nat → Nat) (dA : Nat → ClassId) (ad sz : Nat) (τ : Nat → Nat → Nat) (pv : Nat → Nat → Value) (L : List Nat) (f : Nat → va_E) (hI : kI dA τ pv L f) (l9 a9 n9 : Nat) (hh_l : τ 0 l9 = 7) (ha : pv l9 1 = .ref a9) (hta : τ 0 a9 = 9) (hfl : τ 3 a9 = n9) (hn9 : n9 ≤ 1024) (hel : ∀ i, i < τ 3 a9 → ∃ q, pv a9 i = .ref q ∧ τ 0 q = 1) : Met l yJx4a65c_grow_92f84 wsJx4a65c_grow_92f84 ({ frames := 3, cells := 1, slots := 1600, locals := 79 } : Room) (va_Pc [.ref l9, .int (nI (n9 + 1))] (kB dC dI dA ad sz L f)) (va_Qq (fun r u => ∃ q τ2 pv2, r = some q ∧ τ 0 q = 0 ∧ (∀ b, b ≠ q → ∀ j, τ2 j b = τ j b) ∧ (∀ b k, b ≠ q → (b ≠ l9 ∨ k ≠ 1) → pv2 b k = pv b k) ∧ pv2 l9 1 = .ref q ∧ τ2 0 q = 9 ∧ n9 < τ2 3 q ∧ (∀ i, i < n9 → pv2 q i = pv a9 i) ∧ kI dA τ2 pv2 u.1 u.2) (kR dC dI dA (va_A (va_pl L f) sz)) (va_A (va_pl L f) sz)) 1 1600 (va_A (va_pl L f) sz) := by
  refine Met.ofW (cc := cJx4a65c_grow_92f84) (maxL := 4) (ret := (some (.array (.object "java/lang/Object")))) (by decide) rfl ?_
  intro p e s m args below meth c s₁ B hml hv
  obtain ⟨rfl, hsz, hP, hK, hD0, hE⟩ := hv
  have hx := B.exec
  have hb := B.bytes
  have hr := B.returns
  have hts := atoms_spec (ws := wsJx4a65c_grow_92f84) B.pre
  have hown : s.vm.findClass RJx4a65c = some m.cls := findClass_of_methodNamed B.named
  have hlocks := B.notSynchronized
  have i_Jx4a65c : ∀ w ∈ u_ws RJx4a65c TJx4a65c 3, w ∈ wsJx4a65c_grow_92f84 := by decide +kernel
  subst hsz
  have hD := hD0.self (sz := s.heap.size)
  generalize hAe : va_A (va_pl L f) s.heap.size = A at hD hE ⊢
  have hA : ∀ q : Nat, s.heap.size ≤ q → A q := fun q h => by rw [← hAe]; exact Or.inr h
  have hS : va_S A s.heap s.heap [] := va_S.rf
  have hP : va_P (dC, dI) vwCl (va_pl L f) s.heap := hP
  have hK : va_K (dC, dI) vwCl (tyA dA) s := hK
  have hl := lv_entry ([.ref l9, .int (nI (n9 + 1))]) (n := 4) (Nat.le_of_ble_eq_true rfl)
  rw [lg_entry_eq]
  generalize (lg_sl ([.ref l9, .int (nI (n9 + 1))]) ++ List.replicate (4 - (lg_sl ([.ref l9, .int (nI (n9 + 1))])).length) Slot.unset).toArray = ls at hl ⊢
  have hl : lv_has ls 4 [(0, .ref l9), (1, .int (nI (n9 + 1)))] := hl
  have h10 : 10 ≤ n9 := by have := (hI.arr hta rfl).2.1; rw [hfl] at this; exact this.1
  refine lv_aload_n hx hb dJx4a65c_grow_92f84_0 rfl (lv_at hl 0 rfl) ?_
  refine kp_get hx hb hts i_Jx4a65c hown hK hP hI hh_l rfl rfl 1 (by decide) (by decide) (hts (.fieldLink RJx4a65c 9 "java/util/ArrayList" "elementData" "[Ljava/lang/Object;") (by decide +kernel)) (fun _ h9 => h9) dJx4a65c_grow_92f84_1 (kq_P (v0 := .ref a9) rfl ha fun h_2 => ?_)
  refine kp_alen5 hx hb hK hP hI hta rfl dJx4a65c_grow_92f84_4 ?_
  refine lv_topi (nm_r (show nI (τ 3 a9) = nI n9 from by rw [hfl]) ?_)
  refine lv_istore_n (lv' := [(2, .int (nI n9)), (0, .ref l9), (1, .int (nI (n9 + 1)))]) hx hb dJx4a65c_grow_92f84_5 rfl hl (by decide) rfl (fun ls hl => ?_)
  refine lv_iload_n hx hb dJx4a65c_grow_92f84_6 rfl (lv_at hl 0 rfl) ?_
  refine lv_if_gt (tgt := 20) hx hb dJx4a65c_grow_92f84_7 (by decide) (fun c_3 => ?_) (fun c_3 => ?_)
  · have n_4 : 0 < n9 := (nI_ltI (by omega) (by omega)).mp (show nI 0 < nI n9 from c_3)
    refine lv_iload_n hx hb dJx4a65c_grow_92f84_20 rfl (lv_at hl 0 rfl) ?_
    refine lv_iload_n hx hb dJx4a65c_grow_92f84_21 rfl (lv_at hl 2 rfl) ?_
    refine lv_iload_n hx hb dJx4a65c_grow_92f84_22 rfl (lv_at hl 0 rfl) ?_
    refine lv_isub hx hb dJx4a65c_grow_92f84_23 ?_
    refine lv_topi (nm_r (show (nI (n9 + 1)) - (nI n9) = nI (n9 + 1 - n9) from pk_sub (a := n9 + 1) (b := n9) (by omega)) ?_)
    refine lv_topi (nm_r (show nI (n9 + 1 - n9) = 1 from by rw [Nat.add_sub_cancel_left]; rfl) ?_)
    refine lv_iload_n hx hb dJx4a65c_grow_92f84_24 rfl (lv_at hl 0 rfl) ?_
    refine lv_iconst (v := 1) hx hb dJx4a65c_grow_92f84_25 (by decide) ?_
    refine lv_ishr hx hb dJx4a65c_grow_92f84_26 ?_
    refine lv_topi (nm_r (show (nI n9) >>> 1 = nI (n9 / 2) from pk_shrN (by omega) 1 1 (by decide)) ?_)
    refine kd_calli (va_runS (As := [.int (nI n9), .int 1, .int (nI (n9 / 2))]) (rest := []) ⟨hx, hb, hml, hown, hts⟩ (k_newLength l dC dI dA ad _ τ pv _ _ hI n9 (by omega) (by omega)) (va_cwS 3 hts gJx4a65c_grow_92f84_J8_newLength_cabcc rfl rfl rfl (by decide +kernel) ⟨Nat.le_of_ble_eq_true rfl, Nat.le_of_ble_eq_true rfl⟩) (kd_preS hP hD hK hS hA hE) rfl rfl hl.1 rfl (lv_room (Nat.le_of_ble_eq_true rfl)) dJx4a65c_grow_92f84_27 ⟨Nat.le_of_ble_eq_true rfl, Nat.le_of_ble_eq_true rfl⟩) hD hS hA (fun r_6 u_5 H locs hw hP hD hS => ?_)
    obtain ⟨rfl, hI⟩ := hw
    refine lv_istore_n (lv' := [(3, .int (nI (n9 + n9 / 2))), (2, .int (nI n9)), (0, .ref l9), (1, .int (nI (n9 + 1)))]) hx hb dJx4a65c_grow_92f84_30 rfl hl (by decide) rfl (fun ls hl => ?_)
    refine lv_aload_n hx hb dJx4a65c_grow_92f84_31 rfl (lv_at hl 2 rfl) ?_
    refine lv_aload_n hx hb dJx4a65c_grow_92f84_32 rfl (lv_at hl 2 rfl) ?_
    refine kp_get hx hb hts i_Jx4a65c hown hK hP hI hh_l rfl rfl 1 (by decide) (by decide) (hts (.fieldLink RJx4a65c 9 "java/util/ArrayList" "elementData" "[Ljava/lang/Object;") (by decide +kernel)) (fun _ h9 => h9) dJx4a65c_grow_92f84_33 (kq_P (v0 := .ref a9) rfl ha fun h_8 => ?_)
    refine lv_iload_n hx hb dJx4a65c_grow_92f84_36 rfl (lv_at hl 0 rfl) ?_
    refine kd_callq (va_runS (As := [.ref a9, .int (nI (n9 + n9 / 2))]) (rest := [.ref l9]) ⟨hx, hb, hml, hown, hts⟩ (k_copy1_9 l dC dI dA ad _ τ pv _ _ hI a9 (n9 + n9 / 2) hta (by omega) (by omega) hel) (va_cwS 2 hts gJx4a65c_grow_92f84_J7_copyOf_1904c rfl rfl rfl (by decide +kernel) ⟨Nat.le_of_ble_eq_true rfl, Nat.le_of_ble_eq_true rfl⟩) (kd_preS hP hD hK hS hA hE) rfl rfl hl.1 rfl (lv_room (Nat.le_of_ble_eq_true rfl)) dJx4a65c_grow_92f84_37 ⟨Nat.le_of_ble_eq_true rfl, Nat.le_of_ble_eq_true rfl⟩) hD hS hA (fun r_10 u_9 H locs hw hP hD hS => ?_)
    obtain ⟨q, τ2, pv2, rfl, h00, ht2, hp2, hq0, hq3, hqi, hI⟩ := hw
    refine W.eq (g2 := F0 m 40 ls [.ref q, .ref l9]) rfl ?_
    have hnl : l9 ≠ q := fun e9 => by rw [e9, h00] at hh_l; cases hh_l
    have hh_l := (ht2 l9 hnl 0).trans hh_l
    refine lv_dup_x1 hx hb dJx4a65c_grow_92f84_40 rfl rfl ?_
    refine kp_putP (v := .ref q) (ty := .array (.object "java/lang/Object")) hx hb hts i_Jx4a65c tyJx4a65c tyJx4a65c_ok nmJx4a65c hown hK hP hD hS hI hh_l rfl rfl 1 (by decide) (by decide) (hts (.fieldLink RJx4a65c 9 "java/util/ArrayList" "elementData" "[Ljava/lang/Object;") (by decide +kernel)) (fun _ h9 => h9) rfl (by decide +kernel) rfl rfl rfl (kv_S (by decide) ⟨_, rfl⟩) dJx4a65c_grow_92f84_41 (fun f H locs hI hP hD hS => ?_)
    refine W.widen (k := 1) (n := 1600) (Nat.le_of_ble_eq_true rfl) (Nat.le_of_ble_eq_true rfl) ?_
    exact W.aret (v := .ref q) hx hb hr (Or.inr ⟨_, rfl⟩) (Or.inr ⟨_, rfl⟩) (fun t ht hW9 => ⟨⟨(some q), (u_9.1, f), rfl, ⟨q, τ2, _, rfl, h00, ht2, fun b k hb hk => (kup_ne hk).trans (hp2 b hb k), kup_self, hq0, by rw [hq3]; omega, fun i hi => (kup_ne (Or.inl hnl.symm)).trans (hqi i (by omega)), hI⟩, by rw [ht]; exact hP, va_K.moved hW9.alike hK, hD⟩, hS.F ht⟩) hS.2.2 dJx4a65c_grow_92f84_44
  · have n_11 : ¬ 0 < n9 := fun h9 => (show ¬ nI 0 < nI n9 from c_3) ((nI_ltI (by omega) (by omega)).mpr h9)
    exact absurd h10 (by omega)
set_option maxHeartbeats 4000000 in
set_option maxRecDepth 100000 in
theorem k_growA8 (l : Launch) (dC : Nat → ClassId) (dI : Nat → Nat → Nat) (dA : Nat → ClassId) (ad sz : Nat) (τ : Nat → Nat → Nat) (pv : Nat → Nat → Value) (L : List Nat) (f : Nat → va_E) (hI : kI dA τ pv L f) (l9 a9 n9 : Nat) (hh_l : τ 0 l9 = 8) (ha : pv l9 1 = .ref a9) (hta : τ 0 a9 = 10) (hfl : τ 3 a9 = n9) (hn9 : n9 ≤ 1024) (hel : ∀ i, i < τ 3 a9 → ∃ q, pv a9 i = .ref q ∧ τ 0 q = 2) : Met l yJx4a65c_grow_92f84 wsJx4a65c_grow_92f84 ({ frames := 3, cells := 1, slots := 1600, locals := 79 } : Room) (va_Pc [.ref l9, .int (nI (n9 + 1))] (kB dC dI dA ad sz L f)) (va_Qq (fun r u => ∃ q τ2 pv2, r = some q ∧ τ 0 q = 0 ∧ (∀ b, b ≠ q → ∀ j, τ2 j b = τ j b) ∧ (∀ b k, b ≠ q → (b ≠ l9 ∨ k ≠ 1) → pv2 b k = pv b k) ∧ pv2 l9 1 = .ref q ∧ τ2 0 q = 10 ∧ n9 < τ2 3 q ∧ (∀ i, i < n9 → pv2 q i = pv a9 i) ∧ kI dA τ2 pv2 u.1 u.2) (kR dC dI dA (va_A (va_pl L f) sz)) (va_A (va_pl L f) sz)) 1 1600 (va_A (va_pl L f) sz) := by
  refine Met.ofW (cc := cJx4a65c_grow_92f84) (maxL := 4) (ret := (some (.array (.object "java/lang/Object")))) (by decide) rfl ?_
  intro p e s m args below meth c s₁ B hml hv
  obtain ⟨rfl, hsz, hP, hK, hD0, hE⟩ := hv
  have hx := B.exec
  have hb := B.bytes
  have hr := B.returns
  have hts := atoms_spec (ws := wsJx4a65c_grow_92f84) B.pre
  have hown : s.vm.findClass RJx4a65c = some m.cls := findClass_of_methodNamed B.named
  have hlocks := B.notSynchronized
  have i_Jx4a65c : ∀ w ∈ u_ws RJx4a65c TJx4a65c 3, w ∈ wsJx4a65c_grow_92f84 := by decide +kernel
  subst hsz
  have hD := hD0.self (sz := s.heap.size)
  generalize hAe : va_A (va_pl L f) s.heap.size = A at hD hE ⊢
  have hA : ∀ q : Nat, s.heap.size ≤ q → A q := fun q h => by rw [← hAe]; exact Or.inr h
  have hS : va_S A s.heap s.heap [] := va_S.rf
  have hP : va_P (dC, dI) vwCl (va_pl L f) s.heap := hP
  have hK : va_K (dC, dI) vwCl (tyA dA) s := hK
  have hl := lv_entry ([.ref l9, .int (nI (n9 + 1))]) (n := 4) (Nat.le_of_ble_eq_true rfl)
  rw [lg_entry_eq]
  generalize (lg_sl ([.ref l9, .int (nI (n9 + 1))]) ++ List.replicate (4 - (lg_sl ([.ref l9, .int (nI (n9 + 1))])).length) Slot.unset).toArray = ls at hl ⊢
  have hl : lv_has ls 4 [(0, .ref l9), (1, .int (nI (n9 + 1)))] := hl
  have h10 : 10 ≤ n9 := by have := (hI.arr hta rfl).2.1; rw [hfl] at this; exact this.1
  refine lv_aload_n hx hb dJx4a65c_grow_92f84_0 rfl (lv_at hl 0 rfl) ?_
  refine kp_get hx hb hts i_Jx4a65c hown hK hP hI hh_l rfl rfl 1 (by decide) (by decide) (hts (.fieldLink RJx4a65c 9 "java/util/ArrayList" "elementData" "[Ljava/lang/Object;") (by decide +kernel)) (fun _ h9 => h9) dJx4a65c_grow_92f84_1 (kq_P (v0 := .ref a9) rfl ha fun h_2 => ?_)
  refine kp_alen5 hx hb hK hP hI hta rfl dJx4a65c_grow_92f84_4 ?_
  refine lv_topi (nm_r (show nI (τ 3 a9) = nI n9 from by rw [hfl]) ?_)
  refine lv_istore_n (lv' := [(2, .int (nI n9)), (0, .ref l9), (1, .int (nI (n9 + 1)))]) hx hb dJx4a65c_grow_92f84_5 rfl hl (by decide) rfl (fun ls hl => ?_)
  refine lv_iload_n hx hb dJx4a65c_grow_92f84_6 rfl (lv_at hl 0 rfl) ?_
  refine lv_if_gt (tgt := 20) hx hb dJx4a65c_grow_92f84_7 (by decide) (fun c_3 => ?_) (fun c_3 => ?_)
  · have n_4 : 0 < n9 := (nI_ltI (by omega) (by omega)).mp (show nI 0 < nI n9 from c_3)
    refine lv_iload_n hx hb dJx4a65c_grow_92f84_20 rfl (lv_at hl 0 rfl) ?_
    refine lv_iload_n hx hb dJx4a65c_grow_92f84_21 rfl (lv_at hl 2 rfl) ?_
    refine lv_iload_n hx hb dJx4a65c_grow_92f84_22 rfl (lv_at hl 0 rfl) ?_
    refine lv_isub hx hb dJx4a65c_grow_92f84_23 ?_
    refine lv_topi (nm_r (show (nI (n9 + 1)) - (nI n9) = nI (n9 + 1 - n9) from pk_sub (a := n9 + 1) (b := n9) (by omega)) ?_)
    refine lv_topi (nm_r (show nI (n9 + 1 - n9) = 1 from by rw [Nat.add_sub_cancel_left]; rfl) ?_)
    refine lv_iload_n hx hb dJx4a65c_grow_92f84_24 rfl (lv_at hl 0 rfl) ?_
    refine lv_iconst (v := 1) hx hb dJx4a65c_grow_92f84_25 (by decide) ?_
    refine lv_ishr hx hb dJx4a65c_grow_92f84_26 ?_
    refine lv_topi (nm_r (show (nI n9) >>> 1 = nI (n9 / 2) from pk_shrN (by omega) 1 1 (by decide)) ?_)
    refine kd_calli (va_runS (As := [.int (nI n9), .int 1, .int (nI (n9 / 2))]) (rest := []) ⟨hx, hb, hml, hown, hts⟩ (k_newLength l dC dI dA ad _ τ pv _ _ hI n9 (by omega) (by omega)) (va_cwS 3 hts gJx4a65c_grow_92f84_J8_newLength_cabcc rfl rfl rfl (by decide +kernel) ⟨Nat.le_of_ble_eq_true rfl, Nat.le_of_ble_eq_true rfl⟩) (kd_preS hP hD hK hS hA hE) rfl rfl hl.1 rfl (lv_room (Nat.le_of_ble_eq_true rfl)) dJx4a65c_grow_92f84_27 ⟨Nat.le_of_ble_eq_true rfl, Nat.le_of_ble_eq_true rfl⟩) hD hS hA (fun r_6 u_5 H locs hw hP hD hS => ?_)
    obtain ⟨rfl, hI⟩ := hw
    refine lv_istore_n (lv' := [(3, .int (nI (n9 + n9 / 2))), (2, .int (nI n9)), (0, .ref l9), (1, .int (nI (n9 + 1)))]) hx hb dJx4a65c_grow_92f84_30 rfl hl (by decide) rfl (fun ls hl => ?_)
    refine lv_aload_n hx hb dJx4a65c_grow_92f84_31 rfl (lv_at hl 2 rfl) ?_
    refine lv_aload_n hx hb dJx4a65c_grow_92f84_32 rfl (lv_at hl 2 rfl) ?_
    refine kp_get hx hb hts i_Jx4a65c hown hK hP hI hh_l rfl rfl 1 (by decide) (by decide) (hts (.fieldLink RJx4a65c 9 "java/util/ArrayList" "elementData" "[Ljava/lang/Object;") (by decide +kernel)) (fun _ h9 => h9) dJx4a65c_grow_92f84_33 (kq_P (v0 := .ref a9) rfl ha fun h_8 => ?_)
    refine lv_iload_n hx hb dJx4a65c_grow_92f84_36 rfl (lv_at hl 0 rfl) ?_
    refine kd_callq (va_runS (As := [.ref a9, .int (nI (n9 + n9 / 2))]) (rest := [.ref l9]) ⟨hx, hb, hml, hown, hts⟩ (k_copy1_10 l dC dI dA ad _ τ pv _ _ hI a9 (n9 + n9 / 2) hta (by omega) (by omega) hel) (va_cwS 2 hts gJx4a65c_grow_92f84_J7_copyOf_1904c rfl rfl rfl (by decide +kernel) ⟨Nat.le_of_ble_eq_true rfl, Nat.le_of_ble_eq_true rfl⟩) (kd_preS hP hD hK hS hA hE) rfl rfl hl.1 rfl (lv_room (Nat.le_of_ble_eq_true rfl)) dJx4a65c_grow_92f84_37 ⟨Nat.le_of_ble_eq_true rfl, Nat.le_of_ble_eq_true rfl⟩) hD hS hA (fun r_10 u_9 H locs hw hP hD hS => ?_)
    obtain ⟨q, τ2, pv2, rfl, h00, ht2, hp2, hq0, hq3, hqi, hI⟩ := hw
    refine W.eq (g2 := F0 m 40 ls [.ref q, .ref l9]) rfl ?_
    have hnl : l9 ≠ q := fun e9 => by rw [e9, h00] at hh_l; cases hh_l
    have hh_l := (ht2 l9 hnl 0).trans hh_l
    refine lv_dup_x1 hx hb dJx4a65c_grow_92f84_40 rfl rfl ?_
    refine kp_putP (v := .ref q) (ty := .array (.object "java/lang/Object")) hx hb hts i_Jx4a65c tyJx4a65c tyJx4a65c_ok nmJx4a65c hown hK hP hD hS hI hh_l rfl rfl 1 (by decide) (by decide) (hts (.fieldLink RJx4a65c 9 "java/util/ArrayList" "elementData" "[Ljava/lang/Object;") (by decide +kernel)) (fun _ h9 => h9) rfl (by decide +kernel) rfl rfl rfl (kv_S (by decide) ⟨_, rfl⟩) dJx4a65c_grow_92f84_41 (fun f H locs hI hP hD hS => ?_)
    refine W.widen (k := 1) (n := 1600) (Nat.le_of_ble_eq_true rfl) (Nat.le_of_ble_eq_true rfl) ?_
    exact W.aret (v := .ref q) hx hb hr (Or.inr ⟨_, rfl⟩) (Or.inr ⟨_, rfl⟩) (fun t ht hW9 => ⟨⟨(some q), (u_9.1, f), rfl, ⟨q, τ2, _, rfl, h00, ht2, fun b k hb hk => (kup_ne hk).trans (hp2 b hb k), kup_self, hq0, by rw [hq3]; omega, fun i hi => (kup_ne (Or.inl hnl.symm)).trans (hqi i (by omega)), hI⟩, by rw [ht]; exact hP, va_K.moved hW9.alike hK, hD⟩, hS.F ht⟩) hS.2.2 dJx4a65c_grow_92f84_44
  · have n_11 : ¬ 0 < n9 := fun h9 => (show ¬ nI 0 < nI n9 from c_3) ((nI_ltI (by omega) (by omega)).mpr h9)
    exact absurd h10 (by omega)
set_option maxHeartbeats 4000000 in
set_option maxRecDepth 100000 in
theorem k_growF7 (l : Launch) (dC : Nat → ClassId) (dI : Nat → Nat → Nat) (dA : Nat → ClassId) (ad sz : Nat) (τ : Nat → Nat → Nat) (pv : Nat → Nat → Value) (L : List Nat) (f : Nat → va_E) (hI : kI dA τ pv L f) (l9 : Nat) (hh_l : τ 0 l9 = 7) (ha : pv l9 1 = .ref ad) : Met l yJx4a65c_grow_92f84 wsJx4a65c_grow_92f84 ({ frames := 1, cells := 1, slots := 1600, locals := 14 } : Room) (va_Pc [.ref l9, .int 1] (kB dC dI dA ad sz L f)) (va_Qq (fun r u => ∃ q τ2 pv2, r = some q ∧ τ 0 q = 0 ∧ (∀ b, b ≠ q → ∀ j, τ2 j b = τ j b) ∧ (∀ b k, b ≠ q → (b ≠ l9 ∨ k ≠ 1) → pv2 b k = pv b k) ∧ pv2 l9 1 = .ref q ∧ τ2 0 q = 9 ∧ 0 < τ2 3 q ∧ (∀ i, i < 0 → pv2 q i = pv ad i) ∧ kI dA τ2 pv2 u.1 u.2) (kR dC dI dA (va_A (va_pl L f) sz)) (va_A (va_pl L f) sz)) 1 1600 (va_A (va_pl L f) sz) := by
  refine Met.ofW (cc := cJx4a65c_grow_92f84) (maxL := 4) (ret := (some (.array (.object "java/lang/Object")))) (by decide) rfl ?_
  intro p e s m args below meth c s₁ B hml hv
  obtain ⟨rfl, hsz, hP, hK, hD0, hE⟩ := hv
  have hx := B.exec
  have hb := B.bytes
  have hr := B.returns
  have hts := atoms_spec (ws := wsJx4a65c_grow_92f84) B.pre
  have hown : s.vm.findClass RJx4a65c = some m.cls := findClass_of_methodNamed B.named
  have hlocks := B.notSynchronized
  have i_Jx4a65c : ∀ w ∈ u_ws RJx4a65c TJx4a65c 3, w ∈ wsJx4a65c_grow_92f84 := by decide +kernel
  subst hsz
  have hD := hD0.self (sz := s.heap.size)
  generalize hAe : va_A (va_pl L f) s.heap.size = A at hD hE ⊢
  have hA : ∀ q : Nat, s.heap.size ≤ q → A q := fun q h => by rw [← hAe]; exact Or.inr h
  have hS : va_S A s.heap s.heap [] := va_S.rf
  have hP : va_P (dC, dI) vwCl (va_pl L f) s.heap := hP
  have hK : va_K (dC, dI) vwCl (tyA dA) s := hK
  have hl := lv_entry ([.ref l9, .int 1]) (n := 4) (Nat.le_of_ble_eq_true rfl)
  rw [lg_entry_eq]
  generalize (lg_sl ([.ref l9, .int 1]) ++ List.replicate (4 - (lg_sl ([.ref l9, .int 1])).length) Slot.unset).toArray = ls at hl ⊢
  have hl : lv_has ls 4 [(0, .ref l9), (1, .int 1)] := hl
  refine lv_aload_n hx hb dJx4a65c_grow_92f84_0 rfl (lv_at hl 0 rfl) ?_
  refine kp_get hx hb hts i_Jx4a65c hown hK hP hI hh_l rfl rfl 1 (by decide) (by decide) (hts (.fieldLink RJx4a65c 9 "java/util/ArrayList" "elementData" "[Ljava/lang/Object;") (by decide +kernel)) (fun _ h9 => h9) dJx4a65c_grow_92f84_1 (kq_P (v0 := .ref ad) rfl ha fun h_2 => ?_)
  refine va_tlen (v := 0) hx hb hE.2.2.2.2.2.2.2.2.2.1 hS rfl dJx4a65c_grow_92f84_4 ?_
  refine lv_istore_n (lv' := [(2, .int 0), (0, .ref l9), (1, .int 1)]) hx hb dJx4a65c_grow_92f84_5 rfl hl (by decide) rfl (fun ls hl => ?_)
  refine lv_iload_n hx hb dJx4a65c_grow_92f84_6 rfl (lv_at hl 0 rfl) ?_
  refine lv_if_gt (tgt := 20) hx hb dJx4a65c_grow_92f84_7 (by decide) (fun h9 => by first | exact absurd h9 (by decide) | exact absurd (by decide) h9) (fun _ => ?_)
  refine lv_aload_n hx hb dJx4a65c_grow_92f84_10 rfl (lv_at hl 1 rfl) ?_
  refine kp_get hx hb hts i_Jx4a65c hown hK hP hI hh_l rfl rfl 1 (by decide) (by decide) (hts (.fieldLink RJx4a65c 9 "java/util/ArrayList" "elementData" "[Ljava/lang/Object;") (by decide +kernel)) (fun _ h9 => h9) dJx4a65c_grow_92f84_11 (kq_P (v0 := .ref ad) rfl ha fun h_4 => ?_)
  refine va_gets (v := .ref ad) hx hb hE.2.2.2.2.2.2.2.2.1 hS hown (hts (.fieldLink RJx4a65c 39 "java/util/ArrayList" "DEFAULTCAPACITY_EMPTY_ELEMENTDATA" "[Ljava/lang/Object;") (by decide +kernel)) (fun _ h9 => h9) dJx4a65c_grow_92f84_14 ?_
  refine W.eq (g2 := F0 m 17 ls [va_rf (some ad), va_rf (some ad)]) rfl ?_
  refine lv_acmp_eq (rx := (some ad)) (ry := (some ad)) (tgt := 45) hx hb dJx4a65c_grow_92f84_17 (by decide) (fun _ => ?_) (fun h9 => absurd rfl h9)
  refine lv_aload_n hx hb dJx4a65c_grow_92f84_45 rfl (lv_at hl 1 rfl) ?_
  refine lv_bipush (v := 10) hx hb dJx4a65c_grow_92f84_46 (by decide) ?_
  refine lv_iload_n hx hb dJx4a65c_grow_92f84_48 rfl (lv_at hl 2 rfl) ?_
  refine va_mmax hx hb (hml.trans hl.1.symm) hown (hts (.methodLink RJx4a65c 79 Lib.Math.max.name) (by decide +kernel)) (hts (.static Lib.Math.max.name) (by decide +kernel)) (hts (.initialized "java/lang/Math") (by decide +kernel)) (hts (.code Lib.Math.max.name Lib.Math.max.code 2 (some .int)) (by decide +kernel)) (Nat.le_of_ble_eq_true rfl) (Nat.le_of_ble_eq_true rfl) (Nat.le_of_ble_eq_true rfl) (Nat.le_of_ble_eq_true rfl) dJx4a65c_grow_92f84_49 ?_
  refine lv_topi (nm_r (show (if (10 : Int32) < 1 then 1 else 10) = 10 by decide) ?_)
  refine W.eq (g2 := F0 m 52 ls [.int (nI 10), .ref l9]) rfl ?_
  refine kp_newq hx hb hown (hts (.classLink RJx4a65c 7 "java/lang/Object") (by decide +kernel)) (hE.2.2.2.2.2.1 "java/lang/Object" (by decide)) hK hP hD hS hA (n := 10) (by omega) (Nat.le_of_ble_eq_true rfl) (Nat.le_of_ble_eq_true rfl) dJx4a65c_grow_92f84_52 (fun q H hqL hP hD hS => ?_)
  have h00 : τ 0 q = 0 := hI.t0 hqL
  have hI := hI.newC (t := 9) (n := 10) (g := fun _ => none) hqL (Or.inl rfl) (by decide)
  have hnl : l9 ≠ q := fun e9 => by rw [e9, h00] at hh_l; cases hh_l
  have hh_l := (kxt_ne (τ := τ) (g := kgA 9 10) hnl 0).trans hh_l
  refine W.widen (k := 1) (n := 1600) (by omega) (by omega) ?_
  refine lv_dup_x1 hx hb dJx4a65c_grow_92f84_55 rfl rfl ?_
  refine kp_putP (v := .ref q) (ty := .array (.object "java/lang/Object")) hx hb hts i_Jx4a65c tyJx4a65c tyJx4a65c_ok nmJx4a65c hown hK hP hD hS hI hh_l rfl rfl 1 (by decide) (by decide) (hts (.fieldLink RJx4a65c 9 "java/util/ArrayList" "elementData" "[Ljava/lang/Object;") (by decide +kernel)) (fun _ h9 => h9) rfl (by decide +kernel) rfl rfl rfl (kv_S (by decide) ⟨_, rfl⟩) dJx4a65c_grow_92f84_56 (fun f H locs hI hP hD hS => ?_)
  refine W.widen (k := 1) (n := 1600) (Nat.le_of_ble_eq_true rfl) (Nat.le_of_ble_eq_true rfl) ?_
  exact W.aret (v := .ref q) hx hb hr (Or.inr ⟨_, rfl⟩) (Or.inr ⟨_, rfl⟩) (fun t ht hW9 => ⟨⟨(some q), ((L ++ [q]), f), rfl, ⟨q, kxt τ q (kgA 9 10), _, rfl, h00, fun b hb => kxt_ne hb, fun b k hb hk => (kup_ne hk).trans (kux_ne hb k), kup_self, kxt_self 0, by rw [kxt_self 3]; decide, fun i hi => absurd hi (Nat.not_lt_zero i), hI⟩, by rw [ht]; exact hP, va_K.moved hW9.alike hK, hD⟩, hS.F ht⟩) hS.2.2 dJx4a65c_grow_92f84_59
set_option maxHeartbeats 4000000 in
set_option maxRecDepth 100000 in
theorem k_growF8 (l : Launch) (dC : Nat → ClassId) (dI : Nat → Nat → Nat) (dA : Nat → ClassId) (ad sz : Nat) (τ : Nat → Nat → Nat) (pv : Nat → Nat → Value) (L : List Nat) (f : Nat → va_E) (hI : kI dA τ pv L f) (l9 : Nat) (hh_l : τ 0 l9 = 8) (ha : pv l9 1 = .ref ad) : Met l yJx4a65c_grow_92f84 wsJx4a65c_grow_92f84 ({ frames := 1, cells := 1, slots := 1600, locals := 14 } : Room) (va_Pc [.ref l9, .int 1] (kB dC dI dA ad sz L f)) (va_Qq (fun r u => ∃ q τ2 pv2, r = some q ∧ τ 0 q = 0 ∧ (∀ b, b ≠ q → ∀ j, τ2 j b = τ j b) ∧ (∀ b k, b ≠ q → (b ≠ l9 ∨ k ≠ 1) → pv2 b k = pv b k) ∧ pv2 l9 1 = .ref q ∧ τ2 0 q = 10 ∧ 0 < τ2 3 q ∧ (∀ i, i < 0 → pv2 q i = pv ad i) ∧ kI dA τ2 pv2 u.1 u.2) (kR dC dI dA (va_A (va_pl L f) sz)) (va_A (va_pl L f) sz)) 1 1600 (va_A (va_pl L f) sz) := by
  refine Met.ofW (cc := cJx4a65c_grow_92f84) (maxL := 4) (ret := (some (.array (.object "java/lang/Object")))) (by decide) rfl ?_
  intro p e s m args below meth c s₁ B hml hv
  obtain ⟨rfl, hsz, hP, hK, hD0, hE⟩ := hv
  have hx := B.exec
  have hb := B.bytes
  have hr := B.returns
  have hts := atoms_spec (ws := wsJx4a65c_grow_92f84) B.pre
  have hown : s.vm.findClass RJx4a65c = some m.cls := findClass_of_methodNamed B.named
  have hlocks := B.notSynchronized
  have i_Jx4a65c : ∀ w ∈ u_ws RJx4a65c TJx4a65c 3, w ∈ wsJx4a65c_grow_92f84 := by decide +kernel
  subst hsz
  have hD := hD0.self (sz := s.heap.size)
  generalize hAe : va_A (va_pl L f) s.heap.size = A at hD hE ⊢
  have hA : ∀ q : Nat, s.heap.size ≤ q → A q := fun q h => by rw [← hAe]; exact Or.inr h
  have hS : va_S A s.heap s.heap [] := va_S.rf
  have hP : va_P (dC, dI) vwCl (va_pl L f) s.heap := hP
  have hK : va_K (dC, dI) vwCl (tyA dA) s := hK
  have hl := lv_entry ([.ref l9, .int 1]) (n := 4) (Nat.le_of_ble_eq_true rfl)
  rw [lg_entry_eq]
  generalize (lg_sl ([.ref l9, .int 1]) ++ List.replicate (4 - (lg_sl ([.ref l9, .int 1])).length) Slot.unset).toArray = ls at hl ⊢
  have hl : lv_has ls 4 [(0, .ref l9), (1, .int 1)] := hl
  refine lv_aload_n hx hb dJx4a65c_grow_92f84_0 rfl (lv_at hl 0 rfl) ?_
  refine kp_get hx hb hts i_Jx4a65c hown hK hP hI hh_l rfl rfl 1 (by decide) (by decide) (hts (.fieldLink RJx4a65c 9 "java/util/ArrayList" "elementData" "[Ljava/lang/Object;") (by decide +kernel)) (fun _ h9 => h9) dJx4a65c_grow_92f84_1 (kq_P (v0 := .ref ad) rfl ha fun h_2 => ?_)
  refine va_tlen (v := 0) hx hb hE.2.2.2.2.2.2.2.2.2.1 hS rfl dJx4a65c_grow_92f84_4 ?_
  refine lv_istore_n (lv' := [(2, .int 0), (0, .ref l9), (1, .int 1)]) hx hb dJx4a65c_grow_92f84_5 rfl hl (by decide) rfl (fun ls hl => ?_)
  refine lv_iload_n hx hb dJx4a65c_grow_92f84_6 rfl (lv_at hl 0 rfl) ?_
  refine lv_if_gt (tgt := 20) hx hb dJx4a65c_grow_92f84_7 (by decide) (fun h9 => by first | exact absurd h9 (by decide) | exact absurd (by decide) h9) (fun _ => ?_)
  refine lv_aload_n hx hb dJx4a65c_grow_92f84_10 rfl (lv_at hl 1 rfl) ?_
  refine kp_get hx hb hts i_Jx4a65c hown hK hP hI hh_l rfl rfl 1 (by decide) (by decide) (hts (.fieldLink RJx4a65c 9 "java/util/ArrayList" "elementData" "[Ljava/lang/Object;") (by decide +kernel)) (fun _ h9 => h9) dJx4a65c_grow_92f84_11 (kq_P (v0 := .ref ad) rfl ha fun h_4 => ?_)
  refine va_gets (v := .ref ad) hx hb hE.2.2.2.2.2.2.2.2.1 hS hown (hts (.fieldLink RJx4a65c 39 "java/util/ArrayList" "DEFAULTCAPACITY_EMPTY_ELEMENTDATA" "[Ljava/lang/Object;") (by decide +kernel)) (fun _ h9 => h9) dJx4a65c_grow_92f84_14 ?_
  refine W.eq (g2 := F0 m 17 ls [va_rf (some ad), va_rf (some ad)]) rfl ?_
  refine lv_acmp_eq (rx := (some ad)) (ry := (some ad)) (tgt := 45) hx hb dJx4a65c_grow_92f84_17 (by decide) (fun _ => ?_) (fun h9 => absurd rfl h9)
  refine lv_aload_n hx hb dJx4a65c_grow_92f84_45 rfl (lv_at hl 1 rfl) ?_
  refine lv_bipush (v := 10) hx hb dJx4a65c_grow_92f84_46 (by decide) ?_
  refine lv_iload_n hx hb dJx4a65c_grow_92f84_48 rfl (lv_at hl 2 rfl) ?_
  refine va_mmax hx hb (hml.trans hl.1.symm) hown (hts (.methodLink RJx4a65c 79 Lib.Math.max.name) (by decide +kernel)) (hts (.static Lib.Math.max.name) (by decide +kernel)) (hts (.initialized "java/lang/Math") (by decide +kernel)) (hts (.code Lib.Math.max.name Lib.Math.max.code 2 (some .int)) (by decide +kernel)) (Nat.le_of_ble_eq_true rfl) (Nat.le_of_ble_eq_true rfl) (Nat.le_of_ble_eq_true rfl) (Nat.le_of_ble_eq_true rfl) dJx4a65c_grow_92f84_49 ?_
  refine lv_topi (nm_r (show (if (10 : Int32) < 1 then 1 else 10) = 10 by decide) ?_)
  refine W.eq (g2 := F0 m 52 ls [.int (nI 10), .ref l9]) rfl ?_
  refine kp_newq hx hb hown (hts (.classLink RJx4a65c 7 "java/lang/Object") (by decide +kernel)) (hE.2.2.2.2.2.1 "java/lang/Object" (by decide)) hK hP hD hS hA (n := 10) (by omega) (Nat.le_of_ble_eq_true rfl) (Nat.le_of_ble_eq_true rfl) dJx4a65c_grow_92f84_52 (fun q H hqL hP hD hS => ?_)
  have h00 : τ 0 q = 0 := hI.t0 hqL
  have hI := hI.newC (t := 10) (n := 10) (g := fun _ => none) hqL (Or.inr rfl) (by decide)
  have hnl : l9 ≠ q := fun e9 => by rw [e9, h00] at hh_l; cases hh_l
  have hh_l := (kxt_ne (τ := τ) (g := kgA 10 10) hnl 0).trans hh_l
  refine W.widen (k := 1) (n := 1600) (by omega) (by omega) ?_
  refine lv_dup_x1 hx hb dJx4a65c_grow_92f84_55 rfl rfl ?_
  refine kp_putP (v := .ref q) (ty := .array (.object "java/lang/Object")) hx hb hts i_Jx4a65c tyJx4a65c tyJx4a65c_ok nmJx4a65c hown hK hP hD hS hI hh_l rfl rfl 1 (by decide) (by decide) (hts (.fieldLink RJx4a65c 9 "java/util/ArrayList" "elementData" "[Ljava/lang/Object;") (by decide +kernel)) (fun _ h9 => h9) rfl (by decide +kernel) rfl rfl rfl (kv_S (by decide) ⟨_, rfl⟩) dJx4a65c_grow_92f84_56 (fun f H locs hI hP hD hS => ?_)
  refine W.widen (k := 1) (n := 1600) (Nat.le_of_ble_eq_true rfl) (Nat.le_of_ble_eq_true rfl) ?_
  exact W.aret (v := .ref q) hx hb hr (Or.inr ⟨_, rfl⟩) (Or.inr ⟨_, rfl⟩) (fun t ht hW9 => ⟨⟨(some q), ((L ++ [q]), f), rfl, ⟨q, kxt τ q (kgA 10 10), _, rfl, h00, fun b hb => kxt_ne hb, fun b k hb hk => (kup_ne hk).trans (kux_ne hb k), kup_self, kxt_self 0, by rw [kxt_self 3]; decide, fun i hi => absurd hi (Nat.not_lt_zero i), hI⟩, by rw [ht]; exact hP, va_K.moved hW9.alike hK, hD⟩, hS.F ht⟩) hS.2.2 dJx4a65c_grow_92f84_59
set_option maxHeartbeats 4000000 in
set_option maxRecDepth 100000 in
theorem k_grow0A7 (l : Launch) (dC : Nat → ClassId) (dI : Nat → Nat → Nat) (dA : Nat → ClassId) (ad sz : Nat) (τ : Nat → Nat → Nat) (pv : Nat → Nat → Value) (L : List Nat) (f : Nat → va_E) (hI : kI dA τ pv L f) (l9 a9 n9 : Nat) (hh_l : τ 0 l9 = 7) (ha : pv l9 1 = .ref a9) (hta : τ 0 a9 = 9) (hfl : τ 3 a9 = n9) (hn9 : n9 ≤ 1024) (hel : ∀ i, i < τ 3 a9 → ∃ q, pv a9 i = .ref q ∧ τ 0 q = 1) (hn : pv l9 2 = .int (nI n9)) : Met l yJx4a65c_grow_d5877 wsJx4a65c_grow_d5877 ({ frames := 4, cells := 1, slots := 1600, locals := 102 } : Room) (va_Pc [.ref l9] (kB dC dI dA ad sz L f)) (va_Qq (fun r u => ∃ q τ2 pv2, r = some q ∧ τ 0 q = 0 ∧ (∀ b, b ≠ q → ∀ j, τ2 j b = τ j b) ∧ (∀ b k, b ≠ q → (b ≠ l9 ∨ k ≠ 1) → pv2 b k = pv b k) ∧ pv2 l9 1 = .ref q ∧ τ2 0 q = 9 ∧ n9 < τ2 3 q ∧ (∀ i, i < n9 → pv2 q i = pv a9 i) ∧ kI dA τ2 pv2 u.1 u.2) (kR dC dI dA (va_A (va_pl L f) sz)) (va_A (va_pl L f) sz)) 1 1600 (va_A (va_pl L f) sz) := by
  refine Met.ofW (cc := cJx4a65c_grow_d5877) (maxL := 1) (ret := (some (.array (.object "java/lang/Object")))) (by decide) rfl ?_
  intro p e s m args below meth c s₁ B hml hv
  obtain ⟨rfl, hsz, hP, hK, hD0, hE⟩ := hv
  have hx := B.exec
  have hb := B.bytes
  have hr := B.returns
  have hts := atoms_spec (ws := wsJx4a65c_grow_d5877) B.pre
  have hown : s.vm.findClass RJx4a65c = some m.cls := findClass_of_methodNamed B.named
  have hlocks := B.notSynchronized
  have i_Jx4a65c : ∀ w ∈ u_ws RJx4a65c TJx4a65c 3, w ∈ wsJx4a65c_grow_d5877 := by decide +kernel
  subst hsz
  have hD := hD0.self (sz := s.heap.size)
  generalize hAe : va_A (va_pl L f) s.heap.size = A at hD hE ⊢
  have hA : ∀ q : Nat, s.heap.size ≤ q → A q := fun q h => by rw [← hAe]; exact Or.inr h
  have hS : va_S A s.heap s.heap [] := va_S.rf
  have hP : va_P (dC, dI) vwCl (va_pl L f) s.heap := hP
  have hK : va_K (dC, dI) vwCl (tyA dA) s := hK
  have hl := lv_entry ([.ref l9]) (n := 1) (Nat.le_of_ble_eq_true rfl)
  rw [lg_entry_eq]
  generalize (lg_sl ([.ref l9]) ++ List.replicate (1 - (lg_sl ([.ref l9])).length) Slot.unset).toArray = ls at hl ⊢
  have hl : lv_has ls 1 [(0, .ref l9)] := hl
  refine lv_aload_n hx hb dJx4a65c_grow_d5877_0 rfl (lv_at hl 0 rfl) ?_
  refine lv_aload_n hx hb dJx4a65c_grow_d5877_1 rfl (lv_at hl 0 rfl) ?_
  refine kp_get hx hb hts i_Jx4a65c hown hK hP hI hh_l rfl rfl 2 (by decide) (by decide) (hts (.fieldLink RJx4a65c 48 "java/util/ArrayList" "size" "I") (by decide +kernel)) (fun _ h9 => h9) dJx4a65c_grow_d5877_2 (kq_P (v0 := .int (nI n9)) rfl hn fun h_2 => ?_)
  refine lv_iconst (v := 1) hx hb dJx4a65c_grow_d5877_5 (by decide) ?_
  refine lv_iadd hx hb dJx4a65c_grow_d5877_6 ?_
  refine lv_topi (nm_r (show (nI n9) + 1 = nI (n9 + 1) from nI_add n9 1) ?_)
  refine kd_callq (va_runV (As := [.int (nI (n9 + 1))]) (rest := []) ⟨hx, hb, hml, hown, hts⟩ (k_growA7 l dC dI dA ad _ τ pv _ _ hI l9 a9 n9 hh_l ha hta hfl (by omega) hel) (cwV 1 hts gJx4a65c_grow_d5877_Jx4a65c_grow_92f84 rfl rfl rfl (by decide +kernel) ⟨Nat.le_of_ble_eq_true rfl, Nat.le_of_ble_eq_true rfl⟩) (kd_preV hP hD hK hS hA hE hI hh_l rfl rfl) rfl rfl hl.1 rfl (lv_room (Nat.le_of_ble_eq_true rfl)) dJx4a65c_grow_d5877_7 ⟨Nat.le_of_ble_eq_true rfl, Nat.le_of_ble_eq_true rfl⟩) hD hS hA (fun r_4 u_3 H locs hw hP hD hS => ?_)
  obtain ⟨q, τ2, pv2, rfl, h00, ht2, hp2, hl1, hq0, hq3, hqi, hI⟩ := hw
  refine W.eq (g2 := F0 m 10 ls [.ref q]) rfl ?_
  refine W.widen (k := 1) (n := 1600) (Nat.le_of_ble_eq_true rfl) (Nat.le_of_ble_eq_true rfl) ?_
  exact W.aret (v := .ref q) hx hb hr (Or.inr ⟨_, rfl⟩) (Or.inr ⟨_, rfl⟩) (fun t ht hW9 => ⟨⟨(some q), (u_3.1, u_3.2), rfl, ⟨q, τ2, pv2, rfl, h00, ht2, hp2, hl1, hq0, hq3, hqi, hI⟩, by rw [ht]; exact hP, va_K.moved hW9.alike hK, hD⟩, hS.F ht⟩) hS.2.2 dJx4a65c_grow_d5877_10
set_option maxHeartbeats 4000000 in
set_option maxRecDepth 100000 in
theorem k_grow0A8 (l : Launch) (dC : Nat → ClassId) (dI : Nat → Nat → Nat) (dA : Nat → ClassId) (ad sz : Nat) (τ : Nat → Nat → Nat) (pv : Nat → Nat → Value) (L : List Nat) (f : Nat → va_E) (hI : kI dA τ pv L f) (l9 a9 n9 : Nat) (hh_l : τ 0 l9 = 8) (ha : pv l9 1 = .ref a9) (hta : τ 0 a9 = 10) (hfl : τ 3 a9 = n9) (hn9 : n9 ≤ 1024) (hel : ∀ i, i < τ 3 a9 → ∃ q, pv a9 i = .ref q ∧ τ 0 q = 2) (hn : pv l9 2 = .int (nI n9)) : Met l yJx4a65c_grow_d5877 wsJx4a65c_grow_d5877 ({ frames := 4, cells := 1, slots := 1600, locals := 102 } : Room) (va_Pc [.ref l9] (kB dC dI dA ad sz L f)) (va_Qq (fun r u => ∃ q τ2 pv2, r = some q ∧ τ 0 q = 0 ∧ (∀ b, b ≠ q → ∀ j, τ2 j b = τ j b) ∧ (∀ b k, b ≠ q → (b ≠ l9 ∨ k ≠ 1) → pv2 b k = pv b k) ∧ pv2 l9 1 = .ref q ∧ τ2 0 q = 10 ∧ n9 < τ2 3 q ∧ (∀ i, i < n9 → pv2 q i = pv a9 i) ∧ kI dA τ2 pv2 u.1 u.2) (kR dC dI dA (va_A (va_pl L f) sz)) (va_A (va_pl L f) sz)) 1 1600 (va_A (va_pl L f) sz) := by
  refine Met.ofW (cc := cJx4a65c_grow_d5877) (maxL := 1) (ret := (some (.array (.object "java/lang/Object")))) (by decide) rfl ?_
  intro p e s m args below meth c s₁ B hml hv
  obtain ⟨rfl, hsz, hP, hK, hD0, hE⟩ := hv
  have hx := B.exec
  have hb := B.bytes
  have hr := B.returns
  have hts := atoms_spec (ws := wsJx4a65c_grow_d5877) B.pre
  have hown : s.vm.findClass RJx4a65c = some m.cls := findClass_of_methodNamed B.named
  have hlocks := B.notSynchronized
  have i_Jx4a65c : ∀ w ∈ u_ws RJx4a65c TJx4a65c 3, w ∈ wsJx4a65c_grow_d5877 := by decide +kernel
  subst hsz
  have hD := hD0.self (sz := s.heap.size)
  generalize hAe : va_A (va_pl L f) s.heap.size = A at hD hE ⊢
  have hA : ∀ q : Nat, s.heap.size ≤ q → A q := fun q h => by rw [← hAe]; exact Or.inr h
  have hS : va_S A s.heap s.heap [] := va_S.rf
  have hP : va_P (dC, dI) vwCl (va_pl L f) s.heap := hP
  have hK : va_K (dC, dI) vwCl (tyA dA) s := hK
  have hl := lv_entry ([.ref l9]) (n := 1) (Nat.le_of_ble_eq_true rfl)
  rw [lg_entry_eq]
  generalize (lg_sl ([.ref l9]) ++ List.replicate (1 - (lg_sl ([.ref l9])).length) Slot.unset).toArray = ls at hl ⊢
  have hl : lv_has ls 1 [(0, .ref l9)] := hl
  refine lv_aload_n hx hb dJx4a65c_grow_d5877_0 rfl (lv_at hl 0 rfl) ?_
  refine lv_aload_n hx hb dJx4a65c_grow_d5877_1 rfl (lv_at hl 0 rfl) ?_
  refine kp_get hx hb hts i_Jx4a65c hown hK hP hI hh_l rfl rfl 2 (by decide) (by decide) (hts (.fieldLink RJx4a65c 48 "java/util/ArrayList" "size" "I") (by decide +kernel)) (fun _ h9 => h9) dJx4a65c_grow_d5877_2 (kq_P (v0 := .int (nI n9)) rfl hn fun h_2 => ?_)
  refine lv_iconst (v := 1) hx hb dJx4a65c_grow_d5877_5 (by decide) ?_
  refine lv_iadd hx hb dJx4a65c_grow_d5877_6 ?_
  refine lv_topi (nm_r (show (nI n9) + 1 = nI (n9 + 1) from nI_add n9 1) ?_)
  refine kd_callq (va_runV (As := [.int (nI (n9 + 1))]) (rest := []) ⟨hx, hb, hml, hown, hts⟩ (k_growA8 l dC dI dA ad _ τ pv _ _ hI l9 a9 n9 hh_l ha hta hfl (by omega) hel) (cwV 1 hts gJx4a65c_grow_d5877_Jx4a65c_grow_92f84 rfl rfl rfl (by decide +kernel) ⟨Nat.le_of_ble_eq_true rfl, Nat.le_of_ble_eq_true rfl⟩) (kd_preV hP hD hK hS hA hE hI hh_l rfl rfl) rfl rfl hl.1 rfl (lv_room (Nat.le_of_ble_eq_true rfl)) dJx4a65c_grow_d5877_7 ⟨Nat.le_of_ble_eq_true rfl, Nat.le_of_ble_eq_true rfl⟩) hD hS hA (fun r_4 u_3 H locs hw hP hD hS => ?_)
  obtain ⟨q, τ2, pv2, rfl, h00, ht2, hp2, hl1, hq0, hq3, hqi, hI⟩ := hw
  refine W.eq (g2 := F0 m 10 ls [.ref q]) rfl ?_
  refine W.widen (k := 1) (n := 1600) (Nat.le_of_ble_eq_true rfl) (Nat.le_of_ble_eq_true rfl) ?_
  exact W.aret (v := .ref q) hx hb hr (Or.inr ⟨_, rfl⟩) (Or.inr ⟨_, rfl⟩) (fun t ht hW9 => ⟨⟨(some q), (u_3.1, u_3.2), rfl, ⟨q, τ2, pv2, rfl, h00, ht2, hp2, hl1, hq0, hq3, hqi, hI⟩, by rw [ht]; exact hP, va_K.moved hW9.alike hK, hD⟩, hS.F ht⟩) hS.2.2 dJx4a65c_grow_d5877_10
set_option maxHeartbeats 4000000 in
set_option maxRecDepth 100000 in
theorem k_grow0F7 (l : Launch) (dC : Nat → ClassId) (dI : Nat → Nat → Nat) (dA : Nat → ClassId) (ad sz : Nat) (τ : Nat → Nat → Nat) (pv : Nat → Nat → Value) (L : List Nat) (f : Nat → va_E) (hI : kI dA τ pv L f) (l9 : Nat) (hh_l : τ 0 l9 = 7) (ha : pv l9 1 = .ref ad) (hn : pv l9 2 = .int 0) : Met l yJx4a65c_grow_d5877 wsJx4a65c_grow_d5877 ({ frames := 2, cells := 1, slots := 1600, locals := 37 } : Room) (va_Pc [.ref l9] (kB dC dI dA ad sz L f)) (va_Qq (fun r u => ∃ q τ2 pv2, r = some q ∧ τ 0 q = 0 ∧ (∀ b, b ≠ q → ∀ j, τ2 j b = τ j b) ∧ (∀ b k, b ≠ q → (b ≠ l9 ∨ k ≠ 1) → pv2 b k = pv b k) ∧ pv2 l9 1 = .ref q ∧ τ2 0 q = 9 ∧ 0 < τ2 3 q ∧ (∀ i, i < 0 → pv2 q i = pv ad i) ∧ kI dA τ2 pv2 u.1 u.2) (kR dC dI dA (va_A (va_pl L f) sz)) (va_A (va_pl L f) sz)) 1 1600 (va_A (va_pl L f) sz) := by
  refine Met.ofW (cc := cJx4a65c_grow_d5877) (maxL := 1) (ret := (some (.array (.object "java/lang/Object")))) (by decide) rfl ?_
  intro p e s m args below meth c s₁ B hml hv
  obtain ⟨rfl, hsz, hP, hK, hD0, hE⟩ := hv
  have hx := B.exec
  have hb := B.bytes
  have hr := B.returns
  have hts := atoms_spec (ws := wsJx4a65c_grow_d5877) B.pre
  have hown : s.vm.findClass RJx4a65c = some m.cls := findClass_of_methodNamed B.named
  have hlocks := B.notSynchronized
  have i_Jx4a65c : ∀ w ∈ u_ws RJx4a65c TJx4a65c 3, w ∈ wsJx4a65c_grow_d5877 := by decide +kernel
  subst hsz
  have hD := hD0.self (sz := s.heap.size)
  generalize hAe : va_A (va_pl L f) s.heap.size = A at hD hE ⊢
  have hA : ∀ q : Nat, s.heap.size ≤ q → A q := fun q h => by rw [← hAe]; exact Or.inr h
  have hS : va_S A s.heap s.heap [] := va_S.rf
  have hP : va_P (dC, dI) vwCl (va_pl L f) s.heap := hP
  have hK : va_K (dC, dI) vwCl (tyA dA) s := hK
  have hl := lv_entry ([.ref l9]) (n := 1) (Nat.le_of_ble_eq_true rfl)
  rw [lg_entry_eq]
  generalize (lg_sl ([.ref l9]) ++ List.replicate (1 - (lg_sl ([.ref l9])).length) Slot.unset).toArray = ls at hl ⊢
  have hl : lv_has ls 1 [(0, .ref l9)] := hl
  refine lv_aload_n hx hb dJx4a65c_grow_d5877_0 rfl (lv_at hl 0 rfl) ?_
  refine lv_aload_n hx hb dJx4a65c_grow_d5877_1 rfl (lv_at hl 0 rfl) ?_
  refine kp_get hx hb hts i_Jx4a65c hown hK hP hI hh_l rfl rfl 2 (by decide) (by decide) (hts (.fieldLink RJx4a65c 48 "java/util/ArrayList" "size" "I") (by decide +kernel)) (fun _ h9 => h9) dJx4a65c_grow_d5877_2 (kq_P (v0 := .int 0) rfl hn fun h_2 => ?_)
  refine lv_iconst (v := 1) hx hb dJx4a65c_grow_d5877_5 (by decide) ?_
  refine lv_iadd hx hb dJx4a65c_grow_d5877_6 ?_
  refine lv_topi (nm_r (show (0 : Int32) + 1 = 1 by decide) ?_)
  refine kd_callq (va_runV (As := [.int 1]) (rest := []) ⟨hx, hb, hml, hown, hts⟩ (k_growF7 l dC dI dA ad _ τ pv _ _ hI l9 hh_l ha) (cwV 1 hts gJx4a65c_grow_d5877_Jx4a65c_grow_92f84 rfl rfl rfl (by decide +kernel) ⟨Nat.le_of_ble_eq_true rfl, Nat.le_of_ble_eq_true rfl⟩) (kd_preV hP hD hK hS hA hE hI hh_l rfl rfl) rfl rfl hl.1 rfl (lv_room (Nat.le_of_ble_eq_true rfl)) dJx4a65c_grow_d5877_7 ⟨Nat.le_of_ble_eq_true rfl, Nat.le_of_ble_eq_true rfl⟩) hD hS hA (fun r_4 u_3 H locs hw hP hD hS => ?_)
  obtain ⟨q, τ2, pv2, rfl, h00, ht2, hp2, hl1, hq0, hq3, hqi, hI⟩ := hw
  refine W.eq (g2 := F0 m 10 ls [.ref q]) rfl ?_
  refine W.widen (k := 1) (n := 1600) (Nat.le_of_ble_eq_true rfl) (Nat.le_of_ble_eq_true rfl) ?_
  exact W.aret (v := .ref q) hx hb hr (Or.inr ⟨_, rfl⟩) (Or.inr ⟨_, rfl⟩) (fun t ht hW9 => ⟨⟨(some q), (u_3.1, u_3.2), rfl, ⟨q, τ2, pv2, rfl, h00, ht2, hp2, hl1, hq0, hq3, hqi, hI⟩, by rw [ht]; exact hP, va_K.moved hW9.alike hK, hD⟩, hS.F ht⟩) hS.2.2 dJx4a65c_grow_d5877_10
set_option maxHeartbeats 4000000 in
set_option maxRecDepth 100000 in
theorem k_grow0F8 (l : Launch) (dC : Nat → ClassId) (dI : Nat → Nat → Nat) (dA : Nat → ClassId) (ad sz : Nat) (τ : Nat → Nat → Nat) (pv : Nat → Nat → Value) (L : List Nat) (f : Nat → va_E) (hI : kI dA τ pv L f) (l9 : Nat) (hh_l : τ 0 l9 = 8) (ha : pv l9 1 = .ref ad) (hn : pv l9 2 = .int 0) : Met l yJx4a65c_grow_d5877 wsJx4a65c_grow_d5877 ({ frames := 2, cells := 1, slots := 1600, locals := 37 } : Room) (va_Pc [.ref l9] (kB dC dI dA ad sz L f)) (va_Qq (fun r u => ∃ q τ2 pv2, r = some q ∧ τ 0 q = 0 ∧ (∀ b, b ≠ q → ∀ j, τ2 j b = τ j b) ∧ (∀ b k, b ≠ q → (b ≠ l9 ∨ k ≠ 1) → pv2 b k = pv b k) ∧ pv2 l9 1 = .ref q ∧ τ2 0 q = 10 ∧ 0 < τ2 3 q ∧ (∀ i, i < 0 → pv2 q i = pv ad i) ∧ kI dA τ2 pv2 u.1 u.2) (kR dC dI dA (va_A (va_pl L f) sz)) (va_A (va_pl L f) sz)) 1 1600 (va_A (va_pl L f) sz) := by
  refine Met.ofW (cc := cJx4a65c_grow_d5877) (maxL := 1) (ret := (some (.array (.object "java/lang/Object")))) (by decide) rfl ?_
  intro p e s m args below meth c s₁ B hml hv
  obtain ⟨rfl, hsz, hP, hK, hD0, hE⟩ := hv
  have hx := B.exec
  have hb := B.bytes
  have hr := B.returns
  have hts := atoms_spec (ws := wsJx4a65c_grow_d5877) B.pre
  have hown : s.vm.findClass RJx4a65c = some m.cls := findClass_of_methodNamed B.named
  have hlocks := B.notSynchronized
  have i_Jx4a65c : ∀ w ∈ u_ws RJx4a65c TJx4a65c 3, w ∈ wsJx4a65c_grow_d5877 := by decide +kernel
  subst hsz
  have hD := hD0.self (sz := s.heap.size)
  generalize hAe : va_A (va_pl L f) s.heap.size = A at hD hE ⊢
  have hA : ∀ q : Nat, s.heap.size ≤ q → A q := fun q h => by rw [← hAe]; exact Or.inr h
  have hS : va_S A s.heap s.heap [] := va_S.rf
  have hP : va_P (dC, dI) vwCl (va_pl L f) s.heap := hP
  have hK : va_K (dC, dI) vwCl (tyA dA) s := hK
  have hl := lv_entry ([.ref l9]) (n := 1) (Nat.le_of_ble_eq_true rfl)
  rw [lg_entry_eq]
  generalize (lg_sl ([.ref l9]) ++ List.replicate (1 - (lg_sl ([.ref l9])).length) Slot.unset).toArray = ls at hl ⊢
  have hl : lv_has ls 1 [(0, .ref l9)] := hl
  refine lv_aload_n hx hb dJx4a65c_grow_d5877_0 rfl (lv_at hl 0 rfl) ?_
  refine lv_aload_n hx hb dJx4a65c_grow_d5877_1 rfl (lv_at hl 0 rfl) ?_
  refine kp_get hx hb hts i_Jx4a65c hown hK hP hI hh_l rfl rfl 2 (by decide) (by decide) (hts (.fieldLink RJx4a65c 48 "java/util/ArrayList" "size" "I") (by decide +kernel)) (fun _ h9 => h9) dJx4a65c_grow_d5877_2 (kq_P (v0 := .int 0) rfl hn fun h_2 => ?_)
  refine lv_iconst (v := 1) hx hb dJx4a65c_grow_d5877_5 (by decide) ?_
  refine lv_iadd hx hb dJx4a65c_grow_d5877_6 ?_
  refine lv_topi (nm_r (show (0 : Int32) + 1 = 1 by decide) ?_)
  refine kd_callq (va_runV (As := [.int 1]) (rest := []) ⟨hx, hb, hml, hown, hts⟩ (k_growF8 l dC dI dA ad _ τ pv _ _ hI l9 hh_l ha) (cwV 1 hts gJx4a65c_grow_d5877_Jx4a65c_grow_92f84 rfl rfl rfl (by decide +kernel) ⟨Nat.le_of_ble_eq_true rfl, Nat.le_of_ble_eq_true rfl⟩) (kd_preV hP hD hK hS hA hE hI hh_l rfl rfl) rfl rfl hl.1 rfl (lv_room (Nat.le_of_ble_eq_true rfl)) dJx4a65c_grow_d5877_7 ⟨Nat.le_of_ble_eq_true rfl, Nat.le_of_ble_eq_true rfl⟩) hD hS hA (fun r_4 u_3 H locs hw hP hD hS => ?_)
  obtain ⟨q, τ2, pv2, rfl, h00, ht2, hp2, hl1, hq0, hq3, hqi, hI⟩ := hw
  refine W.eq (g2 := F0 m 10 ls [.ref q]) rfl ?_
  refine W.widen (k := 1) (n := 1600) (Nat.le_of_ble_eq_true rfl) (Nat.le_of_ble_eq_true rfl) ?_
  exact W.aret (v := .ref q) hx hb hr (Or.inr ⟨_, rfl⟩) (Or.inr ⟨_, rfl⟩) (fun t ht hW9 => ⟨⟨(some q), (u_3.1, u_3.2), rfl, ⟨q, τ2, pv2, rfl, h00, ht2, hp2, hl1, hq0, hq3, hqi, hI⟩, by rw [ht]; exact hP, va_K.moved hW9.alike hK, hD⟩, hS.F ht⟩) hS.2.2 dJx4a65c_grow_d5877_10
