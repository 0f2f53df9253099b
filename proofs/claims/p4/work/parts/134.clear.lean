set_option maxHeartbeats 4000000 in
set_option maxRecDepth 100000 in
theorem k_clearA (l : Launch) (dC : Nat → ClassId) (dI : Nat → Nat → Nat) (dA : Nat → ClassId) (ad sz : Nat) (τ : Nat → Nat → Nat) (pv0 : Nat → Nat → Value) (L : List Nat) (f : Nat → va_E) (hI : kI dA τ pv0 L f) (l9 a9 n9 : Nat) (hh_l : τ 0 l9 = 8) (ha : pv0 l9 1 = .ref a9) (hn : pv0 l9 2 = .int (nI n9)) (hta : τ 0 a9 = 10) (hla : n9 ≤ τ 3 a9) (hn9 : n9 ≤ 1024) : Met l yJx4a65c_clear_da8c8 wsJx4a65c_clear_da8c8 ({ frames := 0, cells := 0, slots := 0, locals := 0 } : Room) (va_Pc [.ref l9] (kB dC dI dA ad sz L f)) (va_Qv (fun u => ∃ pv2, kI dA τ pv2 u.1 u.2 ∧ pv2 l9 1 = .ref a9 ∧ pv2 l9 2 = .int 0 ∧ ∀ b k, b ≠ l9 → b ≠ a9 → pv2 b k = pv0 b k) (kR dC dI dA (va_A (va_pl L f) sz)) (va_A (va_pl L f) sz)) 0 0 (va_A (va_pl L f) sz) := by
  refine Met.ofW (cc := cJx4a65c_clear_da8c8) (maxL := 4) (ret := none) (by decide) rfl ?_
  intro p e s m args below meth c s₁ B hml hv
  obtain ⟨rfl, hsz, hP, hK, hD0, hE⟩ := hv
  have hx := B.exec
  have hb := B.bytes
  have hr := B.returns
  have hts := atoms_spec (ws := wsJx4a65c_clear_da8c8) B.pre
  have hown : s.vm.findClass RJx4a65c = some m.cls := findClass_of_methodNamed B.named
  have hlocks := B.notSynchronized
  have i_Jx4a65c : ∀ w ∈ u_ws RJx4a65c TJx4a65c 3, w ∈ wsJx4a65c_clear_da8c8 := by decide +kernel
  subst hsz
  have hD := hD0.self (sz := s.heap.size)
  generalize hAe : va_A (va_pl L f) s.heap.size = A at hD hE ⊢
  have hA : ∀ q : Nat, s.heap.size ≤ q → A q := fun q h => by rw [← hAe]; exact Or.inr h
  have hS : va_S A s.heap s.heap [] := va_S.rf
  have hP : va_P (dC, dI) vwCl (va_pl L f) s.heap := hP
  have hK : va_K (dC, dI) vwCl (tyA dA) s := hK
  have hl := lv_entry ([.ref l9]) (n := 4) (Nat.le_of_ble_eq_true rfl)
  rw [lg_entry_eq]
  generalize (lg_sl ([.ref l9]) ++ List.replicate (4 - (lg_sl ([.ref l9])).length) Slot.unset).toArray = ls at hl ⊢
  have hl : lv_has ls 4 [(0, .ref l9)] := hl
  have hla9 : l9 ≠ a9 := fun e8 => by rw [e8, hta] at hh_l; cases hh_l
  refine lv_aload_n hx hb dJx4a65c_clear_da8c8_0 rfl (lv_at hl 0 rfl) ?_
  refine lv_dup hx hb dJx4a65c_clear_da8c8_1 rfl ?_
  refine kp_get hx hb hts i_Jx4a65c hown hK hP hI hh_l rfl rfl 0 (by decide) (by decide) (hts (.fieldLink RJx4a65c 63 "java/util/ArrayList" "modCount" "I") (by decide +kernel)) (fun _ h9 => u_same (hts (.sameField "java/util/ArrayList" "java/util/AbstractList" "modCount" "I") (by decide +kernel)) _ h9) dJx4a65c_clear_da8c8_2 (kq_I fun x_1 => ?_)
  refine lv_iconst (v := 1) hx hb dJx4a65c_clear_da8c8_5 (by decide) ?_
  refine lv_iadd hx hb dJx4a65c_clear_da8c8_6 ?_
  refine lv_topi (fun x_3 ex_3 => ?_)
  refine kp_put (v := .int x_3) (ty := .int) hx hb hts i_Jx4a65c tyJx4a65c tyJx4a65c_ok nmJx4a65c hown hK hP hD hS hI hh_l rfl rfl 0 (by decide) (by decide) (hts (.fieldLink RJx4a65c 63 "java/util/ArrayList" "modCount" "I") (by decide +kernel)) (fun _ h9 => u_same (hts (.sameField "java/util/ArrayList" "java/util/AbstractList" "modCount" "I") (by decide +kernel)) _ h9) rfl (by decide +kernel) rfl rfl rfl (by decide) (kv_I _) dJx4a65c_clear_da8c8_7 (fun f H locs hI hP hD hS => ?_)
  refine lv_aload_n hx hb dJx4a65c_clear_da8c8_10 rfl (lv_at hl 0 rfl) ?_
  refine kp_get hx hb hts i_Jx4a65c hown hK hP hI hh_l rfl rfl 1 (by decide) (by decide) (hts (.fieldLink RJx4a65c 9 "java/util/ArrayList" "elementData" "[Ljava/lang/Object;") (by decide +kernel)) (fun _ h9 => h9) dJx4a65c_clear_da8c8_11 (kq_P (v0 := .ref a9) rfl ha fun h_5 => ?_)
  refine lv_astore_n (lv' := [(1, .ref a9), (0, .ref l9)]) hx hb dJx4a65c_clear_da8c8_14 rfl hl (by decide) rfl (fun ls hl => ?_)
  refine lv_aload_n hx hb dJx4a65c_clear_da8c8_15 rfl (lv_at hl 1 rfl) ?_
  refine kp_get hx hb hts i_Jx4a65c hown hK hP hI hh_l rfl rfl 2 (by decide) (by decide) (hts (.fieldLink RJx4a65c 48 "java/util/ArrayList" "size" "I") (by decide +kernel)) (fun _ h9 => h9) dJx4a65c_clear_da8c8_16 (kq_P (v0 := .int (nI n9)) rfl hn fun h_7 => ?_)
  refine lv_istore_n (lv' := [(2, .int (nI n9)), (1, .ref a9), (0, .ref l9)]) hx hb dJx4a65c_clear_da8c8_19 rfl hl (by decide) rfl (fun ls hl => ?_)
  refine lv_aload_n hx hb dJx4a65c_clear_da8c8_20 rfl (lv_at hl 2 rfl) ?_
  refine lv_iconst (v := 0) hx hb dJx4a65c_clear_da8c8_21 (by decide) ?_
  refine lv_dup_x1 hx hb dJx4a65c_clear_da8c8_22 rfl rfl ?_
  refine kp_putP (v := .int 0) (ty := .int) hx hb hts i_Jx4a65c tyJx4a65c tyJx4a65c_ok nmJx4a65c hown hK hP hD hS hI hh_l rfl rfl 2 (by decide) (by decide) (hts (.fieldLink RJx4a65c 48 "java/util/ArrayList" "size" "I") (by decide +kernel)) (fun _ h9 => h9) rfl (by decide +kernel) rfl rfl rfl (kv_S (by decide) ⟨0, rfl, by omega⟩) dJx4a65c_clear_da8c8_23 (fun f H locs hI hP hD hS => ?_)
  refine lv_istore_n (lv' := [(3, .int 0), (2, .int (nI n9)), (1, .ref a9), (0, .ref l9)]) hx hb dJx4a65c_clear_da8c8_26 rfl hl (by decide) rfl (fun ls hl => ?_)
  have hl : lv_has ls 4 [(0, .ref l9), (1, .ref a9), (2, .int (nI n9)), (3, .int 0)] := lv_sub hl [3, 2, 1, 0] rfl
  refine kl_loop (Inv := fun n27 pv L f H locs ls => ∃ (i : Nat), n9 - i < n27 ∧ kI dA τ pv L f ∧ va_P (dC, dI) vwCl (va_pl L f) H ∧ va_D A (va_pl L f) ∧ va_S A s.heap H locs ∧ lv_has ls 4 [(0, .ref l9), (1, .ref a9), (2, .int (nI n9)), (3, .int (nI i))] ∧ i ≤ n9 ∧ pv l9 1 = .ref a9 ∧ pv l9 2 = .int 0 ∧ (∀ b k, b ≠ l9 → b ≠ a9 → pv b k = pv0 b k)) (fun _ _ _ _ _ _ h9 => by obtain ⟨_, hn, _⟩ := h9; exact Nat.not_lt_zero _ hn) (fun n27 ih27 pv L f H locs ls h9 => ?_) (n9 - 0 + 1) ((kup pv0 l9 2 (.int 0))) _ _ _ _ _ ⟨0, Nat.lt_succ_self _, hI, hP, hD, hS, hl, Nat.zero_le _, (kup_ne (Or.inr (by decide))).trans ha, kup_self, fun b k h1 h2 => kup_ne (Or.inl h1)⟩
  obtain ⟨i, hn27, hI, hP, hD, hS, hl, hib, hl1, hl2, hF9⟩ := h9
  refine lv_iload_n hx hb dJx4a65c_clear_da8c8_27 rfl (lv_at hl 3 rfl) ?_
  refine lv_iload_n hx hb dJx4a65c_clear_da8c8_28 rfl (lv_at hl 2 rfl) ?_
  refine lv_icmp_ge (tgt := 42) hx hb dJx4a65c_clear_da8c8_29 (by decide) (fun c_8 => ?_) (fun c_8 => ?_)
  · have n_9 : n9 ≤ i := (nI_leI (by omega) (by omega)).mp (show nI n9 ≤ nI i from c_8)
    refine W.widen (k := 0) (n := 0) (Nat.le_of_ble_eq_true rfl) (Nat.le_of_ble_eq_true rfl) ?_
    exact W.vret hx hb hr (fun t ht hW9 => ⟨⟨(L, f), rfl, ⟨pv, hI, hl1, hl2, hF9⟩, by rw [ht]; exact hP, va_K.moved hW9.alike hK, hD⟩, hS.F ht⟩) hS.2.2 dJx4a65c_clear_da8c8_42
  · have n_10 : ¬ n9 ≤ i := fun h9 => (show ¬ nI n9 ≤ nI i from c_8) ((nI_leI (by omega) (by omega)).mpr h9)
    refine lv_aload_n hx hb dJx4a65c_clear_da8c8_32 rfl (lv_at hl 1 rfl) ?_
    refine lv_iload_n hx hb dJx4a65c_clear_da8c8_33 rfl (lv_at hl 3 rfl) ?_
    refine lv_null hx hb dJx4a65c_clear_da8c8_34 ?_
    have hj_11 : i < τ 3 a9 := by omega
    refine W.eq (g2 := F0 m 35 ls (.null :: .int (nI (i)) :: .ref a9 :: [])) rfl ?_
    refine kp_qastN5X (x := ()) (pv' := (kup pv a9 (i) (va_rf none))) (j := i) hx hb hK hP hD hS hI hta rfl hj_11 (fun _ _ h9 => kup_ne h9) (show kPr _ 9 _ _ from kv_S (by decide) ⟨_, rfl⟩) ((kPn_pin rfl).mpr kup_self.symm) dJx4a65c_clear_da8c8_35 (fun f H locs hI hP hD hS => ?_)
    refine lv_iinc (v := nI (i + 1)) (lv' := [(3, .int (nI (i + 1))), (0, .ref l9), (1, .ref a9), (2, .int (nI n9))]) hx hb dJx4a65c_clear_da8c8_36 hl (k := 3) rfl (nI_add i 1) (by decide) rfl (fun ls hl => ?_)
    refine lv_goto (tgt := 27) hx hb dJx4a65c_clear_da8c8_39 (by decide) ?_
    have hl : lv_has ls 4 [(0, .ref l9), (1, .ref a9), (2, .int (nI n9)), (3, .int (nI (i + 1)))] := lv_sub hl [1, 2, 3, 0] rfl
    exact ih27 ((kup pv a9 (i) (va_rf none))) _ _ _ _ _ ⟨(i + 1), by omega, hI, hP, hD, hS, hl, by omega, (kup_ne (Or.inl hla9)).trans hl1, (kup_ne (Or.inl hla9)).trans hl2, fun b k h1 h2 => (kup_ne (Or.inl h2)).trans (hF9 b k h1 h2)⟩
set_option maxHeartbeats 4000000 in
set_option maxRecDepth 100000 in
theorem k_clearF (l : Launch) (dC : Nat → ClassId) (dI : Nat → Nat → Nat) (dA : Nat → ClassId) (ad sz : Nat) (τ : Nat → Nat → Nat) (pv0 : Nat → Nat → Value) (L : List Nat) (f : Nat → va_E) (hI : kI dA τ pv0 L f) (l9 : Nat) (hh_l : τ 0 l9 = 8) (ha : pv0 l9 1 = .ref ad) (hn : pv0 l9 2 = .int 0) : Met l yJx4a65c_clear_da8c8 wsJx4a65c_clear_da8c8 ({ frames := 0, cells := 0, slots := 0, locals := 0 } : Room) (va_Pc [.ref l9] (kB dC dI dA ad sz L f)) (va_Qv (fun u => ∃ pv2, kI dA τ pv2 u.1 u.2 ∧ pv2 l9 1 = .ref ad ∧ pv2 l9 2 = .int 0 ∧ ∀ b k, b ≠ l9 → b ≠ ad → pv2 b k = pv0 b k) (kR dC dI dA (va_A (va_pl L f) sz)) (va_A (va_pl L f) sz)) 0 0 (va_A (va_pl L f) sz) := by
  refine Met.ofW (cc := cJx4a65c_clear_da8c8) (maxL := 4) (ret := none) (by decide) rfl ?_
  intro p e s m args below meth c s₁ B hml hv
  obtain ⟨rfl, hsz, hP, hK, hD0, hE⟩ := hv
  have hx := B.exec
  have hb := B.bytes
  have hr := B.returns
  have hts := atoms_spec (ws := wsJx4a65c_clear_da8c8) B.pre
  have hown : s.vm.findClass RJx4a65c = some m.cls := findClass_of_methodNamed B.named
  have hlocks := B.notSynchronized
  have i_Jx4a65c : ∀ w ∈ u_ws RJx4a65c TJx4a65c 3, w ∈ wsJx4a65c_clear_da8c8 := by decide +kernel
  subst hsz
  have hD := hD0.self (sz := s.heap.size)
  generalize hAe : va_A (va_pl L f) s.heap.size = A at hD hE ⊢
  have hA : ∀ q : Nat, s.heap.size ≤ q → A q := fun q h => by rw [← hAe]; exact Or.inr h
  have hS : va_S A s.heap s.heap [] := va_S.rf
  have hP : va_P (dC, dI) vwCl (va_pl L f) s.heap := hP
  have hK : va_K (dC, dI) vwCl (tyA dA) s := hK
  have hl := lv_entry ([.ref l9]) (n := 4) (Nat.le_of_ble_eq_true rfl)
  rw [lg_entry_eq]
  generalize (lg_sl ([.ref l9]) ++ List.replicate (4 - (lg_sl ([.ref l9])).length) Slot.unset).toArray = ls at hl ⊢
  have hl : lv_has ls 4 [(0, .ref l9)] := hl
  refine lv_aload_n hx hb dJx4a65c_clear_da8c8_0 rfl (lv_at hl 0 rfl) ?_
  refine lv_dup hx hb dJx4a65c_clear_da8c8_1 rfl ?_
  refine kp_get hx hb hts i_Jx4a65c hown hK hP hI hh_l rfl rfl 0 (by decide) (by decide) (hts (.fieldLink RJx4a65c 63 "java/util/ArrayList" "modCount" "I") (by decide +kernel)) (fun _ h9 => u_same (hts (.sameField "java/util/ArrayList" "java/util/AbstractList" "modCount" "I") (by decide +kernel)) _ h9) dJx4a65c_clear_da8c8_2 (kq_I fun x_1 => ?_)
  refine lv_iconst (v := 1) hx hb dJx4a65c_clear_da8c8_5 (by decide) ?_
  refine lv_iadd hx hb dJx4a65c_clear_da8c8_6 ?_
  refine lv_topi (fun x_3 ex_3 => ?_)
  refine kp_put (v := .int x_3) (ty := .int) hx hb hts i_Jx4a65c tyJx4a65c tyJx4a65c_ok nmJx4a65c hown hK hP hD hS hI hh_l rfl rfl 0 (by decide) (by decide) (hts (.fieldLink RJx4a65c 63 "java/util/ArrayList" "modCount" "I") (by decide +kernel)) (fun _ h9 => u_same (hts (.sameField "java/util/ArrayList" "java/util/AbstractList" "modCount" "I") (by decide +kernel)) _ h9) rfl (by decide +kernel) rfl rfl rfl (by decide) (kv_I _) dJx4a65c_clear_da8c8_7 (fun f H locs hI hP hD hS => ?_)
  refine lv_aload_n hx hb dJx4a65c_clear_da8c8_10 rfl (lv_at hl 0 rfl) ?_
  refine kp_get hx hb hts i_Jx4a65c hown hK hP hI hh_l rfl rfl 1 (by decide) (by decide) (hts (.fieldLink RJx4a65c 9 "java/util/ArrayList" "elementData" "[Ljava/lang/Object;") (by decide +kernel)) (fun _ h9 => h9) dJx4a65c_clear_da8c8_11 (kq_P (v0 := .ref ad) rfl ha fun h_5 => ?_)
  refine lv_astore_n (lv' := [(1, .ref ad), (0, .ref l9)]) hx hb dJx4a65c_clear_da8c8_14 rfl hl (by decide) rfl (fun ls hl => ?_)
  refine lv_aload_n hx hb dJx4a65c_clear_da8c8_15 rfl (lv_at hl 1 rfl) ?_
  refine kp_get hx hb hts i_Jx4a65c hown hK hP hI hh_l rfl rfl 2 (by decide) (by decide) (hts (.fieldLink RJx4a65c 48 "java/util/ArrayList" "size" "I") (by decide +kernel)) (fun _ h9 => h9) dJx4a65c_clear_da8c8_16 (kq_P (v0 := .int 0) rfl hn fun h_7 => ?_)
  refine lv_istore_n (lv' := [(2, .int 0), (1, .ref ad), (0, .ref l9)]) hx hb dJx4a65c_clear_da8c8_19 rfl hl (by decide) rfl (fun ls hl => ?_)
  refine lv_aload_n hx hb dJx4a65c_clear_da8c8_20 rfl (lv_at hl 2 rfl) ?_
  refine lv_iconst (v := 0) hx hb dJx4a65c_clear_da8c8_21 (by decide) ?_
  refine lv_dup_x1 hx hb dJx4a65c_clear_da8c8_22 rfl rfl ?_
  refine kp_putP (v := .int 0) (ty := .int) hx hb hts i_Jx4a65c tyJx4a65c tyJx4a65c_ok nmJx4a65c hown hK hP hD hS hI hh_l rfl rfl 2 (by decide) (by decide) (hts (.fieldLink RJx4a65c 48 "java/util/ArrayList" "size" "I") (by decide +kernel)) (fun _ h9 => h9) rfl (by decide +kernel) rfl rfl rfl (kv_S (by decide) ⟨0, rfl, by omega⟩) dJx4a65c_clear_da8c8_23 (fun f H locs hI hP hD hS => ?_)
  refine lv_istore_n (lv' := [(3, .int 0), (2, .int 0), (1, .ref ad), (0, .ref l9)]) hx hb dJx4a65c_clear_da8c8_26 rfl hl (by decide) rfl (fun ls hl => ?_)
  refine lv_iload_n hx hb dJx4a65c_clear_da8c8_27 rfl (lv_at hl 0 rfl) ?_
  refine lv_iload_n hx hb dJx4a65c_clear_da8c8_28 rfl (lv_at hl 1 rfl) ?_
  refine lv_icmp_ge (tgt := 42) hx hb dJx4a65c_clear_da8c8_29 (by decide) (fun _ => ?_) (fun h9 => by first | exact absurd h9 (by decide) | exact absurd (by decide) h9)
  refine W.widen (k := 0) (n := 0) (Nat.le_of_ble_eq_true rfl) (Nat.le_of_ble_eq_true rfl) ?_
  exact W.vret hx hb hr (fun t ht hW9 => ⟨⟨(L, f), rfl, ⟨_, hI, (kup_ne (Or.inr (by decide))).trans ha, kup_self, fun b k h1 h2 => kup_ne (Or.inl h1)⟩, by rw [ht]; exact hP, va_K.moved hW9.alike hK, hD⟩, hS.F ht⟩) hS.2.2 dJx4a65c_clear_da8c8_42
