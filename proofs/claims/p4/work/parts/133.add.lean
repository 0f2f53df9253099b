set_option maxHeartbeats 4000000 in
set_option maxRecDepth 100000 in
theorem k_add3A7 (l : Launch) (dC : Nat → ClassId) (dI : Nat → Nat → Nat) (dA : Nat → ClassId) (ad sz : Nat) (τ : Nat → Nat → Nat) (pv : Nat → Nat → Value) (L : List Nat) (f : Nat → va_E) (hI : kI dA τ pv L f) (l9 e9 a9 n9 : Nat) (hh_l : τ 0 l9 = 7) (hh_e : τ 0 e9 = 1) (ha : pv l9 1 = .ref a9) (hn : pv l9 2 = .int (nI n9)) (hta : τ 0 a9 = 9) (hla : n9 ≤ τ 3 a9) (hn9 : n9 < 1024) (hel : ∀ i, i < n9 → ∃ q, pv a9 i = .ref q ∧ τ 0 q = 1) : Met l yJx4a65c_add_72be8 wsJx4a65c_add_72be8 ({ frames := 5, cells := 1, slots := 1600, locals := 122 } : Room) (va_Pc [.ref l9, .ref e9, .ref a9, .int (nI n9)] (kB dC dI dA ad sz L f)) (va_Qv (fun u => ∃ a2 τ2 pv2, (∀ b, τ 0 b ≠ 0 → ∀ j, τ2 j b = τ j b) ∧ (a2 = a9 ∨ τ 0 a2 = 0) ∧ (∀ b k, τ 0 b ≠ 0 → b ≠ l9 → b ≠ a9 → pv2 b k = pv b k) ∧ pv2 l9 1 = .ref a2 ∧ pv2 l9 2 = .int (nI (n9 + 1)) ∧ τ2 0 a2 = 9 ∧ n9 + 1 ≤ τ2 3 a2 ∧ (∀ i, i < n9 → pv2 a2 i = pv a9 i) ∧ pv2 a2 n9 = .ref e9 ∧ kI dA τ2 pv2 u.1 u.2) (kR dC dI dA (va_A (va_pl L f) sz)) (va_A (va_pl L f) sz)) 1 1600 (va_A (va_pl L f) sz) := by
  refine Met.ofW (cc := cJx4a65c_add_72be8) (maxL := 4) (ret := none) (by decide) rfl ?_
  intro p e s m args below meth c s₁ B hml hv
  obtain ⟨rfl, hsz, hP, hK, hD0, hE⟩ := hv
  have hx := B.exec
  have hb := B.bytes
  have hr := B.returns
  have hts := atoms_spec (ws := wsJx4a65c_add_72be8) B.pre
  have hown : s.vm.findClass RJx4a65c = some m.cls := findClass_of_methodNamed B.named
  have hlocks := B.notSynchronized
  have i_Jx4a65c : ∀ w ∈ u_ws RJx4a65c TJx4a65c 3, w ∈ wsJx4a65c_add_72be8 := by decide +kernel
  subst hsz
  have hD := hD0.self (sz := s.heap.size)
  generalize hAe : va_A (va_pl L f) s.heap.size = A at hD hE ⊢
  have hA : ∀ q : Nat, s.heap.size ≤ q → A q := fun q h => by rw [← hAe]; exact Or.inr h
  have hS : va_S A s.heap s.heap [] := va_S.rf
  have hP : va_P (dC, dI) vwCl (va_pl L f) s.heap := hP
  have hK : va_K (dC, dI) vwCl (tyA dA) s := hK
  have hl := lv_entry ([.ref l9, .ref e9, .ref a9, .int (nI n9)]) (n := 4) (Nat.le_of_ble_eq_true rfl)
  rw [lg_entry_eq]
  generalize (lg_sl ([.ref l9, .ref e9, .ref a9, .int (nI n9)]) ++ List.replicate (4 - (lg_sl ([.ref l9, .ref e9, .ref a9, .int (nI n9)])).length) Slot.unset).toArray = ls at hl ⊢
  have hl : lv_has ls 4 [(0, .ref l9), (1, .ref e9), (2, .ref a9), (3, .int (nI n9))] := hl
  have hla9 : l9 ≠ a9 := fun e8 => by rw [e8, hta] at hh_l; cases hh_l
  have h31 : τ 3 a9 < 2 ^ 31 := (hI.arr hta rfl).2.2
  refine lv_iload_n hx hb dJx4a65c_add_72be8_0 rfl (lv_at hl 3 rfl) ?_
  refine lv_aload_n hx hb dJx4a65c_add_72be8_1 rfl (lv_at hl 2 rfl) ?_
  refine kp_alen5 hx hb hK hP hI hta rfl dJx4a65c_add_72be8_2 ?_
  refine lv_icmp_ne (tgt := 11) hx hb dJx4a65c_add_72be8_3 (by decide) (fun c_1 => ?_) (fun c_1 => ?_)
  · have n_2 : ¬ n9 = (τ 3 a9) := fun h9 => (show ¬ nI n9 = nI (τ 3 a9) from c_1) ((nI_eq (by omega) (by omega)).mpr h9)
    refine lv_aload_n hx hb dJx4a65c_add_72be8_11 rfl (lv_at hl 2 rfl) ?_
    refine lv_iload_n hx hb dJx4a65c_add_72be8_12 rfl (lv_at hl 3 rfl) ?_
    refine lv_aload_n hx hb dJx4a65c_add_72be8_13 rfl (lv_at hl 1 rfl) ?_
    have hj_3 : n9 < τ 3 a9 := by omega
    refine W.eq (g2 := F0 m 14 ls (.ref e9 :: .int (nI (n9)) :: .ref a9 :: [])) rfl ?_
    refine kp_qast5X (pv' := (kup pv a9 (n9) (.ref e9))) (j := n9) hx hb hK hP hD hS hI hta rfl hj_3 (kd_any hK hP hI hh_e rfl rfl (hE.asg "IslandSolver$Body" "java/lang/Object" (by decide +kernel))) (fun _ _ h9 => kup_ne h9) (show kPr _ 9 _ _ from kv_S (by decide) ⟨_, rfl⟩) ((kPn_pin rfl).mpr kup_self.symm) dJx4a65c_add_72be8_14 (fun f H locs hI hP hD hS => ?_)
    refine lv_aload_n hx hb dJx4a65c_add_72be8_15 rfl (lv_at hl 0 rfl) ?_
    refine lv_iload_n hx hb dJx4a65c_add_72be8_16 rfl (lv_at hl 3 rfl) ?_
    refine lv_iconst (v := 1) hx hb dJx4a65c_add_72be8_17 (by decide) ?_
    refine lv_iadd hx hb dJx4a65c_add_72be8_18 ?_
    refine lv_topi (nm_r (show (nI n9) + 1 = nI (n9 + 1) from nI_add n9 1) ?_)
    refine kp_putP (v := .int (nI (n9 + 1))) (ty := .int) hx hb hts i_Jx4a65c tyJx4a65c tyJx4a65c_ok nmJx4a65c hown hK hP hD hS hI hh_l rfl rfl 2 (by decide) (by decide) (hts (.fieldLink RJx4a65c 48 "java/util/ArrayList" "size" "I") (by decide +kernel)) (fun _ h9 => h9) rfl (by decide +kernel) rfl rfl rfl (kv_S (by decide) ⟨n9 + 1, rfl, by omega⟩) dJx4a65c_add_72be8_19 (fun f H locs hI hP hD hS => ?_)
    refine W.widen (k := 1) (n := 1600) (Nat.le_of_ble_eq_true rfl) (Nat.le_of_ble_eq_true rfl) ?_
    exact W.vret hx hb hr (fun t ht hW9 => ⟨⟨(L, f), rfl, ⟨a9, τ, _, fun b hb j => rfl, Or.inl rfl, fun b k hb hb1 hb2 => (kup_ne (Or.inl hb1)).trans (kup_ne (Or.inl hb2)), (kup_ne (Or.inr (by decide))).trans ((kup_ne (Or.inl hla9)).trans ha), kup_self, hta, by omega, fun i hi => (kup_ne (Or.inl hla9.symm)).trans (kup_ne (Or.inr (by omega))), (kup_ne (Or.inl hla9.symm)).trans kup_self, hI⟩, by rw [ht]; exact hP, va_K.moved hW9.alike hK, hD⟩, hS.F ht⟩) hS.2.2 dJx4a65c_add_72be8_22
  · have n_4 : n9 = (τ 3 a9) := (nI_eq (by omega) (by omega)).mp (show nI n9 = nI (τ 3 a9) from c_1)
    have hfl : τ 3 a9 = n9 := by omega
    have hel : ∀ i, i < τ 3 a9 → ∃ q, pv a9 i = .ref q ∧ τ 0 q = 1 := fun i hi => hel i (by omega)
    refine lv_aload_n hx hb dJx4a65c_add_72be8_6 rfl (lv_at hl 0 rfl) ?_
    refine kd_callq (va_runV (As := []) (rest := []) ⟨hx, hb, hml, hown, hts⟩ (k_grow0A7 l dC dI dA ad _ τ pv _ _ hI l9 a9 n9 hh_l ha hta hfl (by omega) hel hn) (cwV 0 hts gJx4a65c_add_72be8_Jx4a65c_grow_d5877 rfl rfl rfl (by decide +kernel) ⟨Nat.le_of_ble_eq_true rfl, Nat.le_of_ble_eq_true rfl⟩) (kd_preV hP hD hK hS hA hE hI hh_l rfl rfl) rfl rfl hl.1 rfl (lv_room (Nat.le_of_ble_eq_true rfl)) dJx4a65c_add_72be8_7 ⟨Nat.le_of_ble_eq_true rfl, Nat.le_of_ble_eq_true rfl⟩) hD hS hA (fun r_6 u_5 H locs hw hP hD hS => ?_)
    obtain ⟨q, τ2, pv2, rfl, h00, ht2, hp2, hl1, hq0, hq3, hqi, hI⟩ := hw
    refine W.eq (g2 := F0 m 10 ls [.ref q]) rfl ?_
    have hnl : l9 ≠ q := fun e9 => by rw [e9, h00] at hh_l; cases hh_l
    have hne : e9 ≠ q := fun e8 => by rw [e8, h00] at hh_e; cases hh_e
    have hh_l := (ht2 l9 hnl 0).trans hh_l
    have hh_e := (ht2 e9 hne 0).trans hh_e
    refine lv_astore_n (lv' := [(2, .ref q), (0, .ref l9), (1, .ref e9), (3, .int (nI n9))]) hx hb dJx4a65c_add_72be8_10 rfl hl (by decide) rfl (fun ls hl => ?_)
    refine lv_aload_n hx hb dJx4a65c_add_72be8_11 rfl (lv_at hl 0 rfl) ?_
    refine lv_iload_n hx hb dJx4a65c_add_72be8_12 rfl (lv_at hl 3 rfl) ?_
    refine lv_aload_n hx hb dJx4a65c_add_72be8_13 rfl (lv_at hl 2 rfl) ?_
    have hj_7 : n9 < τ2 3 q := by omega
    refine W.eq (g2 := F0 m 14 ls (.ref e9 :: .int (nI (n9)) :: .ref q :: [])) rfl ?_
    refine kp_qast5X (pv' := (kup pv2 q (n9) (.ref e9))) (j := n9) hx hb hK hP hD hS hI hq0 rfl hj_7 (kd_any hK hP hI hh_e rfl rfl (hE.asg "IslandSolver$Body" "java/lang/Object" (by decide +kernel))) (fun _ _ h9 => kup_ne h9) (show kPr _ 9 _ _ from kv_S (by decide) ⟨_, rfl⟩) ((kPn_pin rfl).mpr kup_self.symm) dJx4a65c_add_72be8_14 (fun f H locs hI hP hD hS => ?_)
    refine lv_aload_n hx hb dJx4a65c_add_72be8_15 rfl (lv_at hl 1 rfl) ?_
    refine lv_iload_n hx hb dJx4a65c_add_72be8_16 rfl (lv_at hl 3 rfl) ?_
    refine lv_iconst (v := 1) hx hb dJx4a65c_add_72be8_17 (by decide) ?_
    refine lv_iadd hx hb dJx4a65c_add_72be8_18 ?_
    refine lv_topi (nm_r (show (nI n9) + 1 = nI (n9 + 1) from nI_add n9 1) ?_)
    refine kp_putP (v := .int (nI (n9 + 1))) (ty := .int) hx hb hts i_Jx4a65c tyJx4a65c tyJx4a65c_ok nmJx4a65c hown hK hP hD hS hI hh_l rfl rfl 2 (by decide) (by decide) (hts (.fieldLink RJx4a65c 48 "java/util/ArrayList" "size" "I") (by decide +kernel)) (fun _ h9 => h9) rfl (by decide +kernel) rfl rfl rfl (kv_S (by decide) ⟨n9 + 1, rfl, by omega⟩) dJx4a65c_add_72be8_19 (fun f H locs hI hP hD hS => ?_)
    refine W.widen (k := 1) (n := 1600) (Nat.le_of_ble_eq_true rfl) (Nat.le_of_ble_eq_true rfl) ?_
    exact W.vret hx hb hr (fun t ht hW9 => ⟨⟨(u_5.1, f), rfl, ⟨q, τ2, _, fun b hb => ht2 b (knz hb h00), Or.inr h00, fun b k hb hb1 hb2 => (kup_ne (Or.inl hb1)).trans ((kup_ne (Or.inl (knz hb h00))).trans (hp2 b k (knz hb h00) (Or.inl hb1))), (kup_ne (Or.inr (by decide))).trans ((kup_ne (Or.inl hnl)).trans hl1), kup_self, hq0, by omega, fun i hi => (kup_ne (Or.inl hnl.symm)).trans ((kup_ne (Or.inr (by omega))).trans (hqi i hi)), (kup_ne (Or.inl hnl.symm)).trans kup_self, hI⟩, by rw [ht]; exact hP, va_K.moved hW9.alike hK, hD⟩, hS.F ht⟩) hS.2.2 dJx4a65c_add_72be8_22
set_option maxHeartbeats 4000000 in
set_option maxRecDepth 100000 in
theorem k_add3A8 (l : Launch) (dC : Nat → ClassId) (dI : Nat → Nat → Nat) (dA : Nat → ClassId) (ad sz : Nat) (τ : Nat → Nat → Nat) (pv : Nat → Nat → Value) (L : List Nat) (f : Nat → va_E) (hI : kI dA τ pv L f) (l9 e9 a9 n9 : Nat) (hh_l : τ 0 l9 = 8) (hh_e : τ 0 e9 = 2) (ha : pv l9 1 = .ref a9) (hn : pv l9 2 = .int (nI n9)) (hta : τ 0 a9 = 10) (hla : n9 ≤ τ 3 a9) (hn9 : n9 < 1024) (hel : ∀ i, i < n9 → ∃ q, pv a9 i = .ref q ∧ τ 0 q = 2) : Met l yJx4a65c_add_72be8 wsJx4a65c_add_72be8 ({ frames := 5, cells := 1, slots := 1600, locals := 122 } : Room) (va_Pc [.ref l9, .ref e9, .ref a9, .int (nI n9)] (kB dC dI dA ad sz L f)) (va_Qv (fun u => ∃ a2 τ2 pv2, (∀ b, τ 0 b ≠ 0 → ∀ j, τ2 j b = τ j b) ∧ (a2 = a9 ∨ τ 0 a2 = 0) ∧ (∀ b k, τ 0 b ≠ 0 → b ≠ l9 → b ≠ a9 → pv2 b k = pv b k) ∧ pv2 l9 1 = .ref a2 ∧ pv2 l9 2 = .int (nI (n9 + 1)) ∧ τ2 0 a2 = 10 ∧ n9 + 1 ≤ τ2 3 a2 ∧ (∀ i, i < n9 → pv2 a2 i = pv a9 i) ∧ pv2 a2 n9 = .ref e9 ∧ kI dA τ2 pv2 u.1 u.2) (kR dC dI dA (va_A (va_pl L f) sz)) (va_A (va_pl L f) sz)) 1 1600 (va_A (va_pl L f) sz) := by
  refine Met.ofW (cc := cJx4a65c_add_72be8) (maxL := 4) (ret := none) (by decide) rfl ?_
  intro p e s m args below meth c s₁ B hml hv
  obtain ⟨rfl, hsz, hP, hK, hD0, hE⟩ := hv
  have hx := B.exec
  have hb := B.bytes
  have hr := B.returns
  have hts := atoms_spec (ws := wsJx4a65c_add_72be8) B.pre
  have hown : s.vm.findClass RJx4a65c = some m.cls := findClass_of_methodNamed B.named
  have hlocks := B.notSynchronized
  have i_Jx4a65c : ∀ w ∈ u_ws RJx4a65c TJx4a65c 3, w ∈ wsJx4a65c_add_72be8 := by decide +kernel
  subst hsz
  have hD := hD0.self (sz := s.heap.size)
  generalize hAe : va_A (va_pl L f) s.heap.size = A at hD hE ⊢
  have hA : ∀ q : Nat, s.heap.size ≤ q → A q := fun q h => by rw [← hAe]; exact Or.inr h
  have hS : va_S A s.heap s.heap [] := va_S.rf
  have hP : va_P (dC, dI) vwCl (va_pl L f) s.heap := hP
  have hK : va_K (dC, dI) vwCl (tyA dA) s := hK
  have hl := lv_entry ([.ref l9, .ref e9, .ref a9, .int (nI n9)]) (n := 4) (Nat.le_of_ble_eq_true rfl)
  rw [lg_entry_eq]
  generalize (lg_sl ([.ref l9, .ref e9, .ref a9, .int (nI n9)]) ++ List.replicate (4 - (lg_sl ([.ref l9, .ref e9, .ref a9, .int (nI n9)])).length) Slot.unset).toArray = ls at hl ⊢
  have hl : lv_has ls 4 [(0, .ref l9), (1, .ref e9), (2, .ref a9), (3, .int (nI n9))] := hl
  have hla9 : l9 ≠ a9 := fun e8 => by rw [e8, hta] at hh_l; cases hh_l
  have h31 : τ 3 a9 < 2 ^ 31 := (hI.arr hta rfl).2.2
  refine lv_iload_n hx hb dJx4a65c_add_72be8_0 rfl (lv_at hl 3 rfl) ?_
  refine lv_aload_n hx hb dJx4a65c_add_72be8_1 rfl (lv_at hl 2 rfl) ?_
  refine kp_alen5 hx hb hK hP hI hta rfl dJx4a65c_add_72be8_2 ?_
  refine lv_icmp_ne (tgt := 11) hx hb dJx4a65c_add_72be8_3 (by decide) (fun c_1 => ?_) (fun c_1 => ?_)
  · have n_2 : ¬ n9 = (τ 3 a9) := fun h9 => (show ¬ nI n9 = nI (τ 3 a9) from c_1) ((nI_eq (by omega) (by omega)).mpr h9)
    refine lv_aload_n hx hb dJx4a65c_add_72be8_11 rfl (lv_at hl 2 rfl) ?_
    refine lv_iload_n hx hb dJx4a65c_add_72be8_12 rfl (lv_at hl 3 rfl) ?_
    refine lv_aload_n hx hb dJx4a65c_add_72be8_13 rfl (lv_at hl 1 rfl) ?_
    have hj_3 : n9 < τ 3 a9 := by omega
    refine W.eq (g2 := F0 m 14 ls (.ref e9 :: .int (nI (n9)) :: .ref a9 :: [])) rfl ?_
    refine kp_qast5X (pv' := (kup pv a9 (n9) (.ref e9))) (j := n9) hx hb hK hP hD hS hI hta rfl hj_3 (kd_any hK hP hI hh_e rfl rfl (hE.asg "IslandSolver$Row" "java/lang/Object" (by decide +kernel))) (fun _ _ h9 => kup_ne h9) (show kPr _ 9 _ _ from kv_S (by decide) ⟨_, rfl⟩) ((kPn_pin rfl).mpr kup_self.symm) dJx4a65c_add_72be8_14 (fun f H locs hI hP hD hS => ?_)
    refine lv_aload_n hx hb dJx4a65c_add_72be8_15 rfl (lv_at hl 0 rfl) ?_
    refine lv_iload_n hx hb dJx4a65c_add_72be8_16 rfl (lv_at hl 3 rfl) ?_
    refine lv_iconst (v := 1) hx hb dJx4a65c_add_72be8_17 (by decide) ?_
    refine lv_iadd hx hb dJx4a65c_add_72be8_18 ?_
    refine lv_topi (nm_r (show (nI n9) + 1 = nI (n9 + 1) from nI_add n9 1) ?_)
    refine kp_putP (v := .int (nI (n9 + 1))) (ty := .int) hx hb hts i_Jx4a65c tyJx4a65c tyJx4a65c_ok nmJx4a65c hown hK hP hD hS hI hh_l rfl rfl 2 (by decide) (by decide) (hts (.fieldLink RJx4a65c 48 "java/util/ArrayList" "size" "I") (by decide +kernel)) (fun _ h9 => h9) rfl (by decide +kernel) rfl rfl rfl (kv_S (by decide) ⟨n9 + 1, rfl, by omega⟩) dJx4a65c_add_72be8_19 (fun f H locs hI hP hD hS => ?_)
    refine W.widen (k := 1) (n := 1600) (Nat.le_of_ble_eq_true rfl) (Nat.le_of_ble_eq_true rfl) ?_
    exact W.vret hx hb hr (fun t ht hW9 => ⟨⟨(L, f), rfl, ⟨a9, τ, _, fun b hb j => rfl, Or.inl rfl, fun b k hb hb1 hb2 => (kup_ne (Or.inl hb1)).trans (kup_ne (Or.inl hb2)), (kup_ne (Or.inr (by decide))).trans ((kup_ne (Or.inl hla9)).trans ha), kup_self, hta, by omega, fun i hi => (kup_ne (Or.inl hla9.symm)).trans (kup_ne (Or.inr (by omega))), (kup_ne (Or.inl hla9.symm)).trans kup_self, hI⟩, by rw [ht]; exact hP, va_K.moved hW9.alike hK, hD⟩, hS.F ht⟩) hS.2.2 dJx4a65c_add_72be8_22
  · have n_4 : n9 = (τ 3 a9) := (nI_eq (by omega) (by omega)).mp (show nI n9 = nI (τ 3 a9) from c_1)
    have hfl : τ 3 a9 = n9 := by omega
    have hel : ∀ i, i < τ 3 a9 → ∃ q, pv a9 i = .ref q ∧ τ 0 q = 2 := fun i hi => hel i (by omega)
    refine lv_aload_n hx hb dJx4a65c_add_72be8_6 rfl (lv_at hl 0 rfl) ?_
    refine kd_callq (va_runV (As := []) (rest := []) ⟨hx, hb, hml, hown, hts⟩ (k_grow0A8 l dC dI dA ad _ τ pv _ _ hI l9 a9 n9 hh_l ha hta hfl (by omega) hel hn) (cwV 0 hts gJx4a65c_add_72be8_Jx4a65c_grow_d5877 rfl rfl rfl (by decide +kernel) ⟨Nat.le_of_ble_eq_true rfl, Nat.le_of_ble_eq_true rfl⟩) (kd_preV hP hD hK hS hA hE hI hh_l rfl rfl) rfl rfl hl.1 rfl (lv_room (Nat.le_of_ble_eq_true rfl)) dJx4a65c_add_72be8_7 ⟨Nat.le_of_ble_eq_true rfl, Nat.le_of_ble_eq_true rfl⟩) hD hS hA (fun r_6 u_5 H locs hw hP hD hS => ?_)
    obtain ⟨q, τ2, pv2, rfl, h00, ht2, hp2, hl1, hq0, hq3, hqi, hI⟩ := hw
    refine W.eq (g2 := F0 m 10 ls [.ref q]) rfl ?_
    have hnl : l9 ≠ q := fun e9 => by rw [e9, h00] at hh_l; cases hh_l
    have hne : e9 ≠ q := fun e8 => by rw [e8, h00] at hh_e; cases hh_e
    have hh_l := (ht2 l9 hnl 0).trans hh_l
    have hh_e := (ht2 e9 hne 0).trans hh_e
    refine lv_astore_n (lv' := [(2, .ref q), (0, .ref l9), (1, .ref e9), (3, .int (nI n9))]) hx hb dJx4a65c_add_72be8_10 rfl hl (by decide) rfl (fun ls hl => ?_)
    refine lv_aload_n hx hb dJx4a65c_add_72be8_11 rfl (lv_at hl 0 rfl) ?_
    refine lv_iload_n hx hb dJx4a65c_add_72be8_12 rfl (lv_at hl 3 rfl) ?_
    refine lv_aload_n hx hb dJx4a65c_add_72be8_13 rfl (lv_at hl 2 rfl) ?_
    have hj_7 : n9 < τ2 3 q := by omega
    refine W.eq (g2 := F0 m 14 ls (.ref e9 :: .int (nI (n9)) :: .ref q :: [])) rfl ?_
    refine kp_qast5X (pv' := (kup pv2 q (n9) (.ref e9))) (j := n9) hx hb hK hP hD hS hI hq0 rfl hj_7 (kd_any hK hP hI hh_e rfl rfl (hE.asg "IslandSolver$Row" "java/lang/Object" (by decide +kernel))) (fun _ _ h9 => kup_ne h9) (show kPr _ 9 _ _ from kv_S (by decide) ⟨_, rfl⟩) ((kPn_pin rfl).mpr kup_self.symm) dJx4a65c_add_72be8_14 (fun f H locs hI hP hD hS => ?_)
    refine lv_aload_n hx hb dJx4a65c_add_72be8_15 rfl (lv_at hl 1 rfl) ?_
    refine lv_iload_n hx hb dJx4a65c_add_72be8_16 rfl (lv_at hl 3 rfl) ?_
    refine lv_iconst (v := 1) hx hb dJx4a65c_add_72be8_17 (by decide) ?_
    refine lv_iadd hx hb dJx4a65c_add_72be8_18 ?_
    refine lv_topi (nm_r (show (nI n9) + 1 = nI (n9 + 1) from nI_add n9 1) ?_)
    refine kp_putP (v := .int (nI (n9 + 1))) (ty := .int) hx hb hts i_Jx4a65c tyJx4a65c tyJx4a65c_ok nmJx4a65c hown hK hP hD hS hI hh_l rfl rfl 2 (by decide) (by decide) (hts (.fieldLink RJx4a65c 48 "java/util/ArrayList" "size" "I") (by decide +kernel)) (fun _ h9 => h9) rfl (by decide +kernel) rfl rfl rfl (kv_S (by decide) ⟨n9 + 1, rfl, by omega⟩) dJx4a65c_add_72be8_19 (fun f H locs hI hP hD hS => ?_)
    refine W.widen (k := 1) (n := 1600) (Nat.le_of_ble_eq_true rfl) (Nat.le_of_ble_eq_true rfl) ?_
    exact W.vret hx hb hr (fun t ht hW9 => ⟨⟨(u_5.1, f), rfl, ⟨q, τ2, _, fun b hb => ht2 b (knz hb h00), Or.inr h00, fun b k hb hb1 hb2 => (kup_ne (Or.inl hb1)).trans ((kup_ne (Or.inl (knz hb h00))).trans (hp2 b k (knz hb h00) (Or.inl hb1))), (kup_ne (Or.inr (by decide))).trans ((kup_ne (Or.inl hnl)).trans hl1), kup_self, hq0, by omega, fun i hi => (kup_ne (Or.inl hnl.symm)).trans ((kup_ne (Or.inr (by omega))).trans (hqi i hi)), (kup_ne (Or.inl hnl.symm)).trans kup_self, hI⟩, by rw [ht]; exact hP, va_K.moved hW9.alike hK, hD⟩, hS.F ht⟩) hS.2.2 dJx4a65c_add_72be8_22
set_option maxHeartbeats 4000000 in
set_option maxRecDepth 100000 in
theorem k_add3F7 (l : Launch) (dC : Nat → ClassId) (dI : Nat → Nat → Nat) (dA : Nat → ClassId) (ad sz : Nat) (τ : Nat → Nat → Nat) (pv : Nat → Nat → Value) (L : List Nat) (f : Nat → va_E) (hI : kI dA τ pv L f) (l9 e9 : Nat) (hh_l : τ 0 l9 = 7) (hh_e : τ 0 e9 = 1) (ha : pv l9 1 = .ref ad) (hn : pv l9 2 = .int 0) : Met l yJx4a65c_add_72be8 wsJx4a65c_add_72be8 ({ frames := 3, cells := 1, slots := 1600, locals := 57 } : Room) (va_Pc [.ref l9, .ref e9, .ref ad, .int 0] (kB dC dI dA ad sz L f)) (va_Qv (fun u => ∃ a2 τ2 pv2, (∀ b, τ 0 b ≠ 0 → ∀ j, τ2 j b = τ j b) ∧ (a2 = ad ∨ τ 0 a2 = 0) ∧ (∀ b k, τ 0 b ≠ 0 → b ≠ l9 → b ≠ ad → pv2 b k = pv b k) ∧ pv2 l9 1 = .ref a2 ∧ pv2 l9 2 = .int (nI (0 + 1)) ∧ τ2 0 a2 = 9 ∧ 0 + 1 ≤ τ2 3 a2 ∧ (∀ i, i < 0 → pv2 a2 i = pv ad i) ∧ pv2 a2 0 = .ref e9 ∧ kI dA τ2 pv2 u.1 u.2) (kR dC dI dA (va_A (va_pl L f) sz)) (va_A (va_pl L f) sz)) 1 1600 (va_A (va_pl L f) sz) := by
  refine Met.ofW (cc := cJx4a65c_add_72be8) (maxL := 4) (ret := none) (by decide) rfl ?_
  intro p e s m args below meth c s₁ B hml hv
  obtain ⟨rfl, hsz, hP, hK, hD0, hE⟩ := hv
  have hx := B.exec
  have hb := B.bytes
  have hr := B.returns
  have hts := atoms_spec (ws := wsJx4a65c_add_72be8) B.pre
  have hown : s.vm.findClass RJx4a65c = some m.cls := findClass_of_methodNamed B.named
  have hlocks := B.notSynchronized
  have i_Jx4a65c : ∀ w ∈ u_ws RJx4a65c TJx4a65c 3, w ∈ wsJx4a65c_add_72be8 := by decide +kernel
  subst hsz
  have hD := hD0.self (sz := s.heap.size)
  generalize hAe : va_A (va_pl L f) s.heap.size = A at hD hE ⊢
  have hA : ∀ q : Nat, s.heap.size ≤ q → A q := fun q h => by rw [← hAe]; exact Or.inr h
  have hS : va_S A s.heap s.heap [] := va_S.rf
  have hP : va_P (dC, dI) vwCl (va_pl L f) s.heap := hP
  have hK : va_K (dC, dI) vwCl (tyA dA) s := hK
  have hl := lv_entry ([.ref l9, .ref e9, .ref ad, .int 0]) (n := 4) (Nat.le_of_ble_eq_true rfl)
  rw [lg_entry_eq]
  generalize (lg_sl ([.ref l9, .ref e9, .ref ad, .int 0]) ++ List.replicate (4 - (lg_sl ([.ref l9, .ref e9, .ref ad, .int 0])).length) Slot.unset).toArray = ls at hl ⊢
  have hl : lv_has ls 4 [(0, .ref l9), (1, .ref e9), (2, .ref ad), (3, .int 0)] := hl
  refine lv_iload_n hx hb dJx4a65c_add_72be8_0 rfl (lv_at hl 3 rfl) ?_
  refine lv_aload_n hx hb dJx4a65c_add_72be8_1 rfl (lv_at hl 2 rfl) ?_
  refine va_tlen (v := 0) hx hb hE.2.2.2.2.2.2.2.2.2.1 hS rfl dJx4a65c_add_72be8_2 ?_
  refine lv_icmp_ne (tgt := 11) hx hb dJx4a65c_add_72be8_3 (by decide) (fun h9 => by first | exact absurd h9 (by decide) | exact absurd (by decide) h9) (fun _ => ?_)
  refine lv_aload_n hx hb dJx4a65c_add_72be8_6 rfl (lv_at hl 0 rfl) ?_
  refine kd_callq (va_runV (As := []) (rest := []) ⟨hx, hb, hml, hown, hts⟩ (k_grow0F7 l dC dI dA ad _ τ pv _ _ hI l9 hh_l ha hn) (cwV 0 hts gJx4a65c_add_72be8_Jx4a65c_grow_d5877 rfl rfl rfl (by decide +kernel) ⟨Nat.le_of_ble_eq_true rfl, Nat.le_of_ble_eq_true rfl⟩) (kd_preV hP hD hK hS hA hE hI hh_l rfl rfl) rfl rfl hl.1 rfl (lv_room (Nat.le_of_ble_eq_true rfl)) dJx4a65c_add_72be8_7 ⟨Nat.le_of_ble_eq_true rfl, Nat.le_of_ble_eq_true rfl⟩) hD hS hA (fun r_2 u_1 H locs hw hP hD hS => ?_)
  obtain ⟨q, τ2, pv2, rfl, h00, ht2, hp2, hl1, hq0, hq3, hqi, hI⟩ := hw
  refine W.eq (g2 := F0 m 10 ls [.ref q]) rfl ?_
  have hnl : l9 ≠ q := fun e9 => by rw [e9, h00] at hh_l; cases hh_l
  have hne : e9 ≠ q := fun e8 => by rw [e8, h00] at hh_e; cases hh_e
  have hh_l := (ht2 l9 hnl 0).trans hh_l
  have hh_e := (ht2 e9 hne 0).trans hh_e
  refine lv_astore_n (lv' := [(2, .ref q), (0, .ref l9), (1, .ref e9), (3, .int 0)]) hx hb dJx4a65c_add_72be8_10 rfl hl (by decide) rfl (fun ls hl => ?_)
  refine lv_aload_n hx hb dJx4a65c_add_72be8_11 rfl (lv_at hl 0 rfl) ?_
  refine lv_iload_n hx hb dJx4a65c_add_72be8_12 rfl (lv_at hl 3 rfl) ?_
  refine lv_aload_n hx hb dJx4a65c_add_72be8_13 rfl (lv_at hl 2 rfl) ?_
  have hj_3 : 0 < τ2 3 q := by omega
  refine W.eq (g2 := F0 m 14 ls (.ref e9 :: .int (nI (0)) :: .ref q :: [])) rfl ?_
  refine kp_qast5X (pv' := (kup pv2 q (0) (.ref e9))) (j := 0) hx hb hK hP hD hS hI hq0 rfl hj_3 (kd_any hK hP hI hh_e rfl rfl (hE.asg "IslandSolver$Body" "java/lang/Object" (by decide +kernel))) (fun _ _ h9 => kup_ne h9) (show kPr _ 9 _ _ from kv_S (by decide) ⟨_, rfl⟩) ((kPn_pin rfl).mpr kup_self.symm) dJx4a65c_add_72be8_14 (fun f H locs hI hP hD hS => ?_)
  refine lv_aload_n hx hb dJx4a65c_add_72be8_15 rfl (lv_at hl 1 rfl) ?_
  refine lv_iload_n hx hb dJx4a65c_add_72be8_16 rfl (lv_at hl 3 rfl) ?_
  refine lv_iconst (v := 1) hx hb dJx4a65c_add_72be8_17 (by decide) ?_
  refine lv_iadd hx hb dJx4a65c_add_72be8_18 ?_
  refine lv_topi (nm_r (show (0 : Int32) + 1 = 1 by decide) ?_)
  refine kp_putP (v := .int 1) (ty := .int) hx hb hts i_Jx4a65c tyJx4a65c tyJx4a65c_ok nmJx4a65c hown hK hP hD hS hI hh_l rfl rfl 2 (by decide) (by decide) (hts (.fieldLink RJx4a65c 48 "java/util/ArrayList" "size" "I") (by decide +kernel)) (fun _ h9 => h9) rfl (by decide +kernel) rfl rfl rfl (kv_S (by decide) ⟨1, rfl, by omega⟩) dJx4a65c_add_72be8_19 (fun f H locs hI hP hD hS => ?_)
  refine W.widen (k := 1) (n := 1600) (Nat.le_of_ble_eq_true rfl) (Nat.le_of_ble_eq_true rfl) ?_
  exact W.vret hx hb hr (fun t ht hW9 => ⟨⟨(u_1.1, f), rfl, ⟨q, τ2, _, fun b hb => ht2 b (knz hb h00), Or.inr h00, fun b k hb hb1 hb2 => (kup_ne (Or.inl hb1)).trans ((kup_ne (Or.inl (knz hb h00))).trans (hp2 b k (knz hb h00) (Or.inl hb1))), (kup_ne (Or.inr (by decide))).trans ((kup_ne (Or.inl hnl)).trans hl1), kup_self, hq0, by omega, fun i hi => absurd hi (Nat.not_lt_zero i), (kup_ne (Or.inl hnl.symm)).trans kup_self, hI⟩, by rw [ht]; exact hP, va_K.moved hW9.alike hK, hD⟩, hS.F ht⟩) hS.2.2 dJx4a65c_add_72be8_22
set_option maxHeartbeats 4000000 in
set_option maxRecDepth 100000 in
theorem k_add3F8 (l : Launch) (dC : Nat → ClassId) (dI : Nat → Nat → Nat) (dA : Nat → ClassId) (ad sz : Nat) (τ : Nat → Nat → Nat) (pv : Nat → Nat → Value) (L : List Nat) (f : Nat → va_E) (hI : kI dA τ pv L f) (l9 e9 : Nat) (hh_l : τ 0 l9 = 8) (hh_e : τ 0 e9 = 2) (ha : pv l9 1 = .ref ad) (hn : pv l9 2 = .int 0) : Met l yJx4a65c_add_72be8 wsJx4a65c_add_72be8 ({ frames := 3, cells := 1, slots := 1600, locals := 57 } : Room) (va_Pc [.ref l9, .ref e9, .ref ad, .int 0] (kB dC dI dA ad sz L f)) (va_Qv (fun u => ∃ a2 τ2 pv2, (∀ b, τ 0 b ≠ 0 → ∀ j, τ2 j b = τ j b) ∧ (a2 = ad ∨ τ 0 a2 = 0) ∧ (∀ b k, τ 0 b ≠ 0 → b ≠ l9 → b ≠ ad → pv2 b k = pv b k) ∧ pv2 l9 1 = .ref a2 ∧ pv2 l9 2 = .int (nI (0 + 1)) ∧ τ2 0 a2 = 10 ∧ 0 + 1 ≤ τ2 3 a2 ∧ (∀ i, i < 0 → pv2 a2 i = pv ad i) ∧ pv2 a2 0 = .ref e9 ∧ kI dA τ2 pv2 u.1 u.2) (kR dC dI dA (va_A (va_pl L f) sz)) (va_A (va_pl L f) sz)) 1 1600 (va_A (va_pl L f) sz) := by
  refine Met.ofW (cc := cJx4a65c_add_72be8) (maxL := 4) (ret := none) (by decide) rfl ?_
  intro p e s m args below meth c s₁ B hml hv
  obtain ⟨rfl, hsz, hP, hK, hD0, hE⟩ := hv
  have hx := B.exec
  have hb := B.bytes
  have hr := B.returns
  have hts := atoms_spec (ws := wsJx4a65c_add_72be8) B.pre
  have hown : s.vm.findClass RJx4a65c = some m.cls := findClass_of_methodNamed B.named
  have hlocks := B.notSynchronized
  have i_Jx4a65c : ∀ w ∈ u_ws RJx4a65c TJx4a65c 3, w ∈ wsJx4a65c_add_72be8 := by decide +kernel
  subst hsz
  have hD := hD0.self (sz := s.heap.size)
  generalize hAe : va_A (va_pl L f) s.heap.size = A at hD hE ⊢
  have hA : ∀ q : Nat, s.heap.size ≤ q → A q := fun q h => by rw [← hAe]; exact Or.inr h
  have hS : va_S A s.heap s.heap [] := va_S.rf
  have hP : va_P (dC, dI) vwCl (va_pl L f) s.heap := hP
  have hK : va_K (dC, dI) vwCl (tyA dA) s := hK
  have hl := lv_entry ([.ref l9, .ref e9, .ref ad, .int 0]) (n := 4) (Nat.le_of_ble_eq_true rfl)
  rw [lg_entry_eq]
  generalize (lg_sl ([.ref l9, .ref e9, .ref ad, .int 0]) ++ List.replicate (4 - (lg_sl ([.ref l9, .ref e9, .ref ad, .int 0])).length) Slot.unset).toArray = ls at hl ⊢
  have hl : lv_has ls 4 [(0, .ref l9), (1, .ref e9), (2, .ref ad), (3, .int 0)] := hl
  refine lv_iload_n hx hb dJx4a65c_add_72be8_0 rfl (lv_at hl 3 rfl) ?_
  refine lv_aload_n hx hb dJx4a65c_add_72be8_1 rfl (lv_at hl 2 rfl) ?_
  refine va_tlen (v := 0) hx hb hE.2.2.2.2.2.2.2.2.2.1 hS rfl dJx4a65c_add_72be8_2 ?_
  refine lv_icmp_ne (tgt := 11) hx hb dJx4a65c_add_72be8_3 (by decide) (fun h9 => by first | exact absurd h9 (by decide) | exact absurd (by decide) h9) (fun _ => ?_)
  refine lv_aload_n hx hb dJx4a65c_add_72be8_6 rfl (lv_at hl 0 rfl) ?_
  refine kd_callq (va_runV (As := []) (rest := []) ⟨hx, hb, hml, hown, hts⟩ (k_grow0F8 l dC dI dA ad _ τ pv _ _ hI l9 hh_l ha hn) (cwV 0 hts gJx4a65c_add_72be8_Jx4a65c_grow_d5877 rfl rfl rfl (by decide +kernel) ⟨Nat.le_of_ble_eq_true rfl, Nat.le_of_ble_eq_true rfl⟩) (kd_preV hP hD hK hS hA hE hI hh_l rfl rfl) rfl rfl hl.1 rfl (lv_room (Nat.le_of_ble_eq_true rfl)) dJx4a65c_add_72be8_7 ⟨Nat.le_of_ble_eq_true rfl, Nat.le_of_ble_eq_true rfl⟩) hD hS hA (fun r_2 u_1 H locs hw hP hD hS => ?_)
  obtain ⟨q, τ2, pv2, rfl, h00, ht2, hp2, hl1, hq0, hq3, hqi, hI⟩ := hw
  refine W.eq (g2 := F0 m 10 ls [.ref q]) rfl ?_
  have hnl : l9 ≠ q := fun e9 => by rw [e9, h00] at hh_l; cases hh_l
  have hne : e9 ≠ q := fun e8 => by rw [e8, h00] at hh_e; cases hh_e
  have hh_l := (ht2 l9 hnl 0).trans hh_l
  have hh_e := (ht2 e9 hne 0).trans hh_e
  refine lv_astore_n (lv' := [(2, .ref q), (0, .ref l9), (1, .ref e9), (3, .int 0)]) hx hb dJx4a65c_add_72be8_10 rfl hl (by decide) rfl (fun ls hl => ?_)
  refine lv_aload_n hx hb dJx4a65c_add_72be8_11 rfl (lv_at hl 0 rfl) ?_
  refine lv_iload_n hx hb dJx4a65c_add_72be8_12 rfl (lv_at hl 3 rfl) ?_
  refine lv_aload_n hx hb dJx4a65c_add_72be8_13 rfl (lv_at hl 2 rfl) ?_
  have hj_3 : 0 < τ2 3 q := by omega
  refine W.eq (g2 := F0 m 14 ls (.ref e9 :: .int (nI (0)) :: .ref q :: [])) rfl ?_
  refine kp_qast5X (pv' := (kup pv2 q (0) (.ref e9))) (j := 0) hx hb hK hP hD hS hI hq0 rfl hj_3 (kd_any hK hP hI hh_e rfl rfl (hE.asg "IslandSolver$Row" "java/lang/Object" (by decide +kernel))) (fun _ _ h9 => kup_ne h9) (show kPr _ 9 _ _ from kv_S (by decide) ⟨_, rfl⟩) ((kPn_pin rfl).mpr kup_self.symm) dJx4a65c_add_72be8_14 (fun f H locs hI hP hD hS => ?_)
  refine lv_aload_n hx hb dJx4a65c_add_72be8_15 rfl (lv_at hl 1 rfl) ?_
  refine lv_iload_n hx hb dJx4a65c_add_72be8_16 rfl (lv_at hl 3 rfl) ?_
  refine lv_iconst (v := 1) hx hb dJx4a65c_add_72be8_17 (by decide) ?_
  refine lv_iadd hx hb dJx4a65c_add_72be8_18 ?_
  refine lv_topi (nm_r (show (0 : Int32) + 1 = 1 by decide) ?_)
  refine kp_putP (v := .int 1) (ty := .int) hx hb hts i_Jx4a65c tyJx4a65c tyJx4a65c_ok nmJx4a65c hown hK hP hD hS hI hh_l rfl rfl 2 (by decide) (by decide) (hts (.fieldLink RJx4a65c 48 "java/util/ArrayList" "size" "I") (by decide +kernel)) (fun _ h9 => h9) rfl (by decide +kernel) rfl rfl rfl (kv_S (by decide) ⟨1, rfl, by omega⟩) dJx4a65c_add_72be8_19 (fun f H locs hI hP hD hS => ?_)
  refine W.widen (k := 1) (n := 1600) (Nat.le_of_ble_eq_true rfl) (Nat.le_of_ble_eq_true rfl) ?_
  exact W.vret hx hb hr (fun t ht hW9 => ⟨⟨(u_1.1, f), rfl, ⟨q, τ2, _, fun b hb => ht2 b (knz hb h00), Or.inr h00, fun b k hb hb1 hb2 => (kup_ne (Or.inl hb1)).trans ((kup_ne (Or.inl (knz hb h00))).trans (hp2 b k (knz hb h00) (Or.inl hb1))), (kup_ne (Or.inr (by decide))).trans ((kup_ne (Or.inl hnl)).trans hl1), kup_self, hq0, by omega, fun i hi => absurd hi (Nat.not_lt_zero i), (kup_ne (Or.inl hnl.symm)).trans kup_self, hI⟩, by rw [ht]; exact hP, va_K.moved hW9.alike hK, hD⟩, hS.F ht⟩) hS.2.2 dJx4a65c_add_72be8_22
set_option maxHeartbeats 4000000 in
set_option maxRecDepth 100000 in
theorem k_add1A7 (l : Launch) (dC : Nat → ClassId) (dI : Nat → Nat → Nat) (dA : Nat → ClassId) (ad sz : Nat) (τ : Nat → Nat → Nat) (pv : Nat → Nat → Value) (L : List Nat) (f : Nat → va_E) (hI : kI dA τ pv L f) (l9 e9 a9 n9 : Nat) (hh_l : τ 0 l9 = 7) (hh_e : τ 0 e9 = 1) (ha : pv l9 1 = .ref a9) (hn : pv l9 2 = .int (nI n9)) (hta : τ 0 a9 = 9) (hla : n9 ≤ τ 3 a9) (hn9 : n9 < 1024) (hel : ∀ i, i < n9 → ∃ q, pv a9 i = .ref q ∧ τ 0 q = 1) : Met l yJx4a65c_add_9ea2d wsJx4a65c_add_9ea2d ({ frames := 6, cells := 1, slots := 1600, locals := 145 } : Room) (va_Pc [.ref l9, .ref e9] (kB dC dI dA ad sz L f)) (va_Qi (fun r u => ∃ a2 τ2 pv2, (∀ b, τ 0 b ≠ 0 → ∀ j, τ2 j b = τ j b) ∧ (a2 = a9 ∨ τ 0 a2 = 0) ∧ (∀ b k, τ 0 b ≠ 0 → b ≠ l9 → b ≠ a9 → pv2 b k = pv b k) ∧ pv2 l9 1 = .ref a2 ∧ pv2 l9 2 = .int (nI (n9 + 1)) ∧ τ2 0 a2 = 9 ∧ n9 + 1 ≤ τ2 3 a2 ∧ (∀ i, i < n9 → pv2 a2 i = pv a9 i) ∧ pv2 a2 n9 = .ref e9 ∧ kI dA τ2 pv2 u.1 u.2) (kR dC dI dA (va_A (va_pl L f) sz)) (va_A (va_pl L f) sz)) 1 1600 (va_A (va_pl L f) sz) := by
  refine Met.ofW (cc := cJx4a65c_add_9ea2d) (maxL := 2) (ret := (some .boolean)) (by decide) rfl ?_
  intro p e s m args below meth c s₁ B hml hv
  obtain ⟨rfl, hsz, hP, hK, hD0, hE⟩ := hv
  have hx := B.exec
  have hb := B.bytes
  have hr := B.returns
  have hts := atoms_spec (ws := wsJx4a65c_add_9ea2d) B.pre
  have hown : s.vm.findClass RJx4a65c = some m.cls := findClass_of_methodNamed B.named
  have hlocks := B.notSynchronized
  have i_Jx4a65c : ∀ w ∈ u_ws RJx4a65c TJx4a65c 3, w ∈ wsJx4a65c_add_9ea2d := by decide +kernel
  subst hsz
  have hD := hD0.self (sz := s.heap.size)
  generalize hAe : va_A (va_pl L f) s.heap.size = A at hD hE ⊢
  have hA : ∀ q : Nat, s.heap.size ≤ q → A q := fun q h => by rw [← hAe]; exact Or.inr h
  have hS : va_S A s.heap s.heap [] := va_S.rf
  have hP : va_P (dC, dI) vwCl (va_pl L f) s.heap := hP
  have hK : va_K (dC, dI) vwCl (tyA dA) s := hK
  have hl := lv_entry ([.ref l9, .ref e9]) (n := 2) (Nat.le_of_ble_eq_true rfl)
  rw [lg_entry_eq]
  generalize (lg_sl ([.ref l9, .ref e9]) ++ List.replicate (2 - (lg_sl ([.ref l9, .ref e9])).length) Slot.unset).toArray = ls at hl ⊢
  have hl : lv_has ls 2 [(0, .ref l9), (1, .ref e9)] := hl
  refine lv_aload_n hx hb dJx4a65c_add_9ea2d_0 rfl (lv_at hl 0 rfl) ?_
  refine lv_dup hx hb dJx4a65c_add_9ea2d_1 rfl ?_
  refine kp_get hx hb hts i_Jx4a65c hown hK hP hI hh_l rfl rfl 0 (by decide) (by decide) (hts (.fieldLink RJx4a65c 63 "java/util/ArrayList" "modCount" "I") (by decide +kernel)) (fun _ h9 => u_same (hts (.sameField "java/util/ArrayList" "java/util/AbstractList" "modCount" "I") (by decide +kernel)) _ h9) dJx4a65c_add_9ea2d_2 (kq_I fun x_1 => ?_)
  refine lv_iconst (v := 1) hx hb dJx4a65c_add_9ea2d_5 (by decide) ?_
  refine lv_iadd hx hb dJx4a65c_add_9ea2d_6 ?_
  refine lv_topi (fun x_3 ex_3 => ?_)
  refine kp_put (v := .int x_3) (ty := .int) hx hb hts i_Jx4a65c tyJx4a65c tyJx4a65c_ok nmJx4a65c hown hK hP hD hS hI hh_l rfl rfl 0 (by decide) (by decide) (hts (.fieldLink RJx4a65c 63 "java/util/ArrayList" "modCount" "I") (by decide +kernel)) (fun _ h9 => u_same (hts (.sameField "java/util/ArrayList" "java/util/AbstractList" "modCount" "I") (by decide +kernel)) _ h9) rfl (by decide +kernel) rfl rfl rfl (by decide) (kv_I _) dJx4a65c_add_9ea2d_7 (fun f H locs hI hP hD hS => ?_)
  refine lv_aload_n hx hb dJx4a65c_add_9ea2d_10 rfl (lv_at hl 0 rfl) ?_
  refine lv_aload_n hx hb dJx4a65c_add_9ea2d_11 rfl (lv_at hl 1 rfl) ?_
  refine lv_aload_n hx hb dJx4a65c_add_9ea2d_12 rfl (lv_at hl 0 rfl) ?_
  refine kp_get hx hb hts i_Jx4a65c hown hK hP hI hh_l rfl rfl 1 (by decide) (by decide) (hts (.fieldLink RJx4a65c 9 "java/util/ArrayList" "elementData" "[Ljava/lang/Object;") (by decide +kernel)) (fun _ h9 => h9) dJx4a65c_add_9ea2d_13 (kq_P (v0 := .ref a9) rfl ha fun h_5 => ?_)
  refine lv_aload_n hx hb dJx4a65c_add_9ea2d_16 rfl (lv_at hl 0 rfl) ?_
  refine kp_get hx hb hts i_Jx4a65c hown hK hP hI hh_l rfl rfl 2 (by decide) (by decide) (hts (.fieldLink RJx4a65c 48 "java/util/ArrayList" "size" "I") (by decide +kernel)) (fun _ h9 => h9) dJx4a65c_add_9ea2d_17 (kq_P (v0 := .int (nI n9)) rfl hn fun h_7 => ?_)
  refine kd_callv (va_runV (As := [.ref e9, .ref a9, .int (nI n9)]) (rest := []) ⟨hx, hb, hml, hown, hts⟩ (k_add3A7 l dC dI dA ad _ τ pv _ _ hI l9 e9 a9 n9 hh_l hh_e ha hn hta hla hn9 hel) (cwV 3 hts gJx4a65c_add_9ea2d_Jx4a65c_add_72be8 rfl rfl rfl (by decide +kernel) ⟨Nat.le_of_ble_eq_true rfl, Nat.le_of_ble_eq_true rfl⟩) (kd_preV hP hD hK hS hA hE hI hh_l rfl rfl) rfl rfl hl.1 rfl (lv_room (Nat.le_of_ble_eq_true rfl)) dJx4a65c_add_9ea2d_20 ⟨Nat.le_of_ble_eq_true rfl, Nat.le_of_ble_eq_true rfl⟩) hD hS hA (fun u_8 H locs hw hP hD hS => ?_)
  obtain ⟨a2, τ2, pv2, ht2, ha2, hp2, hl1, hl2, hq0, hq3, hqi, hqn, hI⟩ := hw
  refine lv_iconst (v := 1) hx hb dJx4a65c_add_9ea2d_23 (by decide) ?_
  refine W.widen (k := 1) (n := 1600) (Nat.le_of_ble_eq_true rfl) (Nat.le_of_ble_eq_true rfl) ?_
  exact W.zret (ty := .boolean) (v := 1) hx hb hr rfl (fun t ht hW9 => ⟨⟨1, (u_8.1, u_8.2), rfl, ⟨a2, τ2, pv2, ht2, ha2, hp2, hl1, hl2, hq0, hq3, hqi, hqn, hI⟩, by rw [ht]; exact hP, va_K.moved hW9.alike hK, hD⟩, hS.F ht⟩) hS.2.2 dJx4a65c_add_9ea2d_24
set_option maxHeartbeats 4000000 in
set_option maxRecDepth 100000 in
theorem k_add1A8 (l : Launch) (dC : Nat → ClassId) (dI : Nat → Nat → Nat) (dA : Nat → ClassId) (ad sz : Nat) (τ : Nat → Nat → Nat) (pv : Nat → Nat → Value) (L : List Nat) (f : Nat → va_E) (hI : kI dA τ pv L f) (l9 e9 a9 n9 : Nat) (hh_l : τ 0 l9 = 8) (hh_e : τ 0 e9 = 2) (ha : pv l9 1 = .ref a9) (hn : pv l9 2 = .int (nI n9)) (hta : τ 0 a9 = 10) (hla : n9 ≤ τ 3 a9) (hn9 : n9 < 1024) (hel : ∀ i, i < n9 → ∃ q, pv a9 i = .ref q ∧ τ 0 q = 2) : Met l yJx4a65c_add_9ea2d wsJx4a65c_add_9ea2d ({ frames := 6, cells := 1, slots := 1600, locals := 145 } : Room) (va_Pc [.ref l9, .ref e9] (kB dC dI dA ad sz L f)) (va_Qi (fun r u => ∃ a2 τ2 pv2, (∀ b, τ 0 b ≠ 0 → ∀ j, τ2 j b = τ j b) ∧ (a2 = a9 ∨ τ 0 a2 = 0) ∧ (∀ b k, τ 0 b ≠ 0 → b ≠ l9 → b ≠ a9 → pv2 b k = pv b k) ∧ pv2 l9 1 = .ref a2 ∧ pv2 l9 2 = .int (nI (n9 + 1)) ∧ τ2 0 a2 = 10 ∧ n9 + 1 ≤ τ2 3 a2 ∧ (∀ i, i < n9 → pv2 a2 i = pv a9 i) ∧ pv2 a2 n9 = .ref e9 ∧ kI dA τ2 pv2 u.1 u.2) (kR dC dI dA (va_A (va_pl L f) sz)) (va_A (va_pl L f) sz)) 1 1600 (va_A (va_pl L f) sz) := by
  refine Met.ofW (cc := cJx4a65c_add_9ea2d) (maxL := 2) (ret := (some .boolean)) (by decide) rfl ?_
  intro p e s m args below meth c s₁ B hml hv
  obtain ⟨rfl, hsz, hP, hK, hD0, hE⟩ := hv
  have hx := B.exec
  have hb := B.bytes
  have hr := B.returns
  have hts := atoms_spec (ws := wsJx4a65c_add_9ea2d) B.pre
  have hown : s.vm.findClass RJx4a65c = some m.cls := findClass_of_methodNamed B.named
  have hlocks := B.notSynchronized
  have i_Jx4a65c : ∀ w ∈ u_ws RJx4a65c TJx4a65c 3, w ∈ wsJx4a65c_add_9ea2d := by decide +kernel
  subst hsz
  have hD := hD0.self (sz := s.heap.size)
  generalize hAe : va_A (va_pl L f) s.heap.size = A at hD hE ⊢
  have hA : ∀ q : Nat, s.heap.size ≤ q → A q := fun q h => by rw [← hAe]; exact Or.inr h
  have hS : va_S A s.heap s.heap [] := va_S.rf
  have hP : va_P (dC, dI) vwCl (va_pl L f) s.heap := hP
  have hK : va_K (dC, dI) vwCl (tyA dA) s := hK
  have hl := lv_entry ([.ref l9, .ref e9]) (n := 2) (Nat.le_of_ble_eq_true rfl)
  rw [lg_entry_eq]
  generalize (lg_sl ([.ref l9, .ref e9]) ++ List.replicate (2 - (lg_sl ([.ref l9, .ref e9])).length) Slot.unset).toArray = ls at hl ⊢
  have hl : lv_has ls 2 [(0, .ref l9), (1, .ref e9)] := hl
  refine lv_aload_n hx hb dJx4a65c_add_9ea2d_0 rfl (lv_at hl 0 rfl) ?_
  refine lv_dup hx hb dJx4a65c_add_9ea2d_1 rfl ?_
  refine kp_get hx hb hts i_Jx4a65c hown hK hP hI hh_l rfl rfl 0 (by decide) (by decide) (hts (.fieldLink RJx4a65c 63 "java/util/ArrayList" "modCount" "I") (by decide +kernel)) (fun _ h9 => u_same (hts (.sameField "java/util/ArrayList" "java/util/AbstractList" "modCount" "I") (by decide +kernel)) _ h9) dJx4a65c_add_9ea2d_2 (kq_I fun x_1 => ?_)
  refine lv_iconst (v := 1) hx hb dJx4a65c_add_9ea2d_5 (by decide) ?_
  refine lv_iadd hx hb dJx4a65c_add_9ea2d_6 ?_
  refine lv_topi (fun x_3 ex_3 => ?_)
  refine kp_put (v := .int x_3) (ty := .int) hx hb hts i_Jx4a65c tyJx4a65c tyJx4a65c_ok nmJx4a65c hown hK hP hD hS hI hh_l rfl rfl 0 (by decide) (by decide) (hts (.fieldLink RJx4a65c 63 "java/util/ArrayList" "modCount" "I") (by decide +kernel)) (fun _ h9 => u_same (hts (.sameField "java/util/ArrayList" "java/util/AbstractList" "modCount" "I") (by decide +kernel)) _ h9) rfl (by decide +kernel) rfl rfl rfl (by decide) (kv_I _) dJx4a65c_add_9ea2d_7 (fun f H locs hI hP hD hS => ?_)
  refine lv_aload_n hx hb dJx4a65c_add_9ea2d_10 rfl (lv_at hl 0 rfl) ?_
  refine lv_aload_n hx hb dJx4a65c_add_9ea2d_11 rfl (lv_at hl 1 rfl) ?_
  refine lv_aload_n hx hb dJx4a65c_add_9ea2d_12 rfl (lv_at hl 0 rfl) ?_
  refine kp_get hx hb hts i_Jx4a65c hown hK hP hI hh_l rfl rfl 1 (by decide) (by decide) (hts (.fieldLink RJx4a65c 9 "java/util/ArrayList" "elementData" "[Ljava/lang/Object;") (by decide +kernel)) (fun _ h9 => h9) dJx4a65c_add_9ea2d_13 (kq_P (v0 := .ref a9) rfl ha fun h_5 => ?_)
  refine lv_aload_n hx hb dJx4a65c_add_9ea2d_16 rfl (lv_at hl 0 rfl) ?_
  refine kp_get hx hb hts i_Jx4a65c hown hK hP hI hh_l rfl rfl 2 (by decide) (by decide) (hts (.fieldLink RJx4a65c 48 "java/util/ArrayList" "size" "I") (by decide +kernel)) (fun _ h9 => h9) dJx4a65c_add_9ea2d_17 (kq_P (v0 := .int (nI n9)) rfl hn fun h_7 => ?_)
  refine kd_callv (va_runV (As := [.ref e9, .ref a9, .int (nI n9)]) (rest := []) ⟨hx, hb, hml, hown, hts⟩ (k_add3A8 l dC dI dA ad _ τ pv _ _ hI l9 e9 a9 n9 hh_l hh_e ha hn hta hla hn9 hel) (cwV 3 hts gJx4a65c_add_9ea2d_Jx4a65c_add_72be8 rfl rfl rfl (by decide +kernel) ⟨Nat.le_of_ble_eq_true rfl, Nat.le_of_ble_eq_true rfl⟩) (kd_preV hP hD hK hS hA hE hI hh_l rfl rfl) rfl rfl hl.1 rfl (lv_room (Nat.le_of_ble_eq_true rfl)) dJx4a65c_add_9ea2d_20 ⟨Nat.le_of_ble_eq_true rfl, Nat.le_of_ble_eq_true rfl⟩) hD hS hA (fun u_8 H locs hw hP hD hS => ?_)
  obtain ⟨a2, τ2, pv2, ht2, ha2, hp2, hl1, hl2, hq0, hq3, hqi, hqn, hI⟩ := hw
  refine lv_iconst (v := 1) hx hb dJx4a65c_add_9ea2d_23 (by decide) ?_
  refine W.widen (k := 1) (n := 1600) (Nat.le_of_ble_eq_true rfl) (Nat.le_of_ble_eq_true rfl) ?_
  exact W.zret (ty := .boolean) (v := 1) hx hb hr rfl (fun t ht hW9 => ⟨⟨1, (u_8.1, u_8.2), rfl, ⟨a2, τ2, pv2, ht2, ha2, hp2, hl1, hl2, hq0, hq3, hqi, hqn, hI⟩, by rw [ht]; exact hP, va_K.moved hW9.alike hK, hD⟩, hS.F ht⟩) hS.2.2 dJx4a65c_add_9ea2d_24
set_option maxHeartbeats 4000000 in
set_option maxRecDepth 100000 in
theorem k_add1F7 (l : Launch) (dC : Nat → ClassId) (dI : Nat → Nat → Nat) (dA : Nat → ClassId) (ad sz : Nat) (τ : Nat → Nat → Nat) (pv : Nat → Nat → Value) (L : List Nat) (f : Nat → va_E) (hI : kI dA τ pv L f) (l9 e9 : Nat) (hh_l : τ 0 l9 = 7) (hh_e : τ 0 e9 = 1) (ha : pv l9 1 = .ref ad) (hn : pv l9 2 = .int 0) : Met l yJx4a65c_add_9ea2d wsJx4a65c_add_9ea2d ({ frames := 4, cells := 1, slots := 1600, locals := 80 } : Room) (va_Pc [.ref l9, .ref e9] (kB dC dI dA ad sz L f)) (va_Qi (fun r u => ∃ a2 τ2 pv2, (∀ b, τ 0 b ≠ 0 → ∀ j, τ2 j b = τ j b) ∧ (a2 = ad ∨ τ 0 a2 = 0) ∧ (∀ b k, τ 0 b ≠ 0 → b ≠ l9 → b ≠ ad → pv2 b k = pv b k) ∧ pv2 l9 1 = .ref a2 ∧ pv2 l9 2 = .int (nI (0 + 1)) ∧ τ2 0 a2 = 9 ∧ 0 + 1 ≤ τ2 3 a2 ∧ (∀ i, i < 0 → pv2 a2 i = pv ad i) ∧ pv2 a2 0 = .ref e9 ∧ kI dA τ2 pv2 u.1 u.2) (kR dC dI dA (va_A (va_pl L f) sz)) (va_A (va_pl L f) sz)) 1 1600 (va_A (va_pl L f) sz) := by
  refine Met.ofW (cc := cJx4a65c_add_9ea2d) (maxL := 2) (ret := (some .boolean)) (by decide) rfl ?_
  intro p e s m args below meth c s₁ B hml hv
  obtain ⟨rfl, hsz, hP, hK, hD0, hE⟩ := hv
  have hx := B.exec
  have hb := B.bytes
  have hr := B.returns
  have hts := atoms_spec (ws := wsJx4a65c_add_9ea2d) B.pre
  have hown : s.vm.findClass RJx4a65c = some m.cls := findClass_of_methodNamed B.named
  have hlocks := B.notSynchronized
  have i_Jx4a65c : ∀ w ∈ u_ws RJx4a65c TJx4a65c 3, w ∈ wsJx4a65c_add_9ea2d := by decide +kernel
  subst hsz
  have hD := hD0.self (sz := s.heap.size)
  generalize hAe : va_A (va_pl L f) s.heap.size = A at hD hE ⊢
  have hA : ∀ q : Nat, s.heap.size ≤ q → A q := fun q h => by rw [← hAe]; exact Or.inr h
  have hS : va_S A s.heap s.heap [] := va_S.rf
  have hP : va_P (dC, dI) vwCl (va_pl L f) s.heap := hP
  have hK : va_K (dC, dI) vwCl (tyA dA) s := hK
  have hl := lv_entry ([.ref l9, .ref e9]) (n := 2) (Nat.le_of_ble_eq_true rfl)
  rw [lg_entry_eq]
  generalize (lg_sl ([.ref l9, .ref e9]) ++ List.replicate (2 - (lg_sl ([.ref l9, .ref e9])).length) Slot.unset).toArray = ls at hl ⊢
  have hl : lv_has ls 2 [(0, .ref l9), (1, .ref e9)] := hl
  refine lv_aload_n hx hb dJx4a65c_add_9ea2d_0 rfl (lv_at hl 0 rfl) ?_
  refine lv_dup hx hb dJx4a65c_add_9ea2d_1 rfl ?_
  refine kp_get hx hb hts i_Jx4a65c hown hK hP hI hh_l rfl rfl 0 (by decide) (by decide) (hts (.fieldLink RJx4a65c 63 "java/util/ArrayList" "modCount" "I") (by decide +kernel)) (fun _ h9 => u_same (hts (.sameField "java/util/ArrayList" "java/util/AbstractList" "modCount" "I") (by decide +kernel)) _ h9) dJx4a65c_add_9ea2d_2 (kq_I fun x_1 => ?_)
  refine lv_iconst (v := 1) hx hb dJx4a65c_add_9ea2d_5 (by decide) ?_
  refine lv_iadd hx hb dJx4a65c_add_9ea2d_6 ?_
  refine lv_topi (fun x_3 ex_3 => ?_)
  refine kp_put (v := .int x_3) (ty := .int) hx hb hts i_Jx4a65c tyJx4a65c tyJx4a65c_ok nmJx4a65c hown hK hP hD hS hI hh_l rfl rfl 0 (by decide) (by decide) (hts (.fieldLink RJx4a65c 63 "java/util/ArrayList" "modCount" "I") (by decide +kernel)) (fun _ h9 => u_same (hts (.sameField "java/util/ArrayList" "java/util/AbstractList" "modCount" "I") (by decide +kernel)) _ h9) rfl (by decide +kernel) rfl rfl rfl (by decide) (kv_I _) dJx4a65c_add_9ea2d_7 (fun f H locs hI hP hD hS => ?_)
  refine lv_aload_n hx hb dJx4a65c_add_9ea2d_10 rfl (lv_at hl 0 rfl) ?_
  refine lv_aload_n hx hb dJx4a65c_add_9ea2d_11 rfl (lv_at hl 1 rfl) ?_
  refine lv_aload_n hx hb dJx4a65c_add_9ea2d_12 rfl (lv_at hl 0 rfl) ?_
  refine kp_get hx hb hts i_Jx4a65c hown hK hP hI hh_l rfl rfl 1 (by decide) (by decide) (hts (.fieldLink RJx4a65c 9 "java/util/ArrayList" "elementData" "[Ljava/lang/Object;") (by decide +kernel)) (fun _ h9 => h9) dJx4a65c_add_9ea2d_13 (kq_P (v0 := .ref ad) rfl ha fun h_5 => ?_)
  refine lv_aload_n hx hb dJx4a65c_add_9ea2d_16 rfl (lv_at hl 0 rfl) ?_
  refine kp_get hx hb hts i_Jx4a65c hown hK hP hI hh_l rfl rfl 2 (by decide) (by decide) (hts (.fieldLink RJx4a65c 48 "java/util/ArrayList" "size" "I") (by decide +kernel)) (fun _ h9 => h9) dJx4a65c_add_9ea2d_17 (kq_P (v0 := .int 0) rfl hn fun h_7 => ?_)
  refine kd_callv (va_runV (As := [.ref e9, .ref ad, .int 0]) (rest := []) ⟨hx, hb, hml, hown, hts⟩ (k_add3F7 l dC dI dA ad _ τ pv _ _ hI l9 e9 hh_l hh_e ha hn) (cwV 3 hts gJx4a65c_add_9ea2d_Jx4a65c_add_72be8 rfl rfl rfl (by decide +kernel) ⟨Nat.le_of_ble_eq_true rfl, Nat.le_of_ble_eq_true rfl⟩) (kd_preV hP hD hK hS hA hE hI hh_l rfl rfl) rfl rfl hl.1 rfl (lv_room (Nat.le_of_ble_eq_true rfl)) dJx4a65c_add_9ea2d_20 ⟨Nat.le_of_ble_eq_true rfl, Nat.le_of_ble_eq_true rfl⟩) hD hS hA (fun u_8 H locs hw hP hD hS => ?_)
  obtain ⟨a2, τ2, pv2, ht2, ha2, hp2, hl1, hl2, hq0, hq3, hqi, hqn, hI⟩ := hw
  refine lv_iconst (v := 1) hx hb dJx4a65c_add_9ea2d_23 (by decide) ?_
  refine W.widen (k := 1) (n := 1600) (Nat.le_of_ble_eq_true rfl) (Nat.le_of_ble_eq_true rfl) ?_
  exact W.zret (ty := .boolean) (v := 1) hx hb hr rfl (fun t ht hW9 => ⟨⟨1, (u_8.1, u_8.2), rfl, ⟨a2, τ2, pv2, ht2, ha2, hp2, hl1, hl2, hq0, hq3, hqi, hqn, hI⟩, by rw [ht]; exact hP, va_K.moved hW9.alike hK, hD⟩, hS.F ht⟩) hS.2.2 dJx4a65c_add_9ea2d_24
set_option maxHeartbeats 4000000 in
set_option maxRecDepth 100000 in
theorem k_add1F8 (l : Launch) (dC : Nat → ClassId) (dI : Nat → Nat → Nat) (dA : Nat → ClassId) (ad sz : Nat) (τ : Nat → Nat → Nat) (pv : Nat → Nat → Value) (L : List Nat) (f : Nat → va_E) (hI : kI dA τ pv L f) (l9 e9 : Nat) (hh_l : τ 0 l9 = 8) (hh_e : τ 0 e9 = 2) (ha : pv l9 1 = .ref ad) (hn : pv l9 2 = .int 0) : Met l yJx4a65c_add_9ea2d wsJx4a65c_add_9ea2d ({ frames := 4, cells := 1, slots := 1600, locals := 80 } : Room) (va_Pc [.ref l9, .ref e9] (kB dC dI dA ad sz L f)) (va_Qi (fun r u => ∃ a2 τ2 pv2, (∀ b, τ 0 b ≠ 0 → ∀ j, τ2 j b = τ j b) ∧ (a2 = ad ∨ τ 0 a2 = 0) ∧ (∀ b k, τ 0 b ≠ 0 → b ≠ l9 → b ≠ ad → pv2 b k = pv b k) ∧ pv2 l9 1 = .ref a2 ∧ pv2 l9 2 = .int (nI (0 + 1)) ∧ τ2 0 a2 = 10 ∧ 0 + 1 ≤ τ2 3 a2 ∧ (∀ i, i < 0 → pv2 a2 i = pv ad i) ∧ pv2 a2 0 = .ref e9 ∧ kI dA τ2 pv2 u.1 u.2) (kR dC dI dA (va_A (va_pl L f) sz)) (va_A (va_pl L f) sz)) 1 1600 (va_A (va_pl L f) sz) := by
  refine Met.ofW (cc := cJx4a65c_add_9ea2d) (maxL := 2) (ret := (some .boolean)) (by decide) rfl ?_
  intro p e s m args below meth c s₁ B hml hv
  obtain ⟨rfl, hsz, hP, hK, hD0, hE⟩ := hv
  have hx := B.exec
  have hb := B.bytes
  have hr := B.returns
  have hts := atoms_spec (ws := wsJx4a65c_add_9ea2d) B.pre
  have hown : s.vm.findClass RJx4a65c = some m.cls := findClass_of_methodNamed B.named
  have hlocks := B.notSynchronized
  have i_Jx4a65c : ∀ w ∈ u_ws RJx4a65c TJx4a65c 3, w ∈ wsJx4a65c_add_9ea2d := by decide +kernel
  subst hsz
  have hD := hD0.self (sz := s.heap.size)
  generalize hAe : va_A (va_pl L f) s.heap.size = A at hD hE ⊢
  have hA : ∀ q : Nat, s.heap.size ≤ q → A q := fun q h => by rw [← hAe]; exact Or.inr h
  have hS : va_S A s.heap s.heap [] := va_S.rf
  have hP : va_P (dC, dI) vwCl (va_pl L f) s.heap := hP
  have hK : va_K (dC, dI) vwCl (tyA dA) s := hK
  have hl := lv_entry ([.ref l9, .ref e9]) (n := 2) (Nat.le_of_ble_eq_true rfl)
  rw [lg_entry_eq]
  generalize (lg_sl ([.ref l9, .ref e9]) ++ List.replicate (2 - (lg_sl ([.ref l9, .ref e9])).length) Slot.unset).toArray = ls at hl ⊢
  have hl : lv_has ls 2 [(0, .ref l9), (1, .ref e9)] := hl
  refine lv_aload_n hx hb dJx4a65c_add_9ea2d_0 rfl (lv_at hl 0 rfl) ?_
  refine lv_dup hx hb dJx4a65c_add_9ea2d_1 rfl ?_
  refine kp_get hx hb hts i_Jx4a65c hown hK hP hI hh_l rfl rfl 0 (by decide) (by decide) (hts (.fieldLink RJx4a65c 63 "java/util/ArrayList" "modCount" "I") (by decide +kernel)) (fun _ h9 => u_same (hts (.sameField "java/util/ArrayList" "java/util/AbstractList" "modCount" "I") (by decide +kernel)) _ h9) dJx4a65c_add_9ea2d_2 (kq_I fun x_1 => ?_)
  refine lv_iconst (v := 1) hx hb dJx4a65c_add_9ea2d_5 (by decide) ?_
  refine lv_iadd hx hb dJx4a65c_add_9ea2d_6 ?_
  refine lv_topi (fun x_3 ex_3 => ?_)
  refine kp_put (v := .int x_3) (ty := .int) hx hb hts i_Jx4a65c tyJx4a65c tyJx4a65c_ok nmJx4a65c hown hK hP hD hS hI hh_l rfl rfl 0 (by decide) (by decide) (hts (.fieldLink RJx4a65c 63 "java/util/ArrayList" "modCount" "I") (by decide +kernel)) (fun _ h9 => u_same (hts (.sameField "java/util/ArrayList" "java/util/AbstractList" "modCount" "I") (by decide +kernel)) _ h9) rfl (by decide +kernel) rfl rfl rfl (by decide) (kv_I _) dJx4a65c_add_9ea2d_7 (fun f H locs hI hP hD hS => ?_)
  refine lv_aload_n hx hb dJx4a65c_add_9ea2d_10 rfl (lv_at hl 0 rfl) ?_
  refine lv_aload_n hx hb dJx4a65c_add_9ea2d_11 rfl (lv_at hl 1 rfl) ?_
  refine lv_aload_n hx hb dJx4a65c_add_9ea2d_12 rfl (lv_at hl 0 rfl) ?_
  refine kp_get hx hb hts i_Jx4a65c hown hK hP hI hh_l rfl rfl 1 (by decide) (by decide) (hts (.fieldLink RJx4a65c 9 "java/util/ArrayList" "elementData" "[Ljava/lang/Object;") (by decide +kernel)) (fun _ h9 => h9) dJx4a65c_add_9ea2d_13 (kq_P (v0 := .ref ad) rfl ha fun h_5 => ?_)
  refine lv_aload_n hx hb dJx4a65c_add_9ea2d_16 rfl (lv_at hl 0 rfl) ?_
  refine kp_get hx hb hts i_Jx4a65c hown hK hP hI hh_l rfl rfl 2 (by decide) (by decide) (hts (.fieldLink RJx4a65c 48 "java/util/ArrayList" "size" "I") (by decide +kernel)) (fun _ h9 => h9) dJx4a65c_add_9ea2d_17 (kq_P (v0 := .int 0) rfl hn fun h_7 => ?_)
  refine kd_callv (va_runV (As := [.ref e9, .ref ad, .int 0]) (rest := []) ⟨hx, hb, hml, hown, hts⟩ (k_add3F8 l dC dI dA ad _ τ pv _ _ hI l9 e9 hh_l hh_e ha hn) (cwV 3 hts gJx4a65c_add_9ea2d_Jx4a65c_add_72be8 rfl rfl rfl (by decide +kernel) ⟨Nat.le_of_ble_eq_true rfl, Nat.le_of_ble_eq_true rfl⟩) (kd_preV hP hD hK hS hA hE hI hh_l rfl rfl) rfl rfl hl.1 rfl (lv_room (Nat.le_of_ble_eq_true rfl)) dJx4a65c_add_9ea2d_20 ⟨Nat.le_of_ble_eq_true rfl, Nat.le_of_ble_eq_true rfl⟩) hD hS hA (fun u_8 H locs hw hP hD hS => ?_)
  obtain ⟨a2, τ2, pv2, ht2, ha2, hp2, hl1, hl2, hq0, hq3, hqi, hqn, hI⟩ := hw
  refine lv_iconst (v := 1) hx hb dJx4a65c_add_9ea2d_23 (by decide) ?_
  refine W.widen (k := 1) (n := 1600) (Nat.le_of_ble_eq_true rfl) (Nat.le_of_ble_eq_true rfl) ?_
  exact W.zret (ty := .boolean) (v := 1) hx hb hr rfl (fun t ht hW9 => ⟨⟨1, (u_8.1, u_8.2), rfl, ⟨a2, τ2, pv2, ht2, ha2, hp2, hl1, hl2, hq0, hq3, hqi, hqn, hI⟩, by rw [ht]; exact hP, va_K.moved hW9.alike hK, hD⟩, hS.F ht⟩) hS.2.2 dJx4a65c_add_9ea2d_24
