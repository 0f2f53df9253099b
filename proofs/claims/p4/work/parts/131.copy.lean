set_option maxHeartbeats 4000000 in
set_option maxRecDepth 100000 in
theorem k_newLength (l : Launch) (dC : Nat → ClassId) (dI : Nat → Nat → Nat) (dA : Nat → ClassId) (ad sz : Nat) (τ : Nat → Nat → Nat) (pv : Nat → Nat → Value) (L : List Nat) (f : Nat → va_E) (hI : kI dA τ pv L f) (a9 : Nat) (ha9 : 10 ≤ a9) (hb9 : a9 ≤ 1500) : Met l yJ8_newLength_cabcc wsJ8_newLength_cabcc ({ frames := 1, cells := 0, slots := 0, locals := 14 } : Room) (va_Pc [.int (nI a9), .int 1, .int (nI (a9 / 2))] (kB dC dI dA ad sz L f)) (va_Qi (fun r u => r = nI (a9 + a9 / 2) ∧ kI dA τ pv u.1 u.2) (kR dC dI dA (va_A (va_pl L f) sz)) (va_A (va_pl L f) sz)) 0 0 (va_A (va_pl L f) sz) := by
  refine Met.ofW (cc := cJ8_newLength_cabcc) (maxL := 4) (ret := (some .int)) (by decide) rfl ?_
  intro p e s m args below meth c s₁ B hml hv
  obtain ⟨rfl, hsz, hP, hK, hD0, hE⟩ := hv
  have hx := B.exec
  have hb := B.bytes
  have hr := B.returns
  have hts := atoms_spec (ws := wsJ8_newLength_cabcc) B.pre
  have hown : s.vm.findClass RJ8 = some m.cls := findClass_of_methodNamed B.named
  have hlocks := B.notSynchronized
  subst hsz
  have hD := hD0.self (sz := s.heap.size)
  generalize hAe : va_A (va_pl L f) s.heap.size = A at hD hE ⊢
  have hA : ∀ q : Nat, s.heap.size ≤ q → A q := fun q h => by rw [← hAe]; exact Or.inr h
  have hS : va_S A s.heap s.heap [] := va_S.rf
  have hP : va_P (dC, dI) vwCl (va_pl L f) s.heap := hP
  have hK : va_K (dC, dI) vwCl (tyA dA) s := hK
  have hl := lv_entry ([.int (nI a9), .int 1, .int (nI (a9 / 2))]) (n := 4) (Nat.le_of_ble_eq_true rfl)
  rw [lg_entry_eq]
  generalize (lg_sl ([.int (nI a9), .int 1, .int (nI (a9 / 2))]) ++ List.replicate (4 - (lg_sl ([.int (nI a9), .int 1, .int (nI (a9 / 2))])).length) Slot.unset).toArray = ls at hl ⊢
  have hl : lv_has ls 4 [(0, .int (nI a9)), (1, .int 1), (2, .int (nI (a9 / 2)))] := hl
  refine lv_iload_n hx hb dJ8_newLength_cabcc_0 rfl (lv_at hl 0 rfl) ?_
  refine lv_iload_n hx hb dJ8_newLength_cabcc_1 rfl (lv_at hl 1 rfl) ?_
  refine lv_iload_n hx hb dJ8_newLength_cabcc_2 rfl (lv_at hl 2 rfl) ?_
  refine va_mmax hx hb (hml.trans hl.1.symm) hown (hts (.methodLink RJ8 194 Lib.Math.max.name) (by decide +kernel)) (hts (.static Lib.Math.max.name) (by decide +kernel)) (hts (.initialized "java/lang/Math") (by decide +kernel)) (hts (.code Lib.Math.max.name Lib.Math.max.code 2 (some .int)) (by decide +kernel)) (Nat.le_of_ble_eq_true rfl) (Nat.le_of_ble_eq_true rfl) (Nat.le_of_ble_eq_true rfl) (Nat.le_of_ble_eq_true rfl) dJ8_newLength_cabcc_3 ?_
  refine lv_topi (nm_r (show (if (1 : Int32) < nI (a9 / 2) then nI (a9 / 2) else 1) = nI (a9 / 2) from kz_max (a := 1) (by omega) (by omega)) ?_)
  refine lv_iadd hx hb dJ8_newLength_cabcc_6 ?_
  refine lv_topi (nm_r (show (nI a9) + (nI (a9 / 2)) = nI (a9 + a9 / 2) from nI_add a9 (a9 / 2)) ?_)
  refine lv_istore_n (lv' := [(3, .int (nI (a9 + a9 / 2))), (0, .int (nI a9)), (1, .int 1), (2, .int (nI (a9 / 2)))]) hx hb dJ8_newLength_cabcc_7 rfl hl (by decide) rfl (fun ls hl => ?_)
  refine lv_iconst (v := 0) hx hb dJ8_newLength_cabcc_8 (by decide) ?_
  refine lv_iload_n hx hb dJ8_newLength_cabcc_9 rfl (lv_at hl 0 rfl) ?_
  refine lv_icmp_ge (tgt := 21) hx hb dJ8_newLength_cabcc_10 (by decide) (fun c_1 => ?_) (fun c_1 => ?_)
  · have n_2 : a9 + a9 / 2 ≤ 0 := (nI_leI (by omega) (by omega)).mp (show nI (a9 + a9 / 2) ≤ nI 0 from c_1)
    exact absurd ha9 (by omega)
  · have n_3 : ¬ a9 + a9 / 2 ≤ 0 := fun h9 => (show ¬ nI (a9 + a9 / 2) ≤ nI 0 from c_1) ((nI_leI (by omega) (by omega)).mpr h9)
    refine lv_iload_n hx hb dJ8_newLength_cabcc_13 rfl (lv_at hl 0 rfl) ?_
    refine lv_ldc (v := 2147483639) hx hb hown (hts (.constant RJ8 200 (2147483639)) (by decide +kernel)) dJ8_newLength_cabcc_14 ?_
    refine lv_icmp_gt (tgt := 21) hx hb dJ8_newLength_cabcc_16 (by decide) (fun c_4 => ?_) (fun c_4 => ?_)
    · have n_5 : 2147483639 < a9 + a9 / 2 := (nI_ltI (by omega) (by omega)).mp (show nI 2147483639 < nI (a9 + a9 / 2) from c_4)
      exact absurd ha9 (by omega)
    · have n_6 : ¬ 2147483639 < a9 + a9 / 2 := fun h9 => (show ¬ nI 2147483639 < nI (a9 + a9 / 2) from c_4) ((nI_ltI (by omega) (by omega)).mpr h9)
      refine lv_iload_n hx hb dJ8_newLength_cabcc_19 rfl (lv_at hl 0 rfl) ?_
      refine W.widen (k := 0) (n := 0) (Nat.le_of_ble_eq_true rfl) (Nat.le_of_ble_eq_true rfl) ?_
      exact W.iret (v := nI (a9 + a9 / 2)) hx hb hr (fun t ht hW9 => ⟨⟨nI (a9 + a9 / 2), (L, f), rfl, ⟨rfl, hI⟩, by rw [ht]; exact hP, va_K.moved hW9.alike hK, hD⟩, hS.F ht⟩) hS.2.2 dJ8_newLength_cabcc_20
set_option maxHeartbeats 4000000 in
set_option maxRecDepth 100000 in
theorem k_copy2_9 (l : Launch) (dC : Nat → ClassId) (dI : Nat → Nat → Nat) (dA : Nat → ClassId) (ad sz : Nat) (τ : Nat → Nat → Nat) (pv : Nat → Nat → Value) (L : List Nat) (f : Nat → va_E) (hI : kI dA τ pv L f) (mi a9 n9 : Nat) (hta : τ 0 a9 = 9) (hln : τ 3 a9 ≤ n9) (hn9 : n9 ≤ 1600) (hel : ∀ i, i < τ 3 a9 → ∃ q, pv a9 i = .ref q ∧ τ 0 q = 1) : Met l yJ7_copyOf_6403c wsJ7_copyOf_6403c ({ frames := 1, cells := 1, slots := 1600, locals := 35 } : Room) (va_Pc [.ref a9, .int (nI n9), .ref mi] (kB2 dC dI dA ad sz L f mi)) (va_Qq (fun r u => ∃ q τ2 pv2, r = some q ∧ τ 0 q = 0 ∧ (∀ b, b ≠ q → ∀ j, τ2 j b = τ j b) ∧ (∀ b, b ≠ q → ∀ k, pv2 b k = pv b k) ∧ τ2 0 q = 9 ∧ τ2 3 q = n9 ∧ (∀ i, i < τ 3 a9 → pv2 q i = pv a9 i) ∧ kI dA τ2 pv2 u.1 u.2) (kR dC dI dA (va_A (va_pl L f) sz)) (va_A (va_pl L f) sz)) 1 1600 (va_A (va_pl L f) sz) := by
  refine Met.ofW (cc := cJ7_copyOf_6403c) (maxL := 4) (ret := (some (.array (.object "java/lang/Object")))) (by decide) rfl ?_
  intro p e s m args below meth c s₁ B hml hv
  obtain ⟨rfl, ⟨hsz, hP, hK, hD0, hE⟩, hMi⟩ := hv
  have hx := B.exec
  have hb := B.bytes
  have hr := B.returns
  have hts := atoms_spec (ws := wsJ7_copyOf_6403c) B.pre
  have hown : s.vm.findClass RJ7 = some m.cls := findClass_of_methodNamed B.named
  have hlocks := B.notSynchronized
  subst hsz
  have hD := hD0.self (sz := s.heap.size)
  generalize hAe : va_A (va_pl L f) s.heap.size = A at hD hE ⊢
  have hA : ∀ q : Nat, s.heap.size ≤ q → A q := fun q h => by rw [← hAe]; exact Or.inr h
  have hS : va_S A s.heap s.heap [] := va_S.rf
  have hP : va_P (dC, dI) vwCl (va_pl L f) s.heap := hP
  have hK : va_K (dC, dI) vwCl (tyA dA) s := hK
  have hl := lv_entry ([.ref a9, .int (nI n9), .ref mi]) (n := 4) (Nat.le_of_ble_eq_true rfl)
  rw [lg_entry_eq]
  generalize (lg_sl ([.ref a9, .int (nI n9), .ref mi]) ++ List.replicate (4 - (lg_sl ([.ref a9, .int (nI n9), .ref mi])).length) Slot.unset).toArray = ls at hl ⊢
  have hl : lv_has ls 4 [(0, .ref a9), (1, .int (nI n9)), (2, .ref mi)] := hl
  refine lv_aload_n hx hb dJ7_copyOf_6403c_0 rfl (lv_at hl 2 rfl) ?_
  refine va_ldcM hx hb hown (hts (.classLink RJ7 110 "[Ljava/lang/Object;") (by decide +kernel)) hMi dJ7_copyOf_6403c_1 ?_
  refine W.eq (g2 := F0 m 3 ls [va_rf (some mi), va_rf (some mi)]) rfl ?_
  refine lv_acmp_ne (rx := (some mi)) (ry := (some mi)) (tgt := 13) hx hb dJ7_copyOf_6403c_3 (by decide) (fun h9 => absurd h9 (fun h8 => h8 rfl)) (fun _ => ?_)
  refine lv_iload_n hx hb dJ7_copyOf_6403c_6 rfl (lv_at hl 1 rfl) ?_
  refine kp_newq hx hb hown (hts (.classLink RJ7 2 "java/lang/Object") (by decide +kernel)) (hE.2.2.2.2.2.1 "java/lang/Object" (by decide)) hK hP hD hS hA (n := n9) (by omega) (Nat.le_of_ble_eq_true rfl) (by show 0 + n9 ≤ 1600; omega) dJ7_copyOf_6403c_7 (fun q H hqL hP hD hS => ?_)
  have hI0 := hI
  have h00 : τ 0 q = 0 := hI.t0 hqL
  have hI := hI.push (e := .inl (dA 5, n9, .inr (.inr (.inr (.inr (fun _ => none)))))) hqL
  refine W.widen (k := 1) (n := 1600) (by omega) (by omega) ?_
  refine lv_goto (tgt := 24) hx hb dJ7_copyOf_6403c_10 (by decide) ?_
  refine lv_astore_n (lv' := [(3, .ref q), (0, .ref a9), (1, .int (nI n9)), (2, .ref mi)]) hx hb dJ7_copyOf_6403c_24 rfl hl (by decide) rfl (fun ls hl => ?_)
  refine lv_aload_n hx hb dJ7_copyOf_6403c_25 rfl (lv_at hl 1 rfl) ?_
  refine lv_iconst (v := 0) hx hb dJ7_copyOf_6403c_26 (by decide) ?_
  refine lv_aload_n hx hb dJ7_copyOf_6403c_27 rfl (lv_at hl 0 rfl) ?_
  refine lv_iconst (v := 0) hx hb dJ7_copyOf_6403c_28 (by decide) ?_
  refine lv_aload_n hx hb dJ7_copyOf_6403c_29 rfl (lv_at hl 1 rfl) ?_
  refine kp_alen5 hx hb hK hP hI hta rfl dJ7_copyOf_6403c_30 ?_
  refine lv_iload_n hx hb dJ7_copyOf_6403c_31 rfl (lv_at hl 2 rfl) ?_
  refine va_mmin hx hb (hml.trans hl.1.symm) hown (hts (.methodLink RJ7 304 Lib.Math.min.name) (by decide +kernel)) (hts (.static Lib.Math.min.name) (by decide +kernel)) (hts (.initialized "java/lang/Math") (by decide +kernel)) (hts (.code Lib.Math.min.name Lib.Math.min.code 2 (some .int)) (by decide +kernel)) (Nat.le_of_ble_eq_true rfl) (Nat.le_of_ble_eq_true rfl) (Nat.le_of_ble_eq_true rfl) (Nat.le_of_ble_eq_true rfl) dJ7_copyOf_6403c_32 ?_
  refine lv_topi (nm_r (show (if nI n9 < nI (τ 3 a9) then nI n9 else nI (τ 3 a9)) = nI (τ 3 a9) from kz_min hln (by omega)) ?_)
  obtain ⟨hm0, g0, hf0, hg0⟩ := hI0.qarr hta (Or.inl rfl)
  have hne : a9 ≠ q := fun e9 => hqL (e9 ▸ hm0)
  refine kp_copy (n1 := n9) (g0 := g0) (g := fun _ => none) hx hb (hml.trans hl.1.symm) hown (hts (.methodLink RJ7 150 arraycopyName) (by decide +kernel)) (hts (.native arraycopyName) (by decide +kernel)) (hts (.static arraycopyName) (by decide +kernel)) (hts (.initialized "java/lang/System") (by decide +kernel)) hK hP hD hS (List.mem_append_left _ hm0) (List.mem_append_right _ (List.mem_singleton.mpr rfl)) (by rw [va_up_ne _ _ hne]; exact hf0) (by rw [va_up_self]) (Nat.le_refl _) hln (by omega) (fun i hi y hy => ?_) (Nat.le_of_ble_eq_true rfl) (Nat.le_of_ble_eq_true rfl) dJ7_copyOf_6403c_35 (fun H locs hP hD hS => ?_)
  · obtain ⟨z9, k1, k2⟩ := hel i hi
    have e9 : va_rf (some y) = .ref z9 := by rw [← hy]; exact (hg0 i).trans k1
    cases e9
    exact kd_any hK hP hI k2 rfl rfl (hE.asg "IslandSolver$Body" "java/lang/Object" (by decide +kernel))
  · have h10 : 10 ≤ τ 3 a9 := (hI0.arr hta rfl).2.1.1
    have hI := hI.newA (t := 9) (n := n9) (g := va_cpy g0 (fun _ => none) 0 0 (τ 3 a9)) (List.mem_append_right _ (List.mem_singleton.mpr rfl)) h00 (Or.inl rfl) (by omega)
    refine lv_aload_n hx hb dJ7_copyOf_6403c_38 rfl (lv_at hl 0 rfl) ?_
    refine W.widen (k := 1) (n := 1600) (Nat.le_of_ble_eq_true rfl) (Nat.le_of_ble_eq_true rfl) ?_
    exact W.aret (v := .ref q) hx hb hr (Or.inr ⟨_, rfl⟩) (Or.inr ⟨_, rfl⟩) (fun t ht hW9 => ⟨⟨(some q), ((L ++ [q]), (va_up (va_up f q (.inl (dA 5, n9, .inr (.inr (.inr (.inr (fun _ => none)))))) : Nat → va_E) q (.inl (dA 5, n9, .inr (.inr (.inr (.inr (va_cpy g0 (fun _ => none) 0 0 (τ 3 a9))))))))), rfl, ⟨q, kxt τ q (kgA 9 n9), kux pv q _, rfl, h00, fun b hb => kxt_ne hb, fun b hb => kux_ne hb, kxt_self 0, kxt_self 3, fun i hi => by rw [kux_self, pk_cpy_in (Nat.zero_le _) (by omega), Nat.zero_add, Nat.sub_zero]; exact hg0 i, hI⟩, by rw [ht]; exact hP, va_K.moved hW9.alike hK, hD⟩, hS.F ht⟩) hS.2.2 dJ7_copyOf_6403c_39
set_option maxHeartbeats 4000000 in
set_option maxRecDepth 100000 in
theorem k_copy2_10 (l : Launch) (dC : Nat → ClassId) (dI : Nat → Nat → Nat) (dA : Nat → ClassId) (ad sz : Nat) (τ : Nat → Nat → Nat) (pv : Nat → Nat → Value) (L : List Nat) (f : Nat → va_E) (hI : kI dA τ pv L f) (mi a9 n9 : Nat) (hta : τ 0 a9 = 10) (hln : τ 3 a9 ≤ n9) (hn9 : n9 ≤ 1600) (hel : ∀ i, i < τ 3 a9 → ∃ q, pv a9 i = .ref q ∧ τ 0 q = 2) : Met l yJ7_copyOf_6403c wsJ7_copyOf_6403c ({ frames := 1, cells := 1, slots := 1600, locals := 35 } : Room) (va_Pc [.ref a9, .int (nI n9), .ref mi] (kB2 dC dI dA ad sz L f mi)) (va_Qq (fun r u => ∃ q τ2 pv2, r = some q ∧ τ 0 q = 0 ∧ (∀ b, b ≠ q → ∀ j, τ2 j b = τ j b) ∧ (∀ b, b ≠ q → ∀ k, pv2 b k = pv b k) ∧ τ2 0 q = 10 ∧ τ2 3 q = n9 ∧ (∀ i, i < τ 3 a9 → pv2 q i = pv a9 i) ∧ kI dA τ2 pv2 u.1 u.2) (kR dC dI dA (va_A (va_pl L f) sz)) (va_A (va_pl L f) sz)) 1 1600 (va_A (va_pl L f) sz) := by
  refine Met.ofW (cc := cJ7_copyOf_6403c) (maxL := 4) (ret := (some (.array (.object "java/lang/Object")))) (by decide) rfl ?_
  intro p e s m args below meth c s₁ B hml hv
  obtain ⟨rfl, ⟨hsz, hP, hK, hD0, hE⟩, hMi⟩ := hv
  have hx := B.exec
  have hb := B.bytes
  have hr := B.returns
  have hts := atoms_spec (ws := wsJ7_copyOf_6403c) B.pre
  have hown : s.vm.findClass RJ7 = some m.cls := findClass_of_methodNamed B.named
  have hlocks := B.notSynchronized
  subst hsz
  have hD := hD0.self (sz := s.heap.size)
  generalize hAe : va_A (va_pl L f) s.heap.size = A at hD hE ⊢
  have hA : ∀ q : Nat, s.heap.size ≤ q → A q := fun q h => by rw [← hAe]; exact Or.inr h
  have hS : va_S A s.heap s.heap [] := va_S.rf
  have hP : va_P (dC, dI) vwCl (va_pl L f) s.heap := hP
  have hK : va_K (dC, dI) vwCl (tyA dA) s := hK
  have hl := lv_entry ([.ref a9, .int (nI n9), .ref mi]) (n := 4) (Nat.le_of_ble_eq_true rfl)
  rw [lg_entry_eq]
  generalize (lg_sl ([.ref a9, .int (nI n9), .ref mi]) ++ List.replicate (4 - (lg_sl ([.ref a9, .int (nI n9), .ref mi])).length) Slot.unset).toArray = ls at hl ⊢
  have hl : lv_has ls 4 [(0, .ref a9), (1, .int (nI n9)), (2, .ref mi)] := hl
  refine lv_aload_n hx hb dJ7_copyOf_6403c_0 rfl (lv_at hl 2 rfl) ?_
  refine va_ldcM hx hb hown (hts (.classLink RJ7 110 "[Ljava/lang/Object;") (by decide +kernel)) hMi dJ7_copyOf_6403c_1 ?_
  refine W.eq (g2 := F0 m 3 ls [va_rf (some mi), va_rf (some mi)]) rfl ?_
  refine lv_acmp_ne (rx := (some mi)) (ry := (some mi)) (tgt := 13) hx hb dJ7_copyOf_6403c_3 (by decide) (fun h9 => absurd h9 (fun h8 => h8 rfl)) (fun _ => ?_)
  refine lv_iload_n hx hb dJ7_copyOf_6403c_6 rfl (lv_at hl 1 rfl) ?_
  refine kp_newq hx hb hown (hts (.classLink RJ7 2 "java/lang/Object") (by decide +kernel)) (hE.2.2.2.2.2.1 "java/lang/Object" (by decide)) hK hP hD hS hA (n := n9) (by omega) (Nat.le_of_ble_eq_true rfl) (by show 0 + n9 ≤ 1600; omega) dJ7_copyOf_6403c_7 (fun q H hqL hP hD hS => ?_)
  have hI0 := hI
  have h00 : τ 0 q = 0 := hI.t0 hqL
  have hI := hI.push (e := .inl (dA 5, n9, .inr (.inr (.inr (.inr (fun _ => none)))))) hqL
  refine W.widen (k := 1) (n := 1600) (by omega) (by omega) ?_
  refine lv_goto (tgt := 24) hx hb dJ7_copyOf_6403c_10 (by decide) ?_
  refine lv_astore_n (lv' := [(3, .ref q), (0, .ref a9), (1, .int (nI n9)), (2, .ref mi)]) hx hb dJ7_copyOf_6403c_24 rfl hl (by decide) rfl (fun ls hl => ?_)
  refine lv_aload_n hx hb dJ7_copyOf_6403c_25 rfl (lv_at hl 1 rfl) ?_
  refine lv_iconst (v := 0) hx hb dJ7_copyOf_6403c_26 (by decide) ?_
  refine lv_aload_n hx hb dJ7_copyOf_6403c_27 rfl (lv_at hl 0 rfl) ?_
  refine lv_iconst (v := 0) hx hb dJ7_copyOf_6403c_28 (by decide) ?_
  refine lv_aload_n hx hb dJ7_copyOf_6403c_29 rfl (lv_at hl 1 rfl) ?_
  refine kp_alen5 hx hb hK hP hI hta rfl dJ7_copyOf_6403c_30 ?_
  refine lv_iload_n hx hb dJ7_copyOf_6403c_31 rfl (lv_at hl 2 rfl) ?_
  refine va_mmin hx hb (hml.trans hl.1.symm) hown (hts (.methodLink RJ7 304 Lib.Math.min.name) (by decide +kernel)) (hts (.static Lib.Math.min.name) (by decide +kernel)) (hts (.initialized "java/lang/Math") (by decide +kernel)) (hts (.code Lib.Math.min.name Lib.Math.min.code 2 (some .int)) (by decide +kernel)) (Nat.le_of_ble_eq_true rfl) (Nat.le_of_ble_eq_true rfl) (Nat.le_of_ble_eq_true rfl) (Nat.le_of_ble_eq_true rfl) dJ7_copyOf_6403c_32 ?_
  refine lv_topi (nm_r (show (if nI n9 < nI (τ 3 a9) then nI n9 else nI (τ 3 a9)) = nI (τ 3 a9) from kz_min hln (by omega)) ?_)
  obtain ⟨hm0, g0, hf0, hg0⟩ := hI0.qarr hta (Or.inr rfl)
  have hne : a9 ≠ q := fun e9 => hqL (e9 ▸ hm0)
  refine kp_copy (n1 := n9) (g0 := g0) (g := fun _ => none) hx hb (hml.trans hl.1.symm) hown (hts (.methodLink RJ7 150 arraycopyName) (by decide +kernel)) (hts (.native arraycopyName) (by decide +kernel)) (hts (.static arraycopyName) (by decide +kernel)) (hts (.initialized "java/lang/System") (by decide +kernel)) hK hP hD hS (List.mem_append_left _ hm0) (List.mem_append_right _ (List.mem_singleton.mpr rfl)) (by rw [va_up_ne _ _ hne]; exact hf0) (by rw [va_up_self]) (Nat.le_refl _) hln (by omega) (fun i hi y hy => ?_) (Nat.le_of_ble_eq_true rfl) (Nat.le_of_ble_eq_true rfl) dJ7_copyOf_6403c_35 (fun H locs hP hD hS => ?_)
  · obtain ⟨z9, k1, k2⟩ := hel i hi
    have e9 : va_rf (some y) = .ref z9 := by rw [← hy]; exact (hg0 i).trans k1
    cases e9
    exact kd_any hK hP hI k2 rfl rfl (hE.asg "IslandSolver$Row" "java/lang/Object" (by decide +kernel))
  · have h10 : 10 ≤ τ 3 a9 := (hI0.arr hta rfl).2.1.1
    have hI := hI.newA (t := 10) (n := n9) (g := va_cpy g0 (fun _ => none) 0 0 (τ 3 a9)) (List.mem_append_right _ (List.mem_singleton.mpr rfl)) h00 (Or.inr rfl) (by omega)
    refine lv_aload_n hx hb dJ7_copyOf_6403c_38 rfl (lv_at hl 0 rfl) ?_
    refine W.widen (k := 1) (n := 1600) (Nat.le_of_ble_eq_true rfl) (Nat.le_of_ble_eq_true rfl) ?_
    exact W.aret (v := .ref q) hx hb hr (Or.inr ⟨_, rfl⟩) (Or.inr ⟨_, rfl⟩) (fun t ht hW9 => ⟨⟨(some q), ((L ++ [q]), (va_up (va_up f q (.inl (dA 5, n9, .inr (.inr (.inr (.inr (fun _ => none)))))) : Nat → va_E) q (.inl (dA 5, n9, .inr (.inr (.inr (.inr (va_cpy g0 (fun _ => none) 0 0 (τ 3 a9))))))))), rfl, ⟨q, kxt τ q (kgA 10 n9), kux pv q _, rfl, h00, fun b hb => kxt_ne hb, fun b hb => kux_ne hb, kxt_self 0, kxt_self 3, fun i hi => by rw [kux_self, pk_cpy_in (Nat.zero_le _) (by omega), Nat.zero_add, Nat.sub_zero]; exact hg0 i, hI⟩, by rw [ht]; exact hP, va_K.moved hW9.alike hK, hD⟩, hS.F ht⟩) hS.2.2 dJ7_copyOf_6403c_39
set_option maxHeartbeats 4000000 in
set_option maxRecDepth 100000 in
theorem k_copy1_9 (l : Launch) (dC : Nat → ClassId) (dI : Nat → Nat → Nat) (dA : Nat → ClassId) (ad sz : Nat) (τ : Nat → Nat → Nat) (pv : Nat → Nat → Value) (L : List Nat) (f : Nat → va_E) (hI : kI dA τ pv L f) (a9 n9 : Nat) (hta : τ 0 a9 = 9) (hln : τ 3 a9 ≤ n9) (hn9 : n9 ≤ 1600) (hel : ∀ i, i < τ 3 a9 → ∃ q, pv a9 i = .ref q ∧ τ 0 q = 1) : Met l yJ7_copyOf_1904c wsJ7_copyOf_1904c ({ frames := 2, cells := 1, slots := 1600, locals := 58 } : Room) (va_Pc [.ref a9, .int (nI n9)] (kB dC dI dA ad sz L f)) (va_Qq (fun r u => ∃ q τ2 pv2, r = some q ∧ τ 0 q = 0 ∧ (∀ b, b ≠ q → ∀ j, τ2 j b = τ j b) ∧ (∀ b, b ≠ q → ∀ k, pv2 b k = pv b k) ∧ τ2 0 q = 9 ∧ τ2 3 q = n9 ∧ (∀ i, i < τ 3 a9 → pv2 q i = pv a9 i) ∧ kI dA τ2 pv2 u.1 u.2) (kR dC dI dA (va_A (va_pl L f) sz)) (va_A (va_pl L f) sz)) 1 1600 (va_A (va_pl L f) sz) := by
  refine Met.ofW (cc := cJ7_copyOf_1904c) (maxL := 2) (ret := (some (.array (.object "java/lang/Object")))) (by decide) rfl ?_
  intro p e s m args below meth c s₁ B hml hv
  obtain ⟨rfl, hsz, hP, hK, hD0, hE⟩ := hv
  have hx := B.exec
  have hb := B.bytes
  have hr := B.returns
  have hts := atoms_spec (ws := wsJ7_copyOf_1904c) B.pre
  have hown : s.vm.findClass RJ7 = some m.cls := findClass_of_methodNamed B.named
  have hlocks := B.notSynchronized
  subst hsz
  have hD := hD0.self (sz := s.heap.size)
  generalize hAe : va_A (va_pl L f) s.heap.size = A at hD hE ⊢
  have hA : ∀ q : Nat, s.heap.size ≤ q → A q := fun q h => by rw [← hAe]; exact Or.inr h
  have hS : va_S A s.heap s.heap [] := va_S.rf
  have hP : va_P (dC, dI) vwCl (va_pl L f) s.heap := hP
  have hK : va_K (dC, dI) vwCl (tyA dA) s := hK
  have hl := lv_entry ([.ref a9, .int (nI n9)]) (n := 2) (Nat.le_of_ble_eq_true rfl)
  rw [lg_entry_eq]
  generalize (lg_sl ([.ref a9, .int (nI n9)]) ++ List.replicate (2 - (lg_sl ([.ref a9, .int (nI n9)])).length) Slot.unset).toArray = ls at hl ⊢
  have hl : lv_has ls 2 [(0, .ref a9), (1, .int (nI n9))] := hl
  refine lv_aload_n hx hb dJ7_copyOf_1904c_0 rfl (lv_at hl 0 rfl) ?_
  refine lv_iload_n hx hb dJ7_copyOf_1904c_1 rfl (lv_at hl 1 rfl) ?_
  refine lv_aload_n hx hb dJ7_copyOf_1904c_2 rfl (lv_at hl 0 rfl) ?_
  obtain ⟨mi, hMi⟩ := hE.2.2.2.2.2.2.2.2.2.2.1
  obtain ⟨hm0, g0, hf0, hg0⟩ := hI.qarr hta (Or.inl rfl)
  refine va_getC (C := "[Ljava/lang/Object;") hx hb (hml.trans hl.1.symm) hown (hts (.methodLink RJ7 86 ⟨"java/lang/Object", "getClass", "()Ljava/lang/Class;"⟩) (by decide +kernel)) hE.2.2.2.2.2.2.2.2.2.2.2.use (hts (.selects "[Ljava/lang/Object;" ⟨"java/lang/Object", "getClass", "()Ljava/lang/Class;"⟩ ⟨"java/lang/Object", "getClass", "()Ljava/lang/Class;"⟩) (by decide +kernel)) (hts (.instanceMethod ⟨"java/lang/Object", "getClass", "()Ljava/lang/Class;"⟩) (by decide +kernel)) (hts (.native ⟨"java/lang/Object", "getClass", "()Ljava/lang/Class;"⟩) (by decide +kernel)) hMi (kd_recvA hK hP hm0 hf0) (Nat.le_of_ble_eq_true rfl) (Nat.le_of_ble_eq_true rfl) dJ7_copyOf_1904c_3 ?_
  refine kd_callq (va_runS (As := [.ref a9, .int (nI n9), .ref mi]) (rest := []) ⟨hx, hb, hml, hown, hts⟩ (k_copy2_9 l dC dI dA ad _ τ pv _ _ hI mi a9 n9 hta hln hn9 hel) (va_cwS 3 hts gJ7_copyOf_1904c_J7_copyOf_6403c rfl rfl rfl (by decide +kernel) ⟨Nat.le_of_ble_eq_true rfl, Nat.le_of_ble_eq_true rfl⟩) (kd_preS2 hP hD hK hS hA hE hMi) rfl rfl hl.1 rfl (lv_room (Nat.le_of_ble_eq_true rfl)) dJ7_copyOf_1904c_6 ⟨Nat.le_of_ble_eq_true rfl, Nat.le_of_ble_eq_true rfl⟩) hD hS hA (fun r_2 u_1 H locs hw hP hD hS => ?_)
  obtain ⟨q, τ2, pv2, rfl, h00, ht2, hp2, hq0, hq3, hqi, hI⟩ := hw
  refine W.eq (g2 := F0 m 9 ls [.ref q]) rfl ?_
  refine W.widen (k := 1) (n := 1600) (Nat.le_of_ble_eq_true rfl) (Nat.le_of_ble_eq_true rfl) ?_
  exact W.aret (v := .ref q) hx hb hr (Or.inr ⟨_, rfl⟩) (Or.inr ⟨_, rfl⟩) (fun t ht hW9 => ⟨⟨(some q), (u_1.1, u_1.2), rfl, ⟨q, τ2, pv2, rfl, h00, ht2, hp2, hq0, hq3, hqi, hI⟩, by rw [ht]; exact hP, va_K.moved hW9.alike hK, hD⟩, hS.F ht⟩) hS.2.2 dJ7_copyOf_1904c_9
set_option maxHeartbeats 4000000 in
set_option maxRecDepth 100000 in
theorem k_copy1_10 (l : Launch) (dC : Nat → ClassId) (dI : Nat → Nat → Nat) (dA : Nat → ClassId) (ad sz : Nat) (τ : Nat → Nat → Nat) (pv : Nat → Nat → Value) (L : List Nat) (f : Nat → va_E) (hI : kI dA τ pv L f) (a9 n9 : Nat) (hta : τ 0 a9 = 10) (hln : τ 3 a9 ≤ n9) (hn9 : n9 ≤ 1600) (hel : ∀ i, i < τ 3 a9 → ∃ q, pv a9 i = .ref q ∧ τ 0 q = 2) : Met l yJ7_copyOf_1904c wsJ7_copyOf_1904c ({ frames := 2, cells := 1, slots := 1600, locals := 58 } : Room) (va_Pc [.ref a9, .int (nI n9)] (kB dC dI dA ad sz L f)) (va_Qq (fun r u => ∃ q τ2 pv2, r = some q ∧ τ 0 q = 0 ∧ (∀ b, b ≠ q → ∀ j, τ2 j b = τ j b) ∧ (∀ b, b ≠ q → ∀ k, pv2 b k = pv b k) ∧ τ2 0 q = 10 ∧ τ2 3 q = n9 ∧ (∀ i, i < τ 3 a9 → pv2 q i = pv a9 i) ∧ kI dA τ2 pv2 u.1 u.2) (kR dC dI dA (va_A (va_pl L f) sz)) (va_A (va_pl L f) sz)) 1 1600 (va_A (va_pl L f) sz) := by
  refine Met.ofW (cc := cJ7_copyOf_1904c) (maxL := 2) (ret := (some (.array (.object "java/lang/Object")))) (by decide) rfl ?_
  intro p e s m args below meth c s₁ B hml hv
  obtain ⟨rfl, hsz, hP, hK, hD0, hE⟩ := hv
  have hx := B.exec
  have hb := B.bytes
  have hr := B.returns
  have hts := atoms_spec (ws := wsJ7_copyOf_1904c) B.pre
  have hown : s.vm.findClass RJ7 = some m.cls := findClass_of_methodNamed B.named
  have hlocks := B.notSynchronized
  subst hsz
  have hD := hD0.self (sz := s.heap.size)
  generalize hAe : va_A (va_pl L f) s.heap.size = A at hD hE ⊢
  have hA : ∀ q : Nat, s.heap.size ≤ q → A q := fun q h => by rw [← hAe]; exact Or.inr h
  have hS : va_S A s.heap s.heap [] := va_S.rf
  have hP : va_P (dC, dI) vwCl (va_pl L f) s.heap := hP
  have hK : va_K (dC, dI) vwCl (tyA dA) s := hK
  have hl := lv_entry ([.ref a9, .int (nI n9)]) (n := 2) (Nat.le_of_ble_eq_true rfl)
  rw [lg_entry_eq]
  generalize (lg_sl ([.ref a9, .int (nI n9)]) ++ List.replicate (2 - (lg_sl ([.ref a9, .int (nI n9)])).length) Slot.unset).toArray = ls at hl ⊢
  have hl : lv_has ls 2 [(0, .ref a9), (1, .int (nI n9))] := hl
  refine lv_aload_n hx hb dJ7_copyOf_1904c_0 rfl (lv_at hl 0 rfl) ?_
  refine lv_iload_n hx hb dJ7_copyOf_1904c_1 rfl (lv_at hl 1 rfl) ?_
  refine lv_aload_n hx hb dJ7_copyOf_1904c_2 rfl (lv_at hl 0 rfl) ?_
  obtain ⟨mi, hMi⟩ := hE.2.2.2.2.2.2.2.2.2.2.1
  obtain ⟨hm0, g0, hf0, hg0⟩ := hI.qarr hta (Or.inr rfl)
  refine va_getC (C := "[Ljava/lang/Object;") hx hb (hml.trans hl.1.symm) hown (hts (.methodLink RJ7 86 ⟨"java/lang/Object", "getClass", "()Ljava/lang/Class;"⟩) (by decide +kernel)) hE.2.2.2.2.2.2.2.2.2.2.2.use (hts (.selects "[Ljava/lang/Object;" ⟨"java/lang/Object", "getClass", "()Ljava/lang/Class;"⟩ ⟨"java/lang/Object", "getClass", "()Ljava/lang/Class;"⟩) (by decide +kernel)) (hts (.instanceMethod ⟨"java/lang/Object", "getClass", "()Ljava/lang/Class;"⟩) (by decide +kernel)) (hts (.native ⟨"java/lang/Object", "getClass", "()Ljava/lang/Class;"⟩) (by decide +kernel)) hMi (kd_recvA hK hP hm0 hf0) (Nat.le_of_ble_eq_true rfl) (Nat.le_of_ble_eq_true rfl) dJ7_copyOf_1904c_3 ?_
  refine kd_callq (va_runS (As := [.ref a9, .int (nI n9), .ref mi]) (rest := []) ⟨hx, hb, hml, hown, hts⟩ (k_copy2_10 l dC dI dA ad _ τ pv _ _ hI mi a9 n9 hta hln hn9 hel) (va_cwS 3 hts gJ7_copyOf_1904c_J7_copyOf_6403c rfl rfl rfl (by decide +kernel) ⟨Nat.le_of_ble_eq_true rfl, Nat.le_of_ble_eq_true rfl⟩) (kd_preS2 hP hD hK hS hA hE hMi) rfl rfl hl.1 rfl (lv_room (Nat.le_of_ble_eq_true rfl)) dJ7_copyOf_1904c_6 ⟨Nat.le_of_ble_eq_true rfl, Nat.le_of_ble_eq_true rfl⟩) hD hS hA (fun r_2 u_1 H locs hw hP hD hS => ?_)
  obtain ⟨q, τ2, pv2, rfl, h00, ht2, hp2, hq0, hq3, hqi, hI⟩ := hw
  refine W.eq (g2 := F0 m 9 ls [.ref q]) rfl ?_
  refine W.widen (k := 1) (n := 1600) (Nat.le_of_ble_eq_true rfl) (Nat.le_of_ble_eq_true rfl) ?_
  exact W.aret (v := .ref q) hx hb hr (Or.inr ⟨_, rfl⟩) (Or.inr ⟨_, rfl⟩) (fun t ht hW9 => ⟨⟨(some q), (u_1.1, u_1.2), rfl, ⟨q, τ2, pv2, rfl, h00, ht2, hp2, hq0, hq3, hqi, hI⟩, by rw [ht]; exact hP, va_K.moved hW9.alike hK, hD⟩, hS.F ht⟩) hS.2.2 dJ7_copyOf_1904c_9
