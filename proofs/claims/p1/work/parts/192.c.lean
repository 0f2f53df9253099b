set_option maxHeartbeats 4000000 in
set_option maxRecDepth 100000 in
theorem m_body (l : Launch) (dC : Nat → ClassId) (dI : Nat → Nat → Nat) (ad sz : Nat) (mm : Nat) (th : Int32) (a2 : Nat) (a3 : Nat) (a4 : Nat) (a5 : Nat) (a7 : Nat) (a8 : Nat) (a9 : Nat) (a10 : Nat) (a11 : Nat) (a12 : Nat) (a13 : Nat) (a14 : Nat) (a15 : Nat) (a16 : Nat) (a17 : Nat) (a18 : Nat) (a20 : Nat) (a21 : Nat) (mst : Int32) (a29 : Nat) (a30 : Nat) (a31 : Nat) (px : UInt32) (py : UInt32) (pz : UInt32) (ca2 : ClassId) (ca3 : ClassId) (ca4 : ClassId) (f2 : Nat → UInt32) (f3v : Nat → Int32) (f4v : Nat → Int32) (a : UInt32) (b : UInt32) (c3 : UInt32) (g4 : UInt32) : Met l yX4_body wsX4_body ({ frames := 1, cells := 0, slots := 0, locals := 23 } : Room) (va_Pc [.ref mm, .float a, .float b, .float c3, .float g4] (kc_B (dC, dI) vwCl ad sz [(mm, .inr (5, [.int th, .int 0, .ref a2, .ref a3, .ref a4, .ref a5, .int 0, .ref a7, .ref a8, .ref a9, .ref a10, .ref a11, .ref a12, .ref a13, .ref a14, .ref a15, .ref a16, .ref a17, .ref a18, .int 0, .ref a20, .ref a21, .int 8, .float FP.fconst1, .float 1031798784, .int 0, .int 1, .int mst, .int 0, .ref a29, .ref a30, .ref a31, .float px, .float py, .float pz])), (a2, .inl (ca2, 3328, .inr (.inr (.inl f2)))), (a3, .inl (ca3, 256, .inl f3v)), (a4, .inl (ca4, 256, .inl f4v))] [(ca2, .float), (ca3, .boolean), (ca4, .int)])) (va_Qi (fun r fs => (kc_body a b c3 g4 = 0 ∧ fs[0]? = some (.int 0) ∧ r = 0) ∨ (kc_body a b c3 g4 = 1 ∧ fs[0]? = some (.int 1) ∧ r = 0)) (kc_R (S := List Value) (dC, dI) vwCl (va_A [(mm, .inr (5, [.int th, .int 0, .ref a2, .ref a3, .ref a4, .ref a5, .int 0, .ref a7, .ref a8, .ref a9, .ref a10, .ref a11, .ref a12, .ref a13, .ref a14, .ref a15, .ref a16, .ref a17, .ref a18, .int 0, .ref a20, .ref a21, .int 8, .float FP.fconst1, .float 1031798784, .int 0, .int 1, .int mst, .int 0, .ref a29, .ref a30, .ref a31, .float px, .float py, .float pz])), (a2, .inl (ca2, 3328, .inr (.inr (.inl f2)))), (a3, .inl (ca3, 256, .inl f3v)), (a4, .inl (ca4, 256, .inl f4v))] sz) (fun fs => [(mm, .inr (5, fs))]) (fun _ => [])) (va_A [(mm, .inr (5, [.int th, .int 0, .ref a2, .ref a3, .ref a4, .ref a5, .int 0, .ref a7, .ref a8, .ref a9, .ref a10, .ref a11, .ref a12, .ref a13, .ref a14, .ref a15, .ref a16, .ref a17, .ref a18, .int 0, .ref a20, .ref a21, .int 8, .float FP.fconst1, .float 1031798784, .int 0, .int 1, .int mst, .int 0, .ref a29, .ref a30, .ref a31, .float px, .float py, .float pz])), (a2, .inl (ca2, 3328, .inr (.inr (.inl f2)))), (a3, .inl (ca3, 256, .inl f3v)), (a4, .inl (ca4, 256, .inl f4v))] sz)) 0 0 (va_A [(mm, .inr (5, [.int th, .int 0, .ref a2, .ref a3, .ref a4, .ref a5, .int 0, .ref a7, .ref a8, .ref a9, .ref a10, .ref a11, .ref a12, .ref a13, .ref a14, .ref a15, .ref a16, .ref a17, .ref a18, .int 0, .ref a20, .ref a21, .int 8, .float FP.fconst1, .float 1031798784, .int 0, .int 1, .int mst, .int 0, .ref a29, .ref a30, .ref a31, .float px, .float py, .float pz])), (a2, .inl (ca2, 3328, .inr (.inr (.inl f2)))), (a3, .inl (ca3, 256, .inl f3v)), (a4, .inl (ca4, 256, .inl f4v))] sz) := by
  refine Met.ofW (cc := cX4_body) (maxL := 8) (ret := (some .int)) (by decide) rfl ?_
  intro p e s m args below meth c s₁ B hml hv
  obtain ⟨rfl, hsz, hP, hK, hD0, hE⟩ := hv
  have hx := B.exec
  have hb := B.bytes
  have hr := B.returns
  have hts := atoms_spec (ws := wsX4_body) B.pre
  have hown : s.vm.findClass RX4 = some m.cls := findClass_of_methodNamed B.named
  have hlocks := B.notSynchronized
  have i_X4 : ∀ w ∈ u_ws RX4 TX4 35, w ∈ wsX4_body := (by decide +kernel)
  subst hsz
  have hD := hD0.self (sz := s.heap.size)
  generalize hAe : va_A [(mm, .inr (5, [.int th, .int 0, .ref a2, .ref a3, .ref a4, .ref a5, .int 0, .ref a7, .ref a8, .ref a9, .ref a10, .ref a11, .ref a12, .ref a13, .ref a14, .ref a15, .ref a16, .ref a17, .ref a18, .int 0, .ref a20, .ref a21, .int 8, .float FP.fconst1, .float 1031798784, .int 0, .int 1, .int mst, .int 0, .ref a29, .ref a30, .ref a31, .float px, .float py, .float pz])), (a2, .inl (ca2, 3328, .inr (.inr (.inl f2)))), (a3, .inl (ca3, 256, .inl f3v)), (a4, .inl (ca4, 256, .inl f4v))] s.heap.size = A at hD hE ⊢
  have hA : ∀ q : Nat, s.heap.size ≤ q → A q := fun q h => by rw [← hAe]; exact Or.inr h
  have hS : va_S A s.heap s.heap [] := va_S.rf
  have hP : va_P (dC, dI) vwCl [(mm, .inr (5, [.int th, .int 0, .ref a2, .ref a3, .ref a4, .ref a5, .int 0, .ref a7, .ref a8, .ref a9, .ref a10, .ref a11, .ref a12, .ref a13, .ref a14, .ref a15, .ref a16, .ref a17, .ref a18, .int 0, .ref a20, .ref a21, .int 8, .float FP.fconst1, .float 1031798784, .int 0, .int 1, .int mst, .int 0, .ref a29, .ref a30, .ref a31, .float px, .float py, .float pz])), (a2, .inl (ca2, 3328, .inr (.inr (.inl f2)))), (a3, .inl (ca3, 256, .inl f3v)), (a4, .inl (ca4, 256, .inl f4v))] s.heap := hP
  have hl := lv_entry ([.ref mm, .float a, .float b, .float c3, .float g4]) (n := 8) (Nat.le_of_ble_eq_true rfl)
  rw [lg_entry_eq]
  generalize (lg_sl ([.ref mm, .float a, .float b, .float c3, .float g4]) ++ List.replicate (8 - (lg_sl ([.ref mm, .float a, .float b, .float c3, .float g4])).length) Slot.unset).toArray = ls at hl ⊢
  have hl : lv_has ls 8 [(0, .ref mm), (1, .float a), (2, .float b), (3, .float c3), (4, .float g4)] := hl
  refine lv_fload_n hx hb dX4_body_0 rfl (lv_at hl 1 rfl) ?_
  refine lv_fconst0 hx hb dX4_body_1 ?_
  refine lv_ldcf (v := 1098907648) hx hb hown (hts (.constantFloat RX4 96 (1098907648)) (by decide +kernel)) dX4_body_2 ?_
  refine kc_calli (wc := []) (wr := [(mm, .inr (5, [.int th, .int 0, .ref a2, .ref a3, .ref a4, .ref a5, .int 0, .ref a7, .ref a8, .ref a9, .ref a10, .ref a11, .ref a12, .ref a13, .ref a14, .ref a15, .ref a16, .ref a17, .ref a18, .int 0, .ref a20, .ref a21, .int 8, .float FP.fconst1, .float 1031798784, .int 0, .int 1, .int mst, .int 0, .ref a29, .ref a30, .ref a31, .float px, .float py, .float pz])), (a2, .inl (ca2, 3328, .inr (.inr (.inl f2)))), (a3, .inl (ca3, 256, .inl f3v)), (a4, .inl (ca4, 256, .inl f4v))]) (tyr := [(ca2, .float), (ca3, .boolean), (ca4, .int)]) (va_runS (As := [.float a, .float FP.fconst0, .float 1098907648]) (rest := []) ⟨hx, hb, hml, hown, hts⟩ (c_within l dC dI ad _ a FP.fconst0 1098907648) (va_cwS 3 hts gX4_body_X4_within rfl rfl rfl (by decide +kernel) ⟨Nat.le_of_ble_eq_true rfl, Nat.le_of_ble_eq_true rfl⟩) (kc_preS hP hD hK hS hA hE [] rfl (by decide) [] rfl) rfl rfl hl.1 rfl (lv_room (Nat.le_of_ble_eq_true rfl)) dX4_body_4 ⟨Nat.le_of_ble_eq_true rfl, Nat.le_of_ble_eq_true rfl⟩) hP hD hK hS hA [] [0, 1, 2, 3] rfl rfl (by decide) (by decide) [0, 1, 2] rfl (fun r_1 u H locs hw hP hD hK hS => ?_)
  have hP : va_P (dC, dI) vwCl [(mm, .inr (5, [.int th, .int 0, .ref a2, .ref a3, .ref a4, .ref a5, .int 0, .ref a7, .ref a8, .ref a9, .ref a10, .ref a11, .ref a12, .ref a13, .ref a14, .ref a15, .ref a16, .ref a17, .ref a18, .int 0, .ref a20, .ref a21, .int 8, .float FP.fconst1, .float 1031798784, .int 0, .int 1, .int mst, .int 0, .ref a29, .ref a30, .ref a31, .float px, .float py, .float pz])), (a2, .inl (ca2, 3328, .inr (.inr (.inl f2)))), (a3, .inl (ca3, 256, .inl f3v)), (a4, .inl (ca4, 256, .inl f4v))] H := hP
  have hD : va_D A [(mm, .inr (5, [.int th, .int 0, .ref a2, .ref a3, .ref a4, .ref a5, .int 0, .ref a7, .ref a8, .ref a9, .ref a10, .ref a11, .ref a12, .ref a13, .ref a14, .ref a15, .ref a16, .ref a17, .ref a18, .int 0, .ref a20, .ref a21, .int 8, .float FP.fconst1, .float 1031798784, .int 0, .int 1, .int mst, .int 0, .ref a29, .ref a30, .ref a31, .float px, .float py, .float pz])), (a2, .inl (ca2, 3328, .inr (.inr (.inl f2)))), (a3, .inl (ca3, 256, .inl f3v)), (a4, .inl (ca4, 256, .inl f4v))] := hD
  have hK : va_K (dC, dI) vwCl [(ca2, .float), (ca3, .boolean), (ca4, .int)] s := hK.sub [0, 1, 2] rfl
  rcases hw with ⟨k_2, rfl⟩ | ⟨k_3, rfl⟩
  · refine lv_if_eq (tgt := 45) hx hb dX4_body_7 (by decide) (fun h9 => absurd h9 (by decide)) (fun _ => ?_)
    refine lv_fload_n hx hb dX4_body_10 rfl (lv_at hl 2 rfl) ?_
    refine lv_fconst0 hx hb dX4_body_11 ?_
    refine lv_ldcf (v := 1098907648) hx hb hown (hts (.constantFloat RX4 96 (1098907648)) (by decide +kernel)) dX4_body_12 ?_
    refine kc_calli (wc := []) (wr := [(mm, .inr (5, [.int th, .int 0, .ref a2, .ref a3, .ref a4, .ref a5, .int 0, .ref a7, .ref a8, .ref a9, .ref a10, .ref a11, .ref a12, .ref a13, .ref a14, .ref a15, .ref a16, .ref a17, .ref a18, .int 0, .ref a20, .ref a21, .int 8, .float FP.fconst1, .float 1031798784, .int 0, .int 1, .int mst, .int 0, .ref a29, .ref a30, .ref a31, .float px, .float py, .float pz])), (a2, .inl (ca2, 3328, .inr (.inr (.inl f2)))), (a3, .inl (ca3, 256, .inl f3v)), (a4, .inl (ca4, 256, .inl f4v))]) (tyr := [(ca2, .float), (ca3, .boolean), (ca4, .int)]) (va_runS (As := [.float b, .float FP.fconst0, .float 1098907648]) (rest := []) ⟨hx, hb, hml, hown, hts⟩ (c_within l dC dI ad _ b FP.fconst0 1098907648) (va_cwS 3 hts gX4_body_X4_within rfl rfl rfl (by decide +kernel) ⟨Nat.le_of_ble_eq_true rfl, Nat.le_of_ble_eq_true rfl⟩) (kc_preS hP hD hK hS hA hE [] rfl (by decide) [] rfl) rfl rfl hl.1 rfl (lv_room (Nat.le_of_ble_eq_true rfl)) dX4_body_14 ⟨Nat.le_of_ble_eq_true rfl, Nat.le_of_ble_eq_true rfl⟩) hP hD hK hS hA [] [0, 1, 2, 3] rfl rfl (by decide) (by decide) [0, 1, 2] rfl (fun r_4 u H locs hw hP hD hK hS => ?_)
    have hP : va_P (dC, dI) vwCl [(mm, .inr (5, [.int th, .int 0, .ref a2, .ref a3, .ref a4, .ref a5, .int 0, .ref a7, .ref a8, .ref a9, .ref a10, .ref a11, .ref a12, .ref a13, .ref a14, .ref a15, .ref a16, .ref a17, .ref a18, .int 0, .ref a20, .ref a21, .int 8, .float FP.fconst1, .float 1031798784, .int 0, .int 1, .int mst, .int 0, .ref a29, .ref a30, .ref a31, .float px, .float py, .float pz])), (a2, .inl (ca2, 3328, .inr (.inr (.inl f2)))), (a3, .inl (ca3, 256, .inl f3v)), (a4, .inl (ca4, 256, .inl f4v))] H := hP
    have hD : va_D A [(mm, .inr (5, [.int th, .int 0, .ref a2, .ref a3, .ref a4, .ref a5, .int 0, .ref a7, .ref a8, .ref a9, .ref a10, .ref a11, .ref a12, .ref a13, .ref a14, .ref a15, .ref a16, .ref a17, .ref a18, .int 0, .ref a20, .ref a21, .int 8, .float FP.fconst1, .float 1031798784, .int 0, .int 1, .int mst, .int 0, .ref a29, .ref a30, .ref a31, .float px, .float py, .float pz])), (a2, .inl (ca2, 3328, .inr (.inr (.inl f2)))), (a3, .inl (ca3, 256, .inl f3v)), (a4, .inl (ca4, 256, .inl f4v))] := hD
    have hK : va_K (dC, dI) vwCl [(ca2, .float), (ca3, .boolean), (ca4, .int)] s := hK.sub [0, 1, 2] rfl
    rcases hw with ⟨k_5, rfl⟩ | ⟨k_6, rfl⟩
    · refine lv_if_eq (tgt := 45) hx hb dX4_body_17 (by decide) (fun h9 => absurd h9 (by decide)) (fun _ => ?_)
      refine lv_fload_n hx hb dX4_body_20 rfl (lv_at hl 3 rfl) ?_
      refine lv_fconst0 hx hb dX4_body_21 ?_
      refine lv_ldcf (v := 1098907648) hx hb hown (hts (.constantFloat RX4 96 (1098907648)) (by decide +kernel)) dX4_body_22 ?_
      refine kc_calli (wc := []) (wr := [(mm, .inr (5, [.int th, .int 0, .ref a2, .ref a3, .ref a4, .ref a5, .int 0, .ref a7, .ref a8, .ref a9, .ref a10, .ref a11, .ref a12, .ref a13, .ref a14, .ref a15, .ref a16, .ref a17, .ref a18, .int 0, .ref a20, .ref a21, .int 8, .float FP.fconst1, .float 1031798784, .int 0, .int 1, .int mst, .int 0, .ref a29, .ref a30, .ref a31, .float px, .float py, .float pz])), (a2, .inl (ca2, 3328, .inr (.inr (.inl f2)))), (a3, .inl (ca3, 256, .inl f3v)), (a4, .inl (ca4, 256, .inl f4v))]) (tyr := [(ca2, .float), (ca3, .boolean), (ca4, .int)]) (va_runS (As := [.float c3, .float FP.fconst0, .float 1098907648]) (rest := []) ⟨hx, hb, hml, hown, hts⟩ (c_within l dC dI ad _ c3 FP.fconst0 1098907648) (va_cwS 3 hts gX4_body_X4_within rfl rfl rfl (by decide +kernel) ⟨Nat.le_of_ble_eq_true rfl, Nat.le_of_ble_eq_true rfl⟩) (kc_preS hP hD hK hS hA hE [] rfl (by decide) [] rfl) rfl rfl hl.1 rfl (lv_room (Nat.le_of_ble_eq_true rfl)) dX4_body_24 ⟨Nat.le_of_ble_eq_true rfl, Nat.le_of_ble_eq_true rfl⟩) hP hD hK hS hA [] [0, 1, 2, 3] rfl rfl (by decide) (by decide) [0, 1, 2] rfl (fun r_7 u H locs hw hP hD hK hS => ?_)
      have hP : va_P (dC, dI) vwCl [(mm, .inr (5, [.int th, .int 0, .ref a2, .ref a3, .ref a4, .ref a5, .int 0, .ref a7, .ref a8, .ref a9, .ref a10, .ref a11, .ref a12, .ref a13, .ref a14, .ref a15, .ref a16, .ref a17, .ref a18, .int 0, .ref a20, .ref a21, .int 8, .float FP.fconst1, .float 1031798784, .int 0, .int 1, .int mst, .int 0, .ref a29, .ref a30, .ref a31, .float px, .float py, .float pz])), (a2, .inl (ca2, 3328, .inr (.inr (.inl f2)))), (a3, .inl (ca3, 256, .inl f3v)), (a4, .inl (ca4, 256, .inl f4v))] H := hP
      have hD : va_D A [(mm, .inr (5, [.int th, .int 0, .ref a2, .ref a3, .ref a4, .ref a5, .int 0, .ref a7, .ref a8, .ref a9, .ref a10, .ref a11, .ref a12, .ref a13, .ref a14, .ref a15, .ref a16, .ref a17, .ref a18, .int 0, .ref a20, .ref a21, .int 8, .float FP.fconst1, .float 1031798784, .int 0, .int 1, .int mst, .int 0, .ref a29, .ref a30, .ref a31, .float px, .float py, .float pz])), (a2, .inl (ca2, 3328, .inr (.inr (.inl f2)))), (a3, .inl (ca3, 256, .inl f3v)), (a4, .inl (ca4, 256, .inl f4v))] := hD
      have hK : va_K (dC, dI) vwCl [(ca2, .float), (ca3, .boolean), (ca4, .int)] s := hK.sub [0, 1, 2] rfl
      rcases hw with ⟨k_8, rfl⟩ | ⟨k_9, rfl⟩
      · refine lv_if_eq (tgt := 45) hx hb dX4_body_27 (by decide) (fun h9 => absurd h9 (by decide)) (fun _ => ?_)
        refine lv_fload hx hb dX4_body_30 (lv_at hl 4 rfl) ?_
        refine lv_fconst0 hx hb dX4_body_32 ?_
        refine lv_ldcf (v := 1098907648) hx hb hown (hts (.constantFloat RX4 96 (1098907648)) (by decide +kernel)) dX4_body_33 ?_
        refine kc_calli (wc := []) (wr := [(mm, .inr (5, [.int th, .int 0, .ref a2, .ref a3, .ref a4, .ref a5, .int 0, .ref a7, .ref a8, .ref a9, .ref a10, .ref a11, .ref a12, .ref a13, .ref a14, .ref a15, .ref a16, .ref a17, .ref a18, .int 0, .ref a20, .ref a21, .int 8, .float FP.fconst1, .float 1031798784, .int 0, .int 1, .int mst, .int 0, .ref a29, .ref a30, .ref a31, .float px, .float py, .float pz])), (a2, .inl (ca2, 3328, .inr (.inr (.inl f2)))), (a3, .inl (ca3, 256, .inl f3v)), (a4, .inl (ca4, 256, .inl f4v))]) (tyr := [(ca2, .float), (ca3, .boolean), (ca4, .int)]) (va_runS (As := [.float g4, .float FP.fconst0, .float 1098907648]) (rest := []) ⟨hx, hb, hml, hown, hts⟩ (c_within l dC dI ad _ g4 FP.fconst0 1098907648) (va_cwS 3 hts gX4_body_X4_within rfl rfl rfl (by decide +kernel) ⟨Nat.le_of_ble_eq_true rfl, Nat.le_of_ble_eq_true rfl⟩) (kc_preS hP hD hK hS hA hE [] rfl (by decide) [] rfl) rfl rfl hl.1 rfl (lv_room (Nat.le_of_ble_eq_true rfl)) dX4_body_35 ⟨Nat.le_of_ble_eq_true rfl, Nat.le_of_ble_eq_true rfl⟩) hP hD hK hS hA [] [0, 1, 2, 3] rfl rfl (by decide) (by decide) [0, 1, 2] rfl (fun r_10 u H locs hw hP hD hK hS => ?_)
        have hP : va_P (dC, dI) vwCl [(mm, .inr (5, [.int th, .int 0, .ref a2, .ref a3, .ref a4, .ref a5, .int 0, .ref a7, .ref a8, .ref a9, .ref a10, .ref a11, .ref a12, .ref a13, .ref a14, .ref a15, .ref a16, .ref a17, .ref a18, .int 0, .ref a20, .ref a21, .int 8, .float FP.fconst1, .float 1031798784, .int 0, .int 1, .int mst, .int 0, .ref a29, .ref a30, .ref a31, .float px, .float py, .float pz])), (a2, .inl (ca2, 3328, .inr (.inr (.inl f2)))), (a3, .inl (ca3, 256, .inl f3v)), (a4, .inl (ca4, 256, .inl f4v))] H := hP
        have hD : va_D A [(mm, .inr (5, [.int th, .int 0, .ref a2, .ref a3, .ref a4, .ref a5, .int 0, .ref a7, .ref a8, .ref a9, .ref a10, .ref a11, .ref a12, .ref a13, .ref a14, .ref a15, .ref a16, .ref a17, .ref a18, .int 0, .ref a20, .ref a21, .int 8, .float FP.fconst1, .float 1031798784, .int 0, .int 1, .int mst, .int 0, .ref a29, .ref a30, .ref a31, .float px, .float py, .float pz])), (a2, .inl (ca2, 3328, .inr (.inr (.inl f2)))), (a3, .inl (ca3, 256, .inl f3v)), (a4, .inl (ca4, 256, .inl f4v))] := hD
        have hK : va_K (dC, dI) vwCl [(ca2, .float), (ca3, .boolean), (ca4, .int)] s := hK.sub [0, 1, 2] rfl
        rcases hw with ⟨k_11, rfl⟩ | ⟨k_12, rfl⟩
        · refine lv_if_eq (tgt := 45) hx hb dX4_body_38 (by decide) (fun h9 => absurd h9 (by decide)) (fun _ => ?_)
          refine lv_iconst (v := 1) hx hb dX4_body_41 (by decide) ?_
          refine lv_goto (tgt := 46) hx hb dX4_body_42 (by decide) ?_
          refine lv_istore (lv' := [(5, .int 1), (0, .ref mm), (1, .float a), (2, .float b), (3, .float c3), (4, .float g4)]) hx hb dX4_body_46 hl (by decide) rfl (fun ls hl => ?_)
          refine lv_aload_n hx hb dX4_body_48 rfl (lv_at hl 1 rfl) ?_
          refine lv_iload hx hb dX4_body_49 (lv_at hl 0 rfl) ?_
          refine lv_aload_n hx hb dX4_body_51 rfl (lv_at hl 1 rfl) ?_
          refine va_get (D := (dC, dI)) (ci := 5) (v := .int 0) (C := RX4) (T := TX4) (N := 35) hx hb hts i_X4 hown hK hP 0 rfl rfl 1 (by decide) (hts (.fieldLink RX4 93 "IslandSolverModel" "bodies" "I") (by decide +kernel)) (fun _ h9 => h9) rfl dX4_body_52 ?_
          refine lv_sipush (v := 256) hx hb dX4_body_55 (by decide) ?_
          refine lv_icmp_ge (tgt := 65) hx hb dX4_body_58 (by decide) (fun h9 => absurd h9 (by decide)) (fun _ => ?_)
          refine lv_iconst (v := 1) hx hb dX4_body_61 (by decide) ?_
          refine lv_goto (tgt := 66) hx hb dX4_body_62 (by decide) ?_
          refine lv_iconst (v := 1) hx hb dX4_body_66 (by decide) ?_
          refine kc_calli (wc := [(mm, .inr (5, [.int th, .int 0, .ref a2, .ref a3, .ref a4, .ref a5, .int 0, .ref a7, .ref a8, .ref a9, .ref a10, .ref a11, .ref a12, .ref a13, .ref a14, .ref a15, .ref a16, .ref a17, .ref a18, .int 0, .ref a20, .ref a21, .int 8, .float FP.fconst1, .float 1031798784, .int 0, .int 1, .int mst, .int 0, .ref a29, .ref a30, .ref a31, .float px, .float py, .float pz]))]) (wr := [(a2, .inl (ca2, 3328, .inr (.inr (.inl f2)))), (a3, .inl (ca3, 256, .inl f3v)), (a4, .inl (ca4, 256, .inl f4v))]) (tyr := [(ca2, .float), (ca3, .boolean), (ca4, .int)]) (va_runV (As := [.int 1, .int 1, .int 1]) (rest := []) ⟨hx, hb, hml, hown, hts⟩ (c_goes1 l dC dI ad _ mm th a2 a3 a4 a5 a7 a8 a9 a10 a11 a12 a13 a14 a15 a16 a17 a18 a20 a21 mst a29 a30 a31 px py pz) (cwV 3 hts gX4_body_X4_goes rfl rfl rfl (by decide +kernel) ⟨Nat.le_of_ble_eq_true rfl, Nat.le_of_ble_eq_true rfl⟩) (kc_preV hP hD hK hS hA hE [0] rfl (by decide) [] rfl 0 rfl rfl) rfl rfl hl.1 rfl (lv_room (Nat.le_of_ble_eq_true rfl)) dX4_body_67 ⟨Nat.le_of_ble_eq_true rfl, Nat.le_of_ble_eq_true rfl⟩) hP hD hK hS hA [0] [1, 2, 3] rfl rfl (by decide) (by decide) [0, 1, 2] rfl (fun r_13 u H locs hw hP hD hK hS => ?_)
          subst hw
          have hP : va_P (dC, dI) vwCl [(a2, .inl (ca2, 3328, .inr (.inr (.inl f2)))), (a3, .inl (ca3, 256, .inl f3v)), (a4, .inl (ca4, 256, .inl f4v)), (mm, .inr (5, [.int 0, .int 0, .ref a2, .ref a3, .ref a4, .ref a5, .int 0, .ref a7, .ref a8, .ref a9, .ref a10, .ref a11, .ref a12, .ref a13, .ref a14, .ref a15, .ref a16, .ref a17, .ref a18, .int 0, .ref a20, .ref a21, .int 8, .float FP.fconst1, .float 1031798784, .int 0, .int 1, .int mst, .int 0, .ref a29, .ref a30, .ref a31, .float px, .float py, .float pz]))] H := hP
          have hD : va_D A [(a2, .inl (ca2, 3328, .inr (.inr (.inl f2)))), (a3, .inl (ca3, 256, .inl f3v)), (a4, .inl (ca4, 256, .inl f4v)), (mm, .inr (5, [.int 0, .int 0, .ref a2, .ref a3, .ref a4, .ref a5, .int 0, .ref a7, .ref a8, .ref a9, .ref a10, .ref a11, .ref a12, .ref a13, .ref a14, .ref a15, .ref a16, .ref a17, .ref a18, .int 0, .ref a20, .ref a21, .int 8, .float FP.fconst1, .float 1031798784, .int 0, .int 1, .int mst, .int 0, .ref a29, .ref a30, .ref a31, .float px, .float py, .float pz]))] := hD
          have hK : va_K (dC, dI) vwCl [(ca2, .float), (ca3, .boolean), (ca4, .int)] s := hK.sub [0, 1, 2] rfl
          refine lv_if_ne (tgt := 75) hx hb dX4_body_70 (by decide) (fun _ => ?_) (fun h9 => absurd h9 (by decide))
          refine lv_bipush (v := 13) hx hb dX4_body_75 (by decide) ?_
          refine lv_aload_n hx hb dX4_body_77 rfl (lv_at hl 1 rfl) ?_
          refine va_get (D := (dC, dI)) (ci := 5) (v := .int 0) (C := RX4) (T := TX4) (N := 35) hx hb hts i_X4 hown hK hP 3 rfl rfl 1 (by decide) (hts (.fieldLink RX4 93 "IslandSolverModel" "bodies" "I") (by decide +kernel)) (fun _ h9 => h9) rfl dX4_body_78 ?_
          refine lv_imul hx hb dX4_body_81 ?_
          refine lv_topi (fun x_14 ex_14 => ?_)
          obtain rfl : x_14 = 0 := by rw [ex_14]; decide
          refine lv_istore (lv' := [(6, .int 0), (5, .int 1), (0, .ref mm), (1, .float a), (2, .float b), (3, .float c3), (4, .float g4)]) hx hb dX4_body_82 hl (by decide) rfl (fun ls hl => ?_)
          refine lv_iconst (v := 0) hx hb dX4_body_84 (by decide) ?_
          refine lv_istore (lv' := [(7, .int 0), (6, .int 0), (5, .int 1), (0, .ref mm), (1, .float a), (2, .float b), (3, .float c3), (4, .float g4)]) hx hb dX4_body_85 hl (by decide) rfl (fun ls hl => ?_)
          refine lv_iload hx hb dX4_body_87 (lv_at hl 0 rfl) ?_
          refine lv_bipush (v := 13) hx hb dX4_body_89 (by decide) ?_
          refine lv_icmp_ge (tgt := 111) hx hb dX4_body_91 (by decide) (fun h9 => absurd h9 (by decide)) (fun _ => ?_)
          refine lv_aload_n hx hb dX4_body_94 rfl (lv_at hl 3 rfl) ?_
          refine va_get (D := (dC, dI)) (ci := 5) (v := .ref a2) (C := RX4) (T := TX4) (N := 35) hx hb hts i_X4 hown hK hP 3 rfl rfl 2 (by decide) (hts (.fieldLink RX4 7 "IslandSolverModel" "body" "[F") (by decide +kernel)) (fun _ h9 => h9) rfl dX4_body_95 ?_
          refine lv_iload hx hb dX4_body_98 (lv_at hl 1 rfl) ?_
          refine lv_iload hx hb dX4_body_100 (lv_at hl 0 rfl) ?_
          refine lv_iadd hx hb dX4_body_102 ?_
          refine lv_topi (fun x_15 ex_15 => ?_)
          obtain rfl : x_15 = 0 := by rw [ex_15]; decide
          refine lv_fconst0 hx hb dX4_body_103 ?_
          refine va_fast hx hb hK hP hD hS 0 0 rfl rfl (i := 0) (x := FP.fconst0) (by unfold vp_in; decide) dX4_body_104 (fun H locs hP hD hS => ?_)
          have hP : va_P (dC, dI) vwCl [(a2, .inl (ca2, 3328, .inr (.inr (.inl (vf_upd f2 (0 : Int32).toNatClampNeg FP.fconst0))))), (a3, .inl (ca3, 256, .inl f3v)), (a4, .inl (ca4, 256, .inl f4v)), (mm, .inr (5, [.int 0, .int 0, .ref a2, .ref a3, .ref a4, .ref a5, .int 0, .ref a7, .ref a8, .ref a9, .ref a10, .ref a11, .ref a12, .ref a13, .ref a14, .ref a15, .ref a16, .ref a17, .ref a18, .int 0, .ref a20, .ref a21, .int 8, .float FP.fconst1, .float 1031798784, .int 0, .int 1, .int mst, .int 0, .ref a29, .ref a30, .ref a31, .float px, .float py, .float pz]))] H := hP
          have hD : va_D A [(a2, .inl (ca2, 3328, .inr (.inr (.inl (vf_upd f2 (0 : Int32).toNatClampNeg FP.fconst0))))), (a3, .inl (ca3, 256, .inl f3v)), (a4, .inl (ca4, 256, .inl f4v)), (mm, .inr (5, [.int 0, .int 0, .ref a2, .ref a3, .ref a4, .ref a5, .int 0, .ref a7, .ref a8, .ref a9, .ref a10, .ref a11, .ref a12, .ref a13, .ref a14, .ref a15, .ref a16, .ref a17, .ref a18, .int 0, .ref a20, .ref a21, .int 8, .float FP.fconst1, .float 1031798784, .int 0, .int 1, .int mst, .int 0, .ref a29, .ref a30, .ref a31, .float px, .float py, .float pz]))] := hD
          generalize hff_17 : vf_upd f2 (0 : Int32).toNatClampNeg FP.fconst0 = f_17 at hP hD
          refine lv_iinc (v := 1) (lv' := [(7, .int 1), (6, .int 0), (5, .int 1), (0, .ref mm), (1, .float a), (2, .float b), (3, .float c3), (4, .float g4)]) hx hb dX4_body_105 hl (k := 0) rfl (by decide) (by decide) rfl (fun ls hl => ?_)
          refine lv_goto (tgt := 87) hx hb dX4_body_108 (by decide) ?_
          refine lv_iload hx hb dX4_body_87 (lv_at hl 0 rfl) ?_
          refine lv_bipush (v := 13) hx hb dX4_body_89 (by decide) ?_
          refine lv_icmp_ge (tgt := 111) hx hb dX4_body_91 (by decide) (fun h9 => absurd h9 (by decide)) (fun _ => ?_)
          refine lv_aload_n hx hb dX4_body_94 rfl (lv_at hl 3 rfl) ?_
          refine va_get (D := (dC, dI)) (ci := 5) (v := .ref a2) (C := RX4) (T := TX4) (N := 35) hx hb hts i_X4 hown hK hP 3 rfl rfl 2 (by decide) (hts (.fieldLink RX4 7 "IslandSolverModel" "body" "[F") (by decide +kernel)) (fun _ h9 => h9) rfl dX4_body_95 ?_
          refine lv_iload hx hb dX4_body_98 (lv_at hl 1 rfl) ?_
          refine lv_iload hx hb dX4_body_100 (lv_at hl 0 rfl) ?_
          refine lv_iadd hx hb dX4_body_102 ?_
          refine lv_topi (fun x_18 ex_18 => ?_)
          obtain rfl : x_18 = 1 := by rw [ex_18]; decide
          refine lv_fconst0 hx hb dX4_body_103 ?_
          refine va_fast hx hb hK hP hD hS 0 0 rfl rfl (i := 1) (x := FP.fconst0) (by unfold vp_in; decide) dX4_body_104 (fun H locs hP hD hS => ?_)
          have hP : va_P (dC, dI) vwCl [(a2, .inl (ca2, 3328, .inr (.inr (.inl (vf_upd f_17 (1 : Int32).toNatClampNeg FP.fconst0))))), (a3, .inl (ca3, 256, .inl f3v)), (a4, .inl (ca4, 256, .inl f4v)), (mm, .inr (5, [.int 0, .int 0, .ref a2, .ref a3, .ref a4, .ref a5, .int 0, .ref a7, .ref a8, .ref a9, .ref a10, .ref a11, .ref a12, .ref a13, .ref a14, .ref a15, .ref a16, .ref a17, .ref a18, .int 0, .ref a20, .ref a21, .int 8, .float FP.fconst1, .float 1031798784, .int 0, .int 1, .int mst, .int 0, .ref a29, .ref a30, .ref a31, .float px, .float py, .float pz]))] H := hP
          have hD : va_D A [(a2, .inl (ca2, 3328, .inr (.inr (.inl (vf_upd f_17 (1 : Int32).toNatClampNeg FP.fconst0))))), (a3, .inl (ca3, 256, .inl f3v)), (a4, .inl (ca4, 256, .inl f4v)), (mm, .inr (5, [.int 0, .int 0, .ref a2, .ref a3, .ref a4, .ref a5, .int 0, .ref a7, .ref a8, .ref a9, .ref a10, .ref a11, .ref a12, .ref a13, .ref a14, .ref a15, .ref a16, .ref a17, .ref a18, .int 0, .ref a20, .ref a21, .int 8, .float FP.fconst1, .float 1031798784, .int 0, .int 1, .int mst, .int 0, .ref a29, .ref a30, .ref a31, .float px, .float py, .float pz]))] := hD
          generalize hff_20 : vf_upd f_17 (1 : Int32).toNatClampNeg FP.fconst0 = f_20 at hP hD
          refine lv_iinc (v := 2) (lv' := [(7, .int 2), (6, .int 0), (5, .int 1), (0, .ref mm), (1, .float a), (2, .float b), (3, .float c3), (4, .float g4)]) hx hb dX4_body_105 hl (k := 0) rfl (by decide) (by decide) rfl (fun ls hl => ?_)
          refine lv_goto (tgt := 87) hx hb dX4_body_108 (by decide) ?_
          refine lv_iload hx hb dX4_body_87 (lv_at hl 0 rfl) ?_
          refine lv_bipush (v := 13) hx hb dX4_body_89 (by decide) ?_
          refine lv_icmp_ge (tgt := 111) hx hb dX4_body_91 (by decide) (fun h9 => absurd h9 (by decide)) (fun _ => ?_)
          refine lv_aload_n hx hb dX4_body_94 rfl (lv_at hl 3 rfl) ?_
          refine va_get (D := (dC, dI)) (ci := 5) (v := .ref a2) (C := RX4) (T := TX4) (N := 35) hx hb hts i_X4 hown hK hP 3 rfl rfl 2 (by decide) (hts (.fieldLink RX4 7 "IslandSolverModel" "body" "[F") (by decide +kernel)) (fun _ h9 => h9) rfl dX4_body_95 ?_
          refine lv_iload hx hb dX4_body_98 (lv_at hl 1 rfl) ?_
          refine lv_iload hx hb dX4_body_100 (lv_at hl 0 rfl) ?_
          refine lv_iadd hx hb dX4_body_102 ?_
          refine lv_topi (fun x_21 ex_21 => ?_)
          obtain rfl : x_21 = 2 := by rw [ex_21]; decide
          refine lv_fconst0 hx hb dX4_body_103 ?_
          refine va_fast hx hb hK hP hD hS 0 0 rfl rfl (i := 2) (x := FP.fconst0) (by unfold vp_in; decide) dX4_body_104 (fun H locs hP hD hS => ?_)
          have hP : va_P (dC, dI) vwCl [(a2, .inl (ca2, 3328, .inr (.inr (.inl (vf_upd f_20 (2 : Int32).toNatClampNeg FP.fconst0))))), (a3, .inl (ca3, 256, .inl f3v)), (a4, .inl (ca4, 256, .inl f4v)), (mm, .inr (5, [.int 0, .int 0, .ref a2, .ref a3, .ref a4, .ref a5, .int 0, .ref a7, .ref a8, .ref a9, .ref a10, .ref a11, .ref a12, .ref a13, .ref a14, .ref a15, .ref a16, .ref a17, .ref a18, .int 0, .ref a20, .ref a21, .int 8, .float FP.fconst1, .float 1031798784, .int 0, .int 1, .int mst, .int 0, .ref a29, .ref a30, .ref a31, .float px, .float py, .float pz]))] H := hP
          have hD : va_D A [(a2, .inl (ca2, 3328, .inr (.inr (.inl (vf_upd f_20 (2 : Int32).toNatClampNeg FP.fconst0))))), (a3, .inl (ca3, 256, .inl f3v)), (a4, .inl (ca4, 256, .inl f4v)), (mm, .inr (5, [.int 0, .int 0, .ref a2, .ref a3, .ref a4, .ref a5, .int 0, .ref a7, .ref a8, .ref a9, .ref a10, .ref a11, .ref a12, .ref a13, .ref a14, .ref a15, .ref a16, .ref a17, .ref a18, .int 0, .ref a20, .ref a21, .int 8, .float FP.fconst1, .float 1031798784, .int 0, .int 1, .int mst, .int 0, .ref a29, .ref a30, .ref a31, .float px, .float py, .float pz]))] := hD
          generalize hff_23 : vf_upd f_20 (2 : Int32).toNatClampNeg FP.fconst0 = f_23 at hP hD
          refine lv_iinc (v := 3) (lv' := [(7, .int 3), (6, .int 0), (5, .int 1), (0, .ref mm), (1, .float a), (2, .float b), (3, .float c3), (4, .float g4)]) hx hb dX4_body_105 hl (k := 0) rfl (by decide) (by decide) rfl (fun ls hl => ?_)
          refine lv_goto (tgt := 87) hx hb dX4_body_108 (by decide) ?_
          refine lv_iload hx hb dX4_body_87 (lv_at hl 0 rfl) ?_
          refine lv_bipush (v := 13) hx hb dX4_body_89 (by decide) ?_
          refine lv_icmp_ge (tgt := 111) hx hb dX4_body_91 (by decide) (fun h9 => absurd h9 (by decide)) (fun _ => ?_)
          refine lv_aload_n hx hb dX4_body_94 rfl (lv_at hl 3 rfl) ?_
          refine va_get (D := (dC, dI)) (ci := 5) (v := .ref a2) (C := RX4) (T := TX4) (N := 35) hx hb hts i_X4 hown hK hP 3 rfl rfl 2 (by decide) (hts (.fieldLink RX4 7 "IslandSolverModel" "body" "[F") (by decide +kernel)) (fun _ h9 => h9) rfl dX4_body_95 ?_
          refine lv_iload hx hb dX4_body_98 (lv_at hl 1 rfl) ?_
          refine lv_iload hx hb dX4_body_100 (lv_at hl 0 rfl) ?_
          refine lv_iadd hx hb dX4_body_102 ?_
          refine lv_topi (fun x_24 ex_24 => ?_)
          obtain rfl : x_24 = 3 := by rw [ex_24]; decide
          refine lv_fconst0 hx hb dX4_body_103 ?_
          refine va_fast hx hb hK hP hD hS 0 0 rfl rfl (i := 3) (x := FP.fconst0) (by unfold vp_in; decide) dX4_body_104 (fun H locs hP hD hS => ?_)
          have hP : va_P (dC, dI) vwCl [(a2, .inl (ca2, 3328, .inr (.inr (.inl (vf_upd f_23 (3 : Int32).toNatClampNeg FP.fconst0))))), (a3, .inl (ca3, 256, .inl f3v)), (a4, .inl (ca4, 256, .inl f4v)), (mm, .inr (5, [.int 0, .int 0, .ref a2, .ref a3, .ref a4, .ref a5, .int 0, .ref a7, .ref a8, .ref a9, .ref a10, .ref a11, .ref a12, .ref a13, .ref a14, .ref a15, .ref a16, .ref a17, .ref a18, .int 0, .ref a20, .ref a21, .int 8, .float FP.fconst1, .float 1031798784, .int 0, .int 1, .int mst, .int 0, .ref a29, .ref a30, .ref a31, .float px, .float py, .float pz]))] H := hP
          have hD : va_D A [(a2, .inl (ca2, 3328, .inr (.inr (.inl (vf_upd f_23 (3 : Int32).toNatClampNeg FP.fconst0))))), (a3, .inl (ca3, 256, .inl f3v)), (a4, .inl (ca4, 256, .inl f4v)), (mm, .inr (5, [.int 0, .int 0, .ref a2, .ref a3, .ref a4, .ref a5, .int 0, .ref a7, .ref a8, .ref a9, .ref a10, .ref a11, .ref a12, .ref a13, .ref a14, .ref a15, .ref a16, .ref a17, .ref a18, .int 0, .ref a20, .ref a21, .int 8, .float FP.fconst1, .float 1031798784, .int 0, .int 1, .int mst, .int 0, .ref a29, .ref a30, .ref a31, .float px, .float py, .float pz]))] := hD
          generalize hff_26 : vf_upd f_23 (3 : Int32).toNatClampNeg FP.fconst0 = f_26 at hP hD
          refine lv_iinc (v := 4) (lv' := [(7, .int 4), (6, .int 0), (5, .int 1), (0, .ref mm), (1, .float a), (2, .float b), (3, .float c3), (4, .float g4)]) hx hb dX4_body_105 hl (k := 0) rfl (by decide) (by decide) rfl (fun ls hl => ?_)
          refine lv_goto (tgt := 87) hx hb dX4_body_108 (by decide) ?_
          refine lv_iload hx hb dX4_body_87 (lv_at hl 0 rfl) ?_
          refine lv_bipush (v := 13) hx hb dX4_body_89 (by decide) ?_
          refine lv_icmp_ge (tgt := 111) hx hb dX4_body_91 (by decide) (fun h9 => absurd h9 (by decide)) (fun _ => ?_)
          refine lv_aload_n hx hb dX4_body_94 rfl (lv_at hl 3 rfl) ?_
          refine va_get (D := (dC, dI)) (ci := 5) (v := .ref a2) (C := RX4) (T := TX4) (N := 35) hx hb hts i_X4 hown hK hP 3 rfl rfl 2 (by decide) (hts (.fieldLink RX4 7 "IslandSolverModel" "body" "[F") (by decide +kernel)) (fun _ h9 => h9) rfl dX4_body_95 ?_
          refine lv_iload hx hb dX4_body_98 (lv_at hl 1 rfl) ?_
          refine lv_iload hx hb dX4_body_100 (lv_at hl 0 rfl) ?_
          refine lv_iadd hx hb dX4_body_102 ?_
          refine lv_topi (fun x_27 ex_27 => ?_)
          obtain rfl : x_27 = 4 := by rw [ex_27]; decide
          refine lv_fconst0 hx hb dX4_body_103 ?_
          refine va_fast hx hb hK hP hD hS 0 0 rfl rfl (i := 4) (x := FP.fconst0) (by unfold vp_in; decide) dX4_body_104 (fun H locs hP hD hS => ?_)
          have hP : va_P (dC, dI) vwCl [(a2, .inl (ca2, 3328, .inr (.inr (.inl (vf_upd f_26 (4 : Int32).toNatClampNeg FP.fconst0))))), (a3, .inl (ca3, 256, .inl f3v)), (a4, .inl (ca4, 256, .inl f4v)), (mm, .inr (5, [.int 0, .int 0, .ref a2, .ref a3, .ref a4, .ref a5, .int 0, .ref a7, .ref a8, .ref a9, .ref a10, .ref a11, .ref a12, .ref a13, .ref a14, .ref a15, .ref a16, .ref a17, .ref a18, .int 0, .ref a20, .ref a21, .int 8, .float FP.fconst1, .float 1031798784, .int 0, .int 1, .int mst, .int 0, .ref a29, .ref a30, .ref a31, .float px, .float py, .float pz]))] H := hP
          have hD : va_D A [(a2, .inl (ca2, 3328, .inr (.inr (.inl (vf_upd f_26 (4 : Int32).toNatClampNeg FP.fconst0))))), (a3, .inl (ca3, 256, .inl f3v)), (a4, .inl (ca4, 256, .inl f4v)), (mm, .inr (5, [.int 0, .int 0, .ref a2, .ref a3, .ref a4, .ref a5, .int 0, .ref a7, .ref a8, .ref a9, .ref a10, .ref a11, .ref a12, .ref a13, .ref a14, .ref a15, .ref a16, .ref a17, .ref a18, .int 0, .ref a20, .ref a21, .int 8, .float FP.fconst1, .float 1031798784, .int 0, .int 1, .int mst, .int 0, .ref a29, .ref a30, .ref a31, .float px, .float py, .float pz]))] := hD
          generalize hff_29 : vf_upd f_26 (4 : Int32).toNatClampNeg FP.fconst0 = f_29 at hP hD
          refine lv_iinc (v := 5) (lv' := [(7, .int 5), (6, .int 0), (5, .int 1), (0, .ref mm), (1, .float a), (2, .float b), (3, .float c3), (4, .float g4)]) hx hb dX4_body_105 hl (k := 0) rfl (by decide) (by decide) rfl (fun ls hl => ?_)
          refine lv_goto (tgt := 87) hx hb dX4_body_108 (by decide) ?_
          refine lv_iload hx hb dX4_body_87 (lv_at hl 0 rfl) ?_
          refine lv_bipush (v := 13) hx hb dX4_body_89 (by decide) ?_
          refine lv_icmp_ge (tgt := 111) hx hb dX4_body_91 (by decide) (fun h9 => absurd h9 (by decide)) (fun _ => ?_)
          refine lv_aload_n hx hb dX4_body_94 rfl (lv_at hl 3 rfl) ?_
          refine va_get (D := (dC, dI)) (ci := 5) (v := .ref a2) (C := RX4) (T := TX4) (N := 35) hx hb hts i_X4 hown hK hP 3 rfl rfl 2 (by decide) (hts (.fieldLink RX4 7 "IslandSolverModel" "body" "[F") (by decide +kernel)) (fun _ h9 => h9) rfl dX4_body_95 ?_
          refine lv_iload hx hb dX4_body_98 (lv_at hl 1 rfl) ?_
          refine lv_iload hx hb dX4_body_100 (lv_at hl 0 rfl) ?_
          refine lv_iadd hx hb dX4_body_102 ?_
          refine lv_topi (fun x_30 ex_30 => ?_)
          obtain rfl : x_30 = 5 := by rw [ex_30]; decide
          refine lv_fconst0 hx hb dX4_body_103 ?_
          refine va_fast hx hb hK hP hD hS 0 0 rfl rfl (i := 5) (x := FP.fconst0) (by unfold vp_in; decide) dX4_body_104 (fun H locs hP hD hS => ?_)
          have hP : va_P (dC, dI) vwCl [(a2, .inl (ca2, 3328, .inr (.inr (.inl (vf_upd f_29 (5 : Int32).toNatClampNeg FP.fconst0))))), (a3, .inl (ca3, 256, .inl f3v)), (a4, .inl (ca4, 256, .inl f4v)), (mm, .inr (5, [.int 0, .int 0, .ref a2, .ref a3, .ref a4, .ref a5, .int 0, .ref a7, .ref a8, .ref a9, .ref a10, .ref a11, .ref a12, .ref a13, .ref a14, .ref a15, .ref a16, .ref a17, .ref a18, .int 0, .ref a20, .ref a21, .int 8, .float FP.fconst1, .float 1031798784, .int 0, .int 1, .int mst, .int 0, .ref a29, .ref a30, .ref a31, .float px, .float py, .float pz]))] H := hP
          have hD : va_D A [(a2, .inl (ca2, 3328, .inr (.inr (.inl (vf_upd f_29 (5 : Int32).toNatClampNeg FP.fconst0))))), (a3, .inl (ca3, 256, .inl f3v)), (a4, .inl (ca4, 256, .inl f4v)), (mm, .inr (5, [.int 0, .int 0, .ref a2, .ref a3, .ref a4, .ref a5, .int 0, .ref a7, .ref a8, .ref a9, .ref a10, .ref a11, .ref a12, .ref a13, .ref a14, .ref a15, .ref a16, .ref a17, .ref a18, .int 0, .ref a20, .ref a21, .int 8, .float FP.fconst1, .float 1031798784, .int 0, .int 1, .int mst, .int 0, .ref a29, .ref a30, .ref a31, .float px, .float py, .float pz]))] := hD
          generalize hff_32 : vf_upd f_29 (5 : Int32).toNatClampNeg FP.fconst0 = f_32 at hP hD
          refine lv_iinc (v := 6) (lv' := [(7, .int 6), (6, .int 0), (5, .int 1), (0, .ref mm), (1, .float a), (2, .float b), (3, .float c3), (4, .float g4)]) hx hb dX4_body_105 hl (k := 0) rfl (by decide) (by decide) rfl (fun ls hl => ?_)
          refine lv_goto (tgt := 87) hx hb dX4_body_108 (by decide) ?_
          refine lv_iload hx hb dX4_body_87 (lv_at hl 0 rfl) ?_
          refine lv_bipush (v := 13) hx hb dX4_body_89 (by decide) ?_
          refine lv_icmp_ge (tgt := 111) hx hb dX4_body_91 (by decide) (fun h9 => absurd h9 (by decide)) (fun _ => ?_)
          refine lv_aload_n hx hb dX4_body_94 rfl (lv_at hl 3 rfl) ?_
          refine va_get (D := (dC, dI)) (ci := 5) (v := .ref a2) (C := RX4) (T := TX4) (N := 35) hx hb hts i_X4 hown hK hP 3 rfl rfl 2 (by decide) (hts (.fieldLink RX4 7 "IslandSolverModel" "body" "[F") (by decide +kernel)) (fun _ h9 => h9) rfl dX4_body_95 ?_
          refine lv_iload hx hb dX4_body_98 (lv_at hl 1 rfl) ?_
          refine lv_iload hx hb dX4_body_100 (lv_at hl 0 rfl) ?_
          refine lv_iadd hx hb dX4_body_102 ?_
          refine lv_topi (fun x_33 ex_33 => ?_)
          obtain rfl : x_33 = 6 := by rw [ex_33]; decide
          refine lv_fconst0 hx hb dX4_body_103 ?_
          refine va_fast hx hb hK hP hD hS 0 0 rfl rfl (i := 6) (x := FP.fconst0) (by unfold vp_in; decide) dX4_body_104 (fun H locs hP hD hS => ?_)
          have hP : va_P (dC, dI) vwCl [(a2, .inl (ca2, 3328, .inr (.inr (.inl (vf_upd f_32 (6 : Int32).toNatClampNeg FP.fconst0))))), (a3, .inl (ca3, 256, .inl f3v)), (a4, .inl (ca4, 256, .inl f4v)), (mm, .inr (5, [.int 0, .int 0, .ref a2, .ref a3, .ref a4, .ref a5, .int 0, .ref a7, .ref a8, .ref a9, .ref a10, .ref a11, .ref a12, .ref a13, .ref a14, .ref a15, .ref a16, .ref a17, .ref a18, .int 0, .ref a20, .ref a21, .int 8, .float FP.fconst1, .float 1031798784, .int 0, .int 1, .int mst, .int 0, .ref a29, .ref a30, .ref a31, .float px, .float py, .float pz]))] H := hP
          have hD : va_D A [(a2, .inl (ca2, 3328, .inr (.inr (.inl (vf_upd f_32 (6 : Int32).toNatClampNeg FP.fconst0))))), (a3, .inl (ca3, 256, .inl f3v)), (a4, .inl (ca4, 256, .inl f4v)), (mm, .inr (5, [.int 0, .int 0, .ref a2, .ref a3, .ref a4, .ref a5, .int 0, .ref a7, .ref a8, .ref a9, .ref a10, .ref a11, .ref a12, .ref a13, .ref a14, .ref a15, .ref a16, .ref a17, .ref a18, .int 0, .ref a20, .ref a21, .int 8, .float FP.fconst1, .float 1031798784, .int 0, .int 1, .int mst, .int 0, .ref a29, .ref a30, .ref a31, .float px, .float py, .float pz]))] := hD
          generalize hff_35 : vf_upd f_32 (6 : Int32).toNatClampNeg FP.fconst0 = f_35 at hP hD
          refine lv_iinc (v := 7) (lv' := [(7, .int 7), (6, .int 0), (5, .int 1), (0, .ref mm), (1, .float a), (2, .float b), (3, .float c3), (4, .float g4)]) hx hb dX4_body_105 hl (k := 0) rfl (by decide) (by decide) rfl (fun ls hl => ?_)
          refine lv_goto (tgt := 87) hx hb dX4_body_108 (by decide) ?_
          refine lv_iload hx hb dX4_body_87 (lv_at hl 0 rfl) ?_
          refine lv_bipush (v := 13) hx hb dX4_body_89 (by decide) ?_
          refine lv_icmp_ge (tgt := 111) hx hb dX4_body_91 (by decide) (fun h9 => absurd h9 (by decide)) (fun _ => ?_)
          refine lv_aload_n hx hb dX4_body_94 rfl (lv_at hl 3 rfl) ?_
          refine va_get (D := (dC, dI)) (ci := 5) (v := .ref a2) (C := RX4) (T := TX4) (N := 35) hx hb hts i_X4 hown hK hP 3 rfl rfl 2 (by decide) (hts (.fieldLink RX4 7 "IslandSolverModel" "body" "[F") (by decide +kernel)) (fun _ h9 => h9) rfl dX4_body_95 ?_
          refine lv_iload hx hb dX4_body_98 (lv_at hl 1 rfl) ?_
          refine lv_iload hx hb dX4_body_100 (lv_at hl 0 rfl) ?_
          refine lv_iadd hx hb dX4_body_102 ?_
          refine lv_topi (fun x_36 ex_36 => ?_)
          obtain rfl : x_36 = 7 := by rw [ex_36]; decide
          refine lv_fconst0 hx hb dX4_body_103 ?_
          refine va_fast hx hb hK hP hD hS 0 0 rfl rfl (i := 7) (x := FP.fconst0) (by unfold vp_in; decide) dX4_body_104 (fun H locs hP hD hS => ?_)
          have hP : va_P (dC, dI) vwCl [(a2, .inl (ca2, 3328, .inr (.inr (.inl (vf_upd f_35 (7 : Int32).toNatClampNeg FP.fconst0))))), (a3, .inl (ca3, 256, .inl f3v)), (a4, .inl (ca4, 256, .inl f4v)), (mm, .inr (5, [.int 0, .int 0, .ref a2, .ref a3, .ref a4, .ref a5, .int 0, .ref a7, .ref a8, .ref a9, .ref a10, .ref a11, .ref a12, .ref a13, .ref a14, .ref a15, .ref a16, .ref a17, .ref a18, .int 0, .ref a20, .ref a21, .int 8, .float FP.fconst1, .float 1031798784, .int 0, .int 1, .int mst, .int 0, .ref a29, .ref a30, .ref a31, .float px, .float py, .float pz]))] H := hP
          have hD : va_D A [(a2, .inl (ca2, 3328, .inr (.inr (.inl (vf_upd f_35 (7 : Int32).toNatClampNeg FP.fconst0))))), (a3, .inl (ca3, 256, .inl f3v)), (a4, .inl (ca4, 256, .inl f4v)), (mm, .inr (5, [.int 0, .int 0, .ref a2, .ref a3, .ref a4, .ref a5, .int 0, .ref a7, .ref a8, .ref a9, .ref a10, .ref a11, .ref a12, .ref a13, .ref a14, .ref a15, .ref a16, .ref a17, .ref a18, .int 0, .ref a20, .ref a21, .int 8, .float FP.fconst1, .float 1031798784, .int 0, .int 1, .int mst, .int 0, .ref a29, .ref a30, .ref a31, .float px, .float py, .float pz]))] := hD
          generalize hff_38 : vf_upd f_35 (7 : Int32).toNatClampNeg FP.fconst0 = f_38 at hP hD
          refine lv_iinc (v := 8) (lv' := [(7, .int 8), (6, .int 0), (5, .int 1), (0, .ref mm), (1, .float a), (2, .float b), (3, .float c3), (4, .float g4)]) hx hb dX4_body_105 hl (k := 0) rfl (by decide) (by decide) rfl (fun ls hl => ?_)
          refine lv_goto (tgt := 87) hx hb dX4_body_108 (by decide) ?_
          refine lv_iload hx hb dX4_body_87 (lv_at hl 0 rfl) ?_
          refine lv_bipush (v := 13) hx hb dX4_body_89 (by decide) ?_
          refine lv_icmp_ge (tgt := 111) hx hb dX4_body_91 (by decide) (fun h9 => absurd h9 (by decide)) (fun _ => ?_)
          refine lv_aload_n hx hb dX4_body_94 rfl (lv_at hl 3 rfl) ?_
          refine va_get (D := (dC, dI)) (ci := 5) (v := .ref a2) (C := RX4) (T := TX4) (N := 35) hx hb hts i_X4 hown hK hP 3 rfl rfl 2 (by decide) (hts (.fieldLink RX4 7 "IslandSolverModel" "body" "[F") (by decide +kernel)) (fun _ h9 => h9) rfl dX4_body_95 ?_
          refine lv_iload hx hb dX4_body_98 (lv_at hl 1 rfl) ?_
          refine lv_iload hx hb dX4_body_100 (lv_at hl 0 rfl) ?_
          refine lv_iadd hx hb dX4_body_102 ?_
          refine lv_topi (fun x_39 ex_39 => ?_)
          obtain rfl : x_39 = 8 := by rw [ex_39]; decide
          refine lv_fconst0 hx hb dX4_body_103 ?_
          refine va_fast hx hb hK hP hD hS 0 0 rfl rfl (i := 8) (x := FP.fconst0) (by unfold vp_in; decide) dX4_body_104 (fun H locs hP hD hS => ?_)
          have hP : va_P (dC, dI) vwCl [(a2, .inl (ca2, 3328, .inr (.inr (.inl (vf_upd f_38 (8 : Int32).toNatClampNeg FP.fconst0))))), (a3, .inl (ca3, 256, .inl f3v)), (a4, .inl (ca4, 256, .inl f4v)), (mm, .inr (5, [.int 0, .int 0, .ref a2, .ref a3, .ref a4, .ref a5, .int 0, .ref a7, .ref a8, .ref a9, .ref a10, .ref a11, .ref a12, .ref a13, .ref a14, .ref a15, .ref a16, .ref a17, .ref a18, .int 0, .ref a20, .ref a21, .int 8, .float FP.fconst1, .float 1031798784, .int 0, .int 1, .int mst, .int 0, .ref a29, .ref a30, .ref a31, .float px, .float py, .float pz]))] H := hP
          have hD : va_D A [(a2, .inl (ca2, 3328, .inr (.inr (.inl (vf_upd f_38 (8 : Int32).toNatClampNeg FP.fconst0))))), (a3, .inl (ca3, 256, .inl f3v)), (a4, .inl (ca4, 256, .inl f4v)), (mm, .inr (5, [.int 0, .int 0, .ref a2, .ref a3, .ref a4, .ref a5, .int 0, .ref a7, .ref a8, .ref a9, .ref a10, .ref a11, .ref a12, .ref a13, .ref a14, .ref a15, .ref a16, .ref a17, .ref a18, .int 0, .ref a20, .ref a21, .int 8, .float FP.fconst1, .float 1031798784, .int 0, .int 1, .int mst, .int 0, .ref a29, .ref a30, .ref a31, .float px, .float py, .float pz]))] := hD
          generalize hff_41 : vf_upd f_38 (8 : Int32).toNatClampNeg FP.fconst0 = f_41 at hP hD
          refine lv_iinc (v := 9) (lv' := [(7, .int 9), (6, .int 0), (5, .int 1), (0, .ref mm), (1, .float a), (2, .float b), (3, .float c3), (4, .float g4)]) hx hb dX4_body_105 hl (k := 0) rfl (by decide) (by decide) rfl (fun ls hl => ?_)
          refine lv_goto (tgt := 87) hx hb dX4_body_108 (by decide) ?_
          refine lv_iload hx hb dX4_body_87 (lv_at hl 0 rfl) ?_
          refine lv_bipush (v := 13) hx hb dX4_body_89 (by decide) ?_
          refine lv_icmp_ge (tgt := 111) hx hb dX4_body_91 (by decide) (fun h9 => absurd h9 (by decide)) (fun _ => ?_)
          refine lv_aload_n hx hb dX4_body_94 rfl (lv_at hl 3 rfl) ?_
          refine va_get (D := (dC, dI)) (ci := 5) (v := .ref a2) (C := RX4) (T := TX4) (N := 35) hx hb hts i_X4 hown hK hP 3 rfl rfl 2 (by decide) (hts (.fieldLink RX4 7 "IslandSolverModel" "body" "[F") (by decide +kernel)) (fun _ h9 => h9) rfl dX4_body_95 ?_
          refine lv_iload hx hb dX4_body_98 (lv_at hl 1 rfl) ?_
          refine lv_iload hx hb dX4_body_100 (lv_at hl 0 rfl) ?_
          refine lv_iadd hx hb dX4_body_102 ?_
          refine lv_topi (fun x_42 ex_42 => ?_)
          obtain rfl : x_42 = 9 := by rw [ex_42]; decide
          refine lv_fconst0 hx hb dX4_body_103 ?_
          refine va_fast hx hb hK hP hD hS 0 0 rfl rfl (i := 9) (x := FP.fconst0) (by unfold vp_in; decide) dX4_body_104 (fun H locs hP hD hS => ?_)
          have hP : va_P (dC, dI) vwCl [(a2, .inl (ca2, 3328, .inr (.inr (.inl (vf_upd f_41 (9 : Int32).toNatClampNeg FP.fconst0))))), (a3, .inl (ca3, 256, .inl f3v)), (a4, .inl (ca4, 256, .inl f4v)), (mm, .inr (5, [.int 0, .int 0, .ref a2, .ref a3, .ref a4, .ref a5, .int 0, .ref a7, .ref a8, .ref a9, .ref a10, .ref a11, .ref a12, .ref a13, .ref a14, .ref a15, .ref a16, .ref a17, .ref a18, .int 0, .ref a20, .ref a21, .int 8, .float FP.fconst1, .float 1031798784, .int 0, .int 1, .int mst, .int 0, .ref a29, .ref a30, .ref a31, .float px, .float py, .float pz]))] H := hP
          have hD : va_D A [(a2, .inl (ca2, 3328, .inr (.inr (.inl (vf_upd f_41 (9 : Int32).toNatClampNeg FP.fconst0))))), (a3, .inl (ca3, 256, .inl f3v)), (a4, .inl (ca4, 256, .inl f4v)), (mm, .inr (5, [.int 0, .int 0, .ref a2, .ref a3, .ref a4, .ref a5, .int 0, .ref a7, .ref a8, .ref a9, .ref a10, .ref a11, .ref a12, .ref a13, .ref a14, .ref a15, .ref a16, .ref a17, .ref a18, .int 0, .ref a20, .ref a21, .int 8, .float FP.fconst1, .float 1031798784, .int 0, .int 1, .int mst, .int 0, .ref a29, .ref a30, .ref a31, .float px, .float py, .float pz]))] := hD
          generalize hff_44 : vf_upd f_41 (9 : Int32).toNatClampNeg FP.fconst0 = f_44 at hP hD
          refine lv_iinc (v := 10) (lv' := [(7, .int 10), (6, .int 0), (5, .int 1), (0, .ref mm), (1, .float a), (2, .float b), (3, .float c3), (4, .float g4)]) hx hb dX4_body_105 hl (k := 0) rfl (by decide) (by decide) rfl (fun ls hl => ?_)
          refine lv_goto (tgt := 87) hx hb dX4_body_108 (by decide) ?_
          refine lv_iload hx hb dX4_body_87 (lv_at hl 0 rfl) ?_
          refine lv_bipush (v := 13) hx hb dX4_body_89 (by decide) ?_
          refine lv_icmp_ge (tgt := 111) hx hb dX4_body_91 (by decide) (fun h9 => absurd h9 (by decide)) (fun _ => ?_)
          refine lv_aload_n hx hb dX4_body_94 rfl (lv_at hl 3 rfl) ?_
          refine va_get (D := (dC, dI)) (ci := 5) (v := .ref a2) (C := RX4) (T := TX4) (N := 35) hx hb hts i_X4 hown hK hP 3 rfl rfl 2 (by decide) (hts (.fieldLink RX4 7 "IslandSolverModel" "body" "[F") (by decide +kernel)) (fun _ h9 => h9) rfl dX4_body_95 ?_
          refine lv_iload hx hb dX4_body_98 (lv_at hl 1 rfl) ?_
          refine lv_iload hx hb dX4_body_100 (lv_at hl 0 rfl) ?_
          refine lv_iadd hx hb dX4_body_102 ?_
          refine lv_topi (fun x_45 ex_45 => ?_)
          obtain rfl : x_45 = 10 := by rw [ex_45]; decide
          refine lv_fconst0 hx hb dX4_body_103 ?_
          refine va_fast hx hb hK hP hD hS 0 0 rfl rfl (i := 10) (x := FP.fconst0) (by unfold vp_in; decide) dX4_body_104 (fun H locs hP hD hS => ?_)
          have hP : va_P (dC, dI) vwCl [(a2, .inl (ca2, 3328, .inr (.inr (.inl (vf_upd f_44 (10 : Int32).toNatClampNeg FP.fconst0))))), (a3, .inl (ca3, 256, .inl f3v)), (a4, .inl (ca4, 256, .inl f4v)), (mm, .inr (5, [.int 0, .int 0, .ref a2, .ref a3, .ref a4, .ref a5, .int 0, .ref a7, .ref a8, .ref a9, .ref a10, .ref a11, .ref a12, .ref a13, .ref a14, .ref a15, .ref a16, .ref a17, .ref a18, .int 0, .ref a20, .ref a21, .int 8, .float FP.fconst1, .float 1031798784, .int 0, .int 1, .int mst, .int 0, .ref a29, .ref a30, .ref a31, .float px, .float py, .float pz]))] H := hP
          have hD : va_D A [(a2, .inl (ca2, 3328, .inr (.inr (.inl (vf_upd f_44 (10 : Int32).toNatClampNeg FP.fconst0))))), (a3, .inl (ca3, 256, .inl f3v)), (a4, .inl (ca4, 256, .inl f4v)), (mm, .inr (5, [.int 0, .int 0, .ref a2, .ref a3, .ref a4, .ref a5, .int 0, .ref a7, .ref a8, .ref a9, .ref a10, .ref a11, .ref a12, .ref a13, .ref a14, .ref a15, .ref a16, .ref a17, .ref a18, .int 0, .ref a20, .ref a21, .int 8, .float FP.fconst1, .float 1031798784, .int 0, .int 1, .int mst, .int 0, .ref a29, .ref a30, .ref a31, .float px, .float py, .float pz]))] := hD
          generalize hff_47 : vf_upd f_44 (10 : Int32).toNatClampNeg FP.fconst0 = f_47 at hP hD
          refine lv_iinc (v := 11) (lv' := [(7, .int 11), (6, .int 0), (5, .int 1), (0, .ref mm), (1, .float a), (2, .float b), (3, .float c3), (4, .float g4)]) hx hb dX4_body_105 hl (k := 0) rfl (by decide) (by decide) rfl (fun ls hl => ?_)
          refine lv_goto (tgt := 87) hx hb dX4_body_108 (by decide) ?_
          refine lv_iload hx hb dX4_body_87 (lv_at hl 0 rfl) ?_
          refine lv_bipush (v := 13) hx hb dX4_body_89 (by decide) ?_
          refine lv_icmp_ge (tgt := 111) hx hb dX4_body_91 (by decide) (fun h9 => absurd h9 (by decide)) (fun _ => ?_)
          refine lv_aload_n hx hb dX4_body_94 rfl (lv_at hl 3 rfl) ?_
          refine va_get (D := (dC, dI)) (ci := 5) (v := .ref a2) (C := RX4) (T := TX4) (N := 35) hx hb hts i_X4 hown hK hP 3 rfl rfl 2 (by decide) (hts (.fieldLink RX4 7 "IslandSolverModel" "body" "[F") (by decide +kernel)) (fun _ h9 => h9) rfl dX4_body_95 ?_
          refine lv_iload hx hb dX4_body_98 (lv_at hl 1 rfl) ?_
          refine lv_iload hx hb dX4_body_100 (lv_at hl 0 rfl) ?_
          refine lv_iadd hx hb dX4_body_102 ?_
          refine lv_topi (fun x_48 ex_48 => ?_)
          obtain rfl : x_48 = 11 := by rw [ex_48]; decide
          refine lv_fconst0 hx hb dX4_body_103 ?_
          refine va_fast hx hb hK hP hD hS 0 0 rfl rfl (i := 11) (x := FP.fconst0) (by unfold vp_in; decide) dX4_body_104 (fun H locs hP hD hS => ?_)
          have hP : va_P (dC, dI) vwCl [(a2, .inl (ca2, 3328, .inr (.inr (.inl (vf_upd f_47 (11 : Int32).toNatClampNeg FP.fconst0))))), (a3, .inl (ca3, 256, .inl f3v)), (a4, .inl (ca4, 256, .inl f4v)), (mm, .inr (5, [.int 0, .int 0, .ref a2, .ref a3, .ref a4, .ref a5, .int 0, .ref a7, .ref a8, .ref a9, .ref a10, .ref a11, .ref a12, .ref a13, .ref a14, .ref a15, .ref a16, .ref a17, .ref a18, .int 0, .ref a20, .ref a21, .int 8, .float FP.fconst1, .float 1031798784, .int 0, .int 1, .int mst, .int 0, .ref a29, .ref a30, .ref a31, .float px, .float py, .float pz]))] H := hP
          have hD : va_D A [(a2, .inl (ca2, 3328, .inr (.inr (.inl (vf_upd f_47 (11 : Int32).toNatClampNeg FP.fconst0))))), (a3, .inl (ca3, 256, .inl f3v)), (a4, .inl (ca4, 256, .inl f4v)), (mm, .inr (5, [.int 0, .int 0, .ref a2, .ref a3, .ref a4, .ref a5, .int 0, .ref a7, .ref a8, .ref a9, .ref a10, .ref a11, .ref a12, .ref a13, .ref a14, .ref a15, .ref a16, .ref a17, .ref a18, .int 0, .ref a20, .ref a21, .int 8, .float FP.fconst1, .float 1031798784, .int 0, .int 1, .int mst, .int 0, .ref a29, .ref a30, .ref a31, .float px, .float py, .float pz]))] := hD
          generalize hff_50 : vf_upd f_47 (11 : Int32).toNatClampNeg FP.fconst0 = f_50 at hP hD
          refine lv_iinc (v := 12) (lv' := [(7, .int 12), (6, .int 0), (5, .int 1), (0, .ref mm), (1, .float a), (2, .float b), (3, .float c3), (4, .float g4)]) hx hb dX4_body_105 hl (k := 0) rfl (by decide) (by decide) rfl (fun ls hl => ?_)
          refine lv_goto (tgt := 87) hx hb dX4_body_108 (by decide) ?_
          refine lv_iload hx hb dX4_body_87 (lv_at hl 0 rfl) ?_
          refine lv_bipush (v := 13) hx hb dX4_body_89 (by decide) ?_
          refine lv_icmp_ge (tgt := 111) hx hb dX4_body_91 (by decide) (fun h9 => absurd h9 (by decide)) (fun _ => ?_)
          refine lv_aload_n hx hb dX4_body_94 rfl (lv_at hl 3 rfl) ?_
          refine va_get (D := (dC, dI)) (ci := 5) (v := .ref a2) (C := RX4) (T := TX4) (N := 35) hx hb hts i_X4 hown hK hP 3 rfl rfl 2 (by decide) (hts (.fieldLink RX4 7 "IslandSolverModel" "body" "[F") (by decide +kernel)) (fun _ h9 => h9) rfl dX4_body_95 ?_
          refine lv_iload hx hb dX4_body_98 (lv_at hl 1 rfl) ?_
          refine lv_iload hx hb dX4_body_100 (lv_at hl 0 rfl) ?_
          refine lv_iadd hx hb dX4_body_102 ?_
          refine lv_topi (fun x_51 ex_51 => ?_)
          obtain rfl : x_51 = 12 := by rw [ex_51]; decide
          refine lv_fconst0 hx hb dX4_body_103 ?_
          refine va_fast hx hb hK hP hD hS 0 0 rfl rfl (i := 12) (x := FP.fconst0) (by unfold vp_in; decide) dX4_body_104 (fun H locs hP hD hS => ?_)
          have hP : va_P (dC, dI) vwCl [(a2, .inl (ca2, 3328, .inr (.inr (.inl (vf_upd f_50 (12 : Int32).toNatClampNeg FP.fconst0))))), (a3, .inl (ca3, 256, .inl f3v)), (a4, .inl (ca4, 256, .inl f4v)), (mm, .inr (5, [.int 0, .int 0, .ref a2, .ref a3, .ref a4, .ref a5, .int 0, .ref a7, .ref a8, .ref a9, .ref a10, .ref a11, .ref a12, .ref a13, .ref a14, .ref a15, .ref a16, .ref a17, .ref a18, .int 0, .ref a20, .ref a21, .int 8, .float FP.fconst1, .float 1031798784, .int 0, .int 1, .int mst, .int 0, .ref a29, .ref a30, .ref a31, .float px, .float py, .float pz]))] H := hP
          have hD : va_D A [(a2, .inl (ca2, 3328, .inr (.inr (.inl (vf_upd f_50 (12 : Int32).toNatClampNeg FP.fconst0))))), (a3, .inl (ca3, 256, .inl f3v)), (a4, .inl (ca4, 256, .inl f4v)), (mm, .inr (5, [.int 0, .int 0, .ref a2, .ref a3, .ref a4, .ref a5, .int 0, .ref a7, .ref a8, .ref a9, .ref a10, .ref a11, .ref a12, .ref a13, .ref a14, .ref a15, .ref a16, .ref a17, .ref a18, .int 0, .ref a20, .ref a21, .int 8, .float FP.fconst1, .float 1031798784, .int 0, .int 1, .int mst, .int 0, .ref a29, .ref a30, .ref a31, .float px, .float py, .float pz]))] := hD
          generalize hff_53 : vf_upd f_50 (12 : Int32).toNatClampNeg FP.fconst0 = f_53 at hP hD
          refine lv_iinc (v := 13) (lv' := [(7, .int 13), (6, .int 0), (5, .int 1), (0, .ref mm), (1, .float a), (2, .float b), (3, .float c3), (4, .float g4)]) hx hb dX4_body_105 hl (k := 0) rfl (by decide) (by decide) rfl (fun ls hl => ?_)
          refine lv_goto (tgt := 87) hx hb dX4_body_108 (by decide) ?_
          refine lv_iload hx hb dX4_body_87 (lv_at hl 0 rfl) ?_
          refine lv_bipush (v := 13) hx hb dX4_body_89 (by decide) ?_
          refine lv_icmp_ge (tgt := 111) hx hb dX4_body_91 (by decide) (fun _ => ?_) (fun h9 => absurd h9 (by decide))
          refine lv_aload_n hx hb dX4_body_111 rfl (lv_at hl 3 rfl) ?_
          refine va_get (D := (dC, dI)) (ci := 5) (v := .ref a2) (C := RX4) (T := TX4) (N := 35) hx hb hts i_X4 hown hK hP 3 rfl rfl 2 (by decide) (hts (.fieldLink RX4 7 "IslandSolverModel" "body" "[F") (by decide +kernel)) (fun _ h9 => h9) rfl dX4_body_112 ?_
          refine lv_iload hx hb dX4_body_115 (lv_at hl 1 rfl) ?_
          refine lv_bipush (v := 6) hx hb dX4_body_117 (by decide) ?_
          refine lv_iadd hx hb dX4_body_119 ?_
          refine lv_topi (fun x_54 ex_54 => ?_)
          obtain rfl : x_54 = 6 := by rw [ex_54]; decide
          refine lv_fload_n hx hb dX4_body_120 rfl (lv_at hl 4 rfl) ?_
          refine va_fast hx hb hK hP hD hS 0 0 rfl rfl (i := 6) (x := a) (by unfold vp_in; decide) dX4_body_121 (fun H locs hP hD hS => ?_)
          have hP : va_P (dC, dI) vwCl [(a2, .inl (ca2, 3328, .inr (.inr (.inl (vf_upd f_53 (6 : Int32).toNatClampNeg a))))), (a3, .inl (ca3, 256, .inl f3v)), (a4, .inl (ca4, 256, .inl f4v)), (mm, .inr (5, [.int 0, .int 0, .ref a2, .ref a3, .ref a4, .ref a5, .int 0, .ref a7, .ref a8, .ref a9, .ref a10, .ref a11, .ref a12, .ref a13, .ref a14, .ref a15, .ref a16, .ref a17, .ref a18, .int 0, .ref a20, .ref a21, .int 8, .float FP.fconst1, .float 1031798784, .int 0, .int 1, .int mst, .int 0, .ref a29, .ref a30, .ref a31, .float px, .float py, .float pz]))] H := hP
          have hD : va_D A [(a2, .inl (ca2, 3328, .inr (.inr (.inl (vf_upd f_53 (6 : Int32).toNatClampNeg a))))), (a3, .inl (ca3, 256, .inl f3v)), (a4, .inl (ca4, 256, .inl f4v)), (mm, .inr (5, [.int 0, .int 0, .ref a2, .ref a3, .ref a4, .ref a5, .int 0, .ref a7, .ref a8, .ref a9, .ref a10, .ref a11, .ref a12, .ref a13, .ref a14, .ref a15, .ref a16, .ref a17, .ref a18, .int 0, .ref a20, .ref a21, .int 8, .float FP.fconst1, .float 1031798784, .int 0, .int 1, .int mst, .int 0, .ref a29, .ref a30, .ref a31, .float px, .float py, .float pz]))] := hD
          generalize hff_56 : vf_upd f_53 (6 : Int32).toNatClampNeg a = f_56 at hP hD
          refine lv_aload_n hx hb dX4_body_122 rfl (lv_at hl 3 rfl) ?_
          refine va_get (D := (dC, dI)) (ci := 5) (v := .ref a2) (C := RX4) (T := TX4) (N := 35) hx hb hts i_X4 hown hK hP 3 rfl rfl 2 (by decide) (hts (.fieldLink RX4 7 "IslandSolverModel" "body" "[F") (by decide +kernel)) (fun _ h9 => h9) rfl dX4_body_123 ?_
          refine lv_iload hx hb dX4_body_126 (lv_at hl 1 rfl) ?_
          refine lv_bipush (v := 7) hx hb dX4_body_128 (by decide) ?_
          refine lv_iadd hx hb dX4_body_130 ?_
          refine lv_topi (fun x_57 ex_57 => ?_)
          obtain rfl : x_57 = 7 := by rw [ex_57]; decide
          refine lv_fload_n hx hb dX4_body_131 rfl (lv_at hl 5 rfl) ?_
          refine va_fast hx hb hK hP hD hS 0 0 rfl rfl (i := 7) (x := b) (by unfold vp_in; decide) dX4_body_132 (fun H locs hP hD hS => ?_)
          have hP : va_P (dC, dI) vwCl [(a2, .inl (ca2, 3328, .inr (.inr (.inl (vf_upd f_56 (7 : Int32).toNatClampNeg b))))), (a3, .inl (ca3, 256, .inl f3v)), (a4, .inl (ca4, 256, .inl f4v)), (mm, .inr (5, [.int 0, .int 0, .ref a2, .ref a3, .ref a4, .ref a5, .int 0, .ref a7, .ref a8, .ref a9, .ref a10, .ref a11, .ref a12, .ref a13, .ref a14, .ref a15, .ref a16, .ref a17, .ref a18, .int 0, .ref a20, .ref a21, .int 8, .float FP.fconst1, .float 1031798784, .int 0, .int 1, .int mst, .int 0, .ref a29, .ref a30, .ref a31, .float px, .float py, .float pz]))] H := hP
          have hD : va_D A [(a2, .inl (ca2, 3328, .inr (.inr (.inl (vf_upd f_56 (7 : Int32).toNatClampNeg b))))), (a3, .inl (ca3, 256, .inl f3v)), (a4, .inl (ca4, 256, .inl f4v)), (mm, .inr (5, [.int 0, .int 0, .ref a2, .ref a3, .ref a4, .ref a5, .int 0, .ref a7, .ref a8, .ref a9, .ref a10, .ref a11, .ref a12, .ref a13, .ref a14, .ref a15, .ref a16, .ref a17, .ref a18, .int 0, .ref a20, .ref a21, .int 8, .float FP.fconst1, .float 1031798784, .int 0, .int 1, .int mst, .int 0, .ref a29, .ref a30, .ref a31, .float px, .float py, .float pz]))] := hD
          generalize hff_59 : vf_upd f_56 (7 : Int32).toNatClampNeg b = f_59 at hP hD
          refine lv_aload_n hx hb dX4_body_133 rfl (lv_at hl 3 rfl) ?_
          refine va_get (D := (dC, dI)) (ci := 5) (v := .ref a2) (C := RX4) (T := TX4) (N := 35) hx hb hts i_X4 hown hK hP 3 rfl rfl 2 (by decide) (hts (.fieldLink RX4 7 "IslandSolverModel" "body" "[F") (by decide +kernel)) (fun _ h9 => h9) rfl dX4_body_134 ?_
          refine lv_iload hx hb dX4_body_137 (lv_at hl 1 rfl) ?_
          refine lv_bipush (v := 8) hx hb dX4_body_139 (by decide) ?_
          refine lv_iadd hx hb dX4_body_141 ?_
          refine lv_topi (fun x_60 ex_60 => ?_)
          obtain rfl : x_60 = 8 := by rw [ex_60]; decide
          refine lv_fload_n hx hb dX4_body_142 rfl (lv_at hl 6 rfl) ?_
          refine va_fast hx hb hK hP hD hS 0 0 rfl rfl (i := 8) (x := c3) (by unfold vp_in; decide) dX4_body_143 (fun H locs hP hD hS => ?_)
          have hP : va_P (dC, dI) vwCl [(a2, .inl (ca2, 3328, .inr (.inr (.inl (vf_upd f_59 (8 : Int32).toNatClampNeg c3))))), (a3, .inl (ca3, 256, .inl f3v)), (a4, .inl (ca4, 256, .inl f4v)), (mm, .inr (5, [.int 0, .int 0, .ref a2, .ref a3, .ref a4, .ref a5, .int 0, .ref a7, .ref a8, .ref a9, .ref a10, .ref a11, .ref a12, .ref a13, .ref a14, .ref a15, .ref a16, .ref a17, .ref a18, .int 0, .ref a20, .ref a21, .int 8, .float FP.fconst1, .float 1031798784, .int 0, .int 1, .int mst, .int 0, .ref a29, .ref a30, .ref a31, .float px, .float py, .float pz]))] H := hP
          have hD : va_D A [(a2, .inl (ca2, 3328, .inr (.inr (.inl (vf_upd f_59 (8 : Int32).toNatClampNeg c3))))), (a3, .inl (ca3, 256, .inl f3v)), (a4, .inl (ca4, 256, .inl f4v)), (mm, .inr (5, [.int 0, .int 0, .ref a2, .ref a3, .ref a4, .ref a5, .int 0, .ref a7, .ref a8, .ref a9, .ref a10, .ref a11, .ref a12, .ref a13, .ref a14, .ref a15, .ref a16, .ref a17, .ref a18, .int 0, .ref a20, .ref a21, .int 8, .float FP.fconst1, .float 1031798784, .int 0, .int 1, .int mst, .int 0, .ref a29, .ref a30, .ref a31, .float px, .float py, .float pz]))] := hD
          generalize hff_62 : vf_upd f_59 (8 : Int32).toNatClampNeg c3 = f_62 at hP hD
          refine lv_aload_n hx hb dX4_body_144 rfl (lv_at hl 3 rfl) ?_
          refine va_get (D := (dC, dI)) (ci := 5) (v := .ref a2) (C := RX4) (T := TX4) (N := 35) hx hb hts i_X4 hown hK hP 3 rfl rfl 2 (by decide) (hts (.fieldLink RX4 7 "IslandSolverModel" "body" "[F") (by decide +kernel)) (fun _ h9 => h9) rfl dX4_body_145 ?_
          refine lv_iload hx hb dX4_body_148 (lv_at hl 1 rfl) ?_
          refine lv_bipush (v := 9) hx hb dX4_body_150 (by decide) ?_
          refine lv_iadd hx hb dX4_body_152 ?_
          refine lv_topi (fun x_63 ex_63 => ?_)
          obtain rfl : x_63 = 9 := by rw [ex_63]; decide
          refine lv_fload hx hb dX4_body_153 (lv_at hl 7 rfl) ?_
          refine va_fast hx hb hK hP hD hS 0 0 rfl rfl (i := 9) (x := g4) (by unfold vp_in; decide) dX4_body_155 (fun H locs hP hD hS => ?_)
          have hP : va_P (dC, dI) vwCl [(a2, .inl (ca2, 3328, .inr (.inr (.inl (vf_upd f_62 (9 : Int32).toNatClampNeg g4))))), (a3, .inl (ca3, 256, .inl f3v)), (a4, .inl (ca4, 256, .inl f4v)), (mm, .inr (5, [.int 0, .int 0, .ref a2, .ref a3, .ref a4, .ref a5, .int 0, .ref a7, .ref a8, .ref a9, .ref a10, .ref a11, .ref a12, .ref a13, .ref a14, .ref a15, .ref a16, .ref a17, .ref a18, .int 0, .ref a20, .ref a21, .int 8, .float FP.fconst1, .float 1031798784, .int 0, .int 1, .int mst, .int 0, .ref a29, .ref a30, .ref a31, .float px, .float py, .float pz]))] H := hP
          have hD : va_D A [(a2, .inl (ca2, 3328, .inr (.inr (.inl (vf_upd f_62 (9 : Int32).toNatClampNeg g4))))), (a3, .inl (ca3, 256, .inl f3v)), (a4, .inl (ca4, 256, .inl f4v)), (mm, .inr (5, [.int 0, .int 0, .ref a2, .ref a3, .ref a4, .ref a5, .int 0, .ref a7, .ref a8, .ref a9, .ref a10, .ref a11, .ref a12, .ref a13, .ref a14, .ref a15, .ref a16, .ref a17, .ref a18, .int 0, .ref a20, .ref a21, .int 8, .float FP.fconst1, .float 1031798784, .int 0, .int 1, .int mst, .int 0, .ref a29, .ref a30, .ref a31, .float px, .float py, .float pz]))] := hD
          generalize hff_65 : vf_upd f_62 (9 : Int32).toNatClampNeg g4 = f_65 at hP hD
          refine lv_aload_n hx hb dX4_body_156 rfl (lv_at hl 3 rfl) ?_
          refine va_get (D := (dC, dI)) (ci := 5) (v := .ref a3) (C := RX4) (T := TX4) (N := 35) hx hb hts i_X4 hown hK hP 3 rfl rfl 3 (by decide) (hts (.fieldLink RX4 13 "IslandSolverModel" "asleep" "[Z") (by decide +kernel)) (fun _ h9 => h9) rfl dX4_body_157 ?_
          refine lv_aload_n hx hb dX4_body_160 rfl (lv_at hl 3 rfl) ?_
          refine va_get (D := (dC, dI)) (ci := 5) (v := .int 0) (C := RX4) (T := TX4) (N := 35) hx hb hts i_X4 hown hK hP 3 rfl rfl 1 (by decide) (hts (.fieldLink RX4 93 "IslandSolverModel" "bodies" "I") (by decide +kernel)) (fun _ h9 => h9) rfl dX4_body_161 ?_
          refine lv_iconst (v := 0) hx hb dX4_body_164 (by decide) ?_
          refine va_zast hx hb hK hP hD hS 1 1 rfl rfl (i := 0) (x := 0) (by unfold vp_in; decide) dX4_body_165 (fun H locs hP hD hS => ?_)
          have hP : va_P (dC, dI) vwCl [(a2, .inl (ca2, 3328, .inr (.inr (.inl f_65)))), (a3, .inl (ca3, 256, .inl (upd f3v (0 : Int32).toNatClampNeg (vp_nar .boolean 0)))), (a4, .inl (ca4, 256, .inl f4v)), (mm, .inr (5, [.int 0, .int 0, .ref a2, .ref a3, .ref a4, .ref a5, .int 0, .ref a7, .ref a8, .ref a9, .ref a10, .ref a11, .ref a12, .ref a13, .ref a14, .ref a15, .ref a16, .ref a17, .ref a18, .int 0, .ref a20, .ref a21, .int 8, .float FP.fconst1, .float 1031798784, .int 0, .int 1, .int mst, .int 0, .ref a29, .ref a30, .ref a31, .float px, .float py, .float pz]))] H := hP
          have hD : va_D A [(a2, .inl (ca2, 3328, .inr (.inr (.inl f_65)))), (a3, .inl (ca3, 256, .inl (upd f3v (0 : Int32).toNatClampNeg (vp_nar .boolean 0)))), (a4, .inl (ca4, 256, .inl f4v)), (mm, .inr (5, [.int 0, .int 0, .ref a2, .ref a3, .ref a4, .ref a5, .int 0, .ref a7, .ref a8, .ref a9, .ref a10, .ref a11, .ref a12, .ref a13, .ref a14, .ref a15, .ref a16, .ref a17, .ref a18, .int 0, .ref a20, .ref a21, .int 8, .float FP.fconst1, .float 1031798784, .int 0, .int 1, .int mst, .int 0, .ref a29, .ref a30, .ref a31, .float px, .float py, .float pz]))] := hD
          generalize hff_67 : upd f3v (0 : Int32).toNatClampNeg (vp_nar .boolean 0) = f_67 at hP hD
          refine lv_aload_n hx hb dX4_body_166 rfl (lv_at hl 3 rfl) ?_
          refine va_get (D := (dC, dI)) (ci := 5) (v := .ref a4) (C := RX4) (T := TX4) (N := 35) hx hb hts i_X4 hown hK hP 3 rfl rfl 4 (by decide) (hts (.fieldLink RX4 17 "IslandSolverModel" "quiet" "[I") (by decide +kernel)) (fun _ h9 => h9) rfl dX4_body_167 ?_
          refine lv_aload_n hx hb dX4_body_170 rfl (lv_at hl 3 rfl) ?_
          refine va_get (D := (dC, dI)) (ci := 5) (v := .int 0) (C := RX4) (T := TX4) (N := 35) hx hb hts i_X4 hown hK hP 3 rfl rfl 1 (by decide) (hts (.fieldLink RX4 93 "IslandSolverModel" "bodies" "I") (by decide +kernel)) (fun _ h9 => h9) rfl dX4_body_171 ?_
          refine lv_iconst (v := 0) hx hb dX4_body_174 (by decide) ?_
          refine va_iast hx hb hK hP hD hS 2 2 rfl rfl (i := 0) (x := 0) (by unfold vp_in; decide) dX4_body_175 (fun H locs hP hD hS => ?_)
          have hP : va_P (dC, dI) vwCl [(a2, .inl (ca2, 3328, .inr (.inr (.inl f_65)))), (a3, .inl (ca3, 256, .inl f_67)), (a4, .inl (ca4, 256, .inl (upd f4v (0 : Int32).toNatClampNeg 0))), (mm, .inr (5, [.int 0, .int 0, .ref a2, .ref a3, .ref a4, .ref a5, .int 0, .ref a7, .ref a8, .ref a9, .ref a10, .ref a11, .ref a12, .ref a13, .ref a14, .ref a15, .ref a16, .ref a17, .ref a18, .int 0, .ref a20, .ref a21, .int 8, .float FP.fconst1, .float 1031798784, .int 0, .int 1, .int mst, .int 0, .ref a29, .ref a30, .ref a31, .float px, .float py, .float pz]))] H := hP
          have hD : va_D A [(a2, .inl (ca2, 3328, .inr (.inr (.inl f_65)))), (a3, .inl (ca3, 256, .inl f_67)), (a4, .inl (ca4, 256, .inl (upd f4v (0 : Int32).toNatClampNeg 0))), (mm, .inr (5, [.int 0, .int 0, .ref a2, .ref a3, .ref a4, .ref a5, .int 0, .ref a7, .ref a8, .ref a9, .ref a10, .ref a11, .ref a12, .ref a13, .ref a14, .ref a15, .ref a16, .ref a17, .ref a18, .int 0, .ref a20, .ref a21, .int 8, .float FP.fconst1, .float 1031798784, .int 0, .int 1, .int mst, .int 0, .ref a29, .ref a30, .ref a31, .float px, .float py, .float pz]))] := hD
          generalize hff_69 : upd f4v (0 : Int32).toNatClampNeg 0 = f_69 at hP hD
          refine lv_aload_n hx hb dX4_body_176 rfl (lv_at hl 3 rfl) ?_
          refine lv_dup hx hb dX4_body_177 rfl ?_
          refine va_get (D := (dC, dI)) (ci := 5) (v := .int 0) (C := RX4) (T := TX4) (N := 35) hx hb hts i_X4 hown hK hP 3 rfl rfl 1 (by decide) (hts (.fieldLink RX4 93 "IslandSolverModel" "bodies" "I") (by decide +kernel)) (fun _ h9 => h9) rfl dX4_body_178 ?_
          refine lv_iconst (v := 1) hx hb dX4_body_181 (by decide) ?_
          refine lv_iadd hx hb dX4_body_182 ?_
          refine lv_topi (fun x_70 ex_70 => ?_)
          obtain rfl : x_70 = 1 := by rw [ex_70]; decide
          refine va_put (D := (dC, dI)) (ci := 5) (v := .int 1) (ty := .int) (C := RX4) (T := TX4) (N := 35) hx hb hts i_X4 tyX4 tyX4_ok nmX4 hown hK hP hD hS 3 rfl rfl 1 (by decide) (hts (.fieldLink RX4 93 "IslandSolverModel" "bodies" "I") (by decide +kernel)) (fun _ h9 => h9) rfl (by decide +kernel) rfl rfl (Nat.le_of_ble_eq_true rfl) dX4_body_183 (fun H locs hP hD hS => ?_)
          have hP : va_P (dC, dI) vwCl [(a2, .inl (ca2, 3328, .inr (.inr (.inl f_65)))), (a3, .inl (ca3, 256, .inl f_67)), (a4, .inl (ca4, 256, .inl f_69)), (mm, .inr (5, [.int 0, .int 1, .ref a2, .ref a3, .ref a4, .ref a5, .int 0, .ref a7, .ref a8, .ref a9, .ref a10, .ref a11, .ref a12, .ref a13, .ref a14, .ref a15, .ref a16, .ref a17, .ref a18, .int 0, .ref a20, .ref a21, .int 8, .float FP.fconst1, .float 1031798784, .int 0, .int 1, .int mst, .int 0, .ref a29, .ref a30, .ref a31, .float px, .float py, .float pz]))] H := hP
          have hD : va_D A [(a2, .inl (ca2, 3328, .inr (.inr (.inl f_65)))), (a3, .inl (ca3, 256, .inl f_67)), (a4, .inl (ca4, 256, .inl f_69)), (mm, .inr (5, [.int 0, .int 1, .ref a2, .ref a3, .ref a4, .ref a5, .int 0, .ref a7, .ref a8, .ref a9, .ref a10, .ref a11, .ref a12, .ref a13, .ref a14, .ref a15, .ref a16, .ref a17, .ref a18, .int 0, .ref a20, .ref a21, .int 8, .float FP.fconst1, .float 1031798784, .int 0, .int 1, .int mst, .int 0, .ref a29, .ref a30, .ref a31, .float px, .float py, .float pz]))] := hD
          refine lv_aload_n hx hb dX4_body_186 rfl (lv_at hl 3 rfl) ?_
          refine va_get (D := (dC, dI)) (ci := 5) (v := .int 1) (C := RX4) (T := TX4) (N := 35) hx hb hts i_X4 hown hK hP 3 rfl rfl 1 (by decide) (hts (.fieldLink RX4 93 "IslandSolverModel" "bodies" "I") (by decide +kernel)) (fun _ h9 => h9) rfl dX4_body_187 ?_
          refine lv_iconst (v := 1) hx hb dX4_body_190 (by decide) ?_
          refine lv_isub hx hb dX4_body_191 ?_
          refine lv_topi (fun x_71 ex_71 => ?_)
          obtain rfl : x_71 = 0 := by rw [ex_71]; decide
          refine W.widen (k := 0) (n := 0) (Nat.le_of_ble_eq_true rfl) (Nat.le_of_ble_eq_true rfl) ?_
          have hP9 := hP.sub (ws' := [(mm, .inr (5, [.int 0, .int 1, .ref a2, .ref a3, .ref a4, .ref a5, .int 0, .ref a7, .ref a8, .ref a9, .ref a10, .ref a11, .ref a12, .ref a13, .ref a14, .ref a15, .ref a16, .ref a17, .ref a18, .int 0, .ref a20, .ref a21, .int 8, .float FP.fconst1, .float 1031798784, .int 0, .int 1, .int mst, .int 0, .ref a29, .ref a30, .ref a31, .float px, .float py, .float pz]))]) [3] rfl
          have hD9 := hD.sub (ws' := [(mm, .inr (5, [.int 0, .int 1, .ref a2, .ref a3, .ref a4, .ref a5, .int 0, .ref a7, .ref a8, .ref a9, .ref a10, .ref a11, .ref a12, .ref a13, .ref a14, .ref a15, .ref a16, .ref a17, .ref a18, .int 0, .ref a20, .ref a21, .int 8, .float FP.fconst1, .float 1031798784, .int 0, .int 1, .int mst, .int 0, .ref a29, .ref a30, .ref a31, .float px, .float py, .float pz]))]) [3] (by decide) rfl
          have hK9 := hK.sub (tys' := []) [] rfl
          exact W.iret (v := 0) hx hb hr (fun t ht hW => ⟨⟨0, [.int 0, .int 1, .ref a2, .ref a3, .ref a4, .ref a5, .int 0, .ref a7, .ref a8, .ref a9, .ref a10, .ref a11, .ref a12, .ref a13, .ref a14, .ref a15, .ref a16, .ref a17, .ref a18, .int 0, .ref a20, .ref a21, .int 8, .float FP.fconst1, .float 1031798784, .int 0, .int 1, .int mst, .int 0, .ref a29, .ref a30, .ref a31, .float px, .float py, .float pz], rfl, Or.inl ⟨by simp only [kc_body, k_2, k_5, k_8, k_11, decide_true, decide_false, Bool.not_true, Bool.not_false, Bool.and_true, Bool.true_and, Bool.and_false, Bool.false_and, Bool.and_self, Bool.false_eq_true, if_true, if_false, ite_true, ite_false, reduceIte] <;> decide, rfl, rfl⟩, by rw [ht]; exact hP9, va_K.moved hW.alike hK9, hD9⟩, hS.F ht⟩) hS.2.2 dX4_body_192
        · refine lv_if_eq (tgt := 45) hx hb dX4_body_38 (by decide) (fun _ => ?_) (fun h9 => absurd h9 (by decide))
          refine lv_iconst (v := 0) hx hb dX4_body_45 (by decide) ?_
          refine lv_istore (lv' := [(5, .int 0), (0, .ref mm), (1, .float a), (2, .float b), (3, .float c3), (4, .float g4)]) hx hb dX4_body_46 hl (by decide) rfl (fun ls hl => ?_)
          refine lv_aload_n hx hb dX4_body_48 rfl (lv_at hl 1 rfl) ?_
          refine lv_iload hx hb dX4_body_49 (lv_at hl 0 rfl) ?_
          refine lv_aload_n hx hb dX4_body_51 rfl (lv_at hl 1 rfl) ?_
          refine va_get (D := (dC, dI)) (ci := 5) (v := .int 0) (C := RX4) (T := TX4) (N := 35) hx hb hts i_X4 hown hK hP 0 rfl rfl 1 (by decide) (hts (.fieldLink RX4 93 "IslandSolverModel" "bodies" "I") (by decide +kernel)) (fun _ h9 => h9) rfl dX4_body_52 ?_
          refine lv_sipush (v := 256) hx hb dX4_body_55 (by decide) ?_
          refine lv_icmp_ge (tgt := 65) hx hb dX4_body_58 (by decide) (fun h9 => absurd h9 (by decide)) (fun _ => ?_)
          refine lv_iconst (v := 1) hx hb dX4_body_61 (by decide) ?_
          refine lv_goto (tgt := 66) hx hb dX4_body_62 (by decide) ?_
          refine lv_iconst (v := 1) hx hb dX4_body_66 (by decide) ?_
          refine kc_calli (wc := [(mm, .inr (5, [.int th, .int 0, .ref a2, .ref a3, .ref a4, .ref a5, .int 0, .ref a7, .ref a8, .ref a9, .ref a10, .ref a11, .ref a12, .ref a13, .ref a14, .ref a15, .ref a16, .ref a17, .ref a18, .int 0, .ref a20, .ref a21, .int 8, .float FP.fconst1, .float 1031798784, .int 0, .int 1, .int mst, .int 0, .ref a29, .ref a30, .ref a31, .float px, .float py, .float pz]))]) (wr := [(a2, .inl (ca2, 3328, .inr (.inr (.inl f2)))), (a3, .inl (ca3, 256, .inl f3v)), (a4, .inl (ca4, 256, .inl f4v))]) (tyr := [(ca2, .float), (ca3, .boolean), (ca4, .int)]) (va_runV (As := [.int 0, .int 1, .int 1]) (rest := []) ⟨hx, hb, hml, hown, hts⟩ (c_goes0 l dC dI ad _ mm th a2 a3 a4 a5 a7 a8 a9 a10 a11 a12 a13 a14 a15 a16 a17 a18 a20 a21 mst a29 a30 a31 px py pz 1 1) (cwV 3 hts gX4_body_X4_goes rfl rfl rfl (by decide +kernel) ⟨Nat.le_of_ble_eq_true rfl, Nat.le_of_ble_eq_true rfl⟩) (kc_preV hP hD hK hS hA hE [0] rfl (by decide) [] rfl 0 rfl rfl) rfl rfl hl.1 rfl (lv_room (Nat.le_of_ble_eq_true rfl)) dX4_body_67 ⟨Nat.le_of_ble_eq_true rfl, Nat.le_of_ble_eq_true rfl⟩) hP hD hK hS hA [0] [1, 2, 3] rfl rfl (by decide) (by decide) [0, 1, 2] rfl (fun r_72 u H locs hw hP hD hK hS => ?_)
          subst hw
          have hP : va_P (dC, dI) vwCl [(a2, .inl (ca2, 3328, .inr (.inr (.inl f2)))), (a3, .inl (ca3, 256, .inl f3v)), (a4, .inl (ca4, 256, .inl f4v)), (mm, .inr (5, [.int 1, .int 0, .ref a2, .ref a3, .ref a4, .ref a5, .int 0, .ref a7, .ref a8, .ref a9, .ref a10, .ref a11, .ref a12, .ref a13, .ref a14, .ref a15, .ref a16, .ref a17, .ref a18, .int 0, .ref a20, .ref a21, .int 8, .float FP.fconst1, .float 1031798784, .int 0, .int 1, .int mst, .int 0, .ref a29, .ref a30, .ref a31, .float px, .float py, .float pz]))] H := hP
          have hD : va_D A [(a2, .inl (ca2, 3328, .inr (.inr (.inl f2)))), (a3, .inl (ca3, 256, .inl f3v)), (a4, .inl (ca4, 256, .inl f4v)), (mm, .inr (5, [.int 1, .int 0, .ref a2, .ref a3, .ref a4, .ref a5, .int 0, .ref a7, .ref a8, .ref a9, .ref a10, .ref a11, .ref a12, .ref a13, .ref a14, .ref a15, .ref a16, .ref a17, .ref a18, .int 0, .ref a20, .ref a21, .int 8, .float FP.fconst1, .float 1031798784, .int 0, .int 1, .int mst, .int 0, .ref a29, .ref a30, .ref a31, .float px, .float py, .float pz]))] := hD
          have hK : va_K (dC, dI) vwCl [(ca2, .float), (ca3, .boolean), (ca4, .int)] s := hK.sub [0, 1, 2] rfl
          refine lv_if_ne (tgt := 75) hx hb dX4_body_70 (by decide) (fun h9 => absurd h9 (by decide)) (fun _ => ?_)
          refine lv_iconst (v := 0) hx hb dX4_body_73 (by decide) ?_
          refine W.widen (k := 0) (n := 0) (Nat.le_of_ble_eq_true rfl) (Nat.le_of_ble_eq_true rfl) ?_
          have hP9 := hP.sub (ws' := [(mm, .inr (5, [.int 1, .int 0, .ref a2, .ref a3, .ref a4, .ref a5, .int 0, .ref a7, .ref a8, .ref a9, .ref a10, .ref a11, .ref a12, .ref a13, .ref a14, .ref a15, .ref a16, .ref a17, .ref a18, .int 0, .ref a20, .ref a21, .int 8, .float FP.fconst1, .float 1031798784, .int 0, .int 1, .int mst, .int 0, .ref a29, .ref a30, .ref a31, .float px, .float py, .float pz]))]) [3] rfl
          have hD9 := hD.sub (ws' := [(mm, .inr (5, [.int 1, .int 0, .ref a2, .ref a3, .ref a4, .ref a5, .int 0, .ref a7, .ref a8, .ref a9, .ref a10, .ref a11, .ref a12, .ref a13, .ref a14, .ref a15, .ref a16, .ref a17, .ref a18, .int 0, .ref a20, .ref a21, .int 8, .float FP.fconst1, .float 1031798784, .int 0, .int 1, .int mst, .int 0, .ref a29, .ref a30, .ref a31, .float px, .float py, .float pz]))]) [3] (by decide) rfl
          have hK9 := hK.sub (tys' := []) [] rfl
          exact W.iret (v := 0) hx hb hr (fun t ht hW => ⟨⟨0, [.int 1, .int 0, .ref a2, .ref a3, .ref a4, .ref a5, .int 0, .ref a7, .ref a8, .ref a9, .ref a10, .ref a11, .ref a12, .ref a13, .ref a14, .ref a15, .ref a16, .ref a17, .ref a18, .int 0, .ref a20, .ref a21, .int 8, .float FP.fconst1, .float 1031798784, .int 0, .int 1, .int mst, .int 0, .ref a29, .ref a30, .ref a31, .float px, .float py, .float pz], rfl, Or.inr (⟨by simp only [kc_body, k_2, k_5, k_8, k_12, decide_true, decide_false, Bool.not_true, Bool.not_false, Bool.and_true, Bool.true_and, Bool.and_false, Bool.false_and, Bool.and_self, Bool.false_eq_true, if_true, if_false, ite_true, ite_false, reduceIte] <;> decide, rfl, rfl⟩), by rw [ht]; exact hP9, va_K.moved hW.alike hK9, hD9⟩, hS.F ht⟩) hS.2.2 dX4_body_74
      · refine lv_if_eq (tgt := 45) hx hb dX4_body_27 (by decide) (fun _ => ?_) (fun h9 => absurd h9 (by decide))
        refine lv_iconst (v := 0) hx hb dX4_body_45 (by decide) ?_
        refine lv_istore (lv' := [(5, .int 0), (0, .ref mm), (1, .float a), (2, .float b), (3, .float c3), (4, .float g4)]) hx hb dX4_body_46 hl (by decide) rfl (fun ls hl => ?_)
        refine lv_aload_n hx hb dX4_body_48 rfl (lv_at hl 1 rfl) ?_
        refine lv_iload hx hb dX4_body_49 (lv_at hl 0 rfl) ?_
        refine lv_aload_n hx hb dX4_body_51 rfl (lv_at hl 1 rfl) ?_
        refine va_get (D := (dC, dI)) (ci := 5) (v := .int 0) (C := RX4) (T := TX4) (N := 35) hx hb hts i_X4 hown hK hP 0 rfl rfl 1 (by decide) (hts (.fieldLink RX4 93 "IslandSolverModel" "bodies" "I") (by decide +kernel)) (fun _ h9 => h9) rfl dX4_body_52 ?_
        refine lv_sipush (v := 256) hx hb dX4_body_55 (by decide) ?_
        refine lv_icmp_ge (tgt := 65) hx hb dX4_body_58 (by decide) (fun h9 => absurd h9 (by decide)) (fun _ => ?_)
        refine lv_iconst (v := 1) hx hb dX4_body_61 (by decide) ?_
        refine lv_goto (tgt := 66) hx hb dX4_body_62 (by decide) ?_
        refine lv_iconst (v := 1) hx hb dX4_body_66 (by decide) ?_
        refine kc_calli (wc := [(mm, .inr (5, [.int th, .int 0, .ref a2, .ref a3, .ref a4, .ref a5, .int 0, .ref a7, .ref a8, .ref a9, .ref a10, .ref a11, .ref a12, .ref a13, .ref a14, .ref a15, .ref a16, .ref a17, .ref a18, .int 0, .ref a20, .ref a21, .int 8, .float FP.fconst1, .float 1031798784, .int 0, .int 1, .int mst, .int 0, .ref a29, .ref a30, .ref a31, .float px, .float py, .float pz]))]) (wr := [(a2, .inl (ca2, 3328, .inr (.inr (.inl f2)))), (a3, .inl (ca3, 256, .inl f3v)), (a4, .inl (ca4, 256, .inl f4v))]) (tyr := [(ca2, .float), (ca3, .boolean), (ca4, .int)]) (va_runV (As := [.int 0, .int 1, .int 1]) (rest := []) ⟨hx, hb, hml, hown, hts⟩ (c_goes0 l dC dI ad _ mm th a2 a3 a4 a5 a7 a8 a9 a10 a11 a12 a13 a14 a15 a16 a17 a18 a20 a21 mst a29 a30 a31 px py pz 1 1) (cwV 3 hts gX4_body_X4_goes rfl rfl rfl (by decide +kernel) ⟨Nat.le_of_ble_eq_true rfl, Nat.le_of_ble_eq_true rfl⟩) (kc_preV hP hD hK hS hA hE [0] rfl (by decide) [] rfl 0 rfl rfl) rfl rfl hl.1 rfl (lv_room (Nat.le_of_ble_eq_true rfl)) dX4_body_67 ⟨Nat.le_of_ble_eq_true rfl, Nat.le_of_ble_eq_true rfl⟩) hP hD hK hS hA [0] [1, 2, 3] rfl rfl (by decide) (by decide) [0, 1, 2] rfl (fun r_73 u H locs hw hP hD hK hS => ?_)
        subst hw
        have hP : va_P (dC, dI) vwCl [(a2, .inl (ca2, 3328, .inr (.inr (.inl f2)))), (a3, .inl (ca3, 256, .inl f3v)), (a4, .inl (ca4, 256, .inl f4v)), (mm, .inr (5, [.int 1, .int 0, .ref a2, .ref a3, .ref a4, .ref a5, .int 0, .ref a7, .ref a8, .ref a9, .ref a10, .ref a11, .ref a12, .ref a13, .ref a14, .ref a15, .ref a16, .ref a17, .ref a18, .int 0, .ref a20, .ref a21, .int 8, .float FP.fconst1, .float 1031798784, .int 0, .int 1, .int mst, .int 0, .ref a29, .ref a30, .ref a31, .float px, .float py, .float pz]))] H := hP
        have hD : va_D A [(a2, .inl (ca2, 3328, .inr (.inr (.inl f2)))), (a3, .inl (ca3, 256, .inl f3v)), (a4, .inl (ca4, 256, .inl f4v)), (mm, .inr (5, [.int 1, .int 0, .ref a2, .ref a3, .ref a4, .ref a5, .int 0, .ref a7, .ref a8, .ref a9, .ref a10, .ref a11, .ref a12, .ref a13, .ref a14, .ref a15, .ref a16, .ref a17, .ref a18, .int 0, .ref a20, .ref a21, .int 8, .float FP.fconst1, .float 1031798784, .int 0, .int 1, .int mst, .int 0, .ref a29, .ref a30, .ref a31, .float px, .float py, .float pz]))] := hD
        have hK : va_K (dC, dI) vwCl [(ca2, .float), (ca3, .boolean), (ca4, .int)] s := hK.sub [0, 1, 2] rfl
        refine lv_if_ne (tgt := 75) hx hb dX4_body_70 (by decide) (fun h9 => absurd h9 (by decide)) (fun _ => ?_)
        refine lv_iconst (v := 0) hx hb dX4_body_73 (by decide) ?_
        refine W.widen (k := 0) (n := 0) (Nat.le_of_ble_eq_true rfl) (Nat.le_of_ble_eq_true rfl) ?_
        have hP9 := hP.sub (ws' := [(mm, .inr (5, [.int 1, .int 0, .ref a2, .ref a3, .ref a4, .ref a5, .int 0, .ref a7, .ref a8, .ref a9, .ref a10, .ref a11, .ref a12, .ref a13, .ref a14, .ref a15, .ref a16, .ref a17, .ref a18, .int 0, .ref a20, .ref a21, .int 8, .float FP.fconst1, .float 1031798784, .int 0, .int 1, .int mst, .int 0, .ref a29, .ref a30, .ref a31, .float px, .float py, .float pz]))]) [3] rfl
        have hD9 := hD.sub (ws' := [(mm, .inr (5, [.int 1, .int 0, .ref a2, .ref a3, .ref a4, .ref a5, .int 0, .ref a7, .ref a8, .ref a9, .ref a10, .ref a11, .ref a12, .ref a13, .ref a14, .ref a15, .ref a16, .ref a17, .ref a18, .int 0, .ref a20, .ref a21, .int 8, .float FP.fconst1, .float 1031798784, .int 0, .int 1, .int mst, .int 0, .ref a29, .ref a30, .ref a31, .float px, .float py, .float pz]))]) [3] (by decide) rfl
        have hK9 := hK.sub (tys' := []) [] rfl
        exact W.iret (v := 0) hx hb hr (fun t ht hW => ⟨⟨0, [.int 1, .int 0, .ref a2, .ref a3, .ref a4, .ref a5, .int 0, .ref a7, .ref a8, .ref a9, .ref a10, .ref a11, .ref a12, .ref a13, .ref a14, .ref a15, .ref a16, .ref a17, .ref a18, .int 0, .ref a20, .ref a21, .int 8, .float FP.fconst1, .float 1031798784, .int 0, .int 1, .int mst, .int 0, .ref a29, .ref a30, .ref a31, .float px, .float py, .float pz], rfl, Or.inr (⟨by simp only [kc_body, k_2, k_5, k_9, decide_true, decide_false, Bool.not_true, Bool.not_false, Bool.and_true, Bool.true_and, Bool.and_false, Bool.false_and, Bool.and_self, Bool.false_eq_true, if_true, if_false, ite_true, ite_false, reduceIte] <;> decide, rfl, rfl⟩), by rw [ht]; exact hP9, va_K.moved hW.alike hK9, hD9⟩, hS.F ht⟩) hS.2.2 dX4_body_74
    · refine lv_if_eq (tgt := 45) hx hb dX4_body_17 (by decide) (fun _ => ?_) (fun h9 => absurd h9 (by decide))
      refine lv_iconst (v := 0) hx hb dX4_body_45 (by decide) ?_
      refine lv_istore (lv' := [(5, .int 0), (0, .ref mm), (1, .float a), (2, .float b), (3, .float c3), (4, .float g4)]) hx hb dX4_body_46 hl (by decide) rfl (fun ls hl => ?_)
      refine lv_aload_n hx hb dX4_body_48 rfl (lv_at hl 1 rfl) ?_
      refine lv_iload hx hb dX4_body_49 (lv_at hl 0 rfl) ?_
      refine lv_aload_n hx hb dX4_body_51 rfl (lv_at hl 1 rfl) ?_
      refine va_get (D := (dC, dI)) (ci := 5) (v := .int 0) (C := RX4) (T := TX4) (N := 35) hx hb hts i_X4 hown hK hP 0 rfl rfl 1 (by decide) (hts (.fieldLink RX4 93 "IslandSolverModel" "bodies" "I") (by decide +kernel)) (fun _ h9 => h9) rfl dX4_body_52 ?_
      refine lv_sipush (v := 256) hx hb dX4_body_55 (by decide) ?_
      refine lv_icmp_ge (tgt := 65) hx hb dX4_body_58 (by decide) (fun h9 => absurd h9 (by decide)) (fun _ => ?_)
      refine lv_iconst (v := 1) hx hb dX4_body_61 (by decide) ?_
      refine lv_goto (tgt := 66) hx hb dX4_body_62 (by decide) ?_
      refine lv_iconst (v := 1) hx hb dX4_body_66 (by decide) ?_
      refine kc_calli (wc := [(mm, .inr (5, [.int th, .int 0, .ref a2, .ref a3, .ref a4, .ref a5, .int 0, .ref a7, .ref a8, .ref a9, .ref a10, .ref a11, .ref a12, .ref a13, .ref a14, .ref a15, .ref a16, .ref a17, .ref a18, .int 0, .ref a20, .ref a21, .int 8, .float FP.fconst1, .float 1031798784, .int 0, .int 1, .int mst, .int 0, .ref a29, .ref a30, .ref a31, .float px, .float py, .float pz]))]) (wr := [(a2, .inl (ca2, 3328, .inr (.inr (.inl f2)))), (a3, .inl (ca3, 256, .inl f3v)), (a4, .inl (ca4, 256, .inl f4v))]) (tyr := [(ca2, .float), (ca3, .boolean), (ca4, .int)]) (va_runV (As := [.int 0, .int 1, .int 1]) (rest := []) ⟨hx, hb, hml, hown, hts⟩ (c_goes0 l dC dI ad _ mm th a2 a3 a4 a5 a7 a8 a9 a10 a11 a12 a13 a14 a15 a16 a17 a18 a20 a21 mst a29 a30 a31 px py pz 1 1) (cwV 3 hts gX4_body_X4_goes rfl rfl rfl (by decide +kernel) ⟨Nat.le_of_ble_eq_true rfl, Nat.le_of_ble_eq_true rfl⟩) (kc_preV hP hD hK hS hA hE [0] rfl (by decide) [] rfl 0 rfl rfl) rfl rfl hl.1 rfl (lv_room (Nat.le_of_ble_eq_true rfl)) dX4_body_67 ⟨Nat.le_of_ble_eq_true rfl, Nat.le_of_ble_eq_true rfl⟩) hP hD hK hS hA [0] [1, 2, 3] rfl rfl (by decide) (by decide) [0, 1, 2] rfl (fun r_74 u H locs hw hP hD hK hS => ?_)
      subst hw
      have hP : va_P (dC, dI) vwCl [(a2, .inl (ca2, 3328, .inr (.inr (.inl f2)))), (a3, .inl (ca3, 256, .inl f3v)), (a4, .inl (ca4, 256, .inl f4v)), (mm, .inr (5, [.int 1, .int 0, .ref a2, .ref a3, .ref a4, .ref a5, .int 0, .ref a7, .ref a8, .ref a9, .ref a10, .ref a11, .ref a12, .ref a13, .ref a14, .ref a15, .ref a16, .ref a17, .ref a18, .int 0, .ref a20, .ref a21, .int 8, .float FP.fconst1, .float 1031798784, .int 0, .int 1, .int mst, .int 0, .ref a29, .ref a30, .ref a31, .float px, .float py, .float pz]))] H := hP
      have hD : va_D A [(a2, .inl (ca2, 3328, .inr (.inr (.inl f2)))), (a3, .inl (ca3, 256, .inl f3v)), (a4, .inl (ca4, 256, .inl f4v)), (mm, .inr (5, [.int 1, .int 0, .ref a2, .ref a3, .ref a4, .ref a5, .int 0, .ref a7, .ref a8, .ref a9, .ref a10, .ref a11, .ref a12, .ref a13, .ref a14, .ref a15, .ref a16, .ref a17, .ref a18, .int 0, .ref a20, .ref a21, .int 8, .float FP.fconst1, .float 1031798784, .int 0, .int 1, .int mst, .int 0, .ref a29, .ref a30, .ref a31, .float px, .float py, .float pz]))] := hD
      have hK : va_K (dC, dI) vwCl [(ca2, .float), (ca3, .boolean), (ca4, .int)] s := hK.sub [0, 1, 2] rfl
      refine lv_if_ne (tgt := 75) hx hb dX4_body_70 (by decide) (fun h9 => absurd h9 (by decide)) (fun _ => ?_)
      refine lv_iconst (v := 0) hx hb dX4_body_73 (by decide) ?_
      refine W.widen (k := 0) (n := 0) (Nat.le_of_ble_eq_true rfl) (Nat.le_of_ble_eq_true rfl) ?_
      have hP9 := hP.sub (ws' := [(mm, .inr (5, [.int 1, .int 0, .ref a2, .ref a3, .ref a4, .ref a5, .int 0, .ref a7, .ref a8, .ref a9, .ref a10, .ref a11, .ref a12, .ref a13, .ref a14, .ref a15, .ref a16, .ref a17, .ref a18, .int 0, .ref a20, .ref a21, .int 8, .float FP.fconst1, .float 1031798784, .int 0, .int 1, .int mst, .int 0, .ref a29, .ref a30, .ref a31, .float px, .float py, .float pz]))]) [3] rfl
      have hD9 := hD.sub (ws' := [(mm, .inr (5, [.int 1, .int 0, .ref a2, .ref a3, .ref a4, .ref a5, .int 0, .ref a7, .ref a8, .ref a9, .ref a10, .ref a11, .ref a12, .ref a13, .ref a14, .ref a15, .ref a16, .ref a17, .ref a18, .int 0, .ref a20, .ref a21, .int 8, .float FP.fconst1, .float 1031798784, .int 0, .int 1, .int mst, .int 0, .ref a29, .ref a30, .ref a31, .float px, .float py, .float pz]))]) [3] (by decide) rfl
      have hK9 := hK.sub (tys' := []) [] rfl
      exact W.iret (v := 0) hx hb hr (fun t ht hW => ⟨⟨0, [.int 1, .int 0, .ref a2, .ref a3, .ref a4, .ref a5, .int 0, .ref a7, .ref a8, .ref a9, .ref a10, .ref a11, .ref a12, .ref a13, .ref a14, .ref a15, .ref a16, .ref a17, .ref a18, .int 0, .ref a20, .ref a21, .int 8, .float FP.fconst1, .float 1031798784, .int 0, .int 1, .int mst, .int 0, .ref a29, .ref a30, .ref a31, .float px, .float py, .float pz], rfl, Or.inr (⟨by simp only [kc_body, k_2, k_6, decide_true, decide_false, Bool.not_true, Bool.not_false, Bool.and_true, Bool.true_and, Bool.and_false, Bool.false_and, Bool.and_self, Bool.false_eq_true, if_true, if_false, ite_true, ite_false, reduceIte] <;> decide, rfl, rfl⟩), by rw [ht]; exact hP9, va_K.moved hW.alike hK9, hD9⟩, hS.F ht⟩) hS.2.2 dX4_body_74
  · refine lv_if_eq (tgt := 45) hx hb dX4_body_7 (by decide) (fun _ => ?_) (fun h9 => absurd h9 (by decide))
    refine lv_iconst (v := 0) hx hb dX4_body_45 (by decide) ?_
    refine lv_istore (lv' := [(5, .int 0), (0, .ref mm), (1, .float a), (2, .float b), (3, .float c3), (4, .float g4)]) hx hb dX4_body_46 hl (by decide) rfl (fun ls hl => ?_)
    refine lv_aload_n hx hb dX4_body_48 rfl (lv_at hl 1 rfl) ?_
    refine lv_iload hx hb dX4_body_49 (lv_at hl 0 rfl) ?_
    refine lv_aload_n hx hb dX4_body_51 rfl (lv_at hl 1 rfl) ?_
    refine va_get (D := (dC, dI)) (ci := 5) (v := .int 0) (C := RX4) (T := TX4) (N := 35) hx hb hts i_X4 hown hK hP 0 rfl rfl 1 (by decide) (hts (.fieldLink RX4 93 "IslandSolverModel" "bodies" "I") (by decide +kernel)) (fun _ h9 => h9) rfl dX4_body_52 ?_
    refine lv_sipush (v := 256) hx hb dX4_body_55 (by decide) ?_
    refine lv_icmp_ge (tgt := 65) hx hb dX4_body_58 (by decide) (fun h9 => absurd h9 (by decide)) (fun _ => ?_)
    refine lv_iconst (v := 1) hx hb dX4_body_61 (by decide) ?_
    refine lv_goto (tgt := 66) hx hb dX4_body_62 (by decide) ?_
    refine lv_iconst (v := 1) hx hb dX4_body_66 (by decide) ?_
    refine kc_calli (wc := [(mm, .inr (5, [.int th, .int 0, .ref a2, .ref a3, .ref a4, .ref a5, .int 0, .ref a7, .ref a8, .ref a9, .ref a10, .ref a11, .ref a12, .ref a13, .ref a14, .ref a15, .ref a16, .ref a17, .ref a18, .int 0, .ref a20, .ref a21, .int 8, .float FP.fconst1, .float 1031798784, .int 0, .int 1, .int mst, .int 0, .ref a29, .ref a30, .ref a31, .float px, .float py, .float pz]))]) (wr := [(a2, .inl (ca2, 3328, .inr (.inr (.inl f2)))), (a3, .inl (ca3, 256, .inl f3v)), (a4, .inl (ca4, 256, .inl f4v))]) (tyr := [(ca2, .float), (ca3, .boolean), (ca4, .int)]) (va_runV (As := [.int 0, .int 1, .int 1]) (rest := []) ⟨hx, hb, hml, hown, hts⟩ (c_goes0 l dC dI ad _ mm th a2 a3 a4 a5 a7 a8 a9 a10 a11 a12 a13 a14 a15 a16 a17 a18 a20 a21 mst a29 a30 a31 px py pz 1 1) (cwV 3 hts gX4_body_X4_goes rfl rfl rfl (by decide +kernel) ⟨Nat.le_of_ble_eq_true rfl, Nat.le_of_ble_eq_true rfl⟩) (kc_preV hP hD hK hS hA hE [0] rfl (by decide) [] rfl 0 rfl rfl) rfl rfl hl.1 rfl (lv_room (Nat.le_of_ble_eq_true rfl)) dX4_body_67 ⟨Nat.le_of_ble_eq_true rfl, Nat.le_of_ble_eq_true rfl⟩) hP hD hK hS hA [0] [1, 2, 3] rfl rfl (by decide) (by decide) [0, 1, 2] rfl (fun r_75 u H locs hw hP hD hK hS => ?_)
    subst hw
    have hP : va_P (dC, dI) vwCl [(a2, .inl (ca2, 3328, .inr (.inr (.inl f2)))), (a3, .inl (ca3, 256, .inl f3v)), (a4, .inl (ca4, 256, .inl f4v)), (mm, .inr (5, [.int 1, .int 0, .ref a2, .ref a3, .ref a4, .ref a5, .int 0, .ref a7, .ref a8, .ref a9, .ref a10, .ref a11, .ref a12, .ref a13, .ref a14, .ref a15, .ref a16, .ref a17, .ref a18, .int 0, .ref a20, .ref a21, .int 8, .float FP.fconst1, .float 1031798784, .int 0, .int 1, .int mst, .int 0, .ref a29, .ref a30, .ref a31, .float px, .float py, .float pz]))] H := hP
    have hD : va_D A [(a2, .inl (ca2, 3328, .inr (.inr (.inl f2)))), (a3, .inl (ca3, 256, .inl f3v)), (a4, .inl (ca4, 256, .inl f4v)), (mm, .inr (5, [.int 1, .int 0, .ref a2, .ref a3, .ref a4, .ref a5, .int 0, .ref a7, .ref a8, .ref a9, .ref a10, .ref a11, .ref a12, .ref a13, .ref a14, .ref a15, .ref a16, .ref a17, .ref a18, .int 0, .ref a20, .ref a21, .int 8, .float FP.fconst1, .float 1031798784, .int 0, .int 1, .int mst, .int 0, .ref a29, .ref a30, .ref a31, .float px, .float py, .float pz]))] := hD
    have hK : va_K (dC, dI) vwCl [(ca2, .float), (ca3, .boolean), (ca4, .int)] s := hK.sub [0, 1, 2] rfl
    refine lv_if_ne (tgt := 75) hx hb dX4_body_70 (by decide) (fun h9 => absurd h9 (by decide)) (fun _ => ?_)
    refine lv_iconst (v := 0) hx hb dX4_body_73 (by decide) ?_
    refine W.widen (k := 0) (n := 0) (Nat.le_of_ble_eq_true rfl) (Nat.le_of_ble_eq_true rfl) ?_
    have hP9 := hP.sub (ws' := [(mm, .inr (5, [.int 1, .int 0, .ref a2, .ref a3, .ref a4, .ref a5, .int 0, .ref a7, .ref a8, .ref a9, .ref a10, .ref a11, .ref a12, .ref a13, .ref a14, .ref a15, .ref a16, .ref a17, .ref a18, .int 0, .ref a20, .ref a21, .int 8, .float FP.fconst1, .float 1031798784, .int 0, .int 1, .int mst, .int 0, .ref a29, .ref a30, .ref a31, .float px, .float py, .float pz]))]) [3] rfl
    have hD9 := hD.sub (ws' := [(mm, .inr (5, [.int 1, .int 0, .ref a2, .ref a3, .ref a4, .ref a5, .int 0, .ref a7, .ref a8, .ref a9, .ref a10, .ref a11, .ref a12, .ref a13, .ref a14, .ref a15, .ref a16, .ref a17, .ref a18, .int 0, .ref a20, .ref a21, .int 8, .float FP.fconst1, .float 1031798784, .int 0, .int 1, .int mst, .int 0, .ref a29, .ref a30, .ref a31, .float px, .float py, .float pz]))]) [3] (by decide) rfl
    have hK9 := hK.sub (tys' := []) [] rfl
    exact W.iret (v := 0) hx hb hr (fun t ht hW => ⟨⟨0, [.int 1, .int 0, .ref a2, .ref a3, .ref a4, .ref a5, .int 0, .ref a7, .ref a8, .ref a9, .ref a10, .ref a11, .ref a12, .ref a13, .ref a14, .ref a15, .ref a16, .ref a17, .ref a18, .int 0, .ref a20, .ref a21, .int 8, .float FP.fconst1, .float 1031798784, .int 0, .int 1, .int mst, .int 0, .ref a29, .ref a30, .ref a31, .float px, .float py, .float pz], rfl, Or.inr (⟨by simp only [kc_body, k_3, decide_true, decide_false, Bool.not_true, Bool.not_false, Bool.and_true, Bool.true_and, Bool.and_false, Bool.false_and, Bool.and_self, Bool.false_eq_true, if_true, if_false, ite_true, ite_false, reduceIte] <;> decide, rfl, rfl⟩), by rw [ht]; exact hP9, va_K.moved hW.alike hK9, hD9⟩, hS.F ht⟩) hS.2.2 dX4_body_74
