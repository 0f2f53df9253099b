set_option maxHeartbeats 4000000 in
set_option maxRecDepth 100000 in
theorem w_body (l : Launch) (dC : Nat → ClassId) (dI : Nat → Nat → Nat) (dA : Nat → ClassId) (ad sz : Nat) (τ : Nat → Nat → Nat) (pv : Nat → Nat → Value) (L : List Nat) (f : Nat → va_E) (hI : kI dA τ pv L f) (x bl rl kl ba ra ka fr nb nr nk : Nat) (hW : kW τ pv ad x bl rl kl ba ra ka fr nb nr nk) (a : UInt32) (b : UInt32) (c9 : UInt32) (d9 : UInt32) (o : Nat) (hh_o : τ 0 o = 36) (hlt : l.stackTraces = false) : Met l yL_body wsL_body ({ frames := 8, cells := 5, slots := 1640, locals := 191 } : Room) (va_Pc [.ref x, .float a, .float b, .float c9, .float d9, .ref o] (kB dC dI dA ad sz L f)) (va_Qi (fun r u => r = kc_body2 nb a b c9 d9 ∧ kPostO dA τ pv ad x ba ra nb nr (kinc (kc_body2 nb a b c9 d9) nb) nr o (kc_body2 nb a b c9 d9) (.long (nI nb).toInt64) u) (kR dC dI dA (va_A (va_pl L f) sz)) (va_A (va_pl L f) sz)) 5 1640 (va_A (va_pl L f) sz) := by
  refine va_MetW (cc := cL_body) (maxL := 7) (ret := (some .int)) (by decide) rfl ?_
  intro p e s m args below meth c s₁ B hml hv
  obtain ⟨rfl, hsz, hP, hK, hD0, hE⟩ := hv
  have hx := B.exec
  have hb := B.bytes
  have hr := B.returns
  have hts := atoms_spec (ws := wsL_body) B.pre
  have hown : s.vm.findClass RL = some m.cls := findClass_of_methodNamed B.named
  have hlocks := B.notSynchronized
  have htab : c.exceptionTable.toList = tableOf [(0, 14, 17, 13), (0, 14, 21, 15)] := vx_table (x := yL_body) B (hts _ List.mem_cons_self)
  subst hsz
  have hD := hD0.self (sz := s.heap.size)
  generalize hAe : va_A (va_pl L f) s.heap.size = A at hD hE ⊢
  have hA : ∀ q : Nat, s.heap.size ≤ q → A q := fun q h => by rw [← hAe]; exact Or.inr h
  have hS : va_S A s.heap s.heap [] := va_S.rf
  have hP : va_P (dC, dI) vwCl (va_pl L f) s.heap := hP
  have hK : va_K (dC, dI) vwCl (tyA dA) s := hK
  have hl := lv_entry ([.ref x, .float a, .float b, .float c9, .float d9, .ref o]) (n := 7) (Nat.le_of_ble_eq_true rfl)
  rw [lg_entry_eq]
  generalize (lg_sl ([.ref x, .float a, .float b, .float c9, .float d9, .ref o]) ++ List.replicate (7 - (lg_sl ([.ref x, .float a, .float b, .float c9, .float d9, .ref o])).length) Slot.unset).toArray = ls at hl ⊢
  have hl : lv_has ls 7 [(0, .ref x), (1, .float a), (2, .float b), (3, .float c9), (4, .float d9), (5, .ref o)] := hl
  have hW00 := hW
  refine lv_aload hx hb dL_body_0 (lv_at hl 5 rfl) ?_
  refine lv_iconst (v := 0) hx hb dL_body_2 (by decide) ?_
  refine lv_aload_n hx hb dL_body_3 rfl (lv_at hl 0 rfl) ?_
  refine lv_fload_n hx hb dL_body_4 rfl (lv_at hl 1 rfl) ?_
  refine lv_fload_n hx hb dL_body_5 rfl (lv_at hl 2 rfl) ?_
  refine lv_fload_n hx hb dL_body_6 rfl (lv_at hl 3 rfl) ?_
  refine lv_fload hx hb dL_body_7 (lv_at hl 4 rfl) ?_
  refine kd_xi (vx_runV (As := [.float a, .float b, .float c9, .float d9]) (rest := [.int 0, .ref o]) ⟨hx, hb, hml, hown, hts⟩ (k_p_body l dC dI dA ad _ τ pv _ _ hI x bl rl kl ba ra ka fr nb nr nk hW a b c9 d9 hlt) (cwV 4 hts gL_body_X3_body rfl rfl rfl (by decide +kernel) ⟨Nat.le_of_ble_eq_true rfl, Nat.le_of_ble_eq_true rfl⟩) (kd_preV hP hD hK hS hA hE hI hW.tx rfl rfl) rfl rfl hl.1 rfl (lv_room (Nat.le_of_ble_eq_true rfl)) dL_body_9 ⟨Nat.le_of_ble_eq_true rfl, Nat.le_of_ble_eq_true rfl⟩) hD hS hA (fun E ce q9 u_1 H locs hw hP hD hS hce hcv hcl => ?_) (fun r_2 u_1 H locs hw hP hD hS => ?_)
  · obtain ⟨hE9, hI⟩ := hw
    rcases hE9 with ⟨rfl, hk9⟩ | ⟨rfl, hk9⟩
    · refine vx_catch (name := "java/lang/IllegalArgumentException") hown [] ⟨0, 14, 17, 13⟩ [⟨0, 14, 21, 15⟩] (by rw [htab]; rfl) (fun z hz => by cases hz) (by decide) (by decide) (hts (.classLink RL 13 "java/lang/IllegalArgumentException") (by decide +kernel)) (hE.cast "java/lang/IllegalArgumentException" (by decide +kernel)) hce hcv hcl ?_
      refine W.eq (g2 := F0 m 17 ls [.ref q9]) rfl ?_
      refine lv_astore (lv' := [(6, .ref q9), (0, .ref x), (1, .float a), (2, .float b), (3, .float c9), (4, .float d9), (5, .ref o)]) hx hb dL_body_17 hl (by decide) rfl (fun ls hl => ?_)
      refine lv_iconst (v := 1) hx hb dL_body_19 (by decide) ?_
      refine W.widen (k := 5) (n := 1640) (Nat.le_of_ble_eq_true rfl) (Nat.le_of_ble_eq_true rfl) ?_
      exact W.iret (v := 1) hx hb hr (fun t ht hW9 => ⟨⟨1, (u_1.1, u_1.2), rfl, ⟨hk9.symm, by rw [kinc_1 (by rw [hk9]; decide)]; exact ⟨τ, pv, bl, rl, kl, ba, ra, ka, fr, nk, kFr.rf, hW, fun _ _ => rfl, fun _ _ _ => rfl, fun h9 => absurd (hk9.symm.trans h9) (by decide), hI⟩⟩, by rw [ht]; exact hP, va_K.moved hW9.alike hK, hD⟩, hS.F ht⟩) hS.2.2 dL_body_20
    · refine vx_catch (name := "java/lang/IllegalStateException") hown [⟨0, 14, 17, 13⟩] ⟨0, 14, 21, 15⟩ [] (by rw [htab]; rfl) (fun z hz => by
        simp only [List.mem_cons, List.not_mem_nil, or_false] at hz
        rcases hz with rfl
        · exact Or.inr ⟨by decide, "java/lang/IllegalArgumentException", (hts (.classLink RL 13 "java/lang/IllegalArgumentException") (by decide +kernel)), hE.nocast "java/lang/IllegalStateException" "java/lang/IllegalArgumentException" (by decide +kernel)⟩) (by decide) (by decide) (hts (.classLink RL 15 "java/lang/IllegalStateException") (by decide +kernel)) (hE.cast "java/lang/IllegalStateException" (by decide +kernel)) hce hcv hcl ?_
      refine W.eq (g2 := F0 m 21 ls [.ref q9]) rfl ?_
      refine lv_astore (lv' := [(6, .ref q9), (0, .ref x), (1, .float a), (2, .float b), (3, .float c9), (4, .float d9), (5, .ref o)]) hx hb dL_body_21 hl (by decide) rfl (fun ls hl => ?_)
      refine lv_iconst (v := 2) hx hb dL_body_23 (by decide) ?_
      refine W.widen (k := 5) (n := 1640) (Nat.le_of_ble_eq_true rfl) (Nat.le_of_ble_eq_true rfl) ?_
      exact W.iret (v := 2) hx hb hr (fun t ht hW9 => ⟨⟨2, (u_1.1, u_1.2), rfl, ⟨hk9.symm, by rw [kinc_1 (by rw [hk9]; decide)]; exact ⟨τ, pv, bl, rl, kl, ba, ra, ka, fr, nk, kFr.rf, hW, fun _ _ => rfl, fun _ _ _ => rfl, fun h9 => absurd (hk9.symm.trans h9) (by decide), hI⟩⟩, by rw [ht]; exact hP, va_K.moved hW9.alike hK, hD⟩, hS.F ht⟩) hS.2.2 dL_body_24
  · obtain ⟨hk9, rfl, τ2, pv2, bl2, rl2, kl2, ba2, ra2, ka2, fr2, nk2, hF9, hW, hB9, hR9, hI⟩ := hw
    refine lv_i2l (v := (nI nb).toInt64) hx hb dL_body_12 rfl ?_
    refine W.eq (g2 := F0 m 13 ls (.long ((nI nb).toInt64) :: .int (nI 0) :: .ref o :: [])) rfl ?_
    refine kp_last (j := 0) hx hb hK hP hD hS hI (hF9.ty hh_o) (by decide) dL_body_13 (fun f H locs hI hP hD hS => ?_)
    have hB9 := fun i (hi : i < nb) => (hW.eqB (kFr.up (P := kP9) (w := .long ((nI nb).toInt64)) (k := 0) (hF9.ty hh_o) rfl) (fun _ => rfl) i (by omega)).trans (hB9 i hi)
    have hR9 := fun i (hi : i < nr) (hi2 : i < nr) => (hW.eqR (kFr.up (P := kP10) (w := .long ((nI nb).toInt64)) (k := 0) (hF9.ty hh_o) rfl) (fun _ => rfl) i (by omega)).trans (hR9 i hi hi2)
    have hF9 := hF9.trans (kFr.up (P := kPmC) (w := .long ((nI nb).toInt64)) (k := 0) (hF9.ty hh_o) rfl)
    have hW := hW.frw (kFr.up (P := kPw) (w := .long ((nI nb).toInt64)) (k := 0) (hF9.ty hh_o) rfl)
    refine lv_goto (tgt := 25) hx hb dL_body_14 (by decide) ?_
    refine lv_iconst (v := 0) hx hb dL_body_25 (by decide) ?_
    refine W.widen (k := 5) (n := 1640) (Nat.le_of_ble_eq_true rfl) (Nat.le_of_ble_eq_true rfl) ?_
    exact W.iret (v := 0) hx hb hr (fun t ht hW9 => ⟨⟨0, (u_1.1, f), rfl, ⟨hk9.symm, by rw [kinc_0 hk9]; exact ⟨τ2, _, bl2, rl2, kl2, ba2, ra2, ka2, fr2, nk2, hF9, hW, hB9, hR9, fun h9 => kup_self, hI⟩⟩, by rw [ht]; exact hP, va_K.moved hW9.alike hK, hD⟩, hS.F ht⟩) hS.2.2 dL_body_26
set_option maxHeartbeats 4000000 in
set_option maxRecDepth 100000 in
theorem w_lean (l : Launch) (dC : Nat → ClassId) (dI : Nat → Nat → Nat) (dA : Nat → ClassId) (ad sz : Nat) (τ : Nat → Nat → Nat) (pv : Nat → Nat → Value) (L : List Nat) (f : Nat → va_E) (hI : kI dA τ pv L f) (x bl rl kl ba ra ka fr nb nr nk : Nat) (hW : kW τ pv ad x bl rl kl ba ra ka fr nb nr nk) (n : Int32) (a : UInt32) (b : UInt32) (c9 : UInt32) (hlt : l.stackTraces = false) : Met l yL_lean wsL_lean ({ frames := 8, cells := 2, slots := 12, locals := 128 } : Room) (va_Pc [.ref x, .int n, .float a, .float b, .float c9] (kB dC dI dA ad sz L f)) (va_Qi (fun r u => r = kc_lean n nb a b c9 ∧ kPost dA τ pv ad x ba ra nb nr nb nr u) (kR dC dI dA (va_A (va_pl L f) sz)) (va_A (va_pl L f) sz)) 2 12 (va_A (va_pl L f) sz) := by
  refine va_MetW (cc := cL_lean) (maxL := 6) (ret := (some .int)) (by decide) rfl ?_
  intro p e s m args below meth c s₁ B hml hv
  obtain ⟨rfl, hsz, hP, hK, hD0, hE⟩ := hv
  have hx := B.exec
  have hb := B.bytes
  have hr := B.returns
  have hts := atoms_spec (ws := wsL_lean) B.pre
  have hown : s.vm.findClass RL = some m.cls := findClass_of_methodNamed B.named
  have hlocks := B.notSynchronized
  have htab : c.exceptionTable.toList = tableOf [(0, 9, 12, 21), (0, 9, 16, 13)] := vx_table (x := yL_lean) B (hts _ List.mem_cons_self)
  subst hsz
  have hD := hD0.self (sz := s.heap.size)
  generalize hAe : va_A (va_pl L f) s.heap.size = A at hD hE ⊢
  have hA : ∀ q : Nat, s.heap.size ≤ q → A q := fun q h => by rw [← hAe]; exact Or.inr h
  have hS : va_S A s.heap s.heap [] := va_S.rf
  have hP : va_P (dC, dI) vwCl (va_pl L f) s.heap := hP
  have hK : va_K (dC, dI) vwCl (tyA dA) s := hK
  have hl := lv_entry ([.ref x, .int n, .float a, .float b, .float c9]) (n := 6) (Nat.le_of_ble_eq_true rfl)
  rw [lg_entry_eq]
  generalize (lg_sl ([.ref x, .int n, .float a, .float b, .float c9]) ++ List.replicate (6 - (lg_sl ([.ref x, .int n, .float a, .float b, .float c9])).length) Slot.unset).toArray = ls at hl ⊢
  have hl : lv_has ls 6 [(0, .ref x), (1, .int n), (2, .float a), (3, .float b), (4, .float c9)] := hl
  have hW00 := hW
  refine lv_aload_n hx hb dL_lean_0 rfl (lv_at hl 0 rfl) ?_
  refine lv_iload_n hx hb dL_lean_1 rfl (lv_at hl 1 rfl) ?_
  refine lv_fload_n hx hb dL_lean_2 rfl (lv_at hl 2 rfl) ?_
  refine lv_fload_n hx hb dL_lean_3 rfl (lv_at hl 3 rfl) ?_
  refine lv_fload hx hb dL_lean_4 (lv_at hl 4 rfl) ?_
  refine kd_xv (vx_runV (As := [.int n, .float a, .float b, .float c9]) (rest := []) ⟨hx, hb, hml, hown, hts⟩ (k_p_lean l dC dI dA ad _ τ pv _ _ hI x bl rl kl ba ra ka fr nb nr nk hW n a b c9 hlt) (cwV 4 hts gL_lean_X3_lean rfl rfl rfl (by decide +kernel) ⟨Nat.le_of_ble_eq_true rfl, Nat.le_of_ble_eq_true rfl⟩) (kd_preV hP hD hK hS hA hE hI hW.tx rfl rfl) rfl rfl hl.1 rfl (lv_room (Nat.le_of_ble_eq_true rfl)) dL_lean_6 ⟨Nat.le_of_ble_eq_true rfl, Nat.le_of_ble_eq_true rfl⟩) hD hS hA (fun E ce q9 u_1 H locs hw hP hD hS hce hcv hcl => ?_) (fun u_1 H locs hw hP hD hS => ?_)
  · obtain ⟨hE9, hI⟩ := hw
    rcases hE9 with ⟨rfl, hk9⟩ | ⟨rfl, hk9⟩
    · refine vx_catch (name := "java/lang/IndexOutOfBoundsException") hown [] ⟨0, 9, 12, 21⟩ [⟨0, 9, 16, 13⟩] (by rw [htab]; rfl) (fun z hz => by cases hz) (by decide) (by decide) (hts (.classLink RL 21 "java/lang/IndexOutOfBoundsException") (by decide +kernel)) (hE.cast "java/lang/IndexOutOfBoundsException" (by decide +kernel)) hce hcv hcl ?_
      refine W.eq (g2 := F0 m 12 ls [.ref q9]) rfl ?_
      refine lv_astore (lv' := [(5, .ref q9), (0, .ref x), (1, .int n), (2, .float a), (3, .float b), (4, .float c9)]) hx hb dL_lean_12 hl (by decide) rfl (fun ls hl => ?_)
      refine lv_iconst (v := 1) hx hb dL_lean_14 (by decide) ?_
      refine W.widen (k := 2) (n := 12) (Nat.le_of_ble_eq_true rfl) (Nat.le_of_ble_eq_true rfl) ?_
      exact W.iret (v := 1) hx hb hr (fun t ht hW9 => ⟨⟨1, (u_1.1, u_1.2), rfl, ⟨hk9.symm, ⟨τ, pv, bl, rl, kl, ba, ra, ka, fr, nk, kFr.rf, hW, fun _ _ => rfl, fun _ _ _ => rfl, hI⟩⟩, by rw [ht]; exact hP, va_K.moved hW9.alike hK, hD⟩, hS.F ht⟩) hS.2.2 dL_lean_15
    · refine vx_catch (name := "java/lang/IllegalArgumentException") hown [⟨0, 9, 12, 21⟩] ⟨0, 9, 16, 13⟩ [] (by rw [htab]; rfl) (fun z hz => by
        simp only [List.mem_cons, List.not_mem_nil, or_false] at hz
        rcases hz with rfl
        · exact Or.inr ⟨by decide, "java/lang/IndexOutOfBoundsException", (hts (.classLink RL 21 "java/lang/IndexOutOfBoundsException") (by decide +kernel)), hE.nocast "java/lang/IllegalArgumentException" "java/lang/IndexOutOfBoundsException" (by decide +kernel)⟩) (by decide) (by decide) (hts (.classLink RL 13 "java/lang/IllegalArgumentException") (by decide +kernel)) (hE.cast "java/lang/IllegalArgumentException" (by decide +kernel)) hce hcv hcl ?_
      refine W.eq (g2 := F0 m 16 ls [.ref q9]) rfl ?_
      refine lv_astore (lv' := [(5, .ref q9), (0, .ref x), (1, .int n), (2, .float a), (3, .float b), (4, .float c9)]) hx hb dL_lean_16 hl (by decide) rfl (fun ls hl => ?_)
      refine lv_iconst (v := 2) hx hb dL_lean_18 (by decide) ?_
      refine W.widen (k := 2) (n := 12) (Nat.le_of_ble_eq_true rfl) (Nat.le_of_ble_eq_true rfl) ?_
      exact W.iret (v := 2) hx hb hr (fun t ht hW9 => ⟨⟨2, (u_1.1, u_1.2), rfl, ⟨hk9.symm, ⟨τ, pv, bl, rl, kl, ba, ra, ka, fr, nk, kFr.rf, hW, fun _ _ => rfl, fun _ _ _ => rfl, hI⟩⟩, by rw [ht]; exact hP, va_K.moved hW9.alike hK, hD⟩, hS.F ht⟩) hS.2.2 dL_lean_19
  · obtain ⟨hk9, τ2, pv2, bl2, rl2, kl2, ba2, ra2, ka2, fr2, nk2, hF9, hW, hB9, hR9, hI⟩ := hw
    refine lv_goto (tgt := 20) hx hb dL_lean_9 (by decide) ?_
    refine lv_iconst (v := 0) hx hb dL_lean_20 (by decide) ?_
    refine W.widen (k := 2) (n := 12) (Nat.le_of_ble_eq_true rfl) (Nat.le_of_ble_eq_true rfl) ?_
    exact W.iret (v := 0) hx hb hr (fun t ht hW9 => ⟨⟨0, (u_1.1, u_1.2), rfl, ⟨hk9.symm, ⟨τ2, _, bl2, rl2, kl2, ba2, ra2, ka2, fr2, nk2, hF9, hW, hB9, hR9, hI⟩⟩, by rw [ht]; exact hP, va_K.moved hW9.alike hK, hD⟩, hS.F ht⟩) hS.2.2 dL_lean_21
set_option maxHeartbeats 4000000 in
set_option maxRecDepth 100000 in
theorem w_set (l : Launch) (dC : Nat → ClassId) (dI : Nat → Nat → Nat) (dA : Nat → ClassId) (ad sz : Nat) (τ : Nat → Nat → Nat) (pv : Nat → Nat → Value) (L : List Nat) (f : Nat → va_E) (hI : kI dA τ pv L f) (x bl rl kl ba ra ka fr nb nr nk : Nat) (hW : kW τ pv ad x bl rl kl ba ra ka fr nb nr nk) (n : Int32) (a : UInt32) (b : UInt32) (c9 : UInt32) (d9 : UInt32) (e9 : UInt32) (f9 : UInt32) (hlt : l.stackTraces = false) : Met l yL_set wsL_set ({ frames := 8, cells := 2, slots := 12, locals := 131 } : Room) (va_Pc [.ref x, .int n, .float a, .float b, .float c9, .float d9, .float e9, .float f9] (kB dC dI dA ad sz L f)) (va_Qi (fun r u => r = kc_set n nb a b c9 d9 e9 f9 ∧ kPost dA τ pv ad x ba ra nb nr nb nr u) (kR dC dI dA (va_A (va_pl L f) sz)) (va_A (va_pl L f) sz)) 2 12 (va_A (va_pl L f) sz) := by
  refine va_MetW (cc := cL_set) (maxL := 9) (ret := (some .int)) (by decide) rfl ?_
  intro p e s m args below meth c s₁ B hml hv
  obtain ⟨rfl, hsz, hP, hK, hD0, hE⟩ := hv
  have hx := B.exec
  have hb := B.bytes
  have hr := B.returns
  have hts := atoms_spec (ws := wsL_set) B.pre
  have hown : s.vm.findClass RL = some m.cls := findClass_of_methodNamed B.named
  have hlocks := B.notSynchronized
  have htab : c.exceptionTable.toList = tableOf [(0, 15, 18, 21), (0, 15, 22, 13)] := vx_table (x := yL_set) B (hts _ List.mem_cons_self)
  subst hsz
  have hD := hD0.self (sz := s.heap.size)
  generalize hAe : va_A (va_pl L f) s.heap.size = A at hD hE ⊢
  have hA : ∀ q : Nat, s.heap.size ≤ q → A q := fun q h => by rw [← hAe]; exact Or.inr h
  have hS : va_S A s.heap s.heap [] := va_S.rf
  have hP : va_P (dC, dI) vwCl (va_pl L f) s.heap := hP
  have hK : va_K (dC, dI) vwCl (tyA dA) s := hK
  have hl := lv_entry ([.ref x, .int n, .float a, .float b, .float c9, .float d9, .float e9, .float f9]) (n := 9) (Nat.le_of_ble_eq_true rfl)
  rw [lg_entry_eq]
  generalize (lg_sl ([.ref x, .int n, .float a, .float b, .float c9, .float d9, .float e9, .float f9]) ++ List.replicate (9 - (lg_sl ([.ref x, .int n, .float a, .float b, .float c9, .float d9, .float e9, .float f9])).length) Slot.unset).toArray = ls at hl ⊢
  have hl : lv_has ls 9 [(0, .ref x), (1, .int n), (2, .float a), (3, .float b), (4, .float c9), (5, .float d9), (6, .float e9), (7, .float f9)] := hl
  have hW00 := hW
  refine lv_aload_n hx hb dL_set_0 rfl (lv_at hl 0 rfl) ?_
  refine lv_iload_n hx hb dL_set_1 rfl (lv_at hl 1 rfl) ?_
  refine lv_fload_n hx hb dL_set_2 rfl (lv_at hl 2 rfl) ?_
  refine lv_fload_n hx hb dL_set_3 rfl (lv_at hl 3 rfl) ?_
  refine lv_fload hx hb dL_set_4 (lv_at hl 4 rfl) ?_
  refine lv_fload hx hb dL_set_6 (lv_at hl 5 rfl) ?_
  refine lv_fload hx hb dL_set_8 (lv_at hl 6 rfl) ?_
  refine lv_fload hx hb dL_set_10 (lv_at hl 7 rfl) ?_
  refine kd_xv (vx_runV (As := [.int n, .float a, .float b, .float c9, .float d9, .float e9, .float f9]) (rest := []) ⟨hx, hb, hml, hown, hts⟩ (k_p_set l dC dI dA ad _ τ pv _ _ hI x bl rl kl ba ra ka fr nb nr nk hW n a b c9 d9 e9 f9 hlt) (cwV 7 hts gL_set_X3_set rfl rfl rfl (by decide +kernel) ⟨Nat.le_of_ble_eq_true rfl, Nat.le_of_ble_eq_true rfl⟩) (kd_preV hP hD hK hS hA hE hI hW.tx rfl rfl) rfl rfl hl.1 rfl (lv_room (Nat.le_of_ble_eq_true rfl)) dL_set_12 ⟨Nat.le_of_ble_eq_true rfl, Nat.le_of_ble_eq_true rfl⟩) hD hS hA (fun E ce q9 u_1 H locs hw hP hD hS hce hcv hcl => ?_) (fun u_1 H locs hw hP hD hS => ?_)
  · obtain ⟨hE9, hI⟩ := hw
    rcases hE9 with ⟨rfl, hk9⟩ | ⟨rfl, hk9⟩
    · refine vx_catch (name := "java/lang/IndexOutOfBoundsException") hown [] ⟨0, 15, 18, 21⟩ [⟨0, 15, 22, 13⟩] (by rw [htab]; rfl) (fun z hz => by cases hz) (by decide) (by decide) (hts (.classLink RL 21 "java/lang/IndexOutOfBoundsException") (by decide +kernel)) (hE.cast "java/lang/IndexOutOfBoundsException" (by decide +kernel)) hce hcv hcl ?_
      refine W.eq (g2 := F0 m 18 ls [.ref q9]) rfl ?_
      refine lv_astore (lv' := [(8, .ref q9), (0, .ref x), (1, .int n), (2, .float a), (3, .float b), (4, .float c9), (5, .float d9), (6, .float e9), (7, .float f9)]) hx hb dL_set_18 hl (by decide) rfl (fun ls hl => ?_)
      refine lv_iconst (v := 1) hx hb dL_set_20 (by decide) ?_
      refine W.widen (k := 2) (n := 12) (Nat.le_of_ble_eq_true rfl) (Nat.le_of_ble_eq_true rfl) ?_
      exact W.iret (v := 1) hx hb hr (fun t ht hW9 => ⟨⟨1, (u_1.1, u_1.2), rfl, ⟨hk9.symm, ⟨τ, pv, bl, rl, kl, ba, ra, ka, fr, nk, kFr.rf, hW, fun _ _ => rfl, fun _ _ _ => rfl, hI⟩⟩, by rw [ht]; exact hP, va_K.moved hW9.alike hK, hD⟩, hS.F ht⟩) hS.2.2 dL_set_21
    · refine vx_catch (name := "java/lang/IllegalArgumentException") hown [⟨0, 15, 18, 21⟩] ⟨0, 15, 22, 13⟩ [] (by rw [htab]; rfl) (fun z hz => by
        simp only [List.mem_cons, List.not_mem_nil, or_false] at hz
        rcases hz with rfl
        · exact Or.inr ⟨by decide, "java/lang/IndexOutOfBoundsException", (hts (.classLink RL 21 "java/lang/IndexOutOfBoundsException") (by decide +kernel)), hE.nocast "java/lang/IllegalArgumentException" "java/lang/IndexOutOfBoundsException" (by decide +kernel)⟩) (by decide) (by decide) (hts (.classLink RL 13 "java/lang/IllegalArgumentException") (by decide +kernel)) (hE.cast "java/lang/IllegalArgumentException" (by decide +kernel)) hce hcv hcl ?_
      refine W.eq (g2 := F0 m 22 ls [.ref q9]) rfl ?_
      refine lv_astore (lv' := [(8, .ref q9), (0, .ref x), (1, .int n), (2, .float a), (3, .float b), (4, .float c9), (5, .float d9), (6, .float e9), (7, .float f9)]) hx hb dL_set_22 hl (by decide) rfl (fun ls hl => ?_)
      refine lv_iconst (v := 2) hx hb dL_set_24 (by decide) ?_
      refine W.widen (k := 2) (n := 12) (Nat.le_of_ble_eq_true rfl) (Nat.le_of_ble_eq_true rfl) ?_
      exact W.iret (v := 2) hx hb hr (fun t ht hW9 => ⟨⟨2, (u_1.1, u_1.2), rfl, ⟨hk9.symm, ⟨τ, pv, bl, rl, kl, ba, ra, ka, fr, nk, kFr.rf, hW, fun _ _ => rfl, fun _ _ _ => rfl, hI⟩⟩, by rw [ht]; exact hP, va_K.moved hW9.alike hK, hD⟩, hS.F ht⟩) hS.2.2 dL_set_25
  · obtain ⟨hk9, τ2, pv2, bl2, rl2, kl2, ba2, ra2, ka2, fr2, nk2, hF9, hW, hB9, hR9, hI⟩ := hw
    refine lv_goto (tgt := 26) hx hb dL_set_15 (by decide) ?_
    refine lv_iconst (v := 0) hx hb dL_set_26 (by decide) ?_
    refine W.widen (k := 2) (n := 12) (Nat.le_of_ble_eq_true rfl) (Nat.le_of_ble_eq_true rfl) ?_
    exact W.iret (v := 0) hx hb hr (fun t ht hW9 => ⟨⟨0, (u_1.1, u_1.2), rfl, ⟨hk9.symm, ⟨τ2, _, bl2, rl2, kl2, ba2, ra2, ka2, fr2, nk2, hF9, hW, hB9, hR9, hI⟩⟩, by rw [ht]; exact hP, va_K.moved hW9.alike hK, hD⟩, hS.F ht⟩) hS.2.2 dL_set_27
set_option maxHeartbeats 4000000 in
set_option maxRecDepth 100000 in
theorem w_gain (l : Launch) (dC : Nat → ClassId) (dI : Nat → Nat → Nat) (dA : Nat → ClassId) (ad sz : Nat) (τ : Nat → Nat → Nat) (pv : Nat → Nat → Value) (L : List Nat) (f : Nat → va_E) (hI : kI dA τ pv L f) (x bl rl kl ba ra ka fr nb nr nk : Nat) (hW : kW τ pv ad x bl rl kl ba ra ka fr nb nr nk) (n k : Int32) (a : UInt32) (b : UInt32) (c9 : UInt32) (o : Nat) (hh_o : τ 0 o = 36) (hlt : l.stackTraces = false) : Met l yL_gain wsL_gain ({ frames := 7, cells := 2, slots := 12, locals := 110 } : Room) (va_Pc [.ref x, .int n, .int k, .float a, .float b, .float c9, .ref o] (kB dC dI dA ad sz L f)) (va_Qi (fun r u => kPost dA τ pv ad x ba ra nb nr nb nr u) (kR dC dI dA (va_A (va_pl L f) sz)) (va_A (va_pl L f) sz)) 2 12 (va_A (va_pl L f) sz) := by
  refine va_MetW (cc := cL_gain) (maxL := 8) (ret := (some .int)) (by decide) rfl ?_
  intro p e s m args below meth c s₁ B hml hv
  obtain ⟨rfl, hsz, hP, hK, hD0, hE⟩ := hv
  have hx := B.exec
  have hb := B.bytes
  have hr := B.returns
  have hts := atoms_spec (ws := wsL_gain) B.pre
  have hown : s.vm.findClass RL = some m.cls := findClass_of_methodNamed B.named
  have hlocks := B.notSynchronized
  have htab : c.exceptionTable.toList = tableOf [(0, 16, 19, 21), (0, 16, 23, 13)] := vx_table (x := yL_gain) B (hts _ List.mem_cons_self)
  subst hsz
  have hD := hD0.self (sz := s.heap.size)
  generalize hAe : va_A (va_pl L f) s.heap.size = A at hD hE ⊢
  have hA : ∀ q : Nat, s.heap.size ≤ q → A q := fun q h => by rw [← hAe]; exact Or.inr h
  have hS : va_S A s.heap s.heap [] := va_S.rf
  have hP : va_P (dC, dI) vwCl (va_pl L f) s.heap := hP
  have hK : va_K (dC, dI) vwCl (tyA dA) s := hK
  have hl := lv_entry ([.ref x, .int n, .int k, .float a, .float b, .float c9, .ref o]) (n := 8) (Nat.le_of_ble_eq_true rfl)
  rw [lg_entry_eq]
  generalize (lg_sl ([.ref x, .int n, .int k, .float a, .float b, .float c9, .ref o]) ++ List.replicate (8 - (lg_sl ([.ref x, .int n, .int k, .float a, .float b, .float c9, .ref o])).length) Slot.unset).toArray = ls at hl ⊢
  have hl : lv_has ls 8 [(0, .ref x), (1, .int n), (2, .int k), (3, .float a), (4, .float b), (5, .float c9), (6, .ref o)] := hl
  have hW00 := hW
  refine lv_aload hx hb dL_gain_0 (lv_at hl 6 rfl) ?_
  refine lv_iconst (v := 0) hx hb dL_gain_2 (by decide) ?_
  refine lv_aload_n hx hb dL_gain_3 rfl (lv_at hl 0 rfl) ?_
  refine lv_iload_n hx hb dL_gain_4 rfl (lv_at hl 1 rfl) ?_
  refine lv_iload_n hx hb dL_gain_5 rfl (lv_at hl 2 rfl) ?_
  refine lv_fload_n hx hb dL_gain_6 rfl (lv_at hl 3 rfl) ?_
  refine lv_fload hx hb dL_gain_7 (lv_at hl 4 rfl) ?_
  refine lv_fload hx hb dL_gain_9 (lv_at hl 5 rfl) ?_
  refine kd_xi (vx_runV (As := [.int n, .int k, .float a, .float b, .float c9]) (rest := [.int 0, .ref o]) ⟨hx, hb, hml, hown, hts⟩ (k_p_gain l dC dI dA ad _ τ pv _ _ hI x bl rl kl ba ra ka fr nb nr nk hW n k a b c9 hlt) (cwV 5 hts gL_gain_X3_gain rfl rfl rfl (by decide +kernel) ⟨Nat.le_of_ble_eq_true rfl, Nat.le_of_ble_eq_true rfl⟩) (kd_preV hP hD hK hS hA hE hI hW.tx rfl rfl) rfl rfl hl.1 rfl (lv_room (Nat.le_of_ble_eq_true rfl)) dL_gain_11 ⟨Nat.le_of_ble_eq_true rfl, Nat.le_of_ble_eq_true rfl⟩) hD hS hA (fun E ce q9 u_1 H locs hw hP hD hS hce hcv hcl => ?_) (fun r_2 u_1 H locs hw hP hD hS => ?_)
  · obtain ⟨hE9, hI⟩ := hw
    rcases hE9 with rfl | rfl
    · refine vx_catch (name := "java/lang/IndexOutOfBoundsException") hown [] ⟨0, 16, 19, 21⟩ [⟨0, 16, 23, 13⟩] (by rw [htab]; rfl) (fun z hz => by cases hz) (by decide) (by decide) (hts (.classLink RL 21 "java/lang/IndexOutOfBoundsException") (by decide +kernel)) (hE.cast "java/lang/IndexOutOfBoundsException" (by decide +kernel)) hce hcv hcl ?_
      refine W.eq (g2 := F0 m 19 ls [.ref q9]) rfl ?_
      refine lv_astore (lv' := [(7, .ref q9), (0, .ref x), (1, .int n), (2, .int k), (3, .float a), (4, .float b), (5, .float c9), (6, .ref o)]) hx hb dL_gain_19 hl (by decide) rfl (fun ls hl => ?_)
      refine lv_iconst (v := 1) hx hb dL_gain_21 (by decide) ?_
      refine W.widen (k := 2) (n := 12) (Nat.le_of_ble_eq_true rfl) (Nat.le_of_ble_eq_true rfl) ?_
      exact W.iret (v := 1) hx hb hr (fun t ht hW9 => ⟨⟨1, (u_1.1, u_1.2), rfl, ⟨τ, pv, bl, rl, kl, ba, ra, ka, fr, nk, kFr.rf, hW, fun _ _ => rfl, fun _ _ _ => rfl, hI⟩, by rw [ht]; exact hP, va_K.moved hW9.alike hK, hD⟩, hS.F ht⟩) hS.2.2 dL_gain_22
    · refine vx_catch (name := "java/lang/IllegalArgumentException") hown [⟨0, 16, 19, 21⟩] ⟨0, 16, 23, 13⟩ [] (by rw [htab]; rfl) (fun z hz => by
        simp only [List.mem_cons, List.not_mem_nil, or_false] at hz
        rcases hz with rfl
        · exact Or.inr ⟨by decide, "java/lang/IndexOutOfBoundsException", (hts (.classLink RL 21 "java/lang/IndexOutOfBoundsException") (by decide +kernel)), hE.nocast "java/lang/IllegalArgumentException" "java/lang/IndexOutOfBoundsException" (by decide +kernel)⟩) (by decide) (by decide) (hts (.classLink RL 13 "java/lang/IllegalArgumentException") (by decide +kernel)) (hE.cast "java/lang/IllegalArgumentException" (by decide +kernel)) hce hcv hcl ?_
      refine W.eq (g2 := F0 m 23 ls [.ref q9]) rfl ?_
      refine lv_astore (lv' := [(7, .ref q9), (0, .ref x), (1, .int n), (2, .int k), (3, .float a), (4, .float b), (5, .float c9), (6, .ref o)]) hx hb dL_gain_23 hl (by decide) rfl (fun ls hl => ?_)
      refine lv_iconst (v := 2) hx hb dL_gain_25 (by decide) ?_
      refine W.widen (k := 2) (n := 12) (Nat.le_of_ble_eq_true rfl) (Nat.le_of_ble_eq_true rfl) ?_
      exact W.iret (v := 2) hx hb hr (fun t ht hW9 => ⟨⟨2, (u_1.1, u_1.2), rfl, ⟨τ, pv, bl, rl, kl, ba, ra, ka, fr, nk, kFr.rf, hW, fun _ _ => rfl, fun _ _ _ => rfl, hI⟩, by rw [ht]; exact hP, va_K.moved hW9.alike hK, hD⟩, hS.F ht⟩) hS.2.2 dL_gain_26
  · obtain ⟨τ2, pv2, bl2, rl2, kl2, ba2, ra2, ka2, fr2, nk2, hF9, hW, hB9, hR9, hI⟩ := hw
    refine lv_i2l (v := r_2.toInt64) hx hb dL_gain_14 rfl ?_
    refine W.eq (g2 := F0 m 15 ls (.long r_2.toInt64 :: .int (nI 0) :: .ref o :: [])) rfl ?_
    refine kp_last (j := 0) hx hb hK hP hD hS hI (hF9.ty hh_o) (by decide) dL_gain_15 (fun f H locs hI hP hD hS => ?_)
    have hB9 := fun i (hi : i < nb) => (hW.eqB (kFr.up (P := kP9) (w := .long r_2.toInt64) (k := 0) (hF9.ty hh_o) rfl) (fun _ => rfl) i (by omega)).trans (hB9 i hi)
    have hR9 := fun i (hi : i < nr) (hi2 : i < nr) => (hW.eqR (kFr.up (P := kP10) (w := .long r_2.toInt64) (k := 0) (hF9.ty hh_o) rfl) (fun _ => rfl) i (by omega)).trans (hR9 i hi hi2)
    have hF9 := hF9.trans (kFr.up (P := kPmC) (w := .long r_2.toInt64) (k := 0) (hF9.ty hh_o) rfl)
    have hW := hW.frw (kFr.up (P := kPw) (w := .long r_2.toInt64) (k := 0) (hF9.ty hh_o) rfl)
    refine lv_goto (tgt := 27) hx hb dL_gain_16 (by decide) ?_
    refine lv_iconst (v := 0) hx hb dL_gain_27 (by decide) ?_
    refine W.widen (k := 2) (n := 12) (Nat.le_of_ble_eq_true rfl) (Nat.le_of_ble_eq_true rfl) ?_
    exact W.iret (v := 0) hx hb hr (fun t ht hW9 => ⟨⟨0, (u_1.1, f), rfl, ⟨τ2, _, bl2, rl2, kl2, ba2, ra2, ka2, fr2, nk2, hF9, hW, hB9, hR9, hI⟩, by rw [ht]; exact hP, va_K.moved hW9.alike hK, hD⟩, hS.F ht⟩) hS.2.2 dL_gain_28
set_option maxHeartbeats 4000000 in
set_option maxRecDepth 100000 in
theorem w_wake (l : Launch) (dC : Nat → ClassId) (dI : Nat → Nat → Nat) (dA : Nat → ClassId) (ad sz : Nat) (τ : Nat → Nat → Nat) (pv : Nat → Nat → Value) (L : List Nat) (f : Nat → va_E) (hI : kI dA τ pv L f) (x bl rl kl ba ra ka fr nb nr nk : Nat) (hW : kW τ pv ad x bl rl kl ba ra ka fr nb nr nk) (n : Int32) (o : Nat) (hh_o : τ 0 o = 36) (hlt : l.stackTraces = false) : Met l yL_wake wsL_wake ({ frames := 8, cells := 2, slots := 12, locals := 126 } : Room) (va_Pc [.ref x, .int n, .ref o] (kB dC dI dA ad sz L f)) (va_Qi (fun r u => kPost dA τ pv ad x ba ra nb nr nb nr u) (kR dC dI dA (va_A (va_pl L f) sz)) (va_A (va_pl L f) sz)) 2 12 (va_A (va_pl L f) sz) := by
  refine va_MetW (cc := cL_wake) (maxL := 4) (ret := (some .int)) (by decide) rfl ?_
  intro p e s m args below meth c s₁ B hml hv
  obtain ⟨rfl, hsz, hP, hK, hD0, hE⟩ := hv
  have hx := B.exec
  have hb := B.bytes
  have hr := B.returns
  have hts := atoms_spec (ws := wsL_wake) B.pre
  have hown : s.vm.findClass RL = some m.cls := findClass_of_methodNamed B.named
  have hlocks := B.notSynchronized
  have htab : c.exceptionTable.toList = tableOf [(0, 16, 19, 21)] := vx_table (x := yL_wake) B (hts _ List.mem_cons_self)
  subst hsz
  have hD := hD0.self (sz := s.heap.size)
  generalize hAe : va_A (va_pl L f) s.heap.size = A at hD hE ⊢
  have hA : ∀ q : Nat, s.heap.size ≤ q → A q := fun q h => by rw [← hAe]; exact Or.inr h
  have hS : va_S A s.heap s.heap [] := va_S.rf
  have hP : va_P (dC, dI) vwCl (va_pl L f) s.heap := hP
  have hK : va_K (dC, dI) vwCl (tyA dA) s := hK
  have hl := lv_entry ([.ref x, .int n, .ref o]) (n := 4) (Nat.le_of_ble_eq_true rfl)
  rw [lg_entry_eq]
  generalize (lg_sl ([.ref x, .int n, .ref o]) ++ List.replicate (4 - (lg_sl ([.ref x, .int n, .ref o])).length) Slot.unset).toArray = ls at hl ⊢
  have hl : lv_has ls 4 [(0, .ref x), (1, .int n), (2, .ref o)] := hl
  have hW00 := hW
  refine lv_aload_n hx hb dL_wake_0 rfl (lv_at hl 2 rfl) ?_
  refine lv_iconst (v := 0) hx hb dL_wake_1 (by decide) ?_
  refine lv_aload_n hx hb dL_wake_2 rfl (lv_at hl 0 rfl) ?_
  refine lv_iload_n hx hb dL_wake_3 rfl (lv_at hl 1 rfl) ?_
  refine kd_xi (vx_runV (As := [.int n]) (rest := [.int 0, .ref o]) ⟨hx, hb, hml, hown, hts⟩ (k_p_wake l dC dI dA ad _ τ pv _ _ hI x bl rl kl ba ra ka fr nb nr nk hW n hlt) (cwV 1 hts gL_wake_X3_wake rfl rfl rfl (by decide +kernel) ⟨Nat.le_of_ble_eq_true rfl, Nat.le_of_ble_eq_true rfl⟩) (kd_preV hP hD hK hS hA hE hI hW.tx rfl rfl) rfl rfl hl.1 rfl (lv_room (Nat.le_of_ble_eq_true rfl)) dL_wake_4 ⟨Nat.le_of_ble_eq_true rfl, Nat.le_of_ble_eq_true rfl⟩) hD hS hA (fun E ce q9 u_1 H locs hw hP hD hS hce hcv hcl => ?_) (fun r_2 u_1 H locs hw hP hD hS => ?_)
  · obtain ⟨hE9, hI⟩ := hw
    subst hE9
    refine vx_catch (name := "java/lang/IndexOutOfBoundsException") hown [] ⟨0, 16, 19, 21⟩ [] (by rw [htab]; rfl) (fun z hz => by cases hz) (by decide) (by decide) (hts (.classLink RL 21 "java/lang/IndexOutOfBoundsException") (by decide +kernel)) (hE.cast "java/lang/IndexOutOfBoundsException" (by decide +kernel)) hce hcv hcl ?_
    refine W.eq (g2 := F0 m 19 ls [.ref q9]) rfl ?_
    refine lv_astore_n (lv' := [(3, .ref q9), (0, .ref x), (1, .int n), (2, .ref o)]) hx hb dL_wake_19 rfl hl (by decide) rfl (fun ls hl => ?_)
    refine lv_iconst (v := 1) hx hb dL_wake_20 (by decide) ?_
    refine W.widen (k := 2) (n := 12) (Nat.le_of_ble_eq_true rfl) (Nat.le_of_ble_eq_true rfl) ?_
    exact W.iret (v := 1) hx hb hr (fun t ht hW9 => ⟨⟨1, (u_1.1, u_1.2), rfl, ⟨τ, pv, bl, rl, kl, ba, ra, ka, fr, nk, kFr.rf, hW, fun _ _ => rfl, fun _ _ _ => rfl, hI⟩, by rw [ht]; exact hP, va_K.moved hW9.alike hK, hD⟩, hS.F ht⟩) hS.2.2 dL_wake_21
  · obtain ⟨τ2, pv2, bl2, rl2, kl2, ba2, ra2, ka2, fr2, nk2, hF9, hW, hB9, hR9, hI⟩ := hw
    refine lv_if_eq (tgt := 14) hx hb dL_wake_7 (by decide) (fun c_3 => ?_) (fun c_3 => ?_)
    · refine lv_lconst (v := 0) hx hb dL_wake_14 (by decide) ?_
      refine W.eq (g2 := F0 m 15 ls (.long 0 :: .int (nI 0) :: .ref o :: [])) rfl ?_
      refine kp_last (j := 0) hx hb hK hP hD hS hI (hF9.ty hh_o) (by decide) dL_wake_15 (fun f H locs hI hP hD hS => ?_)
      have hB9 := fun i (hi : i < nb) => (hW.eqB (kFr.up (P := kP9) (w := .long 0) (k := 0) (hF9.ty hh_o) rfl) (fun _ => rfl) i (by omega)).trans (hB9 i hi)
      have hR9 := fun i (hi : i < nr) (hi2 : i < nr) => (hW.eqR (kFr.up (P := kP10) (w := .long 0) (k := 0) (hF9.ty hh_o) rfl) (fun _ => rfl) i (by omega)).trans (hR9 i hi hi2)
      have hF9 := hF9.trans (kFr.up (P := kPmC) (w := .long 0) (k := 0) (hF9.ty hh_o) rfl)
      have hW := hW.frw (kFr.up (P := kPw) (w := .long 0) (k := 0) (hF9.ty hh_o) rfl)
      refine lv_goto (tgt := 22) hx hb dL_wake_16 (by decide) ?_
      refine lv_iconst (v := 0) hx hb dL_wake_22 (by decide) ?_
      refine W.widen (k := 2) (n := 12) (Nat.le_of_ble_eq_true rfl) (Nat.le_of_ble_eq_true rfl) ?_
      exact W.iret (v := 0) hx hb hr (fun t ht hW9 => ⟨⟨0, (u_1.1, f), rfl, ⟨τ2, _, bl2, rl2, kl2, ba2, ra2, ka2, fr2, nk2, hF9, hW, hB9, hR9, hI⟩, by rw [ht]; exact hP, va_K.moved hW9.alike hK, hD⟩, hS.F ht⟩) hS.2.2 dL_wake_23
    · refine lv_lconst (v := 1) hx hb dL_wake_10 (by decide) ?_
      refine lv_goto (tgt := 15) hx hb dL_wake_11 (by decide) ?_
      refine W.eq (g2 := F0 m 15 ls (.long 1 :: .int (nI 0) :: .ref o :: [])) rfl ?_
      refine kp_last (j := 0) hx hb hK hP hD hS hI (hF9.ty hh_o) (by decide) dL_wake_15 (fun f H locs hI hP hD hS => ?_)
      have hB9 := fun i (hi : i < nb) => (hW.eqB (kFr.up (P := kP9) (w := .long 1) (k := 0) (hF9.ty hh_o) rfl) (fun _ => rfl) i (by omega)).trans (hB9 i hi)
      have hR9 := fun i (hi : i < nr) (hi2 : i < nr) => (hW.eqR (kFr.up (P := kP10) (w := .long 1) (k := 0) (hF9.ty hh_o) rfl) (fun _ => rfl) i (by omega)).trans (hR9 i hi hi2)
      have hF9 := hF9.trans (kFr.up (P := kPmC) (w := .long 1) (k := 0) (hF9.ty hh_o) rfl)
      have hW := hW.frw (kFr.up (P := kPw) (w := .long 1) (k := 0) (hF9.ty hh_o) rfl)
      refine lv_goto (tgt := 22) hx hb dL_wake_16 (by decide) ?_
      refine lv_iconst (v := 0) hx hb dL_wake_22 (by decide) ?_
      refine W.widen (k := 2) (n := 12) (Nat.le_of_ble_eq_true rfl) (Nat.le_of_ble_eq_true rfl) ?_
      exact W.iret (v := 0) hx hb hr (fun t ht hW9 => ⟨⟨0, (u_1.1, f), rfl, ⟨τ2, _, bl2, rl2, kl2, ba2, ra2, ka2, fr2, nk2, hF9, hW, hB9, hR9, hI⟩, by rw [ht]; exact hP, va_K.moved hW9.alike hK, hD⟩, hS.F ht⟩) hS.2.2 dL_wake_23
set_option maxHeartbeats 4000000 in
set_option maxRecDepth 100000 in
theorem w_vector (l : Launch) (dC : Nat → ClassId) (dI : Nat → Nat → Nat) (dA : Nat → ClassId) (ad sz : Nat) (τ : Nat → Nat → Nat) (pv : Nat → Nat → Value) (L : List Nat) (f : Nat → va_E) (hI : kI dA τ pv L f) (x bl rl kl ba ra ka fr nb nr nk : Nat) (hW : kW τ pv ad x bl rl kl ba ra ka fr nb nr nk) (n : Int32) (a : UInt32) (b : UInt32) (c9 : UInt32) (hlt : l.stackTraces = false) : Met l yL_vector wsL_vector ({ frames := 7, cells := 2, slots := 12, locals := 107 } : Room) (va_Pc [.ref x, .int n, .float a, .float b, .float c9] (kB dC dI dA ad sz L f)) (va_Qi (fun r u => r = kc_vector n a b c9 ∧ kPost dA τ pv ad x ba ra nb nr nb nr u) (kR dC dI dA (va_A (va_pl L f) sz)) (va_A (va_pl L f) sz)) 2 12 (va_A (va_pl L f) sz) := by
  refine va_MetW (cc := cL_vector) (maxL := 6) (ret := (some .int)) (by decide) rfl ?_
  intro p e s m args below meth c s₁ B hml hv
  obtain ⟨rfl, hsz, hP, hK, hD0, hE⟩ := hv
  have hx := B.exec
  have hb := B.bytes
  have hr := B.returns
  have hts := atoms_spec (ws := wsL_vector) B.pre
  have hown : s.vm.findClass RL = some m.cls := findClass_of_methodNamed B.named
  have hlocks := B.notSynchronized
  have htab : c.exceptionTable.toList = tableOf [(0, 9, 12, 21), (0, 9, 16, 13)] := vx_table (x := yL_vector) B (hts _ List.mem_cons_self)
  subst hsz
  have hD := hD0.self (sz := s.heap.size)
  generalize hAe : va_A (va_pl L f) s.heap.size = A at hD hE ⊢
  have hA : ∀ q : Nat, s.heap.size ≤ q → A q := fun q h => by rw [← hAe]; exact Or.inr h
  have hS : va_S A s.heap s.heap [] := va_S.rf
  have hP : va_P (dC, dI) vwCl (va_pl L f) s.heap := hP
  have hK : va_K (dC, dI) vwCl (tyA dA) s := hK
  have hl := lv_entry ([.ref x, .int n, .float a, .float b, .float c9]) (n := 6) (Nat.le_of_ble_eq_true rfl)
  rw [lg_entry_eq]
  generalize (lg_sl ([.ref x, .int n, .float a, .float b, .float c9]) ++ List.replicate (6 - (lg_sl ([.ref x, .int n, .float a, .float b, .float c9])).length) Slot.unset).toArray = ls at hl ⊢
  have hl : lv_has ls 6 [(0, .ref x), (1, .int n), (2, .float a), (3, .float b), (4, .float c9)] := hl
  have hW00 := hW
  refine lv_aload_n hx hb dL_vector_0 rfl (lv_at hl 0 rfl) ?_
  refine lv_iload_n hx hb dL_vector_1 rfl (lv_at hl 1 rfl) ?_
  refine lv_fload_n hx hb dL_vector_2 rfl (lv_at hl 2 rfl) ?_
  refine lv_fload_n hx hb dL_vector_3 rfl (lv_at hl 3 rfl) ?_
  refine lv_fload hx hb dL_vector_4 (lv_at hl 4 rfl) ?_
  refine kd_xv (vx_runV (As := [.int n, .float a, .float b, .float c9]) (rest := []) ⟨hx, hb, hml, hown, hts⟩ (k_p_vector l dC dI dA ad _ τ pv _ _ hI x bl rl kl ba ra ka fr nb nr nk hW n a b c9 hlt) (cwV 4 hts gL_vector_X3_vector rfl rfl rfl (by decide +kernel) ⟨Nat.le_of_ble_eq_true rfl, Nat.le_of_ble_eq_true rfl⟩) (kd_preV hP hD hK hS hA hE hI hW.tx rfl rfl) rfl rfl hl.1 rfl (lv_room (Nat.le_of_ble_eq_true rfl)) dL_vector_6 ⟨Nat.le_of_ble_eq_true rfl, Nat.le_of_ble_eq_true rfl⟩) hD hS hA (fun E ce q9 u_1 H locs hw hP hD hS hce hcv hcl => ?_) (fun u_1 H locs hw hP hD hS => ?_)
  · obtain ⟨hE9, hI⟩ := hw
    rcases hE9 with ⟨rfl, hk9⟩ | ⟨rfl, hk9⟩
    · refine vx_catch (name := "java/lang/IndexOutOfBoundsException") hown [] ⟨0, 9, 12, 21⟩ [⟨0, 9, 16, 13⟩] (by rw [htab]; rfl) (fun z hz => by cases hz) (by decide) (by decide) (hts (.classLink RL 21 "java/lang/IndexOutOfBoundsException") (by decide +kernel)) (hE.cast "java/lang/IndexOutOfBoundsException" (by decide +kernel)) hce hcv hcl ?_
      refine W.eq (g2 := F0 m 12 ls [.ref q9]) rfl ?_
      refine lv_astore (lv' := [(5, .ref q9), (0, .ref x), (1, .int n), (2, .float a), (3, .float b), (4, .float c9)]) hx hb dL_vector_12 hl (by decide) rfl (fun ls hl => ?_)
      refine lv_iconst (v := 1) hx hb dL_vector_14 (by decide) ?_
      refine W.widen (k := 2) (n := 12) (Nat.le_of_ble_eq_true rfl) (Nat.le_of_ble_eq_true rfl) ?_
      exact W.iret (v := 1) hx hb hr (fun t ht hW9 => ⟨⟨1, (u_1.1, u_1.2), rfl, ⟨hk9.symm, ⟨τ, pv, bl, rl, kl, ba, ra, ka, fr, nk, kFr.rf, hW, fun _ _ => rfl, fun _ _ _ => rfl, hI⟩⟩, by rw [ht]; exact hP, va_K.moved hW9.alike hK, hD⟩, hS.F ht⟩) hS.2.2 dL_vector_15
    · refine vx_catch (name := "java/lang/IllegalArgumentException") hown [⟨0, 9, 12, 21⟩] ⟨0, 9, 16, 13⟩ [] (by rw [htab]; rfl) (fun z hz => by
        simp only [List.mem_cons, List.not_mem_nil, or_false] at hz
        rcases hz with rfl
        · exact Or.inr ⟨by decide, "java/lang/IndexOutOfBoundsException", (hts (.classLink RL 21 "java/lang/IndexOutOfBoundsException") (by decide +kernel)), hE.nocast "java/lang/IllegalArgumentException" "java/lang/IndexOutOfBoundsException" (by decide +kernel)⟩) (by decide) (by decide) (hts (.classLink RL 13 "java/lang/IllegalArgumentException") (by decide +kernel)) (hE.cast "java/lang/IllegalArgumentException" (by decide +kernel)) hce hcv hcl ?_
      refine W.eq (g2 := F0 m 16 ls [.ref q9]) rfl ?_
      refine lv_astore (lv' := [(5, .ref q9), (0, .ref x), (1, .int n), (2, .float a), (3, .float b), (4, .float c9)]) hx hb dL_vector_16 hl (by decide) rfl (fun ls hl => ?_)
      refine lv_iconst (v := 2) hx hb dL_vector_18 (by decide) ?_
      refine W.widen (k := 2) (n := 12) (Nat.le_of_ble_eq_true rfl) (Nat.le_of_ble_eq_true rfl) ?_
      exact W.iret (v := 2) hx hb hr (fun t ht hW9 => ⟨⟨2, (u_1.1, u_1.2), rfl, ⟨hk9.symm, ⟨τ, pv, bl, rl, kl, ba, ra, ka, fr, nk, kFr.rf, hW, fun _ _ => rfl, fun _ _ _ => rfl, hI⟩⟩, by rw [ht]; exact hP, va_K.moved hW9.alike hK, hD⟩, hS.F ht⟩) hS.2.2 dL_vector_19
  · obtain ⟨hk9, τ2, pv2, bl2, rl2, kl2, ba2, ra2, ka2, fr2, nk2, hF9, hW, hB9, hR9, hI⟩ := hw
    refine lv_goto (tgt := 20) hx hb dL_vector_9 (by decide) ?_
    refine lv_iconst (v := 0) hx hb dL_vector_20 (by decide) ?_
    refine W.widen (k := 2) (n := 12) (Nat.le_of_ble_eq_true rfl) (Nat.le_of_ble_eq_true rfl) ?_
    exact W.iret (v := 0) hx hb hr (fun t ht hW9 => ⟨⟨0, (u_1.1, u_1.2), rfl, ⟨hk9.symm, ⟨τ2, _, bl2, rl2, kl2, ba2, ra2, ka2, fr2, nk2, hF9, hW, hB9, hR9, hI⟩⟩, by rw [ht]; exact hP, va_K.moved hW9.alike hK, hD⟩, hS.F ht⟩) hS.2.2 dL_vector_21
