set_option maxHeartbeats 4000000 in
set_option maxRecDepth 100000 in
theorem w_row (l : Launch) (dC : Nat → ClassId) (dI : Nat → Nat → Nat) (dA : Nat → ClassId) (ad sz : Nat) (τ : Nat → Nat → Nat) (pv : Nat → Nat → Value) (L : List Nat) (f : Nat → va_E) (hI : kI dA τ pv L f) (x bl rl kl ba ra ka fr nb nr nk : Nat) (hW : kW τ pv ad x bl rl kl ba ra ka fr nb nr nk) (n k : Int32) (a : UInt32) (b : UInt32) (c9 : UInt32) (d9 : UInt32) (ky : Int32) (o : Nat) (hh_o : τ 0 o = 36) (hlt : l.stackTraces = false) : Met l yL_row wsL_row ({ frames := 9, cells := 12, slots := 1700, locals := 216 } : Room) (va_Pc [.ref x, .int n, .int k, .float a, .float b, .float c9, .float d9, .int ky, .ref o] (kB dC dI dA ad sz L f)) (va_Qi (fun r u => r = kc_row n k nb nr a b c9 d9 ∧ kPostN dA τ pv ad x ba ra nb nr nb (kinc (kc_row n k nb nr a b c9 d9) nr) o (kc_row n k nb nr a b c9 d9) (.long (nI nr).toInt64) n k (-1) u) (kR dC dI dA (va_A (va_pl L f) sz)) (va_A (va_pl L f) sz)) 12 1700 (va_A (va_pl L f) sz) := by
  refine va_MetW (cc := cL_row) (maxL := 10) (ret := (some .int)) (by decide) rfl ?_
  intro p e s m args below meth c s₁ B hml hv
  obtain ⟨rfl, hsz, hP, hK, hD0, hE⟩ := hv
  have hx := B.exec
  have hb := B.bytes
  have hr := B.returns
  have hts := atoms_spec (ws := wsL_row) B.pre
  have hown : s.vm.findClass RL = some m.cls := findClass_of_methodNamed B.named
  have hlocks := B.notSynchronized
  have htab : c.exceptionTable.toList = tableOf [(0, 20, 23, 21), (0, 20, 27, 13), (0, 20, 31, 15)] := vx_table (x := yL_row) B (hts _ List.mem_cons_self)
  subst hsz
  have hD := hD0.self (sz := s.heap.size)
  generalize hAe : va_A (va_pl L f) s.heap.size = A at hD hE ⊢
  have hA : ∀ q : Nat, s.heap.size ≤ q → A q := fun q h => by rw [← hAe]; exact Or.inr h
  have hS : va_S A s.heap s.heap [] := va_S.rf
  have hP : va_P (dC, dI) vwCl (va_pl L f) s.heap := hP
  have hK : va_K (dC, dI) vwCl (tyA dA) s := hK
  have hl := lv_entry ([.ref x, .int n, .int k, .float a, .float b, .float c9, .float d9, .int ky, .ref o]) (n := 10) (Nat.le_of_ble_eq_true rfl)
  rw [lg_entry_eq]
  generalize (lg_sl ([.ref x, .int n, .int k, .float a, .float b, .float c9, .float d9, .int ky, .ref o]) ++ List.replicate (10 - (lg_sl ([.ref x, .int n, .int k, .float a, .float b, .float c9, .float d9, .int ky, .ref o])).length) Slot.unset).toArray = ls at hl ⊢
  have hl : lv_has ls 10 [(0, .ref x), (1, .int n), (2, .int k), (3, .float a), (4, .float b), (5, .float c9), (6, .float d9), (7, .int ky), (8, .ref o)] := hl
  have hW00 := hW
  refine lv_aload hx hb dL_row_0 (lv_at hl 8 rfl) ?_
  refine lv_iconst (v := 0) hx hb dL_row_2 (by decide) ?_
  refine lv_aload_n hx hb dL_row_3 rfl (lv_at hl 0 rfl) ?_
  refine lv_iload_n hx hb dL_row_4 rfl (lv_at hl 1 rfl) ?_
  refine lv_iload_n hx hb dL_row_5 rfl (lv_at hl 2 rfl) ?_
  refine lv_fload_n hx hb dL_row_6 rfl (lv_at hl 3 rfl) ?_
  refine lv_fload hx hb dL_row_7 (lv_at hl 4 rfl) ?_
  refine lv_fload hx hb dL_row_9 (lv_at hl 5 rfl) ?_
  refine lv_fload hx hb dL_row_11 (lv_at hl 6 rfl) ?_
  refine lv_iload hx hb dL_row_13 (lv_at hl 7 rfl) ?_
  refine kd_xi (vx_runV (As := [.int n, .int k, .float a, .float b, .float c9, .float d9, .int ky]) (rest := [.int 0, .ref o]) ⟨hx, hb, hml, hown, hts⟩ (k_p_row l dC dI dA ad _ τ pv _ _ hI x bl rl kl ba ra ka fr nb nr nk hW n k a b c9 d9 ky hlt) (cwV 7 hts gL_row_X3_row rfl rfl rfl (by decide +kernel) ⟨Nat.le_of_ble_eq_true rfl, Nat.le_of_ble_eq_true rfl⟩) (kd_preV hP hD hK hS hA hE hI hW.tx rfl rfl) rfl rfl hl.1 rfl (lv_room (Nat.le_of_ble_eq_true rfl)) dL_row_15 ⟨Nat.le_of_ble_eq_true rfl, Nat.le_of_ble_eq_true rfl⟩) hD hS hA (fun E ce q9 u_1 H locs hw hP hD hS hce hcv hcl => ?_) (fun r_2 u_1 H locs hw hP hD hS => ?_)
  · obtain ⟨hE9, hI⟩ := hw
    rcases hE9 with ⟨rfl, hk9⟩ | ⟨rfl, hk9⟩ | ⟨rfl, hk9⟩
    · refine vx_catch (name := "java/lang/IndexOutOfBoundsException") hown [] ⟨0, 20, 23, 21⟩ [⟨0, 20, 27, 13⟩, ⟨0, 20, 31, 15⟩] (by rw [htab]; rfl) (fun z hz => by cases hz) (by decide) (by decide) (hts (.classLink RL 21 "java/lang/IndexOutOfBoundsException") (by decide +kernel)) (hE.cast "java/lang/IndexOutOfBoundsException" (by decide +kernel)) hce hcv hcl ?_
      refine W.eq (g2 := F0 m 23 ls [.ref q9]) rfl ?_
      refine lv_astore (lv' := [(9, .ref q9), (0, .ref x), (1, .int n), (2, .int k), (3, .float a), (4, .float b), (5, .float c9), (6, .float d9), (7, .int ky), (8, .ref o)]) hx hb dL_row_23 hl (by decide) rfl (fun ls hl => ?_)
      refine lv_iconst (v := 1) hx hb dL_row_25 (by decide) ?_
      refine W.widen (k := 12) (n := 1700) (Nat.le_of_ble_eq_true rfl) (Nat.le_of_ble_eq_true rfl) ?_
      exact W.iret (v := 1) hx hb hr (fun t ht hW9 => ⟨⟨1, (u_1.1, u_1.2), rfl, ⟨hk9.symm, by rw [kinc_1 (by rw [hk9]; decide)]; exact ⟨τ, pv, bl, rl, kl, ba, ra, ka, fr, nk, kFr.rf, hW, fun _ _ => rfl, fun _ _ _ => rfl, fun h9 => absurd (hk9.symm.trans h9) (by decide), fun h9 => absurd (hk9.symm.trans h9) (by decide), hI⟩⟩, by rw [ht]; exact hP, va_K.moved hW9.alike hK, hD⟩, hS.F ht⟩) hS.2.2 dL_row_26
    · refine vx_catch (name := "java/lang/IllegalArgumentException") hown [⟨0, 20, 23, 21⟩] ⟨0, 20, 27, 13⟩ [⟨0, 20, 31, 15⟩] (by rw [htab]; rfl) (fun z hz => by
        simp only [List.mem_cons, List.not_mem_nil, or_false] at hz
        rcases hz with rfl
        · exact Or.inr ⟨by decide, "java/lang/IndexOutOfBoundsException", (hts (.classLink RL 21 "java/lang/IndexOutOfBoundsException") (by decide +kernel)), hE.nocast "java/lang/IllegalArgumentException" "java/lang/IndexOutOfBoundsException" (by decide +kernel)⟩) (by decide) (by decide) (hts (.classLink RL 13 "java/lang/IllegalArgumentException") (by decide +kernel)) (hE.cast "java/lang/IllegalArgumentException" (by decide +kernel)) hce hcv hcl ?_
      refine W.eq (g2 := F0 m 27 ls [.ref q9]) rfl ?_
      refine lv_astore (lv' := [(9, .ref q9), (0, .ref x), (1, .int n), (2, .int k), (3, .float a), (4, .float b), (5, .float c9), (6, .float d9), (7, .int ky), (8, .ref o)]) hx hb dL_row_27 hl (by decide) rfl (fun ls hl => ?_)
      refine lv_iconst (v := 2) hx hb dL_row_29 (by decide) ?_
      refine W.widen (k := 12) (n := 1700) (Nat.le_of_ble_eq_true rfl) (Nat.le_of_ble_eq_true rfl) ?_
      exact W.iret (v := 2) hx hb hr (fun t ht hW9 => ⟨⟨2, (u_1.1, u_1.2), rfl, ⟨hk9.symm, by rw [kinc_1 (by rw [hk9]; decide)]; exact ⟨τ, pv, bl, rl, kl, ba, ra, ka, fr, nk, kFr.rf, hW, fun _ _ => rfl, fun _ _ _ => rfl, fun h9 => absurd (hk9.symm.trans h9) (by decide), fun h9 => absurd (hk9.symm.trans h9) (by decide), hI⟩⟩, by rw [ht]; exact hP, va_K.moved hW9.alike hK, hD⟩, hS.F ht⟩) hS.2.2 dL_row_30
    · refine vx_catch (name := "java/lang/IllegalStateException") hown [⟨0, 20, 23, 21⟩, ⟨0, 20, 27, 13⟩] ⟨0, 20, 31, 15⟩ [] (by rw [htab]; rfl) (fun z hz => by
        simp only [List.mem_cons, List.not_mem_nil, or_false] at hz
        rcases hz with rfl | rfl
        · exact Or.inr ⟨by decide, "java/lang/IndexOutOfBoundsException", (hts (.classLink RL 21 "java/lang/IndexOutOfBoundsException") (by decide +kernel)), hE.nocast "java/lang/IllegalStateException" "java/lang/IndexOutOfBoundsException" (by decide +kernel)⟩
        · exact Or.inr ⟨by decide, "java/lang/IllegalArgumentException", (hts (.classLink RL 13 "java/lang/IllegalArgumentException") (by decide +kernel)), hE.nocast "java/lang/IllegalStateException" "java/lang/IllegalArgumentException" (by decide +kernel)⟩) (by decide) (by decide) (hts (.classLink RL 15 "java/lang/IllegalStateException") (by decide +kernel)) (hE.cast "java/lang/IllegalStateException" (by decide +kernel)) hce hcv hcl ?_
      refine W.eq (g2 := F0 m 31 ls [.ref q9]) rfl ?_
      refine lv_astore (lv' := [(9, .ref q9), (0, .ref x), (1, .int n), (2, .int k), (3, .float a), (4, .float b), (5, .float c9), (6, .float d9), (7, .int ky), (8, .ref o)]) hx hb dL_row_31 hl (by decide) rfl (fun ls hl => ?_)
      refine lv_iconst (v := 3) hx hb dL_row_33 (by decide) ?_
      refine W.widen (k := 12) (n := 1700) (Nat.le_of_ble_eq_true rfl) (Nat.le_of_ble_eq_true rfl) ?_
      exact W.iret (v := 3) hx hb hr (fun t ht hW9 => ⟨⟨3, (u_1.1, u_1.2), rfl, ⟨hk9.symm, by rw [kinc_1 (by rw [hk9]; decide)]; exact ⟨τ, pv, bl, rl, kl, ba, ra, ka, fr, nk, kFr.rf, hW, fun _ _ => rfl, fun _ _ _ => rfl, fun h9 => absurd (hk9.symm.trans h9) (by decide), fun h9 => absurd (hk9.symm.trans h9) (by decide), hI⟩⟩, by rw [ht]; exact hP, va_K.moved hW9.alike hK, hD⟩, hS.F ht⟩) hS.2.2 dL_row_34
  · obtain ⟨hk9, rfl, τ2, pv2, bl2, rl2, kl2, ba2, ra2, ka2, fr2, nk2, hF9, hW, hB9, hR9, hN9, hI⟩ := hw
    refine lv_i2l (v := (nI nr).toInt64) hx hb dL_row_18 rfl ?_
    refine W.eq (g2 := F0 m 19 ls (.long ((nI nr).toInt64) :: .int (nI 0) :: .ref o :: [])) rfl ?_
    refine kp_last (j := 0) hx hb hK hP hD hS hI (hF9.ty hh_o) (by decide) dL_row_19 (fun f H locs hI hP hD hS => ?_)
    have hB9 := fun i (hi : i < nb) => (hW.eqB (kFr.up (P := kP9) (w := .long ((nI nr).toInt64)) (k := 0) (hF9.ty hh_o) rfl) (fun _ => rfl) i (by omega)).trans (hB9 i hi)
    have hR9 := fun i (hi : i < nr) (hi2 : i < (nr + 1)) => (hW.eqR (kFr.up (P := kP10) (w := .long ((nI nr).toInt64)) (k := 0) (hF9.ty hh_o) rfl) (fun _ => rfl) i (by omega)).trans (hR9 i hi hi2)
    have hN9 := hN9.fr (kFr.up (P := kPm) (w := .long ((nI nr).toInt64)) (k := 0) (hF9.ty hh_o) rfl) hW (fun _ => rfl) (fun _ => rfl) (by omega) (by omega)
    have hF9 := hF9.trans (kFr.up (P := kPmC) (w := .long ((nI nr).toInt64)) (k := 0) (hF9.ty hh_o) rfl)
    have hW := hW.frw (kFr.up (P := kPw) (w := .long ((nI nr).toInt64)) (k := 0) (hF9.ty hh_o) rfl)
    refine lv_goto (tgt := 35) hx hb dL_row_20 (by decide) ?_
    refine lv_iconst (v := 0) hx hb dL_row_35 (by decide) ?_
    refine W.widen (k := 12) (n := 1700) (Nat.le_of_ble_eq_true rfl) (Nat.le_of_ble_eq_true rfl) ?_
    exact W.iret (v := 0) hx hb hr (fun t ht hW9 => ⟨⟨0, (u_1.1, f), rfl, ⟨hk9.symm, by rw [kinc_0 hk9]; exact ⟨τ2, _, bl2, rl2, kl2, ba2, ra2, ka2, fr2, nk2, hF9, hW, hB9, hR9, fun h9 => kup_self, fun h9 => hN9, hI⟩⟩, by rw [ht]; exact hP, va_K.moved hW9.alike hK, hD⟩, hS.F ht⟩) hS.2.2 dL_row_36
set_option maxHeartbeats 4000000 in
set_option maxRecDepth 100000 in
theorem w_rub (l : Launch) (dC : Nat → ClassId) (dI : Nat → Nat → Nat) (dA : Nat → ClassId) (ad sz : Nat) (τ : Nat → Nat → Nat) (pv : Nat → Nat → Value) (L : List Nat) (f : Nat → va_E) (hI : kI dA τ pv L f) (x bl rl kl ba ra ka fr nb nr nk : Nat) (hW : kW τ pv ad x bl rl kl ba ra ka fr nb nr nk) (n k : Int32) (a : UInt32) (at9 : Int32) (b : UInt32) (ky : Int32) (o : Nat) (hh_o : τ 0 o = 36) (g9 : Bool) (hg9 : g9 = kGx τ pv ba ra nb nr n k at9) (hlt : l.stackTraces = false) : Met l yL_rub wsL_rub ({ frames := 9, cells := 12, slots := 1700, locals := 216 } : Room) (va_Pc [.ref x, .int n, .int k, .float a, .int at9, .float b, .int ky, .ref o] (kB dC dI dA ad sz L f)) (va_Qi (fun r u => r = kc_rub n k nb nr a at9 b g9 ∧ kPostN dA τ pv ad x ba ra nb nr nb (kinc (kc_rub n k nb nr a at9 b g9) nr) o (kc_rub n k nb nr a at9 b g9) (.long (nI nr).toInt64) n k at9 u) (kR dC dI dA (va_A (va_pl L f) sz)) (va_A (va_pl L f) sz)) 12 1700 (va_A (va_pl L f) sz) := by
  refine va_MetW (cc := cL_rub) (maxL := 9) (ret := (some .int)) (by decide) rfl ?_
  intro p e s m args below meth c s₁ B hml hv
  obtain ⟨rfl, hsz, hP, hK, hD0, hE⟩ := hv
  have hx := B.exec
  have hb := B.bytes
  have hr := B.returns
  have hts := atoms_spec (ws := wsL_rub) B.pre
  have hown : s.vm.findClass RL = some m.cls := findClass_of_methodNamed B.named
  have hlocks := B.notSynchronized
  have htab : c.exceptionTable.toList = tableOf [(0, 18, 21, 21), (0, 18, 25, 13), (0, 18, 29, 15)] := vx_table (x := yL_rub) B (hts _ List.mem_cons_self)
  subst hsz
  have hD := hD0.self (sz := s.heap.size)
  generalize hAe : va_A (va_pl L f) s.heap.size = A at hD hE ⊢
  have hA : ∀ q : Nat, s.heap.size ≤ q → A q := fun q h => by rw [← hAe]; exact Or.inr h
  have hS : va_S A s.heap s.heap [] := va_S.rf
  have hP : va_P (dC, dI) vwCl (va_pl L f) s.heap := hP
  have hK : va_K (dC, dI) vwCl (tyA dA) s := hK
  have hl := lv_entry ([.ref x, .int n, .int k, .float a, .int at9, .float b, .int ky, .ref o]) (n := 9) (Nat.le_of_ble_eq_true rfl)
  rw [lg_entry_eq]
  generalize (lg_sl ([.ref x, .int n, .int k, .float a, .int at9, .float b, .int ky, .ref o]) ++ List.replicate (9 - (lg_sl ([.ref x, .int n, .int k, .float a, .int at9, .float b, .int ky, .ref o])).length) Slot.unset).toArray = ls at hl ⊢
  have hl : lv_has ls 9 [(0, .ref x), (1, .int n), (2, .int k), (3, .float a), (4, .int at9), (5, .float b), (6, .int ky), (7, .ref o)] := hl
  have hW00 := hW
  refine lv_aload hx hb dL_rub_0 (lv_at hl 7 rfl) ?_
  refine lv_iconst (v := 0) hx hb dL_rub_2 (by decide) ?_
  refine lv_aload_n hx hb dL_rub_3 rfl (lv_at hl 0 rfl) ?_
  refine lv_iload_n hx hb dL_rub_4 rfl (lv_at hl 1 rfl) ?_
  refine lv_iload_n hx hb dL_rub_5 rfl (lv_at hl 2 rfl) ?_
  refine lv_fload_n hx hb dL_rub_6 rfl (lv_at hl 3 rfl) ?_
  refine lv_iload hx hb dL_rub_7 (lv_at hl 4 rfl) ?_
  refine lv_fload hx hb dL_rub_9 (lv_at hl 5 rfl) ?_
  refine lv_iload hx hb dL_rub_11 (lv_at hl 6 rfl) ?_
  refine kd_xi (vx_runV (As := [.int n, .int k, .float a, .int at9, .float b, .int ky]) (rest := [.int 0, .ref o]) ⟨hx, hb, hml, hown, hts⟩ (k_p_rub l dC dI dA ad _ τ pv _ _ hI x bl rl kl ba ra ka fr nb nr nk hW n k a at9 b ky g9 hg9 hlt) (cwV 6 hts gL_rub_X3_rub rfl rfl rfl (by decide +kernel) ⟨Nat.le_of_ble_eq_true rfl, Nat.le_of_ble_eq_true rfl⟩) (kd_preV hP hD hK hS hA hE hI hW.tx rfl rfl) rfl rfl hl.1 rfl (lv_room (Nat.le_of_ble_eq_true rfl)) dL_rub_13 ⟨Nat.le_of_ble_eq_true rfl, Nat.le_of_ble_eq_true rfl⟩) hD hS hA (fun E ce q9 u_1 H locs hw hP hD hS hce hcv hcl => ?_) (fun r_2 u_1 H locs hw hP hD hS => ?_)
  · obtain ⟨hE9, hI⟩ := hw
    rcases hE9 with ⟨rfl, hk9⟩ | ⟨rfl, hk9⟩ | ⟨rfl, hk9⟩
    · refine vx_catch (name := "java/lang/IndexOutOfBoundsException") hown [] ⟨0, 18, 21, 21⟩ [⟨0, 18, 25, 13⟩, ⟨0, 18, 29, 15⟩] (by rw [htab]; rfl) (fun z hz => by cases hz) (by decide) (by decide) (hts (.classLink RL 21 "java/lang/IndexOutOfBoundsException") (by decide +kernel)) (hE.cast "java/lang/IndexOutOfBoundsException" (by decide +kernel)) hce hcv hcl ?_
      refine W.eq (g2 := F0 m 21 ls [.ref q9]) rfl ?_
      refine lv_astore (lv' := [(8, .ref q9), (0, .ref x), (1, .int n), (2, .int k), (3, .float a), (4, .int at9), (5, .float b), (6, .int ky), (7, .ref o)]) hx hb dL_rub_21 hl (by decide) rfl (fun ls hl => ?_)
      refine lv_iconst (v := 1) hx hb dL_rub_23 (by decide) ?_
      refine W.widen (k := 12) (n := 1700) (Nat.le_of_ble_eq_true rfl) (Nat.le_of_ble_eq_true rfl) ?_
      exact W.iret (v := 1) hx hb hr (fun t ht hW9 => ⟨⟨1, (u_1.1, u_1.2), rfl, ⟨hk9.symm, by rw [kinc_1 (by rw [hk9]; decide)]; exact ⟨τ, pv, bl, rl, kl, ba, ra, ka, fr, nk, kFr.rf, hW, fun _ _ => rfl, fun _ _ _ => rfl, fun h9 => absurd (hk9.symm.trans h9) (by decide), fun h9 => absurd (hk9.symm.trans h9) (by decide), hI⟩⟩, by rw [ht]; exact hP, va_K.moved hW9.alike hK, hD⟩, hS.F ht⟩) hS.2.2 dL_rub_24
    · refine vx_catch (name := "java/lang/IllegalArgumentException") hown [⟨0, 18, 21, 21⟩] ⟨0, 18, 25, 13⟩ [⟨0, 18, 29, 15⟩] (by rw [htab]; rfl) (fun z hz => by
        simp only [List.mem_cons, List.not_mem_nil, or_false] at hz
        rcases hz with rfl
        · exact Or.inr ⟨by decide, "java/lang/IndexOutOfBoundsException", (hts (.classLink RL 21 "java/lang/IndexOutOfBoundsException") (by decide +kernel)), hE.nocast "java/lang/IllegalArgumentException" "java/lang/IndexOutOfBoundsException" (by decide +kernel)⟩) (by decide) (by decide) (hts (.classLink RL 13 "java/lang/IllegalArgumentException") (by decide +kernel)) (hE.cast "java/lang/IllegalArgumentException" (by decide +kernel)) hce hcv hcl ?_
      refine W.eq (g2 := F0 m 25 ls [.ref q9]) rfl ?_
      refine lv_astore (lv' := [(8, .ref q9), (0, .ref x), (1, .int n), (2, .int k), (3, .float a), (4, .int at9), (5, .float b), (6, .int ky), (7, .ref o)]) hx hb dL_rub_25 hl (by decide) rfl (fun ls hl => ?_)
      refine lv_iconst (v := 2) hx hb dL_rub_27 (by decide) ?_
      refine W.widen (k := 12) (n := 1700) (Nat.le_of_ble_eq_true rfl) (Nat.le_of_ble_eq_true rfl) ?_
      exact W.iret (v := 2) hx hb hr (fun t ht hW9 => ⟨⟨2, (u_1.1, u_1.2), rfl, ⟨hk9.symm, by rw [kinc_1 (by rw [hk9]; decide)]; exact ⟨τ, pv, bl, rl, kl, ba, ra, ka, fr, nk, kFr.rf, hW, fun _ _ => rfl, fun _ _ _ => rfl, fun h9 => absurd (hk9.symm.trans h9) (by decide), fun h9 => absurd (hk9.symm.trans h9) (by decide), hI⟩⟩, by rw [ht]; exact hP, va_K.moved hW9.alike hK, hD⟩, hS.F ht⟩) hS.2.2 dL_rub_28
    · refine vx_catch (name := "java/lang/IllegalStateException") hown [⟨0, 18, 21, 21⟩, ⟨0, 18, 25, 13⟩] ⟨0, 18, 29, 15⟩ [] (by rw [htab]; rfl) (fun z hz => by
        simp only [List.mem_cons, List.not_mem_nil, or_false] at hz
        rcases hz with rfl | rfl
        · exact Or.inr ⟨by decide, "java/lang/IndexOutOfBoundsException", (hts (.classLink RL 21 "java/lang/IndexOutOfBoundsException") (by decide +kernel)), hE.nocast "java/lang/IllegalStateException" "java/lang/IndexOutOfBoundsException" (by decide +kernel)⟩
        · exact Or.inr ⟨by decide, "java/lang/IllegalArgumentException", (hts (.classLink RL 13 "java/lang/IllegalArgumentException") (by decide +kernel)), hE.nocast "java/lang/IllegalStateException" "java/lang/IllegalArgumentException" (by decide +kernel)⟩) (by decide) (by decide) (hts (.classLink RL 15 "java/lang/IllegalStateException") (by decide +kernel)) (hE.cast "java/lang/IllegalStateException" (by decide +kernel)) hce hcv hcl ?_
      refine W.eq (g2 := F0 m 29 ls [.ref q9]) rfl ?_
      refine lv_astore (lv' := [(8, .ref q9), (0, .ref x), (1, .int n), (2, .int k), (3, .float a), (4, .int at9), (5, .float b), (6, .int ky), (7, .ref o)]) hx hb dL_rub_29 hl (by decide) rfl (fun ls hl => ?_)
      refine lv_iconst (v := 3) hx hb dL_rub_31 (by decide) ?_
      refine W.widen (k := 12) (n := 1700) (Nat.le_of_ble_eq_true rfl) (Nat.le_of_ble_eq_true rfl) ?_
      exact W.iret (v := 3) hx hb hr (fun t ht hW9 => ⟨⟨3, (u_1.1, u_1.2), rfl, ⟨hk9.symm, by rw [kinc_1 (by rw [hk9]; decide)]; exact ⟨τ, pv, bl, rl, kl, ba, ra, ka, fr, nk, kFr.rf, hW, fun _ _ => rfl, fun _ _ _ => rfl, fun h9 => absurd (hk9.symm.trans h9) (by decide), fun h9 => absurd (hk9.symm.trans h9) (by decide), hI⟩⟩, by rw [ht]; exact hP, va_K.moved hW9.alike hK, hD⟩, hS.F ht⟩) hS.2.2 dL_rub_32
  · obtain ⟨hk9, rfl, τ2, pv2, bl2, rl2, kl2, ba2, ra2, ka2, fr2, nk2, hF9, hW, hB9, hR9, hN9, hI⟩ := hw
    refine lv_i2l (v := (nI nr).toInt64) hx hb dL_rub_16 rfl ?_
    refine W.eq (g2 := F0 m 17 ls (.long ((nI nr).toInt64) :: .int (nI 0) :: .ref o :: [])) rfl ?_
    refine kp_last (j := 0) hx hb hK hP hD hS hI (hF9.ty hh_o) (by decide) dL_rub_17 (fun f H locs hI hP hD hS => ?_)
    have hB9 := fun i (hi : i < nb) => (hW.eqB (kFr.up (P := kP9) (w := .long ((nI nr).toInt64)) (k := 0) (hF9.ty hh_o) rfl) (fun _ => rfl) i (by omega)).trans (hB9 i hi)
    have hR9 := fun i (hi : i < nr) (hi2 : i < (nr + 1)) => (hW.eqR (kFr.up (P := kP10) (w := .long ((nI nr).toInt64)) (k := 0) (hF9.ty hh_o) rfl) (fun _ => rfl) i (by omega)).trans (hR9 i hi hi2)
    have hN9 := hN9.fr (kFr.up (P := kPm) (w := .long ((nI nr).toInt64)) (k := 0) (hF9.ty hh_o) rfl) hW (fun _ => rfl) (fun _ => rfl) (by omega) (by omega)
    have hF9 := hF9.trans (kFr.up (P := kPmC) (w := .long ((nI nr).toInt64)) (k := 0) (hF9.ty hh_o) rfl)
    have hW := hW.frw (kFr.up (P := kPw) (w := .long ((nI nr).toInt64)) (k := 0) (hF9.ty hh_o) rfl)
    refine lv_goto (tgt := 33) hx hb dL_rub_18 (by decide) ?_
    refine lv_iconst (v := 0) hx hb dL_rub_33 (by decide) ?_
    refine W.widen (k := 12) (n := 1700) (Nat.le_of_ble_eq_true rfl) (Nat.le_of_ble_eq_true rfl) ?_
    exact W.iret (v := 0) hx hb hr (fun t ht hW9 => ⟨⟨0, (u_1.1, f), rfl, ⟨hk9.symm, by rw [kinc_0 hk9]; exact ⟨τ2, _, bl2, rl2, kl2, ba2, ra2, ka2, fr2, nk2, hF9, hW, hB9, hR9, fun h9 => kup_self, fun h9 => hN9, hI⟩⟩, by rw [ht]; exact hP, va_K.moved hW9.alike hK, hD⟩, hS.F ht⟩) hS.2.2 dL_rub_34
set_option maxHeartbeats 4000000 in
set_option maxRecDepth 100000 in
theorem w_settings (l : Launch) (dC : Nat → ClassId) (dI : Nat → Nat → Nat) (dA : Nat → ClassId) (ad sz : Nat) (τ : Nat → Nat → Nat) (pv : Nat → Nat → Value) (L : List Nat) (f : Nat → va_E) (hI : kI dA τ pv L f) (x bl rl kl ba ra ka fr nb nr nk : Nat) (hW : kW τ pv ad x bl rl kl ba ra ka fr nb nr nk) (n : Int32) (a : UInt32) (b : UInt32) (k : Int32) (hlt : l.stackTraces = false) : Met l yL_settings wsL_settings ({ frames := 7, cells := 2, slots := 12, locals := 106 } : Room) (va_Pc [.ref x, .int n, .float a, .float b, .int k] (kB dC dI dA ad sz L f)) (va_Qi (fun r u => r = kc_settings n a b k ∧ kPost dA τ pv ad x ba ra nb nr nb nr u) (kR dC dI dA (va_A (va_pl L f) sz)) (va_A (va_pl L f) sz)) 2 12 (va_A (va_pl L f) sz) := by
  refine va_MetW (cc := cL_settings) (maxL := 6) (ret := (some .int)) (by decide) rfl ?_
  intro p e s m args below meth c s₁ B hml hv
  obtain ⟨rfl, hsz, hP, hK, hD0, hE⟩ := hv
  have hx := B.exec
  have hb := B.bytes
  have hr := B.returns
  have hts := atoms_spec (ws := wsL_settings) B.pre
  have hown : s.vm.findClass RL = some m.cls := findClass_of_methodNamed B.named
  have hlocks := B.notSynchronized
  have htab : c.exceptionTable.toList = tableOf [(0, 9, 12, 13)] := vx_table (x := yL_settings) B (hts _ List.mem_cons_self)
  subst hsz
  have hD := hD0.self (sz := s.heap.size)
  generalize hAe : va_A (va_pl L f) s.heap.size = A at hD hE ⊢
  have hA : ∀ q : Nat, s.heap.size ≤ q → A q := fun q h => by rw [← hAe]; exact Or.inr h
  have hS : va_S A s.heap s.heap [] := va_S.rf
  have hP : va_P (dC, dI) vwCl (va_pl L f) s.heap := hP
  have hK : va_K (dC, dI) vwCl (tyA dA) s := hK
  have hl := lv_entry ([.ref x, .int n, .float a, .float b, .int k]) (n := 6) (Nat.le_of_ble_eq_true rfl)
  rw [lg_entry_eq]
  generalize (lg_sl ([.ref x, .int n, .float a, .float b, .int k]) ++ List.replicate (6 - (lg_sl ([.ref x, .int n, .float a, .float b, .int k])).length) Slot.unset).toArray = ls at hl ⊢
  have hl : lv_has ls 6 [(0, .ref x), (1, .int n), (2, .float a), (3, .float b), (4, .int k)] := hl
  have hW00 := hW
  refine lv_aload_n hx hb dL_settings_0 rfl (lv_at hl 0 rfl) ?_
  refine lv_iload_n hx hb dL_settings_1 rfl (lv_at hl 1 rfl) ?_
  refine lv_fload_n hx hb dL_settings_2 rfl (lv_at hl 2 rfl) ?_
  refine lv_fload_n hx hb dL_settings_3 rfl (lv_at hl 3 rfl) ?_
  refine lv_iload hx hb dL_settings_4 (lv_at hl 4 rfl) ?_
  refine kd_xv (vx_runV (As := [.int n, .float a, .float b, .int k]) (rest := []) ⟨hx, hb, hml, hown, hts⟩ (k_p_settings l dC dI dA ad _ τ pv _ _ hI x bl rl kl ba ra ka fr nb nr nk hW n a b k hlt) (cwV 4 hts gL_settings_X3_settings rfl rfl rfl (by decide +kernel) ⟨Nat.le_of_ble_eq_true rfl, Nat.le_of_ble_eq_true rfl⟩) (kd_preV hP hD hK hS hA hE hI hW.tx rfl rfl) rfl rfl hl.1 rfl (lv_room (Nat.le_of_ble_eq_true rfl)) dL_settings_6 ⟨Nat.le_of_ble_eq_true rfl, Nat.le_of_ble_eq_true rfl⟩) hD hS hA (fun E ce q9 u_1 H locs hw hP hD hS hce hcv hcl => ?_) (fun u_1 H locs hw hP hD hS => ?_)
  · obtain ⟨hE9, hI⟩ := hw
    obtain ⟨rfl, hk9⟩ := hE9
    refine vx_catch (name := "java/lang/IllegalArgumentException") hown [] ⟨0, 9, 12, 13⟩ [] (by rw [htab]; rfl) (fun z hz => by cases hz) (by decide) (by decide) (hts (.classLink RL 13 "java/lang/IllegalArgumentException") (by decide +kernel)) (hE.cast "java/lang/IllegalArgumentException" (by decide +kernel)) hce hcv hcl ?_
    refine W.eq (g2 := F0 m 12 ls [.ref q9]) rfl ?_
    refine lv_astore (lv' := [(5, .ref q9), (0, .ref x), (1, .int n), (2, .float a), (3, .float b), (4, .int k)]) hx hb dL_settings_12 hl (by decide) rfl (fun ls hl => ?_)
    refine lv_iconst (v := 1) hx hb dL_settings_14 (by decide) ?_
    refine W.widen (k := 2) (n := 12) (Nat.le_of_ble_eq_true rfl) (Nat.le_of_ble_eq_true rfl) ?_
    exact W.iret (v := 1) hx hb hr (fun t ht hW9 => ⟨⟨1, (u_1.1, u_1.2), rfl, ⟨hk9.symm, ⟨τ, pv, bl, rl, kl, ba, ra, ka, fr, nk, kFr.rf, hW, fun _ _ => rfl, fun _ _ _ => rfl, hI⟩⟩, by rw [ht]; exact hP, va_K.moved hW9.alike hK, hD⟩, hS.F ht⟩) hS.2.2 dL_settings_15
  · obtain ⟨hk9, τ2, pv2, bl2, rl2, kl2, ba2, ra2, ka2, fr2, nk2, hF9, hW, hB9, hR9, hI⟩ := hw
    refine lv_goto (tgt := 16) hx hb dL_settings_9 (by decide) ?_
    refine lv_iconst (v := 0) hx hb dL_settings_16 (by decide) ?_
    refine W.widen (k := 2) (n := 12) (Nat.le_of_ble_eq_true rfl) (Nat.le_of_ble_eq_true rfl) ?_
    exact W.iret (v := 0) hx hb hr (fun t ht hW9 => ⟨⟨0, (u_1.1, u_1.2), rfl, ⟨hk9.symm, ⟨τ2, _, bl2, rl2, kl2, ba2, ra2, ka2, fr2, nk2, hF9, hW, hB9, hR9, hI⟩⟩, by rw [ht]; exact hP, va_K.moved hW9.alike hK, hD⟩, hS.F ht⟩) hS.2.2 dL_settings_17
set_option maxHeartbeats 4000000 in
set_option maxRecDepth 100000 in
theorem w_workers (l : Launch) (dC : Nat → ClassId) (dI : Nat → Nat → Nat) (dA : Nat → ClassId) (ad sz : Nat) (τ : Nat → Nat → Nat) (pv : Nat → Nat → Value) (L : List Nat) (f : Nat → va_E) (hI : kI dA τ pv L f) (x bl rl kl ba ra ka fr nb nr nk : Nat) (hW : kW τ pv ad x bl rl kl ba ra ka fr nb nr nk) (n : Int32) (o : Nat) (hh_o : τ 0 o = 36) (hlt : l.stackTraces = false) : Met l yL_workers wsL_workers ({ frames := 7, cells := 2, slots := 12, locals := 104 } : Room) (va_Pc [.ref x, .int n, .ref o] (kB dC dI dA ad sz L f)) (va_Qi (fun r u => r = kc_workers n ∧ kPostV dA τ pv ad x ba ra nb nr nb nr o (kc_workers n) n u) (kR dC dI dA (va_A (va_pl L f) sz)) (va_A (va_pl L f) sz)) 2 12 (va_A (va_pl L f) sz) := by
  refine va_MetW (cc := cL_workers) (maxL := 4) (ret := (some .int)) (by decide) rfl ?_
  intro p e s m args below meth c s₁ B hml hv
  obtain ⟨rfl, hsz, hP, hK, hD0, hE⟩ := hv
  have hx := B.exec
  have hb := B.bytes
  have hr := B.returns
  have hts := atoms_spec (ws := wsL_workers) B.pre
  have hown : s.vm.findClass RL = some m.cls := findClass_of_methodNamed B.named
  have hlocks := B.notSynchronized
  have htab : c.exceptionTable.toList = tableOf [(0, 9, 12, 13)] := vx_table (x := yL_workers) B (hts _ List.mem_cons_self)
  subst hsz
  have hD := hD0.self (sz := s.heap.size)
  generalize hAe : va_A (va_pl L f) s.heap.size = A at hD hE ⊢
  have hA : ∀ q : Nat, s.heap.size ≤ q → A q := fun q h => by rw [← hAe]; exact Or.inr h
  have hS : va_S A s.heap s.heap [] := va_S.rf
  have hP : va_P (dC, dI) vwCl (va_pl L f) s.heap := hP
  have hK : va_K (dC, dI) vwCl (tyA dA) s := hK
  have hl := lv_entry ([.ref x, .int n, .ref o]) (n := 4) (Nat.le_of_ble_eq_true rfl)
  rw [lg_entry_eq]
  generalize (lg_sl ([.ref x, .int n, .ref o]) ++ List.replicate (4 - (lg_sl ([.ref x, .int n, .ref o])).length) Slot.unset).toArray = ls at hl ⊢
  have hl : lv_has ls 4 [(0, .ref x), (1, .int n), (2, .ref o)] := hl
  have hW00 := hW
  refine lv_aload_n hx hb dL_workers_0 rfl (lv_at hl 2 rfl) ?_
  refine lv_iconst (v := 0) hx hb dL_workers_1 (by decide) ?_
  refine lv_aload_n hx hb dL_workers_2 rfl (lv_at hl 0 rfl) ?_
  refine lv_iload_n hx hb dL_workers_3 rfl (lv_at hl 1 rfl) ?_
  refine kd_xi (vx_runV (As := [.int n]) (rest := [.int 0, .ref o]) ⟨hx, hb, hml, hown, hts⟩ (k_p_workers l dC dI dA ad _ τ pv _ _ hI x bl rl kl ba ra ka fr nb nr nk hW n hlt) (cwV 1 hts gL_workers_X3_workers rfl rfl rfl (by decide +kernel) ⟨Nat.le_of_ble_eq_true rfl, Nat.le_of_ble_eq_true rfl⟩) (kd_preV hP hD hK hS hA hE hI hW.tx rfl rfl) rfl rfl hl.1 rfl (lv_room (Nat.le_of_ble_eq_true rfl)) dL_workers_4 ⟨Nat.le_of_ble_eq_true rfl, Nat.le_of_ble_eq_true rfl⟩) hD hS hA (fun E ce q9 u_1 H locs hw hP hD hS hce hcv hcl => ?_) (fun r_2 u_1 H locs hw hP hD hS => ?_)
  · obtain ⟨hE9, hI⟩ := hw
    obtain ⟨rfl, hk9⟩ := hE9
    refine vx_catch (name := "java/lang/IllegalArgumentException") hown [] ⟨0, 9, 12, 13⟩ [] (by rw [htab]; rfl) (fun z hz => by cases hz) (by decide) (by decide) (hts (.classLink RL 13 "java/lang/IllegalArgumentException") (by decide +kernel)) (hE.cast "java/lang/IllegalArgumentException" (by decide +kernel)) hce hcv hcl ?_
    refine W.eq (g2 := F0 m 12 ls [.ref q9]) rfl ?_
    refine lv_astore_n (lv' := [(3, .ref q9), (0, .ref x), (1, .int n), (2, .ref o)]) hx hb dL_workers_12 rfl hl (by decide) rfl (fun ls hl => ?_)
    refine lv_iconst (v := 1) hx hb dL_workers_13 (by decide) ?_
    refine W.widen (k := 2) (n := 12) (Nat.le_of_ble_eq_true rfl) (Nat.le_of_ble_eq_true rfl) ?_
    exact W.iret (v := 1) hx hb hr (fun t ht hW9 => ⟨⟨1, (u_1.1, u_1.2), rfl, ⟨hk9.symm, τ, pv, bl, rl, kl, ba, ra, ka, fr, nk, kFr.rf, hW, fun _ _ => rfl, fun _ _ _ => rfl, fun h9 => absurd (hk9.symm.trans h9) (by decide), fun _ => rfl, hI⟩, by rw [ht]; exact hP, va_K.moved hW9.alike hK, hD⟩, hS.F ht⟩) hS.2.2 dL_workers_14
  · obtain ⟨hk9, hw9, pv2, hF9, hW, hn9, hI⟩ := hw
    have hB9 : ∀ i, i < nb → pv2 ba i = pv ba i := hW00.eqB hF9 (fun _ => rfl)
    have hR9 : ∀ i, i < nr → i < nr → pv2 ra i = pv ra i := fun i hi _ => hW00.eqR hF9 (fun _ => rfl) i hi
    have hF9 : kFr kPmD τ pv τ pv2 := hF9.weak kPm0_D
    refine lv_i2l (v := r_2.toInt64) hx hb dL_workers_7 rfl ?_
    refine W.eq (g2 := F0 m 8 ls (.long r_2.toInt64 :: .int (nI 0) :: .ref o :: [])) rfl ?_
    refine kp_last (j := 0) hx hb hK hP hD hS hI hh_o (by decide) dL_workers_8 (fun f H locs hI hP hD hS => ?_)
    have hB9 := fun i (hi : i < nb) => (hW.eqB (kFr.up (P := kP9) (w := .long r_2.toInt64) (k := 0) hh_o rfl) (fun _ => rfl) i (by omega)).trans (hB9 i hi)
    have hR9 := fun i (hi : i < nr) (hi2 : i < nr) => (hW.eqR (kFr.up (P := kP10) (w := .long r_2.toInt64) (k := 0) hh_o rfl) (fun _ => rfl) i (by omega)).trans (hR9 i hi hi2)
    have hF9 := hF9.trans (kFr.up (P := kPmD) (w := .long r_2.toInt64) (k := 0) hh_o rfl)
    have hW := hW.frw (kFr.up (P := kPw) (w := .long r_2.toInt64) (k := 0) hh_o rfl)
    refine lv_goto (tgt := 15) hx hb dL_workers_9 (by decide) ?_
    refine lv_iconst (v := 0) hx hb dL_workers_15 (by decide) ?_
    refine W.widen (k := 2) (n := 12) (Nat.le_of_ble_eq_true rfl) (Nat.le_of_ble_eq_true rfl) ?_
    exact W.iret (v := 0) hx hb hr (fun t ht hW9 => ⟨⟨0, (u_1.1, f), rfl, ⟨hk9.symm, τ, _, bl, rl, kl, ba, ra, ka, fr, nk, hF9, hW, hB9, hR9, fun h9 => ⟨⟨_, hw9, kup_self⟩, (kup_ne (Or.inl (knt6 hW.tx hh_o))).trans hn9⟩, fun h9 => absurd hk9 h9, hI⟩, by rw [ht]; exact hP, va_K.moved hW9.alike hK, hD⟩, hS.F ht⟩) hS.2.2 dL_workers_16
