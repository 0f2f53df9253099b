set_option maxHeartbeats 4000000 in
set_option maxRecDepth 100000 in
theorem w_step (l : Launch) (dC : Nat → ClassId) (dI : Nat → Nat → Nat) (dA : Nat → ClassId) (ad sz : Nat) (τ : Nat → Nat → Nat) (pv : Nat → Nat → Value) (L : List Nat) (f : Nat → va_E) (hI : kI dA τ pv L f) (x bl rl kl ba ra ka fr nb nr nk : Nat) (hW : kW τ pv ad x bl rl kl ba ra ka fr nb nr nk) (n : Int32) (o : Nat) (hh_o : τ 0 o = 36) (hlt : l.stackTraces = false) : Met l yL_step wsL_step ({ frames := 7, cells := 2, slots := 12, locals := 132 } : Room) (va_Pc [.ref x, .int n, .ref o] (kB dC dI dA ad sz L f)) (va_Qi (fun r u => kPost dA τ pv ad x ba ra nb nr nb nr u) (kR dC dI dA (va_A (va_pl L f) sz)) (va_A (va_pl L f) sz)) 2 12 (va_A (va_pl L f) sz) := by
  refine va_MetW (cc := cL_step) (maxL := 4) (ret := (some .int)) (by decide) rfl ?_
  intro p e s m args below meth c s₁ B hml hv
  obtain ⟨rfl, hsz, hP, hK, hD0, hE⟩ := hv
  have hx := B.exec
  have hb := B.bytes
  have hr := B.returns
  have hts := atoms_spec (ws := wsL_step) B.pre
  have hown : s.vm.findClass RL = some m.cls := findClass_of_methodNamed B.named
  have hlocks := B.notSynchronized
  have htab : c.exceptionTable.toList = tableOf [(0, 9, 12, 13)] := vx_table (x := yL_step) B (hts _ List.mem_cons_self)
  subst hsz
  have hD := hD0.self (sz := s.heap.size)
  generalize hAe : va_A (va_pl L f) s.heap.size = A at hD hE ⊢
  have hA : ∀ q : Nat, s.heap.size ≤ q → A q := fun q h => by rw [← hAe]; exact Or.inr h
  have hS : va_S A s.heap s.heap [] := va_S.rf
  have hP : va_P (dC, dI) vwCl (va_pl L f) s.heap := hP
  have hK : va_K (dC, dI) vwCl (tyA dA) s := hK
  have hl := lv_entry ([.ref x, .int n, .ref o]) (n := 4) (Nat.le_of_ble_eq_true rfl)
  rw [lg_entry_eq]
  generalize (lg_sl ([.ref x, .int n, .ref o]) ++ List.replicate (4 - (lg_sl ([.ref x, .int n, .ref o])).length) Slot.unset).toArray = ls at hl ⊢
  have hl : lv_has ls 4 [(0, .ref x), (1, .int n), (2, .ref o)] := hl
  have hW00 := hW
  refine lv_aload_n hx hb dL_step_0 rfl (lv_at hl 2 rfl) ?_
  refine lv_iconst (v := 0) hx hb dL_step_1 (by decide) ?_
  refine lv_aload_n hx hb dL_step_2 rfl (lv_at hl 0 rfl) ?_
  refine lv_iload_n hx hb dL_step_3 rfl (lv_at hl 1 rfl) ?_
  refine kd_xi (vx_runV (As := [.int n]) (rest := [.int 0, .ref o]) ⟨hx, hb, hml, hown, hts⟩ (k_p_step l dC dI dA ad _ τ pv _ _ hI x bl rl kl ba ra ka fr nb nr nk hW n hlt) (cwV 1 hts gL_step_X3_step rfl rfl rfl (by decide +kernel) ⟨Nat.le_of_ble_eq_true rfl, Nat.le_of_ble_eq_true rfl⟩) (kd_preV hP hD hK hS hA hE hI hW.tx rfl rfl) rfl rfl hl.1 rfl (lv_room (Nat.le_of_ble_eq_true rfl)) dL_step_4 ⟨Nat.le_of_ble_eq_true rfl, Nat.le_of_ble_eq_true rfl⟩) hD hS hA (fun E ce q9 u_1 H locs hw hP hD hS hce hcv hcl => ?_) (fun r_2 u_1 H locs hw hP hD hS => ?_)
  · obtain ⟨hE9, hI⟩ := hw
    subst hE9
    refine vx_catch (name := "java/lang/IllegalArgumentException") hown [] ⟨0, 9, 12, 13⟩ [] (by rw [htab]; rfl) (fun z hz => by cases hz) (by decide) (by decide) (hts (.classLink RL 13 "java/lang/IllegalArgumentException") (by decide +kernel)) (hE.cast "java/lang/IllegalArgumentException" (by decide +kernel)) hce hcv hcl ?_
    refine W.eq (g2 := F0 m 12 ls [.ref q9]) rfl ?_
    refine lv_astore_n (lv' := [(3, .ref q9), (0, .ref x), (1, .int n), (2, .ref o)]) hx hb dL_step_12 rfl hl (by decide) rfl (fun ls hl => ?_)
    refine lv_iconst (v := 1) hx hb dL_step_13 (by decide) ?_
    refine W.widen (k := 2) (n := 12) (Nat.le_of_ble_eq_true rfl) (Nat.le_of_ble_eq_true rfl) ?_
    exact W.iret (v := 1) hx hb hr (fun t ht hW9 => ⟨⟨1, (u_1.1, u_1.2), rfl, ⟨τ, pv, bl, rl, kl, ba, ra, ka, fr, nk, kFr.rf, hW, fun _ _ => rfl, fun _ _ _ => rfl, hI⟩, by rw [ht]; exact hP, va_K.moved hW9.alike hK, hD⟩, hS.F ht⟩) hS.2.2 dL_step_14
  · obtain ⟨τ2, pv2, bl2, rl2, kl2, ba2, ra2, ka2, fr2, nk2, hF9, hW, hB9, hR9, hI⟩ := hw
    refine lv_i2l (v := r_2.toInt64) hx hb dL_step_7 rfl ?_
    refine W.eq (g2 := F0 m 8 ls (.long r_2.toInt64 :: .int (nI 0) :: .ref o :: [])) rfl ?_
    refine kp_last (j := 0) hx hb hK hP hD hS hI (hF9.ty hh_o) (by decide) dL_step_8 (fun f H locs hI hP hD hS => ?_)
    have hB9 := fun i (hi : i < nb) => (hW.eqB (kFr.up (P := kP9) (w := .long r_2.toInt64) (k := 0) (hF9.ty hh_o) rfl) (fun _ => rfl) i (by omega)).trans (hB9 i hi)
    have hR9 := fun i (hi : i < nr) (hi2 : i < nr) => (hW.eqR (kFr.up (P := kP10) (w := .long r_2.toInt64) (k := 0) (hF9.ty hh_o) rfl) (fun _ => rfl) i (by omega)).trans (hR9 i hi hi2)
    have hF9 := hF9.trans (kFr.up (P := kPmC) (w := .long r_2.toInt64) (k := 0) (hF9.ty hh_o) rfl)
    have hW := hW.frw (kFr.up (P := kPw) (w := .long r_2.toInt64) (k := 0) (hF9.ty hh_o) rfl)
    refine lv_goto (tgt := 15) hx hb dL_step_9 (by decide) ?_
    refine lv_iconst (v := 0) hx hb dL_step_15 (by decide) ?_
    refine W.widen (k := 2) (n := 12) (Nat.le_of_ble_eq_true rfl) (Nat.le_of_ble_eq_true rfl) ?_
    exact W.iret (v := 0) hx hb hr (fun t ht hW9 => ⟨⟨0, (u_1.1, f), rfl, ⟨τ2, _, bl2, rl2, kl2, ba2, ra2, ka2, fr2, nk2, hF9, hW, hB9, hR9, hI⟩, by rw [ht]; exact hP, va_K.moved hW9.alike hK, hD⟩, hS.F ht⟩) hS.2.2 dL_step_16
set_option maxHeartbeats 4000000 in
set_option maxRecDepth 100000 in
theorem w_of (l : Launch) (dC : Nat → ClassId) (dI : Nat → Nat → Nat) (dA : Nat → ClassId) (ad sz : Nat) (τ : Nat → Nat → Nat) (pv : Nat → Nat → Value) (L : List Nat) (f : Nat → va_E) (hI : kI dA τ pv L f) (x bl rl kl ba ra ka fr nb nr nk : Nat) (hW : kW τ pv ad x bl rl kl ba ra ka fr nb nr nk) (n k : Int32) (o : Nat) (hh_o : τ 0 o = 37) (hlt : l.stackTraces = false) : Met l yL_of wsL_of ({ frames := 8, cells := 2, slots := 12, locals := 126 } : Room) (va_Pc [.ref x, .int n, .int k, .ref o] (kB dC dI dA ad sz L f)) (va_Qi (fun r u => kPost dA τ pv ad x ba ra nb nr nb nr u) (kR dC dI dA (va_A (va_pl L f) sz)) (va_A (va_pl L f) sz)) 2 12 (va_A (va_pl L f) sz) := by
  refine va_MetW (cc := cL_of) (maxL := 5) (ret := (some .int)) (by decide) rfl ?_
  intro p e s m args below meth c s₁ B hml hv
  obtain ⟨rfl, hsz, hP, hK, hD0, hE⟩ := hv
  have hx := B.exec
  have hb := B.bytes
  have hr := B.returns
  have hts := atoms_spec (ws := wsL_of) B.pre
  have hown : s.vm.findClass RL = some m.cls := findClass_of_methodNamed B.named
  have hlocks := B.notSynchronized
  have htab : c.exceptionTable.toList = tableOf [(0, 10, 13, 21)] := vx_table (x := yL_of) B (hts _ List.mem_cons_self)
  subst hsz
  have hD := hD0.self (sz := s.heap.size)
  generalize hAe : va_A (va_pl L f) s.heap.size = A at hD hE ⊢
  have hA : ∀ q : Nat, s.heap.size ≤ q → A q := fun q h => by rw [← hAe]; exact Or.inr h
  have hS : va_S A s.heap s.heap [] := va_S.rf
  have hP : va_P (dC, dI) vwCl (va_pl L f) s.heap := hP
  have hK : va_K (dC, dI) vwCl (tyA dA) s := hK
  have hl := lv_entry ([.ref x, .int n, .int k, .ref o]) (n := 5) (Nat.le_of_ble_eq_true rfl)
  rw [lg_entry_eq]
  generalize (lg_sl ([.ref x, .int n, .int k, .ref o]) ++ List.replicate (5 - (lg_sl ([.ref x, .int n, .int k, .ref o])).length) Slot.unset).toArray = ls at hl ⊢
  have hl : lv_has ls 5 [(0, .ref x), (1, .int n), (2, .int k), (3, .ref o)] := hl
  have hW00 := hW
  refine lv_aload_n hx hb dL_of_0 rfl (lv_at hl 3 rfl) ?_
  refine lv_iconst (v := 0) hx hb dL_of_1 (by decide) ?_
  refine lv_aload_n hx hb dL_of_2 rfl (lv_at hl 0 rfl) ?_
  refine lv_iload_n hx hb dL_of_3 rfl (lv_at hl 1 rfl) ?_
  refine lv_iload_n hx hb dL_of_4 rfl (lv_at hl 2 rfl) ?_
  refine kd_xf (vx_runV (As := [.int n, .int k]) (rest := [.int 0, .ref o]) ⟨hx, hb, hml, hown, hts⟩ (k_p_of l dC dI dA ad _ τ pv _ _ hI x bl rl kl ba ra ka fr nb nr nk hW n k hlt) (cwV 2 hts gL_of_X3_of rfl rfl rfl (by decide +kernel) ⟨Nat.le_of_ble_eq_true rfl, Nat.le_of_ble_eq_true rfl⟩) (kd_preV hP hD hK hS hA hE hI hW.tx rfl rfl) rfl rfl hl.1 rfl (lv_room (Nat.le_of_ble_eq_true rfl)) dL_of_5 ⟨Nat.le_of_ble_eq_true rfl, Nat.le_of_ble_eq_true rfl⟩) hD hS hA (fun E ce q9 u_1 H locs hw hP hD hS hce hcv hcl => ?_) (fun r_2 u_1 H locs hw hP hD hS => ?_)
  · obtain ⟨hE9, hI⟩ := hw
    subst hE9
    refine vx_catch (name := "java/lang/IndexOutOfBoundsException") hown [] ⟨0, 10, 13, 21⟩ [] (by rw [htab]; rfl) (fun z hz => by cases hz) (by decide) (by decide) (hts (.classLink RL 21 "java/lang/IndexOutOfBoundsException") (by decide +kernel)) (hE.cast "java/lang/IndexOutOfBoundsException" (by decide +kernel)) hce hcv hcl ?_
    refine W.eq (g2 := F0 m 13 ls [.ref q9]) rfl ?_
    refine lv_astore (lv' := [(4, .ref q9), (0, .ref x), (1, .int n), (2, .int k), (3, .ref o)]) hx hb dL_of_13 hl (by decide) rfl (fun ls hl => ?_)
    refine lv_iconst (v := 1) hx hb dL_of_15 (by decide) ?_
    refine W.widen (k := 2) (n := 12) (Nat.le_of_ble_eq_true rfl) (Nat.le_of_ble_eq_true rfl) ?_
    exact W.iret (v := 1) hx hb hr (fun t ht hW9 => ⟨⟨1, (u_1.1, u_1.2), rfl, ⟨τ, pv, bl, rl, kl, ba, ra, ka, fr, nk, kFr.rf, hW, fun _ _ => rfl, fun _ _ _ => rfl, hI⟩, by rw [ht]; exact hP, va_K.moved hW9.alike hK, hD⟩, hS.F ht⟩) hS.2.2 dL_of_16
  · obtain ⟨hr_2, τ2, pv2, bl2, rl2, kl2, ba2, ra2, ka2, fr2, nk2, hF9, hW, hB9, hR9, hI⟩ := hw
    refine lv_f2d hx hb dL_of_8 (fb_f2d hr_2 (by decide)) ?_
    refine W.eq (g2 := F0 m 9 ls (.double (FP.f2d r_2) :: .int (nI 0) :: .ref o :: [])) rfl ?_
    refine kp_dast (j := 0) hx hb hK hP hD hS hI (hF9.ty hh_o) (by decide) dL_of_9 (fun f H locs hI hP hD hS => ?_)
    refine lv_goto (tgt := 17) hx hb dL_of_10 (by decide) ?_
    refine lv_iconst (v := 0) hx hb dL_of_17 (by decide) ?_
    refine W.widen (k := 2) (n := 12) (Nat.le_of_ble_eq_true rfl) (Nat.le_of_ble_eq_true rfl) ?_
    exact W.iret (v := 0) hx hb hr (fun t ht hW9 => ⟨⟨0, (u_1.1, f), rfl, ⟨τ2, _, bl2, rl2, kl2, ba2, ra2, ka2, fr2, nk2, hF9, hW, hB9, hR9, hI⟩, by rw [ht]; exact hP, va_K.moved hW9.alike hK, hD⟩, hS.F ht⟩) hS.2.2 dL_of_18
set_option maxHeartbeats 4000000 in
set_option maxRecDepth 100000 in
theorem w_about (l : Launch) (dC : Nat → ClassId) (dI : Nat → Nat → Nat) (dA : Nat → ClassId) (ad sz : Nat) (τ : Nat → Nat → Nat) (pv : Nat → Nat → Value) (L : List Nat) (f : Nat → va_E) (hI : kI dA τ pv L f) (x bl rl kl ba ra ka fr nb nr nk : Nat) (hW : kW τ pv ad x bl rl kl ba ra ka fr nb nr nk) (n k : Int32) (o : Nat) (hh_o : τ 0 o = 36) (hlt : l.stackTraces = false) : Met l yL_about wsL_about ({ frames := 8, cells := 2, slots := 12, locals := 126 } : Room) (va_Pc [.ref x, .int n, .int k, .ref o] (kB dC dI dA ad sz L f)) (va_Qi (fun r u => kPost dA τ pv ad x ba ra nb nr nb nr u) (kR dC dI dA (va_A (va_pl L f) sz)) (va_A (va_pl L f) sz)) 2 12 (va_A (va_pl L f) sz) := by
  refine va_MetW (cc := cL_about) (maxL := 5) (ret := (some .int)) (by decide) rfl ?_
  intro p e s m args below meth c s₁ B hml hv
  obtain ⟨rfl, hsz, hP, hK, hD0, hE⟩ := hv
  have hx := B.exec
  have hb := B.bytes
  have hr := B.returns
  have hts := atoms_spec (ws := wsL_about) B.pre
  have hown : s.vm.findClass RL = some m.cls := findClass_of_methodNamed B.named
  have hlocks := B.notSynchronized
  have htab : c.exceptionTable.toList = tableOf [(0, 10, 13, 21)] := vx_table (x := yL_about) B (hts _ List.mem_cons_self)
  subst hsz
  have hD := hD0.self (sz := s.heap.size)
  generalize hAe : va_A (va_pl L f) s.heap.size = A at hD hE ⊢
  have hA : ∀ q : Nat, s.heap.size ≤ q → A q := fun q h => by rw [← hAe]; exact Or.inr h
  have hS : va_S A s.heap s.heap [] := va_S.rf
  have hP : va_P (dC, dI) vwCl (va_pl L f) s.heap := hP
  have hK : va_K (dC, dI) vwCl (tyA dA) s := hK
  have hl := lv_entry ([.ref x, .int n, .int k, .ref o]) (n := 5) (Nat.le_of_ble_eq_true rfl)
  rw [lg_entry_eq]
  generalize (lg_sl ([.ref x, .int n, .int k, .ref o]) ++ List.replicate (5 - (lg_sl ([.ref x, .int n, .int k, .ref o])).length) Slot.unset).toArray = ls at hl ⊢
  have hl : lv_has ls 5 [(0, .ref x), (1, .int n), (2, .int k), (3, .ref o)] := hl
  have hW00 := hW
  refine lv_aload_n hx hb dL_about_0 rfl (lv_at hl 3 rfl) ?_
  refine lv_iconst (v := 0) hx hb dL_about_1 (by decide) ?_
  refine lv_aload_n hx hb dL_about_2 rfl (lv_at hl 0 rfl) ?_
  refine lv_iload_n hx hb dL_about_3 rfl (lv_at hl 1 rfl) ?_
  refine lv_iload_n hx hb dL_about_4 rfl (lv_at hl 2 rfl) ?_
  refine kd_xi (vx_runV (As := [.int n, .int k]) (rest := [.int 0, .ref o]) ⟨hx, hb, hml, hown, hts⟩ (k_p_about l dC dI dA ad _ τ pv _ _ hI x bl rl kl ba ra ka fr nb nr nk hW n k hlt) (cwV 2 hts gL_about_X3_about rfl rfl rfl (by decide +kernel) ⟨Nat.le_of_ble_eq_true rfl, Nat.le_of_ble_eq_true rfl⟩) (kd_preV hP hD hK hS hA hE hI hW.tx rfl rfl) rfl rfl hl.1 rfl (lv_room (Nat.le_of_ble_eq_true rfl)) dL_about_5 ⟨Nat.le_of_ble_eq_true rfl, Nat.le_of_ble_eq_true rfl⟩) hD hS hA (fun E ce q9 u_1 H locs hw hP hD hS hce hcv hcl => ?_) (fun r_2 u_1 H locs hw hP hD hS => ?_)
  · obtain ⟨hE9, hI⟩ := hw
    subst hE9
    refine vx_catch (name := "java/lang/IndexOutOfBoundsException") hown [] ⟨0, 10, 13, 21⟩ [] (by rw [htab]; rfl) (fun z hz => by cases hz) (by decide) (by decide) (hts (.classLink RL 21 "java/lang/IndexOutOfBoundsException") (by decide +kernel)) (hE.cast "java/lang/IndexOutOfBoundsException" (by decide +kernel)) hce hcv hcl ?_
    refine W.eq (g2 := F0 m 13 ls [.ref q9]) rfl ?_
    refine lv_astore (lv' := [(4, .ref q9), (0, .ref x), (1, .int n), (2, .int k), (3, .ref o)]) hx hb dL_about_13 hl (by decide) rfl (fun ls hl => ?_)
    refine lv_iconst (v := 1) hx hb dL_about_15 (by decide) ?_
    refine W.widen (k := 2) (n := 12) (Nat.le_of_ble_eq_true rfl) (Nat.le_of_ble_eq_true rfl) ?_
    exact W.iret (v := 1) hx hb hr (fun t ht hW9 => ⟨⟨1, (u_1.1, u_1.2), rfl, ⟨τ, pv, bl, rl, kl, ba, ra, ka, fr, nk, kFr.rf, hW, fun _ _ => rfl, fun _ _ _ => rfl, hI⟩, by rw [ht]; exact hP, va_K.moved hW9.alike hK, hD⟩, hS.F ht⟩) hS.2.2 dL_about_16
  · obtain ⟨τ2, pv2, bl2, rl2, kl2, ba2, ra2, ka2, fr2, nk2, hF9, hW, hB9, hR9, hI⟩ := hw
    refine lv_i2l (v := r_2.toInt64) hx hb dL_about_8 rfl ?_
    refine W.eq (g2 := F0 m 9 ls (.long r_2.toInt64 :: .int (nI 0) :: .ref o :: [])) rfl ?_
    refine kp_last (j := 0) hx hb hK hP hD hS hI (hF9.ty hh_o) (by decide) dL_about_9 (fun f H locs hI hP hD hS => ?_)
    have hB9 := fun i (hi : i < nb) => (hW.eqB (kFr.up (P := kP9) (w := .long r_2.toInt64) (k := 0) (hF9.ty hh_o) rfl) (fun _ => rfl) i (by omega)).trans (hB9 i hi)
    have hR9 := fun i (hi : i < nr) (hi2 : i < nr) => (hW.eqR (kFr.up (P := kP10) (w := .long r_2.toInt64) (k := 0) (hF9.ty hh_o) rfl) (fun _ => rfl) i (by omega)).trans (hR9 i hi hi2)
    have hF9 := hF9.trans (kFr.up (P := kPmC) (w := .long r_2.toInt64) (k := 0) (hF9.ty hh_o) rfl)
    have hW := hW.frw (kFr.up (P := kPw) (w := .long r_2.toInt64) (k := 0) (hF9.ty hh_o) rfl)
    refine lv_goto (tgt := 17) hx hb dL_about_10 (by decide) ?_
    refine lv_iconst (v := 0) hx hb dL_about_17 (by decide) ?_
    refine W.widen (k := 2) (n := 12) (Nat.le_of_ble_eq_true rfl) (Nat.le_of_ble_eq_true rfl) ?_
    exact W.iret (v := 0) hx hb hr (fun t ht hW9 => ⟨⟨0, (u_1.1, f), rfl, ⟨τ2, _, bl2, rl2, kl2, ba2, ra2, ka2, fr2, nk2, hF9, hW, hB9, hR9, hI⟩, by rw [ht]; exact hP, va_K.moved hW9.alike hK, hD⟩, hS.F ht⟩) hS.2.2 dL_about_18
set_option maxHeartbeats 4000000 in
set_option maxRecDepth 100000 in
theorem w_ofRow (l : Launch) (dC : Nat → ClassId) (dI : Nat → Nat → Nat) (dA : Nat → ClassId) (ad sz : Nat) (τ : Nat → Nat → Nat) (pv : Nat → Nat → Value) (L : List Nat) (f : Nat → va_E) (hI : kI dA τ pv L f) (x bl rl kl ba ra ka fr nb nr nk : Nat) (hW : kW τ pv ad x bl rl kl ba ra ka fr nb nr nk) (n k : Int32) (o : Nat) (hh_o : τ 0 o = 37) (hlt : l.stackTraces = false) : Met l yL_ofRow wsL_ofRow ({ frames := 8, cells := 2, slots := 12, locals := 126 } : Room) (va_Pc [.ref x, .int n, .int k, .ref o] (kB dC dI dA ad sz L f)) (va_Qi (fun r u => kPost dA τ pv ad x ba ra nb nr nb nr u) (kR dC dI dA (va_A (va_pl L f) sz)) (va_A (va_pl L f) sz)) 2 12 (va_A (va_pl L f) sz) := by
  refine va_MetW (cc := cL_ofRow) (maxL := 5) (ret := (some .int)) (by decide) rfl ?_
  intro p e s m args below meth c s₁ B hml hv
  obtain ⟨rfl, hsz, hP, hK, hD0, hE⟩ := hv
  have hx := B.exec
  have hb := B.bytes
  have hr := B.returns
  have hts := atoms_spec (ws := wsL_ofRow) B.pre
  have hown : s.vm.findClass RL = some m.cls := findClass_of_methodNamed B.named
  have hlocks := B.notSynchronized
  have htab : c.exceptionTable.toList = tableOf [(0, 10, 13, 21)] := vx_table (x := yL_ofRow) B (hts _ List.mem_cons_self)
  subst hsz
  have hD := hD0.self (sz := s.heap.size)
  generalize hAe : va_A (va_pl L f) s.heap.size = A at hD hE ⊢
  have hA : ∀ q : Nat, s.heap.size ≤ q → A q := fun q h => by rw [← hAe]; exact Or.inr h
  have hS : va_S A s.heap s.heap [] := va_S.rf
  have hP : va_P (dC, dI) vwCl (va_pl L f) s.heap := hP
  have hK : va_K (dC, dI) vwCl (tyA dA) s := hK
  have hl := lv_entry ([.ref x, .int n, .int k, .ref o]) (n := 5) (Nat.le_of_ble_eq_true rfl)
  rw [lg_entry_eq]
  generalize (lg_sl ([.ref x, .int n, .int k, .ref o]) ++ List.replicate (5 - (lg_sl ([.ref x, .int n, .int k, .ref o])).length) Slot.unset).toArray = ls at hl ⊢
  have hl : lv_has ls 5 [(0, .ref x), (1, .int n), (2, .int k), (3, .ref o)] := hl
  have hW00 := hW
  refine lv_aload_n hx hb dL_ofRow_0 rfl (lv_at hl 3 rfl) ?_
  refine lv_iconst (v := 0) hx hb dL_ofRow_1 (by decide) ?_
  refine lv_aload_n hx hb dL_ofRow_2 rfl (lv_at hl 0 rfl) ?_
  refine lv_iload_n hx hb dL_ofRow_3 rfl (lv_at hl 1 rfl) ?_
  refine lv_iload_n hx hb dL_ofRow_4 rfl (lv_at hl 2 rfl) ?_
  refine kd_xf (vx_runV (As := [.int n, .int k]) (rest := [.int 0, .ref o]) ⟨hx, hb, hml, hown, hts⟩ (k_p_ofRow l dC dI dA ad _ τ pv _ _ hI x bl rl kl ba ra ka fr nb nr nk hW n k hlt) (cwV 2 hts gL_ofRow_X3_ofRow rfl rfl rfl (by decide +kernel) ⟨Nat.le_of_ble_eq_true rfl, Nat.le_of_ble_eq_true rfl⟩) (kd_preV hP hD hK hS hA hE hI hW.tx rfl rfl) rfl rfl hl.1 rfl (lv_room (Nat.le_of_ble_eq_true rfl)) dL_ofRow_5 ⟨Nat.le_of_ble_eq_true rfl, Nat.le_of_ble_eq_true rfl⟩) hD hS hA (fun E ce q9 u_1 H locs hw hP hD hS hce hcv hcl => ?_) (fun r_2 u_1 H locs hw hP hD hS => ?_)
  · obtain ⟨hE9, hI⟩ := hw
    subst hE9
    refine vx_catch (name := "java/lang/IndexOutOfBoundsException") hown [] ⟨0, 10, 13, 21⟩ [] (by rw [htab]; rfl) (fun z hz => by cases hz) (by decide) (by decide) (hts (.classLink RL 21 "java/lang/IndexOutOfBoundsException") (by decide +kernel)) (hE.cast "java/lang/IndexOutOfBoundsException" (by decide +kernel)) hce hcv hcl ?_
    refine W.eq (g2 := F0 m 13 ls [.ref q9]) rfl ?_
    refine lv_astore (lv' := [(4, .ref q9), (0, .ref x), (1, .int n), (2, .int k), (3, .ref o)]) hx hb dL_ofRow_13 hl (by decide) rfl (fun ls hl => ?_)
    refine lv_iconst (v := 1) hx hb dL_ofRow_15 (by decide) ?_
    refine W.widen (k := 2) (n := 12) (Nat.le_of_ble_eq_true rfl) (Nat.le_of_ble_eq_true rfl) ?_
    exact W.iret (v := 1) hx hb hr (fun t ht hW9 => ⟨⟨1, (u_1.1, u_1.2), rfl, ⟨τ, pv, bl, rl, kl, ba, ra, ka, fr, nk, kFr.rf, hW, fun _ _ => rfl, fun _ _ _ => rfl, hI⟩, by rw [ht]; exact hP, va_K.moved hW9.alike hK, hD⟩, hS.F ht⟩) hS.2.2 dL_ofRow_16
  · obtain ⟨hr_2, τ2, pv2, bl2, rl2, kl2, ba2, ra2, ka2, fr2, nk2, hF9, hW, hB9, hR9, hI⟩ := hw
    refine lv_f2d hx hb dL_ofRow_8 (fb_f2d hr_2 (by decide)) ?_
    refine W.eq (g2 := F0 m 9 ls (.double (FP.f2d r_2) :: .int (nI 0) :: .ref o :: [])) rfl ?_
    refine kp_dast (j := 0) hx hb hK hP hD hS hI (hF9.ty hh_o) (by decide) dL_ofRow_9 (fun f H locs hI hP hD hS => ?_)
    refine lv_goto (tgt := 17) hx hb dL_ofRow_10 (by decide) ?_
    refine lv_iconst (v := 0) hx hb dL_ofRow_17 (by decide) ?_
    refine W.widen (k := 2) (n := 12) (Nat.le_of_ble_eq_true rfl) (Nat.le_of_ble_eq_true rfl) ?_
    exact W.iret (v := 0) hx hb hr (fun t ht hW9 => ⟨⟨0, (u_1.1, f), rfl, ⟨τ2, _, bl2, rl2, kl2, ba2, ra2, ka2, fr2, nk2, hF9, hW, hB9, hR9, hI⟩, by rw [ht]; exact hP, va_K.moved hW9.alike hK, hD⟩, hS.F ht⟩) hS.2.2 dL_ofRow_18
set_option maxHeartbeats 4000000 in
set_option maxRecDepth 100000 in
theorem w_count (l : Launch) (dC : Nat → ClassId) (dI : Nat → Nat → Nat) (dA : Nat → ClassId) (ad sz : Nat) (τ : Nat → Nat → Nat) (pv : Nat → Nat → Value) (L : List Nat) (f : Nat → va_E) (hI : kI dA τ pv L f) (x bl rl kl ba ra ka fr nb nr nk : Nat) (hW : kW τ pv ad x bl rl kl ba ra ka fr nb nr nk) (n : Int32) (o : Nat) (hh_o : τ 0 o = 36) (hlt : l.stackTraces = false) : Met l yL_count wsL_count ({ frames := 7, cells := 2, slots := 12, locals := 132 } : Room) (va_Pc [.ref x, .int n, .ref o] (kB dC dI dA ad sz L f)) (va_Qi (fun r u => kPost dA τ pv ad x ba ra nb nr nb nr u) (kR dC dI dA (va_A (va_pl L f) sz)) (va_A (va_pl L f) sz)) 2 12 (va_A (va_pl L f) sz) := by
  refine va_MetW (cc := cL_count) (maxL := 4) (ret := (some .int)) (by decide) rfl ?_
  intro p e s m args below meth c s₁ B hml hv
  obtain ⟨rfl, hsz, hP, hK, hD0, hE⟩ := hv
  have hx := B.exec
  have hb := B.bytes
  have hr := B.returns
  have hts := atoms_spec (ws := wsL_count) B.pre
  have hown : s.vm.findClass RL = some m.cls := findClass_of_methodNamed B.named
  have hlocks := B.notSynchronized
  have htab : c.exceptionTable.toList = tableOf [(0, 9, 12, 21)] := vx_table (x := yL_count) B (hts _ List.mem_cons_self)
  subst hsz
  have hD := hD0.self (sz := s.heap.size)
  generalize hAe : va_A (va_pl L f) s.heap.size = A at hD hE ⊢
  have hA : ∀ q : Nat, s.heap.size ≤ q → A q := fun q h => by rw [← hAe]; exact Or.inr h
  have hS : va_S A s.heap s.heap [] := va_S.rf
  have hP : va_P (dC, dI) vwCl (va_pl L f) s.heap := hP
  have hK : va_K (dC, dI) vwCl (tyA dA) s := hK
  have hl := lv_entry ([.ref x, .int n, .ref o]) (n := 4) (Nat.le_of_ble_eq_true rfl)
  rw [lg_entry_eq]
  generalize (lg_sl ([.ref x, .int n, .ref o]) ++ List.replicate (4 - (lg_sl ([.ref x, .int n, .ref o])).length) Slot.unset).toArray = ls at hl ⊢
  have hl : lv_has ls 4 [(0, .ref x), (1, .int n), (2, .ref o)] := hl
  have hW00 := hW
  refine lv_aload_n hx hb dL_count_0 rfl (lv_at hl 2 rfl) ?_
  refine lv_iconst (v := 0) hx hb dL_count_1 (by decide) ?_
  refine lv_aload_n hx hb dL_count_2 rfl (lv_at hl 0 rfl) ?_
  refine lv_iload_n hx hb dL_count_3 rfl (lv_at hl 1 rfl) ?_
  refine kd_xi (vx_runV (As := [.int n]) (rest := [.int 0, .ref o]) ⟨hx, hb, hml, hown, hts⟩ (k_p_count l dC dI dA ad _ τ pv _ _ hI x bl rl kl ba ra ka fr nb nr nk hW n hlt) (cwV 1 hts gL_count_X3_count rfl rfl rfl (by decide +kernel) ⟨Nat.le_of_ble_eq_true rfl, Nat.le_of_ble_eq_true rfl⟩) (kd_preV hP hD hK hS hA hE hI hW.tx rfl rfl) rfl rfl hl.1 rfl (lv_room (Nat.le_of_ble_eq_true rfl)) dL_count_4 ⟨Nat.le_of_ble_eq_true rfl, Nat.le_of_ble_eq_true rfl⟩) hD hS hA (fun E ce q9 u_1 H locs hw hP hD hS hce hcv hcl => ?_) (fun r_2 u_1 H locs hw hP hD hS => ?_)
  · obtain ⟨hE9, hI⟩ := hw
    subst hE9
    refine vx_catch (name := "java/lang/IndexOutOfBoundsException") hown [] ⟨0, 9, 12, 21⟩ [] (by rw [htab]; rfl) (fun z hz => by cases hz) (by decide) (by decide) (hts (.classLink RL 21 "java/lang/IndexOutOfBoundsException") (by decide +kernel)) (hE.cast "java/lang/IndexOutOfBoundsException" (by decide +kernel)) hce hcv hcl ?_
    refine W.eq (g2 := F0 m 12 ls [.ref q9]) rfl ?_
    refine lv_astore_n (lv' := [(3, .ref q9), (0, .ref x), (1, .int n), (2, .ref o)]) hx hb dL_count_12 rfl hl (by decide) rfl (fun ls hl => ?_)
    refine lv_iconst (v := 1) hx hb dL_count_13 (by decide) ?_
    refine W.widen (k := 2) (n := 12) (Nat.le_of_ble_eq_true rfl) (Nat.le_of_ble_eq_true rfl) ?_
    exact W.iret (v := 1) hx hb hr (fun t ht hW9 => ⟨⟨1, (u_1.1, u_1.2), rfl, ⟨τ, pv, bl, rl, kl, ba, ra, ka, fr, nk, kFr.rf, hW, fun _ _ => rfl, fun _ _ _ => rfl, hI⟩, by rw [ht]; exact hP, va_K.moved hW9.alike hK, hD⟩, hS.F ht⟩) hS.2.2 dL_count_14
  · obtain ⟨τ2, pv2, bl2, rl2, kl2, ba2, ra2, ka2, fr2, nk2, hF9, hW, hB9, hR9, hI⟩ := hw
    refine lv_i2l (v := r_2.toInt64) hx hb dL_count_7 rfl ?_
    refine W.eq (g2 := F0 m 8 ls (.long r_2.toInt64 :: .int (nI 0) :: .ref o :: [])) rfl ?_
    refine kp_last (j := 0) hx hb hK hP hD hS hI (hF9.ty hh_o) (by decide) dL_count_8 (fun f H locs hI hP hD hS => ?_)
    have hB9 := fun i (hi : i < nb) => (hW.eqB (kFr.up (P := kP9) (w := .long r_2.toInt64) (k := 0) (hF9.ty hh_o) rfl) (fun _ => rfl) i (by omega)).trans (hB9 i hi)
    have hR9 := fun i (hi : i < nr) (hi2 : i < nr) => (hW.eqR (kFr.up (P := kP10) (w := .long r_2.toInt64) (k := 0) (hF9.ty hh_o) rfl) (fun _ => rfl) i (by omega)).trans (hR9 i hi hi2)
    have hF9 := hF9.trans (kFr.up (P := kPmC) (w := .long r_2.toInt64) (k := 0) (hF9.ty hh_o) rfl)
    have hW := hW.frw (kFr.up (P := kPw) (w := .long r_2.toInt64) (k := 0) (hF9.ty hh_o) rfl)
    refine lv_goto (tgt := 15) hx hb dL_count_9 (by decide) ?_
    refine lv_iconst (v := 0) hx hb dL_count_15 (by decide) ?_
    refine W.widen (k := 2) (n := 12) (Nat.le_of_ble_eq_true rfl) (Nat.le_of_ble_eq_true rfl) ?_
    exact W.iret (v := 0) hx hb hr (fun t ht hW9 => ⟨⟨0, (u_1.1, f), rfl, ⟨τ2, _, bl2, rl2, kl2, ba2, ra2, ka2, fr2, nk2, hF9, hW, hB9, hR9, hI⟩, by rw [ht]; exact hP, va_K.moved hW9.alike hK, hD⟩, hS.F ht⟩) hS.2.2 dL_count_16
