set_option maxHeartbeats 4000000 in
set_option maxRecDepth 100000 in
theorem k_isBodyN (l : Launch) (dC : Nat → ClassId) (dI : Nat → Nat → Nat) (dA : Nat → ClassId) (ad sz : Nat) (τ : Nat → Nat → Nat) (pv : Nat → Nat → Value) (L : List Nat) (f : Nat → va_E) (hI : kI dA τ pv L f) (x bl rl kl ba ra ka fr nb nr nk : Nat) (hW : kW τ pv ad x bl rl kl ba ra ka fr nb nr nk) (n : Nat) (hn : n < nb) : Met l yX3_isBody wsX3_isBody ({ frames := 1, cells := 0, slots := 0, locals := 20 } : Room) (va_Pc [.ref x, .int (nI n)] (kB dC dI dA ad sz L f)) (va_Qi (fun r u => r = 1 ∧ kI dA τ pv u.1 u.2) (kR dC dI dA (va_A (va_pl L f) sz)) (va_A (va_pl L f) sz)) 0 0 (va_A (va_pl L f) sz) := by
  refine Met.ofW (cc := cX3_isBody) (maxL := 2) (ret := (some .boolean)) (by decide) rfl ?_
  intro p e s m args below meth c s₁ B hml hv
  obtain ⟨rfl, hsz, hP, hK, hD0, hE⟩ := hv
  have hx := B.exec
  have hb := B.bytes
  have hr := B.returns
  have hts := atoms_spec (ws := wsX3_isBody) B.pre
  have hown : s.vm.findClass RX3 = some m.cls := findClass_of_methodNamed B.named
  have hlocks := B.notSynchronized
  have i_X3 : ∀ w ∈ u_ws RX3 TX3 16, w ∈ wsX3_isBody := by decide +kernel
  subst hsz
  have hD := hD0.self (sz := s.heap.size)
  generalize hAe : va_A (va_pl L f) s.heap.size = A at hD hE ⊢
  have hA : ∀ q : Nat, s.heap.size ≤ q → A q := fun q h => by rw [← hAe]; exact Or.inr h
  have hS : va_S A s.heap s.heap [] := va_S.rf
  have hP : va_P (dC, dI) vwCl (va_pl L f) s.heap := hP
  have hK : va_K (dC, dI) vwCl (tyA dA) s := hK
  have hl := lv_entry ([.ref x, .int (nI n)]) (n := 2) (Nat.le_of_ble_eq_true rfl)
  rw [lg_entry_eq]
  generalize (lg_sl ([.ref x, .int (nI n)]) ++ List.replicate (2 - (lg_sl ([.ref x, .int (nI n)])).length) Slot.unset).toArray = ls at hl ⊢
  have hl : lv_has ls 2 [(0, .ref x), (1, .int (nI n))] := hl
  have hnb := hW.lnb
  have hnr := hW.lnr
  have hnk := hW.lnk
  refine lv_iload_n hx hb dX3_isBody_0 rfl (lv_at hl 1 rfl) ?_
  refine lv_if_lt (tgt := 19) hx hb dX3_isBody_1 (by decide) (fun h9 => absurd h9 (nI_pos (n := n) (by omega))) (fun _ => ?_)
  refine lv_iload_n hx hb dX3_isBody_4 rfl (lv_at hl 1 rfl) ?_
  refine lv_aload_n hx hb dX3_isBody_5 rfl (lv_at hl 0 rfl) ?_
  refine kp_get hx hb hts i_X3 hown hK hP hI hW.tx rfl rfl 0 (by decide) (by decide) (hts (.fieldLink RX3 10 "IslandSolver" "bodies" "Ljava/util/ArrayList;") (by decide +kernel)) (fun _ h9 => h9) dX3_isBody_6 (kq_P (v0 := .ref bl) rfl hW.p0 fun h_2 => ?_)
  refine kd_calli (va_runV (As := []) (rest := [.int (nI n)]) ⟨hx, hb, hml, hown, hts⟩ (k_size7 l dC dI dA ad _ τ pv _ _ hI bl nb hW.lb.1 hW.lb.2.2.1) (cwV 0 hts gX3_isBody_Jx4a65c_size_8abf5 rfl rfl rfl (by decide +kernel) ⟨Nat.le_of_ble_eq_true rfl, Nat.le_of_ble_eq_true rfl⟩) (kd_preV hP hD hK hS hA hE hI hW.lb.1 rfl rfl) rfl rfl hl.1 rfl (lv_room (Nat.le_of_ble_eq_true rfl)) dX3_isBody_9 ⟨Nat.le_of_ble_eq_true rfl, Nat.le_of_ble_eq_true rfl⟩) hD hS hA (fun r_4 u_3 H locs hw hP hD hS => ?_)
  obtain ⟨rfl, hI⟩ := hw
  refine lv_icmp_ge (tgt := 19) hx hb dX3_isBody_12 (by decide) (fun c_5 => ?_) (fun c_5 => ?_)
  · have n_6 : nb ≤ n := (nI_leI (by omega) (by omega)).mp (show nI nb ≤ nI n from c_5)
    exact absurd hn (by omega)
  · have n_7 : ¬ nb ≤ n := fun h9 => (show ¬ nI nb ≤ nI n from c_5) ((nI_leI (by omega) (by omega)).mpr h9)
    refine lv_iconst (v := 1) hx hb dX3_isBody_15 (by decide) ?_
    refine lv_goto (tgt := 20) hx hb dX3_isBody_16 (by decide) ?_
    refine W.widen (k := 0) (n := 0) (Nat.le_of_ble_eq_true rfl) (Nat.le_of_ble_eq_true rfl) ?_
    exact W.zret (ty := .boolean) (v := 1) hx hb hr rfl (fun t ht hW9 => ⟨⟨1, (u_3.1, u_3.2), rfl, ⟨rfl, hI⟩, by rw [ht]; exact hP, va_K.moved hW9.alike hK, hD⟩, hS.F ht⟩) hS.2.2 dX3_isBody_20
set_option maxHeartbeats 4000000 in
set_option maxRecDepth 100000 in
theorem k_isBody (l : Launch) (dC : Nat → ClassId) (dI : Nat → Nat → Nat) (dA : Nat → ClassId) (ad sz : Nat) (τ : Nat → Nat → Nat) (pv : Nat → Nat → Value) (L : List Nat) (f : Nat → va_E) (hI : kI dA τ pv L f) (x bl rl kl ba ra ka fr nb nr nk : Nat) (hW : kW τ pv ad x bl rl kl ba ra ka fr nb nr nk) (n : Int32) : Met l yX3_isBody wsX3_isBody ({ frames := 1, cells := 0, slots := 0, locals := 20 } : Room) (va_Pc [.ref x, .int n] (kB dC dI dA ad sz L f)) (va_Qi (fun r u => ((r = 1 ∧ ∃ j, j < nb ∧ n = nI j) ∨ (r = 0 ∧ (n < 0 ∨ nI nb ≤ n))) ∧ kI dA τ pv u.1 u.2) (kR dC dI dA (va_A (va_pl L f) sz)) (va_A (va_pl L f) sz)) 0 0 (va_A (va_pl L f) sz) := by
  refine Met.ofW (cc := cX3_isBody) (maxL := 2) (ret := (some .boolean)) (by decide) rfl ?_
  intro p e s m args below meth c s₁ B hml hv
  obtain ⟨rfl, hsz, hP, hK, hD0, hE⟩ := hv
  have hx := B.exec
  have hb := B.bytes
  have hr := B.returns
  have hts := atoms_spec (ws := wsX3_isBody) B.pre
  have hown : s.vm.findClass RX3 = some m.cls := findClass_of_methodNamed B.named
  have hlocks := B.notSynchronized
  have i_X3 : ∀ w ∈ u_ws RX3 TX3 16, w ∈ wsX3_isBody := by decide +kernel
  subst hsz
  have hD := hD0.self (sz := s.heap.size)
  generalize hAe : va_A (va_pl L f) s.heap.size = A at hD hE ⊢
  have hA : ∀ q : Nat, s.heap.size ≤ q → A q := fun q h => by rw [← hAe]; exact Or.inr h
  have hS : va_S A s.heap s.heap [] := va_S.rf
  have hP : va_P (dC, dI) vwCl (va_pl L f) s.heap := hP
  have hK : va_K (dC, dI) vwCl (tyA dA) s := hK
  have hl := lv_entry ([.ref x, .int n]) (n := 2) (Nat.le_of_ble_eq_true rfl)
  rw [lg_entry_eq]
  generalize (lg_sl ([.ref x, .int n]) ++ List.replicate (2 - (lg_sl ([.ref x, .int n])).length) Slot.unset).toArray = ls at hl ⊢
  have hl : lv_has ls 2 [(0, .ref x), (1, .int n)] := hl
  have hnb := hW.lnb
  have hnr := hW.lnr
  have hnk := hW.lnk
  refine lv_iload_n hx hb dX3_isBody_0 rfl (lv_at hl 1 rfl) ?_
  refine lv_if_lt (tgt := 19) hx hb dX3_isBody_1 (by decide) (fun c_1 => ?_) (fun c_1 => ?_)
  · refine lv_iconst (v := 0) hx hb dX3_isBody_19 (by decide) ?_
    refine W.widen (k := 0) (n := 0) (Nat.le_of_ble_eq_true rfl) (Nat.le_of_ble_eq_true rfl) ?_
    exact W.zret (ty := .boolean) (v := 0) hx hb hr rfl (fun t ht hW9 => ⟨⟨0, (L, f), rfl, ⟨Or.inr ⟨rfl, Or.inl c_1⟩, hI⟩, by rw [ht]; exact hP, va_K.moved hW9.alike hK, hD⟩, hS.F ht⟩) hS.2.2 dX3_isBody_20
  · refine lv_iload_n hx hb dX3_isBody_4 rfl (lv_at hl 1 rfl) ?_
    refine lv_aload_n hx hb dX3_isBody_5 rfl (lv_at hl 0 rfl) ?_
    refine kp_get hx hb hts i_X3 hown hK hP hI hW.tx rfl rfl 0 (by decide) (by decide) (hts (.fieldLink RX3 10 "IslandSolver" "bodies" "Ljava/util/ArrayList;") (by decide +kernel)) (fun _ h9 => h9) dX3_isBody_6 (kq_P (v0 := .ref bl) rfl hW.p0 fun h_3 => ?_)
    refine kd_calli (va_runV (As := []) (rest := [.int n]) ⟨hx, hb, hml, hown, hts⟩ (k_size7 l dC dI dA ad _ τ pv _ _ hI bl nb hW.lb.1 hW.lb.2.2.1) (cwV 0 hts gX3_isBody_Jx4a65c_size_8abf5 rfl rfl rfl (by decide +kernel) ⟨Nat.le_of_ble_eq_true rfl, Nat.le_of_ble_eq_true rfl⟩) (kd_preV hP hD hK hS hA hE hI hW.lb.1 rfl rfl) rfl rfl hl.1 rfl (lv_room (Nat.le_of_ble_eq_true rfl)) dX3_isBody_9 ⟨Nat.le_of_ble_eq_true rfl, Nat.le_of_ble_eq_true rfl⟩) hD hS hA (fun r_5 u_4 H locs hw hP hD hS => ?_)
    obtain ⟨rfl, hI⟩ := hw
    refine lv_icmp_ge (tgt := 19) hx hb dX3_isBody_12 (by decide) (fun c_6 => ?_) (fun c_6 => ?_)
    · refine lv_iconst (v := 0) hx hb dX3_isBody_19 (by decide) ?_
      refine W.widen (k := 0) (n := 0) (Nat.le_of_ble_eq_true rfl) (Nat.le_of_ble_eq_true rfl) ?_
      exact W.zret (ty := .boolean) (v := 0) hx hb hr rfl (fun t ht hW9 => ⟨⟨0, (u_4.1, u_4.2), rfl, ⟨Or.inr ⟨rfl, Or.inr c_6⟩, hI⟩, by rw [ht]; exact hP, va_K.moved hW9.alike hK, hD⟩, hS.F ht⟩) hS.2.2 dX3_isBody_20
    · refine lv_iconst (v := 1) hx hb dX3_isBody_15 (by decide) ?_
      refine lv_goto (tgt := 20) hx hb dX3_isBody_16 (by decide) ?_
      refine W.widen (k := 0) (n := 0) (Nat.le_of_ble_eq_true rfl) (Nat.le_of_ble_eq_true rfl) ?_
      exact W.zret (ty := .boolean) (v := 1) hx hb hr rfl (fun t ht hW9 => ⟨⟨1, (u_4.1, u_4.2), rfl, ⟨Or.inl ⟨rfl, kz_is c_1 c_6 (by omega)⟩, hI⟩, by rw [ht]; exact hP, va_K.moved hW9.alike hK, hD⟩, hS.F ht⟩) hS.2.2 dX3_isBody_20
set_option maxHeartbeats 4000000 in
set_option maxRecDepth 100000 in
theorem k_bodyAtN (l : Launch) (dC : Nat → ClassId) (dI : Nat → Nat → Nat) (dA : Nat → ClassId) (ad sz : Nat) (τ : Nat → Nat → Nat) (pv : Nat → Nat → Value) (L : List Nat) (f : Nat → va_E) (hI : kI dA τ pv L f) (x bl rl kl ba ra ka fr nb nr nk : Nat) (hW : kW τ pv ad x bl rl kl ba ra ka fr nb nr nk) (n : Nat) (hn : n < nb) : Met l yX3_bodyAt wsX3_bodyAt ({ frames := 3, cells := 0, slots := 0, locals := 64 } : Room) (va_Pc [.ref x, .int (nI n)] (kB dC dI dA ad sz L f)) (va_Qq (fun r u => ∃ q, r = some q ∧ pv ba n = .ref q ∧ τ 0 q = 1 ∧ τ 1 q = n ∧ kI dA τ pv u.1 u.2) (kR dC dI dA (va_A (va_pl L f) sz)) (va_A (va_pl L f) sz)) 0 0 (va_A (va_pl L f) sz) := by
  refine Met.ofW (cc := cX3_bodyAt) (maxL := 2) (ret := (some (.object "IslandSolver$Body"))) (by decide) rfl ?_
  intro p e s m args below meth c s₁ B hml hv
  obtain ⟨rfl, hsz, hP, hK, hD0, hE⟩ := hv
  have hx := B.exec
  have hb := B.bytes
  have hr := B.returns
  have hts := atoms_spec (ws := wsX3_bodyAt) B.pre
  have hown : s.vm.findClass RX3 = some m.cls := findClass_of_methodNamed B.named
  have hlocks := B.notSynchronized
  have i_X3 : ∀ w ∈ u_ws RX3 TX3 16, w ∈ wsX3_bodyAt := by decide +kernel
  subst hsz
  have hD := hD0.self (sz := s.heap.size)
  generalize hAe : va_A (va_pl L f) s.heap.size = A at hD hE ⊢
  have hA : ∀ q : Nat, s.heap.size ≤ q → A q := fun q h => by rw [← hAe]; exact Or.inr h
  have hS : va_S A s.heap s.heap [] := va_S.rf
  have hP : va_P (dC, dI) vwCl (va_pl L f) s.heap := hP
  have hK : va_K (dC, dI) vwCl (tyA dA) s := hK
  have hl := lv_entry ([.ref x, .int (nI n)]) (n := 2) (Nat.le_of_ble_eq_true rfl)
  rw [lg_entry_eq]
  generalize (lg_sl ([.ref x, .int (nI n)]) ++ List.replicate (2 - (lg_sl ([.ref x, .int (nI n)])).length) Slot.unset).toArray = ls at hl ⊢
  have hl : lv_has ls 2 [(0, .ref x), (1, .int (nI n))] := hl
  have hnb := hW.lnb
  have hnr := hW.lnr
  have hnk := hW.lnk
  refine lv_aload_n hx hb dX3_bodyAt_0 rfl (lv_at hl 0 rfl) ?_
  refine lv_iload_n hx hb dX3_bodyAt_1 rfl (lv_at hl 1 rfl) ?_
  refine kd_calli (va_runV (As := [.int (nI n)]) (rest := []) ⟨hx, hb, hml, hown, hts⟩ (k_isBodyN l dC dI dA ad _ τ pv _ _ hI x bl rl kl ba ra ka fr nb nr nk hW n (by omega)) (cwV 1 hts gX3_bodyAt_X3_isBody rfl rfl rfl (by decide +kernel) ⟨Nat.le_of_ble_eq_true rfl, Nat.le_of_ble_eq_true rfl⟩) (kd_preV hP hD hK hS hA hE hI hW.tx rfl rfl) rfl rfl hl.1 rfl (lv_room (Nat.le_of_ble_eq_true rfl)) dX3_bodyAt_2 ⟨Nat.le_of_ble_eq_true rfl, Nat.le_of_ble_eq_true rfl⟩) hD hS hA (fun r_2 u_1 H locs hw hP hD hS => ?_)
  obtain ⟨rfl, hI⟩ := hw
  refine lv_if_ne (tgt := 19) hx hb dX3_bodyAt_5 (by decide) (fun _ => ?_) (fun h9 => by first | exact absurd h9 (by decide) | exact absurd (by decide) h9)
  refine lv_aload_n hx hb dX3_bodyAt_19 rfl (lv_at hl 0 rfl) ?_
  refine kp_get hx hb hts i_X3 hown hK hP hI hW.tx rfl rfl 0 (by decide) (by decide) (hts (.fieldLink RX3 10 "IslandSolver" "bodies" "Ljava/util/ArrayList;") (by decide +kernel)) (fun _ h9 => h9) dX3_bodyAt_20 (kq_P (v0 := .ref bl) rfl hW.p0 fun h_4 => ?_)
  refine lv_iload_n hx hb dX3_bodyAt_23 rfl (lv_at hl 1 rfl) ?_
  obtain ⟨q_5, g_6, g_7, g_8, g_9⟩ := hW.lb.at (i := n) (by omega)
  have g_10 := hW.xb (i := n) (by omega) g_8
  refine kd_callq (va_runV (As := [.int (nI n)]) (rest := []) ⟨hx, hb, hml, hown, hts⟩ (k_get7 l dC dI dA ad _ τ pv _ _ hI bl ba nb n q_5 hW.lb.1 hW.lb.2.1 hW.lb.2.2.1 g_6 g_7 (by omega) (by omega) g_8) (cwV 1 hts gX3_bodyAt_Jx4a65c_get_915e3 rfl rfl rfl (by decide +kernel) ⟨Nat.le_of_ble_eq_true rfl, Nat.le_of_ble_eq_true rfl⟩) (kd_preV hP hD hK hS hA hE hI hW.lb.1 rfl rfl) rfl rfl hl.1 rfl (lv_room (Nat.le_of_ble_eq_true rfl)) dX3_bodyAt_24 ⟨Nat.le_of_ble_eq_true rfl, Nat.le_of_ble_eq_true rfl⟩) hD hS hA (fun r_12 u_11 H locs hw hP hD hS => ?_)
  obtain ⟨rfl, hI⟩ := hw
  refine W.eq (g2 := F0 m 27 ls [.ref q_5]) rfl ?_
  refine va_castY hx hb hown (hts (.classLink RX3 94 "IslandSolver$Body") (by decide +kernel)) (kz_cast (hE.cast2 "IslandSolver$Body" "IslandSolver$Body" (by decide +kernel))) (kd_recv hK hP hI g_9 rfl rfl) dX3_bodyAt_27 ?_
  refine W.widen (k := 0) (n := 0) (Nat.le_of_ble_eq_true rfl) (Nat.le_of_ble_eq_true rfl) ?_
  exact W.aret (v := .ref q_5) hx hb hr (Or.inl ⟨_, rfl⟩) (Or.inr ⟨_, rfl⟩) (fun t ht hW9 => ⟨⟨(some q_5), (u_11.1, u_11.2), rfl, ⟨q_5, rfl, g_8, g_9, g_10, hI⟩, by rw [ht]; exact hP, va_K.moved hW9.alike hK, hD⟩, hS.F ht⟩) hS.2.2 dX3_bodyAt_30
set_option maxHeartbeats 4000000 in
set_option maxRecDepth 100000 in
theorem k_bodyAt (l : Launch) (dC : Nat → ClassId) (dI : Nat → Nat → Nat) (dA : Nat → ClassId) (ad sz : Nat) (τ : Nat → Nat → Nat) (pv : Nat → Nat → Value) (L : List Nat) (f : Nat → va_E) (hI : kI dA τ pv L f) (x bl rl kl ba ra ka fr nb nr nk : Nat) (hW : kW τ pv ad x bl rl kl ba ra ka fr nb nr nk) (n : Int32) (hlt : l.stackTraces = false) : vx_Met l yX3_bodyAt wsX3_bodyAt ({ frames := 6, cells := 1, slots := 6, locals := 82 } : Room) (va_Pc [.ref x, .int n] (kB dC dI dA ad sz L f)) (va_Qq (fun r u => ∃ j, j < nb ∧ n = nI j ∧ ∃ q, r = some q ∧ pv ba j = .ref q ∧ τ 0 q = 1 ∧ τ 1 q = j ∧ kI dA τ pv u.1 u.2) (kR dC dI dA (va_A (va_pl L f) sz)) (va_A (va_pl L f) sz)) (kX dC dI (fun E u => (E = "java/lang/IndexOutOfBoundsException" ∧ kKn n nb = false) ∧ kI dA τ pv u.1 u.2) (va_A (va_pl L f) sz)) 1 6 (va_A (va_pl L f) sz) := by
  refine vx_ofW (cc := cX3_bodyAt) (maxL := 2) (ret := (some (.object "IslandSolver$Body"))) (by decide) rfl ?_
  intro p e s m args below meth c s₁ B hml ht hv
  obtain ⟨rfl, hsz, hP, hK, hD0, hE⟩ := hv
  have hx := B.exec
  have hb := B.bytes
  have hr := B.returns
  have hts := atoms_spec (ws := wsX3_bodyAt) B.pre
  have hown : s.vm.findClass RX3 = some m.cls := findClass_of_methodNamed B.named
  have hlocks := B.notSynchronized
  have i_X3 : ∀ w ∈ u_ws RX3 TX3 16, w ∈ wsX3_bodyAt := by decide +kernel
  have a_148 : ∀ w ∈ (vx_atS RX3 148 "java/lang/IndexOutOfBoundsException" ["java/lang/RuntimeException", "java/lang/Exception"]).filter goodWord, w ∈ wsX3_bodyAt := fun _ h => List.mem_cons_of_mem _ (List.mem_append_right _ h)
  subst hsz
  have hD := hD0.self (sz := s.heap.size)
  generalize hAe : va_A (va_pl L f) s.heap.size = A at hD hE ⊢
  have hA : ∀ q : Nat, s.heap.size ≤ q → A q := fun q h => by rw [← hAe]; exact Or.inr h
  have hS : va_S A s.heap s.heap [] := va_S.rf
  have hP : va_P (dC, dI) vwCl (va_pl L f) s.heap := hP
  have hK : va_K (dC, dI) vwCl (tyA dA) s := hK
  have hl := lv_entry ([.ref x, .int n]) (n := 2) (Nat.le_of_ble_eq_true rfl)
  rw [lg_entry_eq]
  generalize (lg_sl ([.ref x, .int n]) ++ List.replicate (2 - (lg_sl ([.ref x, .int n])).length) Slot.unset).toArray = ls at hl ⊢
  have hl : lv_has ls 2 [(0, .ref x), (1, .int n)] := hl
  have hnb := hW.lnb
  have hnr := hW.lnr
  have hnk := hW.lnk
  refine lv_aload_n hx hb dX3_bodyAt_0 rfl (lv_at hl 0 rfl) ?_
  refine lv_iload_n hx hb dX3_bodyAt_1 rfl (lv_at hl 1 rfl) ?_
  refine kd_calli (va_runV (As := [.int n]) (rest := []) ⟨hx, hb, hml, hown, hts⟩ (k_isBody l dC dI dA ad _ τ pv _ _ hI x bl rl kl ba ra ka fr nb nr nk hW n) (cwV 1 hts gX3_bodyAt_X3_isBody rfl rfl rfl (by decide +kernel) ⟨Nat.le_of_ble_eq_true rfl, Nat.le_of_ble_eq_true rfl⟩) (kd_preV hP hD hK hS hA hE hI hW.tx rfl rfl) rfl rfl hl.1 rfl (lv_room (Nat.le_of_ble_eq_true rfl)) dX3_bodyAt_2 ⟨Nat.le_of_ble_eq_true rfl, Nat.le_of_ble_eq_true rfl⟩) hD hS hA (fun r_2 u_1 H locs hw hP hD hS => ?_)
  obtain ⟨⟨rfl, ⟨j_3, hj_3, rfl⟩⟩ | ⟨rfl, h_4⟩, hI⟩ := hw
  · refine lv_if_ne (tgt := 19) hx hb dX3_bodyAt_5 (by decide) (fun _ => ?_) (fun h9 => by first | exact absurd h9 (by decide) | exact absurd (by decide) h9)
    refine lv_aload_n hx hb dX3_bodyAt_19 rfl (lv_at hl 0 rfl) ?_
    refine kp_get hx hb hts i_X3 hown hK hP hI hW.tx rfl rfl 0 (by decide) (by decide) (hts (.fieldLink RX3 10 "IslandSolver" "bodies" "Ljava/util/ArrayList;") (by decide +kernel)) (fun _ h9 => h9) dX3_bodyAt_20 (kq_P (v0 := .ref bl) rfl hW.p0 fun h_6 => ?_)
    refine lv_iload_n hx hb dX3_bodyAt_23 rfl (lv_at hl 1 rfl) ?_
    obtain ⟨q_7, g_8, g_9, g_10, g_11⟩ := hW.lb.at (i := j_3) (by omega)
    have g_12 := hW.xb (i := j_3) (by omega) g_10
    refine kd_callq (va_runV (As := [.int (nI j_3)]) (rest := []) ⟨hx, hb, hml, hown, hts⟩ (k_get7 l dC dI dA ad _ τ pv _ _ hI bl ba nb j_3 q_7 hW.lb.1 hW.lb.2.1 hW.lb.2.2.1 g_8 g_9 (by omega) (by omega) g_10) (cwV 1 hts gX3_bodyAt_Jx4a65c_get_915e3 rfl rfl rfl (by decide +kernel) ⟨Nat.le_of_ble_eq_true rfl, Nat.le_of_ble_eq_true rfl⟩) (kd_preV hP hD hK hS hA hE hI hW.lb.1 rfl rfl) rfl rfl hl.1 rfl (lv_room (Nat.le_of_ble_eq_true rfl)) dX3_bodyAt_24 ⟨Nat.le_of_ble_eq_true rfl, Nat.le_of_ble_eq_true rfl⟩) hD hS hA (fun r_14 u_13 H locs hw hP hD hS => ?_)
    obtain ⟨rfl, hI⟩ := hw
    refine W.eq (g2 := F0 m 27 ls [.ref q_7]) rfl ?_
    refine va_castY hx hb hown (hts (.classLink RX3 94 "IslandSolver$Body") (by decide +kernel)) (kz_cast (hE.cast2 "IslandSolver$Body" "IslandSolver$Body" (by decide +kernel))) (kd_recv hK hP hI g_11 rfl rfl) dX3_bodyAt_27 ?_
    refine vx_ret ?_
    refine W.widen (k := 1) (n := 6) (Nat.le_of_ble_eq_true rfl) (Nat.le_of_ble_eq_true rfl) ?_
    exact W.aret (v := .ref q_7) hx hb hr (Or.inl ⟨_, rfl⟩) (Or.inr ⟨_, rfl⟩) (fun t ht hW9 => ⟨⟨(some q_7), (u_13.1, u_13.2), rfl, ⟨j_3, by omega, rfl, q_7, rfl, g_10, g_11, g_12, hI⟩, by rw [ht]; exact hP, va_K.moved hW9.alike hK, hD⟩, hS.F ht⟩) hS.2.2 dX3_bodyAt_30
  · refine lv_if_ne (tgt := 19) hx hb dX3_bodyAt_5 (by decide) (fun h9 => by first | exact absurd h9 (by decide) | exact absurd (by decide) h9) (fun _ => ?_)
    obtain ⟨sa_15, hsa_15⟩ := hE.str 307 "there is no such body" (by decide +kernel)
    have hat : ∀ w ∈ (vx_atS RX3 148 "java/lang/IndexOutOfBoundsException" ["java/lang/RuntimeException", "java/lang/Exception"]), w.before _ s = true := vx_hat (B := kx_non "java/lang/IndexOutOfBoundsException") (fun w h => hts w (a_148 w h)) (by decide +kernel) (hE.non "java/lang/IndexOutOfBoundsException" (by decide +kernel))
    refine W.widen (k := 0) (n := 0) (Nat.le_of_ble_eq_true rfl) (Nat.le_of_ble_eq_true rfl) ?_
    exact vx_throwSW (A := A) (rest := []) hx hb hlt hown (by decide +kernel) (by decide +kernel) (hts (.classLink RX3 144 "java/lang/IndexOutOfBoundsException") (by decide +kernel)) (hts (.initialized "java/lang/IndexOutOfBoundsException") (by decide +kernel)) hsa_15 hat (by decide +kernel) hE.2.2.2.2.2.2.1 hE.2.2.2.2.2.2.2.1 hS (hl.1.trans hml.symm) dX3_bodyAt_8 dX3_bodyAt_11 dX3_bodyAt_12 dX3_bodyAt_15 dX3_bodyAt_18 (fun x h => (ht x h).elim) (Nat.le_of_ble_eq_true rfl) (Nat.le_of_ble_eq_true rfl) (Nat.le_of_ble_eq_true rfl) (Nat.le_of_ble_eq_true rfl) hlocks (fun t hvm hz hk => ⟨(u_1.1, u_1.2), trivial, ⟨⟨⟨rfl, kKn_f h_4⟩, hI⟩, hP.kept (fun k q hq => hk q.1 (hP k q hq).lt), hD⟩, Nat.le_trans hS.1 hz, fun q h1 h2 => (hk q (Nat.lt_of_lt_of_le h1 hS.1)).trans (hS.2.1 q h1 h2)⟩) hS.2.2 (Nat.le_of_ble_eq_true rfl) (Nat.le_of_ble_eq_true rfl)
set_option maxHeartbeats 4000000 in
set_option maxRecDepth 100000 in
theorem k_otherM (l : Launch) (dC : Nat → ClassId) (dI : Nat → Nat → Nat) (dA : Nat → ClassId) (ad sz : Nat) (τ : Nat → Nat → Nat) (pv : Nat → Nat → Value) (L : List Nat) (f : Nat → va_E) (hI : kI dA τ pv L f) (x bl rl kl ba ra ka fr nb nr nk : Nat) (hW : kW τ pv ad x bl rl kl ba ra ka fr nb nr nk)  : Met l yX3_otherBody wsX3_otherBody ({ frames := 0, cells := 0, slots := 0, locals := 0 } : Room) (va_Pc [.ref x, .int (-1)] (kB dC dI dA ad sz L f)) (va_Qq (fun r u => r = none ∧ kI dA τ pv u.1 u.2) (kR dC dI dA (va_A (va_pl L f) sz)) (va_A (va_pl L f) sz)) 0 0 (va_A (va_pl L f) sz) := by
  refine Met.ofW (cc := cX3_otherBody) (maxL := 2) (ret := (some (.object "IslandSolver$Body"))) (by decide) rfl ?_
  intro p e s m args below meth c s₁ B hml hv
  obtain ⟨rfl, hsz, hP, hK, hD0, hE⟩ := hv
  have hx := B.exec
  have hb := B.bytes
  have hr := B.returns
  have hts := atoms_spec (ws := wsX3_otherBody) B.pre
  have hown : s.vm.findClass RX3 = some m.cls := findClass_of_methodNamed B.named
  have hlocks := B.notSynchronized
  subst hsz
  have hD := hD0.self (sz := s.heap.size)
  generalize hAe : va_A (va_pl L f) s.heap.size = A at hD hE ⊢
  have hA : ∀ q : Nat, s.heap.size ≤ q → A q := fun q h => by rw [← hAe]; exact Or.inr h
  have hS : va_S A s.heap s.heap [] := va_S.rf
  have hP : va_P (dC, dI) vwCl (va_pl L f) s.heap := hP
  have hK : va_K (dC, dI) vwCl (tyA dA) s := hK
  have hl := lv_entry ([.ref x, .int (-1)]) (n := 2) (Nat.le_of_ble_eq_true rfl)
  rw [lg_entry_eq]
  generalize (lg_sl ([.ref x, .int (-1)]) ++ List.replicate (2 - (lg_sl ([.ref x, .int (-1)])).length) Slot.unset).toArray = ls at hl ⊢
  have hl : lv_has ls 2 [(0, .ref x), (1, .int (-1))] := hl
  have hnb := hW.lnb
  have hnr := hW.lnr
  have hnk := hW.lnk
  refine lv_iload_n hx hb dX3_otherBody_0 rfl (lv_at hl 1 rfl) ?_
  refine lv_iconst (v := (-1)) hx hb dX3_otherBody_1 (by decide) ?_
  refine lv_icmp_ne (tgt := 9) hx hb dX3_otherBody_2 (by decide) (fun h9 => by first | exact absurd h9 (by decide) | exact absurd (by decide) h9) (fun _ => ?_)
  refine lv_null hx hb dX3_otherBody_5 ?_
  refine lv_goto (tgt := 14) hx hb dX3_otherBody_6 (by decide) ?_
  refine W.widen (k := 0) (n := 0) (Nat.le_of_ble_eq_true rfl) (Nat.le_of_ble_eq_true rfl) ?_
  exact W.aret (v := .null) hx hb hr (Or.inl ⟨_, rfl⟩) (Or.inl rfl) (fun t ht hW9 => ⟨⟨none, (L, f), rfl, ⟨rfl, hI⟩, by rw [ht]; exact hP, va_K.moved hW9.alike hK, hD⟩, hS.F ht⟩) hS.2.2 dX3_otherBody_14
set_option maxHeartbeats 4000000 in
set_option maxRecDepth 100000 in
theorem k_otherN (l : Launch) (dC : Nat → ClassId) (dI : Nat → Nat → Nat) (dA : Nat → ClassId) (ad sz : Nat) (τ : Nat → Nat → Nat) (pv : Nat → Nat → Value) (L : List Nat) (f : Nat → va_E) (hI : kI dA τ pv L f) (x bl rl kl ba ra ka fr nb nr nk : Nat) (hW : kW τ pv ad x bl rl kl ba ra ka fr nb nr nk) (n : Nat) (hn : n < nb) : Met l yX3_otherBody wsX3_otherBody ({ frames := 4, cells := 0, slots := 0, locals := 85 } : Room) (va_Pc [.ref x, .int (nI n)] (kB dC dI dA ad sz L f)) (va_Qq (fun r u => ∃ q, r = some q ∧ pv ba n = .ref q ∧ τ 0 q = 1 ∧ τ 1 q = n ∧ kI dA τ pv u.1 u.2) (kR dC dI dA (va_A (va_pl L f) sz)) (va_A (va_pl L f) sz)) 0 0 (va_A (va_pl L f) sz) := by
  refine Met.ofW (cc := cX3_otherBody) (maxL := 2) (ret := (some (.object "IslandSolver$Body"))) (by decide) rfl ?_
  intro p e s m args below meth c s₁ B hml hv
  obtain ⟨rfl, hsz, hP, hK, hD0, hE⟩ := hv
  have hx := B.exec
  have hb := B.bytes
  have hr := B.returns
  have hts := atoms_spec (ws := wsX3_otherBody) B.pre
  have hown : s.vm.findClass RX3 = some m.cls := findClass_of_methodNamed B.named
  have hlocks := B.notSynchronized
  subst hsz
  have hD := hD0.self (sz := s.heap.size)
  generalize hAe : va_A (va_pl L f) s.heap.size = A at hD hE ⊢
  have hA : ∀ q : Nat, s.heap.size ≤ q → A q := fun q h => by rw [← hAe]; exact Or.inr h
  have hS : va_S A s.heap s.heap [] := va_S.rf
  have hP : va_P (dC, dI) vwCl (va_pl L f) s.heap := hP
  have hK : va_K (dC, dI) vwCl (tyA dA) s := hK
  have hl := lv_entry ([.ref x, .int (nI n)]) (n := 2) (Nat.le_of_ble_eq_true rfl)
  rw [lg_entry_eq]
  generalize (lg_sl ([.ref x, .int (nI n)]) ++ List.replicate (2 - (lg_sl ([.ref x, .int (nI n)])).length) Slot.unset).toArray = ls at hl ⊢
  have hl : lv_has ls 2 [(0, .ref x), (1, .int (nI n))] := hl
  have hnb := hW.lnb
  have hnr := hW.lnr
  have hnk := hW.lnk
  refine lv_iload_n hx hb dX3_otherBody_0 rfl (lv_at hl 1 rfl) ?_
  refine lv_iconst (v := (-1)) hx hb dX3_otherBody_1 (by decide) ?_
  refine lv_icmp_ne (tgt := 9) hx hb dX3_otherBody_2 (by decide) (fun c_1 => ?_) (fun c_1 => ?_)
  · refine lv_aload_n hx hb dX3_otherBody_9 rfl (lv_at hl 0 rfl) ?_
    refine lv_iload_n hx hb dX3_otherBody_10 rfl (lv_at hl 1 rfl) ?_
    refine kd_callq (va_runV (As := [.int (nI n)]) (rest := []) ⟨hx, hb, hml, hown, hts⟩ (k_bodyAtN l dC dI dA ad _ τ pv _ _ hI x bl rl kl ba ra ka fr nb nr nk hW n (by omega)) (cwV 1 hts gX3_otherBody_X3_bodyAt rfl rfl rfl (by decide +kernel) ⟨Nat.le_of_ble_eq_true rfl, Nat.le_of_ble_eq_true rfl⟩) (kd_preV hP hD hK hS hA hE hI hW.tx rfl rfl) rfl rfl hl.1 rfl (lv_room (Nat.le_of_ble_eq_true rfl)) dX3_otherBody_11 ⟨Nat.le_of_ble_eq_true rfl, Nat.le_of_ble_eq_true rfl⟩) hD hS hA (fun r_3 u_2 H locs hw hP hD hS => ?_)
    obtain ⟨q_4, rfl, pq_4, tq_4, nq_4, hI⟩ := hw
    refine W.eq (g2 := F0 m 14 ls [.ref q_4]) rfl ?_
    refine W.widen (k := 0) (n := 0) (Nat.le_of_ble_eq_true rfl) (Nat.le_of_ble_eq_true rfl) ?_
    exact W.aret (v := .ref q_4) hx hb hr (Or.inl ⟨_, rfl⟩) (Or.inr ⟨_, rfl⟩) (fun t ht hW9 => ⟨⟨(some q_4), (u_2.1, u_2.2), rfl, ⟨q_4, rfl, pq_4, tq_4, nq_4, hI⟩, by rw [ht]; exact hP, va_K.moved hW9.alike hK, hD⟩, hS.F ht⟩) hS.2.2 dX3_otherBody_14
  · exact absurd c_1 (fun h9 => nI_pos (n := n) (by omega) (by rw [h9]; decide))
set_option maxHeartbeats 4000000 in
set_option maxRecDepth 100000 in
theorem k_rowAt (l : Launch) (dC : Nat → ClassId) (dI : Nat → Nat → Nat) (dA : Nat → ClassId) (ad sz : Nat) (τ : Nat → Nat → Nat) (pv : Nat → Nat → Value) (L : List Nat) (f : Nat → va_E) (hI : kI dA τ pv L f) (x bl rl kl ba ra ka fr nb nr nk : Nat) (hW : kW τ pv ad x bl rl kl ba ra ka fr nb nr nk) (n : Int32) (hlt : l.stackTraces = false) : vx_Met l yX3_rowAt wsX3_rowAt ({ frames := 6, cells := 1, slots := 6, locals := 82 } : Room) (va_Pc [.ref x, .int n] (kB dC dI dA ad sz L f)) (va_Qq (fun r u => ∃ j, j < nr ∧ n = nI j ∧ ∃ q, r = some q ∧ pv ra j = .ref q ∧ τ 0 q = 2 ∧ τ 1 q = j ∧ kI dA τ pv u.1 u.2) (kR dC dI dA (va_A (va_pl L f) sz)) (va_A (va_pl L f) sz)) (kX dC dI (fun E u => (E = "java/lang/IndexOutOfBoundsException" ∧ kKn n nr = false) ∧ kI dA τ pv u.1 u.2) (va_A (va_pl L f) sz)) 1 6 (va_A (va_pl L f) sz) := by
  refine vx_ofW (cc := cX3_rowAt) (maxL := 2) (ret := (some (.object "IslandSolver$Row"))) (by decide) rfl ?_
  intro p e s m args below meth c s₁ B hml ht hv
  obtain ⟨rfl, hsz, hP, hK, hD0, hE⟩ := hv
  have hx := B.exec
  have hb := B.bytes
  have hr := B.returns
  have hts := atoms_spec (ws := wsX3_rowAt) B.pre
  have hown : s.vm.findClass RX3 = some m.cls := findClass_of_methodNamed B.named
  have hlocks := B.notSynchronized
  have a_148 : ∀ w ∈ (vx_atS RX3 148 "java/lang/IndexOutOfBoundsException" ["java/lang/RuntimeException", "java/lang/Exception"]).filter goodWord, w ∈ wsX3_rowAt := fun _ h => List.mem_cons_of_mem _ (List.mem_append_right _ h)
  have i_X3 : ∀ w ∈ u_ws RX3 TX3 16, w ∈ wsX3_rowAt := by decide +kernel
  subst hsz
  have hD := hD0.self (sz := s.heap.size)
  generalize hAe : va_A (va_pl L f) s.heap.size = A at hD hE ⊢
  have hA : ∀ q : Nat, s.heap.size ≤ q → A q := fun q h => by rw [← hAe]; exact Or.inr h
  have hS : va_S A s.heap s.heap [] := va_S.rf
  have hP : va_P (dC, dI) vwCl (va_pl L f) s.heap := hP
  have hK : va_K (dC, dI) vwCl (tyA dA) s := hK
  have hl := lv_entry ([.ref x, .int n]) (n := 2) (Nat.le_of_ble_eq_true rfl)
  rw [lg_entry_eq]
  generalize (lg_sl ([.ref x, .int n]) ++ List.replicate (2 - (lg_sl ([.ref x, .int n])).length) Slot.unset).toArray = ls at hl ⊢
  have hl : lv_has ls 2 [(0, .ref x), (1, .int n)] := hl
  have hnb := hW.lnb
  have hnr := hW.lnr
  have hnk := hW.lnk
  refine lv_iload_n hx hb dX3_rowAt_0 rfl (lv_at hl 1 rfl) ?_
  refine lv_if_lt (tgt := 15) hx hb dX3_rowAt_1 (by decide) (fun c_1 => ?_) (fun c_1 => ?_)
  · obtain ⟨sa_2, hsa_2⟩ := hE.str 309 "there is no such row" (by decide +kernel)
    have hat : ∀ w ∈ (vx_atS RX3 148 "java/lang/IndexOutOfBoundsException" ["java/lang/RuntimeException", "java/lang/Exception"]), w.before _ s = true := vx_hat (B := kx_non "java/lang/IndexOutOfBoundsException") (fun w h => hts w (a_148 w h)) (by decide +kernel) (hE.non "java/lang/IndexOutOfBoundsException" (by decide +kernel))
    refine W.widen (k := 0) (n := 0) (Nat.le_of_ble_eq_true rfl) (Nat.le_of_ble_eq_true rfl) ?_
    exact vx_throwSW (A := A) (rest := []) hx hb hlt hown (by decide +kernel) (by decide +kernel) (hts (.classLink RX3 144 "java/lang/IndexOutOfBoundsException") (by decide +kernel)) (hts (.initialized "java/lang/IndexOutOfBoundsException") (by decide +kernel)) hsa_2 hat (by decide +kernel) hE.2.2.2.2.2.2.1 hE.2.2.2.2.2.2.2.1 hS (hl.1.trans hml.symm) dX3_rowAt_15 dX3_rowAt_18 dX3_rowAt_19 dX3_rowAt_22 dX3_rowAt_25 (fun x h => (ht x h).elim) (Nat.le_of_ble_eq_true rfl) (Nat.le_of_ble_eq_true rfl) (Nat.le_of_ble_eq_true rfl) (Nat.le_of_ble_eq_true rfl) hlocks (fun t hvm hz hk => ⟨(L, f), trivial, ⟨⟨⟨rfl, kKn_f (Or.inl c_1)⟩, hI⟩, hP.kept (fun k q hq => hk q.1 (hP k q hq).lt), hD⟩, Nat.le_trans hS.1 hz, fun q h1 h2 => (hk q (Nat.lt_of_lt_of_le h1 hS.1)).trans (hS.2.1 q h1 h2)⟩) hS.2.2 (Nat.le_of_ble_eq_true rfl) (Nat.le_of_ble_eq_true rfl)
  · refine lv_iload_n hx hb dX3_rowAt_4 rfl (lv_at hl 1 rfl) ?_
    refine lv_aload_n hx hb dX3_rowAt_5 rfl (lv_at hl 0 rfl) ?_
    refine kp_get hx hb hts i_X3 hown hK hP hI hW.tx rfl rfl 1 (by decide) (by decide) (hts (.fieldLink RX3 16 "IslandSolver" "rows" "Ljava/util/ArrayList;") (by decide +kernel)) (fun _ h9 => h9) dX3_rowAt_6 (kq_P (v0 := .ref rl) rfl hW.p1 fun h_4 => ?_)
    refine kd_calli (va_runV (As := []) (rest := [.int n]) ⟨hx, hb, hml, hown, hts⟩ (k_size8 l dC dI dA ad _ τ pv _ _ hI rl nr hW.lr.1 hW.lr.2.2.1) (cwV 0 hts gX3_rowAt_Jx4a65c_size_8abf5 rfl rfl rfl (by decide +kernel) ⟨Nat.le_of_ble_eq_true rfl, Nat.le_of_ble_eq_true rfl⟩) (kd_preV hP hD hK hS hA hE hI hW.lr.1 rfl rfl) rfl rfl hl.1 rfl (lv_room (Nat.le_of_ble_eq_true rfl)) dX3_rowAt_9 ⟨Nat.le_of_ble_eq_true rfl, Nat.le_of_ble_eq_true rfl⟩) hD hS hA (fun r_6 u_5 H locs hw hP hD hS => ?_)
    obtain ⟨rfl, hI⟩ := hw
    refine lv_icmp_lt (tgt := 26) hx hb dX3_rowAt_12 (by decide) (fun c_7 => ?_) (fun c_7 => ?_)
    · obtain ⟨j_8, hj_8, rfl⟩ := kn_of (n := nr) c_1 c_7 (by omega)
      refine lv_aload_n hx hb dX3_rowAt_26 rfl (lv_at hl 0 rfl) ?_
      refine kp_get hx hb hts i_X3 hown hK hP hI hW.tx rfl rfl 1 (by decide) (by decide) (hts (.fieldLink RX3 16 "IslandSolver" "rows" "Ljava/util/ArrayList;") (by decide +kernel)) (fun _ h9 => h9) dX3_rowAt_27 (kq_P (v0 := .ref rl) rfl hW.p1 fun h_10 => ?_)
      refine lv_iload_n hx hb dX3_rowAt_30 rfl (lv_at hl 1 rfl) ?_
      obtain ⟨q_11, g_12, g_13, g_14, g_15⟩ := hW.lr.at (i := j_8) (by omega)
      have g_16 := (hW.xr (i := j_8) (by omega) g_14).1
      refine kd_callq (va_runV (As := [.int (nI j_8)]) (rest := []) ⟨hx, hb, hml, hown, hts⟩ (k_get8 l dC dI dA ad _ τ pv _ _ hI rl ra nr j_8 q_11 hW.lr.1 hW.lr.2.1 hW.lr.2.2.1 g_12 g_13 (by omega) (by omega) g_14) (cwV 1 hts gX3_rowAt_Jx4a65c_get_915e3 rfl rfl rfl (by decide +kernel) ⟨Nat.le_of_ble_eq_true rfl, Nat.le_of_ble_eq_true rfl⟩) (kd_preV hP hD hK hS hA hE hI hW.lr.1 rfl rfl) rfl rfl hl.1 rfl (lv_room (Nat.le_of_ble_eq_true rfl)) dX3_rowAt_31 ⟨Nat.le_of_ble_eq_true rfl, Nat.le_of_ble_eq_true rfl⟩) hD hS hA (fun r_18 u_17 H locs hw hP hD hS => ?_)
      obtain ⟨rfl, hI⟩ := hw
      refine W.eq (g2 := F0 m 34 ls [.ref q_11]) rfl ?_
      refine va_castY hx hb hown (hts (.classLink RX3 67 "IslandSolver$Row") (by decide +kernel)) (kz_cast (hE.cast2 "IslandSolver$Row" "IslandSolver$Row" (by decide +kernel))) (kd_recv hK hP hI g_15 rfl rfl) dX3_rowAt_34 ?_
      refine vx_ret ?_
      refine W.widen (k := 1) (n := 6) (Nat.le_of_ble_eq_true rfl) (Nat.le_of_ble_eq_true rfl) ?_
      exact W.aret (v := .ref q_11) hx hb hr (Or.inl ⟨_, rfl⟩) (Or.inr ⟨_, rfl⟩) (fun t ht hW9 => ⟨⟨(some q_11), (u_17.1, u_17.2), rfl, ⟨j_8, by omega, rfl, q_11, rfl, g_14, g_15, g_16, hI⟩, by rw [ht]; exact hP, va_K.moved hW9.alike hK, hD⟩, hS.F ht⟩) hS.2.2 dX3_rowAt_37
    · obtain ⟨sa_19, hsa_19⟩ := hE.str 309 "there is no such row" (by decide +kernel)
      have hat : ∀ w ∈ (vx_atS RX3 148 "java/lang/IndexOutOfBoundsException" ["java/lang/RuntimeException", "java/lang/Exception"]), w.before _ s = true := vx_hat (B := kx_non "java/lang/IndexOutOfBoundsException") (fun w h => hts w (a_148 w h)) (by decide +kernel) (hE.non "java/lang/IndexOutOfBoundsException" (by decide +kernel))
      refine W.widen (k := 0) (n := 0) (Nat.le_of_ble_eq_true rfl) (Nat.le_of_ble_eq_true rfl) ?_
      exact vx_throwSW (A := A) (rest := []) hx hb hlt hown (by decide +kernel) (by decide +kernel) (hts (.classLink RX3 144 "java/lang/IndexOutOfBoundsException") (by decide +kernel)) (hts (.initialized "java/lang/IndexOutOfBoundsException") (by decide +kernel)) hsa_19 hat (by decide +kernel) hE.2.2.2.2.2.2.1 hE.2.2.2.2.2.2.2.1 hS (hl.1.trans hml.symm) dX3_rowAt_15 dX3_rowAt_18 dX3_rowAt_19 dX3_rowAt_22 dX3_rowAt_25 (fun x h => (ht x h).elim) (Nat.le_of_ble_eq_true rfl) (Nat.le_of_ble_eq_true rfl) (Nat.le_of_ble_eq_true rfl) (Nat.le_of_ble_eq_true rfl) hlocks (fun t hvm hz hk => ⟨(u_5.1, u_5.2), trivial, ⟨⟨⟨rfl, kKn_f (Or.inr (Int32.not_lt.mp c_7))⟩, hI⟩, hP.kept (fun k q hq => hk q.1 (hP k q hq).lt), hD⟩, Nat.le_trans hS.1 hz, fun q h1 h2 => (hk q (Nat.lt_of_lt_of_le h1 hS.1)).trans (hS.2.1 q h1 h2)⟩) hS.2.2 (Nat.le_of_ble_eq_true rfl) (Nat.le_of_ble_eq_true rfl)
set_option maxHeartbeats 4000000 in
set_option maxRecDepth 100000 in
theorem k_checkPair (l : Launch) (dC : Nat → ClassId) (dI : Nat → Nat → Nat) (dA : Nat → ClassId) (ad sz : Nat) (τ : Nat → Nat → Nat) (pv : Nat → Nat → Value) (L : List Nat) (f : Nat → va_E) (hI : kI dA τ pv L f) (x bl rl kl ba ra ka fr nb nr nk : Nat) (hW : kW τ pv ad x bl rl kl ba ra ka fr nb nr nk) (a b : Int32) (hlt : l.stackTraces = false) : vx_Met l yX3_checkPair wsX3_checkPair ({ frames := 6, cells := 1, slots := 6, locals := 82 } : Room) (va_Pc [.ref x, .int a, .int b] (kB dC dI dA ad sz L f)) (va_Qv (fun u => kPairOk a b nb = true ∧ (∃ i, i < nb ∧ a = nI i) ∧ (b = -1 ∨ ∃ j, j < nb ∧ b = nI j) ∧ kI dA τ pv u.1 u.2) (kR dC dI dA (va_A (va_pl L f) sz)) (va_A (va_pl L f) sz)) (kX dC dI (fun E u => (E = "java/lang/IndexOutOfBoundsException" ∧ kPairOk a b nb = false) ∧ kI dA τ pv u.1 u.2) (va_A (va_pl L f) sz)) 1 6 (va_A (va_pl L f) sz) := by
  refine vx_ofW (cc := cX3_checkPair) (maxL := 3) (ret := none) (by decide) rfl ?_
  intro p e s m args below meth c s₁ B hml ht hv
  obtain ⟨rfl, hsz, hP, hK, hD0, hE⟩ := hv
  have hx := B.exec
  have hb := B.bytes
  have hr := B.returns
  have hts := atoms_spec (ws := wsX3_checkPair) B.pre
  have hown : s.vm.findClass RX3 = some m.cls := findClass_of_methodNamed B.named
  have hlocks := B.notSynchronized
  have a_148 : ∀ w ∈ (vx_atS RX3 148 "java/lang/IndexOutOfBoundsException" ["java/lang/RuntimeException", "java/lang/Exception"]).filter goodWord, w ∈ wsX3_checkPair := fun _ h => List.mem_cons_of_mem _ (List.mem_append_right _ h)
  subst hsz
  have hD := hD0.self (sz := s.heap.size)
  generalize hAe : va_A (va_pl L f) s.heap.size = A at hD hE ⊢
  have hA : ∀ q : Nat, s.heap.size ≤ q → A q := fun q h => by rw [← hAe]; exact Or.inr h
  have hS : va_S A s.heap s.heap [] := va_S.rf
  have hP : va_P (dC, dI) vwCl (va_pl L f) s.heap := hP
  have hK : va_K (dC, dI) vwCl (tyA dA) s := hK
  have hl := lv_entry ([.ref x, .int a, .int b]) (n := 3) (Nat.le_of_ble_eq_true rfl)
  rw [lg_entry_eq]
  generalize (lg_sl ([.ref x, .int a, .int b]) ++ List.replicate (3 - (lg_sl ([.ref x, .int a, .int b])).length) Slot.unset).toArray = ls at hl ⊢
  have hl : lv_has ls 3 [(0, .ref x), (1, .int a), (2, .int b)] := hl
  have hnb := hW.lnb
  have hnr := hW.lnr
  have hnk := hW.lnk
  refine lv_aload_n hx hb dX3_checkPair_0 rfl (lv_at hl 0 rfl) ?_
  refine lv_iload_n hx hb dX3_checkPair_1 rfl (lv_at hl 1 rfl) ?_
  refine kd_calli (va_runV (As := [.int a]) (rest := []) ⟨hx, hb, hml, hown, hts⟩ (k_isBody l dC dI dA ad _ τ pv _ _ hI x bl rl kl ba ra ka fr nb nr nk hW a) (cwV 1 hts gX3_checkPair_X3_isBody rfl rfl rfl (by decide +kernel) ⟨Nat.le_of_ble_eq_true rfl, Nat.le_of_ble_eq_true rfl⟩) (kd_preV hP hD hK hS hA hE hI hW.tx rfl rfl) rfl rfl hl.1 rfl (lv_room (Nat.le_of_ble_eq_true rfl)) dX3_checkPair_2 ⟨Nat.le_of_ble_eq_true rfl, Nat.le_of_ble_eq_true rfl⟩) hD hS hA (fun r_2 u_1 H locs hw hP hD hS => ?_)
  obtain ⟨⟨rfl, ⟨j_3, hj_3, rfl⟩⟩ | ⟨rfl, h_4⟩, hI⟩ := hw
  · refine lv_if_eq (tgt := 26) hx hb dX3_checkPair_5 (by decide) (fun h9 => by first | exact absurd h9 (by decide) | exact absurd (by decide) h9) (fun _ => ?_)
    refine lv_iload_n hx hb dX3_checkPair_8 rfl (lv_at hl 2 rfl) ?_
    refine lv_iconst (v := (-1)) hx hb dX3_checkPair_9 (by decide) ?_
    refine lv_icmp_eq (tgt := 21) hx hb dX3_checkPair_10 (by decide) (fun c_5 => ?_) (fun c_5 => ?_)
    · refine lv_iload_n hx hb dX3_checkPair_21 rfl (lv_at hl 1 rfl) ?_
      refine lv_iload_n hx hb dX3_checkPair_22 rfl (lv_at hl 2 rfl) ?_
      refine lv_icmp_ne (tgt := 37) hx hb dX3_checkPair_23 (by decide) (fun c_6 => ?_) (fun c_6 => ?_)
      · refine vx_ret ?_
        refine W.widen (k := 1) (n := 6) (Nat.le_of_ble_eq_true rfl) (Nat.le_of_ble_eq_true rfl) ?_
        exact W.vret hx hb hr (fun t ht hW9 => ⟨⟨(u_1.1, u_1.2), rfl, ⟨kPk_t (kKn_t hj_3 (by omega)) (Or.inl c_5) c_6, ⟨j_3, by omega, rfl⟩, Or.inl c_5, hI⟩, by rw [ht]; exact hP, va_K.moved hW9.alike hK, hD⟩, hS.F ht⟩) hS.2.2 dX3_checkPair_37
      · obtain ⟨sa_7, hsa_7⟩ := hE.str 311 "there are no such two bodies" (by decide +kernel)
        have hat : ∀ w ∈ (vx_atS RX3 148 "java/lang/IndexOutOfBoundsException" ["java/lang/RuntimeException", "java/lang/Exception"]), w.before _ s = true := vx_hat (B := kx_non "java/lang/IndexOutOfBoundsException") (fun w h => hts w (a_148 w h)) (by decide +kernel) (hE.non "java/lang/IndexOutOfBoundsException" (by decide +kernel))
        refine W.widen (k := 0) (n := 0) (Nat.le_of_ble_eq_true rfl) (Nat.le_of_ble_eq_true rfl) ?_
        exact vx_throwSW (A := A) (rest := []) hx hb hlt hown (by decide +kernel) (by decide +kernel) (hts (.classLink RX3 144 "java/lang/IndexOutOfBoundsException") (by decide +kernel)) (hts (.initialized "java/lang/IndexOutOfBoundsException") (by decide +kernel)) hsa_7 hat (by decide +kernel) hE.2.2.2.2.2.2.1 hE.2.2.2.2.2.2.2.1 hS (hl.1.trans hml.symm) dX3_checkPair_26 dX3_checkPair_29 dX3_checkPair_30 dX3_checkPair_33 dX3_checkPair_36 (fun x h => (ht x h).elim) (Nat.le_of_ble_eq_true rfl) (Nat.le_of_ble_eq_true rfl) (Nat.le_of_ble_eq_true rfl) (Nat.le_of_ble_eq_true rfl) hlocks (fun t hvm hz hk => ⟨(u_1.1, u_1.2), trivial, ⟨⟨⟨rfl, kPk_f3 c_6⟩, hI⟩, hP.kept (fun k q hq => hk q.1 (hP k q hq).lt), hD⟩, Nat.le_trans hS.1 hz, fun q h1 h2 => (hk q (Nat.lt_of_lt_of_le h1 hS.1)).trans (hS.2.1 q h1 h2)⟩) hS.2.2 (Nat.le_of_ble_eq_true rfl) (Nat.le_of_ble_eq_true rfl)
    · refine lv_aload_n hx hb dX3_checkPair_13 rfl (lv_at hl 0 rfl) ?_
      refine lv_iload_n hx hb dX3_checkPair_14 rfl (lv_at hl 2 rfl) ?_
      refine kd_calli (va_runV (As := [.int b]) (rest := []) ⟨hx, hb, hml, hown, hts⟩ (k_isBody l dC dI dA ad _ τ pv _ _ hI x bl rl kl ba ra ka fr nb nr nk hW b) (cwV 1 hts gX3_checkPair_X3_isBody rfl rfl rfl (by decide +kernel) ⟨Nat.le_of_ble_eq_true rfl, Nat.le_of_ble_eq_true rfl⟩) (kd_preV hP hD hK hS hA hE hI hW.tx rfl rfl) rfl rfl hl.1 rfl (lv_room (Nat.le_of_ble_eq_true rfl)) dX3_checkPair_15 ⟨Nat.le_of_ble_eq_true rfl, Nat.le_of_ble_eq_true rfl⟩) hD hS hA (fun r_9 u_8 H locs hw hP hD hS => ?_)
      obtain ⟨⟨rfl, ⟨j_10, hj_10, rfl⟩⟩ | ⟨rfl, h_11⟩, hI⟩ := hw
      · refine lv_if_eq (tgt := 26) hx hb dX3_checkPair_18 (by decide) (fun h9 => by first | exact absurd h9 (by decide) | exact absurd (by decide) h9) (fun _ => ?_)
        refine lv_iload_n hx hb dX3_checkPair_21 rfl (lv_at hl 1 rfl) ?_
        refine lv_iload_n hx hb dX3_checkPair_22 rfl (lv_at hl 2 rfl) ?_
        refine lv_icmp_ne (tgt := 37) hx hb dX3_checkPair_23 (by decide) (fun c_12 => ?_) (fun c_12 => ?_)
        · have n_13 : ¬ j_3 = j_10 := fun h9 => (show ¬ nI j_3 = nI j_10 from c_12) ((nI_eq (by omega) (by omega)).mpr h9)
          refine vx_ret ?_
          refine W.widen (k := 1) (n := 6) (Nat.le_of_ble_eq_true rfl) (Nat.le_of_ble_eq_true rfl) ?_
          exact W.vret hx hb hr (fun t ht hW9 => ⟨⟨(u_8.1, u_8.2), rfl, ⟨kPk_t (kKn_t hj_3 (by omega)) (Or.inr (kKn_t hj_10 (by omega))) (fun h9 => n_13 ((nI_eq (by omega) (by omega)).mp h9)), ⟨j_3, by omega, rfl⟩, Or.inr ⟨j_10, by omega, rfl⟩, hI⟩, by rw [ht]; exact hP, va_K.moved hW9.alike hK, hD⟩, hS.F ht⟩) hS.2.2 dX3_checkPair_37
        · have n_14 : j_3 = j_10 := (nI_eq (by omega) (by omega)).mp (show nI j_3 = nI j_10 from c_12)
          obtain ⟨sa_15, hsa_15⟩ := hE.str 311 "there are no such two bodies" (by decide +kernel)
          have hat : ∀ w ∈ (vx_atS RX3 148 "java/lang/IndexOutOfBoundsException" ["java/lang/RuntimeException", "java/lang/Exception"]), w.before _ s = true := vx_hat (B := kx_non "java/lang/IndexOutOfBoundsException") (fun w h => hts w (a_148 w h)) (by decide +kernel) (hE.non "java/lang/IndexOutOfBoundsException" (by decide +kernel))
          refine W.widen (k := 0) (n := 0) (Nat.le_of_ble_eq_true rfl) (Nat.le_of_ble_eq_true rfl) ?_
          exact vx_throwSW (A := A) (rest := []) hx hb hlt hown (by decide +kernel) (by decide +kernel) (hts (.classLink RX3 144 "java/lang/IndexOutOfBoundsException") (by decide +kernel)) (hts (.initialized "java/lang/IndexOutOfBoundsException") (by decide +kernel)) hsa_15 hat (by decide +kernel) hE.2.2.2.2.2.2.1 hE.2.2.2.2.2.2.2.1 hS (hl.1.trans hml.symm) dX3_checkPair_26 dX3_checkPair_29 dX3_checkPair_30 dX3_checkPair_33 dX3_checkPair_36 (fun x h => (ht x h).elim) (Nat.le_of_ble_eq_true rfl) (Nat.le_of_ble_eq_true rfl) (Nat.le_of_ble_eq_true rfl) (Nat.le_of_ble_eq_true rfl) hlocks (fun t hvm hz hk => ⟨(u_8.1, u_8.2), trivial, ⟨⟨⟨rfl, kPk_f3 (congrArg nI n_14)⟩, hI⟩, hP.kept (fun k q hq => hk q.1 (hP k q hq).lt), hD⟩, Nat.le_trans hS.1 hz, fun q h1 h2 => (hk q (Nat.lt_of_lt_of_le h1 hS.1)).trans (hS.2.1 q h1 h2)⟩) hS.2.2 (Nat.le_of_ble_eq_true rfl) (Nat.le_of_ble_eq_true rfl)
      · refine lv_if_eq (tgt := 26) hx hb dX3_checkPair_18 (by decide) (fun _ => ?_) (fun h9 => by first | exact absurd h9 (by decide) | exact absurd (by decide) h9)
        obtain ⟨sa_16, hsa_16⟩ := hE.str 311 "there are no such two bodies" (by decide +kernel)
        have hat : ∀ w ∈ (vx_atS RX3 148 "java/lang/IndexOutOfBoundsException" ["java/lang/RuntimeException", "java/lang/Exception"]), w.before _ s = true := vx_hat (B := kx_non "java/lang/IndexOutOfBoundsException") (fun w h => hts w (a_148 w h)) (by decide +kernel) (hE.non "java/lang/IndexOutOfBoundsException" (by decide +kernel))
        refine W.widen (k := 0) (n := 0) (Nat.le_of_ble_eq_true rfl) (Nat.le_of_ble_eq_true rfl) ?_
        exact vx_throwSW (A := A) (rest := []) hx hb hlt hown (by decide +kernel) (by decide +kernel) (hts (.classLink RX3 144 "java/lang/IndexOutOfBoundsException") (by decide +kernel)) (hts (.initialized "java/lang/IndexOutOfBoundsException") (by decide +kernel)) hsa_16 hat (by decide +kernel) hE.2.2.2.2.2.2.1 hE.2.2.2.2.2.2.2.1 hS (hl.1.trans hml.symm) dX3_checkPair_26 dX3_checkPair_29 dX3_checkPair_30 dX3_checkPair_33 dX3_checkPair_36 (fun x h => (ht x h).elim) (Nat.le_of_ble_eq_true rfl) (Nat.le_of_ble_eq_true rfl) (Nat.le_of_ble_eq_true rfl) (Nat.le_of_ble_eq_true rfl) hlocks (fun t hvm hz hk => ⟨(u_8.1, u_8.2), trivial, ⟨⟨⟨rfl, kPk_f2 c_5 (kKn_f h_11)⟩, hI⟩, hP.kept (fun k q hq => hk q.1 (hP k q hq).lt), hD⟩, Nat.le_trans hS.1 hz, fun q h1 h2 => (hk q (Nat.lt_of_lt_of_le h1 hS.1)).trans (hS.2.1 q h1 h2)⟩) hS.2.2 (Nat.le_of_ble_eq_true rfl) (Nat.le_of_ble_eq_true rfl)
  · refine lv_if_eq (tgt := 26) hx hb dX3_checkPair_5 (by decide) (fun _ => ?_) (fun h9 => by first | exact absurd h9 (by decide) | exact absurd (by decide) h9)
    obtain ⟨sa_17, hsa_17⟩ := hE.str 311 "there are no such two bodies" (by decide +kernel)
    have hat : ∀ w ∈ (vx_atS RX3 148 "java/lang/IndexOutOfBoundsException" ["java/lang/RuntimeException", "java/lang/Exception"]), w.before _ s = true := vx_hat (B := kx_non "java/lang/IndexOutOfBoundsException") (fun w h => hts w (a_148 w h)) (by decide +kernel) (hE.non "java/lang/IndexOutOfBoundsException" (by decide +kernel))
    refine W.widen (k := 0) (n := 0) (Nat.le_of_ble_eq_true rfl) (Nat.le_of_ble_eq_true rfl) ?_
    exact vx_throwSW (A := A) (rest := []) hx hb hlt hown (by decide +kernel) (by decide +kernel) (hts (.classLink RX3 144 "java/lang/IndexOutOfBoundsException") (by decide +kernel)) (hts (.initialized "java/lang/IndexOutOfBoundsException") (by decide +kernel)) hsa_17 hat (by decide +kernel) hE.2.2.2.2.2.2.1 hE.2.2.2.2.2.2.2.1 hS (hl.1.trans hml.symm) dX3_checkPair_26 dX3_checkPair_29 dX3_checkPair_30 dX3_checkPair_33 dX3_checkPair_36 (fun x h => (ht x h).elim) (Nat.le_of_ble_eq_true rfl) (Nat.le_of_ble_eq_true rfl) (Nat.le_of_ble_eq_true rfl) (Nat.le_of_ble_eq_true rfl) hlocks (fun t hvm hz hk => ⟨(u_1.1, u_1.2), trivial, ⟨⟨⟨rfl, kPk_f1 (kKn_f h_4)⟩, hI⟩, hP.kept (fun k q hq => hk q.1 (hP k q hq).lt), hD⟩, Nat.le_trans hS.1 hz, fun q h1 h2 => (hk q (Nat.lt_of_lt_of_le h1 hS.1)).trans (hS.2.1 q h1 h2)⟩) hS.2.2 (Nat.le_of_ble_eq_true rfl) (Nat.le_of_ble_eq_true rfl)
set_option maxHeartbeats 4000000 in
set_option maxRecDepth 100000 in
theorem k_checkRoom (l : Launch) (dC : Nat → ClassId) (dI : Nat → Nat → Nat) (dA : Nat → ClassId) (ad sz : Nat) (τ : Nat → Nat → Nat) (pv : Nat → Nat → Value) (L : List Nat) (f : Nat → va_E) (hI : kI dA τ pv L f) (x bl rl kl ba ra ka fr nb nr nk : Nat) (hW : kW τ pv ad x bl rl kl ba ra ka fr nb nr nk)  (hlt : l.stackTraces = false) : vx_Met l yX3_checkRoomForRow wsX3_checkRoomForRow ({ frames := 6, cells := 1, slots := 6, locals := 82 } : Room) (va_Pc [.ref x] (kB dC dI dA ad sz L f)) (va_Qv (fun u => nr < 1024 ∧ kI dA τ pv u.1 u.2) (kR dC dI dA (va_A (va_pl L f) sz)) (va_A (va_pl L f) sz)) (kX dC dI (fun E u => (E = "java/lang/IllegalStateException" ∧ decide (nr < 1024) = false) ∧ kI dA τ pv u.1 u.2) (va_A (va_pl L f) sz)) 1 6 (va_A (va_pl L f) sz) := by
  refine vx_ofW (cc := cX3_checkRoomForRow) (maxL := 1) (ret := none) (by decide) rfl ?_
  intro p e s m args below meth c s₁ B hml ht hv
  obtain ⟨rfl, hsz, hP, hK, hD0, hE⟩ := hv
  have hx := B.exec
  have hb := B.bytes
  have hr := B.returns
  have hts := atoms_spec (ws := wsX3_checkRoomForRow) B.pre
  have hown : s.vm.findClass RX3 = some m.cls := findClass_of_methodNamed B.named
  have hlocks := B.notSynchronized
  have i_X3 : ∀ w ∈ u_ws RX3 TX3 16, w ∈ wsX3_checkRoomForRow := by decide +kernel
  have a_93 : ∀ w ∈ (vx_atS RX3 93 "java/lang/IllegalStateException" ["java/lang/RuntimeException", "java/lang/Exception"]).filter goodWord, w ∈ wsX3_checkRoomForRow := fun _ h => List.mem_cons_of_mem _ (List.mem_append_right _ h)
  subst hsz
  have hD := hD0.self (sz := s.heap.size)
  generalize hAe : va_A (va_pl L f) s.heap.size = A at hD hE ⊢
  have hA : ∀ q : Nat, s.heap.size ≤ q → A q := fun q h => by rw [← hAe]; exact Or.inr h
  have hS : va_S A s.heap s.heap [] := va_S.rf
  have hP : va_P (dC, dI) vwCl (va_pl L f) s.heap := hP
  have hK : va_K (dC, dI) vwCl (tyA dA) s := hK
  have hl := lv_entry ([.ref x]) (n := 1) (Nat.le_of_ble_eq_true rfl)
  rw [lg_entry_eq]
  generalize (lg_sl ([.ref x]) ++ List.replicate (1 - (lg_sl ([.ref x])).length) Slot.unset).toArray = ls at hl ⊢
  have hl : lv_has ls 1 [(0, .ref x)] := hl
  have hnb := hW.lnb
  have hnr := hW.lnr
  have hnk := hW.lnk
  refine lv_aload_n hx hb dX3_checkRoomForRow_0 rfl (lv_at hl 0 rfl) ?_
  refine kp_get hx hb hts i_X3 hown hK hP hI hW.tx rfl rfl 1 (by decide) (by decide) (hts (.fieldLink RX3 16 "IslandSolver" "rows" "Ljava/util/ArrayList;") (by decide +kernel)) (fun _ h9 => h9) dX3_checkRoomForRow_1 (kq_P (v0 := .ref rl) rfl hW.p1 fun h_2 => ?_)
  refine kd_calli (va_runV (As := []) (rest := []) ⟨hx, hb, hml, hown, hts⟩ (k_size8 l dC dI dA ad _ τ pv _ _ hI rl nr hW.lr.1 hW.lr.2.2.1) (cwV 0 hts gX3_checkRoomForRow_Jx4a65c_size_8abf5 rfl rfl rfl (by decide +kernel) ⟨Nat.le_of_ble_eq_true rfl, Nat.le_of_ble_eq_true rfl⟩) (kd_preV hP hD hK hS hA hE hI hW.lr.1 rfl rfl) rfl rfl hl.1 rfl (lv_room (Nat.le_of_ble_eq_true rfl)) dX3_checkRoomForRow_4 ⟨Nat.le_of_ble_eq_true rfl, Nat.le_of_ble_eq_true rfl⟩) hD hS hA (fun r_4 u_3 H locs hw hP hD hS => ?_)
  obtain ⟨rfl, hI⟩ := hw
  refine lv_sipush (v := 1024) hx hb dX3_checkRoomForRow_7 (by decide) ?_
  refine lv_icmp_lt (tgt := 24) hx hb dX3_checkRoomForRow_10 (by decide) (fun c_5 => ?_) (fun c_5 => ?_)
  · have n_6 : nr < 1024 := (nI_ltI (by omega) (by omega)).mp (show nI nr < nI 1024 from c_5)
    refine vx_ret ?_
    refine W.widen (k := 1) (n := 6) (Nat.le_of_ble_eq_true rfl) (Nat.le_of_ble_eq_true rfl) ?_
    exact W.vret hx hb hr (fun t ht hW9 => ⟨⟨(u_3.1, u_3.2), rfl, ⟨by omega, hI⟩, by rw [ht]; exact hP, va_K.moved hW9.alike hK, hD⟩, hS.F ht⟩) hS.2.2 dX3_checkRoomForRow_24
  · have n_7 : ¬ nr < 1024 := fun h9 => (show ¬ nI nr < nI 1024 from c_5) ((nI_ltI (by omega) (by omega)).mpr h9)
    obtain ⟨sa_8, hsa_8⟩ := hE.str 313 "there are 1024 rows" (by decide +kernel)
    have hat : ∀ w ∈ (vx_atS RX3 93 "java/lang/IllegalStateException" ["java/lang/RuntimeException", "java/lang/Exception"]), w.before _ s = true := vx_hat (B := kx_non "java/lang/IllegalStateException") (fun w h => hts w (a_93 w h)) (by decide +kernel) (hE.non "java/lang/IllegalStateException" (by decide +kernel))
    refine W.widen (k := 0) (n := 0) (Nat.le_of_ble_eq_true rfl) (Nat.le_of_ble_eq_true rfl) ?_
    exact vx_throwSW (A := A) (rest := []) hx hb hlt hown (by decide +kernel) (by decide +kernel) (hts (.classLink RX3 89 "java/lang/IllegalStateException") (by decide +kernel)) (hts (.initialized "java/lang/IllegalStateException") (by decide +kernel)) hsa_8 hat (by decide +kernel) hE.2.2.2.2.2.2.1 hE.2.2.2.2.2.2.2.1 hS (hl.1.trans hml.symm) dX3_checkRoomForRow_13 dX3_checkRoomForRow_16 dX3_checkRoomForRow_17 dX3_checkRoomForRow_20 dX3_checkRoomForRow_23 (fun x h => (ht x h).elim) (Nat.le_of_ble_eq_true rfl) (Nat.le_of_ble_eq_true rfl) (Nat.le_of_ble_eq_true rfl) (Nat.le_of_ble_eq_true rfl) hlocks (fun t hvm hz hk => ⟨(u_3.1, u_3.2), trivial, ⟨⟨⟨rfl, decide_eq_false (by omega)⟩, hI⟩, hP.kept (fun k q hq => hk q.1 (hP k q hq).lt), hD⟩, Nat.le_trans hS.1 hz, fun q h1 h2 => (hk q (Nat.lt_of_lt_of_le h1 hS.1)).trans (hS.2.1 q h1 h2)⟩) hS.2.2 (Nat.le_of_ble_eq_true rfl) (Nat.le_of_ble_eq_true rfl)
