set_option maxHeartbeats 4000000 in
set_option maxRecDepth 100000 in
theorem k_p_lean (l : Launch) (dC : Nat → ClassId) (dI : Nat → Nat → Nat) (dA : Nat → ClassId) (ad sz : Nat) (τ : Nat → Nat → Nat) (pv : Nat → Nat → Value) (L : List Nat) (f : Nat → va_E) (hI : kI dA τ pv L f) (x bl rl kl ba ra ka fr nb nr nk : Nat) (hW : kW τ pv ad x bl rl kl ba ra ka fr nb nr nk) (n : Int32) (a : UInt32) (b : UInt32) (c9 : UInt32) (hlt : l.stackTraces = false) : vx_Met l yX3_lean wsX3_lean ({ frames := 7, cells := 2, slots := 12, locals := 103 } : Room) (va_Pc [.ref x, .int n, .float a, .float b, .float c9] (kB dC dI dA ad sz L f)) (va_Qv (fun u => kc_lean n nb a b c9 = 0 ∧ kPost dA τ pv ad x ba ra nb nr nb nr u) (kR dC dI dA (va_A (va_pl L f) sz)) (va_A (va_pl L f) sz)) (kX dC dI (fun E u => ((E = "java/lang/IndexOutOfBoundsException" ∧ kc_lean n nb a b c9 = 1) ∨ (E = "java/lang/IllegalArgumentException" ∧ kc_lean n nb a b c9 = 2)) ∧ kI dA τ pv u.1 u.2) (va_A (va_pl L f) sz)) 2 12 (va_A (va_pl L f) sz) := by
  refine vx_ofW (cc := cX3_lean) (maxL := 6) (ret := none) (by decide) rfl ?_
  intro p e s m args below meth c s₁ B hml ht hv
  obtain ⟨rfl, hsz, hP, hK, hD0, hE⟩ := hv
  have hx := B.exec
  have hb := B.bytes
  have hr := B.returns
  have hts := atoms_spec (ws := wsX3_lean) B.pre
  have hown : s.vm.findClass RX3 = some m.cls := findClass_of_methodNamed B.named
  have hlocks := B.notSynchronized
  have i_X0 : ∀ w ∈ u_ws RX0 TX0 16, w ∈ wsX3_lean := by decide +kernel
  have a_82 : ∀ w ∈ (vx_atS RX3 82 "java/lang/IllegalArgumentException" ["java/lang/RuntimeException", "java/lang/Exception"]).filter goodWord, w ∈ wsX3_lean := fun _ h => List.mem_cons_of_mem _ (List.mem_append_left _ (List.mem_append_right _ h))
  subst hsz
  have hD := hD0.self (sz := s.heap.size)
  generalize hAe : va_A (va_pl L f) s.heap.size = A at hD hE ⊢
  have hA : ∀ q : Nat, s.heap.size ≤ q → A q := fun q h => by rw [← hAe]; exact Or.inr h
  have hS : va_S A s.heap s.heap [] := va_S.rf
  have hP : va_P (dC, dI) vwCl (va_pl L f) s.heap := hP
  have hK : va_K (dC, dI) vwCl (tyA dA) s := hK
  have hl := lv_entry ([.ref x, .int n, .float a, .float b, .float c9]) (n := 6) (Nat.le_of_ble_eq_true rfl)
  rw [lg_entry_eq]
  generalize (lg_sl ([.ref x, .int n, .float a, .float b, .float c9]) ++ List.replicate (6 - (lg_sl ([.ref x, .int n, .float a, .float b, .float c9])).length) Slot.unset).toArray = ls at hl ⊢
  have hl : lv_has ls 6 [(0, .ref x), (1, .int n), (2, .float a), (3, .float b), (4, .float c9)] := hl
  have hnb := hW.lnb
  have hnr := hW.lnr
  have hnk := hW.lnk
  have hF : kFr kPm τ pv τ pv := kFr.rf
  have hW00 := hW
  refine lv_aload_n hx hb dX3_lean_0 rfl (lv_at hl 0 rfl) ?_
  refine lv_iload_n hx hb dX3_lean_1 rfl (lv_at hl 1 rfl) ?_
  refine kd_xq (vx_runV (As := [.int n]) (rest := []) ⟨hx, hb, hml, hown, hts⟩ (k_bodyAt l dC dI dA ad _ τ pv _ _ hI x bl rl kl ba ra ka fr nb nr nk hW n hlt) (cwV 1 hts gX3_lean_X3_bodyAt rfl rfl rfl (by decide +kernel) ⟨Nat.le_of_ble_eq_true rfl, Nat.le_of_ble_eq_true rfl⟩) (kd_preV hP hD hK hS hA hE hI hW.tx rfl rfl) rfl rfl hl.1 rfl (lv_room (Nat.le_of_ble_eq_true rfl)) dX3_lean_2 ⟨Nat.le_of_ble_eq_true rfl, Nat.le_of_ble_eq_true rfl⟩) hD hS hA (fun E ce q9 u_1 H locs hw hP hD hS hce hcv hcl => ?_) (fun r_2 u_1 H locs hw hP hD hS => ?_)
  · obtain ⟨hE9, hI⟩ := hw
    exact vx_out (fun x h => (ht x h).elim) hlocks hce hcv hcl (fun t ht hvm => ⟨(u_1.1, u_1.2), trivial, ⟨⟨Or.inl ⟨hE9.1, (by simp only [kc_lean, hE9.2, decide_true, decide_false, Bool.not_true, Bool.not_false, Bool.and_true, Bool.true_and, Bool.and_false, Bool.false_and, Bool.and_self, Bool.false_eq_true, if_true, if_false, ite_true, ite_false, reduceIte] <;> decide)⟩, hI⟩, by rw [ht]; exact hP, hD⟩, hS.F ht⟩) hS.2.2 (Nat.le_of_ble_eq_true rfl) (Nat.le_of_ble_eq_true rfl)
  · obtain ⟨j_4, hj_4, rfl, q_3, rfl, pq_3, tq_3, nq_3, hI⟩ := hw
    refine W.eq (g2 := F0 m 5 ls [.ref q_3]) rfl ?_
    refine lv_astore (lv' := [(5, .ref q_3), (0, .ref x), (1, .int (nI j_4)), (2, .float a), (3, .float b), (4, .float c9)]) hx hb dX3_lean_5 hl (by decide) rfl (fun ls hl => ?_)
    refine lv_fload_n hx hb dX3_lean_7 rfl (lv_at hl 3 rfl) ?_
    refine lv_ldcf (v := 3229614080) hx hb hown (hts (.constantFloat RX3 107 (3229614080)) (by decide +kernel)) dX3_lean_8 ?_
    have hc_5 : fb 1082130432 3229614080 := by unfold fb; decide +kernel
    refine lv_ldcf (v := 1082130432) hx hb hown (hts (.constantFloat RX3 108 (1082130432)) (by decide +kernel)) dX3_lean_10 ?_
    have hc_6 : fb 1082130432 1082130432 := by unfold fb; decide +kernel
    refine kd_calli (va_runS (As := [.float a, .float 3229614080, .float 1082130432]) (rest := []) ⟨hx, hb, hml, hown, hts⟩ (k_outside l dC dI dA ad _ τ pv _ _ hI a 3229614080 1082130432) (va_cwS 3 hts gX3_lean_X3_outside rfl rfl rfl (by decide +kernel) ⟨Nat.le_of_ble_eq_true rfl, Nat.le_of_ble_eq_true rfl⟩) (kd_preS hP hD hK hS hA hE) rfl rfl hl.1 rfl (lv_room (Nat.le_of_ble_eq_true rfl)) dX3_lean_12 ⟨Nat.le_of_ble_eq_true rfl, Nat.le_of_ble_eq_true rfl⟩) hD hS hA (fun r_8 u_7 H locs hw hP hD hS => ?_)
    obtain ⟨⟨k_9, rfl⟩ | ⟨k_9, rfl⟩, hI⟩ := hw
    · have fb_10 : fb 1082130432 a := fb_within hc_5 hc_6 (by decide) k_9
      refine lv_if_ne (tgt := 41) hx hb dX3_lean_15 (by decide) (fun h9 => by first | exact absurd h9 (by decide) | exact absurd (by decide) h9) (fun _ => ?_)
      refine lv_fload_n hx hb dX3_lean_18 rfl (lv_at hl 4 rfl) ?_
      refine lv_ldcf (v := 3229614080) hx hb hown (hts (.constantFloat RX3 107 (3229614080)) (by decide +kernel)) dX3_lean_19 ?_
      have hc_11 : fb 1082130432 3229614080 := by unfold fb; decide +kernel
      refine lv_ldcf (v := 1082130432) hx hb hown (hts (.constantFloat RX3 108 (1082130432)) (by decide +kernel)) dX3_lean_21 ?_
      have hc_12 : fb 1082130432 1082130432 := by unfold fb; decide +kernel
      refine kd_calli (va_runS (As := [.float b, .float 3229614080, .float 1082130432]) (rest := []) ⟨hx, hb, hml, hown, hts⟩ (k_outside l dC dI dA ad _ τ pv _ _ hI b 3229614080 1082130432) (va_cwS 3 hts gX3_lean_X3_outside rfl rfl rfl (by decide +kernel) ⟨Nat.le_of_ble_eq_true rfl, Nat.le_of_ble_eq_true rfl⟩) (kd_preS hP hD hK hS hA hE) rfl rfl hl.1 rfl (lv_room (Nat.le_of_ble_eq_true rfl)) dX3_lean_23 ⟨Nat.le_of_ble_eq_true rfl, Nat.le_of_ble_eq_true rfl⟩) hD hS hA (fun r_14 u_13 H locs hw hP hD hS => ?_)
      obtain ⟨⟨k_15, rfl⟩ | ⟨k_15, rfl⟩, hI⟩ := hw
      · have fb_16 : fb 1082130432 b := fb_within hc_11 hc_12 (by decide) k_15
        refine lv_if_ne (tgt := 41) hx hb dX3_lean_26 (by decide) (fun h9 => by first | exact absurd h9 (by decide) | exact absurd (by decide) h9) (fun _ => ?_)
        refine lv_fload hx hb dX3_lean_29 (lv_at hl 5 rfl) ?_
        refine lv_ldcf (v := 3229614080) hx hb hown (hts (.constantFloat RX3 107 (3229614080)) (by decide +kernel)) dX3_lean_31 ?_
        have hc_17 : fb 1082130432 3229614080 := by unfold fb; decide +kernel
        refine lv_ldcf (v := 1082130432) hx hb hown (hts (.constantFloat RX3 108 (1082130432)) (by decide +kernel)) dX3_lean_33 ?_
        have hc_18 : fb 1082130432 1082130432 := by unfold fb; decide +kernel
        refine kd_calli (va_runS (As := [.float c9, .float 3229614080, .float 1082130432]) (rest := []) ⟨hx, hb, hml, hown, hts⟩ (k_outside l dC dI dA ad _ τ pv _ _ hI c9 3229614080 1082130432) (va_cwS 3 hts gX3_lean_X3_outside rfl rfl rfl (by decide +kernel) ⟨Nat.le_of_ble_eq_true rfl, Nat.le_of_ble_eq_true rfl⟩) (kd_preS hP hD hK hS hA hE) rfl rfl hl.1 rfl (lv_room (Nat.le_of_ble_eq_true rfl)) dX3_lean_35 ⟨Nat.le_of_ble_eq_true rfl, Nat.le_of_ble_eq_true rfl⟩) hD hS hA (fun r_20 u_19 H locs hw hP hD hS => ?_)
        obtain ⟨⟨k_21, rfl⟩ | ⟨k_21, rfl⟩, hI⟩ := hw
        · have fb_22 : fb 1082130432 c9 := fb_within hc_17 hc_18 (by decide) k_21
          refine lv_if_eq (tgt := 51) hx hb dX3_lean_38 (by decide) (fun _ => ?_) (fun h9 => by first | exact absurd h9 (by decide) | exact absurd (by decide) h9)
          refine lv_aload hx hb dX3_lean_51 (lv_at hl 0 rfl) ?_
          refine lv_fload_n hx hb dX3_lean_53 rfl (lv_at hl 3 rfl) ?_
          refine kp_put (v := .float a) (ty := .float) hx hb hts i_X0 tyX0 tyX0_ok nmX0 hown hK hP hD hS hI tq_3 rfl rfl 6 (by decide) (by decide) (hts (.fieldLink RX3 111 "IslandSolver$Body" "xy" "F") (by decide +kernel)) (fun _ h9 => h9) rfl (by decide +kernel) rfl rfl rfl (by decide) (kv_F (by decide) (fb_le fb_10 (by decide))) dX3_lean_54 (fun f H locs hI hP hD hS => ?_)
          refine lv_aload hx hb dX3_lean_57 (lv_at hl 0 rfl) ?_
          refine lv_fload_n hx hb dX3_lean_59 rfl (lv_at hl 4 rfl) ?_
          refine kp_put (v := .float b) (ty := .float) hx hb hts i_X0 tyX0 tyX0_ok nmX0 hown hK hP hD hS hI tq_3 rfl rfl 7 (by decide) (by decide) (hts (.fieldLink RX3 114 "IslandSolver$Body" "yz" "F") (by decide +kernel)) (fun _ h9 => h9) rfl (by decide +kernel) rfl rfl rfl (by decide) (kv_F (by decide) (fb_le fb_16 (by decide))) dX3_lean_60 (fun f H locs hI hP hD hS => ?_)
          refine lv_aload hx hb dX3_lean_63 (lv_at hl 0 rfl) ?_
          refine lv_fload hx hb dX3_lean_65 (lv_at hl 5 rfl) ?_
          refine kp_put (v := .float c9) (ty := .float) hx hb hts i_X0 tyX0 tyX0_ok nmX0 hown hK hP hD hS hI tq_3 rfl rfl 8 (by decide) (by decide) (hts (.fieldLink RX3 117 "IslandSolver$Body" "zx" "F") (by decide +kernel)) (fun _ h9 => h9) rfl (by decide +kernel) rfl rfl rfl (by decide) (kv_F (by decide) (fb_le fb_22 (by decide))) dX3_lean_67 (fun f H locs hI hP hD hS => ?_)
          refine lv_aload hx hb dX3_lean_70 (lv_at hl 0 rfl) ?_
          refine kd_callv (va_runV (As := []) (rest := []) ⟨hx, hb, hml, hown, hts⟩ (k_rouse l dC dI dA ad _ τ pv _ _ hI q_3 tq_3) (cwV 0 hts gX3_lean_X0_rouse rfl rfl rfl (by decide +kernel) ⟨Nat.le_of_ble_eq_true rfl, Nat.le_of_ble_eq_true rfl⟩) (kd_preV hP hD hK hS hA hE hI tq_3 rfl rfl) rfl rfl hl.1 rfl (lv_room (Nat.le_of_ble_eq_true rfl)) dX3_lean_72 ⟨Nat.le_of_ble_eq_true rfl, Nat.le_of_ble_eq_true rfl⟩) hD hS hA (fun u_23 H locs hw hP hD hS => ?_)
          have hI := hw
          refine vx_ret ?_
          refine W.widen (k := 2) (n := 12) (Nat.le_of_ble_eq_true rfl) (Nat.le_of_ble_eq_true rfl) ?_
          exact W.vret hx hb hr (fun t ht hW9 => ⟨⟨(u_23.1, u_23.2), rfl, ⟨(by simp only [kc_lean, (kKn_t hj_4 (by omega)), k_9, k_15, k_21, decide_true, decide_false, Bool.not_true, Bool.not_false, Bool.and_true, Bool.true_and, Bool.and_false, Bool.false_and, Bool.and_self, Bool.false_eq_true, if_true, if_false, ite_true, ite_false, reduceIte] <;> decide), ⟨_, _, bl, rl, kl, ba, ra, ka, fr, nk, hF.weak kPm_C, hW, hW00.eqB hF (fun _ => rfl), fun i hi _ => hW00.eqR hF (fun _ => rfl) i hi, hI⟩⟩, by rw [ht]; exact hP, va_K.moved hW9.alike hK, hD⟩, hS.F ht⟩) hS.2.2 dX3_lean_75
        · refine lv_if_eq (tgt := 51) hx hb dX3_lean_38 (by decide) (fun h9 => by first | exact absurd h9 (by decide) | exact absurd (by decide) h9) (fun _ => ?_)
          obtain ⟨sa_24, hsa_24⟩ := hE.str 109 "xy, yz or zx is not -4 .. 4" (by decide +kernel)
          have hat : ∀ w ∈ (vx_atS RX3 82 "java/lang/IllegalArgumentException" ["java/lang/RuntimeException", "java/lang/Exception"]), w.before _ s = true := vx_hat (B := kx_non "java/lang/IllegalArgumentException") (fun w h => hts w (a_82 w h)) (by decide +kernel) (hE.non "java/lang/IllegalArgumentException" (by decide +kernel))
          refine W.widen (k := 1) (n := 6) (Nat.le_of_ble_eq_true rfl) (Nat.le_of_ble_eq_true rfl) ?_
          exact vx_throwS (A := A) (rest := []) hx hb hlt hown (by decide +kernel) (by decide +kernel) (hts (.classLink RX3 78 "java/lang/IllegalArgumentException") (by decide +kernel)) (hts (.initialized "java/lang/IllegalArgumentException") (by decide +kernel)) hsa_24 hat (by decide +kernel) hE.2.2.2.2.2.2.1 hE.2.2.2.2.2.2.2.1 hS (hl.1.trans hml.symm) dX3_lean_41 dX3_lean_44 dX3_lean_45 dX3_lean_47 dX3_lean_50 (fun x h => (ht x h).elim) (Nat.le_of_ble_eq_true rfl) (Nat.le_of_ble_eq_true rfl) (Nat.le_of_ble_eq_true rfl) (Nat.le_of_ble_eq_true rfl) hlocks (fun t hvm hz hk => ⟨(u_19.1, u_19.2), trivial, ⟨⟨Or.inr (⟨rfl, (by simp only [kc_lean, (kKn_t hj_4 (by omega)), k_9, k_15, k_21, decide_true, decide_false, Bool.not_true, Bool.not_false, Bool.and_true, Bool.true_and, Bool.and_false, Bool.false_and, Bool.and_self, Bool.false_eq_true, if_true, if_false, ite_true, ite_false, reduceIte] <;> decide)⟩), hI⟩, hP.kept (fun k q hq => hk q.1 (hP k q hq).lt), hD⟩, Nat.le_trans hS.1 hz, fun q h1 h2 => (hk q (Nat.lt_of_lt_of_le h1 hS.1)).trans (hS.2.1 q h1 h2)⟩) hS.2.2 (Nat.le_of_ble_eq_true rfl) (Nat.le_of_ble_eq_true rfl)
      · refine lv_if_ne (tgt := 41) hx hb dX3_lean_26 (by decide) (fun _ => ?_) (fun h9 => by first | exact absurd h9 (by decide) | exact absurd (by decide) h9)
        obtain ⟨sa_25, hsa_25⟩ := hE.str 109 "xy, yz or zx is not -4 .. 4" (by decide +kernel)
        have hat : ∀ w ∈ (vx_atS RX3 82 "java/lang/IllegalArgumentException" ["java/lang/RuntimeException", "java/lang/Exception"]), w.before _ s = true := vx_hat (B := kx_non "java/lang/IllegalArgumentException") (fun w h => hts w (a_82 w h)) (by decide +kernel) (hE.non "java/lang/IllegalArgumentException" (by decide +kernel))
        refine W.widen (k := 1) (n := 6) (Nat.le_of_ble_eq_true rfl) (Nat.le_of_ble_eq_true rfl) ?_
        exact vx_throwS (A := A) (rest := []) hx hb hlt hown (by decide +kernel) (by decide +kernel) (hts (.classLink RX3 78 "java/lang/IllegalArgumentException") (by decide +kernel)) (hts (.initialized "java/lang/IllegalArgumentException") (by decide +kernel)) hsa_25 hat (by decide +kernel) hE.2.2.2.2.2.2.1 hE.2.2.2.2.2.2.2.1 hS (hl.1.trans hml.symm) dX3_lean_41 dX3_lean_44 dX3_lean_45 dX3_lean_47 dX3_lean_50 (fun x h => (ht x h).elim) (Nat.le_of_ble_eq_true rfl) (Nat.le_of_ble_eq_true rfl) (Nat.le_of_ble_eq_true rfl) (Nat.le_of_ble_eq_true rfl) hlocks (fun t hvm hz hk => ⟨(u_13.1, u_13.2), trivial, ⟨⟨Or.inr (⟨rfl, (by simp only [kc_lean, (kKn_t hj_4 (by omega)), k_9, k_15, decide_true, decide_false, Bool.not_true, Bool.not_false, Bool.and_true, Bool.true_and, Bool.and_false, Bool.false_and, Bool.and_self, Bool.false_eq_true, if_true, if_false, ite_true, ite_false, reduceIte] <;> decide)⟩), hI⟩, hP.kept (fun k q hq => hk q.1 (hP k q hq).lt), hD⟩, Nat.le_trans hS.1 hz, fun q h1 h2 => (hk q (Nat.lt_of_lt_of_le h1 hS.1)).trans (hS.2.1 q h1 h2)⟩) hS.2.2 (Nat.le_of_ble_eq_true rfl) (Nat.le_of_ble_eq_true rfl)
    · refine lv_if_ne (tgt := 41) hx hb dX3_lean_15 (by decide) (fun _ => ?_) (fun h9 => by first | exact absurd h9 (by decide) | exact absurd (by decide) h9)
      obtain ⟨sa_26, hsa_26⟩ := hE.str 109 "xy, yz or zx is not -4 .. 4" (by decide +kernel)
      have hat : ∀ w ∈ (vx_atS RX3 82 "java/lang/IllegalArgumentException" ["java/lang/RuntimeException", "java/lang/Exception"]), w.before _ s = true := vx_hat (B := kx_non "java/lang/IllegalArgumentException") (fun w h => hts w (a_82 w h)) (by decide +kernel) (hE.non "java/lang/IllegalArgumentException" (by decide +kernel))
      refine W.widen (k := 1) (n := 6) (Nat.le_of_ble_eq_true rfl) (Nat.le_of_ble_eq_true rfl) ?_
      exact vx_throwS (A := A) (rest := []) hx hb hlt hown (by decide +kernel) (by decide +kernel) (hts (.classLink RX3 78 "java/lang/IllegalArgumentException") (by decide +kernel)) (hts (.initialized "java/lang/IllegalArgumentException") (by decide +kernel)) hsa_26 hat (by decide +kernel) hE.2.2.2.2.2.2.1 hE.2.2.2.2.2.2.2.1 hS (hl.1.trans hml.symm) dX3_lean_41 dX3_lean_44 dX3_lean_45 dX3_lean_47 dX3_lean_50 (fun x h => (ht x h).elim) (Nat.le_of_ble_eq_true rfl) (Nat.le_of_ble_eq_true rfl) (Nat.le_of_ble_eq_true rfl) (Nat.le_of_ble_eq_true rfl) hlocks (fun t hvm hz hk => ⟨(u_7.1, u_7.2), trivial, ⟨⟨Or.inr (⟨rfl, (by simp only [kc_lean, (kKn_t hj_4 (by omega)), k_9, decide_true, decide_false, Bool.not_true, Bool.not_false, Bool.and_true, Bool.true_and, Bool.and_false, Bool.false_and, Bool.and_self, Bool.false_eq_true, if_true, if_false, ite_true, ite_false, reduceIte] <;> decide)⟩), hI⟩, hP.kept (fun k q hq => hk q.1 (hP k q hq).lt), hD⟩, Nat.le_trans hS.1 hz, fun q h1 h2 => (hk q (Nat.lt_of_lt_of_le h1 hS.1)).trans (hS.2.1 q h1 h2)⟩) hS.2.2 (Nat.le_of_ble_eq_true rfl) (Nat.le_of_ble_eq_true rfl)
set_option maxHeartbeats 4000000 in
set_option maxRecDepth 100000 in
theorem k_p_set (l : Launch) (dC : Nat → ClassId) (dI : Nat → Nat → Nat) (dA : Nat → ClassId) (ad sz : Nat) (τ : Nat → Nat → Nat) (pv : Nat → Nat → Value) (L : List Nat) (f : Nat → va_E) (hI : kI dA τ pv L f) (x bl rl kl ba ra ka fr nb nr nk : Nat) (hW : kW τ pv ad x bl rl kl ba ra ka fr nb nr nk) (n : Int32) (a : UInt32) (b : UInt32) (c9 : UInt32) (d9 : UInt32) (e9 : UInt32) (f9 : UInt32) (hlt : l.stackTraces = false) : vx_Met l yX3_set wsX3_set ({ frames := 7, cells := 2, slots := 12, locals := 103 } : Room) (va_Pc [.ref x, .int n, .float a, .float b, .float c9, .float d9, .float e9, .float f9] (kB dC dI dA ad sz L f)) (va_Qv (fun u => kc_set n nb a b c9 d9 e9 f9 = 0 ∧ kPost dA τ pv ad x ba ra nb nr nb nr u) (kR dC dI dA (va_A (va_pl L f) sz)) (va_A (va_pl L f) sz)) (kX dC dI (fun E u => ((E = "java/lang/IndexOutOfBoundsException" ∧ kc_set n nb a b c9 d9 e9 f9 = 1) ∨ (E = "java/lang/IllegalArgumentException" ∧ kc_set n nb a b c9 d9 e9 f9 = 2)) ∧ kI dA τ pv u.1 u.2) (va_A (va_pl L f) sz)) 2 12 (va_A (va_pl L f) sz) := by
  refine vx_ofW (cc := cX3_set) (maxL := 9) (ret := none) (by decide) rfl ?_
  intro p e s m args below meth c s₁ B hml ht hv
  obtain ⟨rfl, hsz, hP, hK, hD0, hE⟩ := hv
  have hx := B.exec
  have hb := B.bytes
  have hr := B.returns
  have hts := atoms_spec (ws := wsX3_set) B.pre
  have hown : s.vm.findClass RX3 = some m.cls := findClass_of_methodNamed B.named
  have hlocks := B.notSynchronized
  have i_X0 : ∀ w ∈ u_ws RX0 TX0 16, w ∈ wsX3_set := by decide +kernel
  have a_82 : ∀ w ∈ (vx_atS RX3 82 "java/lang/IllegalArgumentException" ["java/lang/RuntimeException", "java/lang/Exception"]).filter goodWord, w ∈ wsX3_set := fun _ h => List.mem_cons_of_mem _ (List.mem_append_left _ (List.mem_append_right _ h))
  subst hsz
  have hD := hD0.self (sz := s.heap.size)
  generalize hAe : va_A (va_pl L f) s.heap.size = A at hD hE ⊢
  have hA : ∀ q : Nat, s.heap.size ≤ q → A q := fun q h => by rw [← hAe]; exact Or.inr h
  have hS : va_S A s.heap s.heap [] := va_S.rf
  have hP : va_P (dC, dI) vwCl (va_pl L f) s.heap := hP
  have hK : va_K (dC, dI) vwCl (tyA dA) s := hK
  have hl := lv_entry ([.ref x, .int n, .float a, .float b, .float c9, .float d9, .float e9, .float f9]) (n := 9) (Nat.le_of_ble_eq_true rfl)
  rw [lg_entry_eq]
  generalize (lg_sl ([.ref x, .int n, .float a, .float b, .float c9, .float d9, .float e9, .float f9]) ++ List.replicate (9 - (lg_sl ([.ref x, .int n, .float a, .float b, .float c9, .float d9, .float e9, .float f9])).length) Slot.unset).toArray = ls at hl ⊢
  have hl : lv_has ls 9 [(0, .ref x), (1, .int n), (2, .float a), (3, .float b), (4, .float c9), (5, .float d9), (6, .float e9), (7, .float f9)] := hl
  have hnb := hW.lnb
  have hnr := hW.lnr
  have hnk := hW.lnk
  have hF : kFr kPm τ pv τ pv := kFr.rf
  have hW00 := hW
  refine lv_aload_n hx hb dX3_set_0 rfl (lv_at hl 0 rfl) ?_
  refine lv_iload_n hx hb dX3_set_1 rfl (lv_at hl 1 rfl) ?_
  refine kd_xq (vx_runV (As := [.int n]) (rest := []) ⟨hx, hb, hml, hown, hts⟩ (k_bodyAt l dC dI dA ad _ τ pv _ _ hI x bl rl kl ba ra ka fr nb nr nk hW n hlt) (cwV 1 hts gX3_set_X3_bodyAt rfl rfl rfl (by decide +kernel) ⟨Nat.le_of_ble_eq_true rfl, Nat.le_of_ble_eq_true rfl⟩) (kd_preV hP hD hK hS hA hE hI hW.tx rfl rfl) rfl rfl hl.1 rfl (lv_room (Nat.le_of_ble_eq_true rfl)) dX3_set_2 ⟨Nat.le_of_ble_eq_true rfl, Nat.le_of_ble_eq_true rfl⟩) hD hS hA (fun E ce q9 u_1 H locs hw hP hD hS hce hcv hcl => ?_) (fun r_2 u_1 H locs hw hP hD hS => ?_)
  · obtain ⟨hE9, hI⟩ := hw
    exact vx_out (fun x h => (ht x h).elim) hlocks hce hcv hcl (fun t ht hvm => ⟨(u_1.1, u_1.2), trivial, ⟨⟨Or.inl ⟨hE9.1, (by simp only [kc_set, hE9.2, decide_true, decide_false, Bool.not_true, Bool.not_false, Bool.and_true, Bool.true_and, Bool.and_false, Bool.false_and, Bool.and_self, Bool.false_eq_true, if_true, if_false, ite_true, ite_false, reduceIte] <;> decide)⟩, hI⟩, by rw [ht]; exact hP, hD⟩, hS.F ht⟩) hS.2.2 (Nat.le_of_ble_eq_true rfl) (Nat.le_of_ble_eq_true rfl)
  · obtain ⟨j_4, hj_4, rfl, q_3, rfl, pq_3, tq_3, nq_3, hI⟩ := hw
    refine W.eq (g2 := F0 m 5 ls [.ref q_3]) rfl ?_
    refine lv_astore (lv' := [(8, .ref q_3), (0, .ref x), (1, .int (nI j_4)), (2, .float a), (3, .float b), (4, .float c9), (5, .float d9), (6, .float e9), (7, .float f9)]) hx hb dX3_set_5 hl (by decide) rfl (fun ls hl => ?_)
    refine lv_fload_n hx hb dX3_set_7 rfl (lv_at hl 3 rfl) ?_
    refine lv_fload_n hx hb dX3_set_8 rfl (lv_at hl 4 rfl) ?_
    refine lv_fload hx hb dX3_set_9 (lv_at hl 5 rfl) ?_
    refine lv_ldcf (v := 1149239296) hx hb hown (hts (.constantFloat RX3 123 (1149239296)) (by decide +kernel)) dX3_set_11 ?_
    have hc_5 : fb 1149239296 1149239296 := by unfold fb; decide +kernel
    refine kd_calli (va_runS (As := [.float a, .float b, .float c9, .float 1149239296]) (rest := []) ⟨hx, hb, hml, hown, hts⟩ (k_any1149239296 l dC dI dA ad _ τ pv _ _ hI a b c9) (va_cwS 4 hts gX3_set_X3_anyOutside rfl rfl rfl (by decide +kernel) ⟨Nat.le_of_ble_eq_true rfl, Nat.le_of_ble_eq_true rfl⟩) (kd_preS hP hD hK hS hA hE) rfl rfl hl.1 rfl (lv_room (Nat.le_of_ble_eq_true rfl)) dX3_set_13 ⟨Nat.le_of_ble_eq_true rfl, Nat.le_of_ble_eq_true rfl⟩) hD hS hA (fun r_7 u_6 H locs hw hP hD hS => ?_)
    obtain ⟨⟨k_8, rfl, fb_9, fb_10, fb_11⟩ | ⟨k_8, rfl⟩, hI⟩ := hw
    · refine lv_if_ne (tgt := 33) hx hb dX3_set_16 (by decide) (fun h9 => by first | exact absurd h9 (by decide) | exact absurd (by decide) h9) (fun _ => ?_)
      refine lv_fload hx hb dX3_set_19 (lv_at hl 6 rfl) ?_
      refine lv_fload hx hb dX3_set_21 (lv_at hl 7 rfl) ?_
      refine lv_fload hx hb dX3_set_23 (lv_at hl 8 rfl) ?_
      refine lv_ldcf (v := 1149239296) hx hb hown (hts (.constantFloat RX3 123 (1149239296)) (by decide +kernel)) dX3_set_25 ?_
      have hc_12 : fb 1149239296 1149239296 := by unfold fb; decide +kernel
      refine kd_calli (va_runS (As := [.float d9, .float e9, .float f9, .float 1149239296]) (rest := []) ⟨hx, hb, hml, hown, hts⟩ (k_any1149239296 l dC dI dA ad _ τ pv _ _ hI d9 e9 f9) (va_cwS 4 hts gX3_set_X3_anyOutside rfl rfl rfl (by decide +kernel) ⟨Nat.le_of_ble_eq_true rfl, Nat.le_of_ble_eq_true rfl⟩) (kd_preS hP hD hK hS hA hE) rfl rfl hl.1 rfl (lv_room (Nat.le_of_ble_eq_true rfl)) dX3_set_27 ⟨Nat.le_of_ble_eq_true rfl, Nat.le_of_ble_eq_true rfl⟩) hD hS hA (fun r_14 u_13 H locs hw hP hD hS => ?_)
      obtain ⟨⟨k_15, rfl, fb_16, fb_17, fb_18⟩ | ⟨k_15, rfl⟩, hI⟩ := hw
      · refine lv_if_eq (tgt := 43) hx hb dX3_set_30 (by decide) (fun _ => ?_) (fun h9 => by first | exact absurd h9 (by decide) | exact absurd (by decide) h9)
        refine lv_aload hx hb dX3_set_43 (lv_at hl 0 rfl) ?_
        refine kp_get hx hb hts i_X0 hown hK hP hI tq_3 rfl rfl 9 (by decide) (by decide) (hts (.fieldLink RX3 130 "IslandSolver$Body" "v" "LIslandSolver$Vec;") (by decide +kernel)) (fun _ h9 => h9) dX3_set_45 (kq_R 3 (by decide) fun x_19 h_20 => ?_)
        refine lv_fload_n hx hb dX3_set_48 rfl (lv_at hl 3 rfl) ?_
        refine lv_fload_n hx hb dX3_set_49 rfl (lv_at hl 4 rfl) ?_
        refine lv_fload hx hb dX3_set_50 (lv_at hl 5 rfl) ?_
        refine kd_callv (va_runV (As := [.float a, .float b, .float c9]) (rest := []) ⟨hx, hb, hml, hown, hts⟩ (k_put3 l dC dI dA ad _ τ pv _ _ hI x_19 h_20 a (fb_le fb_9 (by decide)) b (fb_le fb_10 (by decide)) c9 (fb_le fb_11 (by decide))) (cwV 3 hts gX3_set_X2_put rfl rfl rfl (by decide +kernel) ⟨Nat.le_of_ble_eq_true rfl, Nat.le_of_ble_eq_true rfl⟩) (kd_preV hP hD hK hS hA hE hI h_20 rfl rfl) rfl rfl hl.1 rfl (lv_room (Nat.le_of_ble_eq_true rfl)) dX3_set_52 ⟨Nat.le_of_ble_eq_true rfl, Nat.le_of_ble_eq_true rfl⟩) hD hS hA (fun u_21 H locs hw hP hD hS => ?_)
        have hI := hw
        refine lv_aload hx hb dX3_set_55 (lv_at hl 0 rfl) ?_
        refine kp_get hx hb hts i_X0 hown hK hP hI tq_3 rfl rfl 10 (by decide) (by decide) (hts (.fieldLink RX3 137 "IslandSolver$Body" "s" "LIslandSolver$Vec;") (by decide +kernel)) (fun _ h9 => h9) dX3_set_57 (kq_R 3 (by decide) fun x_22 h_23 => ?_)
        refine lv_fload hx hb dX3_set_60 (lv_at hl 6 rfl) ?_
        refine lv_fload hx hb dX3_set_62 (lv_at hl 7 rfl) ?_
        refine lv_fload hx hb dX3_set_64 (lv_at hl 8 rfl) ?_
        refine kd_callv (va_runV (As := [.float d9, .float e9, .float f9]) (rest := []) ⟨hx, hb, hml, hown, hts⟩ (k_put3 l dC dI dA ad _ τ pv _ _ hI x_22 h_23 d9 (fb_le fb_16 (by decide)) e9 (fb_le fb_17 (by decide)) f9 (fb_le fb_18 (by decide))) (cwV 3 hts gX3_set_X2_put rfl rfl rfl (by decide +kernel) ⟨Nat.le_of_ble_eq_true rfl, Nat.le_of_ble_eq_true rfl⟩) (kd_preV hP hD hK hS hA hE hI h_23 rfl rfl) rfl rfl hl.1 rfl (lv_room (Nat.le_of_ble_eq_true rfl)) dX3_set_66 ⟨Nat.le_of_ble_eq_true rfl, Nat.le_of_ble_eq_true rfl⟩) hD hS hA (fun u_24 H locs hw hP hD hS => ?_)
        have hI := hw
        refine lv_aload hx hb dX3_set_69 (lv_at hl 0 rfl) ?_
        refine kd_callv (va_runV (As := []) (rest := []) ⟨hx, hb, hml, hown, hts⟩ (k_rouse l dC dI dA ad _ τ pv _ _ hI q_3 tq_3) (cwV 0 hts gX3_set_X0_rouse rfl rfl rfl (by decide +kernel) ⟨Nat.le_of_ble_eq_true rfl, Nat.le_of_ble_eq_true rfl⟩) (kd_preV hP hD hK hS hA hE hI tq_3 rfl rfl) rfl rfl hl.1 rfl (lv_room (Nat.le_of_ble_eq_true rfl)) dX3_set_71 ⟨Nat.le_of_ble_eq_true rfl, Nat.le_of_ble_eq_true rfl⟩) hD hS hA (fun u_25 H locs hw hP hD hS => ?_)
        have hI := hw
        refine vx_ret ?_
        refine W.widen (k := 2) (n := 12) (Nat.le_of_ble_eq_true rfl) (Nat.le_of_ble_eq_true rfl) ?_
        exact W.vret hx hb hr (fun t ht hW9 => ⟨⟨(u_25.1, u_25.2), rfl, ⟨(by simp only [kc_set, (kKn_t hj_4 (by omega)), k_8, k_15, decide_true, decide_false, Bool.not_true, Bool.not_false, Bool.and_true, Bool.true_and, Bool.and_false, Bool.false_and, Bool.and_self, Bool.false_eq_true, if_true, if_false, ite_true, ite_false, reduceIte] <;> decide), ⟨_, _, bl, rl, kl, ba, ra, ka, fr, nk, hF.weak kPm_C, hW, hW00.eqB hF (fun _ => rfl), fun i hi _ => hW00.eqR hF (fun _ => rfl) i hi, hI⟩⟩, by rw [ht]; exact hP, va_K.moved hW9.alike hK, hD⟩, hS.F ht⟩) hS.2.2 dX3_set_74
      · refine lv_if_eq (tgt := 43) hx hb dX3_set_30 (by decide) (fun h9 => by first | exact absurd h9 (by decide) | exact absurd (by decide) h9) (fun _ => ?_)
        obtain ⟨sa_26, hsa_26⟩ := hE.str 128 "velocity or spin is not -1024 .. 1024" (by decide +kernel)
        have hat : ∀ w ∈ (vx_atS RX3 82 "java/lang/IllegalArgumentException" ["java/lang/RuntimeException", "java/lang/Exception"]), w.before _ s = true := vx_hat (B := kx_non "java/lang/IllegalArgumentException") (fun w h => hts w (a_82 w h)) (by decide +kernel) (hE.non "java/lang/IllegalArgumentException" (by decide +kernel))
        refine W.widen (k := 1) (n := 6) (Nat.le_of_ble_eq_true rfl) (Nat.le_of_ble_eq_true rfl) ?_
        exact vx_throwS (A := A) (rest := []) hx hb hlt hown (by decide +kernel) (by decide +kernel) (hts (.classLink RX3 78 "java/lang/IllegalArgumentException") (by decide +kernel)) (hts (.initialized "java/lang/IllegalArgumentException") (by decide +kernel)) hsa_26 hat (by decide +kernel) hE.2.2.2.2.2.2.1 hE.2.2.2.2.2.2.2.1 hS (hl.1.trans hml.symm) dX3_set_33 dX3_set_36 dX3_set_37 dX3_set_39 dX3_set_42 (fun x h => (ht x h).elim) (Nat.le_of_ble_eq_true rfl) (Nat.le_of_ble_eq_true rfl) (Nat.le_of_ble_eq_true rfl) (Nat.le_of_ble_eq_true rfl) hlocks (fun t hvm hz hk => ⟨(u_13.1, u_13.2), trivial, ⟨⟨Or.inr (⟨rfl, (by simp only [kc_set, (kKn_t hj_4 (by omega)), k_8, k_15, decide_true, decide_false, Bool.not_true, Bool.not_false, Bool.and_true, Bool.true_and, Bool.and_false, Bool.false_and, Bool.and_self, Bool.false_eq_true, if_true, if_false, ite_true, ite_false, reduceIte] <;> decide)⟩), hI⟩, hP.kept (fun k q hq => hk q.1 (hP k q hq).lt), hD⟩, Nat.le_trans hS.1 hz, fun q h1 h2 => (hk q (Nat.lt_of_lt_of_le h1 hS.1)).trans (hS.2.1 q h1 h2)⟩) hS.2.2 (Nat.le_of_ble_eq_true rfl) (Nat.le_of_ble_eq_true rfl)
    · refine lv_if_ne (tgt := 33) hx hb dX3_set_16 (by decide) (fun _ => ?_) (fun h9 => by first | exact absurd h9 (by decide) | exact absurd (by decide) h9)
      obtain ⟨sa_27, hsa_27⟩ := hE.str 128 "velocity or spin is not -1024 .. 1024" (by decide +kernel)
      have hat : ∀ w ∈ (vx_atS RX3 82 "java/lang/IllegalArgumentException" ["java/lang/RuntimeException", "java/lang/Exception"]), w.before _ s = true := vx_hat (B := kx_non "java/lang/IllegalArgumentException") (fun w h => hts w (a_82 w h)) (by decide +kernel) (hE.non "java/lang/IllegalArgumentException" (by decide +kernel))
      refine W.widen (k := 1) (n := 6) (Nat.le_of_ble_eq_true rfl) (Nat.le_of_ble_eq_true rfl) ?_
      exact vx_throwS (A := A) (rest := []) hx hb hlt hown (by decide +kernel) (by decide +kernel) (hts (.classLink RX3 78 "java/lang/IllegalArgumentException") (by decide +kernel)) (hts (.initialized "java/lang/IllegalArgumentException") (by decide +kernel)) hsa_27 hat (by decide +kernel) hE.2.2.2.2.2.2.1 hE.2.2.2.2.2.2.2.1 hS (hl.1.trans hml.symm) dX3_set_33 dX3_set_36 dX3_set_37 dX3_set_39 dX3_set_42 (fun x h => (ht x h).elim) (Nat.le_of_ble_eq_true rfl) (Nat.le_of_ble_eq_true rfl) (Nat.le_of_ble_eq_true rfl) (Nat.le_of_ble_eq_true rfl) hlocks (fun t hvm hz hk => ⟨(u_6.1, u_6.2), trivial, ⟨⟨Or.inr (⟨rfl, (by simp only [kc_set, (kKn_t hj_4 (by omega)), k_8, decide_true, decide_false, Bool.not_true, Bool.not_false, Bool.and_true, Bool.true_and, Bool.and_false, Bool.false_and, Bool.and_self, Bool.false_eq_true, if_true, if_false, ite_true, ite_false, reduceIte] <;> decide)⟩), hI⟩, hP.kept (fun k q hq => hk q.1 (hP k q hq).lt), hD⟩, Nat.le_trans hS.1 hz, fun q h1 h2 => (hk q (Nat.lt_of_lt_of_le h1 hS.1)).trans (hS.2.1 q h1 h2)⟩) hS.2.2 (Nat.le_of_ble_eq_true rfl) (Nat.le_of_ble_eq_true rfl)
set_option maxHeartbeats 4000000 in
set_option maxRecDepth 100000 in
theorem k_p_gain (l : Launch) (dC : Nat → ClassId) (dI : Nat → Nat → Nat) (dA : Nat → ClassId) (ad sz : Nat) (τ : Nat → Nat → Nat) (pv : Nat → Nat → Value) (L : List Nat) (f : Nat → va_E) (hI : kI dA τ pv L f) (x bl rl kl ba ra ka fr nb nr nk : Nat) (hW : kW τ pv ad x bl rl kl ba ra ka fr nb nr nk) (n k : Int32) (a : UInt32) (b : UInt32) (c9 : UInt32) (hlt : l.stackTraces = false) : vx_Met l yX3_gain wsX3_gain ({ frames := 6, cells := 2, slots := 12, locals := 82 } : Room) (va_Pc [.ref x, .int n, .int k, .float a, .float b, .float c9] (kB dC dI dA ad sz L f)) (va_Qi (fun r u => kPost dA τ pv ad x ba ra nb nr nb nr u) (kR dC dI dA (va_A (va_pl L f) sz)) (va_A (va_pl L f) sz)) (kX dC dI (fun E u => (E = "java/lang/IndexOutOfBoundsException" ∨ E = "java/lang/IllegalArgumentException") ∧ kI dA τ pv u.1 u.2) (va_A (va_pl L f) sz)) 2 12 (va_A (va_pl L f) sz) := by
  refine vx_ofW (cc := cX3_gain) (maxL := 9) (ret := (some .int)) (by decide) rfl ?_
  intro p e s m args below meth c s₁ B hml ht hv
  obtain ⟨rfl, hsz, hP, hK, hD0, hE⟩ := hv
  have hx := B.exec
  have hb := B.bytes
  have hr := B.returns
  have hts := atoms_spec (ws := wsX3_gain) B.pre
  have hown : s.vm.findClass RX3 = some m.cls := findClass_of_methodNamed B.named
  have hlocks := B.notSynchronized
  have i_X3 : ∀ w ∈ u_ws RX3 TX3 16, w ∈ wsX3_gain := by decide +kernel
  have i_X0 : ∀ w ∈ u_ws RX0 TX0 16, w ∈ wsX3_gain := by decide +kernel
  have i_X2 : ∀ w ∈ u_ws RX2 TX2 3, w ∈ wsX3_gain := by decide +kernel
  have a_82 : ∀ w ∈ (vx_atS RX3 82 "java/lang/IllegalArgumentException" ["java/lang/RuntimeException", "java/lang/Exception"]).filter goodWord, w ∈ wsX3_gain := fun _ h => List.mem_cons_of_mem _ (List.mem_append_right _ h)
  have a_148 : ∀ w ∈ (vx_atS RX3 148 "java/lang/IndexOutOfBoundsException" ["java/lang/RuntimeException", "java/lang/Exception"]).filter goodWord, w ∈ wsX3_gain := fun _ h => List.mem_cons_of_mem _ (List.mem_append_left _ (List.mem_append_right _ h))
  subst hsz
  have hD := hD0.self (sz := s.heap.size)
  generalize hAe : va_A (va_pl L f) s.heap.size = A at hD hE ⊢
  have hA : ∀ q : Nat, s.heap.size ≤ q → A q := fun q h => by rw [← hAe]; exact Or.inr h
  have hS : va_S A s.heap s.heap [] := va_S.rf
  have hP : va_P (dC, dI) vwCl (va_pl L f) s.heap := hP
  have hK : va_K (dC, dI) vwCl (tyA dA) s := hK
  have hl := lv_entry ([.ref x, .int n, .int k, .float a, .float b, .float c9]) (n := 9) (Nat.le_of_ble_eq_true rfl)
  rw [lg_entry_eq]
  generalize (lg_sl ([.ref x, .int n, .int k, .float a, .float b, .float c9]) ++ List.replicate (9 - (lg_sl ([.ref x, .int n, .int k, .float a, .float b, .float c9])).length) Slot.unset).toArray = ls at hl ⊢
  have hl : lv_has ls 9 [(0, .ref x), (1, .int n), (2, .int k), (3, .float a), (4, .float b), (5, .float c9)] := hl
  have hnb := hW.lnb
  have hnr := hW.lnr
  have hnk := hW.lnk
  have hF : kFr kPm τ pv τ pv := kFr.rf
  have hW00 := hW
  refine lv_aload_n hx hb dX3_gain_0 rfl (lv_at hl 0 rfl) ?_
  refine lv_iload_n hx hb dX3_gain_1 rfl (lv_at hl 1 rfl) ?_
  refine kd_calli (va_runV (As := [.int n]) (rest := []) ⟨hx, hb, hml, hown, hts⟩ (k_isBody l dC dI dA ad _ τ pv _ _ hI x bl rl kl ba ra ka fr nb nr nk hW n) (cwV 1 hts gX3_gain_X3_isBody rfl rfl rfl (by decide +kernel) ⟨Nat.le_of_ble_eq_true rfl, Nat.le_of_ble_eq_true rfl⟩) (kd_preV hP hD hK hS hA hE hI hW.tx rfl rfl) rfl rfl hl.1 rfl (lv_room (Nat.le_of_ble_eq_true rfl)) dX3_gain_2 ⟨Nat.le_of_ble_eq_true rfl, Nat.le_of_ble_eq_true rfl⟩) hD hS hA (fun r_2 u_1 H locs hw hP hD hS => ?_)
  obtain ⟨⟨rfl, ⟨j_3, hj_3, rfl⟩⟩ | ⟨rfl, h_4⟩, hI⟩ := hw
  · refine lv_if_eq (tgt := 21) hx hb dX3_gain_5 (by decide) (fun h9 => by first | exact absurd h9 (by decide) | exact absurd (by decide) h9) (fun _ => ?_)
    refine lv_aload_n hx hb dX3_gain_8 rfl (lv_at hl 0 rfl) ?_
    refine lv_iload_n hx hb dX3_gain_9 rfl (lv_at hl 2 rfl) ?_
    refine kd_calli (va_runV (As := [.int k]) (rest := []) ⟨hx, hb, hml, hown, hts⟩ (k_isBody l dC dI dA ad _ τ pv _ _ hI x bl rl kl ba ra ka fr nb nr nk hW k) (cwV 1 hts gX3_gain_X3_isBody rfl rfl rfl (by decide +kernel) ⟨Nat.le_of_ble_eq_true rfl, Nat.le_of_ble_eq_true rfl⟩) (kd_preV hP hD hK hS hA hE hI hW.tx rfl rfl) rfl rfl hl.1 rfl (lv_room (Nat.le_of_ble_eq_true rfl)) dX3_gain_10 ⟨Nat.le_of_ble_eq_true rfl, Nat.le_of_ble_eq_true rfl⟩) hD hS hA (fun r_6 u_5 H locs hw hP hD hS => ?_)
    obtain ⟨⟨rfl, ⟨j_7, hj_7, rfl⟩⟩ | ⟨rfl, h_8⟩, hI⟩ := hw
    · refine lv_if_eq (tgt := 21) hx hb dX3_gain_13 (by decide) (fun h9 => by first | exact absurd h9 (by decide) | exact absurd (by decide) h9) (fun _ => ?_)
      refine lv_iload_n hx hb dX3_gain_16 rfl (lv_at hl 1 rfl) ?_
      refine lv_iload_n hx hb dX3_gain_17 rfl (lv_at hl 2 rfl) ?_
      refine lv_icmp_le (tgt := 31) hx hb dX3_gain_18 (by decide) (fun c_9 => ?_) (fun c_9 => ?_)
      · have n_10 : j_3 ≤ j_7 := (nI_leI (by omega) (by omega)).mp (show nI j_3 ≤ nI j_7 from c_9)
        refine lv_fload_n hx hb dX3_gain_31 rfl (lv_at hl 3 rfl) ?_
        refine lv_fload hx hb dX3_gain_32 (lv_at hl 4 rfl) ?_
        refine lv_fload hx hb dX3_gain_34 (lv_at hl 5 rfl) ?_
        refine lv_ldcf (v := 1115684864) hx hb hown (hts (.constantFloat RX3 149 (1115684864)) (by decide +kernel)) dX3_gain_36 ?_
        have hc_11 : fb 1115684864 1115684864 := by unfold fb; decide +kernel
        refine kd_calli (va_runS (As := [.float a, .float b, .float c9, .float 1115684864]) (rest := []) ⟨hx, hb, hml, hown, hts⟩ (k_any1115684864 l dC dI dA ad _ τ pv _ _ hI a b c9) (va_cwS 4 hts gX3_gain_X3_anyOutside rfl rfl rfl (by decide +kernel) ⟨Nat.le_of_ble_eq_true rfl, Nat.le_of_ble_eq_true rfl⟩) (kd_preS hP hD hK hS hA hE) rfl rfl hl.1 rfl (lv_room (Nat.le_of_ble_eq_true rfl)) dX3_gain_38 ⟨Nat.le_of_ble_eq_true rfl, Nat.le_of_ble_eq_true rfl⟩) hD hS hA (fun r_13 u_12 H locs hw hP hD hS => ?_)
        obtain ⟨⟨k_14, rfl, fb_15, fb_16, fb_17⟩ | ⟨k_14, rfl⟩, hI⟩ := hw
        · refine lv_if_eq (tgt := 54) hx hb dX3_gain_41 (by decide) (fun _ => ?_) (fun h9 => by first | exact absurd h9 (by decide) | exact absurd (by decide) h9)
          refine lv_iconst (v := 0) hx hb dX3_gain_54 (by decide) ?_
          refine lv_istore (lv' := [(6, .int 0), (0, .ref x), (1, .int (nI j_3)), (2, .int (nI j_7)), (3, .float a), (4, .float b), (5, .float c9)]) hx hb dX3_gain_55 hl (by decide) rfl (fun ls hl => ?_)
          refine lv_iload_n hx hb dX3_gain_57 rfl (lv_at hl 2 rfl) ?_
          refine lv_istore (lv' := [(7, .int (nI j_3)), (6, .int 0), (0, .ref x), (1, .int (nI j_3)), (2, .int (nI j_7)), (3, .float a), (4, .float b), (5, .float c9)]) hx hb dX3_gain_58 hl (by decide) rfl (fun ls hl => ?_)
          have hl : lv_has ls 9 [(0, .ref x), (1, .int (nI j_3)), (2, .int (nI j_7)), (3, .float a), (4, .float b), (5, .float c9), (6, .int 0), (7, .int (nI j_3))] := lv_sub hl [2, 3, 4, 5, 6, 7, 1, 0] rfl
          refine kl_loop (Inv := fun n60 _ L f H locs ls => ∃ (i : Nat) (c8 : Int32), nb - i < n60 ∧ kI dA τ pv L f ∧ va_P (dC, dI) vwCl (va_pl L f) H ∧ va_D A (va_pl L f) ∧ va_S A s.heap H locs ∧ lv_has ls 9 [(0, .ref x), (1, .int (nI j_3)), (2, .int (nI j_7)), (3, .float a), (4, .float b), (5, .float c9), (6, .int c8), (7, .int (nI i))] ∧ i ≤ nb) (fun _ _ _ _ _ _ h9 => by obtain ⟨_, _, hn, _⟩ := h9; exact Nat.not_lt_zero _ hn) (fun n60 ih60 _ L f H locs ls h9 => ?_) (nb - j_3 + 1) (fun _ _ => .null) _ _ _ _ _ ⟨j_3, 0, Nat.lt_succ_self _, hI, hP, hD, hS, hl, by omega⟩
          obtain ⟨i, c8, hn60, hI, hP, hD, hS, hl, hib⟩ := h9
          refine lv_iload hx hb dX3_gain_60 (lv_at hl 7 rfl) ?_
          refine lv_iload_n hx hb dX3_gain_62 rfl (lv_at hl 2 rfl) ?_
          refine lv_icmp_gt (tgt := 142) hx hb dX3_gain_63 (by decide) (fun c_18 => ?_) (fun c_18 => ?_)
          · have n_19 : j_7 < i := (nI_ltI (by omega) (by omega)).mp (show nI j_7 < nI i from c_18)
            refine lv_iload hx hb dX3_gain_142 (lv_at hl 6 rfl) ?_
            refine vx_ret ?_
            refine W.widen (k := 2) (n := 12) (Nat.le_of_ble_eq_true rfl) (Nat.le_of_ble_eq_true rfl) ?_
            exact W.iret (v := c8) hx hb hr (fun t ht hW9 => ⟨⟨c8, (L, f), rfl, ⟨_, _, bl, rl, kl, ba, ra, ka, fr, nk, hF.weak kPm_C, hW, hW00.eqB hF (fun _ => rfl), fun i hi _ => hW00.eqR hF (fun _ => rfl) i hi, hI⟩, by rw [ht]; exact hP, va_K.moved hW9.alike hK, hD⟩, hS.F ht⟩) hS.2.2 dX3_gain_144
          · have n_20 : ¬ j_7 < i := fun h9 => (show ¬ nI j_7 < nI i from c_18) ((nI_ltI (by omega) (by omega)).mpr h9)
            refine lv_aload_n hx hb dX3_gain_66 rfl (lv_at hl 0 rfl) ?_
            refine kp_get hx hb hts i_X3 hown hK hP hI hW.tx rfl rfl 0 (by decide) (by decide) (hts (.fieldLink RX3 10 "IslandSolver" "bodies" "Ljava/util/ArrayList;") (by decide +kernel)) (fun _ h9 => h9) dX3_gain_67 (kq_P (v0 := .ref bl) rfl hW.p0 fun h_22 => ?_)
            refine lv_iload hx hb dX3_gain_70 (lv_at hl 7 rfl) ?_
            obtain ⟨q_23, g_24, g_25, g_26, g_27⟩ := hW.lb.at (i := i) (by omega)
            have g_28 := hW.xb (i := i) (by omega) g_26
            refine kd_callq (va_runV (As := [.int (nI i)]) (rest := []) ⟨hx, hb, hml, hown, hts⟩ (k_get7 l dC dI dA ad _ τ pv _ _ hI bl ba nb i q_23 hW.lb.1 hW.lb.2.1 hW.lb.2.2.1 g_24 g_25 (by omega) (by omega) g_26) (cwV 1 hts gX3_gain_Jx4a65c_get_915e3 rfl rfl rfl (by decide +kernel) ⟨Nat.le_of_ble_eq_true rfl, Nat.le_of_ble_eq_true rfl⟩) (kd_preV hP hD hK hS hA hE hI hW.lb.1 rfl rfl) rfl rfl hl.1 rfl (lv_room (Nat.le_of_ble_eq_true rfl)) dX3_gain_72 ⟨Nat.le_of_ble_eq_true rfl, Nat.le_of_ble_eq_true rfl⟩) hD hS hA (fun r_30 u_29 H locs hw hP hD hS => ?_)
            obtain ⟨rfl, hI⟩ := hw
            refine W.eq (g2 := F0 m 75 ls [.ref q_23]) rfl ?_
            refine va_castY hx hb hown (hts (.classLink RX3 94 "IslandSolver$Body") (by decide +kernel)) (kz_cast (hE.cast2 "IslandSolver$Body" "IslandSolver$Body" (by decide +kernel))) (kd_recv hK hP hI g_27 rfl rfl) dX3_gain_75 ?_
            refine lv_astore (lv' := [(8, .ref q_23), (0, .ref x), (1, .int (nI j_3)), (2, .int (nI j_7)), (3, .float a), (4, .float b), (5, .float c9), (6, .int c8), (7, .int (nI i))]) hx hb dX3_gain_78 hl (by decide) rfl (fun ls hl => ?_)
            refine lv_aload hx hb dX3_gain_80 (lv_at hl 0 rfl) ?_
            refine kp_get hx hb hts i_X0 hown hK hP hI g_27 rfl rfl 1 (by decide) (by decide) (hts (.fieldLink RX3 156 "IslandSolver$Body" "movable" "Z") (by decide +kernel)) (fun _ h9 => h9) dX3_gain_82 (kq_51 fun h_32 => ?_)
            refine lv_if_eq (tgt := 136) hx hb dX3_gain_85 (by decide) (fun c_33 => ?_) (fun c_33 => ?_)
            · have n_34 : (τ 4 q_23) = 0 := (nI_eq (by omega) (by omega)).mp (show nI (τ 4 q_23) = nI 0 from c_33)
              refine lv_iinc (v := nI (i + 1)) (lv' := [(7, .int (nI (i + 1))), (8, .ref q_23), (0, .ref x), (1, .int (nI j_3)), (2, .int (nI j_7)), (3, .float a), (4, .float b), (5, .float c9), (6, .int c8)]) hx hb dX3_gain_136 hl (k := 8) rfl (nI_add i 1) (by decide) rfl (fun ls hl => ?_)
              refine lv_goto (tgt := 60) hx hb dX3_gain_139 (by decide) ?_
              have hl : lv_has ls 9 [(0, .ref x), (1, .int (nI j_3)), (2, .int (nI j_7)), (3, .float a), (4, .float b), (5, .float c9), (6, .int c8), (7, .int (nI (i + 1)))] := lv_sub hl [2, 3, 4, 5, 6, 7, 8, 0] rfl
              exact ih60 (fun _ _ => .null) _ _ _ _ _ ⟨(i + 1), c8, by omega, hI, hP, hD, hS, hl, by omega⟩
            · have n_35 : ¬ (τ 4 q_23) = 0 := fun h9 => (show ¬ nI (τ 4 q_23) = nI 0 from c_33) ((nI_eq (by omega) (by omega)).mpr h9)
              refine lv_aload hx hb dX3_gain_88 (lv_at hl 0 rfl) ?_
              refine kp_get hx hb hts i_X0 hown hK hP hI g_27 rfl rfl 9 (by decide) (by decide) (hts (.fieldLink RX3 130 "IslandSolver$Body" "v" "LIslandSolver$Vec;") (by decide +kernel)) (fun _ h9 => h9) dX3_gain_90 (kq_R 3 (by decide) fun x_36 h_37 => ?_)
              refine lv_aload hx hb dX3_gain_93 (lv_at hl 0 rfl) ?_
              refine kp_get hx hb hts i_X0 hown hK hP hI g_27 rfl rfl 9 (by decide) (by decide) (hts (.fieldLink RX3 130 "IslandSolver$Body" "v" "LIslandSolver$Vec;") (by decide +kernel)) (fun _ h9 => h9) dX3_gain_95 (kq_R 3 (by decide) fun x_38 h_39 => ?_)
              refine kp_get hx hb hts i_X2 hown hK hP hI h_39 rfl rfl 0 (by decide) (by decide) (hts (.fieldLink RX3 160 "IslandSolver$Vec" "x" "F") (by decide +kernel)) (fun _ h9 => h9) dX3_gain_98 (kq_F (cd := 1535115264) (by decide) fun x_40 h_41 => ?_)
              refine lv_fload_n hx hb dX3_gain_101 rfl (lv_at hl 4 rfl) ?_
              refine kw_satA (M := 1535115264) hx hb dX3_gain_102 h_41 fb_15 (by decide) (by decide) (by decide +kernel) (fun z_42 hz_43 => ?_)
              refine lv_aload hx hb dX3_gain_103 (lv_at hl 0 rfl) ?_
              refine kp_get hx hb hts i_X0 hown hK hP hI g_27 rfl rfl 9 (by decide) (by decide) (hts (.fieldLink RX3 130 "IslandSolver$Body" "v" "LIslandSolver$Vec;") (by decide +kernel)) (fun _ h9 => h9) dX3_gain_105 (kq_R 3 (by decide) fun x_44 h_45 => ?_)
              refine kp_get hx hb hts i_X2 hown hK hP hI h_45 rfl rfl 1 (by decide) (by decide) (hts (.fieldLink RX3 163 "IslandSolver$Vec" "y" "F") (by decide +kernel)) (fun _ h9 => h9) dX3_gain_108 (kq_F (cd := 1535115264) (by decide) fun x_46 h_47 => ?_)
              refine lv_fload hx hb dX3_gain_111 (lv_at hl 5 rfl) ?_
              refine kw_satA (M := 1535115264) hx hb dX3_gain_113 h_47 fb_16 (by decide) (by decide) (by decide +kernel) (fun z_48 hz_49 => ?_)
              refine lv_aload hx hb dX3_gain_114 (lv_at hl 0 rfl) ?_
              refine kp_get hx hb hts i_X0 hown hK hP hI g_27 rfl rfl 9 (by decide) (by decide) (hts (.fieldLink RX3 130 "IslandSolver$Body" "v" "LIslandSolver$Vec;") (by decide +kernel)) (fun _ h9 => h9) dX3_gain_116 (kq_R 3 (by decide) fun x_50 h_51 => ?_)
              refine kp_get hx hb hts i_X2 hown hK hP hI h_51 rfl rfl 2 (by decide) (by decide) (hts (.fieldLink RX3 166 "IslandSolver$Vec" "z" "F") (by decide +kernel)) (fun _ h9 => h9) dX3_gain_119 (kq_F (cd := 1535115264) (by decide) fun x_52 h_53 => ?_)
              refine lv_fload hx hb dX3_gain_122 (lv_at hl 6 rfl) ?_
              refine kw_satA (M := 1535115264) hx hb dX3_gain_124 h_53 fb_17 (by decide) (by decide) (by decide +kernel) (fun z_54 hz_55 => ?_)
              refine kd_callv (va_runV (As := [.float z_42, .float z_48, .float z_54]) (rest := []) ⟨hx, hb, hml, hown, hts⟩ (k_put3 l dC dI dA ad _ τ pv _ _ hI x_36 h_37 z_42 hz_43 z_48 hz_49 z_54 hz_55) (cwV 3 hts gX3_gain_X2_put rfl rfl rfl (by decide +kernel) ⟨Nat.le_of_ble_eq_true rfl, Nat.le_of_ble_eq_true rfl⟩) (kd_preV hP hD hK hS hA hE hI h_37 rfl rfl) rfl rfl hl.1 rfl (lv_room (Nat.le_of_ble_eq_true rfl)) dX3_gain_125 ⟨Nat.le_of_ble_eq_true rfl, Nat.le_of_ble_eq_true rfl⟩) hD hS hA (fun u_56 H locs hw hP hD hS => ?_)
              have hI := hw
              refine lv_aload hx hb dX3_gain_128 (lv_at hl 0 rfl) ?_
              refine kd_callv (va_runV (As := []) (rest := []) ⟨hx, hb, hml, hown, hts⟩ (k_rouse l dC dI dA ad _ τ pv _ _ hI q_23 g_27) (cwV 0 hts gX3_gain_X0_rouse rfl rfl rfl (by decide +kernel) ⟨Nat.le_of_ble_eq_true rfl, Nat.le_of_ble_eq_true rfl⟩) (kd_preV hP hD hK hS hA hE hI g_27 rfl rfl) rfl rfl hl.1 rfl (lv_room (Nat.le_of_ble_eq_true rfl)) dX3_gain_130 ⟨Nat.le_of_ble_eq_true rfl, Nat.le_of_ble_eq_true rfl⟩) hD hS hA (fun u_57 H locs hw hP hD hS => ?_)
              have hI := hw
              refine lv_iinc (v := (c8 + 1)) (lv' := [(6, .int (c8 + 1)), (8, .ref q_23), (0, .ref x), (1, .int (nI j_3)), (2, .int (nI j_7)), (3, .float a), (4, .float b), (5, .float c9), (7, .int (nI i))]) hx hb dX3_gain_133 hl (k := 7) rfl rfl (by decide) rfl (fun ls hl => ?_)
              refine lv_iinc (v := nI (i + 1)) (lv' := [(7, .int (nI (i + 1))), (6, .int (c8 + 1)), (8, .ref q_23), (0, .ref x), (1, .int (nI j_3)), (2, .int (nI j_7)), (3, .float a), (4, .float b), (5, .float c9)]) hx hb dX3_gain_136 hl (k := 8) rfl (nI_add i 1) (by decide) rfl (fun ls hl => ?_)
              refine lv_goto (tgt := 60) hx hb dX3_gain_139 (by decide) ?_
              have hl : lv_has ls 9 [(0, .ref x), (1, .int (nI j_3)), (2, .int (nI j_7)), (3, .float a), (4, .float b), (5, .float c9), (6, .int (c8 + 1)), (7, .int (nI (i + 1)))] := lv_sub hl [3, 4, 5, 6, 7, 8, 1, 0] rfl
              exact ih60 (fun _ _ => .null) _ _ _ _ _ ⟨(i + 1), (c8 + 1), by omega, hI, hP, hD, hS, hl, by omega⟩
        · refine lv_if_eq (tgt := 54) hx hb dX3_gain_41 (by decide) (fun h9 => by first | exact absurd h9 (by decide) | exact absurd (by decide) h9) (fun _ => ?_)
          obtain ⟨sa_59, hsa_59⟩ := hE.str 150 "x, y or z is not -64 .. 64" (by decide +kernel)
          have hat : ∀ w ∈ (vx_atS RX3 82 "java/lang/IllegalArgumentException" ["java/lang/RuntimeException", "java/lang/Exception"]), w.before _ s = true := vx_hat (B := kx_non "java/lang/IllegalArgumentException") (fun w h => hts w (a_82 w h)) (by decide +kernel) (hE.non "java/lang/IllegalArgumentException" (by decide +kernel))
          refine W.widen (k := 1) (n := 6) (Nat.le_of_ble_eq_true rfl) (Nat.le_of_ble_eq_true rfl) ?_
          exact vx_throwS (A := A) (rest := []) hx hb hlt hown (by decide +kernel) (by decide +kernel) (hts (.classLink RX3 78 "java/lang/IllegalArgumentException") (by decide +kernel)) (hts (.initialized "java/lang/IllegalArgumentException") (by decide +kernel)) hsa_59 hat (by decide +kernel) hE.2.2.2.2.2.2.1 hE.2.2.2.2.2.2.2.1 hS (hl.1.trans hml.symm) dX3_gain_44 dX3_gain_47 dX3_gain_48 dX3_gain_50 dX3_gain_53 (fun x h => (ht x h).elim) (Nat.le_of_ble_eq_true rfl) (Nat.le_of_ble_eq_true rfl) (Nat.le_of_ble_eq_true rfl) (Nat.le_of_ble_eq_true rfl) hlocks (fun t hvm hz hk => ⟨(u_12.1, u_12.2), trivial, ⟨⟨Or.inr (rfl), hI⟩, hP.kept (fun k q hq => hk q.1 (hP k q hq).lt), hD⟩, Nat.le_trans hS.1 hz, fun q h1 h2 => (hk q (Nat.lt_of_lt_of_le h1 hS.1)).trans (hS.2.1 q h1 h2)⟩) hS.2.2 (Nat.le_of_ble_eq_true rfl) (Nat.le_of_ble_eq_true rfl)
      · have n_60 : ¬ j_3 ≤ j_7 := fun h9 => (show ¬ nI j_3 ≤ nI j_7 from c_9) ((nI_leI (by omega) (by omega)).mpr h9)
        obtain ⟨sa_61, hsa_61⟩ := hE.str 146 "there are no such bodies" (by decide +kernel)
        have hat : ∀ w ∈ (vx_atS RX3 148 "java/lang/IndexOutOfBoundsException" ["java/lang/RuntimeException", "java/lang/Exception"]), w.before _ s = true := vx_hat (B := kx_non "java/lang/IndexOutOfBoundsException") (fun w h => hts w (a_148 w h)) (by decide +kernel) (hE.non "java/lang/IndexOutOfBoundsException" (by decide +kernel))
        refine W.widen (k := 1) (n := 6) (Nat.le_of_ble_eq_true rfl) (Nat.le_of_ble_eq_true rfl) ?_
        exact vx_throwS (A := A) (rest := []) hx hb hlt hown (by decide +kernel) (by decide +kernel) (hts (.classLink RX3 144 "java/lang/IndexOutOfBoundsException") (by decide +kernel)) (hts (.initialized "java/lang/IndexOutOfBoundsException") (by decide +kernel)) hsa_61 hat (by decide +kernel) hE.2.2.2.2.2.2.1 hE.2.2.2.2.2.2.2.1 hS (hl.1.trans hml.symm) dX3_gain_21 dX3_gain_24 dX3_gain_25 dX3_gain_27 dX3_gain_30 (fun x h => (ht x h).elim) (Nat.le_of_ble_eq_true rfl) (Nat.le_of_ble_eq_true rfl) (Nat.le_of_ble_eq_true rfl) (Nat.le_of_ble_eq_true rfl) hlocks (fun t hvm hz hk => ⟨(u_5.1, u_5.2), trivial, ⟨⟨Or.inl rfl, hI⟩, hP.kept (fun k q hq => hk q.1 (hP k q hq).lt), hD⟩, Nat.le_trans hS.1 hz, fun q h1 h2 => (hk q (Nat.lt_of_lt_of_le h1 hS.1)).trans (hS.2.1 q h1 h2)⟩) hS.2.2 (Nat.le_of_ble_eq_true rfl) (Nat.le_of_ble_eq_true rfl)
    · refine lv_if_eq (tgt := 21) hx hb dX3_gain_13 (by decide) (fun _ => ?_) (fun h9 => by first | exact absurd h9 (by decide) | exact absurd (by decide) h9)
      obtain ⟨sa_62, hsa_62⟩ := hE.str 146 "there are no such bodies" (by decide +kernel)
      have hat : ∀ w ∈ (vx_atS RX3 148 "java/lang/IndexOutOfBoundsException" ["java/lang/RuntimeException", "java/lang/Exception"]), w.before _ s = true := vx_hat (B := kx_non "java/lang/IndexOutOfBoundsException") (fun w h => hts w (a_148 w h)) (by decide +kernel) (hE.non "java/lang/IndexOutOfBoundsException" (by decide +kernel))
      refine W.widen (k := 1) (n := 6) (Nat.le_of_ble_eq_true rfl) (Nat.le_of_ble_eq_true rfl) ?_
      exact vx_throwS (A := A) (rest := []) hx hb hlt hown (by decide +kernel) (by decide +kernel) (hts (.classLink RX3 144 "java/lang/IndexOutOfBoundsException") (by decide +kernel)) (hts (.initialized "java/lang/IndexOutOfBoundsException") (by decide +kernel)) hsa_62 hat (by decide +kernel) hE.2.2.2.2.2.2.1 hE.2.2.2.2.2.2.2.1 hS (hl.1.trans hml.symm) dX3_gain_21 dX3_gain_24 dX3_gain_25 dX3_gain_27 dX3_gain_30 (fun x h => (ht x h).elim) (Nat.le_of_ble_eq_true rfl) (Nat.le_of_ble_eq_true rfl) (Nat.le_of_ble_eq_true rfl) (Nat.le_of_ble_eq_true rfl) hlocks (fun t hvm hz hk => ⟨(u_5.1, u_5.2), trivial, ⟨⟨Or.inl rfl, hI⟩, hP.kept (fun k q hq => hk q.1 (hP k q hq).lt), hD⟩, Nat.le_trans hS.1 hz, fun q h1 h2 => (hk q (Nat.lt_of_lt_of_le h1 hS.1)).trans (hS.2.1 q h1 h2)⟩) hS.2.2 (Nat.le_of_ble_eq_true rfl) (Nat.le_of_ble_eq_true rfl)
  · refine lv_if_eq (tgt := 21) hx hb dX3_gain_5 (by decide) (fun _ => ?_) (fun h9 => by first | exact absurd h9 (by decide) | exact absurd (by decide) h9)
    obtain ⟨sa_63, hsa_63⟩ := hE.str 146 "there are no such bodies" (by decide +kernel)
    have hat : ∀ w ∈ (vx_atS RX3 148 "java/lang/IndexOutOfBoundsException" ["java/lang/RuntimeException", "java/lang/Exception"]), w.before _ s = true := vx_hat (B := kx_non "java/lang/IndexOutOfBoundsException") (fun w h => hts w (a_148 w h)) (by decide +kernel) (hE.non "java/lang/IndexOutOfBoundsException" (by decide +kernel))
    refine W.widen (k := 1) (n := 6) (Nat.le_of_ble_eq_true rfl) (Nat.le_of_ble_eq_true rfl) ?_
    exact vx_throwS (A := A) (rest := []) hx hb hlt hown (by decide +kernel) (by decide +kernel) (hts (.classLink RX3 144 "java/lang/IndexOutOfBoundsException") (by decide +kernel)) (hts (.initialized "java/lang/IndexOutOfBoundsException") (by decide +kernel)) hsa_63 hat (by decide +kernel) hE.2.2.2.2.2.2.1 hE.2.2.2.2.2.2.2.1 hS (hl.1.trans hml.symm) dX3_gain_21 dX3_gain_24 dX3_gain_25 dX3_gain_27 dX3_gain_30 (fun x h => (ht x h).elim) (Nat.le_of_ble_eq_true rfl) (Nat.le_of_ble_eq_true rfl) (Nat.le_of_ble_eq_true rfl) (Nat.le_of_ble_eq_true rfl) hlocks (fun t hvm hz hk => ⟨(u_1.1, u_1.2), trivial, ⟨⟨Or.inl rfl, hI⟩, hP.kept (fun k q hq => hk q.1 (hP k q hq).lt), hD⟩, Nat.le_trans hS.1 hz, fun q h1 h2 => (hk q (Nat.lt_of_lt_of_le h1 hS.1)).trans (hS.2.1 q h1 h2)⟩) hS.2.2 (Nat.le_of_ble_eq_true rfl) (Nat.le_of_ble_eq_true rfl)
set_option maxHeartbeats 4000000 in
set_option maxRecDepth 100000 in
theorem k_p_wake (l : Launch) (dC : Nat → ClassId) (dI : Nat → Nat → Nat) (dA : Nat → ClassId) (ad sz : Nat) (τ : Nat → Nat → Nat) (pv : Nat → Nat → Value) (L : List Nat) (f : Nat → va_E) (hI : kI dA τ pv L f) (x bl rl kl ba ra ka fr nb nr nk : Nat) (hW : kW τ pv ad x bl rl kl ba ra ka fr nb nr nk) (n : Int32) (hlt : l.stackTraces = false) : vx_Met l yX3_wake wsX3_wake ({ frames := 7, cells := 2, slots := 12, locals := 103 } : Room) (va_Pc [.ref x, .int n] (kB dC dI dA ad sz L f)) (va_Qi (fun r u => kPost dA τ pv ad x ba ra nb nr nb nr u) (kR dC dI dA (va_A (va_pl L f) sz)) (va_A (va_pl L f) sz)) (kX dC dI (fun E u => (E = "java/lang/IndexOutOfBoundsException") ∧ kI dA τ pv u.1 u.2) (va_A (va_pl L f) sz)) 2 12 (va_A (va_pl L f) sz) := by
  refine vx_ofW (cc := cX3_wake) (maxL := 4) (ret := (some .boolean)) (by decide) rfl ?_
  intro p e s m args below meth c s₁ B hml ht hv
  obtain ⟨rfl, hsz, hP, hK, hD0, hE⟩ := hv
  have hx := B.exec
  have hb := B.bytes
  have hr := B.returns
  have hts := atoms_spec (ws := wsX3_wake) B.pre
  have hown : s.vm.findClass RX3 = some m.cls := findClass_of_methodNamed B.named
  have hlocks := B.notSynchronized
  have i_X0 : ∀ w ∈ u_ws RX0 TX0 16, w ∈ wsX3_wake := by decide +kernel
  subst hsz
  have hD := hD0.self (sz := s.heap.size)
  generalize hAe : va_A (va_pl L f) s.heap.size = A at hD hE ⊢
  have hA : ∀ q : Nat, s.heap.size ≤ q → A q := fun q h => by rw [← hAe]; exact Or.inr h
  have hS : va_S A s.heap s.heap [] := va_S.rf
  have hP : va_P (dC, dI) vwCl (va_pl L f) s.heap := hP
  have hK : va_K (dC, dI) vwCl (tyA dA) s := hK
  have hl := lv_entry ([.ref x, .int n]) (n := 4) (Nat.le_of_ble_eq_true rfl)
  rw [lg_entry_eq]
  generalize (lg_sl ([.ref x, .int n]) ++ List.replicate (4 - (lg_sl ([.ref x, .int n])).length) Slot.unset).toArray = ls at hl ⊢
  have hl : lv_has ls 4 [(0, .ref x), (1, .int n)] := hl
  have hnb := hW.lnb
  have hnr := hW.lnr
  have hnk := hW.lnk
  have hF : kFr kPm τ pv τ pv := kFr.rf
  have hW00 := hW
  refine lv_aload_n hx hb dX3_wake_0 rfl (lv_at hl 0 rfl) ?_
  refine lv_iload_n hx hb dX3_wake_1 rfl (lv_at hl 1 rfl) ?_
  refine kd_xq (vx_runV (As := [.int n]) (rest := []) ⟨hx, hb, hml, hown, hts⟩ (k_bodyAt l dC dI dA ad _ τ pv _ _ hI x bl rl kl ba ra ka fr nb nr nk hW n hlt) (cwV 1 hts gX3_wake_X3_bodyAt rfl rfl rfl (by decide +kernel) ⟨Nat.le_of_ble_eq_true rfl, Nat.le_of_ble_eq_true rfl⟩) (kd_preV hP hD hK hS hA hE hI hW.tx rfl rfl) rfl rfl hl.1 rfl (lv_room (Nat.le_of_ble_eq_true rfl)) dX3_wake_2 ⟨Nat.le_of_ble_eq_true rfl, Nat.le_of_ble_eq_true rfl⟩) hD hS hA (fun E ce q9 u_1 H locs hw hP hD hS hce hcv hcl => ?_) (fun r_2 u_1 H locs hw hP hD hS => ?_)
  · obtain ⟨hE9, hI⟩ := hw
    have hE9 := hE9.1
    exact vx_out (fun x h => (ht x h).elim) hlocks hce hcv hcl (fun t ht hvm => ⟨(u_1.1, u_1.2), trivial, ⟨⟨hE9, hI⟩, by rw [ht]; exact hP, hD⟩, hS.F ht⟩) hS.2.2 (Nat.le_of_ble_eq_true rfl) (Nat.le_of_ble_eq_true rfl)
  · obtain ⟨j_4, hj_4, rfl, q_3, rfl, pq_3, tq_3, nq_3, hI⟩ := hw
    refine W.eq (g2 := F0 m 5 ls [.ref q_3]) rfl ?_
    refine lv_astore_n (lv' := [(2, .ref q_3), (0, .ref x), (1, .int (nI j_4))]) hx hb dX3_wake_5 rfl hl (by decide) rfl (fun ls hl => ?_)
    refine lv_aload_n hx hb dX3_wake_6 rfl (lv_at hl 0 rfl) ?_
    refine kp_get hx hb hts i_X0 hown hK hP hI tq_3 rfl rfl 11 (by decide) (by decide) (hts (.fieldLink RX3 169 "IslandSolver$Body" "asleep" "Z") (by decide +kernel)) (fun _ h9 => h9) dX3_wake_7 (kq_Z fun x_5 h_6 => ?_)
    refine lv_istore_n (lv' := [(3, .int x_5), (2, .ref q_3), (0, .ref x), (1, .int (nI j_4))]) hx hb dX3_wake_10 rfl hl (by decide) rfl (fun ls hl => ?_)
    refine lv_aload_n hx hb dX3_wake_11 rfl (lv_at hl 1 rfl) ?_
    refine kd_callv (va_runV (As := []) (rest := []) ⟨hx, hb, hml, hown, hts⟩ (k_rouse l dC dI dA ad _ τ pv _ _ hI q_3 tq_3) (cwV 0 hts gX3_wake_X0_rouse rfl rfl rfl (by decide +kernel) ⟨Nat.le_of_ble_eq_true rfl, Nat.le_of_ble_eq_true rfl⟩) (kd_preV hP hD hK hS hA hE hI tq_3 rfl rfl) rfl rfl hl.1 rfl (lv_room (Nat.le_of_ble_eq_true rfl)) dX3_wake_12 ⟨Nat.le_of_ble_eq_true rfl, Nat.le_of_ble_eq_true rfl⟩) hD hS hA (fun u_7 H locs hw hP hD hS => ?_)
    have hI := hw
    refine lv_iload_n hx hb dX3_wake_15 rfl (lv_at hl 0 rfl) ?_
    refine vx_ret ?_
    refine W.widen (k := 2) (n := 12) (Nat.le_of_ble_eq_true rfl) (Nat.le_of_ble_eq_true rfl) ?_
    exact W.zret (ty := .boolean) (v := x_5) hx hb hr (kz_nar h_6) (fun t ht hW9 => ⟨⟨x_5, (u_7.1, u_7.2), rfl, ⟨_, _, bl, rl, kl, ba, ra, ka, fr, nk, hF.weak kPm_C, hW, hW00.eqB hF (fun _ => rfl), fun i hi _ => hW00.eqR hF (fun _ => rfl) i hi, hI⟩, by rw [ht]; exact hP, va_K.moved hW9.alike hK, hD⟩, hS.F ht⟩) hS.2.2 dX3_wake_16
set_option maxHeartbeats 4000000 in
set_option maxRecDepth 100000 in
theorem k_p_vector (l : Launch) (dC : Nat → ClassId) (dI : Nat → Nat → Nat) (dA : Nat → ClassId) (ad sz : Nat) (τ : Nat → Nat → Nat) (pv : Nat → Nat → Value) (L : List Nat) (f : Nat → va_E) (hI : kI dA τ pv L f) (x bl rl kl ba ra ka fr nb nr nk : Nat) (hW : kW τ pv ad x bl rl kl ba ra ka fr nb nr nk) (n : Int32) (a : UInt32) (b : UInt32) (c9 : UInt32) (hlt : l.stackTraces = false) : vx_Met l yX3_vector wsX3_vector ({ frames := 6, cells := 2, slots := 12, locals := 82 } : Room) (va_Pc [.ref x, .int n, .float a, .float b, .float c9] (kB dC dI dA ad sz L f)) (va_Qv (fun u => kc_vector n a b c9 = 0 ∧ kPost dA τ pv ad x ba ra nb nr nb nr u) (kR dC dI dA (va_A (va_pl L f) sz)) (va_A (va_pl L f) sz)) (kX dC dI (fun E u => ((E = "java/lang/IndexOutOfBoundsException" ∧ kc_vector n a b c9 = 1) ∨ (E = "java/lang/IllegalArgumentException" ∧ kc_vector n a b c9 = 2)) ∧ kI dA τ pv u.1 u.2) (va_A (va_pl L f) sz)) 2 12 (va_A (va_pl L f) sz) := by
  refine vx_ofW (cc := cX3_vector) (maxL := 6) (ret := none) (by decide) rfl ?_
  intro p e s m args below meth c s₁ B hml ht hv
  obtain ⟨rfl, hsz, hP, hK, hD0, hE⟩ := hv
  have hx := B.exec
  have hb := B.bytes
  have hr := B.returns
  have hts := atoms_spec (ws := wsX3_vector) B.pre
  have hown : s.vm.findClass RX3 = some m.cls := findClass_of_methodNamed B.named
  have hlocks := B.notSynchronized
  have a_148 : ∀ w ∈ (vx_atS RX3 148 "java/lang/IndexOutOfBoundsException" ["java/lang/RuntimeException", "java/lang/Exception"]).filter goodWord, w ∈ wsX3_vector := fun _ h => List.mem_cons_of_mem _ (List.mem_append_left _ (List.mem_append_right _ h))
  have i_X3 : ∀ w ∈ u_ws RX3 TX3 16, w ∈ wsX3_vector := by decide +kernel
  have a_82 : ∀ w ∈ (vx_atS RX3 82 "java/lang/IllegalArgumentException" ["java/lang/RuntimeException", "java/lang/Exception"]).filter goodWord, w ∈ wsX3_vector := fun _ h => List.mem_cons_of_mem _ (List.mem_append_right _ h)
  subst hsz
  have hD := hD0.self (sz := s.heap.size)
  generalize hAe : va_A (va_pl L f) s.heap.size = A at hD hE ⊢
  have hA : ∀ q : Nat, s.heap.size ≤ q → A q := fun q h => by rw [← hAe]; exact Or.inr h
  have hS : va_S A s.heap s.heap [] := va_S.rf
  have hP : va_P (dC, dI) vwCl (va_pl L f) s.heap := hP
  have hK : va_K (dC, dI) vwCl (tyA dA) s := hK
  have hl := lv_entry ([.ref x, .int n, .float a, .float b, .float c9]) (n := 6) (Nat.le_of_ble_eq_true rfl)
  rw [lg_entry_eq]
  generalize (lg_sl ([.ref x, .int n, .float a, .float b, .float c9]) ++ List.replicate (6 - (lg_sl ([.ref x, .int n, .float a, .float b, .float c9])).length) Slot.unset).toArray = ls at hl ⊢
  have hl : lv_has ls 6 [(0, .ref x), (1, .int n), (2, .float a), (3, .float b), (4, .float c9)] := hl
  have hnb := hW.lnb
  have hnr := hW.lnr
  have hnk := hW.lnk
  have hF : kFr kPm τ pv τ pv := kFr.rf
  have hW00 := hW
  refine lv_iload_n hx hb dX3_vector_0 rfl (lv_at hl 1 rfl) ?_
  refine lv_if_lt (tgt := 9) hx hb dX3_vector_1 (by decide) (fun c_1 => ?_) (fun c_1 => ?_)
  · obtain ⟨sa_2, hsa_2⟩ := hE.str 172 "the pad has no such vector" (by decide +kernel)
    have hat : ∀ w ∈ (vx_atS RX3 148 "java/lang/IndexOutOfBoundsException" ["java/lang/RuntimeException", "java/lang/Exception"]), w.before _ s = true := vx_hat (B := kx_non "java/lang/IndexOutOfBoundsException") (fun w h => hts w (a_148 w h)) (by decide +kernel) (hE.non "java/lang/IndexOutOfBoundsException" (by decide +kernel))
    refine W.widen (k := 1) (n := 6) (Nat.le_of_ble_eq_true rfl) (Nat.le_of_ble_eq_true rfl) ?_
    exact vx_throwS (A := A) (rest := []) hx hb hlt hown (by decide +kernel) (by decide +kernel) (hts (.classLink RX3 144 "java/lang/IndexOutOfBoundsException") (by decide +kernel)) (hts (.initialized "java/lang/IndexOutOfBoundsException") (by decide +kernel)) hsa_2 hat (by decide +kernel) hE.2.2.2.2.2.2.1 hE.2.2.2.2.2.2.2.1 hS (hl.1.trans hml.symm) dX3_vector_9 dX3_vector_12 dX3_vector_13 dX3_vector_15 dX3_vector_18 (fun x h => (ht x h).elim) (Nat.le_of_ble_eq_true rfl) (Nat.le_of_ble_eq_true rfl) (Nat.le_of_ble_eq_true rfl) (Nat.le_of_ble_eq_true rfl) hlocks (fun t hvm hz hk => ⟨(L, f), trivial, ⟨⟨Or.inl ⟨rfl, (by simp only [kc_vector, c_1, decide_true, decide_false, Bool.not_true, Bool.not_false, Bool.and_true, Bool.true_and, Bool.and_false, Bool.false_and, Bool.and_self, Bool.false_eq_true, if_true, if_false, ite_true, ite_false, reduceIte] <;> decide)⟩, hI⟩, hP.kept (fun k q hq => hk q.1 (hP k q hq).lt), hD⟩, Nat.le_trans hS.1 hz, fun q h1 h2 => (hk q (Nat.lt_of_lt_of_le h1 hS.1)).trans (hS.2.1 q h1 h2)⟩) hS.2.2 (Nat.le_of_ble_eq_true rfl) (Nat.le_of_ble_eq_true rfl)
  · refine lv_iload_n hx hb dX3_vector_4 rfl (lv_at hl 1 rfl) ?_
    refine lv_iconst (v := 2) hx hb dX3_vector_5 (by decide) ?_
    refine lv_icmp_le (tgt := 19) hx hb dX3_vector_6 (by decide) (fun c_3 => ?_) (fun c_3 => ?_)
    · refine lv_fload_n hx hb dX3_vector_19 rfl (lv_at hl 2 rfl) ?_
      refine lv_fload_n hx hb dX3_vector_20 rfl (lv_at hl 3 rfl) ?_
      refine lv_fload hx hb dX3_vector_21 (lv_at hl 4 rfl) ?_
      refine lv_ldcf (v := 1115684864) hx hb hown (hts (.constantFloat RX3 149 (1115684864)) (by decide +kernel)) dX3_vector_23 ?_
      have hc_4 : fb 1115684864 1115684864 := by unfold fb; decide +kernel
      refine kd_calli (va_runS (As := [.float a, .float b, .float c9, .float 1115684864]) (rest := []) ⟨hx, hb, hml, hown, hts⟩ (k_any1115684864 l dC dI dA ad _ τ pv _ _ hI a b c9) (va_cwS 4 hts gX3_vector_X3_anyOutside rfl rfl rfl (by decide +kernel) ⟨Nat.le_of_ble_eq_true rfl, Nat.le_of_ble_eq_true rfl⟩) (kd_preS hP hD hK hS hA hE) rfl rfl hl.1 rfl (lv_room (Nat.le_of_ble_eq_true rfl)) dX3_vector_25 ⟨Nat.le_of_ble_eq_true rfl, Nat.le_of_ble_eq_true rfl⟩) hD hS hA (fun r_6 u_5 H locs hw hP hD hS => ?_)
      obtain ⟨⟨k_7, rfl, fb_8, fb_9, fb_10⟩ | ⟨k_7, rfl⟩, hI⟩ := hw
      · refine lv_if_eq (tgt := 41) hx hb dX3_vector_28 (by decide) (fun _ => ?_) (fun h9 => by first | exact absurd h9 (by decide) | exact absurd (by decide) h9)
        refine lv_iload_n hx hb dX3_vector_41 rfl (lv_at hl 1 rfl) ?_
        refine lv_if_ne (tgt := 52) hx hb dX3_vector_42 (by decide) (fun c_11 => ?_) (fun c_11 => ?_)
        · refine lv_iload_n hx hb dX3_vector_52 rfl (lv_at hl 1 rfl) ?_
          refine lv_iconst (v := 1) hx hb dX3_vector_53 (by decide) ?_
          refine lv_icmp_ne (tgt := 64) hx hb dX3_vector_54 (by decide) (fun c_12 => ?_) (fun c_12 => ?_)
          · refine lv_aload_n hx hb dX3_vector_64 rfl (lv_at hl 0 rfl) ?_
            refine kp_get hx hb hts i_X3 hown hK hP hI hW.tx rfl rfl 5 (by decide) (by decide) (hts (.fieldLink RX3 32 "IslandSolver" "padQ" "LIslandSolver$Vec;") (by decide +kernel)) (fun _ h9 => h9) dX3_vector_65 (kq_R 4 (by decide) fun x_13 h_14 => ?_)
            refine lv_astore (lv' := [(5, .ref x_13), (0, .ref x), (1, .int n), (2, .float a), (3, .float b), (4, .float c9)]) hx hb dX3_vector_68 hl (by decide) rfl (fun ls hl => ?_)
            refine lv_aload hx hb dX3_vector_70 (lv_at hl 0 rfl) ?_
            refine lv_fload_n hx hb dX3_vector_72 rfl (lv_at hl 3 rfl) ?_
            refine lv_fload_n hx hb dX3_vector_73 rfl (lv_at hl 4 rfl) ?_
            refine lv_fload hx hb dX3_vector_74 (lv_at hl 5 rfl) ?_
            refine kd_callv (va_runV (As := [.float a, .float b, .float c9]) (rest := []) ⟨hx, hb, hml, hown, hts⟩ (k_put4 l dC dI dA ad _ τ pv _ _ hI x_13 h_14 a fb_8 b fb_9 c9 fb_10) (cwV 3 hts gX3_vector_X2_put rfl rfl rfl (by decide +kernel) ⟨Nat.le_of_ble_eq_true rfl, Nat.le_of_ble_eq_true rfl⟩) (kd_preV hP hD hK hS hA hE hI h_14 rfl rfl) rfl rfl hl.1 rfl (lv_room (Nat.le_of_ble_eq_true rfl)) dX3_vector_76 ⟨Nat.le_of_ble_eq_true rfl, Nat.le_of_ble_eq_true rfl⟩) hD hS hA (fun u_15 H locs hw hP hD hS => ?_)
            have hI := hw
            refine vx_ret ?_
            refine W.widen (k := 2) (n := 12) (Nat.le_of_ble_eq_true rfl) (Nat.le_of_ble_eq_true rfl) ?_
            exact W.vret hx hb hr (fun t ht hW9 => ⟨⟨(u_15.1, u_15.2), rfl, ⟨(by simp only [kc_vector, c_1, (Int32.not_lt.mpr c_3), k_7, decide_true, decide_false, Bool.not_true, Bool.not_false, Bool.and_true, Bool.true_and, Bool.and_false, Bool.false_and, Bool.and_self, Bool.false_eq_true, if_true, if_false, ite_true, ite_false, reduceIte] <;> decide), ⟨_, _, bl, rl, kl, ba, ra, ka, fr, nk, hF.weak kPm_C, hW, hW00.eqB hF (fun _ => rfl), fun i hi _ => hW00.eqR hF (fun _ => rfl) i hi, hI⟩⟩, by rw [ht]; exact hP, va_K.moved hW9.alike hK, hD⟩, hS.F ht⟩) hS.2.2 dX3_vector_79
          · refine lv_aload_n hx hb dX3_vector_57 rfl (lv_at hl 0 rfl) ?_
            refine kp_get hx hb hts i_X3 hown hK hP hI hW.tx rfl rfl 4 (by decide) (by decide) (hts (.fieldLink RX3 29 "IslandSolver" "padP" "LIslandSolver$Vec;") (by decide +kernel)) (fun _ h9 => h9) dX3_vector_58 (kq_R 4 (by decide) fun x_16 h_17 => ?_)
            refine lv_goto (tgt := 68) hx hb dX3_vector_61 (by decide) ?_
            refine lv_astore (lv' := [(5, .ref x_16), (0, .ref x), (1, .int n), (2, .float a), (3, .float b), (4, .float c9)]) hx hb dX3_vector_68 hl (by decide) rfl (fun ls hl => ?_)
            refine lv_aload hx hb dX3_vector_70 (lv_at hl 0 rfl) ?_
            refine lv_fload_n hx hb dX3_vector_72 rfl (lv_at hl 3 rfl) ?_
            refine lv_fload_n hx hb dX3_vector_73 rfl (lv_at hl 4 rfl) ?_
            refine lv_fload hx hb dX3_vector_74 (lv_at hl 5 rfl) ?_
            refine kd_callv (va_runV (As := [.float a, .float b, .float c9]) (rest := []) ⟨hx, hb, hml, hown, hts⟩ (k_put4 l dC dI dA ad _ τ pv _ _ hI x_16 h_17 a fb_8 b fb_9 c9 fb_10) (cwV 3 hts gX3_vector_X2_put rfl rfl rfl (by decide +kernel) ⟨Nat.le_of_ble_eq_true rfl, Nat.le_of_ble_eq_true rfl⟩) (kd_preV hP hD hK hS hA hE hI h_17 rfl rfl) rfl rfl hl.1 rfl (lv_room (Nat.le_of_ble_eq_true rfl)) dX3_vector_76 ⟨Nat.le_of_ble_eq_true rfl, Nat.le_of_ble_eq_true rfl⟩) hD hS hA (fun u_18 H locs hw hP hD hS => ?_)
            have hI := hw
            refine vx_ret ?_
            refine W.widen (k := 2) (n := 12) (Nat.le_of_ble_eq_true rfl) (Nat.le_of_ble_eq_true rfl) ?_
            exact W.vret hx hb hr (fun t ht hW9 => ⟨⟨(u_18.1, u_18.2), rfl, ⟨(by simp only [kc_vector, c_1, (Int32.not_lt.mpr c_3), k_7, decide_true, decide_false, Bool.not_true, Bool.not_false, Bool.and_true, Bool.true_and, Bool.and_false, Bool.false_and, Bool.and_self, Bool.false_eq_true, if_true, if_false, ite_true, ite_false, reduceIte] <;> decide), ⟨_, _, bl, rl, kl, ba, ra, ka, fr, nk, hF.weak kPm_C, hW, hW00.eqB hF (fun _ => rfl), fun i hi _ => hW00.eqR hF (fun _ => rfl) i hi, hI⟩⟩, by rw [ht]; exact hP, va_K.moved hW9.alike hK, hD⟩, hS.F ht⟩) hS.2.2 dX3_vector_79
        · refine lv_aload_n hx hb dX3_vector_45 rfl (lv_at hl 0 rfl) ?_
          refine kp_get hx hb hts i_X3 hown hK hP hI hW.tx rfl rfl 3 (by decide) (by decide) (hts (.fieldLink RX3 25 "IslandSolver" "padN" "LIslandSolver$Vec;") (by decide +kernel)) (fun _ h9 => h9) dX3_vector_46 (kq_R 4 (by decide) fun x_19 h_20 => ?_)
          refine lv_goto (tgt := 68) hx hb dX3_vector_49 (by decide) ?_
          refine lv_astore (lv' := [(5, .ref x_19), (0, .ref x), (1, .int n), (2, .float a), (3, .float b), (4, .float c9)]) hx hb dX3_vector_68 hl (by decide) rfl (fun ls hl => ?_)
          refine lv_aload hx hb dX3_vector_70 (lv_at hl 0 rfl) ?_
          refine lv_fload_n hx hb dX3_vector_72 rfl (lv_at hl 3 rfl) ?_
          refine lv_fload_n hx hb dX3_vector_73 rfl (lv_at hl 4 rfl) ?_
          refine lv_fload hx hb dX3_vector_74 (lv_at hl 5 rfl) ?_
          refine kd_callv (va_runV (As := [.float a, .float b, .float c9]) (rest := []) ⟨hx, hb, hml, hown, hts⟩ (k_put4 l dC dI dA ad _ τ pv _ _ hI x_19 h_20 a fb_8 b fb_9 c9 fb_10) (cwV 3 hts gX3_vector_X2_put rfl rfl rfl (by decide +kernel) ⟨Nat.le_of_ble_eq_true rfl, Nat.le_of_ble_eq_true rfl⟩) (kd_preV hP hD hK hS hA hE hI h_20 rfl rfl) rfl rfl hl.1 rfl (lv_room (Nat.le_of_ble_eq_true rfl)) dX3_vector_76 ⟨Nat.le_of_ble_eq_true rfl, Nat.le_of_ble_eq_true rfl⟩) hD hS hA (fun u_21 H locs hw hP hD hS => ?_)
          have hI := hw
          refine vx_ret ?_
          refine W.widen (k := 2) (n := 12) (Nat.le_of_ble_eq_true rfl) (Nat.le_of_ble_eq_true rfl) ?_
          exact W.vret hx hb hr (fun t ht hW9 => ⟨⟨(u_21.1, u_21.2), rfl, ⟨(by simp only [kc_vector, c_1, (Int32.not_lt.mpr c_3), k_7, decide_true, decide_false, Bool.not_true, Bool.not_false, Bool.and_true, Bool.true_and, Bool.and_false, Bool.false_and, Bool.and_self, Bool.false_eq_true, if_true, if_false, ite_true, ite_false, reduceIte] <;> decide), ⟨_, _, bl, rl, kl, ba, ra, ka, fr, nk, hF.weak kPm_C, hW, hW00.eqB hF (fun _ => rfl), fun i hi _ => hW00.eqR hF (fun _ => rfl) i hi, hI⟩⟩, by rw [ht]; exact hP, va_K.moved hW9.alike hK, hD⟩, hS.F ht⟩) hS.2.2 dX3_vector_79
      · refine lv_if_eq (tgt := 41) hx hb dX3_vector_28 (by decide) (fun h9 => by first | exact absurd h9 (by decide) | exact absurd (by decide) h9) (fun _ => ?_)
        obtain ⟨sa_22, hsa_22⟩ := hE.str 150 "x, y or z is not -64 .. 64" (by decide +kernel)
        have hat : ∀ w ∈ (vx_atS RX3 82 "java/lang/IllegalArgumentException" ["java/lang/RuntimeException", "java/lang/Exception"]), w.before _ s = true := vx_hat (B := kx_non "java/lang/IllegalArgumentException") (fun w h => hts w (a_82 w h)) (by decide +kernel) (hE.non "java/lang/IllegalArgumentException" (by decide +kernel))
        refine W.widen (k := 1) (n := 6) (Nat.le_of_ble_eq_true rfl) (Nat.le_of_ble_eq_true rfl) ?_
        exact vx_throwS (A := A) (rest := []) hx hb hlt hown (by decide +kernel) (by decide +kernel) (hts (.classLink RX3 78 "java/lang/IllegalArgumentException") (by decide +kernel)) (hts (.initialized "java/lang/IllegalArgumentException") (by decide +kernel)) hsa_22 hat (by decide +kernel) hE.2.2.2.2.2.2.1 hE.2.2.2.2.2.2.2.1 hS (hl.1.trans hml.symm) dX3_vector_31 dX3_vector_34 dX3_vector_35 dX3_vector_37 dX3_vector_40 (fun x h => (ht x h).elim) (Nat.le_of_ble_eq_true rfl) (Nat.le_of_ble_eq_true rfl) (Nat.le_of_ble_eq_true rfl) (Nat.le_of_ble_eq_true rfl) hlocks (fun t hvm hz hk => ⟨(u_5.1, u_5.2), trivial, ⟨⟨Or.inr (⟨rfl, (by simp only [kc_vector, c_1, (Int32.not_lt.mpr c_3), k_7, decide_true, decide_false, Bool.not_true, Bool.not_false, Bool.and_true, Bool.true_and, Bool.and_false, Bool.false_and, Bool.and_self, Bool.false_eq_true, if_true, if_false, ite_true, ite_false, reduceIte] <;> decide)⟩), hI⟩, hP.kept (fun k q hq => hk q.1 (hP k q hq).lt), hD⟩, Nat.le_trans hS.1 hz, fun q h1 h2 => (hk q (Nat.lt_of_lt_of_le h1 hS.1)).trans (hS.2.1 q h1 h2)⟩) hS.2.2 (Nat.le_of_ble_eq_true rfl) (Nat.le_of_ble_eq_true rfl)
    · obtain ⟨sa_23, hsa_23⟩ := hE.str 172 "the pad has no such vector" (by decide +kernel)
      have hat : ∀ w ∈ (vx_atS RX3 148 "java/lang/IndexOutOfBoundsException" ["java/lang/RuntimeException", "java/lang/Exception"]), w.before _ s = true := vx_hat (B := kx_non "java/lang/IndexOutOfBoundsException") (fun w h => hts w (a_148 w h)) (by decide +kernel) (hE.non "java/lang/IndexOutOfBoundsException" (by decide +kernel))
      refine W.widen (k := 1) (n := 6) (Nat.le_of_ble_eq_true rfl) (Nat.le_of_ble_eq_true rfl) ?_
      exact vx_throwS (A := A) (rest := []) hx hb hlt hown (by decide +kernel) (by decide +kernel) (hts (.classLink RX3 144 "java/lang/IndexOutOfBoundsException") (by decide +kernel)) (hts (.initialized "java/lang/IndexOutOfBoundsException") (by decide +kernel)) hsa_23 hat (by decide +kernel) hE.2.2.2.2.2.2.1 hE.2.2.2.2.2.2.2.1 hS (hl.1.trans hml.symm) dX3_vector_9 dX3_vector_12 dX3_vector_13 dX3_vector_15 dX3_vector_18 (fun x h => (ht x h).elim) (Nat.le_of_ble_eq_true rfl) (Nat.le_of_ble_eq_true rfl) (Nat.le_of_ble_eq_true rfl) (Nat.le_of_ble_eq_true rfl) hlocks (fun t hvm hz hk => ⟨(L, f), trivial, ⟨⟨Or.inl ⟨rfl, (by simp only [kc_vector, c_1, (Int32.not_le.mp c_3), decide_true, decide_false, Bool.not_true, Bool.not_false, Bool.and_true, Bool.true_and, Bool.and_false, Bool.false_and, Bool.and_self, Bool.false_eq_true, if_true, if_false, ite_true, ite_false, reduceIte] <;> decide)⟩, hI⟩, hP.kept (fun k q hq => hk q.1 (hP k q hq).lt), hD⟩, Nat.le_trans hS.1 hz, fun q h1 h2 => (hk q (Nat.lt_of_lt_of_le h1 hS.1)).trans (hS.2.1 q h1 h2)⟩) hS.2.2 (Nat.le_of_ble_eq_true rfl) (Nat.le_of_ble_eq_true rfl)
