set_option maxHeartbeats 4000000 in
set_option maxRecDepth 100000 in
theorem k_p_body (l : Launch) (dC : Nat → ClassId) (dI : Nat → Nat → Nat) (dA : Nat → ClassId) (ad sz : Nat) (τ : Nat → Nat → Nat) (pv : Nat → Nat → Value) (L : List Nat) (f : Nat → va_E) (hI : kI dA τ pv L f) (x bl rl kl ba ra ka fr nb nr nk : Nat) (hW : kW τ pv ad x bl rl kl ba ra ka fr nb nr nk) (a : UInt32) (b : UInt32) (c9 : UInt32) (d9 : UInt32) (hlt : l.stackTraces = false) : vx_Met l yX3_body wsX3_body ({ frames := 7, cells := 5, slots := 1640, locals := 166 } : Room) (va_Pc [.ref x, .float a, .float b, .float c9, .float d9] (kB dC dI dA ad sz L f)) (va_Qi (fun r u => kc_body2 nb a b c9 d9 = 0 ∧ r = nI nb ∧ kPost dA τ pv ad x ba ra nb nr (nb + 1) nr u) (kR dC dI dA (va_A (va_pl L f) sz)) (va_A (va_pl L f) sz)) (kX dC dI (fun E u => ((E = "java/lang/IllegalArgumentException" ∧ kc_body2 nb a b c9 d9 = 1) ∨ (E = "java/lang/IllegalStateException" ∧ kc_body2 nb a b c9 d9 = 2)) ∧ kI dA τ pv u.1 u.2) (va_A (va_pl L f) sz)) 5 1640 (va_A (va_pl L f) sz) := by
  refine vx_ofW (cc := cX3_body) (maxL := 6) (ret := (some .int)) (by decide) rfl ?_
  intro p e s m args below meth c s₁ B hml ht hv
  obtain ⟨rfl, hsz, hP, hK, hD0, hE⟩ := hv
  have hx := B.exec
  have hb := B.bytes
  have hr := B.returns
  have hts := atoms_spec (ws := wsX3_body) B.pre
  have hown : s.vm.findClass RX3 = some m.cls := findClass_of_methodNamed B.named
  have hlocks := B.notSynchronized
  have i_X3 : ∀ w ∈ u_ws RX3 TX3 16, w ∈ wsX3_body := by decide +kernel
  have i_X0 : ∀ w ∈ u_ws RX0 TX0 16, w ∈ wsX3_body := by decide +kernel
  have a_93 : ∀ w ∈ (vx_atS RX3 93 "java/lang/IllegalStateException" ["java/lang/RuntimeException", "java/lang/Exception"]).filter goodWord, w ∈ wsX3_body := fun _ h => List.mem_cons_of_mem _ (List.mem_append_right _ h)
  have a_82 : ∀ w ∈ (vx_atS RX3 82 "java/lang/IllegalArgumentException" ["java/lang/RuntimeException", "java/lang/Exception"]).filter goodWord, w ∈ wsX3_body := fun _ h => List.mem_cons_of_mem _ (List.mem_append_left _ (List.mem_append_right _ h))
  subst hsz
  have hD := hD0.self (sz := s.heap.size)
  generalize hAe : va_A (va_pl L f) s.heap.size = A at hD hE ⊢
  have hA : ∀ q : Nat, s.heap.size ≤ q → A q := fun q h => by rw [← hAe]; exact Or.inr h
  have hS : va_S A s.heap s.heap [] := va_S.rf
  have hP : va_P (dC, dI) vwCl (va_pl L f) s.heap := hP
  have hK : va_K (dC, dI) vwCl (tyA dA) s := hK
  have hl := lv_entry ([.ref x, .float a, .float b, .float c9, .float d9]) (n := 6) (Nat.le_of_ble_eq_true rfl)
  rw [lg_entry_eq]
  generalize (lg_sl ([.ref x, .float a, .float b, .float c9, .float d9]) ++ List.replicate (6 - (lg_sl ([.ref x, .float a, .float b, .float c9, .float d9])).length) Slot.unset).toArray = ls at hl ⊢
  have hl : lv_has ls 6 [(0, .ref x), (1, .float a), (2, .float b), (3, .float c9), (4, .float d9)] := hl
  have hnb := hW.lnb
  have hnr := hW.lnr
  have hnk := hW.lnk
  have hF : kFr kPt τ pv τ pv := kFr.rf
  have hW00 := hW
  refine lv_fload_n hx hb dX3_body_0 rfl (lv_at hl 1 rfl) ?_
  refine lv_fconst0 hx hb dX3_body_1 ?_
  refine lv_ldcf (v := 1098907648) hx hb hown (hts (.constantFloat RX3 73 (1098907648)) (by decide +kernel)) dX3_body_2 ?_
  have hc_1 : fb 1098907648 1098907648 := by unfold fb; decide +kernel
  refine kd_calli (va_runS (As := [.float a, .float FP.fconst0, .float 1098907648]) (rest := []) ⟨hx, hb, hml, hown, hts⟩ (k_outside l dC dI dA ad _ τ pv _ _ hI a FP.fconst0 1098907648) (va_cwS 3 hts gX3_body_X3_outside rfl rfl rfl (by decide +kernel) ⟨Nat.le_of_ble_eq_true rfl, Nat.le_of_ble_eq_true rfl⟩) (kd_preS hP hD hK hS hA hE) rfl rfl hl.1 rfl (lv_room (Nat.le_of_ble_eq_true rfl)) dX3_body_4 ⟨Nat.le_of_ble_eq_true rfl, Nat.le_of_ble_eq_true rfl⟩) hD hS hA (fun r_3 u_2 H locs hw hP hD hS => ?_)
  obtain ⟨⟨k_4, rfl⟩ | ⟨k_4, rfl⟩, hI⟩ := hw
  · have fb_5 : fb 1098907648 a := fb_within (fb_le kc_0 (by decide)) hc_1 (by decide) k_4
    refine lv_if_ne (tgt := 41) hx hb dX3_body_7 (by decide) (fun h9 => by first | exact absurd h9 (by decide) | exact absurd (by decide) h9) (fun _ => ?_)
    refine lv_fload_n hx hb dX3_body_10 rfl (lv_at hl 2 rfl) ?_
    refine lv_fconst0 hx hb dX3_body_11 ?_
    refine lv_ldcf (v := 1098907648) hx hb hown (hts (.constantFloat RX3 73 (1098907648)) (by decide +kernel)) dX3_body_12 ?_
    have hc_6 : fb 1098907648 1098907648 := by unfold fb; decide +kernel
    refine kd_calli (va_runS (As := [.float b, .float FP.fconst0, .float 1098907648]) (rest := []) ⟨hx, hb, hml, hown, hts⟩ (k_outside l dC dI dA ad _ τ pv _ _ hI b FP.fconst0 1098907648) (va_cwS 3 hts gX3_body_X3_outside rfl rfl rfl (by decide +kernel) ⟨Nat.le_of_ble_eq_true rfl, Nat.le_of_ble_eq_true rfl⟩) (kd_preS hP hD hK hS hA hE) rfl rfl hl.1 rfl (lv_room (Nat.le_of_ble_eq_true rfl)) dX3_body_14 ⟨Nat.le_of_ble_eq_true rfl, Nat.le_of_ble_eq_true rfl⟩) hD hS hA (fun r_8 u_7 H locs hw hP hD hS => ?_)
    obtain ⟨⟨k_9, rfl⟩ | ⟨k_9, rfl⟩, hI⟩ := hw
    · have fb_10 : fb 1098907648 b := fb_within (fb_le kc_0 (by decide)) hc_6 (by decide) k_9
      refine lv_if_ne (tgt := 41) hx hb dX3_body_17 (by decide) (fun h9 => by first | exact absurd h9 (by decide) | exact absurd (by decide) h9) (fun _ => ?_)
      refine lv_fload_n hx hb dX3_body_20 rfl (lv_at hl 3 rfl) ?_
      refine lv_fconst0 hx hb dX3_body_21 ?_
      refine lv_ldcf (v := 1098907648) hx hb hown (hts (.constantFloat RX3 73 (1098907648)) (by decide +kernel)) dX3_body_22 ?_
      have hc_11 : fb 1098907648 1098907648 := by unfold fb; decide +kernel
      refine kd_calli (va_runS (As := [.float c9, .float FP.fconst0, .float 1098907648]) (rest := []) ⟨hx, hb, hml, hown, hts⟩ (k_outside l dC dI dA ad _ τ pv _ _ hI c9 FP.fconst0 1098907648) (va_cwS 3 hts gX3_body_X3_outside rfl rfl rfl (by decide +kernel) ⟨Nat.le_of_ble_eq_true rfl, Nat.le_of_ble_eq_true rfl⟩) (kd_preS hP hD hK hS hA hE) rfl rfl hl.1 rfl (lv_room (Nat.le_of_ble_eq_true rfl)) dX3_body_24 ⟨Nat.le_of_ble_eq_true rfl, Nat.le_of_ble_eq_true rfl⟩) hD hS hA (fun r_13 u_12 H locs hw hP hD hS => ?_)
      obtain ⟨⟨k_14, rfl⟩ | ⟨k_14, rfl⟩, hI⟩ := hw
      · have fb_15 : fb 1098907648 c9 := fb_within (fb_le kc_0 (by decide)) hc_11 (by decide) k_14
        refine lv_if_ne (tgt := 41) hx hb dX3_body_27 (by decide) (fun h9 => by first | exact absurd h9 (by decide) | exact absurd (by decide) h9) (fun _ => ?_)
        refine lv_fload hx hb dX3_body_30 (lv_at hl 4 rfl) ?_
        refine lv_fconst0 hx hb dX3_body_32 ?_
        refine lv_ldcf (v := 1098907648) hx hb hown (hts (.constantFloat RX3 73 (1098907648)) (by decide +kernel)) dX3_body_33 ?_
        have hc_16 : fb 1098907648 1098907648 := by unfold fb; decide +kernel
        refine kd_calli (va_runS (As := [.float d9, .float FP.fconst0, .float 1098907648]) (rest := []) ⟨hx, hb, hml, hown, hts⟩ (k_outside l dC dI dA ad _ τ pv _ _ hI d9 FP.fconst0 1098907648) (va_cwS 3 hts gX3_body_X3_outside rfl rfl rfl (by decide +kernel) ⟨Nat.le_of_ble_eq_true rfl, Nat.le_of_ble_eq_true rfl⟩) (kd_preS hP hD hK hS hA hE) rfl rfl hl.1 rfl (lv_room (Nat.le_of_ble_eq_true rfl)) dX3_body_35 ⟨Nat.le_of_ble_eq_true rfl, Nat.le_of_ble_eq_true rfl⟩) hD hS hA (fun r_18 u_17 H locs hw hP hD hS => ?_)
        obtain ⟨⟨k_19, rfl⟩ | ⟨k_19, rfl⟩, hI⟩ := hw
        · have fb_20 : fb 1098907648 d9 := fb_within (fb_le kc_0 (by decide)) hc_16 (by decide) k_19
          refine lv_if_eq (tgt := 51) hx hb dX3_body_38 (by decide) (fun _ => ?_) (fun h9 => by first | exact absurd h9 (by decide) | exact absurd (by decide) h9)
          refine lv_aload_n hx hb dX3_body_51 rfl (lv_at hl 0 rfl) ?_
          refine kp_get hx hb hts i_X3 hown hK hP hI hW.tx rfl rfl 0 (by decide) (by decide) (hts (.fieldLink RX3 10 "IslandSolver" "bodies" "Ljava/util/ArrayList;") (by decide +kernel)) (fun _ h9 => h9) dX3_body_52 (kq_P (v0 := .ref bl) rfl hW.p0 fun h_22 => ?_)
          refine kd_calli (va_runV (As := []) (rest := []) ⟨hx, hb, hml, hown, hts⟩ (k_size7 l dC dI dA ad _ τ pv _ _ hI bl nb hW.lb.1 hW.lb.2.2.1) (cwV 0 hts gX3_body_Jx4a65c_size_8abf5 rfl rfl rfl (by decide +kernel) ⟨Nat.le_of_ble_eq_true rfl, Nat.le_of_ble_eq_true rfl⟩) (kd_preV hP hD hK hS hA hE hI hW.lb.1 rfl rfl) rfl rfl hl.1 rfl (lv_room (Nat.le_of_ble_eq_true rfl)) dX3_body_55 ⟨Nat.le_of_ble_eq_true rfl, Nat.le_of_ble_eq_true rfl⟩) hD hS hA (fun r_24 u_23 H locs hw hP hD hS => ?_)
          obtain ⟨rfl, hI⟩ := hw
          refine lv_sipush (v := 256) hx hb dX3_body_58 (by decide) ?_
          refine lv_icmp_lt (tgt := 74) hx hb dX3_body_61 (by decide) (fun c_25 => ?_) (fun c_25 => ?_)
          · have n_26 : nb < 256 := (nI_ltI (by omega) (by omega)).mp (show nI nb < nI 256 from c_25)
            refine lv_aload_n hx hb dX3_body_74 rfl (lv_at hl 0 rfl) ?_
            refine kp_get hx hb hts i_X3 hown hK hP hI hW.tx rfl rfl 0 (by decide) (by decide) (hts (.fieldLink RX3 10 "IslandSolver" "bodies" "Ljava/util/ArrayList;") (by decide +kernel)) (fun _ h9 => h9) dX3_body_75 (kq_P (v0 := .ref bl) rfl hW.p0 fun h_28 => ?_)
            refine kd_calli (va_runV (As := []) (rest := []) ⟨hx, hb, hml, hown, hts⟩ (k_size7 l dC dI dA ad _ τ pv _ _ hI bl nb hW.lb.1 hW.lb.2.2.1) (cwV 0 hts gX3_body_Jx4a65c_size_8abf5 rfl rfl rfl (by decide +kernel) ⟨Nat.le_of_ble_eq_true rfl, Nat.le_of_ble_eq_true rfl⟩) (kd_preV hP hD hK hS hA hE hI hW.lb.1 rfl rfl) rfl rfl hl.1 rfl (lv_room (Nat.le_of_ble_eq_true rfl)) dX3_body_78 ⟨Nat.le_of_ble_eq_true rfl, Nat.le_of_ble_eq_true rfl⟩) hD hS hA (fun r_30 u_29 H locs hw hP hD hS => ?_)
            obtain ⟨rfl, hI⟩ := hw
            refine lv_istore (lv' := [(5, .int (nI nb)), (0, .ref x), (1, .float a), (2, .float b), (3, .float c9), (4, .float d9)]) hx hb dX3_body_81 hl (by decide) rfl (fun ls hl => ?_)
            refine lv_aload_n hx hb dX3_body_83 rfl (lv_at hl 1 rfl) ?_
            refine kp_get hx hb hts i_X3 hown hK hP hI hW.tx rfl rfl 0 (by decide) (by decide) (hts (.fieldLink RX3 10 "IslandSolver" "bodies" "Ljava/util/ArrayList;") (by decide +kernel)) (fun _ h9 => h9) dX3_body_84 (kq_P (v0 := .ref bl) rfl hW.p0 fun h_32 => ?_)
            refine kp_new (ci := 1) (fs := kb0) (C := RX0) (T := TX0) (N := 16) hx hb hts i_X0 tyX0 tyX0_ok hown (hts (.classLink RX3 94 "IslandSolver$Body") (by decide +kernel)) (hts (.instantiable RX0 16) (by decide +kernel)) (hts (.initialized RX0) (by decide +kernel)) hK hP hD hS hA rfl (fun j hj => by rcases (show j = 0 ∨ j = 1 ∨ j = 2 ∨ j = 3 ∨ j = 4 ∨ j = 5 ∨ j = 6 ∨ j = 7 ∨ j = 8 ∨ j = 9 ∨ j = 10 ∨ j = 11 ∨ j = 12 ∨ j = 13 ∨ j = 14 ∨ j = 15 by omega) with rfl | rfl | rfl | rfl | rfl | rfl | rfl | rfl | rfl | rfl | rfl | rfl | rfl | rfl | rfl | rfl <;> rfl) (Nat.le_of_ble_eq_true rfl) (Nat.le_of_ble_eq_true rfl) dX3_body_87 (fun q_33 H hqL hP hD hS => ?_)
            have h0q_33 : τ 0 q_33 = 0 := hI.t0 hqL
            have hI := hI.rawB hqL
            obtain ⟨τ_33, hτ_33⟩ : ∃ z, z = kxt τ q_33 (fun j => if j = 0 then 40 else 0) := ⟨_, rfl⟩
            obtain ⟨pv_33, hpv_33⟩ : ∃ z, z = kux pv q_33 (fun k => kb0.getD k .null) := ⟨_, rfl⟩
            rw [← hτ_33, ← hpv_33] at hI
            have hF_33 : kFr kPt τ pv τ_33 pv_33 := by rw [hτ_33, hpv_33]; exact kFr.new (Or.inl h0q_33)
            have hpq_33 : ∀ k, pv_33 q_33 k = kb0.getD k .null := fun k => by rw [hpv_33]; exact kux_self k
            have tq_33 : τ_33 0 q_33 = 40 := by rw [hτ_33]; exact kxt_self 0
            have hW := hW.frk (hF_33.weak (fun _ _ _ => rfl))
            have hF := hF.trans hF_33
            refine W.widen (k := 1) (n := 16) (by omega) (by omega) ?_
            refine lv_dup hx hb dX3_body_90 rfl ?_
            refine lv_iload hx hb dX3_body_91 (lv_at hl 0 rfl) ?_
            refine lv_fload_n hx hb dX3_body_93 rfl (lv_at hl 2 rfl) ?_
            refine lv_fload_n hx hb dX3_body_94 rfl (lv_at hl 3 rfl) ?_
            refine lv_fload_n hx hb dX3_body_95 rfl (lv_at hl 4 rfl) ?_
            refine lv_fload hx hb dX3_body_96 (lv_at hl 5 rfl) ?_
            refine kd_callv (va_runI (As := [.int (nI nb), .float a, .float b, .float c9, .float d9]) (rest := [.ref q_33, .ref bl]) ⟨hx, hb, hml, hown, hts⟩ (k_BodyInit l dC dI dA ad _ τ_33 pv_33 _ _ hI q_33 nb tq_33 (by omega) hpq_33 a b c9 d9 fb_5 fb_10 fb_15 fb_20) (cwI 5 hts gX3_body_X0_init rfl rfl rfl (hts (.initialized RX0) (by decide +kernel)) (hts (.methodLink RX3 96 yX0_init) (by decide +kernel)) (hts (.instanceMethod yX0_init) (by decide +kernel)) rfl (by decide +kernel) ⟨Nat.le_of_ble_eq_true rfl, Nat.le_of_ble_eq_true rfl⟩) (kd_preS hP hD hK hS hA hE) rfl rfl hl.1 rfl (lv_room (Nat.le_of_ble_eq_true rfl)) dX3_body_98 ⟨Nat.le_of_ble_eq_true rfl, Nat.le_of_ble_eq_true rfl⟩) hD hS hA (fun u_34 H locs hw hP hD hS => ?_)
            obtain ⟨τ4, pv4, hF9, t2a, t2n, hI⟩ := hw
            have hW := hW.frk (hF9.weak (fun _ _ _ => rfl))
            have hF := hF.trans hF9
            have had := (kad hE hD hI).2
            have hw4 := hW.lb.2.2.2
            rcases hw4 with ⟨e1, e2⟩ | ⟨hta, hla, hel⟩
            · have ha : pv4 bl 1 = .ref ad := by rw [← e1]; exact hW.lb.2.1
              have hn : pv4 bl 2 = .int 0 := by have h9 := hW.lb.2.2.1; rw [e2] at h9; exact h9
              refine kd_calli (va_runV (As := [.ref q_33]) (rest := []) ⟨hx, hb, hml, hown, hts⟩ (k_add1F7 l dC dI dA ad _ τ4 pv4 _ _ hI bl q_33 hW.lb.1 t2a ha hn) (cwV 1 hts gX3_body_Jx4a65c_add_9ea2d rfl rfl rfl (by decide +kernel) ⟨Nat.le_of_ble_eq_true rfl, Nat.le_of_ble_eq_true rfl⟩) (kd_preV hP hD hK hS hA hE hI hW.lb.1 rfl rfl) rfl rfl hl.1 rfl (lv_room (Nat.le_of_ble_eq_true rfl)) dX3_body_101 ⟨Nat.le_of_ble_eq_true rfl, Nat.le_of_ble_eq_true rfl⟩) hD hS hA (fun r_36 u_35 H locs hw hP hD hS => ?_)
              obtain ⟨a2, τ2, pv2, ht2, ha2, hp2, hl1, hl2, hq0, hq3, hqi, hqn, hI⟩ := hw
              have had2 := (kad hE hD hI).2
              have han : a2 ≠ ad := fun e9 => by rw [e9, had2] at hq0; cases hq0
              have hl2 : pv2 bl 2 = .int (nI (nb + 1)) := by rw [e2]; exact hl2
              have ha2 : a2 = ba ∨ τ4 0 a2 = 0 := by rw [e1]; exact ha2
              have hp2 : ∀ b k, τ4 0 b ≠ 0 → b ≠ bl → b ≠ ba → pv2 b k = pv4 b k := by rw [e1]; exact hp2
              have hq3 : nb + 1 ≤ τ2 3 a2 := by rw [e2]; exact hq3
              have hqi : ∀ i, i < nb → pv2 a2 i = pv4 ba i := by rw [e2]; exact fun i hi => absurd hi (Nat.not_lt_zero i)
              have hqn : pv2 a2 nb = .ref q_33 := by rw [e2]; exact hqn
              have hE9 : ∀ i, i < nb → pv2 a2 i = pv ba i := fun i hi => (hqi i hi).trans (hW00.eqB hF (fun _ => rfl) i hi)
              have hFa : kFr kPmB τ4 pv4 τ2 pv2 := kFr.add (ta := 9) hW.lb.1 (Or.inr (by rw [e1]; exact had)) (fun _ => rfl) (fun _ => rfl) ht2 hp2
              have hW := hW.addB (by omega) had t2a t2n ht2 ha2 hp2 hl1 hl2 hq0 hq3 hqi hqn
              have hF := (hF.weak (fun _ _ _ => rfl)).trans hFa
              refine lv_pop hx hb dX3_body_104 rfl ?_
              refine lv_iload hx hb dX3_body_105 (lv_at hl 0 rfl) ?_
              refine vx_ret ?_
              refine W.widen (k := 5) (n := 1640) (Nat.le_of_ble_eq_true rfl) (Nat.le_of_ble_eq_true rfl) ?_
              exact W.iret (v := nI nb) hx hb hr (fun t ht hW9 => ⟨⟨nI nb, (u_35.1, u_35.2), rfl, ⟨(by simp only [kc_body2, k_4, k_9, k_14, k_19, n_26, decide_true, decide_false, Bool.not_true, Bool.not_false, Bool.and_true, Bool.true_and, Bool.and_false, Bool.false_and, Bool.and_self, Bool.false_eq_true, if_true, if_false, ite_true, ite_false, reduceIte] <;> decide), rfl, ⟨_, _, bl, rl, kl, a2, ra, ka, fr, nk, hF.weak kPmB_C, hW, hE9, fun i hi _ => hW00.eqR hF (fun _ => rfl) i hi, hI⟩⟩, by rw [ht]; exact hP, va_K.moved hW9.alike hK, hD⟩, hS.F ht⟩) hS.2.2 dX3_body_107
            · refine kd_calli (va_runV (As := [.ref q_33]) (rest := []) ⟨hx, hb, hml, hown, hts⟩ (k_add1A7 l dC dI dA ad _ τ4 pv4 _ _ hI bl q_33 ba nb hW.lb.1 t2a hW.lb.2.1 hW.lb.2.2.1 hta hla (by omega) hel) (cwV 1 hts gX3_body_Jx4a65c_add_9ea2d rfl rfl rfl (by decide +kernel) ⟨Nat.le_of_ble_eq_true rfl, Nat.le_of_ble_eq_true rfl⟩) (kd_preV hP hD hK hS hA hE hI hW.lb.1 rfl rfl) rfl rfl hl.1 rfl (lv_room (Nat.le_of_ble_eq_true rfl)) dX3_body_101 ⟨Nat.le_of_ble_eq_true rfl, Nat.le_of_ble_eq_true rfl⟩) hD hS hA (fun r_38 u_37 H locs hw hP hD hS => ?_)
              obtain ⟨a2, τ2, pv2, ht2, ha2, hp2, hl1, hl2, hq0, hq3, hqi, hqn, hI⟩ := hw
              have had2 := (kad hE hD hI).2
              have han : a2 ≠ ad := fun e9 => by rw [e9, had2] at hq0; cases hq0
              have hE9 : ∀ i, i < nb → pv2 a2 i = pv ba i := fun i hi => (hqi i hi).trans (hW00.eqB hF (fun _ => rfl) i hi)
              have hFa : kFr kPmB τ4 pv4 τ2 pv2 := kFr.add (ta := 9) hW.lb.1 (Or.inl hta) (fun _ => rfl) (fun _ => rfl) ht2 hp2
              have hW := hW.addB (by omega) had t2a t2n ht2 ha2 hp2 hl1 hl2 hq0 hq3 hqi hqn
              have hF := (hF.weak (fun _ _ _ => rfl)).trans hFa
              refine lv_pop hx hb dX3_body_104 rfl ?_
              refine lv_iload hx hb dX3_body_105 (lv_at hl 0 rfl) ?_
              refine vx_ret ?_
              refine W.widen (k := 5) (n := 1640) (Nat.le_of_ble_eq_true rfl) (Nat.le_of_ble_eq_true rfl) ?_
              exact W.iret (v := nI nb) hx hb hr (fun t ht hW9 => ⟨⟨nI nb, (u_37.1, u_37.2), rfl, ⟨(by simp only [kc_body2, k_4, k_9, k_14, k_19, n_26, decide_true, decide_false, Bool.not_true, Bool.not_false, Bool.and_true, Bool.true_and, Bool.and_false, Bool.false_and, Bool.and_self, Bool.false_eq_true, if_true, if_false, ite_true, ite_false, reduceIte] <;> decide), rfl, ⟨_, _, bl, rl, kl, a2, ra, ka, fr, nk, hF.weak kPmB_C, hW, hE9, fun i hi _ => hW00.eqR hF (fun _ => rfl) i hi, hI⟩⟩, by rw [ht]; exact hP, va_K.moved hW9.alike hK, hD⟩, hS.F ht⟩) hS.2.2 dX3_body_107
          · have n_39 : ¬ nb < 256 := fun h9 => (show ¬ nI nb < nI 256 from c_25) ((nI_ltI (by omega) (by omega)).mpr h9)
            obtain ⟨sa_40, hsa_40⟩ := hE.str 91 "there are 256 bodies" (by decide +kernel)
            have hat : ∀ w ∈ (vx_atS RX3 93 "java/lang/IllegalStateException" ["java/lang/RuntimeException", "java/lang/Exception"]), w.before _ s = true := vx_hat (B := kx_non "java/lang/IllegalStateException") (fun w h => hts w (a_93 w h)) (by decide +kernel) (hE.non "java/lang/IllegalStateException" (by decide +kernel))
            refine W.widen (k := 4) (n := 1634) (Nat.le_of_ble_eq_true rfl) (Nat.le_of_ble_eq_true rfl) ?_
            exact vx_throwS (A := A) (rest := []) hx hb hlt hown (by decide +kernel) (by decide +kernel) (hts (.classLink RX3 89 "java/lang/IllegalStateException") (by decide +kernel)) (hts (.initialized "java/lang/IllegalStateException") (by decide +kernel)) hsa_40 hat (by decide +kernel) hE.2.2.2.2.2.2.1 hE.2.2.2.2.2.2.2.1 hS (hl.1.trans hml.symm) dX3_body_64 dX3_body_67 dX3_body_68 dX3_body_70 dX3_body_73 (fun x h => (ht x h).elim) (Nat.le_of_ble_eq_true rfl) (Nat.le_of_ble_eq_true rfl) (Nat.le_of_ble_eq_true rfl) (Nat.le_of_ble_eq_true rfl) hlocks (fun t hvm hz hk => ⟨(u_23.1, u_23.2), trivial, ⟨⟨Or.inr (⟨rfl, (by simp only [kc_body2, k_4, k_9, k_14, k_19, n_39, decide_true, decide_false, Bool.not_true, Bool.not_false, Bool.and_true, Bool.true_and, Bool.and_false, Bool.false_and, Bool.and_self, Bool.false_eq_true, if_true, if_false, ite_true, ite_false, reduceIte] <;> decide)⟩), hI⟩, hP.kept (fun k q hq => hk q.1 (hP k q hq).lt), hD⟩, Nat.le_trans hS.1 hz, fun q h1 h2 => (hk q (Nat.lt_of_lt_of_le h1 hS.1)).trans (hS.2.1 q h1 h2)⟩) hS.2.2 (Nat.le_of_ble_eq_true rfl) (Nat.le_of_ble_eq_true rfl)
        · refine lv_if_eq (tgt := 51) hx hb dX3_body_38 (by decide) (fun h9 => by first | exact absurd h9 (by decide) | exact absurd (by decide) h9) (fun _ => ?_)
          obtain ⟨sa_41, hsa_41⟩ := hE.str 80 "inverse mass or inertia is not 0 .. 16" (by decide +kernel)
          have hat : ∀ w ∈ (vx_atS RX3 82 "java/lang/IllegalArgumentException" ["java/lang/RuntimeException", "java/lang/Exception"]), w.before _ s = true := vx_hat (B := kx_non "java/lang/IllegalArgumentException") (fun w h => hts w (a_82 w h)) (by decide +kernel) (hE.non "java/lang/IllegalArgumentException" (by decide +kernel))
          refine W.widen (k := 4) (n := 1634) (Nat.le_of_ble_eq_true rfl) (Nat.le_of_ble_eq_true rfl) ?_
          exact vx_throwS (A := A) (rest := []) hx hb hlt hown (by decide +kernel) (by decide +kernel) (hts (.classLink RX3 78 "java/lang/IllegalArgumentException") (by decide +kernel)) (hts (.initialized "java/lang/IllegalArgumentException") (by decide +kernel)) hsa_41 hat (by decide +kernel) hE.2.2.2.2.2.2.1 hE.2.2.2.2.2.2.2.1 hS (hl.1.trans hml.symm) dX3_body_41 dX3_body_44 dX3_body_45 dX3_body_47 dX3_body_50 (fun x h => (ht x h).elim) (Nat.le_of_ble_eq_true rfl) (Nat.le_of_ble_eq_true rfl) (Nat.le_of_ble_eq_true rfl) (Nat.le_of_ble_eq_true rfl) hlocks (fun t hvm hz hk => ⟨(u_17.1, u_17.2), trivial, ⟨⟨Or.inl ⟨rfl, (by simp only [kc_body2, k_4, k_9, k_14, k_19, decide_true, decide_false, Bool.not_true, Bool.not_false, Bool.and_true, Bool.true_and, Bool.and_false, Bool.false_and, Bool.and_self, Bool.false_eq_true, if_true, if_false, ite_true, ite_false, reduceIte] <;> decide)⟩, hI⟩, hP.kept (fun k q hq => hk q.1 (hP k q hq).lt), hD⟩, Nat.le_trans hS.1 hz, fun q h1 h2 => (hk q (Nat.lt_of_lt_of_le h1 hS.1)).trans (hS.2.1 q h1 h2)⟩) hS.2.2 (Nat.le_of_ble_eq_true rfl) (Nat.le_of_ble_eq_true rfl)
      · refine lv_if_ne (tgt := 41) hx hb dX3_body_27 (by decide) (fun _ => ?_) (fun h9 => by first | exact absurd h9 (by decide) | exact absurd (by decide) h9)
        obtain ⟨sa_42, hsa_42⟩ := hE.str 80 "inverse mass or inertia is not 0 .. 16" (by decide +kernel)
        have hat : ∀ w ∈ (vx_atS RX3 82 "java/lang/IllegalArgumentException" ["java/lang/RuntimeException", "java/lang/Exception"]), w.before _ s = true := vx_hat (B := kx_non "java/lang/IllegalArgumentException") (fun w h => hts w (a_82 w h)) (by decide +kernel) (hE.non "java/lang/IllegalArgumentException" (by decide +kernel))
        refine W.widen (k := 4) (n := 1634) (Nat.le_of_ble_eq_true rfl) (Nat.le_of_ble_eq_true rfl) ?_
        exact vx_throwS (A := A) (rest := []) hx hb hlt hown (by decide +kernel) (by decide +kernel) (hts (.classLink RX3 78 "java/lang/IllegalArgumentException") (by decide +kernel)) (hts (.initialized "java/lang/IllegalArgumentException") (by decide +kernel)) hsa_42 hat (by decide +kernel) hE.2.2.2.2.2.2.1 hE.2.2.2.2.2.2.2.1 hS (hl.1.trans hml.symm) dX3_body_41 dX3_body_44 dX3_body_45 dX3_body_47 dX3_body_50 (fun x h => (ht x h).elim) (Nat.le_of_ble_eq_true rfl) (Nat.le_of_ble_eq_true rfl) (Nat.le_of_ble_eq_true rfl) (Nat.le_of_ble_eq_true rfl) hlocks (fun t hvm hz hk => ⟨(u_12.1, u_12.2), trivial, ⟨⟨Or.inl ⟨rfl, (by simp only [kc_body2, k_4, k_9, k_14, decide_true, decide_false, Bool.not_true, Bool.not_false, Bool.and_true, Bool.true_and, Bool.and_false, Bool.false_and, Bool.and_self, Bool.false_eq_true, if_true, if_false, ite_true, ite_false, reduceIte] <;> decide)⟩, hI⟩, hP.kept (fun k q hq => hk q.1 (hP k q hq).lt), hD⟩, Nat.le_trans hS.1 hz, fun q h1 h2 => (hk q (Nat.lt_of_lt_of_le h1 hS.1)).trans (hS.2.1 q h1 h2)⟩) hS.2.2 (Nat.le_of_ble_eq_true rfl) (Nat.le_of_ble_eq_true rfl)
    · refine lv_if_ne (tgt := 41) hx hb dX3_body_17 (by decide) (fun _ => ?_) (fun h9 => by first | exact absurd h9 (by decide) | exact absurd (by decide) h9)
      obtain ⟨sa_43, hsa_43⟩ := hE.str 80 "inverse mass or inertia is not 0 .. 16" (by decide +kernel)
      have hat : ∀ w ∈ (vx_atS RX3 82 "java/lang/IllegalArgumentException" ["java/lang/RuntimeException", "java/lang/Exception"]), w.before _ s = true := vx_hat (B := kx_non "java/lang/IllegalArgumentException") (fun w h => hts w (a_82 w h)) (by decide +kernel) (hE.non "java/lang/IllegalArgumentException" (by decide +kernel))
      refine W.widen (k := 4) (n := 1634) (Nat.le_of_ble_eq_true rfl) (Nat.le_of_ble_eq_true rfl) ?_
      exact vx_throwS (A := A) (rest := []) hx hb hlt hown (by decide +kernel) (by decide +kernel) (hts (.classLink RX3 78 "java/lang/IllegalArgumentException") (by decide +kernel)) (hts (.initialized "java/lang/IllegalArgumentException") (by decide +kernel)) hsa_43 hat (by decide +kernel) hE.2.2.2.2.2.2.1 hE.2.2.2.2.2.2.2.1 hS (hl.1.trans hml.symm) dX3_body_41 dX3_body_44 dX3_body_45 dX3_body_47 dX3_body_50 (fun x h => (ht x h).elim) (Nat.le_of_ble_eq_true rfl) (Nat.le_of_ble_eq_true rfl) (Nat.le_of_ble_eq_true rfl) (Nat.le_of_ble_eq_true rfl) hlocks (fun t hvm hz hk => ⟨(u_7.1, u_7.2), trivial, ⟨⟨Or.inl ⟨rfl, (by simp only [kc_body2, k_4, k_9, decide_true, decide_false, Bool.not_true, Bool.not_false, Bool.and_true, Bool.true_and, Bool.and_false, Bool.false_and, Bool.and_self, Bool.false_eq_true, if_true, if_false, ite_true, ite_false, reduceIte] <;> decide)⟩, hI⟩, hP.kept (fun k q hq => hk q.1 (hP k q hq).lt), hD⟩, Nat.le_trans hS.1 hz, fun q h1 h2 => (hk q (Nat.lt_of_lt_of_le h1 hS.1)).trans (hS.2.1 q h1 h2)⟩) hS.2.2 (Nat.le_of_ble_eq_true rfl) (Nat.le_of_ble_eq_true rfl)
  · refine lv_if_ne (tgt := 41) hx hb dX3_body_7 (by decide) (fun _ => ?_) (fun h9 => by first | exact absurd h9 (by decide) | exact absurd (by decide) h9)
    obtain ⟨sa_44, hsa_44⟩ := hE.str 80 "inverse mass or inertia is not 0 .. 16" (by decide +kernel)
    have hat : ∀ w ∈ (vx_atS RX3 82 "java/lang/IllegalArgumentException" ["java/lang/RuntimeException", "java/lang/Exception"]), w.before _ s = true := vx_hat (B := kx_non "java/lang/IllegalArgumentException") (fun w h => hts w (a_82 w h)) (by decide +kernel) (hE.non "java/lang/IllegalArgumentException" (by decide +kernel))
    refine W.widen (k := 4) (n := 1634) (Nat.le_of_ble_eq_true rfl) (Nat.le_of_ble_eq_true rfl) ?_
    exact vx_throwS (A := A) (rest := []) hx hb hlt hown (by decide +kernel) (by decide +kernel) (hts (.classLink RX3 78 "java/lang/IllegalArgumentException") (by decide +kernel)) (hts (.initialized "java/lang/IllegalArgumentException") (by decide +kernel)) hsa_44 hat (by decide +kernel) hE.2.2.2.2.2.2.1 hE.2.2.2.2.2.2.2.1 hS (hl.1.trans hml.symm) dX3_body_41 dX3_body_44 dX3_body_45 dX3_body_47 dX3_body_50 (fun x h => (ht x h).elim) (Nat.le_of_ble_eq_true rfl) (Nat.le_of_ble_eq_true rfl) (Nat.le_of_ble_eq_true rfl) (Nat.le_of_ble_eq_true rfl) hlocks (fun t hvm hz hk => ⟨(u_2.1, u_2.2), trivial, ⟨⟨Or.inl ⟨rfl, (by simp only [kc_body2, k_4, decide_true, decide_false, Bool.not_true, Bool.not_false, Bool.and_true, Bool.true_and, Bool.and_false, Bool.false_and, Bool.and_self, Bool.false_eq_true, if_true, if_false, ite_true, ite_false, reduceIte] <;> decide)⟩, hI⟩, hP.kept (fun k q hq => hk q.1 (hP k q hq).lt), hD⟩, Nat.le_trans hS.1 hz, fun q h1 h2 => (hk q (Nat.lt_of_lt_of_le h1 hS.1)).trans (hS.2.1 q h1 h2)⟩) hS.2.2 (Nat.le_of_ble_eq_true rfl) (Nat.le_of_ble_eq_true rfl)
