set_option maxHeartbeats 4000000 in
set_option maxRecDepth 100000 in
theorem k_p_row (l : Launch) (dC : Nat → ClassId) (dI : Nat → Nat → Nat) (dA : Nat → ClassId) (ad sz : Nat) (τ : Nat → Nat → Nat) (pv : Nat → Nat → Value) (L : List Nat) (f : Nat → va_E) (hI : kI dA τ pv L f) (x bl rl kl ba ra ka fr nb nr nk : Nat) (hW : kW τ pv ad x bl rl kl ba ra ka fr nb nr nk) (n k : Int32) (a : UInt32) (b : UInt32) (c9 : UInt32) (d9 : UInt32) (ky : Int32) (hlt : l.stackTraces = false) : vx_Met l yX3_row wsX3_row ({ frames := 8, cells := 12, slots := 1700, locals := 188 } : Room) (va_Pc [.ref x, .int n, .int k, .float a, .float b, .float c9, .float d9, .int ky] (kB dC dI dA ad sz L f)) (va_Qi (fun r u => kPost dA τ pv ad x nb u) (kR dC dI dA (va_A (va_pl L f) sz)) (va_A (va_pl L f) sz)) (kX dC dI (fun E u => (E = "java/lang/IndexOutOfBoundsException" ∨ E = "java/lang/IllegalArgumentException" ∨ E = "java/lang/IllegalStateException") ∧ kI dA τ pv u.1 u.2) (va_A (va_pl L f) sz)) 12 1700 (va_A (va_pl L f) sz) := by
  refine vx_ofW (cc := cX3_row) (maxL := 9) (ret := (some .int)) (by decide) rfl ?_
  intro p e s m args below meth c s₁ B hml ht hv
  obtain ⟨rfl, hsz, hP, hK, hD0, hE⟩ := hv
  have hx := B.exec
  have hb := B.bytes
  have hr := B.returns
  have hts := atoms_spec (ws := wsX3_row) B.pre
  have hown : s.vm.findClass RX3 = some m.cls := findClass_of_methodNamed B.named
  have hlocks := B.notSynchronized
  have i_X1 : ∀ w ∈ u_ws RX1 TX1 18, w ∈ wsX3_row := by decide +kernel
  have a_82 : ∀ w ∈ (vx_atS RX3 82 "java/lang/IllegalArgumentException" ["java/lang/RuntimeException", "java/lang/Exception"]).filter goodWord, w ∈ wsX3_row := fun _ h => List.mem_cons_of_mem _ (List.mem_append_left _ (List.mem_append_left _ (List.mem_append_right _ h)))
  subst hsz
  have hD := hD0.self (sz := s.heap.size)
  generalize hAe : va_A (va_pl L f) s.heap.size = A at hD hE ⊢
  have hA : ∀ q : Nat, s.heap.size ≤ q → A q := fun q h => by rw [← hAe]; exact Or.inr h
  have hS : va_S A s.heap s.heap [] := va_S.rf
  have hP : va_P (dC, dI) vwCl (va_pl L f) s.heap := hP
  have hK : va_K (dC, dI) vwCl (tyA dA) s := hK
  have hl := lv_entry ([.ref x, .int n, .int k, .float a, .float b, .float c9, .float d9, .int ky]) (n := 9) (Nat.le_of_ble_eq_true rfl)
  rw [lg_entry_eq]
  generalize (lg_sl ([.ref x, .int n, .int k, .float a, .float b, .float c9, .float d9, .int ky]) ++ List.replicate (9 - (lg_sl ([.ref x, .int n, .int k, .float a, .float b, .float c9, .float d9, .int ky])).length) Slot.unset).toArray = ls at hl ⊢
  have hl : lv_has ls 9 [(0, .ref x), (1, .int n), (2, .int k), (3, .float a), (4, .float b), (5, .float c9), (6, .float d9), (7, .int ky)] := hl
  have hnb := hW.lnb
  have hnr := hW.lnr
  have hnk := hW.lnk
  have hF : kFr kPt τ pv τ pv := kFr.rf
  refine lv_aload_n hx hb dX3_row_0 rfl (lv_at hl 0 rfl) ?_
  refine lv_iload_n hx hb dX3_row_1 rfl (lv_at hl 1 rfl) ?_
  refine lv_iload_n hx hb dX3_row_2 rfl (lv_at hl 2 rfl) ?_
  refine kd_xv (vx_runV (As := [.int n, .int k]) (rest := []) ⟨hx, hb, hml, hown, hts⟩ (k_checkPair l dC dI dA ad _ τ pv _ _ hI x bl rl kl ba ra ka fr nb nr nk hW n k hlt) (cwV 2 hts gX3_row_X3_checkPair rfl rfl rfl (by decide +kernel) ⟨Nat.le_of_ble_eq_true rfl, Nat.le_of_ble_eq_true rfl⟩) (kd_preV hP hD hK hS hA hE hI hW.tx rfl rfl) rfl rfl hl.1 rfl (lv_room (Nat.le_of_ble_eq_true rfl)) dX3_row_3 ⟨Nat.le_of_ble_eq_true rfl, Nat.le_of_ble_eq_true rfl⟩) hD hS hA (fun E ce q9 u_1 H locs hw hP hD hS hce hcv hcl => ?_) (fun u_1 H locs hw hP hD hS => ?_)
  · obtain ⟨hE9, hI⟩ := hw
    exact vx_out (fun x h => (ht x h).elim) hlocks hce hcv hcl (fun t ht hvm => ⟨(u_1.1, u_1.2), trivial, ⟨⟨Or.inl hE9, hI⟩, by rw [ht]; exact hP, hD⟩, hS.F ht⟩) hS.2.2 (Nat.le_of_ble_eq_true rfl) (Nat.le_of_ble_eq_true rfl)
  · obtain ⟨⟨j_2, hj_2, rfl⟩, rfl | ⟨j_3, hj_3, rfl⟩, hI⟩ := hw
    · refine lv_fload_n hx hb dX3_row_6 rfl (lv_at hl 3 rfl) ?_
      refine lv_ldcf (v := 3296722944) hx hb hown (hts (.constantFloat RX3 178 (3296722944)) (by decide +kernel)) dX3_row_7 ?_
      have hc_4 : fb 1149239296 3296722944 := by unfold fb; decide +kernel
      refine lv_ldcf (v := 1149239296) hx hb hown (hts (.constantFloat RX3 123 (1149239296)) (by decide +kernel)) dX3_row_9 ?_
      have hc_5 : fb 1149239296 1149239296 := by unfold fb; decide +kernel
      refine kd_calli (va_runS (As := [.float a, .float 3296722944, .float 1149239296]) (rest := []) ⟨hx, hb, hml, hown, hts⟩ (k_outside l dC dI dA ad _ τ pv _ _ hI a 3296722944 1149239296) (va_cwS 3 hts gX3_row_X3_outside rfl rfl rfl (by decide +kernel) ⟨Nat.le_of_ble_eq_true rfl, Nat.le_of_ble_eq_true rfl⟩) (kd_preS hP hD hK hS hA hE) rfl rfl hl.1 rfl (lv_room (Nat.le_of_ble_eq_true rfl)) dX3_row_11 ⟨Nat.le_of_ble_eq_true rfl, Nat.le_of_ble_eq_true rfl⟩) hD hS hA (fun r_7 u_6 H locs hw hP hD hS => ?_)
      obtain ⟨⟨k_8, rfl⟩ | ⟨k_8, rfl⟩, hI⟩ := hw
      · have fb_9 : fb 1149239296 a := fb_within hc_4 hc_5 (by decide) k_8
        refine lv_if_ne (tgt := 60) hx hb dX3_row_14 (by decide) (fun h9 => by first | exact absurd h9 (by decide) | exact absurd (by decide) h9) (fun _ => ?_)
        refine lv_fload hx hb dX3_row_17 (lv_at hl 4 rfl) ?_
        refine lv_fconst0 hx hb dX3_row_19 ?_
        refine lv_ldcf (v := 1115684864) hx hb hown (hts (.constantFloat RX3 149 (1115684864)) (by decide +kernel)) dX3_row_20 ?_
        have hc_10 : fb 1115684864 1115684864 := by unfold fb; decide +kernel
        refine kd_calli (va_runS (As := [.float b, .float FP.fconst0, .float 1115684864]) (rest := []) ⟨hx, hb, hml, hown, hts⟩ (k_outside l dC dI dA ad _ τ pv _ _ hI b FP.fconst0 1115684864) (va_cwS 3 hts gX3_row_X3_outside rfl rfl rfl (by decide +kernel) ⟨Nat.le_of_ble_eq_true rfl, Nat.le_of_ble_eq_true rfl⟩) (kd_preS hP hD hK hS hA hE) rfl rfl hl.1 rfl (lv_room (Nat.le_of_ble_eq_true rfl)) dX3_row_22 ⟨Nat.le_of_ble_eq_true rfl, Nat.le_of_ble_eq_true rfl⟩) hD hS hA (fun r_12 u_11 H locs hw hP hD hS => ?_)
        obtain ⟨⟨k_13, rfl⟩ | ⟨k_13, rfl⟩, hI⟩ := hw
        · have fb_14 : fb 1115684864 b := fb_within (fb_le kc_0 (by decide)) hc_10 (by decide) k_13
          refine lv_if_ne (tgt := 60) hx hb dX3_row_25 (by decide) (fun h9 => by first | exact absurd h9 (by decide) | exact absurd (by decide) h9) (fun _ => ?_)
          refine lv_fload hx hb dX3_row_28 (lv_at hl 5 rfl) ?_
          refine lv_ldcf (v := 3347054592) hx hb hown (hts (.constantFloat RX3 179 (3347054592)) (by decide +kernel)) dX3_row_30 ?_
          have hc_15 : fb 1199570944 3347054592 := by unfold fb; decide +kernel
          refine lv_ldcf (v := 1199570944) hx hb hown (hts (.constantFloat RX3 180 (1199570944)) (by decide +kernel)) dX3_row_32 ?_
          have hc_16 : fb 1199570944 1199570944 := by unfold fb; decide +kernel
          refine kd_calli (va_runS (As := [.float c9, .float 3347054592, .float 1199570944]) (rest := []) ⟨hx, hb, hml, hown, hts⟩ (k_outside l dC dI dA ad _ τ pv _ _ hI c9 3347054592 1199570944) (va_cwS 3 hts gX3_row_X3_outside rfl rfl rfl (by decide +kernel) ⟨Nat.le_of_ble_eq_true rfl, Nat.le_of_ble_eq_true rfl⟩) (kd_preS hP hD hK hS hA hE) rfl rfl hl.1 rfl (lv_room (Nat.le_of_ble_eq_true rfl)) dX3_row_34 ⟨Nat.le_of_ble_eq_true rfl, Nat.le_of_ble_eq_true rfl⟩) hD hS hA (fun r_18 u_17 H locs hw hP hD hS => ?_)
          obtain ⟨⟨k_19, rfl⟩ | ⟨k_19, rfl⟩, hI⟩ := hw
          · have fb_20 : fb 1199570944 c9 := fb_within hc_15 hc_16 (by decide) k_19
            refine lv_if_ne (tgt := 60) hx hb dX3_row_37 (by decide) (fun h9 => by first | exact absurd h9 (by decide) | exact absurd (by decide) h9) (fun _ => ?_)
            refine lv_fload hx hb dX3_row_40 (lv_at hl 6 rfl) ?_
            refine lv_ldcf (v := 3347054592) hx hb hown (hts (.constantFloat RX3 179 (3347054592)) (by decide +kernel)) dX3_row_42 ?_
            have hc_21 : fb 1199570944 3347054592 := by unfold fb; decide +kernel
            refine lv_ldcf (v := 1199570944) hx hb hown (hts (.constantFloat RX3 180 (1199570944)) (by decide +kernel)) dX3_row_44 ?_
            have hc_22 : fb 1199570944 1199570944 := by unfold fb; decide +kernel
            refine kd_calli (va_runS (As := [.float d9, .float 3347054592, .float 1199570944]) (rest := []) ⟨hx, hb, hml, hown, hts⟩ (k_outside l dC dI dA ad _ τ pv _ _ hI d9 3347054592 1199570944) (va_cwS 3 hts gX3_row_X3_outside rfl rfl rfl (by decide +kernel) ⟨Nat.le_of_ble_eq_true rfl, Nat.le_of_ble_eq_true rfl⟩) (kd_preS hP hD hK hS hA hE) rfl rfl hl.1 rfl (lv_room (Nat.le_of_ble_eq_true rfl)) dX3_row_46 ⟨Nat.le_of_ble_eq_true rfl, Nat.le_of_ble_eq_true rfl⟩) hD hS hA (fun r_24 u_23 H locs hw hP hD hS => ?_)
            obtain ⟨⟨k_25, rfl⟩ | ⟨k_25, rfl⟩, hI⟩ := hw
            · have fb_26 : fb 1199570944 d9 := fb_within hc_21 hc_22 (by decide) k_25
              refine lv_if_ne (tgt := 60) hx hb dX3_row_49 (by decide) (fun h9 => by first | exact absurd h9 (by decide) | exact absurd (by decide) h9) (fun _ => ?_)
              refine lv_fload hx hb dX3_row_52 (lv_at hl 5 rfl) ?_
              refine lv_fload hx hb dX3_row_54 (lv_at hl 6 rfl) ?_
              refine lv_fcmp hx hb dX3_row_56 ?_
              refine lv_if_le (tgt := 70) hx hb dX3_row_57 (by decide) (fun c_27 => ?_) (fun c_27 => ?_)
              · refine lv_aload_n hx hb dX3_row_70 rfl (lv_at hl 0 rfl) ?_
                refine kd_xv (vx_runV (As := []) (rest := []) ⟨hx, hb, hml, hown, hts⟩ (k_checkRoom l dC dI dA ad _ τ pv _ _ hI x bl rl kl ba ra ka fr nb nr nk hW  hlt) (cwV 0 hts gX3_row_X3_checkRoomForRow rfl rfl rfl (by decide +kernel) ⟨Nat.le_of_ble_eq_true rfl, Nat.le_of_ble_eq_true rfl⟩) (kd_preV hP hD hK hS hA hE hI hW.tx rfl rfl) rfl rfl hl.1 rfl (lv_room (Nat.le_of_ble_eq_true rfl)) dX3_row_71 ⟨Nat.le_of_ble_eq_true rfl, Nat.le_of_ble_eq_true rfl⟩) hD hS hA (fun E ce q9 u_28 H locs hw hP hD hS hce hcv hcl => ?_) (fun u_28 H locs hw hP hD hS => ?_)
                · obtain ⟨hE9, hI⟩ := hw
                  exact vx_out (fun x h => (ht x h).elim) hlocks hce hcv hcl (fun t ht hvm => ⟨(u_28.1, u_28.2), trivial, ⟨⟨Or.inr (Or.inr (hE9)), hI⟩, by rw [ht]; exact hP, hD⟩, hS.F ht⟩) hS.2.2 (Nat.le_of_ble_eq_true rfl) (Nat.le_of_ble_eq_true rfl)
                · obtain ⟨hroom, hI⟩ := hw
                  refine lv_aload_n hx hb dX3_row_74 rfl (lv_at hl 0 rfl) ?_
                  refine lv_iload_n hx hb dX3_row_75 rfl (lv_at hl 1 rfl) ?_
                  refine lv_iload_n hx hb dX3_row_76 rfl (lv_at hl 2 rfl) ?_
                  refine lv_fload_n hx hb dX3_row_77 rfl (lv_at hl 3 rfl) ?_
                  refine lv_iload hx hb dX3_row_78 (lv_at hl 7 rfl) ?_
                  refine kd_callq (va_runV (As := [.int (nI j_2), .int (-1), .float a, .int ky]) (rest := []) ⟨hx, hb, hml, hown, hts⟩ (k_newRow0 l dC dI dA ad _ τ pv _ _ hI x bl rl kl ba ra ka fr nb nr nk hW j_2 (by omega) a fb_9 ky) (cwV 4 hts gX3_row_X3_newRow rfl rfl rfl (by decide +kernel) ⟨Nat.le_of_ble_eq_true rfl, Nat.le_of_ble_eq_true rfl⟩) (kd_preV hP hD hK hS hA hE hI hW.tx rfl rfl) rfl rfl hl.1 rfl (lv_room (Nat.le_of_ble_eq_true rfl)) dX3_row_80 ⟨Nat.le_of_ble_eq_true rfl, Nat.le_of_ble_eq_true rfl⟩) hD hS hA (fun r_30 u_29 H locs hw hP hD hS => ?_)
                  obtain ⟨qr, qa, qb, τ2, pv2, rfl, h0qr, hF9, tqr, ⟨rw_n, rw_p, rw_q, rw_1, rw_2, x_t, x_k, p_0, p_1, p_2, p_3, p_4, p_5, p_6, p_7, p_8, p_9, p_10, p_11, p_12, p_13, p_14, p_15, p_16, p_17, f_5, t_0, t_1, t_2, t_3, t_4, t_15, t_16⟩, hI⟩ := hw
                  have hW := hW.frk (hF9.weak (fun _ _ _ => rfl))
                  have hF := hF.trans hF9
                  refine W.eq (g2 := F0 m 83 ls [.ref qr]) rfl ?_
                  refine lv_astore (lv' := [(8, .ref qr), (0, .ref x), (1, .int (nI j_2)), (2, .int (-1)), (3, .float a), (4, .float b), (5, .float c9), (6, .float d9), (7, .int ky)]) hx hb dX3_row_83 hl (by decide) rfl (fun ls hl => ?_)
                  refine lv_aload hx hb dX3_row_85 (lv_at hl 0 rfl) ?_
                  refine lv_fload hx hb dX3_row_87 (lv_at hl 5 rfl) ?_
                  refine kp_putP (v := .float b) (ty := .float) hx hb hts i_X1 tyX1 tyX1_ok nmX1 hown hK hP hD hS hI tqr rfl rfl 6 (by decide) (by decide) (hts (.fieldLink RX3 190 "IslandSolver$Row" "soft" "F") (by decide +kernel)) (fun _ h9 => h9) rfl (by decide +kernel) rfl rfl rfl (kv_G _) dX3_row_89 (fun f H locs hI hP hD hS => ?_)
                  have hF := hF.trans (kFr.upr (P := kPt) (τ := τ2) (pv := pv2) (a := qr) (w := .float b) (k := 6) (Or.inr (by rw [tqr]; decide)))
                  have hW := hW.frw (kFr.upr (P := kPw) (τ := τ2) (pv := pv2) (a := qr) (w := .float b) (k := 6) (Or.inr (by rw [tqr]; decide)))
                  refine lv_aload hx hb dX3_row_92 (lv_at hl 0 rfl) ?_
                  refine lv_fload hx hb dX3_row_94 (lv_at hl 6 rfl) ?_
                  refine kp_putP (v := .float c9) (ty := .float) hx hb hts i_X1 tyX1 tyX1_ok nmX1 hown hK hP hD hS hI tqr rfl rfl 7 (by decide) (by decide) (hts (.fieldLink RX3 193 "IslandSolver$Row" "low" "F") (by decide +kernel)) (fun _ h9 => h9) rfl (by decide +kernel) rfl rfl rfl (kv_G _) dX3_row_96 (fun f H locs hI hP hD hS => ?_)
                  have hF := hF.trans (kFr.upr (P := kPt) (τ := τ2) (pv := (kup pv2 qr 6 (.float b))) (a := qr) (w := .float c9) (k := 7) (Or.inr (by rw [tqr]; decide)))
                  have hW := hW.frw (kFr.upr (P := kPw) (τ := τ2) (pv := (kup pv2 qr 6 (.float b))) (a := qr) (w := .float c9) (k := 7) (Or.inr (by rw [tqr]; decide)))
                  refine lv_aload hx hb dX3_row_99 (lv_at hl 0 rfl) ?_
                  refine lv_fload hx hb dX3_row_101 (lv_at hl 7 rfl) ?_
                  refine kp_putP (v := .float d9) (ty := .float) hx hb hts i_X1 tyX1 tyX1_ok nmX1 hown hK hP hD hS hI tqr rfl rfl 8 (by decide) (by decide) (hts (.fieldLink RX3 196 "IslandSolver$Row" "high" "F") (by decide +kernel)) (fun _ h9 => h9) rfl (by decide +kernel) rfl rfl rfl (kv_G _) dX3_row_103 (fun f H locs hI hP hD hS => ?_)
                  have hF := hF.trans (kFr.upr (P := kPt) (τ := τ2) (pv := (kup (kup pv2 qr 6 (.float b)) qr 7 (.float c9))) (a := qr) (w := .float d9) (k := 8) (Or.inr (by rw [tqr]; decide)))
                  have hW := hW.frw (kFr.upr (P := kPw) (τ := τ2) (pv := (kup (kup pv2 qr 6 (.float b)) qr 7 (.float c9))) (a := qr) (w := .float d9) (k := 8) (Or.inr (by rw [tqr]; decide)))
                  have hI := hI.mkRow (ix := nr) (at_ := 0) (qb := qb) tqr ((kup_ne (Or.inr (by decide))).trans ((kup_ne (Or.inr (by decide))).trans ((kup_ne (Or.inr (by decide))).trans p_0))) ((kup_ne (Or.inr (by decide))).trans ((kup_ne (Or.inr (by decide))).trans ((kup_ne (Or.inr (by decide))).trans p_1))) ((kup_ne (Or.inr (by decide))).trans ((kup_ne (Or.inr (by decide))).trans ((kup_ne (Or.inr (by decide))).trans p_2))) ((kup_ne (Or.inr (by decide))).trans ((kup_ne (Or.inr (by decide))).trans ((kup_ne (Or.inr (by decide))).trans p_3))) ((kup_ne (Or.inr (by decide))).trans ((kup_ne (Or.inr (by decide))).trans ((kup_ne (Or.inr (by decide))).trans p_4))) ((kup_ne (Or.inr (by decide))).trans ((kup_ne (Or.inr (by decide))).trans ((kup_ne (Or.inr (by decide))).trans p_5))) ((kup_ne (Or.inr (by decide))).trans ((kup_ne (Or.inr (by decide))).trans kup_self)) ((kup_ne (Or.inr (by decide))).trans kup_self) kup_self ((kup_ne (Or.inr (by decide))).trans ((kup_ne (Or.inr (by decide))).trans ((kup_ne (Or.inr (by decide))).trans p_9))) ((kup_ne (Or.inr (by decide))).trans ((kup_ne (Or.inr (by decide))).trans ((kup_ne (Or.inr (by decide))).trans p_10))) ((kup_ne (Or.inr (by decide))).trans ((kup_ne (Or.inr (by decide))).trans ((kup_ne (Or.inr (by decide))).trans p_11))) ((kup_ne (Or.inr (by decide))).trans ((kup_ne (Or.inr (by decide))).trans ((kup_ne (Or.inr (by decide))).trans p_12))) ((kup_ne (Or.inr (by decide))).trans ((kup_ne (Or.inr (by decide))).trans ((kup_ne (Or.inr (by decide))).trans p_13))) ((kup_ne (Or.inr (by decide))).trans ((kup_ne (Or.inr (by decide))).trans ((kup_ne (Or.inr (by decide))).trans p_14))) ((kup_ne (Or.inr (by decide))).trans ((kup_ne (Or.inr (by decide))).trans ((kup_ne (Or.inr (by decide))).trans p_15))) ((kup_ne (Or.inr (by decide))).trans ((kup_ne (Or.inr (by decide))).trans ((kup_ne (Or.inr (by decide))).trans p_16))) ((kup_ne (Or.inr (by decide))).trans ((kup_ne (Or.inr (by decide))).trans ((kup_ne (Or.inr (by decide))).trans p_17))) f_5 fb_14 fb_20 fb_26 (Nat.zero_le _) t_0 t_1 t_2 t_3 t_4 (fun b hb => by cases hb) t_15 t_16
                  obtain ⟨τ_r, hτ_r⟩ : ∃ z, z = kxt τ2 qr (kgR nr 0 qa qb) := ⟨_, rfl⟩
                  rw [← hτ_r] at hI
                  have hF_r : kFr kPt τ2 (kup (kup (kup pv2 qr 6 (.float b)) qr 7 (.float c9)) qr 8 (.float d9)) τ_r (kup (kup (kup pv2 qr 6 (.float b)) qr 7 (.float c9)) qr 8 (.float d9)) := by rw [hτ_r]; exact kFr.ret (Or.inr (by rw [tqr]; decide))
                  have t_r : τ_r 0 qr = 2 := by rw [hτ_r]; exact kxt_self 0
                  have x_r : τ_r 1 qr = nr := by rw [hτ_r]; exact kxt_self 1
                  have n_r : (kup (kup (kup pv2 qr 6 (.float b)) qr 7 (.float c9)) qr 8 (.float d9)) qr 17 = .null := ((kup_ne (Or.inr (by decide))).trans ((kup_ne (Or.inr (by decide))).trans ((kup_ne (Or.inr (by decide))).trans p_17)))
                  have hW := hW.frk (hF_r.weak (fun _ _ _ => rfl))
                  have hF := hF.trans hF_r
                  refine lv_aload_n hx hb dX3_row_106 rfl (lv_at hl 1 rfl) ?_
                  refine lv_aload hx hb dX3_row_107 (lv_at hl 0 rfl) ?_
                  refine kd_calli (va_runV (As := [.ref qr]) (rest := []) ⟨hx, hb, hml, hown, hts⟩ (k_addRow l dC dI dA ad _ τ_r (kup (kup (kup pv2 qr 6 (.float b)) qr 7 (.float c9)) qr 8 (.float d9)) _ _ hI x bl rl kl ba ra ka fr nb nr nk hW qr t_r (by omega) x_r n_r) (cwV 1 hts gX3_row_X3_addRow rfl rfl rfl (by decide +kernel) ⟨Nat.le_of_ble_eq_true rfl, Nat.le_of_ble_eq_true rfl⟩) (kd_preV hP hD hK hS hA hE hI hW.tx rfl rfl) rfl rfl hl.1 rfl (lv_room (Nat.le_of_ble_eq_true rfl)) dX3_row_109 ⟨Nat.le_of_ble_eq_true rfl, Nat.le_of_ble_eq_true rfl⟩) hD hS hA (fun r_32 u_31 H locs hw hP hD hS => ?_)
                  obtain ⟨rfl, a2, τ9, pv9, hF9, hW, hI⟩ := hw
                  have hF := (hF.weak (fun _ _ _ => rfl)).trans hF9
                  refine vx_ret ?_
                  refine W.widen (k := 12) (n := 1700) (Nat.le_of_ble_eq_true rfl) (Nat.le_of_ble_eq_true rfl) ?_
                  exact W.iret (v := nI nr) hx hb hr (fun t ht hW9 => ⟨⟨nI nr, (u_31.1, u_31.2), rfl, ⟨_, _, bl, rl, kl, ba, a2, ka, fr, (nr + 1), nk, hF, hW, hI⟩, by rw [ht]; exact hP, va_K.moved hW9.alike hK, hD⟩, hS.F ht⟩) hS.2.2 dX3_row_112
              · obtain ⟨sa_33, hsa_33⟩ := hE.str 181 "target, softness or limits are out of range" (by decide +kernel)
                have hat : ∀ w ∈ (vx_atS RX3 82 "java/lang/IllegalArgumentException" ["java/lang/RuntimeException", "java/lang/Exception"]), w.before _ s = true := vx_hat (B := kx_non "java/lang/IllegalArgumentException") (fun w h => hts w (a_82 w h)) (by decide +kernel) (hE.non "java/lang/IllegalArgumentException" (by decide +kernel))
                refine W.widen (k := 11) (n := 1694) (Nat.le_of_ble_eq_true rfl) (Nat.le_of_ble_eq_true rfl) ?_
                exact vx_throwS (A := A) (rest := []) hx hb hlt hown (by decide +kernel) (by decide +kernel) (hts (.classLink RX3 78 "java/lang/IllegalArgumentException") (by decide +kernel)) (hts (.initialized "java/lang/IllegalArgumentException") (by decide +kernel)) hsa_33 hat (by decide +kernel) hE.2.2.2.2.2.2.1 hE.2.2.2.2.2.2.2.1 hS (hl.1.trans hml.symm) dX3_row_60 dX3_row_63 dX3_row_64 dX3_row_66 dX3_row_69 (fun x h => (ht x h).elim) (Nat.le_of_ble_eq_true rfl) (Nat.le_of_ble_eq_true rfl) (Nat.le_of_ble_eq_true rfl) (Nat.le_of_ble_eq_true rfl) hlocks (fun t hvm hz hk => ⟨(u_23.1, u_23.2), trivial, ⟨⟨Or.inr (Or.inl rfl), hI⟩, hP.kept (fun k q hq => hk q.1 (hP k q hq).lt), hD⟩, Nat.le_trans hS.1 hz, fun q h1 h2 => (hk q (Nat.lt_of_lt_of_le h1 hS.1)).trans (hS.2.1 q h1 h2)⟩) hS.2.2 (Nat.le_of_ble_eq_true rfl) (Nat.le_of_ble_eq_true rfl)
            · refine lv_if_ne (tgt := 60) hx hb dX3_row_49 (by decide) (fun _ => ?_) (fun h9 => by first | exact absurd h9 (by decide) | exact absurd (by decide) h9)
              obtain ⟨sa_34, hsa_34⟩ := hE.str 181 "target, softness or limits are out of range" (by decide +kernel)
              have hat : ∀ w ∈ (vx_atS RX3 82 "java/lang/IllegalArgumentException" ["java/lang/RuntimeException", "java/lang/Exception"]), w.before _ s = true := vx_hat (B := kx_non "java/lang/IllegalArgumentException") (fun w h => hts w (a_82 w h)) (by decide +kernel) (hE.non "java/lang/IllegalArgumentException" (by decide +kernel))
              refine W.widen (k := 11) (n := 1694) (Nat.le_of_ble_eq_true rfl) (Nat.le_of_ble_eq_true rfl) ?_
              exact vx_throwS (A := A) (rest := []) hx hb hlt hown (by decide +kernel) (by decide +kernel) (hts (.classLink RX3 78 "java/lang/IllegalArgumentException") (by decide +kernel)) (hts (.initialized "java/lang/IllegalArgumentException") (by decide +kernel)) hsa_34 hat (by decide +kernel) hE.2.2.2.2.2.2.1 hE.2.2.2.2.2.2.2.1 hS (hl.1.trans hml.symm) dX3_row_60 dX3_row_63 dX3_row_64 dX3_row_66 dX3_row_69 (fun x h => (ht x h).elim) (Nat.le_of_ble_eq_true rfl) (Nat.le_of_ble_eq_true rfl) (Nat.le_of_ble_eq_true rfl) (Nat.le_of_ble_eq_true rfl) hlocks (fun t hvm hz hk => ⟨(u_23.1, u_23.2), trivial, ⟨⟨Or.inr (Or.inl rfl), hI⟩, hP.kept (fun k q hq => hk q.1 (hP k q hq).lt), hD⟩, Nat.le_trans hS.1 hz, fun q h1 h2 => (hk q (Nat.lt_of_lt_of_le h1 hS.1)).trans (hS.2.1 q h1 h2)⟩) hS.2.2 (Nat.le_of_ble_eq_true rfl) (Nat.le_of_ble_eq_true rfl)
          · refine lv_if_ne (tgt := 60) hx hb dX3_row_37 (by decide) (fun _ => ?_) (fun h9 => by first | exact absurd h9 (by decide) | exact absurd (by decide) h9)
            obtain ⟨sa_35, hsa_35⟩ := hE.str 181 "target, softness or limits are out of range" (by decide +kernel)
            have hat : ∀ w ∈ (vx_atS RX3 82 "java/lang/IllegalArgumentException" ["java/lang/RuntimeException", "java/lang/Exception"]), w.before _ s = true := vx_hat (B := kx_non "java/lang/IllegalArgumentException") (fun w h => hts w (a_82 w h)) (by decide +kernel) (hE.non "java/lang/IllegalArgumentException" (by decide +kernel))
            refine W.widen (k := 11) (n := 1694) (Nat.le_of_ble_eq_true rfl) (Nat.le_of_ble_eq_true rfl) ?_
            exact vx_throwS (A := A) (rest := []) hx hb hlt hown (by decide +kernel) (by decide +kernel) (hts (.classLink RX3 78 "java/lang/IllegalArgumentException") (by decide +kernel)) (hts (.initialized "java/lang/IllegalArgumentException") (by decide +kernel)) hsa_35 hat (by decide +kernel) hE.2.2.2.2.2.2.1 hE.2.2.2.2.2.2.2.1 hS (hl.1.trans hml.symm) dX3_row_60 dX3_row_63 dX3_row_64 dX3_row_66 dX3_row_69 (fun x h => (ht x h).elim) (Nat.le_of_ble_eq_true rfl) (Nat.le_of_ble_eq_true rfl) (Nat.le_of_ble_eq_true rfl) (Nat.le_of_ble_eq_true rfl) hlocks (fun t hvm hz hk => ⟨(u_17.1, u_17.2), trivial, ⟨⟨Or.inr (Or.inl rfl), hI⟩, hP.kept (fun k q hq => hk q.1 (hP k q hq).lt), hD⟩, Nat.le_trans hS.1 hz, fun q h1 h2 => (hk q (Nat.lt_of_lt_of_le h1 hS.1)).trans (hS.2.1 q h1 h2)⟩) hS.2.2 (Nat.le_of_ble_eq_true rfl) (Nat.le_of_ble_eq_true rfl)
        · refine lv_if_ne (tgt := 60) hx hb dX3_row_25 (by decide) (fun _ => ?_) (fun h9 => by first | exact absurd h9 (by decide) | exact absurd (by decide) h9)
          obtain ⟨sa_36, hsa_36⟩ := hE.str 181 "target, softness or limits are out of range" (by decide +kernel)
          have hat : ∀ w ∈ (vx_atS RX3 82 "java/lang/IllegalArgumentException" ["java/lang/RuntimeException", "java/lang/Exception"]), w.before _ s = true := vx_hat (B := kx_non "java/lang/IllegalArgumentException") (fun w h => hts w (a_82 w h)) (by decide +kernel) (hE.non "java/lang/IllegalArgumentException" (by decide +kernel))
          refine W.widen (k := 11) (n := 1694) (Nat.le_of_ble_eq_true rfl) (Nat.le_of_ble_eq_true rfl) ?_
          exact vx_throwS (A := A) (rest := []) hx hb hlt hown (by decide +kernel) (by decide +kernel) (hts (.classLink RX3 78 "java/lang/IllegalArgumentException") (by decide +kernel)) (hts (.initialized "java/lang/IllegalArgumentException") (by decide +kernel)) hsa_36 hat (by decide +kernel) hE.2.2.2.2.2.2.1 hE.2.2.2.2.2.2.2.1 hS (hl.1.trans hml.symm) dX3_row_60 dX3_row_63 dX3_row_64 dX3_row_66 dX3_row_69 (fun x h => (ht x h).elim) (Nat.le_of_ble_eq_true rfl) (Nat.le_of_ble_eq_true rfl) (Nat.le_of_ble_eq_true rfl) (Nat.le_of_ble_eq_true rfl) hlocks (fun t hvm hz hk => ⟨(u_11.1, u_11.2), trivial, ⟨⟨Or.inr (Or.inl rfl), hI⟩, hP.kept (fun k q hq => hk q.1 (hP k q hq).lt), hD⟩, Nat.le_trans hS.1 hz, fun q h1 h2 => (hk q (Nat.lt_of_lt_of_le h1 hS.1)).trans (hS.2.1 q h1 h2)⟩) hS.2.2 (Nat.le_of_ble_eq_true rfl) (Nat.le_of_ble_eq_true rfl)
      · refine lv_if_ne (tgt := 60) hx hb dX3_row_14 (by decide) (fun _ => ?_) (fun h9 => by first | exact absurd h9 (by decide) | exact absurd (by decide) h9)
        obtain ⟨sa_37, hsa_37⟩ := hE.str 181 "target, softness or limits are out of range" (by decide +kernel)
        have hat : ∀ w ∈ (vx_atS RX3 82 "java/lang/IllegalArgumentException" ["java/lang/RuntimeException", "java/lang/Exception"]), w.before _ s = true := vx_hat (B := kx_non "java/lang/IllegalArgumentException") (fun w h => hts w (a_82 w h)) (by decide +kernel) (hE.non "java/lang/IllegalArgumentException" (by decide +kernel))
        refine W.widen (k := 11) (n := 1694) (Nat.le_of_ble_eq_true rfl) (Nat.le_of_ble_eq_true rfl) ?_
        exact vx_throwS (A := A) (rest := []) hx hb hlt hown (by decide +kernel) (by decide +kernel) (hts (.classLink RX3 78 "java/lang/IllegalArgumentException") (by decide +kernel)) (hts (.initialized "java/lang/IllegalArgumentException") (by decide +kernel)) hsa_37 hat (by decide +kernel) hE.2.2.2.2.2.2.1 hE.2.2.2.2.2.2.2.1 hS (hl.1.trans hml.symm) dX3_row_60 dX3_row_63 dX3_row_64 dX3_row_66 dX3_row_69 (fun x h => (ht x h).elim) (Nat.le_of_ble_eq_true rfl) (Nat.le_of_ble_eq_true rfl) (Nat.le_of_ble_eq_true rfl) (Nat.le_of_ble_eq_true rfl) hlocks (fun t hvm hz hk => ⟨(u_6.1, u_6.2), trivial, ⟨⟨Or.inr (Or.inl rfl), hI⟩, hP.kept (fun k q hq => hk q.1 (hP k q hq).lt), hD⟩, Nat.le_trans hS.1 hz, fun q h1 h2 => (hk q (Nat.lt_of_lt_of_le h1 hS.1)).trans (hS.2.1 q h1 h2)⟩) hS.2.2 (Nat.le_of_ble_eq_true rfl) (Nat.le_of_ble_eq_true rfl)
    · refine lv_fload_n hx hb dX3_row_6 rfl (lv_at hl 3 rfl) ?_
      refine lv_ldcf (v := 3296722944) hx hb hown (hts (.constantFloat RX3 178 (3296722944)) (by decide +kernel)) dX3_row_7 ?_
      have hc_38 : fb 1149239296 3296722944 := by unfold fb; decide +kernel
      refine lv_ldcf (v := 1149239296) hx hb hown (hts (.constantFloat RX3 123 (1149239296)) (by decide +kernel)) dX3_row_9 ?_
      have hc_39 : fb 1149239296 1149239296 := by unfold fb; decide +kernel
      refine kd_calli (va_runS (As := [.float a, .float 3296722944, .float 1149239296]) (rest := []) ⟨hx, hb, hml, hown, hts⟩ (k_outside l dC dI dA ad _ τ pv _ _ hI a 3296722944 1149239296) (va_cwS 3 hts gX3_row_X3_outside rfl rfl rfl (by decide +kernel) ⟨Nat.le_of_ble_eq_true rfl, Nat.le_of_ble_eq_true rfl⟩) (kd_preS hP hD hK hS hA hE) rfl rfl hl.1 rfl (lv_room (Nat.le_of_ble_eq_true rfl)) dX3_row_11 ⟨Nat.le_of_ble_eq_true rfl, Nat.le_of_ble_eq_true rfl⟩) hD hS hA (fun r_41 u_40 H locs hw hP hD hS => ?_)
      obtain ⟨⟨k_42, rfl⟩ | ⟨k_42, rfl⟩, hI⟩ := hw
      · have fb_43 : fb 1149239296 a := fb_within hc_38 hc_39 (by decide) k_42
        refine lv_if_ne (tgt := 60) hx hb dX3_row_14 (by decide) (fun h9 => by first | exact absurd h9 (by decide) | exact absurd (by decide) h9) (fun _ => ?_)
        refine lv_fload hx hb dX3_row_17 (lv_at hl 4 rfl) ?_
        refine lv_fconst0 hx hb dX3_row_19 ?_
        refine lv_ldcf (v := 1115684864) hx hb hown (hts (.constantFloat RX3 149 (1115684864)) (by decide +kernel)) dX3_row_20 ?_
        have hc_44 : fb 1115684864 1115684864 := by unfold fb; decide +kernel
        refine kd_calli (va_runS (As := [.float b, .float FP.fconst0, .float 1115684864]) (rest := []) ⟨hx, hb, hml, hown, hts⟩ (k_outside l dC dI dA ad _ τ pv _ _ hI b FP.fconst0 1115684864) (va_cwS 3 hts gX3_row_X3_outside rfl rfl rfl (by decide +kernel) ⟨Nat.le_of_ble_eq_true rfl, Nat.le_of_ble_eq_true rfl⟩) (kd_preS hP hD hK hS hA hE) rfl rfl hl.1 rfl (lv_room (Nat.le_of_ble_eq_true rfl)) dX3_row_22 ⟨Nat.le_of_ble_eq_true rfl, Nat.le_of_ble_eq_true rfl⟩) hD hS hA (fun r_46 u_45 H locs hw hP hD hS => ?_)
        obtain ⟨⟨k_47, rfl⟩ | ⟨k_47, rfl⟩, hI⟩ := hw
        · have fb_48 : fb 1115684864 b := fb_within (fb_le kc_0 (by decide)) hc_44 (by decide) k_47
          refine lv_if_ne (tgt := 60) hx hb dX3_row_25 (by decide) (fun h9 => by first | exact absurd h9 (by decide) | exact absurd (by decide) h9) (fun _ => ?_)
          refine lv_fload hx hb dX3_row_28 (lv_at hl 5 rfl) ?_
          refine lv_ldcf (v := 3347054592) hx hb hown (hts (.constantFloat RX3 179 (3347054592)) (by decide +kernel)) dX3_row_30 ?_
          have hc_49 : fb 1199570944 3347054592 := by unfold fb; decide +kernel
          refine lv_ldcf (v := 1199570944) hx hb hown (hts (.constantFloat RX3 180 (1199570944)) (by decide +kernel)) dX3_row_32 ?_
          have hc_50 : fb 1199570944 1199570944 := by unfold fb; decide +kernel
          refine kd_calli (va_runS (As := [.float c9, .float 3347054592, .float 1199570944]) (rest := []) ⟨hx, hb, hml, hown, hts⟩ (k_outside l dC dI dA ad _ τ pv _ _ hI c9 3347054592 1199570944) (va_cwS 3 hts gX3_row_X3_outside rfl rfl rfl (by decide +kernel) ⟨Nat.le_of_ble_eq_true rfl, Nat.le_of_ble_eq_true rfl⟩) (kd_preS hP hD hK hS hA hE) rfl rfl hl.1 rfl (lv_room (Nat.le_of_ble_eq_true rfl)) dX3_row_34 ⟨Nat.le_of_ble_eq_true rfl, Nat.le_of_ble_eq_true rfl⟩) hD hS hA (fun r_52 u_51 H locs hw hP hD hS => ?_)
          obtain ⟨⟨k_53, rfl⟩ | ⟨k_53, rfl⟩, hI⟩ := hw
          · have fb_54 : fb 1199570944 c9 := fb_within hc_49 hc_50 (by decide) k_53
            refine lv_if_ne (tgt := 60) hx hb dX3_row_37 (by decide) (fun h9 => by first | exact absurd h9 (by decide) | exact absurd (by decide) h9) (fun _ => ?_)
            refine lv_fload hx hb dX3_row_40 (lv_at hl 6 rfl) ?_
            refine lv_ldcf (v := 3347054592) hx hb hown (hts (.constantFloat RX3 179 (3347054592)) (by decide +kernel)) dX3_row_42 ?_
            have hc_55 : fb 1199570944 3347054592 := by unfold fb; decide +kernel
            refine lv_ldcf (v := 1199570944) hx hb hown (hts (.constantFloat RX3 180 (1199570944)) (by decide +kernel)) dX3_row_44 ?_
            have hc_56 : fb 1199570944 1199570944 := by unfold fb; decide +kernel
            refine kd_calli (va_runS (As := [.float d9, .float 3347054592, .float 1199570944]) (rest := []) ⟨hx, hb, hml, hown, hts⟩ (k_outside l dC dI dA ad _ τ pv _ _ hI d9 3347054592 1199570944) (va_cwS 3 hts gX3_row_X3_outside rfl rfl rfl (by decide +kernel) ⟨Nat.le_of_ble_eq_true rfl, Nat.le_of_ble_eq_true rfl⟩) (kd_preS hP hD hK hS hA hE) rfl rfl hl.1 rfl (lv_room (Nat.le_of_ble_eq_true rfl)) dX3_row_46 ⟨Nat.le_of_ble_eq_true rfl, Nat.le_of_ble_eq_true rfl⟩) hD hS hA (fun r_58 u_57 H locs hw hP hD hS => ?_)
            obtain ⟨⟨k_59, rfl⟩ | ⟨k_59, rfl⟩, hI⟩ := hw
            · have fb_60 : fb 1199570944 d9 := fb_within hc_55 hc_56 (by decide) k_59
              refine lv_if_ne (tgt := 60) hx hb dX3_row_49 (by decide) (fun h9 => by first | exact absurd h9 (by decide) | exact absurd (by decide) h9) (fun _ => ?_)
              refine lv_fload hx hb dX3_row_52 (lv_at hl 5 rfl) ?_
              refine lv_fload hx hb dX3_row_54 (lv_at hl 6 rfl) ?_
              refine lv_fcmp hx hb dX3_row_56 ?_
              refine lv_if_le (tgt := 70) hx hb dX3_row_57 (by decide) (fun c_61 => ?_) (fun c_61 => ?_)
              · refine lv_aload_n hx hb dX3_row_70 rfl (lv_at hl 0 rfl) ?_
                refine kd_xv (vx_runV (As := []) (rest := []) ⟨hx, hb, hml, hown, hts⟩ (k_checkRoom l dC dI dA ad _ τ pv _ _ hI x bl rl kl ba ra ka fr nb nr nk hW  hlt) (cwV 0 hts gX3_row_X3_checkRoomForRow rfl rfl rfl (by decide +kernel) ⟨Nat.le_of_ble_eq_true rfl, Nat.le_of_ble_eq_true rfl⟩) (kd_preV hP hD hK hS hA hE hI hW.tx rfl rfl) rfl rfl hl.1 rfl (lv_room (Nat.le_of_ble_eq_true rfl)) dX3_row_71 ⟨Nat.le_of_ble_eq_true rfl, Nat.le_of_ble_eq_true rfl⟩) hD hS hA (fun E ce q9 u_62 H locs hw hP hD hS hce hcv hcl => ?_) (fun u_62 H locs hw hP hD hS => ?_)
                · obtain ⟨hE9, hI⟩ := hw
                  exact vx_out (fun x h => (ht x h).elim) hlocks hce hcv hcl (fun t ht hvm => ⟨(u_62.1, u_62.2), trivial, ⟨⟨Or.inr (Or.inr (hE9)), hI⟩, by rw [ht]; exact hP, hD⟩, hS.F ht⟩) hS.2.2 (Nat.le_of_ble_eq_true rfl) (Nat.le_of_ble_eq_true rfl)
                · obtain ⟨hroom, hI⟩ := hw
                  refine lv_aload_n hx hb dX3_row_74 rfl (lv_at hl 0 rfl) ?_
                  refine lv_iload_n hx hb dX3_row_75 rfl (lv_at hl 1 rfl) ?_
                  refine lv_iload_n hx hb dX3_row_76 rfl (lv_at hl 2 rfl) ?_
                  refine lv_fload_n hx hb dX3_row_77 rfl (lv_at hl 3 rfl) ?_
                  refine lv_iload hx hb dX3_row_78 (lv_at hl 7 rfl) ?_
                  refine kd_callq (va_runV (As := [.int (nI j_2), .int (nI j_3), .float a, .int ky]) (rest := []) ⟨hx, hb, hml, hown, hts⟩ (k_newRow1 l dC dI dA ad _ τ pv _ _ hI x bl rl kl ba ra ka fr nb nr nk hW j_2 j_3 (by omega) (by omega) a fb_43 ky) (cwV 4 hts gX3_row_X3_newRow rfl rfl rfl (by decide +kernel) ⟨Nat.le_of_ble_eq_true rfl, Nat.le_of_ble_eq_true rfl⟩) (kd_preV hP hD hK hS hA hE hI hW.tx rfl rfl) rfl rfl hl.1 rfl (lv_room (Nat.le_of_ble_eq_true rfl)) dX3_row_80 ⟨Nat.le_of_ble_eq_true rfl, Nat.le_of_ble_eq_true rfl⟩) hD hS hA (fun r_64 u_63 H locs hw hP hD hS => ?_)
                  obtain ⟨qr, qa, qb, τ2, pv2, rfl, h0qr, hF9, tqr, ⟨rw_n, rw_p, rw_q, rw_1, rw_2, x_t, x_k, p_0, p_1, p_2, p_3, p_4, p_5, p_6, p_7, p_8, p_9, p_10, p_11, p_12, p_13, p_14, p_15, p_16, p_17, f_5, t_0, t_1, t_2, t_3, t_4, t_15, t_16⟩, hI⟩ := hw
                  have hW := hW.frk (hF9.weak (fun _ _ _ => rfl))
                  have hF := hF.trans hF9
                  refine W.eq (g2 := F0 m 83 ls [.ref qr]) rfl ?_
                  refine lv_astore (lv' := [(8, .ref qr), (0, .ref x), (1, .int (nI j_2)), (2, .int (nI j_3)), (3, .float a), (4, .float b), (5, .float c9), (6, .float d9), (7, .int ky)]) hx hb dX3_row_83 hl (by decide) rfl (fun ls hl => ?_)
                  refine lv_aload hx hb dX3_row_85 (lv_at hl 0 rfl) ?_
                  refine lv_fload hx hb dX3_row_87 (lv_at hl 5 rfl) ?_
                  refine kp_putP (v := .float b) (ty := .float) hx hb hts i_X1 tyX1 tyX1_ok nmX1 hown hK hP hD hS hI tqr rfl rfl 6 (by decide) (by decide) (hts (.fieldLink RX3 190 "IslandSolver$Row" "soft" "F") (by decide +kernel)) (fun _ h9 => h9) rfl (by decide +kernel) rfl rfl rfl (kv_G _) dX3_row_89 (fun f H locs hI hP hD hS => ?_)
                  have hF := hF.trans (kFr.upr (P := kPt) (τ := τ2) (pv := pv2) (a := qr) (w := .float b) (k := 6) (Or.inr (by rw [tqr]; decide)))
                  have hW := hW.frw (kFr.upr (P := kPw) (τ := τ2) (pv := pv2) (a := qr) (w := .float b) (k := 6) (Or.inr (by rw [tqr]; decide)))
                  refine lv_aload hx hb dX3_row_92 (lv_at hl 0 rfl) ?_
                  refine lv_fload hx hb dX3_row_94 (lv_at hl 6 rfl) ?_
                  refine kp_putP (v := .float c9) (ty := .float) hx hb hts i_X1 tyX1 tyX1_ok nmX1 hown hK hP hD hS hI tqr rfl rfl 7 (by decide) (by decide) (hts (.fieldLink RX3 193 "IslandSolver$Row" "low" "F") (by decide +kernel)) (fun _ h9 => h9) rfl (by decide +kernel) rfl rfl rfl (kv_G _) dX3_row_96 (fun f H locs hI hP hD hS => ?_)
                  have hF := hF.trans (kFr.upr (P := kPt) (τ := τ2) (pv := (kup pv2 qr 6 (.float b))) (a := qr) (w := .float c9) (k := 7) (Or.inr (by rw [tqr]; decide)))
                  have hW := hW.frw (kFr.upr (P := kPw) (τ := τ2) (pv := (kup pv2 qr 6 (.float b))) (a := qr) (w := .float c9) (k := 7) (Or.inr (by rw [tqr]; decide)))
                  refine lv_aload hx hb dX3_row_99 (lv_at hl 0 rfl) ?_
                  refine lv_fload hx hb dX3_row_101 (lv_at hl 7 rfl) ?_
                  refine kp_putP (v := .float d9) (ty := .float) hx hb hts i_X1 tyX1 tyX1_ok nmX1 hown hK hP hD hS hI tqr rfl rfl 8 (by decide) (by decide) (hts (.fieldLink RX3 196 "IslandSolver$Row" "high" "F") (by decide +kernel)) (fun _ h9 => h9) rfl (by decide +kernel) rfl rfl rfl (kv_G _) dX3_row_103 (fun f H locs hI hP hD hS => ?_)
                  have hF := hF.trans (kFr.upr (P := kPt) (τ := τ2) (pv := (kup (kup pv2 qr 6 (.float b)) qr 7 (.float c9))) (a := qr) (w := .float d9) (k := 8) (Or.inr (by rw [tqr]; decide)))
                  have hW := hW.frw (kFr.upr (P := kPw) (τ := τ2) (pv := (kup (kup pv2 qr 6 (.float b)) qr 7 (.float c9))) (a := qr) (w := .float d9) (k := 8) (Or.inr (by rw [tqr]; decide)))
                  have hI := hI.mkRow (ix := nr) (at_ := 0) (qb := qb) tqr ((kup_ne (Or.inr (by decide))).trans ((kup_ne (Or.inr (by decide))).trans ((kup_ne (Or.inr (by decide))).trans p_0))) ((kup_ne (Or.inr (by decide))).trans ((kup_ne (Or.inr (by decide))).trans ((kup_ne (Or.inr (by decide))).trans p_1))) ((kup_ne (Or.inr (by decide))).trans ((kup_ne (Or.inr (by decide))).trans ((kup_ne (Or.inr (by decide))).trans p_2))) ((kup_ne (Or.inr (by decide))).trans ((kup_ne (Or.inr (by decide))).trans ((kup_ne (Or.inr (by decide))).trans p_3))) ((kup_ne (Or.inr (by decide))).trans ((kup_ne (Or.inr (by decide))).trans ((kup_ne (Or.inr (by decide))).trans p_4))) ((kup_ne (Or.inr (by decide))).trans ((kup_ne (Or.inr (by decide))).trans ((kup_ne (Or.inr (by decide))).trans p_5))) ((kup_ne (Or.inr (by decide))).trans ((kup_ne (Or.inr (by decide))).trans kup_self)) ((kup_ne (Or.inr (by decide))).trans kup_self) kup_self ((kup_ne (Or.inr (by decide))).trans ((kup_ne (Or.inr (by decide))).trans ((kup_ne (Or.inr (by decide))).trans p_9))) ((kup_ne (Or.inr (by decide))).trans ((kup_ne (Or.inr (by decide))).trans ((kup_ne (Or.inr (by decide))).trans p_10))) ((kup_ne (Or.inr (by decide))).trans ((kup_ne (Or.inr (by decide))).trans ((kup_ne (Or.inr (by decide))).trans p_11))) ((kup_ne (Or.inr (by decide))).trans ((kup_ne (Or.inr (by decide))).trans ((kup_ne (Or.inr (by decide))).trans p_12))) ((kup_ne (Or.inr (by decide))).trans ((kup_ne (Or.inr (by decide))).trans ((kup_ne (Or.inr (by decide))).trans p_13))) ((kup_ne (Or.inr (by decide))).trans ((kup_ne (Or.inr (by decide))).trans ((kup_ne (Or.inr (by decide))).trans p_14))) ((kup_ne (Or.inr (by decide))).trans ((kup_ne (Or.inr (by decide))).trans ((kup_ne (Or.inr (by decide))).trans p_15))) ((kup_ne (Or.inr (by decide))).trans ((kup_ne (Or.inr (by decide))).trans ((kup_ne (Or.inr (by decide))).trans p_16))) ((kup_ne (Or.inr (by decide))).trans ((kup_ne (Or.inr (by decide))).trans ((kup_ne (Or.inr (by decide))).trans p_17))) f_5 fb_48 fb_54 fb_60 (Nat.zero_le _) t_0 t_1 t_2 t_3 t_4 (fun b hb => by cases hb) t_15 t_16
                  obtain ⟨τ_r, hτ_r⟩ : ∃ z, z = kxt τ2 qr (kgR nr 0 qa qb) := ⟨_, rfl⟩
                  rw [← hτ_r] at hI
                  have hF_r : kFr kPt τ2 (kup (kup (kup pv2 qr 6 (.float b)) qr 7 (.float c9)) qr 8 (.float d9)) τ_r (kup (kup (kup pv2 qr 6 (.float b)) qr 7 (.float c9)) qr 8 (.float d9)) := by rw [hτ_r]; exact kFr.ret (Or.inr (by rw [tqr]; decide))
                  have t_r : τ_r 0 qr = 2 := by rw [hτ_r]; exact kxt_self 0
                  have x_r : τ_r 1 qr = nr := by rw [hτ_r]; exact kxt_self 1
                  have n_r : (kup (kup (kup pv2 qr 6 (.float b)) qr 7 (.float c9)) qr 8 (.float d9)) qr 17 = .null := ((kup_ne (Or.inr (by decide))).trans ((kup_ne (Or.inr (by decide))).trans ((kup_ne (Or.inr (by decide))).trans p_17)))
                  have hW := hW.frk (hF_r.weak (fun _ _ _ => rfl))
                  have hF := hF.trans hF_r
                  refine lv_aload_n hx hb dX3_row_106 rfl (lv_at hl 1 rfl) ?_
                  refine lv_aload hx hb dX3_row_107 (lv_at hl 0 rfl) ?_
                  refine kd_calli (va_runV (As := [.ref qr]) (rest := []) ⟨hx, hb, hml, hown, hts⟩ (k_addRow l dC dI dA ad _ τ_r (kup (kup (kup pv2 qr 6 (.float b)) qr 7 (.float c9)) qr 8 (.float d9)) _ _ hI x bl rl kl ba ra ka fr nb nr nk hW qr t_r (by omega) x_r n_r) (cwV 1 hts gX3_row_X3_addRow rfl rfl rfl (by decide +kernel) ⟨Nat.le_of_ble_eq_true rfl, Nat.le_of_ble_eq_true rfl⟩) (kd_preV hP hD hK hS hA hE hI hW.tx rfl rfl) rfl rfl hl.1 rfl (lv_room (Nat.le_of_ble_eq_true rfl)) dX3_row_109 ⟨Nat.le_of_ble_eq_true rfl, Nat.le_of_ble_eq_true rfl⟩) hD hS hA (fun r_66 u_65 H locs hw hP hD hS => ?_)
                  obtain ⟨rfl, a2, τ9, pv9, hF9, hW, hI⟩ := hw
                  have hF := (hF.weak (fun _ _ _ => rfl)).trans hF9
                  refine vx_ret ?_
                  refine W.widen (k := 12) (n := 1700) (Nat.le_of_ble_eq_true rfl) (Nat.le_of_ble_eq_true rfl) ?_
                  exact W.iret (v := nI nr) hx hb hr (fun t ht hW9 => ⟨⟨nI nr, (u_65.1, u_65.2), rfl, ⟨_, _, bl, rl, kl, ba, a2, ka, fr, (nr + 1), nk, hF, hW, hI⟩, by rw [ht]; exact hP, va_K.moved hW9.alike hK, hD⟩, hS.F ht⟩) hS.2.2 dX3_row_112
              · obtain ⟨sa_67, hsa_67⟩ := hE.str 181 "target, softness or limits are out of range" (by decide +kernel)
                have hat : ∀ w ∈ (vx_atS RX3 82 "java/lang/IllegalArgumentException" ["java/lang/RuntimeException", "java/lang/Exception"]), w.before _ s = true := vx_hat (B := kx_non "java/lang/IllegalArgumentException") (fun w h => hts w (a_82 w h)) (by decide +kernel) (hE.non "java/lang/IllegalArgumentException" (by decide +kernel))
                refine W.widen (k := 11) (n := 1694) (Nat.le_of_ble_eq_true rfl) (Nat.le_of_ble_eq_true rfl) ?_
                exact vx_throwS (A := A) (rest := []) hx hb hlt hown (by decide +kernel) (by decide +kernel) (hts (.classLink RX3 78 "java/lang/IllegalArgumentException") (by decide +kernel)) (hts (.initialized "java/lang/IllegalArgumentException") (by decide +kernel)) hsa_67 hat (by decide +kernel) hE.2.2.2.2.2.2.1 hE.2.2.2.2.2.2.2.1 hS (hl.1.trans hml.symm) dX3_row_60 dX3_row_63 dX3_row_64 dX3_row_66 dX3_row_69 (fun x h => (ht x h).elim) (Nat.le_of_ble_eq_true rfl) (Nat.le_of_ble_eq_true rfl) (Nat.le_of_ble_eq_true rfl) (Nat.le_of_ble_eq_true rfl) hlocks (fun t hvm hz hk => ⟨(u_57.1, u_57.2), trivial, ⟨⟨Or.inr (Or.inl rfl), hI⟩, hP.kept (fun k q hq => hk q.1 (hP k q hq).lt), hD⟩, Nat.le_trans hS.1 hz, fun q h1 h2 => (hk q (Nat.lt_of_lt_of_le h1 hS.1)).trans (hS.2.1 q h1 h2)⟩) hS.2.2 (Nat.le_of_ble_eq_true rfl) (Nat.le_of_ble_eq_true rfl)
            · refine lv_if_ne (tgt := 60) hx hb dX3_row_49 (by decide) (fun _ => ?_) (fun h9 => by first | exact absurd h9 (by decide) | exact absurd (by decide) h9)
              obtain ⟨sa_68, hsa_68⟩ := hE.str 181 "target, softness or limits are out of range" (by decide +kernel)
              have hat : ∀ w ∈ (vx_atS RX3 82 "java/lang/IllegalArgumentException" ["java/lang/RuntimeException", "java/lang/Exception"]), w.before _ s = true := vx_hat (B := kx_non "java/lang/IllegalArgumentException") (fun w h => hts w (a_82 w h)) (by decide +kernel) (hE.non "java/lang/IllegalArgumentException" (by decide +kernel))
              refine W.widen (k := 11) (n := 1694) (Nat.le_of_ble_eq_true rfl) (Nat.le_of_ble_eq_true rfl) ?_
              exact vx_throwS (A := A) (rest := []) hx hb hlt hown (by decide +kernel) (by decide +kernel) (hts (.classLink RX3 78 "java/lang/IllegalArgumentException") (by decide +kernel)) (hts (.initialized "java/lang/IllegalArgumentException") (by decide +kernel)) hsa_68 hat (by decide +kernel) hE.2.2.2.2.2.2.1 hE.2.2.2.2.2.2.2.1 hS (hl.1.trans hml.symm) dX3_row_60 dX3_row_63 dX3_row_64 dX3_row_66 dX3_row_69 (fun x h => (ht x h).elim) (Nat.le_of_ble_eq_true rfl) (Nat.le_of_ble_eq_true rfl) (Nat.le_of_ble_eq_true rfl) (Nat.le_of_ble_eq_true rfl) hlocks (fun t hvm hz hk => ⟨(u_57.1, u_57.2), trivial, ⟨⟨Or.inr (Or.inl rfl), hI⟩, hP.kept (fun k q hq => hk q.1 (hP k q hq).lt), hD⟩, Nat.le_trans hS.1 hz, fun q h1 h2 => (hk q (Nat.lt_of_lt_of_le h1 hS.1)).trans (hS.2.1 q h1 h2)⟩) hS.2.2 (Nat.le_of_ble_eq_true rfl) (Nat.le_of_ble_eq_true rfl)
          · refine lv_if_ne (tgt := 60) hx hb dX3_row_37 (by decide) (fun _ => ?_) (fun h9 => by first | exact absurd h9 (by decide) | exact absurd (by decide) h9)
            obtain ⟨sa_69, hsa_69⟩ := hE.str 181 "target, softness or limits are out of range" (by decide +kernel)
            have hat : ∀ w ∈ (vx_atS RX3 82 "java/lang/IllegalArgumentException" ["java/lang/RuntimeException", "java/lang/Exception"]), w.before _ s = true := vx_hat (B := kx_non "java/lang/IllegalArgumentException") (fun w h => hts w (a_82 w h)) (by decide +kernel) (hE.non "java/lang/IllegalArgumentException" (by decide +kernel))
            refine W.widen (k := 11) (n := 1694) (Nat.le_of_ble_eq_true rfl) (Nat.le_of_ble_eq_true rfl) ?_
            exact vx_throwS (A := A) (rest := []) hx hb hlt hown (by decide +kernel) (by decide +kernel) (hts (.classLink RX3 78 "java/lang/IllegalArgumentException") (by decide +kernel)) (hts (.initialized "java/lang/IllegalArgumentException") (by decide +kernel)) hsa_69 hat (by decide +kernel) hE.2.2.2.2.2.2.1 hE.2.2.2.2.2.2.2.1 hS (hl.1.trans hml.symm) dX3_row_60 dX3_row_63 dX3_row_64 dX3_row_66 dX3_row_69 (fun x h => (ht x h).elim) (Nat.le_of_ble_eq_true rfl) (Nat.le_of_ble_eq_true rfl) (Nat.le_of_ble_eq_true rfl) (Nat.le_of_ble_eq_true rfl) hlocks (fun t hvm hz hk => ⟨(u_51.1, u_51.2), trivial, ⟨⟨Or.inr (Or.inl rfl), hI⟩, hP.kept (fun k q hq => hk q.1 (hP k q hq).lt), hD⟩, Nat.le_trans hS.1 hz, fun q h1 h2 => (hk q (Nat.lt_of_lt_of_le h1 hS.1)).trans (hS.2.1 q h1 h2)⟩) hS.2.2 (Nat.le_of_ble_eq_true rfl) (Nat.le_of_ble_eq_true rfl)
        · refine lv_if_ne (tgt := 60) hx hb dX3_row_25 (by decide) (fun _ => ?_) (fun h9 => by first | exact absurd h9 (by decide) | exact absurd (by decide) h9)
          obtain ⟨sa_70, hsa_70⟩ := hE.str 181 "target, softness or limits are out of range" (by decide +kernel)
          have hat : ∀ w ∈ (vx_atS RX3 82 "java/lang/IllegalArgumentException" ["java/lang/RuntimeException", "java/lang/Exception"]), w.before _ s = true := vx_hat (B := kx_non "java/lang/IllegalArgumentException") (fun w h => hts w (a_82 w h)) (by decide +kernel) (hE.non "java/lang/IllegalArgumentException" (by decide +kernel))
          refine W.widen (k := 11) (n := 1694) (Nat.le_of_ble_eq_true rfl) (Nat.le_of_ble_eq_true rfl) ?_
          exact vx_throwS (A := A) (rest := []) hx hb hlt hown (by decide +kernel) (by decide +kernel) (hts (.classLink RX3 78 "java/lang/IllegalArgumentException") (by decide +kernel)) (hts (.initialized "java/lang/IllegalArgumentException") (by decide +kernel)) hsa_70 hat (by decide +kernel) hE.2.2.2.2.2.2.1 hE.2.2.2.2.2.2.2.1 hS (hl.1.trans hml.symm) dX3_row_60 dX3_row_63 dX3_row_64 dX3_row_66 dX3_row_69 (fun x h => (ht x h).elim) (Nat.le_of_ble_eq_true rfl) (Nat.le_of_ble_eq_true rfl) (Nat.le_of_ble_eq_true rfl) (Nat.le_of_ble_eq_true rfl) hlocks (fun t hvm hz hk => ⟨(u_45.1, u_45.2), trivial, ⟨⟨Or.inr (Or.inl rfl), hI⟩, hP.kept (fun k q hq => hk q.1 (hP k q hq).lt), hD⟩, Nat.le_trans hS.1 hz, fun q h1 h2 => (hk q (Nat.lt_of_lt_of_le h1 hS.1)).trans (hS.2.1 q h1 h2)⟩) hS.2.2 (Nat.le_of_ble_eq_true rfl) (Nat.le_of_ble_eq_true rfl)
      · refine lv_if_ne (tgt := 60) hx hb dX3_row_14 (by decide) (fun _ => ?_) (fun h9 => by first | exact absurd h9 (by decide) | exact absurd (by decide) h9)
        obtain ⟨sa_71, hsa_71⟩ := hE.str 181 "target, softness or limits are out of range" (by decide +kernel)
        have hat : ∀ w ∈ (vx_atS RX3 82 "java/lang/IllegalArgumentException" ["java/lang/RuntimeException", "java/lang/Exception"]), w.before _ s = true := vx_hat (B := kx_non "java/lang/IllegalArgumentException") (fun w h => hts w (a_82 w h)) (by decide +kernel) (hE.non "java/lang/IllegalArgumentException" (by decide +kernel))
        refine W.widen (k := 11) (n := 1694) (Nat.le_of_ble_eq_true rfl) (Nat.le_of_ble_eq_true rfl) ?_
        exact vx_throwS (A := A) (rest := []) hx hb hlt hown (by decide +kernel) (by decide +kernel) (hts (.classLink RX3 78 "java/lang/IllegalArgumentException") (by decide +kernel)) (hts (.initialized "java/lang/IllegalArgumentException") (by decide +kernel)) hsa_71 hat (by decide +kernel) hE.2.2.2.2.2.2.1 hE.2.2.2.2.2.2.2.1 hS (hl.1.trans hml.symm) dX3_row_60 dX3_row_63 dX3_row_64 dX3_row_66 dX3_row_69 (fun x h => (ht x h).elim) (Nat.le_of_ble_eq_true rfl) (Nat.le_of_ble_eq_true rfl) (Nat.le_of_ble_eq_true rfl) (Nat.le_of_ble_eq_true rfl) hlocks (fun t hvm hz hk => ⟨(u_40.1, u_40.2), trivial, ⟨⟨Or.inr (Or.inl rfl), hI⟩, hP.kept (fun k q hq => hk q.1 (hP k q hq).lt), hD⟩, Nat.le_trans hS.1 hz, fun q h1 h2 => (hk q (Nat.lt_of_lt_of_le h1 hS.1)).trans (hS.2.1 q h1 h2)⟩) hS.2.2 (Nat.le_of_ble_eq_true rfl) (Nat.le_of_ble_eq_true rfl)
