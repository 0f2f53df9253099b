set_option maxHeartbeats 4000000 in
set_option maxRecDepth 100000 in
theorem k_p_rub (l : Launch) (dC : Nat → ClassId) (dI : Nat → Nat → Nat) (dA : Nat → ClassId) (ad sz : Nat) (τ : Nat → Nat → Nat) (pv : Nat → Nat → Value) (L : List Nat) (f : Nat → va_E) (hI : kI dA τ pv L f) (x bl rl kl ba ra ka fr nb nr nk : Nat) (hW : kW τ pv ad x bl rl kl ba ra ka fr nb nr nk) (n k : Int32) (a : UInt32) (at9 : Int32) (b : UInt32) (ky : Int32) (hlt : l.stackTraces = false) : vx_Met l yX3_rub wsX3_rub ({ frames := 8, cells := 12, slots := 1700, locals := 188 } : Room) (va_Pc [.ref x, .int n, .int k, .float a, .int at9, .float b, .int ky] (kB dC dI dA ad sz L f)) (va_Qi (fun r u => kPost dA τ pv ad x nb u) (kR dC dI dA (va_A (va_pl L f) sz)) (va_A (va_pl L f) sz)) (kX dC dI (fun E u => (E = "java/lang/IndexOutOfBoundsException" ∨ E = "java/lang/IllegalArgumentException" ∨ E = "java/lang/IllegalStateException") ∧ kI dA τ pv u.1 u.2) (va_A (va_pl L f) sz)) 12 1700 (va_A (va_pl L f) sz) := by
  refine vx_ofW (cc := cX3_rub) (maxL := 9) (ret := (some .int)) (by decide) rfl ?_
  intro p e s m args below meth c s₁ B hml ht hv
  obtain ⟨rfl, hsz, hP, hK, hD0, hE⟩ := hv
  have hx := B.exec
  have hb := B.bytes
  have hr := B.returns
  have hts := atoms_spec (ws := wsX3_rub) B.pre
  have hown : s.vm.findClass RX3 = some m.cls := findClass_of_methodNamed B.named
  have hlocks := B.notSynchronized
  have i_X1 : ∀ w ∈ u_ws RX1 TX1 18, w ∈ wsX3_rub := by decide +kernel
  have a_82 : ∀ w ∈ (vx_atS RX3 82 "java/lang/IllegalArgumentException" ["java/lang/RuntimeException", "java/lang/Exception"]).filter goodWord, w ∈ wsX3_rub := fun _ h => List.mem_cons_of_mem _ (List.mem_append_left _ (List.mem_append_left _ (List.mem_append_right _ h)))
  subst hsz
  have hD := hD0.self (sz := s.heap.size)
  generalize hAe : va_A (va_pl L f) s.heap.size = A at hD hE ⊢
  have hA : ∀ q : Nat, s.heap.size ≤ q → A q := fun q h => by rw [← hAe]; exact Or.inr h
  have hS : va_S A s.heap s.heap [] := va_S.rf
  have hP : va_P (dC, dI) vwCl (va_pl L f) s.heap := hP
  have hK : va_K (dC, dI) vwCl (tyA dA) s := hK
  have hl := lv_entry ([.ref x, .int n, .int k, .float a, .int at9, .float b, .int ky]) (n := 9) (Nat.le_of_ble_eq_true rfl)
  rw [lg_entry_eq]
  generalize (lg_sl ([.ref x, .int n, .int k, .float a, .int at9, .float b, .int ky]) ++ List.replicate (9 - (lg_sl ([.ref x, .int n, .int k, .float a, .int at9, .float b, .int ky])).length) Slot.unset).toArray = ls at hl ⊢
  have hl : lv_has ls 9 [(0, .ref x), (1, .int n), (2, .int k), (3, .float a), (4, .int at9), (5, .float b), (6, .int ky)] := hl
  have hnb := hW.lnb
  have hnr := hW.lnr
  have hnk := hW.lnk
  have hF : kFr kPt τ pv τ pv := kFr.rf
  refine lv_aload_n hx hb dX3_rub_0 rfl (lv_at hl 0 rfl) ?_
  refine lv_iload_n hx hb dX3_rub_1 rfl (lv_at hl 1 rfl) ?_
  refine lv_iload_n hx hb dX3_rub_2 rfl (lv_at hl 2 rfl) ?_
  refine kd_xv (vx_runV (As := [.int n, .int k]) (rest := []) ⟨hx, hb, hml, hown, hts⟩ (k_checkPair l dC dI dA ad _ τ pv _ _ hI x bl rl kl ba ra ka fr nb nr nk hW n k hlt) (cwV 2 hts gX3_rub_X3_checkPair rfl rfl rfl (by decide +kernel) ⟨Nat.le_of_ble_eq_true rfl, Nat.le_of_ble_eq_true rfl⟩) (kd_preV hP hD hK hS hA hE hI hW.tx rfl rfl) rfl rfl hl.1 rfl (lv_room (Nat.le_of_ble_eq_true rfl)) dX3_rub_3 ⟨Nat.le_of_ble_eq_true rfl, Nat.le_of_ble_eq_true rfl⟩) hD hS hA (fun E ce q9 u_1 H locs hw hP hD hS hce hcv hcl => ?_) (fun u_1 H locs hw hP hD hS => ?_)
  · obtain ⟨hE9, hI⟩ := hw
    exact vx_out (fun x h => (ht x h).elim) hlocks hce hcv hcl (fun t ht hvm => ⟨(u_1.1, u_1.2), trivial, ⟨⟨Or.inl hE9, hI⟩, by rw [ht]; exact hP, hD⟩, hS.F ht⟩) hS.2.2 (Nat.le_of_ble_eq_true rfl) (Nat.le_of_ble_eq_true rfl)
  · obtain ⟨⟨j_2, hj_2, rfl⟩, rfl | ⟨j_3, hj_3, rfl⟩, hI⟩ := hw
    · refine lv_aload_n hx hb dX3_rub_6 rfl (lv_at hl 0 rfl) ?_
      refine lv_iload hx hb dX3_rub_7 (lv_at hl 4 rfl) ?_
      refine kd_xq (vx_runV (As := [.int at9]) (rest := []) ⟨hx, hb, hml, hown, hts⟩ (k_rowAt l dC dI dA ad _ τ pv _ _ hI x bl rl kl ba ra ka fr nb nr nk hW at9 hlt) (cwV 1 hts gX3_rub_X3_rowAt rfl rfl rfl (by decide +kernel) ⟨Nat.le_of_ble_eq_true rfl, Nat.le_of_ble_eq_true rfl⟩) (kd_preV hP hD hK hS hA hE hI hW.tx rfl rfl) rfl rfl hl.1 rfl (lv_room (Nat.le_of_ble_eq_true rfl)) dX3_rub_9 ⟨Nat.le_of_ble_eq_true rfl, Nat.le_of_ble_eq_true rfl⟩) hD hS hA (fun E ce q9 u_4 H locs hw hP hD hS hce hcv hcl => ?_) (fun r_5 u_4 H locs hw hP hD hS => ?_)
      · obtain ⟨hE9, hI⟩ := hw
        exact vx_out (fun x h => (ht x h).elim) hlocks hce hcv hcl (fun t ht hvm => ⟨(u_4.1, u_4.2), trivial, ⟨⟨Or.inl hE9, hI⟩, by rw [ht]; exact hP, hD⟩, hS.F ht⟩) hS.2.2 (Nat.le_of_ble_eq_true rfl) (Nat.le_of_ble_eq_true rfl)
      · obtain ⟨j_7, hj_7, rfl, q_6, rfl, pq_6, tq_6, nq_6, hI⟩ := hw
        refine W.eq (g2 := F0 m 12 ls [.ref q_6]) rfl ?_
        refine lv_astore (lv' := [(7, .ref q_6), (0, .ref x), (1, .int (nI j_2)), (2, .int (-1)), (3, .float a), (4, .int (nI j_7)), (5, .float b), (6, .int ky)]) hx hb dX3_rub_12 hl (by decide) rfl (fun ls hl => ?_)
        refine lv_fload_n hx hb dX3_rub_14 rfl (lv_at hl 4 rfl) ?_
        refine lv_ldcf (v := 3296722944) hx hb hown (hts (.constantFloat RX3 178 (3296722944)) (by decide +kernel)) dX3_rub_15 ?_
        have hc_8 : fb 1149239296 3296722944 := by unfold fb; decide +kernel
        refine lv_ldcf (v := 1149239296) hx hb hown (hts (.constantFloat RX3 123 (1149239296)) (by decide +kernel)) dX3_rub_17 ?_
        have hc_9 : fb 1149239296 1149239296 := by unfold fb; decide +kernel
        refine kd_calli (va_runS (As := [.float a, .float 3296722944, .float 1149239296]) (rest := []) ⟨hx, hb, hml, hown, hts⟩ (k_outside l dC dI dA ad _ τ pv _ _ hI a 3296722944 1149239296) (va_cwS 3 hts gX3_rub_X3_outside rfl rfl rfl (by decide +kernel) ⟨Nat.le_of_ble_eq_true rfl, Nat.le_of_ble_eq_true rfl⟩) (kd_preS hP hD hK hS hA hE) rfl rfl hl.1 rfl (lv_room (Nat.le_of_ble_eq_true rfl)) dX3_rub_19 ⟨Nat.le_of_ble_eq_true rfl, Nat.le_of_ble_eq_true rfl⟩) hD hS hA (fun r_11 u_10 H locs hw hP hD hS => ?_)
        obtain ⟨⟨k_12, rfl⟩ | ⟨k_12, rfl⟩, hI⟩ := hw
        · have fb_13 : fb 1149239296 a := fb_within hc_8 hc_9 (by decide) k_12
          refine lv_if_ne (tgt := 36) hx hb dX3_rub_22 (by decide) (fun h9 => by first | exact absurd h9 (by decide) | exact absurd (by decide) h9) (fun _ => ?_)
          refine lv_fload hx hb dX3_rub_25 (lv_at hl 6 rfl) ?_
          refine lv_fconst0 hx hb dX3_rub_27 ?_
          refine lv_ldcf (v := 1090519040) hx hb hown (hts (.constantFloat RX3 207 (1090519040)) (by decide +kernel)) dX3_rub_28 ?_
          have hc_14 : fb 1090519040 1090519040 := by unfold fb; decide +kernel
          refine kd_calli (va_runS (As := [.float b, .float FP.fconst0, .float 1090519040]) (rest := []) ⟨hx, hb, hml, hown, hts⟩ (k_outside l dC dI dA ad _ τ pv _ _ hI b FP.fconst0 1090519040) (va_cwS 3 hts gX3_rub_X3_outside rfl rfl rfl (by decide +kernel) ⟨Nat.le_of_ble_eq_true rfl, Nat.le_of_ble_eq_true rfl⟩) (kd_preS hP hD hK hS hA hE) rfl rfl hl.1 rfl (lv_room (Nat.le_of_ble_eq_true rfl)) dX3_rub_30 ⟨Nat.le_of_ble_eq_true rfl, Nat.le_of_ble_eq_true rfl⟩) hD hS hA (fun r_16 u_15 H locs hw hP hD hS => ?_)
          obtain ⟨⟨k_17, rfl⟩ | ⟨k_17, rfl⟩, hI⟩ := hw
          · have fb_18 : fb 1090519040 b := fb_within (fb_le kc_0 (by decide)) hc_14 (by decide) k_17
            refine lv_if_eq (tgt := 46) hx hb dX3_rub_33 (by decide) (fun _ => ?_) (fun h9 => by first | exact absurd h9 (by decide) | exact absurd (by decide) h9)
            refine lv_aload hx hb dX3_rub_46 (lv_at hl 0 rfl) ?_
            refine kp_get hx hb hts i_X1 hown hK hP hI tq_6 rfl rfl 9 (by decide) (by decide) (hts (.fieldLink RX3 210 "IslandSolver$Row" "at" "LIslandSolver$Row;") (by decide +kernel)) (fun _ h9 => h9) dX3_rub_48 (kq_55 (fun hq_22 => ?_) (fun q_21 hq_22 ht_23 ht_23_2 ht_23_3 => ?_))
            · refine lv_ifnonnullN hx hb dX3_rub_51 ?_
              refine lv_aload hx hb dX3_rub_54 (lv_at hl 0 rfl) ?_
              refine kp_get hx hb hts i_X1 hown hK hP hI tq_6 rfl rfl 0 (by decide) (by decide) (hts (.fieldLink RX3 214 "IslandSolver$Row" "a" "LIslandSolver$Body;") (by decide +kernel)) (fun _ h9 => h9) dX3_rub_56 (kq_C (by decide) fun x_24 h_25 => ?_)
              obtain ⟨rfl, h_25⟩ := h_25
              refine lv_aload_n hx hb dX3_rub_59 rfl (lv_at hl 1 rfl) ?_
              refine lv_iload_n hx hb dX3_rub_60 rfl (lv_at hl 2 rfl) ?_
              refine kd_callq (va_runV (As := [.int (nI j_2)]) (rest := [.ref (τ 5 q_6)]) ⟨hx, hb, hml, hown, hts⟩ (k_bodyAtN l dC dI dA ad _ τ pv _ _ hI x bl rl kl ba ra ka fr nb nr nk hW j_2 (by omega)) (cwV 1 hts gX3_rub_X3_bodyAt rfl rfl rfl (by decide +kernel) ⟨Nat.le_of_ble_eq_true rfl, Nat.le_of_ble_eq_true rfl⟩) (kd_preV hP hD hK hS hA hE hI hW.tx rfl rfl) rfl rfl hl.1 rfl (lv_room (Nat.le_of_ble_eq_true rfl)) dX3_rub_61 ⟨Nat.le_of_ble_eq_true rfl, Nat.le_of_ble_eq_true rfl⟩) hD hS hA (fun r_27 u_26 H locs hw hP hD hS => ?_)
              obtain ⟨q_28, rfl, pq_28, tq_28, nq_28, hI⟩ := hw
              refine W.eq (g2 := F0 m 64 ls [.ref q_28, .ref (τ 5 q_6)]) rfl ?_
              refine W.eq (g2 := F0 m 64 ls [va_rf (some q_28), va_rf (some (τ 5 q_6))]) rfl ?_
              refine lv_acmp_ne (rx := (some (τ 5 q_6))) (ry := (some q_28)) (tgt := 80) hx hb dX3_rub_64 (by decide) (fun c_30 => ?_) (fun c_30 => ?_)
              · have e_c_30 : (τ 5 q_6) ≠ q_28 := fun h9 => c_30 (congrArg some h9)
                obtain ⟨sa_31, hsa_31⟩ := hE.str 224 "the row rubs itself or is of other bodies" (by decide +kernel)
                have hat : ∀ w ∈ (vx_atS RX3 82 "java/lang/IllegalArgumentException" ["java/lang/RuntimeException", "java/lang/Exception"]), w.before _ s = true := vx_hat (B := kx_non "java/lang/IllegalArgumentException") (fun w h => hts w (a_82 w h)) (by decide +kernel) (hE.non "java/lang/IllegalArgumentException" (by decide +kernel))
                refine W.widen (k := 11) (n := 1694) (Nat.le_of_ble_eq_true rfl) (Nat.le_of_ble_eq_true rfl) ?_
                exact vx_throwS (A := A) (rest := []) hx hb hlt hown (by decide +kernel) (by decide +kernel) (hts (.classLink RX3 78 "java/lang/IllegalArgumentException") (by decide +kernel)) (hts (.initialized "java/lang/IllegalArgumentException") (by decide +kernel)) hsa_31 hat (by decide +kernel) hE.2.2.2.2.2.2.1 hE.2.2.2.2.2.2.2.1 hS (hl.1.trans hml.symm) dX3_rub_80 dX3_rub_83 dX3_rub_84 dX3_rub_86 dX3_rub_89 (fun x h => (ht x h).elim) (Nat.le_of_ble_eq_true rfl) (Nat.le_of_ble_eq_true rfl) (Nat.le_of_ble_eq_true rfl) (Nat.le_of_ble_eq_true rfl) hlocks (fun t hvm hz hk => ⟨(u_26.1, u_26.2), trivial, ⟨⟨Or.inr (Or.inl rfl), hI⟩, hP.kept (fun k q hq => hk q.1 (hP k q hq).lt), hD⟩, Nat.le_trans hS.1 hz, fun q h1 h2 => (hk q (Nat.lt_of_lt_of_le h1 hS.1)).trans (hS.2.1 q h1 h2)⟩) hS.2.2 (Nat.le_of_ble_eq_true rfl) (Nat.le_of_ble_eq_true rfl)
              · have e_c_30 : (τ 5 q_6) = q_28 := Option.some.inj c_30
                refine lv_aload hx hb dX3_rub_67 (lv_at hl 0 rfl) ?_
                refine kp_get hx hb hts i_X1 hown hK hP hI tq_6 rfl rfl 1 (by decide) (by decide) (hts (.fieldLink RX3 218 "IslandSolver$Row" "b" "LIslandSolver$Body;") (by decide +kernel)) (fun _ h9 => h9) dX3_rub_69 (kq_54 (fun hq_35 => ?_) (fun q_34 hq_35 ht_36 => ?_))
                · refine lv_aload_n hx hb dX3_rub_72 rfl (lv_at hl 1 rfl) ?_
                  refine lv_iload_n hx hb dX3_rub_73 rfl (lv_at hl 3 rfl) ?_
                  refine kd_callq (va_runV (As := [.int (-1)]) (rest := [.null]) ⟨hx, hb, hml, hown, hts⟩ (k_otherM l dC dI dA ad _ τ pv _ _ hI x bl rl kl ba ra ka fr nb nr nk hW ) (cwV 1 hts gX3_rub_X3_otherBody rfl rfl rfl (by decide +kernel) ⟨Nat.le_of_ble_eq_true rfl, Nat.le_of_ble_eq_true rfl⟩) (kd_preV hP hD hK hS hA hE hI hW.tx rfl rfl) rfl rfl hl.1 rfl (lv_room (Nat.le_of_ble_eq_true rfl)) dX3_rub_74 ⟨Nat.le_of_ble_eq_true rfl, Nat.le_of_ble_eq_true rfl⟩) hD hS hA (fun r_38 u_37 H locs hw hP hD hS => ?_)
                  obtain ⟨rfl, hI⟩ := hw
                  refine W.eq (g2 := F0 m 77 ls [.null, .null]) rfl ?_
                  refine W.eq (g2 := F0 m 77 ls [va_rf none, va_rf none]) rfl ?_
                  refine lv_acmp_eq (rx := none) (ry := none) (tgt := 90) hx hb dX3_rub_77 (by decide) (fun _ => ?_) (fun h9 => absurd rfl h9)
                  refine lv_aload_n hx hb dX3_rub_90 rfl (lv_at hl 1 rfl) ?_
                  refine kd_xv (vx_runV (As := []) (rest := []) ⟨hx, hb, hml, hown, hts⟩ (k_checkRoom l dC dI dA ad _ τ pv _ _ hI x bl rl kl ba ra ka fr nb nr nk hW  hlt) (cwV 0 hts gX3_rub_X3_checkRoomForRow rfl rfl rfl (by decide +kernel) ⟨Nat.le_of_ble_eq_true rfl, Nat.le_of_ble_eq_true rfl⟩) (kd_preV hP hD hK hS hA hE hI hW.tx rfl rfl) rfl rfl hl.1 rfl (lv_room (Nat.le_of_ble_eq_true rfl)) dX3_rub_91 ⟨Nat.le_of_ble_eq_true rfl, Nat.le_of_ble_eq_true rfl⟩) hD hS hA (fun E ce q9 u_39 H locs hw hP hD hS hce hcv hcl => ?_) (fun u_39 H locs hw hP hD hS => ?_)
                  · obtain ⟨hE9, hI⟩ := hw
                    exact vx_out (fun x h => (ht x h).elim) hlocks hce hcv hcl (fun t ht hvm => ⟨(u_39.1, u_39.2), trivial, ⟨⟨Or.inr (Or.inr (hE9)), hI⟩, by rw [ht]; exact hP, hD⟩, hS.F ht⟩) hS.2.2 (Nat.le_of_ble_eq_true rfl) (Nat.le_of_ble_eq_true rfl)
                  · obtain ⟨hroom, hI⟩ := hw
                    refine lv_aload_n hx hb dX3_rub_94 rfl (lv_at hl 1 rfl) ?_
                    refine lv_iload_n hx hb dX3_rub_95 rfl (lv_at hl 2 rfl) ?_
                    refine lv_iload_n hx hb dX3_rub_96 rfl (lv_at hl 3 rfl) ?_
                    refine lv_fload_n hx hb dX3_rub_97 rfl (lv_at hl 4 rfl) ?_
                    refine lv_iload hx hb dX3_rub_98 (lv_at hl 7 rfl) ?_
                    refine kd_callq (va_runV (As := [.int (nI j_2), .int (-1), .float a, .int ky]) (rest := []) ⟨hx, hb, hml, hown, hts⟩ (k_newRow0 l dC dI dA ad _ τ pv _ _ hI x bl rl kl ba ra ka fr nb nr nk hW j_2 (by omega) a fb_13 ky) (cwV 4 hts gX3_rub_X3_newRow rfl rfl rfl (by decide +kernel) ⟨Nat.le_of_ble_eq_true rfl, Nat.le_of_ble_eq_true rfl⟩) (kd_preV hP hD hK hS hA hE hI hW.tx rfl rfl) rfl rfl hl.1 rfl (lv_room (Nat.le_of_ble_eq_true rfl)) dX3_rub_100 ⟨Nat.le_of_ble_eq_true rfl, Nat.le_of_ble_eq_true rfl⟩) hD hS hA (fun r_41 u_40 H locs hw hP hD hS => ?_)
                    obtain ⟨qr, qa, qb, τ2, pv2, rfl, h0qr, hF9, tqr, ⟨rw_n, rw_p, rw_q, rw_1, rw_2, x_t, x_k, p_0, p_1, p_2, p_3, p_4, p_5, p_6, p_7, p_8, p_9, p_10, p_11, p_12, p_13, p_14, p_15, p_16, p_17, f_5, t_0, t_1, t_2, t_3, t_4, t_15, t_16⟩, hI⟩ := hw
                    have hW := hW.frk (hF9.weak (fun _ _ _ => rfl))
                    have hF := hF.trans hF9
                    refine W.eq (g2 := F0 m 103 ls [.ref qr]) rfl ?_
                    refine lv_astore (lv' := [(8, .ref qr), (7, .ref q_6), (0, .ref x), (1, .int (nI j_2)), (2, .int (-1)), (3, .float a), (4, .int (nI j_7)), (5, .float b), (6, .int ky)]) hx hb dX3_rub_103 hl (by decide) rfl (fun ls hl => ?_)
                    refine lv_aload hx hb dX3_rub_105 (lv_at hl 0 rfl) ?_
                    refine lv_aload hx hb dX3_rub_107 (lv_at hl 1 rfl) ?_
                    refine kp_putP (v := .ref q_6) (ty := .object "IslandSolver$Row") hx hb hts i_X1 tyX1 tyX1_ok nmX1 hown hK hP hD hS hI tqr rfl rfl 9 (by decide) (by decide) (hts (.fieldLink RX3 210 "IslandSolver$Row" "at" "LIslandSolver$Row;") (by decide +kernel)) (fun _ h9 => h9) rfl (by decide +kernel) rfl rfl rfl (kv_S (by decide) ⟨some q_6, rfl⟩) dX3_rub_109 (fun f H locs hI hP hD hS => ?_)
                    have hF := hF.trans (kFr.upr (P := kPt) (τ := τ2) (pv := pv2) (a := qr) (w := .ref q_6) (k := 9) (Or.inr (by rw [tqr]; decide)))
                    have hW := hW.frw (kFr.upr (P := kPw) (τ := τ2) (pv := pv2) (a := qr) (w := .ref q_6) (k := 9) (Or.inr (by rw [tqr]; decide)))
                    refine lv_aload hx hb dX3_rub_112 (lv_at hl 0 rfl) ?_
                    refine lv_fload hx hb dX3_rub_114 (lv_at hl 7 rfl) ?_
                    refine kp_putP (v := .float b) (ty := .float) hx hb hts i_X1 tyX1 tyX1_ok nmX1 hown hK hP hD hS hI tqr rfl rfl 10 (by decide) (by decide) (hts (.fieldLink RX3 226 "IslandSolver$Row" "friction" "F") (by decide +kernel)) (fun _ h9 => h9) rfl (by decide +kernel) rfl rfl rfl (kv_G _) dX3_rub_116 (fun f H locs hI hP hD hS => ?_)
                    have hF := hF.trans (kFr.upr (P := kPt) (τ := τ2) (pv := (kup pv2 qr 9 (.ref q_6))) (a := qr) (w := .float b) (k := 10) (Or.inr (by rw [tqr]; decide)))
                    have hW := hW.frw (kFr.upr (P := kPw) (τ := τ2) (pv := (kup pv2 qr 9 (.ref q_6))) (a := qr) (w := .float b) (k := 10) (Or.inr (by rw [tqr]; decide)))
                    have hI := hI.mkRow (ix := nr) (at_ := q_6 + 1) (qb := qb) tqr ((kup_ne (Or.inr (by decide))).trans ((kup_ne (Or.inr (by decide))).trans p_0)) ((kup_ne (Or.inr (by decide))).trans ((kup_ne (Or.inr (by decide))).trans p_1)) ((kup_ne (Or.inr (by decide))).trans ((kup_ne (Or.inr (by decide))).trans p_2)) ((kup_ne (Or.inr (by decide))).trans ((kup_ne (Or.inr (by decide))).trans p_3)) ((kup_ne (Or.inr (by decide))).trans ((kup_ne (Or.inr (by decide))).trans p_4)) ((kup_ne (Or.inr (by decide))).trans ((kup_ne (Or.inr (by decide))).trans p_5)) ((kup_ne (Or.inr (by decide))).trans ((kup_ne (Or.inr (by decide))).trans p_6)) ((kup_ne (Or.inr (by decide))).trans ((kup_ne (Or.inr (by decide))).trans p_7)) ((kup_ne (Or.inr (by decide))).trans ((kup_ne (Or.inr (by decide))).trans p_8)) (((kup_ne (Or.inr (by decide))).trans kup_self).trans (kRf_s rfl).symm) kup_self ((kup_ne (Or.inr (by decide))).trans ((kup_ne (Or.inr (by decide))).trans p_11)) ((kup_ne (Or.inr (by decide))).trans ((kup_ne (Or.inr (by decide))).trans p_12)) ((kup_ne (Or.inr (by decide))).trans ((kup_ne (Or.inr (by decide))).trans p_13)) ((kup_ne (Or.inr (by decide))).trans ((kup_ne (Or.inr (by decide))).trans p_14)) ((kup_ne (Or.inr (by decide))).trans ((kup_ne (Or.inr (by decide))).trans p_15)) ((kup_ne (Or.inr (by decide))).trans ((kup_ne (Or.inr (by decide))).trans p_16)) ((kup_ne (Or.inr (by decide))).trans ((kup_ne (Or.inr (by decide))).trans p_17)) f_5 (Nat.zero_le _) (Nat.zero_le _) (Nat.zero_le _) fb_18 t_0 t_1 t_2 t_3 t_4 (fun b hb => by cases hb; exact ⟨(hF9.ty tq_6), (hF.tj tq_6 (j := 2)).trans hq_22⟩) t_15 t_16
                    obtain ⟨τ_r, hτ_r⟩ : ∃ z, z = kxt τ2 qr (kgR nr (q_6 + 1) qa qb) := ⟨_, rfl⟩
                    rw [← hτ_r] at hI
                    have hF_r : kFr kPt τ2 (kup (kup pv2 qr 9 (.ref q_6)) qr 10 (.float b)) τ_r (kup (kup pv2 qr 9 (.ref q_6)) qr 10 (.float b)) := by rw [hτ_r]; exact kFr.ret (Or.inr (by rw [tqr]; decide))
                    have t_r : τ_r 0 qr = 2 := by rw [hτ_r]; exact kxt_self 0
                    have x_r : τ_r 1 qr = nr := by rw [hτ_r]; exact kxt_self 1
                    have n_r : (kup (kup pv2 qr 9 (.ref q_6)) qr 10 (.float b)) qr 17 = .null := ((kup_ne (Or.inr (by decide))).trans ((kup_ne (Or.inr (by decide))).trans p_17))
                    have hW := hW.frk (hF_r.weak (fun _ _ _ => rfl))
                    have hF := hF.trans hF_r
                    refine lv_aload_n hx hb dX3_rub_119 rfl (lv_at hl 2 rfl) ?_
                    refine lv_aload hx hb dX3_rub_120 (lv_at hl 0 rfl) ?_
                    refine kd_calli (va_runV (As := [.ref qr]) (rest := []) ⟨hx, hb, hml, hown, hts⟩ (k_addRow l dC dI dA ad _ τ_r (kup (kup pv2 qr 9 (.ref q_6)) qr 10 (.float b)) _ _ hI x bl rl kl ba ra ka fr nb nr nk hW qr t_r (by omega) x_r n_r) (cwV 1 hts gX3_rub_X3_addRow rfl rfl rfl (by decide +kernel) ⟨Nat.le_of_ble_eq_true rfl, Nat.le_of_ble_eq_true rfl⟩) (kd_preV hP hD hK hS hA hE hI hW.tx rfl rfl) rfl rfl hl.1 rfl (lv_room (Nat.le_of_ble_eq_true rfl)) dX3_rub_122 ⟨Nat.le_of_ble_eq_true rfl, Nat.le_of_ble_eq_true rfl⟩) hD hS hA (fun r_43 u_42 H locs hw hP hD hS => ?_)
                    obtain ⟨rfl, a2, τ9, pv9, hF9, hW, hI⟩ := hw
                    have hF := (hF.weak (fun _ _ _ => rfl)).trans hF9
                    refine vx_ret ?_
                    refine W.widen (k := 12) (n := 1700) (Nat.le_of_ble_eq_true rfl) (Nat.le_of_ble_eq_true rfl) ?_
                    exact W.iret (v := nI nr) hx hb hr (fun t ht hW9 => ⟨⟨nI nr, (u_42.1, u_42.2), rfl, ⟨_, _, bl, rl, kl, ba, a2, ka, fr, (nr + 1), nk, hF, hW, hI⟩, by rw [ht]; exact hP, va_K.moved hW9.alike hK, hD⟩, hS.F ht⟩) hS.2.2 dX3_rub_125
                · refine lv_aload_n hx hb dX3_rub_72 rfl (lv_at hl 1 rfl) ?_
                  refine lv_iload_n hx hb dX3_rub_73 rfl (lv_at hl 3 rfl) ?_
                  refine kd_callq (va_runV (As := [.int (-1)]) (rest := [.ref q_34]) ⟨hx, hb, hml, hown, hts⟩ (k_otherM l dC dI dA ad _ τ pv _ _ hI x bl rl kl ba ra ka fr nb nr nk hW ) (cwV 1 hts gX3_rub_X3_otherBody rfl rfl rfl (by decide +kernel) ⟨Nat.le_of_ble_eq_true rfl, Nat.le_of_ble_eq_true rfl⟩) (kd_preV hP hD hK hS hA hE hI hW.tx rfl rfl) rfl rfl hl.1 rfl (lv_room (Nat.le_of_ble_eq_true rfl)) dX3_rub_74 ⟨Nat.le_of_ble_eq_true rfl, Nat.le_of_ble_eq_true rfl⟩) hD hS hA (fun r_45 u_44 H locs hw hP hD hS => ?_)
                  obtain ⟨rfl, hI⟩ := hw
                  refine W.eq (g2 := F0 m 77 ls [.null, .ref q_34]) rfl ?_
                  refine W.eq (g2 := F0 m 77 ls [va_rf none, va_rf (some q_34)]) rfl ?_
                  refine lv_acmp_eq (rx := (some q_34)) (ry := none) (tgt := 90) hx hb dX3_rub_77 (by decide) (fun h9 => absurd h9 (by intro h9; cases h9)) (fun _ => ?_)
                  obtain ⟨sa_46, hsa_46⟩ := hE.str 224 "the row rubs itself or is of other bodies" (by decide +kernel)
                  have hat : ∀ w ∈ (vx_atS RX3 82 "java/lang/IllegalArgumentException" ["java/lang/RuntimeException", "java/lang/Exception"]), w.before _ s = true := vx_hat (B := kx_non "java/lang/IllegalArgumentException") (fun w h => hts w (a_82 w h)) (by decide +kernel) (hE.non "java/lang/IllegalArgumentException" (by decide +kernel))
                  refine W.widen (k := 11) (n := 1694) (Nat.le_of_ble_eq_true rfl) (Nat.le_of_ble_eq_true rfl) ?_
                  exact vx_throwS (A := A) (rest := []) hx hb hlt hown (by decide +kernel) (by decide +kernel) (hts (.classLink RX3 78 "java/lang/IllegalArgumentException") (by decide +kernel)) (hts (.initialized "java/lang/IllegalArgumentException") (by decide +kernel)) hsa_46 hat (by decide +kernel) hE.2.2.2.2.2.2.1 hE.2.2.2.2.2.2.2.1 hS (hl.1.trans hml.symm) dX3_rub_80 dX3_rub_83 dX3_rub_84 dX3_rub_86 dX3_rub_89 (fun x h => (ht x h).elim) (Nat.le_of_ble_eq_true rfl) (Nat.le_of_ble_eq_true rfl) (Nat.le_of_ble_eq_true rfl) (Nat.le_of_ble_eq_true rfl) hlocks (fun t hvm hz hk => ⟨(u_44.1, u_44.2), trivial, ⟨⟨Or.inr (Or.inl rfl), hI⟩, hP.kept (fun k q hq => hk q.1 (hP k q hq).lt), hD⟩, Nat.le_trans hS.1 hz, fun q h1 h2 => (hk q (Nat.lt_of_lt_of_le h1 hS.1)).trans (hS.2.1 q h1 h2)⟩) hS.2.2 (Nat.le_of_ble_eq_true rfl) (Nat.le_of_ble_eq_true rfl)
            · refine lv_ifnonnull (tgt := 80) hx hb dX3_rub_51 (by decide) ?_
              obtain ⟨sa_47, hsa_47⟩ := hE.str 224 "the row rubs itself or is of other bodies" (by decide +kernel)
              have hat : ∀ w ∈ (vx_atS RX3 82 "java/lang/IllegalArgumentException" ["java/lang/RuntimeException", "java/lang/Exception"]), w.before _ s = true := vx_hat (B := kx_non "java/lang/IllegalArgumentException") (fun w h => hts w (a_82 w h)) (by decide +kernel) (hE.non "java/lang/IllegalArgumentException" (by decide +kernel))
              refine W.widen (k := 11) (n := 1694) (Nat.le_of_ble_eq_true rfl) (Nat.le_of_ble_eq_true rfl) ?_
              exact vx_throwS (A := A) (rest := []) hx hb hlt hown (by decide +kernel) (by decide +kernel) (hts (.classLink RX3 78 "java/lang/IllegalArgumentException") (by decide +kernel)) (hts (.initialized "java/lang/IllegalArgumentException") (by decide +kernel)) hsa_47 hat (by decide +kernel) hE.2.2.2.2.2.2.1 hE.2.2.2.2.2.2.2.1 hS (hl.1.trans hml.symm) dX3_rub_80 dX3_rub_83 dX3_rub_84 dX3_rub_86 dX3_rub_89 (fun x h => (ht x h).elim) (Nat.le_of_ble_eq_true rfl) (Nat.le_of_ble_eq_true rfl) (Nat.le_of_ble_eq_true rfl) (Nat.le_of_ble_eq_true rfl) hlocks (fun t hvm hz hk => ⟨(u_15.1, u_15.2), trivial, ⟨⟨Or.inr (Or.inl rfl), hI⟩, hP.kept (fun k q hq => hk q.1 (hP k q hq).lt), hD⟩, Nat.le_trans hS.1 hz, fun q h1 h2 => (hk q (Nat.lt_of_lt_of_le h1 hS.1)).trans (hS.2.1 q h1 h2)⟩) hS.2.2 (Nat.le_of_ble_eq_true rfl) (Nat.le_of_ble_eq_true rfl)
          · refine lv_if_eq (tgt := 46) hx hb dX3_rub_33 (by decide) (fun h9 => by first | exact absurd h9 (by decide) | exact absurd (by decide) h9) (fun _ => ?_)
            obtain ⟨sa_48, hsa_48⟩ := hE.str 208 "target or friction is out of range" (by decide +kernel)
            have hat : ∀ w ∈ (vx_atS RX3 82 "java/lang/IllegalArgumentException" ["java/lang/RuntimeException", "java/lang/Exception"]), w.before _ s = true := vx_hat (B := kx_non "java/lang/IllegalArgumentException") (fun w h => hts w (a_82 w h)) (by decide +kernel) (hE.non "java/lang/IllegalArgumentException" (by decide +kernel))
            refine W.widen (k := 11) (n := 1694) (Nat.le_of_ble_eq_true rfl) (Nat.le_of_ble_eq_true rfl) ?_
            exact vx_throwS (A := A) (rest := []) hx hb hlt hown (by decide +kernel) (by decide +kernel) (hts (.classLink RX3 78 "java/lang/IllegalArgumentException") (by decide +kernel)) (hts (.initialized "java/lang/IllegalArgumentException") (by decide +kernel)) hsa_48 hat (by decide +kernel) hE.2.2.2.2.2.2.1 hE.2.2.2.2.2.2.2.1 hS (hl.1.trans hml.symm) dX3_rub_36 dX3_rub_39 dX3_rub_40 dX3_rub_42 dX3_rub_45 (fun x h => (ht x h).elim) (Nat.le_of_ble_eq_true rfl) (Nat.le_of_ble_eq_true rfl) (Nat.le_of_ble_eq_true rfl) (Nat.le_of_ble_eq_true rfl) hlocks (fun t hvm hz hk => ⟨(u_15.1, u_15.2), trivial, ⟨⟨Or.inr (Or.inl rfl), hI⟩, hP.kept (fun k q hq => hk q.1 (hP k q hq).lt), hD⟩, Nat.le_trans hS.1 hz, fun q h1 h2 => (hk q (Nat.lt_of_lt_of_le h1 hS.1)).trans (hS.2.1 q h1 h2)⟩) hS.2.2 (Nat.le_of_ble_eq_true rfl) (Nat.le_of_ble_eq_true rfl)
        · refine lv_if_ne (tgt := 36) hx hb dX3_rub_22 (by decide) (fun _ => ?_) (fun h9 => by first | exact absurd h9 (by decide) | exact absurd (by decide) h9)
          obtain ⟨sa_49, hsa_49⟩ := hE.str 208 "target or friction is out of range" (by decide +kernel)
          have hat : ∀ w ∈ (vx_atS RX3 82 "java/lang/IllegalArgumentException" ["java/lang/RuntimeException", "java/lang/Exception"]), w.before _ s = true := vx_hat (B := kx_non "java/lang/IllegalArgumentException") (fun w h => hts w (a_82 w h)) (by decide +kernel) (hE.non "java/lang/IllegalArgumentException" (by decide +kernel))
          refine W.widen (k := 11) (n := 1694) (Nat.le_of_ble_eq_true rfl) (Nat.le_of_ble_eq_true rfl) ?_
          exact vx_throwS (A := A) (rest := []) hx hb hlt hown (by decide +kernel) (by decide +kernel) (hts (.classLink RX3 78 "java/lang/IllegalArgumentException") (by decide +kernel)) (hts (.initialized "java/lang/IllegalArgumentException") (by decide +kernel)) hsa_49 hat (by decide +kernel) hE.2.2.2.2.2.2.1 hE.2.2.2.2.2.2.2.1 hS (hl.1.trans hml.symm) dX3_rub_36 dX3_rub_39 dX3_rub_40 dX3_rub_42 dX3_rub_45 (fun x h => (ht x h).elim) (Nat.le_of_ble_eq_true rfl) (Nat.le_of_ble_eq_true rfl) (Nat.le_of_ble_eq_true rfl) (Nat.le_of_ble_eq_true rfl) hlocks (fun t hvm hz hk => ⟨(u_10.1, u_10.2), trivial, ⟨⟨Or.inr (Or.inl rfl), hI⟩, hP.kept (fun k q hq => hk q.1 (hP k q hq).lt), hD⟩, Nat.le_trans hS.1 hz, fun q h1 h2 => (hk q (Nat.lt_of_lt_of_le h1 hS.1)).trans (hS.2.1 q h1 h2)⟩) hS.2.2 (Nat.le_of_ble_eq_true rfl) (Nat.le_of_ble_eq_true rfl)
    · refine lv_aload_n hx hb dX3_rub_6 rfl (lv_at hl 0 rfl) ?_
      refine lv_iload hx hb dX3_rub_7 (lv_at hl 4 rfl) ?_
      refine kd_xq (vx_runV (As := [.int at9]) (rest := []) ⟨hx, hb, hml, hown, hts⟩ (k_rowAt l dC dI dA ad _ τ pv _ _ hI x bl rl kl ba ra ka fr nb nr nk hW at9 hlt) (cwV 1 hts gX3_rub_X3_rowAt rfl rfl rfl (by decide +kernel) ⟨Nat.le_of_ble_eq_true rfl, Nat.le_of_ble_eq_true rfl⟩) (kd_preV hP hD hK hS hA hE hI hW.tx rfl rfl) rfl rfl hl.1 rfl (lv_room (Nat.le_of_ble_eq_true rfl)) dX3_rub_9 ⟨Nat.le_of_ble_eq_true rfl, Nat.le_of_ble_eq_true rfl⟩) hD hS hA (fun E ce q9 u_50 H locs hw hP hD hS hce hcv hcl => ?_) (fun r_51 u_50 H locs hw hP hD hS => ?_)
      · obtain ⟨hE9, hI⟩ := hw
        exact vx_out (fun x h => (ht x h).elim) hlocks hce hcv hcl (fun t ht hvm => ⟨(u_50.1, u_50.2), trivial, ⟨⟨Or.inl hE9, hI⟩, by rw [ht]; exact hP, hD⟩, hS.F ht⟩) hS.2.2 (Nat.le_of_ble_eq_true rfl) (Nat.le_of_ble_eq_true rfl)
      · obtain ⟨j_53, hj_53, rfl, q_52, rfl, pq_52, tq_52, nq_52, hI⟩ := hw
        refine W.eq (g2 := F0 m 12 ls [.ref q_52]) rfl ?_
        refine lv_astore (lv' := [(7, .ref q_52), (0, .ref x), (1, .int (nI j_2)), (2, .int (nI j_3)), (3, .float a), (4, .int (nI j_53)), (5, .float b), (6, .int ky)]) hx hb dX3_rub_12 hl (by decide) rfl (fun ls hl => ?_)
        refine lv_fload_n hx hb dX3_rub_14 rfl (lv_at hl 4 rfl) ?_
        refine lv_ldcf (v := 3296722944) hx hb hown (hts (.constantFloat RX3 178 (3296722944)) (by decide +kernel)) dX3_rub_15 ?_
        have hc_54 : fb 1149239296 3296722944 := by unfold fb; decide +kernel
        refine lv_ldcf (v := 1149239296) hx hb hown (hts (.constantFloat RX3 123 (1149239296)) (by decide +kernel)) dX3_rub_17 ?_
        have hc_55 : fb 1149239296 1149239296 := by unfold fb; decide +kernel
        refine kd_calli (va_runS (As := [.float a, .float 3296722944, .float 1149239296]) (rest := []) ⟨hx, hb, hml, hown, hts⟩ (k_outside l dC dI dA ad _ τ pv _ _ hI a 3296722944 1149239296) (va_cwS 3 hts gX3_rub_X3_outside rfl rfl rfl (by decide +kernel) ⟨Nat.le_of_ble_eq_true rfl, Nat.le_of_ble_eq_true rfl⟩) (kd_preS hP hD hK hS hA hE) rfl rfl hl.1 rfl (lv_room (Nat.le_of_ble_eq_true rfl)) dX3_rub_19 ⟨Nat.le_of_ble_eq_true rfl, Nat.le_of_ble_eq_true rfl⟩) hD hS hA (fun r_57 u_56 H locs hw hP hD hS => ?_)
        obtain ⟨⟨k_58, rfl⟩ | ⟨k_58, rfl⟩, hI⟩ := hw
        · have fb_59 : fb 1149239296 a := fb_within hc_54 hc_55 (by decide) k_58
          refine lv_if_ne (tgt := 36) hx hb dX3_rub_22 (by decide) (fun h9 => by first | exact absurd h9 (by decide) | exact absurd (by decide) h9) (fun _ => ?_)
          refine lv_fload hx hb dX3_rub_25 (lv_at hl 6 rfl) ?_
          refine lv_fconst0 hx hb dX3_rub_27 ?_
          refine lv_ldcf (v := 1090519040) hx hb hown (hts (.constantFloat RX3 207 (1090519040)) (by decide +kernel)) dX3_rub_28 ?_
          have hc_60 : fb 1090519040 1090519040 := by unfold fb; decide +kernel
          refine kd_calli (va_runS (As := [.float b, .float FP.fconst0, .float 1090519040]) (rest := []) ⟨hx, hb, hml, hown, hts⟩ (k_outside l dC dI dA ad _ τ pv _ _ hI b FP.fconst0 1090519040) (va_cwS 3 hts gX3_rub_X3_outside rfl rfl rfl (by decide +kernel) ⟨Nat.le_of_ble_eq_true rfl, Nat.le_of_ble_eq_true rfl⟩) (kd_preS hP hD hK hS hA hE) rfl rfl hl.1 rfl (lv_room (Nat.le_of_ble_eq_true rfl)) dX3_rub_30 ⟨Nat.le_of_ble_eq_true rfl, Nat.le_of_ble_eq_true rfl⟩) hD hS hA (fun r_62 u_61 H locs hw hP hD hS => ?_)
          obtain ⟨⟨k_63, rfl⟩ | ⟨k_63, rfl⟩, hI⟩ := hw
          · have fb_64 : fb 1090519040 b := fb_within (fb_le kc_0 (by decide)) hc_60 (by decide) k_63
            refine lv_if_eq (tgt := 46) hx hb dX3_rub_33 (by decide) (fun _ => ?_) (fun h9 => by first | exact absurd h9 (by decide) | exact absurd (by decide) h9)
            refine lv_aload hx hb dX3_rub_46 (lv_at hl 0 rfl) ?_
            refine kp_get hx hb hts i_X1 hown hK hP hI tq_52 rfl rfl 9 (by decide) (by decide) (hts (.fieldLink RX3 210 "IslandSolver$Row" "at" "LIslandSolver$Row;") (by decide +kernel)) (fun _ h9 => h9) dX3_rub_48 (kq_55 (fun hq_68 => ?_) (fun q_67 hq_68 ht_69 ht_69_2 ht_69_3 => ?_))
            · refine lv_ifnonnullN hx hb dX3_rub_51 ?_
              refine lv_aload hx hb dX3_rub_54 (lv_at hl 0 rfl) ?_
              refine kp_get hx hb hts i_X1 hown hK hP hI tq_52 rfl rfl 0 (by decide) (by decide) (hts (.fieldLink RX3 214 "IslandSolver$Row" "a" "LIslandSolver$Body;") (by decide +kernel)) (fun _ h9 => h9) dX3_rub_56 (kq_C (by decide) fun x_70 h_71 => ?_)
              obtain ⟨rfl, h_71⟩ := h_71
              refine lv_aload_n hx hb dX3_rub_59 rfl (lv_at hl 1 rfl) ?_
              refine lv_iload_n hx hb dX3_rub_60 rfl (lv_at hl 2 rfl) ?_
              refine kd_callq (va_runV (As := [.int (nI j_2)]) (rest := [.ref (τ 5 q_52)]) ⟨hx, hb, hml, hown, hts⟩ (k_bodyAtN l dC dI dA ad _ τ pv _ _ hI x bl rl kl ba ra ka fr nb nr nk hW j_2 (by omega)) (cwV 1 hts gX3_rub_X3_bodyAt rfl rfl rfl (by decide +kernel) ⟨Nat.le_of_ble_eq_true rfl, Nat.le_of_ble_eq_true rfl⟩) (kd_preV hP hD hK hS hA hE hI hW.tx rfl rfl) rfl rfl hl.1 rfl (lv_room (Nat.le_of_ble_eq_true rfl)) dX3_rub_61 ⟨Nat.le_of_ble_eq_true rfl, Nat.le_of_ble_eq_true rfl⟩) hD hS hA (fun r_73 u_72 H locs hw hP hD hS => ?_)
              obtain ⟨q_74, rfl, pq_74, tq_74, nq_74, hI⟩ := hw
              refine W.eq (g2 := F0 m 64 ls [.ref q_74, .ref (τ 5 q_52)]) rfl ?_
              refine W.eq (g2 := F0 m 64 ls [va_rf (some q_74), va_rf (some (τ 5 q_52))]) rfl ?_
              refine lv_acmp_ne (rx := (some (τ 5 q_52))) (ry := (some q_74)) (tgt := 80) hx hb dX3_rub_64 (by decide) (fun c_76 => ?_) (fun c_76 => ?_)
              · have e_c_76 : (τ 5 q_52) ≠ q_74 := fun h9 => c_76 (congrArg some h9)
                obtain ⟨sa_77, hsa_77⟩ := hE.str 224 "the row rubs itself or is of other bodies" (by decide +kernel)
                have hat : ∀ w ∈ (vx_atS RX3 82 "java/lang/IllegalArgumentException" ["java/lang/RuntimeException", "java/lang/Exception"]), w.before _ s = true := vx_hat (B := kx_non "java/lang/IllegalArgumentException") (fun w h => hts w (a_82 w h)) (by decide +kernel) (hE.non "java/lang/IllegalArgumentException" (by decide +kernel))
                refine W.widen (k := 11) (n := 1694) (Nat.le_of_ble_eq_true rfl) (Nat.le_of_ble_eq_true rfl) ?_
                exact vx_throwS (A := A) (rest := []) hx hb hlt hown (by decide +kernel) (by decide +kernel) (hts (.classLink RX3 78 "java/lang/IllegalArgumentException") (by decide +kernel)) (hts (.initialized "java/lang/IllegalArgumentException") (by decide +kernel)) hsa_77 hat (by decide +kernel) hE.2.2.2.2.2.2.1 hE.2.2.2.2.2.2.2.1 hS (hl.1.trans hml.symm) dX3_rub_80 dX3_rub_83 dX3_rub_84 dX3_rub_86 dX3_rub_89 (fun x h => (ht x h).elim) (Nat.le_of_ble_eq_true rfl) (Nat.le_of_ble_eq_true rfl) (Nat.le_of_ble_eq_true rfl) (Nat.le_of_ble_eq_true rfl) hlocks (fun t hvm hz hk => ⟨(u_72.1, u_72.2), trivial, ⟨⟨Or.inr (Or.inl rfl), hI⟩, hP.kept (fun k q hq => hk q.1 (hP k q hq).lt), hD⟩, Nat.le_trans hS.1 hz, fun q h1 h2 => (hk q (Nat.lt_of_lt_of_le h1 hS.1)).trans (hS.2.1 q h1 h2)⟩) hS.2.2 (Nat.le_of_ble_eq_true rfl) (Nat.le_of_ble_eq_true rfl)
              · have e_c_76 : (τ 5 q_52) = q_74 := Option.some.inj c_76
                refine lv_aload hx hb dX3_rub_67 (lv_at hl 0 rfl) ?_
                refine kp_get hx hb hts i_X1 hown hK hP hI tq_52 rfl rfl 1 (by decide) (by decide) (hts (.fieldLink RX3 218 "IslandSolver$Row" "b" "LIslandSolver$Body;") (by decide +kernel)) (fun _ h9 => h9) dX3_rub_69 (kq_54 (fun hq_81 => ?_) (fun q_80 hq_81 ht_82 => ?_))
                · refine lv_aload_n hx hb dX3_rub_72 rfl (lv_at hl 1 rfl) ?_
                  refine lv_iload_n hx hb dX3_rub_73 rfl (lv_at hl 3 rfl) ?_
                  refine kd_callq (va_runV (As := [.int (nI j_3)]) (rest := [.null]) ⟨hx, hb, hml, hown, hts⟩ (k_otherN l dC dI dA ad _ τ pv _ _ hI x bl rl kl ba ra ka fr nb nr nk hW j_3 (by omega)) (cwV 1 hts gX3_rub_X3_otherBody rfl rfl rfl (by decide +kernel) ⟨Nat.le_of_ble_eq_true rfl, Nat.le_of_ble_eq_true rfl⟩) (kd_preV hP hD hK hS hA hE hI hW.tx rfl rfl) rfl rfl hl.1 rfl (lv_room (Nat.le_of_ble_eq_true rfl)) dX3_rub_74 ⟨Nat.le_of_ble_eq_true rfl, Nat.le_of_ble_eq_true rfl⟩) hD hS hA (fun r_84 u_83 H locs hw hP hD hS => ?_)
                  obtain ⟨q_85, rfl, pq_85, tq_85, nq_85, hI⟩ := hw
                  refine W.eq (g2 := F0 m 77 ls [.ref q_85, .null]) rfl ?_
                  refine W.eq (g2 := F0 m 77 ls [va_rf (some q_85), va_rf none]) rfl ?_
                  refine lv_acmp_eq (rx := none) (ry := (some q_85)) (tgt := 90) hx hb dX3_rub_77 (by decide) (fun h9 => absurd h9 (by intro h9; cases h9)) (fun _ => ?_)
                  obtain ⟨sa_87, hsa_87⟩ := hE.str 224 "the row rubs itself or is of other bodies" (by decide +kernel)
                  have hat : ∀ w ∈ (vx_atS RX3 82 "java/lang/IllegalArgumentException" ["java/lang/RuntimeException", "java/lang/Exception"]), w.before _ s = true := vx_hat (B := kx_non "java/lang/IllegalArgumentException") (fun w h => hts w (a_82 w h)) (by decide +kernel) (hE.non "java/lang/IllegalArgumentException" (by decide +kernel))
                  refine W.widen (k := 11) (n := 1694) (Nat.le_of_ble_eq_true rfl) (Nat.le_of_ble_eq_true rfl) ?_
                  exact vx_throwS (A := A) (rest := []) hx hb hlt hown (by decide +kernel) (by decide +kernel) (hts (.classLink RX3 78 "java/lang/IllegalArgumentException") (by decide +kernel)) (hts (.initialized "java/lang/IllegalArgumentException") (by decide +kernel)) hsa_87 hat (by decide +kernel) hE.2.2.2.2.2.2.1 hE.2.2.2.2.2.2.2.1 hS (hl.1.trans hml.symm) dX3_rub_80 dX3_rub_83 dX3_rub_84 dX3_rub_86 dX3_rub_89 (fun x h => (ht x h).elim) (Nat.le_of_ble_eq_true rfl) (Nat.le_of_ble_eq_true rfl) (Nat.le_of_ble_eq_true rfl) (Nat.le_of_ble_eq_true rfl) hlocks (fun t hvm hz hk => ⟨(u_83.1, u_83.2), trivial, ⟨⟨Or.inr (Or.inl rfl), hI⟩, hP.kept (fun k q hq => hk q.1 (hP k q hq).lt), hD⟩, Nat.le_trans hS.1 hz, fun q h1 h2 => (hk q (Nat.lt_of_lt_of_le h1 hS.1)).trans (hS.2.1 q h1 h2)⟩) hS.2.2 (Nat.le_of_ble_eq_true rfl) (Nat.le_of_ble_eq_true rfl)
                · refine lv_aload_n hx hb dX3_rub_72 rfl (lv_at hl 1 rfl) ?_
                  refine lv_iload_n hx hb dX3_rub_73 rfl (lv_at hl 3 rfl) ?_
                  refine kd_callq (va_runV (As := [.int (nI j_3)]) (rest := [.ref q_80]) ⟨hx, hb, hml, hown, hts⟩ (k_otherN l dC dI dA ad _ τ pv _ _ hI x bl rl kl ba ra ka fr nb nr nk hW j_3 (by omega)) (cwV 1 hts gX3_rub_X3_otherBody rfl rfl rfl (by decide +kernel) ⟨Nat.le_of_ble_eq_true rfl, Nat.le_of_ble_eq_true rfl⟩) (kd_preV hP hD hK hS hA hE hI hW.tx rfl rfl) rfl rfl hl.1 rfl (lv_room (Nat.le_of_ble_eq_true rfl)) dX3_rub_74 ⟨Nat.le_of_ble_eq_true rfl, Nat.le_of_ble_eq_true rfl⟩) hD hS hA (fun r_89 u_88 H locs hw hP hD hS => ?_)
                  obtain ⟨q_90, rfl, pq_90, tq_90, nq_90, hI⟩ := hw
                  refine W.eq (g2 := F0 m 77 ls [.ref q_90, .ref q_80]) rfl ?_
                  refine W.eq (g2 := F0 m 77 ls [va_rf (some q_90), va_rf (some q_80)]) rfl ?_
                  refine lv_acmp_eq (rx := (some q_80)) (ry := (some q_90)) (tgt := 90) hx hb dX3_rub_77 (by decide) (fun c_92 => ?_) (fun c_92 => ?_)
                  · have e_c_92 : q_80 = q_90 := Option.some.inj c_92
                    refine lv_aload_n hx hb dX3_rub_90 rfl (lv_at hl 1 rfl) ?_
                    refine kd_xv (vx_runV (As := []) (rest := []) ⟨hx, hb, hml, hown, hts⟩ (k_checkRoom l dC dI dA ad _ τ pv _ _ hI x bl rl kl ba ra ka fr nb nr nk hW  hlt) (cwV 0 hts gX3_rub_X3_checkRoomForRow rfl rfl rfl (by decide +kernel) ⟨Nat.le_of_ble_eq_true rfl, Nat.le_of_ble_eq_true rfl⟩) (kd_preV hP hD hK hS hA hE hI hW.tx rfl rfl) rfl rfl hl.1 rfl (lv_room (Nat.le_of_ble_eq_true rfl)) dX3_rub_91 ⟨Nat.le_of_ble_eq_true rfl, Nat.le_of_ble_eq_true rfl⟩) hD hS hA (fun E ce q9 u_93 H locs hw hP hD hS hce hcv hcl => ?_) (fun u_93 H locs hw hP hD hS => ?_)
                    · obtain ⟨hE9, hI⟩ := hw
                      exact vx_out (fun x h => (ht x h).elim) hlocks hce hcv hcl (fun t ht hvm => ⟨(u_93.1, u_93.2), trivial, ⟨⟨Or.inr (Or.inr (hE9)), hI⟩, by rw [ht]; exact hP, hD⟩, hS.F ht⟩) hS.2.2 (Nat.le_of_ble_eq_true rfl) (Nat.le_of_ble_eq_true rfl)
                    · obtain ⟨hroom, hI⟩ := hw
                      refine lv_aload_n hx hb dX3_rub_94 rfl (lv_at hl 1 rfl) ?_
                      refine lv_iload_n hx hb dX3_rub_95 rfl (lv_at hl 2 rfl) ?_
                      refine lv_iload_n hx hb dX3_rub_96 rfl (lv_at hl 3 rfl) ?_
                      refine lv_fload_n hx hb dX3_rub_97 rfl (lv_at hl 4 rfl) ?_
                      refine lv_iload hx hb dX3_rub_98 (lv_at hl 7 rfl) ?_
                      refine kd_callq (va_runV (As := [.int (nI j_2), .int (nI j_3), .float a, .int ky]) (rest := []) ⟨hx, hb, hml, hown, hts⟩ (k_newRow1 l dC dI dA ad _ τ pv _ _ hI x bl rl kl ba ra ka fr nb nr nk hW j_2 j_3 (by omega) (by omega) a fb_59 ky) (cwV 4 hts gX3_rub_X3_newRow rfl rfl rfl (by decide +kernel) ⟨Nat.le_of_ble_eq_true rfl, Nat.le_of_ble_eq_true rfl⟩) (kd_preV hP hD hK hS hA hE hI hW.tx rfl rfl) rfl rfl hl.1 rfl (lv_room (Nat.le_of_ble_eq_true rfl)) dX3_rub_100 ⟨Nat.le_of_ble_eq_true rfl, Nat.le_of_ble_eq_true rfl⟩) hD hS hA (fun r_95 u_94 H locs hw hP hD hS => ?_)
                      obtain ⟨qr, qa, qb, τ2, pv2, rfl, h0qr, hF9, tqr, ⟨rw_n, rw_p, rw_q, rw_1, rw_2, x_t, x_k, p_0, p_1, p_2, p_3, p_4, p_5, p_6, p_7, p_8, p_9, p_10, p_11, p_12, p_13, p_14, p_15, p_16, p_17, f_5, t_0, t_1, t_2, t_3, t_4, t_15, t_16⟩, hI⟩ := hw
                      have hW := hW.frk (hF9.weak (fun _ _ _ => rfl))
                      have hF := hF.trans hF9
                      refine W.eq (g2 := F0 m 103 ls [.ref qr]) rfl ?_
                      refine lv_astore (lv' := [(8, .ref qr), (7, .ref q_52), (0, .ref x), (1, .int (nI j_2)), (2, .int (nI j_3)), (3, .float a), (4, .int (nI j_53)), (5, .float b), (6, .int ky)]) hx hb dX3_rub_103 hl (by decide) rfl (fun ls hl => ?_)
                      refine lv_aload hx hb dX3_rub_105 (lv_at hl 0 rfl) ?_
                      refine lv_aload hx hb dX3_rub_107 (lv_at hl 1 rfl) ?_
                      refine kp_putP (v := .ref q_52) (ty := .object "IslandSolver$Row") hx hb hts i_X1 tyX1 tyX1_ok nmX1 hown hK hP hD hS hI tqr rfl rfl 9 (by decide) (by decide) (hts (.fieldLink RX3 210 "IslandSolver$Row" "at" "LIslandSolver$Row;") (by decide +kernel)) (fun _ h9 => h9) rfl (by decide +kernel) rfl rfl rfl (kv_S (by decide) ⟨some q_52, rfl⟩) dX3_rub_109 (fun f H locs hI hP hD hS => ?_)
                      have hF := hF.trans (kFr.upr (P := kPt) (τ := τ2) (pv := pv2) (a := qr) (w := .ref q_52) (k := 9) (Or.inr (by rw [tqr]; decide)))
                      have hW := hW.frw (kFr.upr (P := kPw) (τ := τ2) (pv := pv2) (a := qr) (w := .ref q_52) (k := 9) (Or.inr (by rw [tqr]; decide)))
                      refine lv_aload hx hb dX3_rub_112 (lv_at hl 0 rfl) ?_
                      refine lv_fload hx hb dX3_rub_114 (lv_at hl 7 rfl) ?_
                      refine kp_putP (v := .float b) (ty := .float) hx hb hts i_X1 tyX1 tyX1_ok nmX1 hown hK hP hD hS hI tqr rfl rfl 10 (by decide) (by decide) (hts (.fieldLink RX3 226 "IslandSolver$Row" "friction" "F") (by decide +kernel)) (fun _ h9 => h9) rfl (by decide +kernel) rfl rfl rfl (kv_G _) dX3_rub_116 (fun f H locs hI hP hD hS => ?_)
                      have hF := hF.trans (kFr.upr (P := kPt) (τ := τ2) (pv := (kup pv2 qr 9 (.ref q_52))) (a := qr) (w := .float b) (k := 10) (Or.inr (by rw [tqr]; decide)))
                      have hW := hW.frw (kFr.upr (P := kPw) (τ := τ2) (pv := (kup pv2 qr 9 (.ref q_52))) (a := qr) (w := .float b) (k := 10) (Or.inr (by rw [tqr]; decide)))
                      have hI := hI.mkRow (ix := nr) (at_ := q_52 + 1) (qb := qb) tqr ((kup_ne (Or.inr (by decide))).trans ((kup_ne (Or.inr (by decide))).trans p_0)) ((kup_ne (Or.inr (by decide))).trans ((kup_ne (Or.inr (by decide))).trans p_1)) ((kup_ne (Or.inr (by decide))).trans ((kup_ne (Or.inr (by decide))).trans p_2)) ((kup_ne (Or.inr (by decide))).trans ((kup_ne (Or.inr (by decide))).trans p_3)) ((kup_ne (Or.inr (by decide))).trans ((kup_ne (Or.inr (by decide))).trans p_4)) ((kup_ne (Or.inr (by decide))).trans ((kup_ne (Or.inr (by decide))).trans p_5)) ((kup_ne (Or.inr (by decide))).trans ((kup_ne (Or.inr (by decide))).trans p_6)) ((kup_ne (Or.inr (by decide))).trans ((kup_ne (Or.inr (by decide))).trans p_7)) ((kup_ne (Or.inr (by decide))).trans ((kup_ne (Or.inr (by decide))).trans p_8)) (((kup_ne (Or.inr (by decide))).trans kup_self).trans (kRf_s rfl).symm) kup_self ((kup_ne (Or.inr (by decide))).trans ((kup_ne (Or.inr (by decide))).trans p_11)) ((kup_ne (Or.inr (by decide))).trans ((kup_ne (Or.inr (by decide))).trans p_12)) ((kup_ne (Or.inr (by decide))).trans ((kup_ne (Or.inr (by decide))).trans p_13)) ((kup_ne (Or.inr (by decide))).trans ((kup_ne (Or.inr (by decide))).trans p_14)) ((kup_ne (Or.inr (by decide))).trans ((kup_ne (Or.inr (by decide))).trans p_15)) ((kup_ne (Or.inr (by decide))).trans ((kup_ne (Or.inr (by decide))).trans p_16)) ((kup_ne (Or.inr (by decide))).trans ((kup_ne (Or.inr (by decide))).trans p_17)) f_5 (Nat.zero_le _) (Nat.zero_le _) (Nat.zero_le _) fb_64 t_0 t_1 t_2 t_3 t_4 (fun b hb => by cases hb; exact ⟨(hF9.ty tq_52), (hF.tj tq_52 (j := 2)).trans hq_68⟩) t_15 t_16
                      obtain ⟨τ_r, hτ_r⟩ : ∃ z, z = kxt τ2 qr (kgR nr (q_52 + 1) qa qb) := ⟨_, rfl⟩
                      rw [← hτ_r] at hI
                      have hF_r : kFr kPt τ2 (kup (kup pv2 qr 9 (.ref q_52)) qr 10 (.float b)) τ_r (kup (kup pv2 qr 9 (.ref q_52)) qr 10 (.float b)) := by rw [hτ_r]; exact kFr.ret (Or.inr (by rw [tqr]; decide))
                      have t_r : τ_r 0 qr = 2 := by rw [hτ_r]; exact kxt_self 0
                      have x_r : τ_r 1 qr = nr := by rw [hτ_r]; exact kxt_self 1
                      have n_r : (kup (kup pv2 qr 9 (.ref q_52)) qr 10 (.float b)) qr 17 = .null := ((kup_ne (Or.inr (by decide))).trans ((kup_ne (Or.inr (by decide))).trans p_17))
                      have hW := hW.frk (hF_r.weak (fun _ _ _ => rfl))
                      have hF := hF.trans hF_r
                      refine lv_aload_n hx hb dX3_rub_119 rfl (lv_at hl 2 rfl) ?_
                      refine lv_aload hx hb dX3_rub_120 (lv_at hl 0 rfl) ?_
                      refine kd_calli (va_runV (As := [.ref qr]) (rest := []) ⟨hx, hb, hml, hown, hts⟩ (k_addRow l dC dI dA ad _ τ_r (kup (kup pv2 qr 9 (.ref q_52)) qr 10 (.float b)) _ _ hI x bl rl kl ba ra ka fr nb nr nk hW qr t_r (by omega) x_r n_r) (cwV 1 hts gX3_rub_X3_addRow rfl rfl rfl (by decide +kernel) ⟨Nat.le_of_ble_eq_true rfl, Nat.le_of_ble_eq_true rfl⟩) (kd_preV hP hD hK hS hA hE hI hW.tx rfl rfl) rfl rfl hl.1 rfl (lv_room (Nat.le_of_ble_eq_true rfl)) dX3_rub_122 ⟨Nat.le_of_ble_eq_true rfl, Nat.le_of_ble_eq_true rfl⟩) hD hS hA (fun r_97 u_96 H locs hw hP hD hS => ?_)
                      obtain ⟨rfl, a2, τ9, pv9, hF9, hW, hI⟩ := hw
                      have hF := (hF.weak (fun _ _ _ => rfl)).trans hF9
                      refine vx_ret ?_
                      refine W.widen (k := 12) (n := 1700) (Nat.le_of_ble_eq_true rfl) (Nat.le_of_ble_eq_true rfl) ?_
                      exact W.iret (v := nI nr) hx hb hr (fun t ht hW9 => ⟨⟨nI nr, (u_96.1, u_96.2), rfl, ⟨_, _, bl, rl, kl, ba, a2, ka, fr, (nr + 1), nk, hF, hW, hI⟩, by rw [ht]; exact hP, va_K.moved hW9.alike hK, hD⟩, hS.F ht⟩) hS.2.2 dX3_rub_125
                  · have e_c_92 : q_80 ≠ q_90 := fun h9 => c_92 (congrArg some h9)
                    obtain ⟨sa_98, hsa_98⟩ := hE.str 224 "the row rubs itself or is of other bodies" (by decide +kernel)
                    have hat : ∀ w ∈ (vx_atS RX3 82 "java/lang/IllegalArgumentException" ["java/lang/RuntimeException", "java/lang/Exception"]), w.before _ s = true := vx_hat (B := kx_non "java/lang/IllegalArgumentException") (fun w h => hts w (a_82 w h)) (by decide +kernel) (hE.non "java/lang/IllegalArgumentException" (by decide +kernel))
                    refine W.widen (k := 11) (n := 1694) (Nat.le_of_ble_eq_true rfl) (Nat.le_of_ble_eq_true rfl) ?_
                    exact vx_throwS (A := A) (rest := []) hx hb hlt hown (by decide +kernel) (by decide +kernel) (hts (.classLink RX3 78 "java/lang/IllegalArgumentException") (by decide +kernel)) (hts (.initialized "java/lang/IllegalArgumentException") (by decide +kernel)) hsa_98 hat (by decide +kernel) hE.2.2.2.2.2.2.1 hE.2.2.2.2.2.2.2.1 hS (hl.1.trans hml.symm) dX3_rub_80 dX3_rub_83 dX3_rub_84 dX3_rub_86 dX3_rub_89 (fun x h => (ht x h).elim) (Nat.le_of_ble_eq_true rfl) (Nat.le_of_ble_eq_true rfl) (Nat.le_of_ble_eq_true rfl) (Nat.le_of_ble_eq_true rfl) hlocks (fun t hvm hz hk => ⟨(u_88.1, u_88.2), trivial, ⟨⟨Or.inr (Or.inl rfl), hI⟩, hP.kept (fun k q hq => hk q.1 (hP k q hq).lt), hD⟩, Nat.le_trans hS.1 hz, fun q h1 h2 => (hk q (Nat.lt_of_lt_of_le h1 hS.1)).trans (hS.2.1 q h1 h2)⟩) hS.2.2 (Nat.le_of_ble_eq_true rfl) (Nat.le_of_ble_eq_true rfl)
            · refine lv_ifnonnull (tgt := 80) hx hb dX3_rub_51 (by decide) ?_
              obtain ⟨sa_99, hsa_99⟩ := hE.str 224 "the row rubs itself or is of other bodies" (by decide +kernel)
              have hat : ∀ w ∈ (vx_atS RX3 82 "java/lang/IllegalArgumentException" ["java/lang/RuntimeException", "java/lang/Exception"]), w.before _ s = true := vx_hat (B := kx_non "java/lang/IllegalArgumentException") (fun w h => hts w (a_82 w h)) (by decide +kernel) (hE.non "java/lang/IllegalArgumentException" (by decide +kernel))
              refine W.widen (k := 11) (n := 1694) (Nat.le_of_ble_eq_true rfl) (Nat.le_of_ble_eq_true rfl) ?_
              exact vx_throwS (A := A) (rest := []) hx hb hlt hown (by decide +kernel) (by decide +kernel) (hts (.classLink RX3 78 "java/lang/IllegalArgumentException") (by decide +kernel)) (hts (.initialized "java/lang/IllegalArgumentException") (by decide +kernel)) hsa_99 hat (by decide +kernel) hE.2.2.2.2.2.2.1 hE.2.2.2.2.2.2.2.1 hS (hl.1.trans hml.symm) dX3_rub_80 dX3_rub_83 dX3_rub_84 dX3_rub_86 dX3_rub_89 (fun x h => (ht x h).elim) (Nat.le_of_ble_eq_true rfl) (Nat.le_of_ble_eq_true rfl) (Nat.le_of_ble_eq_true rfl) (Nat.le_of_ble_eq_true rfl) hlocks (fun t hvm hz hk => ⟨(u_61.1, u_61.2), trivial, ⟨⟨Or.inr (Or.inl rfl), hI⟩, hP.kept (fun k q hq => hk q.1 (hP k q hq).lt), hD⟩, Nat.le_trans hS.1 hz, fun q h1 h2 => (hk q (Nat.lt_of_lt_of_le h1 hS.1)).trans (hS.2.1 q h1 h2)⟩) hS.2.2 (Nat.le_of_ble_eq_true rfl) (Nat.le_of_ble_eq_true rfl)
          · refine lv_if_eq (tgt := 46) hx hb dX3_rub_33 (by decide) (fun h9 => by first | exact absurd h9 (by decide) | exact absurd (by decide) h9) (fun _ => ?_)
            obtain ⟨sa_100, hsa_100⟩ := hE.str 208 "target or friction is out of range" (by decide +kernel)
            have hat : ∀ w ∈ (vx_atS RX3 82 "java/lang/IllegalArgumentException" ["java/lang/RuntimeException", "java/lang/Exception"]), w.before _ s = true := vx_hat (B := kx_non "java/lang/IllegalArgumentException") (fun w h => hts w (a_82 w h)) (by decide +kernel) (hE.non "java/lang/IllegalArgumentException" (by decide +kernel))
            refine W.widen (k := 11) (n := 1694) (Nat.le_of_ble_eq_true rfl) (Nat.le_of_ble_eq_true rfl) ?_
            exact vx_throwS (A := A) (rest := []) hx hb hlt hown (by decide +kernel) (by decide +kernel) (hts (.classLink RX3 78 "java/lang/IllegalArgumentException") (by decide +kernel)) (hts (.initialized "java/lang/IllegalArgumentException") (by decide +kernel)) hsa_100 hat (by decide +kernel) hE.2.2.2.2.2.2.1 hE.2.2.2.2.2.2.2.1 hS (hl.1.trans hml.symm) dX3_rub_36 dX3_rub_39 dX3_rub_40 dX3_rub_42 dX3_rub_45 (fun x h => (ht x h).elim) (Nat.le_of_ble_eq_true rfl) (Nat.le_of_ble_eq_true rfl) (Nat.le_of_ble_eq_true rfl) (Nat.le_of_ble_eq_true rfl) hlocks (fun t hvm hz hk => ⟨(u_61.1, u_61.2), trivial, ⟨⟨Or.inr (Or.inl rfl), hI⟩, hP.kept (fun k q hq => hk q.1 (hP k q hq).lt), hD⟩, Nat.le_trans hS.1 hz, fun q h1 h2 => (hk q (Nat.lt_of_lt_of_le h1 hS.1)).trans (hS.2.1 q h1 h2)⟩) hS.2.2 (Nat.le_of_ble_eq_true rfl) (Nat.le_of_ble_eq_true rfl)
        · refine lv_if_ne (tgt := 36) hx hb dX3_rub_22 (by decide) (fun _ => ?_) (fun h9 => by first | exact absurd h9 (by decide) | exact absurd (by decide) h9)
          obtain ⟨sa_101, hsa_101⟩ := hE.str 208 "target or friction is out of range" (by decide +kernel)
          have hat : ∀ w ∈ (vx_atS RX3 82 "java/lang/IllegalArgumentException" ["java/lang/RuntimeException", "java/lang/Exception"]), w.before _ s = true := vx_hat (B := kx_non "java/lang/IllegalArgumentException") (fun w h => hts w (a_82 w h)) (by decide +kernel) (hE.non "java/lang/IllegalArgumentException" (by decide +kernel))
          refine W.widen (k := 11) (n := 1694) (Nat.le_of_ble_eq_true rfl) (Nat.le_of_ble_eq_true rfl) ?_
          exact vx_throwS (A := A) (rest := []) hx hb hlt hown (by decide +kernel) (by decide +kernel) (hts (.classLink RX3 78 "java/lang/IllegalArgumentException") (by decide +kernel)) (hts (.initialized "java/lang/IllegalArgumentException") (by decide +kernel)) hsa_101 hat (by decide +kernel) hE.2.2.2.2.2.2.1 hE.2.2.2.2.2.2.2.1 hS (hl.1.trans hml.symm) dX3_rub_36 dX3_rub_39 dX3_rub_40 dX3_rub_42 dX3_rub_45 (fun x h => (ht x h).elim) (Nat.le_of_ble_eq_true rfl) (Nat.le_of_ble_eq_true rfl) (Nat.le_of_ble_eq_true rfl) (Nat.le_of_ble_eq_true rfl) hlocks (fun t hvm hz hk => ⟨(u_56.1, u_56.2), trivial, ⟨⟨Or.inr (Or.inl rfl), hI⟩, hP.kept (fun k q hq => hk q.1 (hP k q hq).lt), hD⟩, Nat.le_trans hS.1 hz, fun q h1 h2 => (hk q (Nat.lt_of_lt_of_le h1 hS.1)).trans (hS.2.1 q h1 h2)⟩) hS.2.2 (Nat.le_of_ble_eq_true rfl) (Nat.le_of_ble_eq_true rfl)
