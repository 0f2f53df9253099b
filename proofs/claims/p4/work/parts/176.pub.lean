set_option maxHeartbeats 4000000 in
set_option maxRecDepth 100000 in
theorem k_p_rub (l : Launch) (dC : Nat → ClassId) (dI : Nat → Nat → Nat) (dA : Nat → ClassId) (ad sz : Nat) (τ : Nat → Nat → Nat) (pv : Nat → Nat → Value) (L : List Nat) (f : Nat → va_E) (hI : kI dA τ pv L f) (x bl rl kl ba ra ka fr nb nr nk : Nat) (hW : kW τ pv ad x bl rl kl ba ra ka fr nb nr nk) (n k : Int32) (a : UInt32) (at9 : Int32) (b : UInt32) (ky : Int32) (g9 : Bool) (hg9 : g9 = kGx τ pv ba ra nb nr n k at9) (hlt : l.stackTraces = false) : vx_Met l yX3_rub wsX3_rub ({ frames := 8, cells := 12, slots := 1700, locals := 188 } : Room) (va_Pc [.ref x, .int n, .int k, .float a, .int at9, .float b, .int ky] (kB dC dI dA ad sz L f)) (va_Qi (fun r u => kc_rub n k nb nr a at9 b g9 = 0 ∧ r = nI nr ∧ kPostE dA τ pv ad x ba ra nb nr nb (nr + 1) n k at9 u) (kR dC dI dA (va_A (va_pl L f) sz)) (va_A (va_pl L f) sz)) (kX dC dI (fun E u => ((E = "java/lang/IndexOutOfBoundsException" ∧ kc_rub n k nb nr a at9 b g9 = 1) ∨ (E = "java/lang/IllegalArgumentException" ∧ kc_rub n k nb nr a at9 b g9 = 2) ∨ (E = "java/lang/IllegalStateException" ∧ kc_rub n k nb nr a at9 b g9 = 3)) ∧ kI dA τ pv u.1 u.2) (va_A (va_pl L f) sz)) 12 1700 (va_A (va_pl L f) sz) := by
  refine vx_ofW (cc := cX3_rub) (maxL := 9) (ret := (some .int)) (by decide) rfl ?_
  intro p e s m args below meth c s₁ B hml ht hv
  obtain ⟨rfl, hsz, hP, hK, hD0, hE⟩ := hv
  have hx := B.exec
  have hb := B.bytes
  have hr := B.returns
  have hts := atoms_spec (ws := wsX3_rub) B.pre
  have hown : s.vm.findClass RX3 = some m.cls := findClass_of_methodNamed B.named
  have hlocks := B.notSynchronized
  have i_X1 : ∀ w ∈ u_ws RX1 TX1 18, w ∈ wsX3_rub := by decide +kernel
  have a_82 : ∀ w ∈ (vx_atS RX3 82 "java/lang/IllegalArgumentException" ["java/lang/RuntimeException", "java/lang/Exception"]).filter goodWord, w ∈ wsX3_rub := fun _ h => List.mem_cons_of_mem _ (List.mem_append_left _ (List.mem_append_left _ (List.mem_append_right _ h)))
  subst hsz
  have hD := hD0.self (sz := s.heap.size)
  generalize hAe : va_A (va_pl L f) s.heap.size = A at hD hE ⊢
  have hA : ∀ q : Nat, s.heap.size ≤ q → A q := fun q h => by rw [← hAe]; exact Or.inr h
  have hS : va_S A s.heap s.heap [] := va_S.rf
  have hP : va_P (dC, dI) vwCl (va_pl L f) s.heap := hP
  have hK : va_K (dC, dI) vwCl (tyA dA) s := hK
  have hl := lv_entry ([.ref x, .int n, .int k, .float a, .int at9, .float b, .int ky]) (n := 9) (Nat.le_of_ble_eq_true rfl)
  rw [lg_entry_eq]
  generalize (lg_sl ([.ref x, .int n, .int k, .float a, .int at9, .float b, .int ky]) ++ List.replicate (9 - (lg_sl ([.ref x, .int n, .int k, .float a, .int at9, .float b, .int ky])).length) Slot.unset).toArray = ls at hl ⊢
  have hl : lv_has ls 9 [(0, .ref x), (1, .int n), (2, .int k), (3, .float a), (4, .int at9), (5, .float b), (6, .int ky)] := hl
  have hnb := hW.lnb
  have hnr := hW.lnr
  have hnk := hW.lnk
  have hF : kFr kPt τ pv τ pv := kFr.rf
  have hW00 := hW
  refine lv_aload_n hx hb dX3_rub_0 rfl (lv_at hl 0 rfl) ?_
  refine lv_iload_n hx hb dX3_rub_1 rfl (lv_at hl 1 rfl) ?_
  refine lv_iload_n hx hb dX3_rub_2 rfl (lv_at hl 2 rfl) ?_
  refine kd_xv (vx_runV (As := [.int n, .int k]) (rest := []) ⟨hx, hb, hml, hown, hts⟩ (k_checkPair l dC dI dA ad _ τ pv _ _ hI x bl rl kl ba ra ka fr nb nr nk hW n k hlt) (cwV 2 hts gX3_rub_X3_checkPair rfl rfl rfl (by decide +kernel) ⟨Nat.le_of_ble_eq_true rfl, Nat.le_of_ble_eq_true rfl⟩) (kd_preV hP hD hK hS hA hE hI hW.tx rfl rfl) rfl rfl hl.1 rfl (lv_room (Nat.le_of_ble_eq_true rfl)) dX3_rub_3 ⟨Nat.le_of_ble_eq_true rfl, Nat.le_of_ble_eq_true rfl⟩) hD hS hA (fun E ce q9 u_1 H locs hw hP hD hS hce hcv hcl => ?_) (fun u_1 H locs hw hP hD hS => ?_)
  · obtain ⟨hE9, hI⟩ := hw
    exact vx_out (fun x h => (ht x h).elim) hlocks hce hcv hcl (fun t ht hvm => ⟨(u_1.1, u_1.2), trivial, ⟨⟨Or.inl ⟨hE9.1, (by simp only [kc_rub, kFitRub, hE9.2, decide_true, decide_false, Bool.not_true, Bool.not_false, Bool.and_true, Bool.true_and, Bool.and_false, Bool.false_and, Bool.and_self, Bool.false_eq_true, if_true, if_false, ite_true, ite_false, reduceIte] <;> decide)⟩, hI⟩, by rw [ht]; exact hP, hD⟩, hS.F ht⟩) hS.2.2 (Nat.le_of_ble_eq_true rfl) (Nat.le_of_ble_eq_true rfl)
  · obtain ⟨hp_4, ⟨j_2, hj_2, rfl⟩, rfl | ⟨j_3, hj_3, rfl⟩, hI⟩ := hw
    · refine lv_aload_n hx hb dX3_rub_6 rfl (lv_at hl 0 rfl) ?_
      refine lv_iload hx hb dX3_rub_7 (lv_at hl 4 rfl) ?_
      refine kd_xq (vx_runV (As := [.int at9]) (rest := []) ⟨hx, hb, hml, hown, hts⟩ (k_rowAt l dC dI dA ad _ τ pv _ _ hI x bl rl kl ba ra ka fr nb nr nk hW at9 hlt) (cwV 1 hts gX3_rub_X3_rowAt rfl rfl rfl (by decide +kernel) ⟨Nat.le_of_ble_eq_true rfl, Nat.le_of_ble_eq_true rfl⟩) (kd_preV hP hD hK hS hA hE hI hW.tx rfl rfl) rfl rfl hl.1 rfl (lv_room (Nat.le_of_ble_eq_true rfl)) dX3_rub_9 ⟨Nat.le_of_ble_eq_true rfl, Nat.le_of_ble_eq_true rfl⟩) hD hS hA (fun E ce q9 u_5 H locs hw hP hD hS hce hcv hcl => ?_) (fun r_6 u_5 H locs hw hP hD hS => ?_)
      · obtain ⟨hE9, hI⟩ := hw
        exact vx_out (fun x h => (ht x h).elim) hlocks hce hcv hcl (fun t ht hvm => ⟨(u_5.1, u_5.2), trivial, ⟨⟨Or.inl ⟨hE9.1, (by simp only [kc_rub, kFitRub, hp_4, hE9.2, decide_true, decide_false, Bool.not_true, Bool.not_false, Bool.and_true, Bool.true_and, Bool.and_false, Bool.false_and, Bool.and_self, Bool.false_eq_true, if_true, if_false, ite_true, ite_false, reduceIte] <;> decide)⟩, hI⟩, by rw [ht]; exact hP, hD⟩, hS.F ht⟩) hS.2.2 (Nat.le_of_ble_eq_true rfl) (Nat.le_of_ble_eq_true rfl)
      · obtain ⟨j_8, hj_8, rfl, q_7, rfl, pq_7, tq_7, nq_7, hI⟩ := hw
        refine W.eq (g2 := F0 m 12 ls [.ref q_7]) rfl ?_
        refine lv_astore (lv' := [(7, .ref q_7), (0, .ref x), (1, .int (nI j_2)), (2, .int (-1)), (3, .float a), (4, .int (nI j_8)), (5, .float b), (6, .int ky)]) hx hb dX3_rub_12 hl (by decide) rfl (fun ls hl => ?_)
        refine lv_fload_n hx hb dX3_rub_14 rfl (lv_at hl 4 rfl) ?_
        refine lv_ldcf (v := 3296722944) hx hb hown (hts (.constantFloat RX3 178 (3296722944)) (by decide +kernel)) dX3_rub_15 ?_
        have hc_9 : fb 1149239296 3296722944 := by unfold fb; decide +kernel
        refine lv_ldcf (v := 1149239296) hx hb hown (hts (.constantFloat RX3 123 (1149239296)) (by decide +kernel)) dX3_rub_17 ?_
        have hc_10 : fb 1149239296 1149239296 := by unfold fb; decide +kernel
        refine kd_calli (va_runS (As := [.float a, .float 3296722944, .float 1149239296]) (rest := []) ⟨hx, hb, hml, hown, hts⟩ (k_outside l dC dI dA ad _ τ pv _ _ hI a 3296722944 1149239296) (va_cwS 3 hts gX3_rub_X3_outside rfl rfl rfl (by decide +kernel) ⟨Nat.le_of_ble_eq_true rfl, Nat.le_of_ble_eq_true rfl⟩) (kd_preS hP hD hK hS hA hE) rfl rfl hl.1 rfl (lv_room (Nat.le_of_ble_eq_true rfl)) dX3_rub_19 ⟨Nat.le_of_ble_eq_true rfl, Nat.le_of_ble_eq_true rfl⟩) hD hS hA (fun r_12 u_11 H locs hw hP hD hS => ?_)
        obtain ⟨⟨k_13, rfl⟩ | ⟨k_13, rfl⟩, hI⟩ := hw
        · have fb_14 : fb 1149239296 a := fb_within hc_9 hc_10 (by decide) k_13
          refine lv_if_ne (tgt := 36) hx hb dX3_rub_22 (by decide) (fun h9 => by first | exact absurd h9 (by decide) | exact absurd (by decide) h9) (fun _ => ?_)
          refine lv_fload hx hb dX3_rub_25 (lv_at hl 6 rfl) ?_
          refine lv_fconst0 hx hb dX3_rub_27 ?_
          refine lv_ldcf (v := 1090519040) hx hb hown (hts (.constantFloat RX3 207 (1090519040)) (by decide +kernel)) dX3_rub_28 ?_
          have hc_15 : fb 1090519040 1090519040 := by unfold fb; decide +kernel
          refine kd_calli (va_runS (As := [.float b, .float FP.fconst0, .float 1090519040]) (rest := []) ⟨hx, hb, hml, hown, hts⟩ (k_outside l dC dI dA ad _ τ pv _ _ hI b FP.fconst0 1090519040) (va_cwS 3 hts gX3_rub_X3_outside rfl rfl rfl (by decide +kernel) ⟨Nat.le_of_ble_eq_true rfl, Nat.le_of_ble_eq_true rfl⟩) (kd_preS hP hD hK hS hA hE) rfl rfl hl.1 rfl (lv_room (Nat.le_of_ble_eq_true rfl)) dX3_rub_30 ⟨Nat.le_of_ble_eq_true rfl, Nat.le_of_ble_eq_true rfl⟩) hD hS hA (fun r_17 u_16 H locs hw hP hD hS => ?_)
          obtain ⟨⟨k_18, rfl⟩ | ⟨k_18, rfl⟩, hI⟩ := hw
          · have fb_19 : fb 1090519040 b := fb_within (fb_le kc_0 (by decide)) hc_15 (by decide) k_18
            refine lv_if_eq (tgt := 46) hx hb dX3_rub_33 (by decide) (fun _ => ?_) (fun h9 => by first | exact absurd h9 (by decide) | exact absurd (by decide) h9)
            refine lv_aload hx hb dX3_rub_46 (lv_at hl 0 rfl) ?_
            refine kp_get hx hb hts i_X1 hown hK hP hI tq_7 rfl rfl 9 (by decide) (by decide) (hts (.fieldLink RX3 210 "IslandSolver$Row" "at" "LIslandSolver$Row;") (by decide +kernel)) (fun _ h9 => h9) dX3_rub_48 (kq_55 (fun hq_23 => ?_) (fun q_22 hq_23 ht_24 ht_24_2 ht_24_3 => ?_))
            · refine lv_ifnonnullN hx hb dX3_rub_51 ?_
              refine lv_aload hx hb dX3_rub_54 (lv_at hl 0 rfl) ?_
              refine kp_get hx hb hts i_X1 hown hK hP hI tq_7 rfl rfl 0 (by decide) (by decide) (hts (.fieldLink RX3 214 "IslandSolver$Row" "a" "LIslandSolver$Body;") (by decide +kernel)) (fun _ h9 => h9) dX3_rub_56 (kq_C (by decide) fun x_25 h_26 => ?_)
              obtain ⟨rfl, h_26⟩ := h_26
              refine lv_aload_n hx hb dX3_rub_59 rfl (lv_at hl 1 rfl) ?_
              refine lv_iload_n hx hb dX3_rub_60 rfl (lv_at hl 2 rfl) ?_
              refine kd_callq (va_runV (As := [.int (nI j_2)]) (rest := [.ref (τ 5 q_7)]) ⟨hx, hb, hml, hown, hts⟩ (k_bodyAtN l dC dI dA ad _ τ pv _ _ hI x bl rl kl ba ra ka fr nb nr nk hW j_2 (by omega)) (cwV 1 hts gX3_rub_X3_bodyAt rfl rfl rfl (by decide +kernel) ⟨Nat.le_of_ble_eq_true rfl, Nat.le_of_ble_eq_true rfl⟩) (kd_preV hP hD hK hS hA hE hI hW.tx rfl rfl) rfl rfl hl.1 rfl (lv_room (Nat.le_of_ble_eq_true rfl)) dX3_rub_61 ⟨Nat.le_of_ble_eq_true rfl, Nat.le_of_ble_eq_true rfl⟩) hD hS hA (fun r_28 u_27 H locs hw hP hD hS => ?_)
              obtain ⟨q_29, rfl, pq_29, tq_29, nq_29, hI⟩ := hw
              refine W.eq (g2 := F0 m 64 ls [.ref q_29, .ref (τ 5 q_7)]) rfl ?_
              refine W.eq (g2 := F0 m 64 ls [va_rf (some q_29), va_rf (some (τ 5 q_7))]) rfl ?_
              refine lv_acmp_ne (rx := (some (τ 5 q_7))) (ry := (some q_29)) (tgt := 80) hx hb dX3_rub_64 (by decide) (fun c_31 => ?_) (fun c_31 => ?_)
              · have e_c_31 : (τ 5 q_7) ≠ q_29 := fun h9 => c_31 (congrArg some h9)
                have hg8 := hg9.trans (kGx_f5 hnr hnb (by omega) pq_7 (by omega) pq_29 e_c_31)
                obtain ⟨sa_32, hsa_32⟩ := hE.str 224 "the row rubs itself or is of other bodies" (by decide +kernel)
                have hat : ∀ w ∈ (vx_atS RX3 82 "java/lang/IllegalArgumentException" ["java/lang/RuntimeException", "java/lang/Exception"]), w.before _ s = true := vx_hat (B := kx_non "java/lang/IllegalArgumentException") (fun w h => hts w (a_82 w h)) (by decide +kernel) (hE.non "java/lang/IllegalArgumentException" (by decide +kernel))
                refine W.widen (k := 11) (n := 1694) (Nat.le_of_ble_eq_true rfl) (Nat.le_of_ble_eq_true rfl) ?_
                exact vx_throwS (A := A) (rest := []) hx hb hlt hown (by decide +kernel) (by decide +kernel) (hts (.classLink RX3 78 "java/lang/IllegalArgumentException") (by decide +kernel)) (hts (.initialized "java/lang/IllegalArgumentException") (by decide +kernel)) hsa_32 hat (by decide +kernel) hE.2.2.2.2.2.2.1 hE.2.2.2.2.2.2.2.1 hS (hl.1.trans hml.symm) dX3_rub_80 dX3_rub_83 dX3_rub_84 dX3_rub_86 dX3_rub_89 (fun x h => (ht x h).elim) (Nat.le_of_ble_eq_true rfl) (Nat.le_of_ble_eq_true rfl) (Nat.le_of_ble_eq_true rfl) (Nat.le_of_ble_eq_true rfl) hlocks (fun t hvm hz hk => ⟨(u_27.1, u_27.2), trivial, ⟨⟨Or.inr (Or.inl ⟨rfl, (by simp only [kc_rub, kFitRub, hp_4, (kKn_t hj_8 (by omega)), k_13, k_18, hg8, decide_true, decide_false, Bool.not_true, Bool.not_false, Bool.and_true, Bool.true_and, Bool.and_false, Bool.false_and, Bool.and_self, Bool.false_eq_true, if_true, if_false, ite_true, ite_false, reduceIte] <;> decide)⟩), hI⟩, hP.kept (fun k q hq => hk q.1 (hP k q hq).lt), hD⟩, Nat.le_trans hS.1 hz, fun q h1 h2 => (hk q (Nat.lt_of_lt_of_le h1 hS.1)).trans (hS.2.1 q h1 h2)⟩) hS.2.2 (Nat.le_of_ble_eq_true rfl) (Nat.le_of_ble_eq_true rfl)
              · have e_c_31 : (τ 5 q_7) = q_29 := Option.some.inj c_31
                refine lv_aload hx hb dX3_rub_67 (lv_at hl 0 rfl) ?_
                refine kp_get hx hb hts i_X1 hown hK hP hI tq_7 rfl rfl 1 (by decide) (by decide) (hts (.fieldLink RX3 218 "IslandSolver$Row" "b" "LIslandSolver$Body;") (by decide +kernel)) (fun _ h9 => h9) dX3_rub_69 (kq_54 (fun hq_36 => ?_) (fun q_35 hq_36 ht_37 => ?_))
                · refine lv_aload_n hx hb dX3_rub_72 rfl (lv_at hl 1 rfl) ?_
                  refine lv_iload_n hx hb dX3_rub_73 rfl (lv_at hl 3 rfl) ?_
                  refine kd_callq (va_runV (As := [.int (-1)]) (rest := [.null]) ⟨hx, hb, hml, hown, hts⟩ (k_otherM l dC dI dA ad _ τ pv _ _ hI x bl rl kl ba ra ka fr nb nr nk hW ) (cwV 1 hts gX3_rub_X3_otherBody rfl rfl rfl (by decide +kernel) ⟨Nat.le_of_ble_eq_true rfl, Nat.le_of_ble_eq_true rfl⟩) (kd_preV hP hD hK hS hA hE hI hW.tx rfl rfl) rfl rfl hl.1 rfl (lv_room (Nat.le_of_ble_eq_true rfl)) dX3_rub_74 ⟨Nat.le_of_ble_eq_true rfl, Nat.le_of_ble_eq_true rfl⟩) hD hS hA (fun r_39 u_38 H locs hw hP hD hS => ?_)
                  obtain ⟨rfl, hI⟩ := hw
                  refine W.eq (g2 := F0 m 77 ls [.null, .null]) rfl ?_
                  refine W.eq (g2 := F0 m 77 ls [va_rf none, va_rf none]) rfl ?_
                  refine lv_acmp_eq (rx := none) (ry := none) (tgt := 90) hx hb dX3_rub_77 (by decide) (fun _ => ?_) (fun h9 => absurd rfl h9)
                  have hg8 := hg9.trans (kGx_t0 (by omega) pq_7 hq_23 (by omega) pq_29 e_c_31 hq_36)
                  refine lv_aload_n hx hb dX3_rub_90 rfl (lv_at hl 1 rfl) ?_
                  refine kd_xv (vx_runV (As := []) (rest := []) ⟨hx, hb, hml, hown, hts⟩ (k_checkRoom l dC dI dA ad _ τ pv _ _ hI x bl rl kl ba ra ka fr nb nr nk hW  hlt) (cwV 0 hts gX3_rub_X3_checkRoomForRow rfl rfl rfl (by decide +kernel) ⟨Nat.le_of_ble_eq_true rfl, Nat.le_of_ble_eq_true rfl⟩) (kd_preV hP hD hK hS hA hE hI hW.tx rfl rfl) rfl rfl hl.1 rfl (lv_room (Nat.le_of_ble_eq_true rfl)) dX3_rub_91 ⟨Nat.le_of_ble_eq_true rfl, Nat.le_of_ble_eq_true rfl⟩) hD hS hA (fun E ce q9 u_40 H locs hw hP hD hS hce hcv hcl => ?_) (fun u_40 H locs hw hP hD hS => ?_)
                  · obtain ⟨hE9, hI⟩ := hw
                    exact vx_out (fun x h => (ht x h).elim) hlocks hce hcv hcl (fun t ht hvm => ⟨(u_40.1, u_40.2), trivial, ⟨⟨Or.inr (Or.inr (⟨hE9.1, (by simp only [kc_rub, kFitRub, hp_4, (kKn_t hj_8 (by omega)), k_13, k_18, hg8, hE9.2, decide_true, decide_false, Bool.not_true, Bool.not_false, Bool.and_true, Bool.true_and, Bool.and_false, Bool.false_and, Bool.and_self, Bool.false_eq_true, if_true, if_false, ite_true, ite_false, reduceIte] <;> decide)⟩)), hI⟩, by rw [ht]; exact hP, hD⟩, hS.F ht⟩) hS.2.2 (Nat.le_of_ble_eq_true rfl) (Nat.le_of_ble_eq_true rfl)
                  · obtain ⟨hroom, hI⟩ := hw
                    refine lv_aload_n hx hb dX3_rub_94 rfl (lv_at hl 1 rfl) ?_
                    refine lv_iload_n hx hb dX3_rub_95 rfl (lv_at hl 2 rfl) ?_
                    refine lv_iload_n hx hb dX3_rub_96 rfl (lv_at hl 3 rfl) ?_
                    refine lv_fload_n hx hb dX3_rub_97 rfl (lv_at hl 4 rfl) ?_
                    refine lv_iload hx hb dX3_rub_98 (lv_at hl 7 rfl) ?_
                    refine kd_callq (va_runV (As := [.int (nI j_2), .int (-1), .float a, .int ky]) (rest := []) ⟨hx, hb, hml, hown, hts⟩ (k_newRow0 l dC dI dA ad _ τ pv _ _ hI x bl rl kl ba ra ka fr nb nr nk hW j_2 (by omega) a fb_14 ky) (cwV 4 hts gX3_rub_X3_newRow rfl rfl rfl (by decide +kernel) ⟨Nat.le_of_ble_eq_true rfl, Nat.le_of_ble_eq_true rfl⟩) (kd_preV hP hD hK hS hA hE hI hW.tx rfl rfl) rfl rfl hl.1 rfl (lv_room (Nat.le_of_ble_eq_true rfl)) dX3_rub_100 ⟨Nat.le_of_ble_eq_true rfl, Nat.le_of_ble_eq_true rfl⟩) hD hS hA (fun r_42 u_41 H locs hw hP hD hS => ?_)
                    obtain ⟨qr, qa, qb, τ2, pv2, rfl, h0qr, hF9, tqr, ⟨rw_n, rw_p, rw_q, rw_1, rw_2, x_t, x_k, p_0, p_1, p_2, p_3, p_4, p_5, p_6, p_7, p_8, p_9, p_10, p_11, p_12, p_13, p_14, p_15, p_16, p_17, f_5, t_0, t_1, t_2, t_3, t_4, t_15, t_16⟩, hpa9, hpb9, hI⟩ := hw
                    have hW := hW.frk (hF9.weak (fun _ _ _ => rfl))
                    have hF := hF.trans hF9
                    refine W.eq (g2 := F0 m 103 ls [.ref qr]) rfl ?_
                    refine lv_astore (lv' := [(8, .ref qr), (7, .ref q_7), (0, .ref x), (1, .int (nI j_2)), (2, .int (-1)), (3, .float a), (4, .int (nI j_8)), (5, .float b), (6, .int ky)]) hx hb dX3_rub_103 hl (by decide) rfl (fun ls hl => ?_)
                    refine lv_aload hx hb dX3_rub_105 (lv_at hl 0 rfl) ?_
                    refine lv_aload hx hb dX3_rub_107 (lv_at hl 1 rfl) ?_
                    refine kp_putP (v := .ref q_7) (ty := .object "IslandSolver$Row") hx hb hts i_X1 tyX1 tyX1_ok nmX1 hown hK hP hD hS hI tqr rfl rfl 9 (by decide) (by decide) (hts (.fieldLink RX3 210 "IslandSolver$Row" "at" "LIslandSolver$Row;") (by decide +kernel)) (fun _ h9 => h9) rfl (by decide +kernel) rfl rfl rfl (kv_S (by decide) ⟨some q_7, rfl⟩) dX3_rub_109 (fun f H locs hI hP hD hS => ?_)
                    have hF := hF.trans (kFr.upr (P := kPt) (τ := τ2) (pv := pv2) (a := qr) (w := .ref q_7) (k := 9) (Or.inr (by rw [tqr]; decide)))
                    have hW := hW.frw (kFr.upr (P := kPw) (τ := τ2) (pv := pv2) (a := qr) (w := .ref q_7) (k := 9) (Or.inr (by rw [tqr]; decide)))
                    refine lv_aload hx hb dX3_rub_112 (lv_at hl 0 rfl) ?_
                    refine lv_fload hx hb dX3_rub_114 (lv_at hl 7 rfl) ?_
                    refine kp_putP (v := .float b) (ty := .float) hx hb hts i_X1 tyX1 tyX1_ok nmX1 hown hK hP hD hS hI tqr rfl rfl 10 (by decide) (by decide) (hts (.fieldLink RX3 226 "IslandSolver$Row" "friction" "F") (by decide +kernel)) (fun _ h9 => h9) rfl (by decide +kernel) rfl rfl rfl (kv_G _) dX3_rub_116 (fun f H locs hI hP hD hS => ?_)
                    have hF := hF.trans (kFr.upr (P := kPt) (τ := τ2) (pv := (kup pv2 qr 9 (.ref q_7))) (a := qr) (w := .float b) (k := 10) (Or.inr (by rw [tqr]; decide)))
                    have hW := hW.frw (kFr.upr (P := kPw) (τ := τ2) (pv := (kup pv2 qr 9 (.ref q_7))) (a := qr) (w := .float b) (k := 10) (Or.inr (by rw [tqr]; decide)))
                    have hI := hI.mkRow (ix := nr) (at_ := q_7 + 1) (qb := qb) tqr ((kup_ne (Or.inr (by decide))).trans ((kup_ne (Or.inr (by decide))).trans p_0)) ((kup_ne (Or.inr (by decide))).trans ((kup_ne (Or.inr (by decide))).trans p_1)) ((kup_ne (Or.inr (by decide))).trans ((kup_ne (Or.inr (by decide))).trans p_2)) ((kup_ne (Or.inr (by decide))).trans ((kup_ne (Or.inr (by decide))).trans p_3)) ((kup_ne (Or.inr (by decide))).trans ((kup_ne (Or.inr (by decide))).trans p_4)) ((kup_ne (Or.inr (by decide))).trans ((kup_ne (Or.inr (by decide))).trans p_5)) ((kup_ne (Or.inr (by decide))).trans ((kup_ne (Or.inr (by decide))).trans p_6)) ((kup_ne (Or.inr (by decide))).trans ((kup_ne (Or.inr (by decide))).trans p_7)) ((kup_ne (Or.inr (by decide))).trans ((kup_ne (Or.inr (by decide))).trans p_8)) (((kup_ne (Or.inr (by decide))).trans kup_self).trans (kRf_s rfl).symm) kup_self ((kup_ne (Or.inr (by decide))).trans ((kup_ne (Or.inr (by decide))).trans p_11)) ((kup_ne (Or.inr (by decide))).trans ((kup_ne (Or.inr (by decide))).trans p_12)) ((kup_ne (Or.inr (by decide))).trans ((kup_ne (Or.inr (by decide))).trans p_13)) ((kup_ne (Or.inr (by decide))).trans ((kup_ne (Or.inr (by decide))).trans p_14)) ((kup_ne (Or.inr (by decide))).trans ((kup_ne (Or.inr (by decide))).trans p_15)) ((kup_ne (Or.inr (by decide))).trans ((kup_ne (Or.inr (by decide))).trans p_16)) ((kup_ne (Or.inr (by decide))).trans ((kup_ne (Or.inr (by decide))).trans p_17)) f_5 (Nat.zero_le _) (Nat.zero_le _) (Nat.zero_le _) fb_19 t_0 t_1 t_2 t_3 t_4 (fun b hb => by cases hb; exact ⟨(hF9.ty tq_7), (hF.tj tq_7 (j := 2)).trans hq_23⟩) t_15 t_16
                    obtain ⟨τ_r, hτ_r⟩ : ∃ z, z = kxt τ2 qr (kgR nr (q_7 + 1) qa qb) := ⟨_, rfl⟩
                    rw [← hτ_r] at hI
                    have hF_r : kFr kPt τ2 (kup (kup pv2 qr 9 (.ref q_7)) qr 10 (.float b)) τ_r (kup (kup pv2 qr 9 (.ref q_7)) qr 10 (.float b)) := by rw [hτ_r]; exact kFr.ret (Or.inr (by rw [tqr]; decide))
                    have t_r : τ_r 0 qr = 2 := by rw [hτ_r]; exact kxt_self 0
                    have x_r : τ_r 1 qr = nr := by rw [hτ_r]; exact kxt_self 1
                    have a_r : τ_r 5 qr = qa := by rw [hτ_r]; exact kxt_self 5
                    have b_r : τ_r 6 qr = 0 := by rw [hτ_r, ← hpb9]; exact kxt_self 6
                    have m_r : τ_r 2 qr = q_7 + 1 := by rw [hτ_r]; exact kxt_self 2
                    have n_r : (kup (kup pv2 qr 9 (.ref q_7)) qr 10 (.float b)) qr 17 = .null := ((kup_ne (Or.inr (by decide))).trans ((kup_ne (Or.inr (by decide))).trans p_17))
                    have hW := hW.frk (hF_r.weak (fun _ _ _ => rfl))
                    have hF := hF.trans hF_r
                    refine lv_aload_n hx hb dX3_rub_119 rfl (lv_at hl 2 rfl) ?_
                    refine lv_aload hx hb dX3_rub_120 (lv_at hl 0 rfl) ?_
                    refine kd_calli (va_runV (As := [.ref qr]) (rest := []) ⟨hx, hb, hml, hown, hts⟩ (k_addRow l dC dI dA ad _ τ_r (kup (kup pv2 qr 9 (.ref q_7)) qr 10 (.float b)) _ _ hI x bl rl kl ba ra ka fr nb nr nk hW qr t_r (by omega) x_r n_r) (cwV 1 hts gX3_rub_X3_addRow rfl rfl rfl (by decide +kernel) ⟨Nat.le_of_ble_eq_true rfl, Nat.le_of_ble_eq_true rfl⟩) (kd_preV hP hD hK hS hA hE hI hW.tx rfl rfl) rfl rfl hl.1 rfl (lv_room (Nat.le_of_ble_eq_true rfl)) dX3_rub_122 ⟨Nat.le_of_ble_eq_true rfl, Nat.le_of_ble_eq_true rfl⟩) hD hS hA (fun r_44 u_43 H locs hw hP hD hS => ?_)
                    obtain ⟨rfl, a2, τ9, pv9, hF9, hW, hE9, hqn, hI⟩ := hw
                    have hR9 : ∀ i, i < nr → i < nr + 1 → pv9 a2 i = pv ra i := fun i hi _ => (hE9 i hi).trans (hW00.eqR hF (fun _ => rfl) i hi)
                    have hF := (hF.weak (fun _ _ _ => rfl)).trans hF9
                    have hB9 : ∀ i, i < nb → pv9 ba i = pv ba i := hW00.eqB hF (fun _ => rfl)
                    have hN9 : kNw τ9 pv9 ba a2 nb nr (nI j_2) (-1) (kmi (j_8 + 1)) := kNw.mk0 t_r a_r b_r m_r hF9 hB9 hqn (by omega) hpa9 ⟨fun h9 => absurd h9 (Nat.succ_ne_zero _), fun h9 => absurd h9 (Nat.succ_ne_zero _)⟩ (by omega)
                    refine vx_ret ?_
                    refine W.widen (k := 12) (n := 1700) (Nat.le_of_ble_eq_true rfl) (Nat.le_of_ble_eq_true rfl) ?_
                    exact W.iret (v := nI nr) hx hb hr (fun t ht hW9 => ⟨⟨nI nr, (u_43.1, u_43.2), rfl, ⟨(by simp only [kc_rub, kFitRub, hp_4, (kKn_t hj_8 (by omega)), k_13, k_18, hg8, (decide_eq_true hroom), decide_true, decide_false, Bool.not_true, Bool.not_false, Bool.and_true, Bool.true_and, Bool.and_false, Bool.false_and, Bool.and_self, Bool.false_eq_true, if_true, if_false, ite_true, ite_false, reduceIte] <;> decide), rfl, ⟨_, _, bl, rl, kl, ba, a2, ka, fr, nk, hF.weak kPmR_C, hW, hB9, hR9, hN9, hI⟩⟩, by rw [ht]; exact hP, va_K.moved hW9.alike hK, hD⟩, hS.F ht⟩) hS.2.2 dX3_rub_125
                · refine lv_aload_n hx hb dX3_rub_72 rfl (lv_at hl 1 rfl) ?_
                  refine lv_iload_n hx hb dX3_rub_73 rfl (lv_at hl 3 rfl) ?_
                  refine kd_callq (va_runV (As := [.int (-1)]) (rest := [.ref q_35]) ⟨hx, hb, hml, hown, hts⟩ (k_otherM l dC dI dA ad _ τ pv _ _ hI x bl rl kl ba ra ka fr nb nr nk hW ) (cwV 1 hts gX3_rub_X3_otherBody rfl rfl rfl (by decide +kernel) ⟨Nat.le_of_ble_eq_true rfl, Nat.le_of_ble_eq_true rfl⟩) (kd_preV hP hD hK hS hA hE hI hW.tx rfl rfl) rfl rfl hl.1 rfl (lv_room (Nat.le_of_ble_eq_true rfl)) dX3_rub_74 ⟨Nat.le_of_ble_eq_true rfl, Nat.le_of_ble_eq_true rfl⟩) hD hS hA (fun r_46 u_45 H locs hw hP hD hS => ?_)
                  obtain ⟨rfl, hI⟩ := hw
                  refine W.eq (g2 := F0 m 77 ls [.null, .ref q_35]) rfl ?_
                  refine W.eq (g2 := F0 m 77 ls [va_rf none, va_rf (some q_35)]) rfl ?_
                  refine lv_acmp_eq (rx := (some q_35)) (ry := none) (tgt := 90) hx hb dX3_rub_77 (by decide) (fun h9 => absurd h9 (by intro h9; cases h9)) (fun _ => ?_)
                  have hg8 := hg9.trans (kGx_f7 hnr hnb (by omega) pq_7 hq_36)
                  obtain ⟨sa_47, hsa_47⟩ := hE.str 224 "the row rubs itself or is of other bodies" (by decide +kernel)
                  have hat : ∀ w ∈ (vx_atS RX3 82 "java/lang/IllegalArgumentException" ["java/lang/RuntimeException", "java/lang/Exception"]), w.before _ s = true := vx_hat (B := kx_non "java/lang/IllegalArgumentException") (fun w h => hts w (a_82 w h)) (by decide +kernel) (hE.non "java/lang/IllegalArgumentException" (by decide +kernel))
                  refine W.widen (k := 11) (n := 1694) (Nat.le_of_ble_eq_true rfl) (Nat.le_of_ble_eq_true rfl) ?_
                  exact vx_throwS (A := A) (rest := []) hx hb hlt hown (by decide +kernel) (by decide +kernel) (hts (.classLink RX3 78 "java/lang/IllegalArgumentException") (by decide +kernel)) (hts (.initialized "java/lang/IllegalArgumentException") (by decide +kernel)) hsa_47 hat (by decide +kernel) hE.2.2.2.2.2.2.1 hE.2.2.2.2.2.2.2.1 hS (hl.1.trans hml.symm) dX3_rub_80 dX3_rub_83 dX3_rub_84 dX3_rub_86 dX3_rub_89 (fun x h => (ht x h).elim) (Nat.le_of_ble_eq_true rfl) (Nat.le_of_ble_eq_true rfl) (Nat.le_of_ble_eq_true rfl) (Nat.le_of_ble_eq_true rfl) hlocks (fun t hvm hz hk => ⟨(u_45.1, u_45.2), trivial, ⟨⟨Or.inr (Or.inl ⟨rfl, (by simp only [kc_rub, kFitRub, hp_4, (kKn_t hj_8 (by omega)), k_13, k_18, hg8, decide_true, decide_false, Bool.not_true, Bool.not_false, Bool.and_true, Bool.true_and, Bool.and_false, Bool.false_and, Bool.and_self, Bool.false_eq_true, if_true, if_false, ite_true, ite_false, reduceIte] <;> decide)⟩), hI⟩, hP.kept (fun k q hq => hk q.1 (hP k q hq).lt), hD⟩, Nat.le_trans hS.1 hz, fun q h1 h2 => (hk q (Nat.lt_of_lt_of_le h1 hS.1)).trans (hS.2.1 q h1 h2)⟩) hS.2.2 (Nat.le_of_ble_eq_true rfl) (Nat.le_of_ble_eq_true rfl)
            · refine lv_ifnonnull (tgt := 80) hx hb dX3_rub_51 (by decide) ?_
              have hg8 := hg9.trans (kGx_f2 hnr (by omega) pq_7 (by rw [hq_23]; exact Nat.succ_ne_zero _))
              obtain ⟨sa_48, hsa_48⟩ := hE.str 224 "the row rubs itself or is of other bodies" (by decide +kernel)
              have hat : ∀ w ∈ (vx_atS RX3 82 "java/lang/IllegalArgumentException" ["java/lang/RuntimeException", "java/lang/Exception"]), w.before _ s = true := vx_hat (B := kx_non "java/lang/IllegalArgumentException") (fun w h => hts w (a_82 w h)) (by decide +kernel) (hE.non "java/lang/IllegalArgumentException" (by decide +kernel))
              refine W.widen (k := 11) (n := 1694) (Nat.le_of_ble_eq_true rfl) (Nat.le_of_ble_eq_true rfl) ?_
              exact vx_throwS (A := A) (rest := []) hx hb hlt hown (by decide +kernel) (by decide +kernel) (hts (.classLink RX3 78 "java/lang/IllegalArgumentException") (by decide +kernel)) (hts (.initialized "java/lang/IllegalArgumentException") (by decide +kernel)) hsa_48 hat (by decide +kernel) hE.2.2.2.2.2.2.1 hE.2.2.2.2.2.2.2.1 hS (hl.1.trans hml.symm) dX3_rub_80 dX3_rub_83 dX3_rub_84 dX3_rub_86 dX3_rub_89 (fun x h => (ht x h).elim) (Nat.le_of_ble_eq_true rfl) (Nat.le_of_ble_eq_true rfl) (Nat.le_of_ble_eq_true rfl) (Nat.le_of_ble_eq_true rfl) hlocks (fun t hvm hz hk => ⟨(u_16.1, u_16.2), trivial, ⟨⟨Or.inr (Or.inl ⟨rfl, (by simp only [kc_rub, kFitRub, hp_4, (kKn_t hj_8 (by omega)), k_13, k_18, hg8, decide_true, decide_false, Bool.not_true, Bool.not_false, Bool.and_true, Bool.true_and, Bool.and_false, Bool.false_and, Bool.and_self, Bool.false_eq_true, if_true, if_false, ite_true, ite_false, reduceIte] <;> decide)⟩), hI⟩, hP.kept (fun k q hq => hk q.1 (hP k q hq).lt), hD⟩, Nat.le_trans hS.1 hz, fun q h1 h2 => (hk q (Nat.lt_of_lt_of_le h1 hS.1)).trans (hS.2.1 q h1 h2)⟩) hS.2.2 (Nat.le_of_ble_eq_true rfl) (Nat.le_of_ble_eq_true rfl)
          · refine lv_if_eq (tgt := 46) hx hb dX3_rub_33 (by decide) (fun h9 => by first | exact absurd h9 (by decide) | exact absurd (by decide) h9) (fun _ => ?_)
            obtain ⟨sa_49, hsa_49⟩ := hE.str 208 "target or friction is out of range" (by decide +kernel)
            have hat : ∀ w ∈ (vx_atS RX3 82 "java/lang/IllegalArgumentException" ["java/lang/RuntimeException", "java/lang/Exception"]), w.before _ s = true := vx_hat (B := kx_non "java/lang/IllegalArgumentException") (fun w h => hts w (a_82 w h)) (by decide +kernel) (hE.non "java/lang/IllegalArgumentException" (by decide +kernel))
            refine W.widen (k := 11) (n := 1694) (Nat.le_of_ble_eq_true rfl) (Nat.le_of_ble_eq_true rfl) ?_
            exact vx_throwS (A := A) (rest := []) hx hb hlt hown (by decide +kernel) (by decide +kernel) (hts (.classLink RX3 78 "java/lang/IllegalArgumentException") (by decide +kernel)) (hts (.initialized "java/lang/IllegalArgumentException") (by decide +kernel)) hsa_49 hat (by decide +kernel) hE.2.2.2.2.2.2.1 hE.2.2.2.2.2.2.2.1 hS (hl.1.trans hml.symm) dX3_rub_36 dX3_rub_39 dX3_rub_40 dX3_rub_42 dX3_rub_45 (fun x h => (ht x h).elim) (Nat.le_of_ble_eq_true rfl) (Nat.le_of_ble_eq_true rfl) (Nat.le_of_ble_eq_true rfl) (Nat.le_of_ble_eq_true rfl) hlocks (fun t hvm hz hk => ⟨(u_16.1, u_16.2), trivial, ⟨⟨Or.inr (Or.inl ⟨rfl, (by simp only [kc_rub, kFitRub, hp_4, (kKn_t hj_8 (by omega)), k_13, k_18, decide_true, decide_false, Bool.not_true, Bool.not_false, Bool.and_true, Bool.true_and, Bool.and_false, Bool.false_and, Bool.and_self, Bool.false_eq_true, if_true, if_false, ite_true, ite_false, reduceIte] <;> decide)⟩), hI⟩, hP.kept (fun k q hq => hk q.1 (hP k q hq).lt), hD⟩, Nat.le_trans hS.1 hz, fun q h1 h2 => (hk q (Nat.lt_of_lt_of_le h1 hS.1)).trans (hS.2.1 q h1 h2)⟩) hS.2.2 (Nat.le_of_ble_eq_true rfl) (Nat.le_of_ble_eq_true rfl)
        · refine lv_if_ne (tgt := 36) hx hb dX3_rub_22 (by decide) (fun _ => ?_) (fun h9 => by first | exact absurd h9 (by decide) | exact absurd (by decide) h9)
          obtain ⟨sa_50, hsa_50⟩ := hE.str 208 "target or friction is out of range" (by decide +kernel)
          have hat : ∀ w ∈ (vx_atS RX3 82 "java/lang/IllegalArgumentException" ["java/lang/RuntimeException", "java/lang/Exception"]), w.before _ s = true := vx_hat (B := kx_non "java/lang/IllegalArgumentException") (fun w h => hts w (a_82 w h)) (by decide +kernel) (hE.non "java/lang/IllegalArgumentException" (by decide +kernel))
          refine W.widen (k := 11) (n := 1694) (Nat.le_of_ble_eq_true rfl) (Nat.le_of_ble_eq_true rfl) ?_
          exact vx_throwS (A := A) (rest := []) hx hb hlt hown (by decide +kernel) (by decide +kernel) (hts (.classLink RX3 78 "java/lang/IllegalArgumentException") (by decide +kernel)) (hts (.initialized "java/lang/IllegalArgumentException") (by decide +kernel)) hsa_50 hat (by decide +kernel) hE.2.2.2.2.2.2.1 hE.2.2.2.2.2.2.2.1 hS (hl.1.trans hml.symm) dX3_rub_36 dX3_rub_39 dX3_rub_40 dX3_rub_42 dX3_rub_45 (fun x h => (ht x h).elim) (Nat.le_of_ble_eq_true rfl) (Nat.le_of_ble_eq_true rfl) (Nat.le_of_ble_eq_true rfl) (Nat.le_of_ble_eq_true rfl) hlocks (fun t hvm hz hk => ⟨(u_11.1, u_11.2), trivial, ⟨⟨Or.inr (Or.inl ⟨rfl, (by simp only [kc_rub, kFitRub, hp_4, (kKn_t hj_8 (by omega)), k_13, decide_true, decide_false, Bool.not_true, Bool.not_false, Bool.and_true, Bool.true_and, Bool.and_false, Bool.false_and, Bool.and_self, Bool.false_eq_true, if_true, if_false, ite_true, ite_false, reduceIte] <;> decide)⟩), hI⟩, hP.kept (fun k q hq => hk q.1 (hP k q hq).lt), hD⟩, Nat.le_trans hS.1 hz, fun q h1 h2 => (hk q (Nat.lt_of_lt_of_le h1 hS.1)).trans (hS.2.1 q h1 h2)⟩) hS.2.2 (Nat.le_of_ble_eq_true rfl) (Nat.le_of_ble_eq_true rfl)
    · refine lv_aload_n hx hb dX3_rub_6 rfl (lv_at hl 0 rfl) ?_
      refine lv_iload hx hb dX3_rub_7 (lv_at hl 4 rfl) ?_
      refine kd_xq (vx_runV (As := [.int at9]) (rest := []) ⟨hx, hb, hml, hown, hts⟩ (k_rowAt l dC dI dA ad _ τ pv _ _ hI x bl rl kl ba ra ka fr nb nr nk hW at9 hlt) (cwV 1 hts gX3_rub_X3_rowAt rfl rfl rfl (by decide +kernel) ⟨Nat.le_of_ble_eq_true rfl, Nat.le_of_ble_eq_true rfl⟩) (kd_preV hP hD hK hS hA hE hI hW.tx rfl rfl) rfl rfl hl.1 rfl (lv_room (Nat.le_of_ble_eq_true rfl)) dX3_rub_9 ⟨Nat.le_of_ble_eq_true rfl, Nat.le_of_ble_eq_true rfl⟩) hD hS hA (fun E ce q9 u_51 H locs hw hP hD hS hce hcv hcl => ?_) (fun r_52 u_51 H locs hw hP hD hS => ?_)
      · obtain ⟨hE9, hI⟩ := hw
        exact vx_out (fun x h => (ht x h).elim) hlocks hce hcv hcl (fun t ht hvm => ⟨(u_51.1, u_51.2), trivial, ⟨⟨Or.inl ⟨hE9.1, (by simp only [kc_rub, kFitRub, hp_4, hE9.2, decide_true, decide_false, Bool.not_true, Bool.not_false, Bool.and_true, Bool.true_and, Bool.and_false, Bool.false_and, Bool.and_self, Bool.false_eq_true, if_true, if_false, ite_true, ite_false, reduceIte] <;> decide)⟩, hI⟩, by rw [ht]; exact hP, hD⟩, hS.F ht⟩) hS.2.2 (Nat.le_of_ble_eq_true rfl) (Nat.le_of_ble_eq_true rfl)
      · obtain ⟨j_54, hj_54, rfl, q_53, rfl, pq_53, tq_53, nq_53, hI⟩ := hw
        refine W.eq (g2 := F0 m 12 ls [.ref q_53]) rfl ?_
        refine lv_astore (lv' := [(7, .ref q_53), (0, .ref x), (1, .int (nI j_2)), (2, .int (nI j_3)), (3, .float a), (4, .int (nI j_54)), (5, .float b), (6, .int ky)]) hx hb dX3_rub_12 hl (by decide) rfl (fun ls hl => ?_)
        refine lv_fload_n hx hb dX3_rub_14 rfl (lv_at hl 4 rfl) ?_
        refine lv_ldcf (v := 3296722944) hx hb hown (hts (.constantFloat RX3 178 (3296722944)) (by decide +kernel)) dX3_rub_15 ?_
        have hc_55 : fb 1149239296 3296722944 := by unfold fb; decide +kernel
        refine lv_ldcf (v := 1149239296) hx hb hown (hts (.constantFloat RX3 123 (1149239296)) (by decide +kernel)) dX3_rub_17 ?_
        have hc_56 : fb 1149239296 1149239296 := by unfold fb; decide +kernel
        refine kd_calli (va_runS (As := [.float a, .float 3296722944, .float 1149239296]) (rest := []) ⟨hx, hb, hml, hown, hts⟩ (k_outside l dC dI dA ad _ τ pv _ _ hI a 3296722944 1149239296) (va_cwS 3 hts gX3_rub_X3_outside rfl rfl rfl (by decide +kernel) ⟨Nat.le_of_ble_eq_true rfl, Nat.le_of_ble_eq_true rfl⟩) (kd_preS hP hD hK hS hA hE) rfl rfl hl.1 rfl (lv_room (Nat.le_of_ble_eq_true rfl)) dX3_rub_19 ⟨Nat.le_of_ble_eq_true rfl, Nat.le_of_ble_eq_true rfl⟩) hD hS hA (fun r_58 u_57 H locs hw hP hD hS => ?_)
        obtain ⟨⟨k_59, rfl⟩ | ⟨k_59, rfl⟩, hI⟩ := hw
        · have fb_60 : fb 1149239296 a := fb_within hc_55 hc_56 (by decide) k_59
          refine lv_if_ne (tgt := 36) hx hb dX3_rub_22 (by decide) (fun h9 => by first | exact absurd h9 (by decide) | exact absurd (by decide) h9) (fun _ => ?_)
          refine lv_fload hx hb dX3_rub_25 (lv_at hl 6 rfl) ?_
          refine lv_fconst0 hx hb dX3_rub_27 ?_
          refine lv_ldcf (v := 1090519040) hx hb hown (hts (.constantFloat RX3 207 (1090519040)) (by decide +kernel)) dX3_rub_28 ?_
          have hc_61 : fb 1090519040 1090519040 := by unfold fb; decide +kernel
          refine kd_calli (va_runS (As := [.float b, .float FP.fconst0, .float 1090519040]) (rest := []) ⟨hx, hb, hml, hown, hts⟩ (k_outside l dC dI dA ad _ τ pv _ _ hI b FP.fconst0 1090519040) (va_cwS 3 hts gX3_rub_X3_outside rfl rfl rfl (by decide +kernel) ⟨Nat.le_of_ble_eq_true rfl, Nat.le_of_ble_eq_true rfl⟩) (kd_preS hP hD hK hS hA hE) rfl rfl hl.1 rfl (lv_room (Nat.le_of_ble_eq_true rfl)) dX3_rub_30 ⟨Nat.le_of_ble_eq_true rfl, Nat.le_of_ble_eq_true rfl⟩) hD hS hA (fun r_63 u_62 H locs hw hP hD hS => ?_)
          obtain ⟨⟨k_64, rfl⟩ | ⟨k_64, rfl⟩, hI⟩ := hw
          · have fb_65 : fb 1090519040 b := fb_within (fb_le kc_0 (by decide)) hc_61 (by decide) k_64
            refine lv_if_eq (tgt := 46) hx hb dX3_rub_33 (by decide) (fun _ => ?_) (fun h9 => by first | exact absurd h9 (by decide) | exact absurd (by decide) h9)
            refine lv_aload hx hb dX3_rub_46 (lv_at hl 0 rfl) ?_
            refine kp_get hx hb hts i_X1 hown hK hP hI tq_53 rfl rfl 9 (by decide) (by decide) (hts (.fieldLink RX3 210 "IslandSolver$Row" "at" "LIslandSolver$Row;") (by decide +kernel)) (fun _ h9 => h9) dX3_rub_48 (kq_55 (fun hq_69 => ?_) (fun q_68 hq_69 ht_70 ht_70_2 ht_70_3 => ?_))
            · refine lv_ifnonnullN hx hb dX3_rub_51 ?_
              refine lv_aload hx hb dX3_rub_54 (lv_at hl 0 rfl) ?_
              refine kp_get hx hb hts i_X1 hown hK hP hI tq_53 rfl rfl 0 (by decide) (by decide) (hts (.fieldLink RX3 214 "IslandSolver$Row" "a" "LIslandSolver$Body;") (by decide +kernel)) (fun _ h9 => h9) dX3_rub_56 (kq_C (by decide) fun x_71 h_72 => ?_)
              obtain ⟨rfl, h_72⟩ := h_72
              refine lv_aload_n hx hb dX3_rub_59 rfl (lv_at hl 1 rfl) ?_
              refine lv_iload_n hx hb dX3_rub_60 rfl (lv_at hl 2 rfl) ?_
              refine kd_callq (va_runV (As := [.int (nI j_2)]) (rest := [.ref (τ 5 q_53)]) ⟨hx, hb, hml, hown, hts⟩ (k_bodyAtN l dC dI dA ad _ τ pv _ _ hI x bl rl kl ba ra ka fr nb nr nk hW j_2 (by omega)) (cwV 1 hts gX3_rub_X3_bodyAt rfl rfl rfl (by decide +kernel) ⟨Nat.le_of_ble_eq_true rfl, Nat.le_of_ble_eq_true rfl⟩) (kd_preV hP hD hK hS hA hE hI hW.tx rfl rfl) rfl rfl hl.1 rfl (lv_room (Nat.le_of_ble_eq_true rfl)) dX3_rub_61 ⟨Nat.le_of_ble_eq_true rfl, Nat.le_of_ble_eq_true rfl⟩) hD hS hA (fun r_74 u_73 H locs hw hP hD hS => ?_)
              obtain ⟨q_75, rfl, pq_75, tq_75, nq_75, hI⟩ := hw
              refine W.eq (g2 := F0 m 64 ls [.ref q_75, .ref (τ 5 q_53)]) rfl ?_
              refine W.eq (g2 := F0 m 64 ls [va_rf (some q_75), va_rf (some (τ 5 q_53))]) rfl ?_
              refine lv_acmp_ne (rx := (some (τ 5 q_53))) (ry := (some q_75)) (tgt := 80) hx hb dX3_rub_64 (by decide) (fun c_77 => ?_) (fun c_77 => ?_)
              · have e_c_77 : (τ 5 q_53) ≠ q_75 := fun h9 => c_77 (congrArg some h9)
                have hg8 := hg9.trans (kGx_f5 hnr hnb (by omega) pq_53 (by omega) pq_75 e_c_77)
                obtain ⟨sa_78, hsa_78⟩ := hE.str 224 "the row rubs itself or is of other bodies" (by decide +kernel)
                have hat : ∀ w ∈ (vx_atS RX3 82 "java/lang/IllegalArgumentException" ["java/lang/RuntimeException", "java/lang/Exception"]), w.before _ s = true := vx_hat (B := kx_non "java/lang/IllegalArgumentException") (fun w h => hts w (a_82 w h)) (by decide +kernel) (hE.non "java/lang/IllegalArgumentException" (by decide +kernel))
                refine W.widen (k := 11) (n := 1694) (Nat.le_of_ble_eq_true rfl) (Nat.le_of_ble_eq_true rfl) ?_
                exact vx_throwS (A := A) (rest := []) hx hb hlt hown (by decide +kernel) (by decide +kernel) (hts (.classLink RX3 78 "java/lang/IllegalArgumentException") (by decide +kernel)) (hts (.initialized "java/lang/IllegalArgumentException") (by decide +kernel)) hsa_78 hat (by decide +kernel) hE.2.2.2.2.2.2.1 hE.2.2.2.2.2.2.2.1 hS (hl.1.trans hml.symm) dX3_rub_80 dX3_rub_83 dX3_rub_84 dX3_rub_86 dX3_rub_89 (fun x h => (ht x h).elim) (Nat.le_of_ble_eq_true rfl) (Nat.le_of_ble_eq_true rfl) (Nat.le_of_ble_eq_true rfl) (Nat.le_of_ble_eq_true rfl) hlocks (fun t hvm hz hk => ⟨(u_73.1, u_73.2), trivial, ⟨⟨Or.inr (Or.inl ⟨rfl, (by simp only [kc_rub, kFitRub, hp_4, (kKn_t hj_54 (by omega)), k_59, k_64, hg8, decide_true, decide_false, Bool.not_true, Bool.not_false, Bool.and_true, Bool.true_and, Bool.and_false, Bool.false_and, Bool.and_self, Bool.false_eq_true, if_true, if_false, ite_true, ite_false, reduceIte] <;> decide)⟩), hI⟩, hP.kept (fun k q hq => hk q.1 (hP k q hq).lt), hD⟩, Nat.le_trans hS.1 hz, fun q h1 h2 => (hk q (Nat.lt_of_lt_of_le h1 hS.1)).trans (hS.2.1 q h1 h2)⟩) hS.2.2 (Nat.le_of_ble_eq_true rfl) (Nat.le_of_ble_eq_true rfl)
              · have e_c_77 : (τ 5 q_53) = q_75 := Option.some.inj c_77
                refine lv_aload hx hb dX3_rub_67 (lv_at hl 0 rfl) ?_
                refine kp_get hx hb hts i_X1 hown hK hP hI tq_53 rfl rfl 1 (by decide) (by decide) (hts (.fieldLink RX3 218 "IslandSolver$Row" "b" "LIslandSolver$Body;") (by decide +kernel)) (fun _ h9 => h9) dX3_rub_69 (kq_54 (fun hq_82 => ?_) (fun q_81 hq_82 ht_83 => ?_))
                · refine lv_aload_n hx hb dX3_rub_72 rfl (lv_at hl 1 rfl) ?_
                  refine lv_iload_n hx hb dX3_rub_73 rfl (lv_at hl 3 rfl) ?_
                  refine kd_callq (va_runV (As := [.int (nI j_3)]) (rest := [.null]) ⟨hx, hb, hml, hown, hts⟩ (k_otherN l dC dI dA ad _ τ pv _ _ hI x bl rl kl ba ra ka fr nb nr nk hW j_3 (by omega)) (cwV 1 hts gX3_rub_X3_otherBody rfl rfl rfl (by decide +kernel) ⟨Nat.le_of_ble_eq_true rfl, Nat.le_of_ble_eq_true rfl⟩) (kd_preV hP hD hK hS hA hE hI hW.tx rfl rfl) rfl rfl hl.1 rfl (lv_room (Nat.le_of_ble_eq_true rfl)) dX3_rub_74 ⟨Nat.le_of_ble_eq_true rfl, Nat.le_of_ble_eq_true rfl⟩) hD hS hA (fun r_85 u_84 H locs hw hP hD hS => ?_)
                  obtain ⟨q_86, rfl, pq_86, tq_86, nq_86, hI⟩ := hw
                  refine W.eq (g2 := F0 m 77 ls [.ref q_86, .null]) rfl ?_
                  refine W.eq (g2 := F0 m 77 ls [va_rf (some q_86), va_rf none]) rfl ?_
                  refine lv_acmp_eq (rx := none) (ry := (some q_86)) (tgt := 90) hx hb dX3_rub_77 (by decide) (fun h9 => absurd h9 (by intro h9; cases h9)) (fun _ => ?_)
                  have hg8 := hg9.trans (kGx_f6 hnr hnb (by omega) pq_53 (by omega) hq_82)
                  obtain ⟨sa_88, hsa_88⟩ := hE.str 224 "the row rubs itself or is of other bodies" (by decide +kernel)
                  have hat : ∀ w ∈ (vx_atS RX3 82 "java/lang/IllegalArgumentException" ["java/lang/RuntimeException", "java/lang/Exception"]), w.before _ s = true := vx_hat (B := kx_non "java/lang/IllegalArgumentException") (fun w h => hts w (a_82 w h)) (by decide +kernel) (hE.non "java/lang/IllegalArgumentException" (by decide +kernel))
                  refine W.widen (k := 11) (n := 1694) (Nat.le_of_ble_eq_true rfl) (Nat.le_of_ble_eq_true rfl) ?_
                  exact vx_throwS (A := A) (rest := []) hx hb hlt hown (by decide +kernel) (by decide +kernel) (hts (.classLink RX3 78 "java/lang/IllegalArgumentException") (by decide +kernel)) (hts (.initialized "java/lang/IllegalArgumentException") (by decide +kernel)) hsa_88 hat (by decide +kernel) hE.2.2.2.2.2.2.1 hE.2.2.2.2.2.2.2.1 hS (hl.1.trans hml.symm) dX3_rub_80 dX3_rub_83 dX3_rub_84 dX3_rub_86 dX3_rub_89 (fun x h => (ht x h).elim) (Nat.le_of_ble_eq_true rfl) (Nat.le_of_ble_eq_true rfl) (Nat.le_of_ble_eq_true rfl) (Nat.le_of_ble_eq_true rfl) hlocks (fun t hvm hz hk => ⟨(u_84.1, u_84.2), trivial, ⟨⟨Or.inr (Or.inl ⟨rfl, (by simp only [kc_rub, kFitRub, hp_4, (kKn_t hj_54 (by omega)), k_59, k_64, hg8, decide_true, decide_false, Bool.not_true, Bool.not_false, Bool.and_true, Bool.true_and, Bool.and_false, Bool.false_and, Bool.and_self, Bool.false_eq_true, if_true, if_false, ite_true, ite_false, reduceIte] <;> decide)⟩), hI⟩, hP.kept (fun k q hq => hk q.1 (hP k q hq).lt), hD⟩, Nat.le_trans hS.1 hz, fun q h1 h2 => (hk q (Nat.lt_of_lt_of_le h1 hS.1)).trans (hS.2.1 q h1 h2)⟩) hS.2.2 (Nat.le_of_ble_eq_true rfl) (Nat.le_of_ble_eq_true rfl)
                · refine lv_aload_n hx hb dX3_rub_72 rfl (lv_at hl 1 rfl) ?_
                  refine lv_iload_n hx hb dX3_rub_73 rfl (lv_at hl 3 rfl) ?_
                  refine kd_callq (va_runV (As := [.int (nI j_3)]) (rest := [.ref q_81]) ⟨hx, hb, hml, hown, hts⟩ (k_otherN l dC dI dA ad _ τ pv _ _ hI x bl rl kl ba ra ka fr nb nr nk hW j_3 (by omega)) (cwV 1 hts gX3_rub_X3_otherBody rfl rfl rfl (by decide +kernel) ⟨Nat.le_of_ble_eq_true rfl, Nat.le_of_ble_eq_true rfl⟩) (kd_preV hP hD hK hS hA hE hI hW.tx rfl rfl) rfl rfl hl.1 rfl (lv_room (Nat.le_of_ble_eq_true rfl)) dX3_rub_74 ⟨Nat.le_of_ble_eq_true rfl, Nat.le_of_ble_eq_true rfl⟩) hD hS hA (fun r_90 u_89 H locs hw hP hD hS => ?_)
                  obtain ⟨q_91, rfl, pq_91, tq_91, nq_91, hI⟩ := hw
                  refine W.eq (g2 := F0 m 77 ls [.ref q_91, .ref q_81]) rfl ?_
                  refine W.eq (g2 := F0 m 77 ls [va_rf (some q_91), va_rf (some q_81)]) rfl ?_
                  refine lv_acmp_eq (rx := (some q_81)) (ry := (some q_91)) (tgt := 90) hx hb dX3_rub_77 (by decide) (fun c_93 => ?_) (fun c_93 => ?_)
                  · have e_c_93 : q_81 = q_91 := Option.some.inj c_93
                    have hg8 := hg9.trans (kGx_t1 (by omega) pq_53 hq_69 (by omega) pq_75 e_c_77 hq_82 (by omega) pq_91 e_c_93)
                    refine lv_aload_n hx hb dX3_rub_90 rfl (lv_at hl 1 rfl) ?_
                    refine kd_xv (vx_runV (As := []) (rest := []) ⟨hx, hb, hml, hown, hts⟩ (k_checkRoom l dC dI dA ad _ τ pv _ _ hI x bl rl kl ba ra ka fr nb nr nk hW  hlt) (cwV 0 hts gX3_rub_X3_checkRoomForRow rfl rfl rfl (by decide +kernel) ⟨Nat.le_of_ble_eq_true rfl, Nat.le_of_ble_eq_true rfl⟩) (kd_preV hP hD hK hS hA hE hI hW.tx rfl rfl) rfl rfl hl.1 rfl (lv_room (Nat.le_of_ble_eq_true rfl)) dX3_rub_91 ⟨Nat.le_of_ble_eq_true rfl, Nat.le_of_ble_eq_true rfl⟩) hD hS hA (fun E ce q9 u_94 H locs hw hP hD hS hce hcv hcl => ?_) (fun u_94 H locs hw hP hD hS => ?_)
                    · obtain ⟨hE9, hI⟩ := hw
                      exact vx_out (fun x h => (ht x h).elim) hlocks hce hcv hcl (fun t ht hvm => ⟨(u_94.1, u_94.2), trivial, ⟨⟨Or.inr (Or.inr (⟨hE9.1, (by simp only [kc_rub, kFitRub, hp_4, (kKn_t hj_54 (by omega)), k_59, k_64, hg8, hE9.2, decide_true, decide_false, Bool.not_true, Bool.not_false, Bool.and_true, Bool.true_and, Bool.and_false, Bool.false_and, Bool.and_self, Bool.false_eq_true, if_true, if_false, ite_true, ite_false, reduceIte] <;> decide)⟩)), hI⟩, by rw [ht]; exact hP, hD⟩, hS.F ht⟩) hS.2.2 (Nat.le_of_ble_eq_true rfl) (Nat.le_of_ble_eq_true rfl)
                    · obtain ⟨hroom, hI⟩ := hw
                      refine lv_aload_n hx hb dX3_rub_94 rfl (lv_at hl 1 rfl) ?_
                      refine lv_iload_n hx hb dX3_rub_95 rfl (lv_at hl 2 rfl) ?_
                      refine lv_iload_n hx hb dX3_rub_96 rfl (lv_at hl 3 rfl) ?_
                      refine lv_fload_n hx hb dX3_rub_97 rfl (lv_at hl 4 rfl) ?_
                      refine lv_iload hx hb dX3_rub_98 (lv_at hl 7 rfl) ?_
                      refine kd_callq (va_runV (As := [.int (nI j_2), .int (nI j_3), .float a, .int ky]) (rest := []) ⟨hx, hb, hml, hown, hts⟩ (k_newRow1 l dC dI dA ad _ τ pv _ _ hI x bl rl kl ba ra ka fr nb nr nk hW j_2 j_3 (by omega) (by omega) a fb_60 ky) (cwV 4 hts gX3_rub_X3_newRow rfl rfl rfl (by decide +kernel) ⟨Nat.le_of_ble_eq_true rfl, Nat.le_of_ble_eq_true rfl⟩) (kd_preV hP hD hK hS hA hE hI hW.tx rfl rfl) rfl rfl hl.1 rfl (lv_room (Nat.le_of_ble_eq_true rfl)) dX3_rub_100 ⟨Nat.le_of_ble_eq_true rfl, Nat.le_of_ble_eq_true rfl⟩) hD hS hA (fun r_96 u_95 H locs hw hP hD hS => ?_)
                      obtain ⟨qr, qa, qb, τ2, pv2, rfl, h0qr, hF9, tqr, ⟨rw_n, rw_p, rw_q, rw_1, rw_2, x_t, x_k, p_0, p_1, p_2, p_3, p_4, p_5, p_6, p_7, p_8, p_9, p_10, p_11, p_12, p_13, p_14, p_15, p_16, p_17, f_5, t_0, t_1, t_2, t_3, t_4, t_15, t_16⟩, hpa9, hpb9, hI⟩ := hw
                      have hW := hW.frk (hF9.weak (fun _ _ _ => rfl))
                      have hF := hF.trans hF9
                      refine W.eq (g2 := F0 m 103 ls [.ref qr]) rfl ?_
                      refine lv_astore (lv' := [(8, .ref qr), (7, .ref q_53), (0, .ref x), (1, .int (nI j_2)), (2, .int (nI j_3)), (3, .float a), (4, .int (nI j_54)), (5, .float b), (6, .int ky)]) hx hb dX3_rub_103 hl (by decide) rfl (fun ls hl => ?_)
                      refine lv_aload hx hb dX3_rub_105 (lv_at hl 0 rfl) ?_
                      refine lv_aload hx hb dX3_rub_107 (lv_at hl 1 rfl) ?_
                      refine kp_putP (v := .ref q_53) (ty := .object "IslandSolver$Row") hx hb hts i_X1 tyX1 tyX1_ok nmX1 hown hK hP hD hS hI tqr rfl rfl 9 (by decide) (by decide) (hts (.fieldLink RX3 210 "IslandSolver$Row" "at" "LIslandSolver$Row;") (by decide +kernel)) (fun _ h9 => h9) rfl (by decide +kernel) rfl rfl rfl (kv_S (by decide) ⟨some q_53, rfl⟩) dX3_rub_109 (fun f H locs hI hP hD hS => ?_)
                      have hF := hF.trans (kFr.upr (P := kPt) (τ := τ2) (pv := pv2) (a := qr) (w := .ref q_53) (k := 9) (Or.inr (by rw [tqr]; decide)))
                      have hW := hW.frw (kFr.upr (P := kPw) (τ := τ2) (pv := pv2) (a := qr) (w := .ref q_53) (k := 9) (Or.inr (by rw [tqr]; decide)))
                      refine lv_aload hx hb dX3_rub_112 (lv_at hl 0 rfl) ?_
                      refine lv_fload hx hb dX3_rub_114 (lv_at hl 7 rfl) ?_
                      refine kp_putP (v := .float b) (ty := .float) hx hb hts i_X1 tyX1 tyX1_ok nmX1 hown hK hP hD hS hI tqr rfl rfl 10 (by decide) (by decide) (hts (.fieldLink RX3 226 "IslandSolver$Row" "friction" "F") (by decide +kernel)) (fun _ h9 => h9) rfl (by decide +kernel) rfl rfl rfl (kv_G _) dX3_rub_116 (fun f H locs hI hP hD hS => ?_)
                      have hF := hF.trans (kFr.upr (P := kPt) (τ := τ2) (pv := (kup pv2 qr 9 (.ref q_53))) (a := qr) (w := .float b) (k := 10) (Or.inr (by rw [tqr]; decide)))
                      have hW := hW.frw (kFr.upr (P := kPw) (τ := τ2) (pv := (kup pv2 qr 9 (.ref q_53))) (a := qr) (w := .float b) (k := 10) (Or.inr (by rw [tqr]; decide)))
                      have hI := hI.mkRow (ix := nr) (at_ := q_53 + 1) (qb := qb) tqr ((kup_ne (Or.inr (by decide))).trans ((kup_ne (Or.inr (by decide))).trans p_0)) ((kup_ne (Or.inr (by decide))).trans ((kup_ne (Or.inr (by decide))).trans p_1)) ((kup_ne (Or.inr (by decide))).trans ((kup_ne (Or.inr (by decide))).trans p_2)) ((kup_ne (Or.inr (by decide))).trans ((kup_ne (Or.inr (by decide))).trans p_3)) ((kup_ne (Or.inr (by decide))).trans ((kup_ne (Or.inr (by decide))).trans p_4)) ((kup_ne (Or.inr (by decide))).trans ((kup_ne (Or.inr (by decide))).trans p_5)) ((kup_ne (Or.inr (by decide))).trans ((kup_ne (Or.inr (by decide))).trans p_6)) ((kup_ne (Or.inr (by decide))).trans ((kup_ne (Or.inr (by decide))).trans p_7)) ((kup_ne (Or.inr (by decide))).trans ((kup_ne (Or.inr (by decide))).trans p_8)) (((kup_ne (Or.inr (by decide))).trans kup_self).trans (kRf_s rfl).symm) kup_self ((kup_ne (Or.inr (by decide))).trans ((kup_ne (Or.inr (by decide))).trans p_11)) ((kup_ne (Or.inr (by decide))).trans ((kup_ne (Or.inr (by decide))).trans p_12)) ((kup_ne (Or.inr (by decide))).trans ((kup_ne (Or.inr (by decide))).trans p_13)) ((kup_ne (Or.inr (by decide))).trans ((kup_ne (Or.inr (by decide))).trans p_14)) ((kup_ne (Or.inr (by decide))).trans ((kup_ne (Or.inr (by decide))).trans p_15)) ((kup_ne (Or.inr (by decide))).trans ((kup_ne (Or.inr (by decide))).trans p_16)) ((kup_ne (Or.inr (by decide))).trans ((kup_ne (Or.inr (by decide))).trans p_17)) f_5 (Nat.zero_le _) (Nat.zero_le _) (Nat.zero_le _) fb_65 t_0 t_1 t_2 t_3 t_4 (fun b hb => by cases hb; exact ⟨(hF9.ty tq_53), (hF.tj tq_53 (j := 2)).trans hq_69⟩) t_15 t_16
                      obtain ⟨τ_r, hτ_r⟩ : ∃ z, z = kxt τ2 qr (kgR nr (q_53 + 1) qa qb) := ⟨_, rfl⟩
                      rw [← hτ_r] at hI
                      have hF_r : kFr kPt τ2 (kup (kup pv2 qr 9 (.ref q_53)) qr 10 (.float b)) τ_r (kup (kup pv2 qr 9 (.ref q_53)) qr 10 (.float b)) := by rw [hτ_r]; exact kFr.ret (Or.inr (by rw [tqr]; decide))
                      have t_r : τ_r 0 qr = 2 := by rw [hτ_r]; exact kxt_self 0
                      have x_r : τ_r 1 qr = nr := by rw [hτ_r]; exact kxt_self 1
                      have a_r : τ_r 5 qr = qa := by rw [hτ_r]; exact kxt_self 5
                      obtain ⟨w_b, hw_b, hpb9⟩ := hpb9
                      have b_r : τ_r 6 qr = w_b + 1 := by rw [hτ_r, ← hw_b]; exact kxt_self 6
                      have m_r : τ_r 2 qr = q_53 + 1 := by rw [hτ_r]; exact kxt_self 2
                      have n_r : (kup (kup pv2 qr 9 (.ref q_53)) qr 10 (.float b)) qr 17 = .null := ((kup_ne (Or.inr (by decide))).trans ((kup_ne (Or.inr (by decide))).trans p_17))
                      have hW := hW.frk (hF_r.weak (fun _ _ _ => rfl))
                      have hF := hF.trans hF_r
                      refine lv_aload_n hx hb dX3_rub_119 rfl (lv_at hl 2 rfl) ?_
                      refine lv_aload hx hb dX3_rub_120 (lv_at hl 0 rfl) ?_
                      refine kd_calli (va_runV (As := [.ref qr]) (rest := []) ⟨hx, hb, hml, hown, hts⟩ (k_addRow l dC dI dA ad _ τ_r (kup (kup pv2 qr 9 (.ref q_53)) qr 10 (.float b)) _ _ hI x bl rl kl ba ra ka fr nb nr nk hW qr t_r (by omega) x_r n_r) (cwV 1 hts gX3_rub_X3_addRow rfl rfl rfl (by decide +kernel) ⟨Nat.le_of_ble_eq_true rfl, Nat.le_of_ble_eq_true rfl⟩) (kd_preV hP hD hK hS hA hE hI hW.tx rfl rfl) rfl rfl hl.1 rfl (lv_room (Nat.le_of_ble_eq_true rfl)) dX3_rub_122 ⟨Nat.le_of_ble_eq_true rfl, Nat.le_of_ble_eq_true rfl⟩) hD hS hA (fun r_98 u_97 H locs hw hP hD hS => ?_)
                      obtain ⟨rfl, a2, τ9, pv9, hF9, hW, hE9, hqn, hI⟩ := hw
                      have hR9 : ∀ i, i < nr → i < nr + 1 → pv9 a2 i = pv ra i := fun i hi _ => (hE9 i hi).trans (hW00.eqR hF (fun _ => rfl) i hi)
                      have hF := (hF.weak (fun _ _ _ => rfl)).trans hF9
                      have hB9 : ∀ i, i < nb → pv9 ba i = pv ba i := hW00.eqB hF (fun _ => rfl)
                      have hN9 : kNw τ9 pv9 ba a2 nb nr (nI j_2) (nI j_3) (kmi (j_54 + 1)) := kNw.mk1 t_r a_r b_r m_r hF9 hB9 hqn (by omega) hpa9 (by omega) hpb9 ⟨fun h9 => absurd h9 (Nat.succ_ne_zero _), fun h9 => absurd h9 (Nat.succ_ne_zero _)⟩ (by omega)
                      refine vx_ret ?_
                      refine W.widen (k := 12) (n := 1700) (Nat.le_of_ble_eq_true rfl) (Nat.le_of_ble_eq_true rfl) ?_
                      exact W.iret (v := nI nr) hx hb hr (fun t ht hW9 => ⟨⟨nI nr, (u_97.1, u_97.2), rfl, ⟨(by simp only [kc_rub, kFitRub, hp_4, (kKn_t hj_54 (by omega)), k_59, k_64, hg8, (decide_eq_true hroom), decide_true, decide_false, Bool.not_true, Bool.not_false, Bool.and_true, Bool.true_and, Bool.and_false, Bool.false_and, Bool.and_self, Bool.false_eq_true, if_true, if_false, ite_true, ite_false, reduceIte] <;> decide), rfl, ⟨_, _, bl, rl, kl, ba, a2, ka, fr, nk, hF.weak kPmR_C, hW, hB9, hR9, hN9, hI⟩⟩, by rw [ht]; exact hP, va_K.moved hW9.alike hK, hD⟩, hS.F ht⟩) hS.2.2 dX3_rub_125
                  · have e_c_93 : q_81 ≠ q_91 := fun h9 => c_93 (congrArg some h9)
                    have hg8 := hg9.trans (kGx_f8 hnr hnb (by omega) pq_53 hq_82 (by omega) pq_91 e_c_93)
                    obtain ⟨sa_99, hsa_99⟩ := hE.str 224 "the row rubs itself or is of other bodies" (by decide +kernel)
                    have hat : ∀ w ∈ (vx_atS RX3 82 "java/lang/IllegalArgumentException" ["java/lang/RuntimeException", "java/lang/Exception"]), w.before _ s = true := vx_hat (B := kx_non "java/lang/IllegalArgumentException") (fun w h => hts w (a_82 w h)) (by decide +kernel) (hE.non "java/lang/IllegalArgumentException" (by decide +kernel))
                    refine W.widen (k := 11) (n := 1694) (Nat.le_of_ble_eq_true rfl) (Nat.le_of_ble_eq_true rfl) ?_
                    exact vx_throwS (A := A) (rest := []) hx hb hlt hown (by decide +kernel) (by decide +kernel) (hts (.classLink RX3 78 "java/lang/IllegalArgumentException") (by decide +kernel)) (hts (.initialized "java/lang/IllegalArgumentException") (by decide +kernel)) hsa_99 hat (by decide +kernel) hE.2.2.2.2.2.2.1 hE.2.2.2.2.2.2.2.1 hS (hl.1.trans hml.symm) dX3_rub_80 dX3_rub_83 dX3_rub_84 dX3_rub_86 dX3_rub_89 (fun x h => (ht x h).elim) (Nat.le_of_ble_eq_true rfl) (Nat.le_of_ble_eq_true rfl) (Nat.le_of_ble_eq_true rfl) (Nat.le_of_ble_eq_true rfl) hlocks (fun t hvm hz hk => ⟨(u_89.1, u_89.2), trivial, ⟨⟨Or.inr (Or.inl ⟨rfl, (by simp only [kc_rub, kFitRub, hp_4, (kKn_t hj_54 (by omega)), k_59, k_64, hg8, decide_true, decide_false, Bool.not_true, Bool.not_false, Bool.and_true, Bool.true_and, Bool.and_false, Bool.false_and, Bool.and_self, Bool.false_eq_true, if_true, if_false, ite_true, ite_false, reduceIte] <;> decide)⟩), hI⟩, hP.kept (fun k q hq => hk q.1 (hP k q hq).lt), hD⟩, Nat.le_trans hS.1 hz, fun q h1 h2 => (hk q (Nat.lt_of_lt_of_le h1 hS.1)).trans (hS.2.1 q h1 h2)⟩) hS.2.2 (Nat.le_of_ble_eq_true rfl) (Nat.le_of_ble_eq_true rfl)
            · refine lv_ifnonnull (tgt := 80) hx hb dX3_rub_51 (by decide) ?_
              have hg8 := hg9.trans (kGx_f2 hnr (by omega) pq_53 (by rw [hq_69]; exact Nat.succ_ne_zero _))
              obtain ⟨sa_100, hsa_100⟩ := hE.str 224 "the row rubs itself or is of other bodies" (by decide +kernel)
              have hat : ∀ w ∈ (vx_atS RX3 82 "java/lang/IllegalArgumentException" ["java/lang/RuntimeException", "java/lang/Exception"]), w.before _ s = true := vx_hat (B := kx_non "java/lang/IllegalArgumentException") (fun w h => hts w (a_82 w h)) (by decide +kernel) (hE.non "java/lang/IllegalArgumentException" (by decide +kernel))
              refine W.widen (k := 11) (n := 1694) (Nat.le_of_ble_eq_true rfl) (Nat.le_of_ble_eq_true rfl) ?_
              exact vx_throwS (A := A) (rest := []) hx hb hlt hown (by decide +kernel) (by decide +kernel) (hts (.classLink RX3 78 "java/lang/IllegalArgumentException") (by decide +kernel)) (hts (.initialized "java/lang/IllegalArgumentException") (by decide +kernel)) hsa_100 hat (by decide +kernel) hE.2.2.2.2.2.2.1 hE.2.2.2.2.2.2.2.1 hS (hl.1.trans hml.symm) dX3_rub_80 dX3_rub_83 dX3_rub_84 dX3_rub_86 dX3_rub_89 (fun x h => (ht x h).elim) (Nat.le_of_ble_eq_true rfl) (Nat.le_of_ble_eq_true rfl) (Nat.le_of_ble_eq_true rfl) (Nat.le_of_ble_eq_true rfl) hlocks (fun t hvm hz hk => ⟨(u_62.1, u_62.2), trivial, ⟨⟨Or.inr (Or.inl ⟨rfl, (by simp only [kc_rub, kFitRub, hp_4, (kKn_t hj_54 (by omega)), k_59, k_64, hg8, decide_true, decide_false, Bool.not_true, Bool.not_false, Bool.and_true, Bool.true_and, Bool.and_false, Bool.false_and, Bool.and_self, Bool.false_eq_true, if_true, if_false, ite_true, ite_false, reduceIte] <;> decide)⟩), hI⟩, hP.kept (fun k q hq => hk q.1 (hP k q hq).lt), hD⟩, Nat.le_trans hS.1 hz, fun q h1 h2 => (hk q (Nat.lt_of_lt_of_le h1 hS.1)).trans (hS.2.1 q h1 h2)⟩) hS.2.2 (Nat.le_of_ble_eq_true rfl) (Nat.le_of_ble_eq_true rfl)
          · refine lv_if_eq (tgt := 46) hx hb dX3_rub_33 (by decide) (fun h9 => by first | exact absurd h9 (by decide) | exact absurd (by decide) h9) (fun _ => ?_)
            obtain ⟨sa_101, hsa_101⟩ := hE.str 208 "target or friction is out of range" (by decide +kernel)
            have hat : ∀ w ∈ (vx_atS RX3 82 "java/lang/IllegalArgumentException" ["java/lang/RuntimeException", "java/lang/Exception"]), w.before _ s = true := vx_hat (B := kx_non "java/lang/IllegalArgumentException") (fun w h => hts w (a_82 w h)) (by decide +kernel) (hE.non "java/lang/IllegalArgumentException" (by decide +kernel))
            refine W.widen (k := 11) (n := 1694) (Nat.le_of_ble_eq_true rfl) (Nat.le_of_ble_eq_true rfl) ?_
            exact vx_throwS (A := A) (rest := []) hx hb hlt hown (by decide +kernel) (by decide +kernel) (hts (.classLink RX3 78 "java/lang/IllegalArgumentException") (by decide +kernel)) (hts (.initialized "java/lang/IllegalArgumentException") (by decide +kernel)) hsa_101 hat (by decide +kernel) hE.2.2.2.2.2.2.1 hE.2.2.2.2.2.2.2.1 hS (hl.1.trans hml.symm) dX3_rub_36 dX3_rub_39 dX3_rub_40 dX3_rub_42 dX3_rub_45 (fun x h => (ht x h).elim) (Nat.le_of_ble_eq_true rfl) (Nat.le_of_ble_eq_true rfl) (Nat.le_of_ble_eq_true rfl) (Nat.le_of_ble_eq_true rfl) hlocks (fun t hvm hz hk => ⟨(u_62.1, u_62.2), trivial, ⟨⟨Or.inr (Or.inl ⟨rfl, (by simp only [kc_rub, kFitRub, hp_4, (kKn_t hj_54 (by omega)), k_59, k_64, decide_true, decide_false, Bool.not_true, Bool.not_false, Bool.and_true, Bool.true_and, Bool.and_false, Bool.false_and, Bool.and_self, Bool.false_eq_true, if_true, if_false, ite_true, ite_false, reduceIte] <;> decide)⟩), hI⟩, hP.kept (fun k q hq => hk q.1 (hP k q hq).lt), hD⟩, Nat.le_trans hS.1 hz, fun q h1 h2 => (hk q (Nat.lt_of_lt_of_le h1 hS.1)).trans (hS.2.1 q h1 h2)⟩) hS.2.2 (Nat.le_of_ble_eq_true rfl) (Nat.le_of_ble_eq_true rfl)
        · refine lv_if_ne (tgt := 36) hx hb dX3_rub_22 (by decide) (fun _ => ?_) (fun h9 => by first | exact absurd h9 (by decide) | exact absurd (by decide) h9)
          obtain ⟨sa_102, hsa_102⟩ := hE.str 208 "target or friction is out of range" (by decide +kernel)
          have hat : ∀ w ∈ (vx_atS RX3 82 "java/lang/IllegalArgumentException" ["java/lang/RuntimeException", "java/lang/Exception"]), w.before _ s = true := vx_hat (B := kx_non "java/lang/IllegalArgumentException") (fun w h => hts w (a_82 w h)) (by decide +kernel) (hE.non "java/lang/IllegalArgumentException" (by decide +kernel))
          refine W.widen (k := 11) (n := 1694) (Nat.le_of_ble_eq_true rfl) (Nat.le_of_ble_eq_true rfl) ?_
          exact vx_throwS (A := A) (rest := []) hx hb hlt hown (by decide +kernel) (by decide +kernel) (hts (.classLink RX3 78 "java/lang/IllegalArgumentException") (by decide +kernel)) (hts (.initialized "java/lang/IllegalArgumentException") (by decide +kernel)) hsa_102 hat (by decide +kernel) hE.2.2.2.2.2.2.1 hE.2.2.2.2.2.2.2.1 hS (hl.1.trans hml.symm) dX3_rub_36 dX3_rub_39 dX3_rub_40 dX3_rub_42 dX3_rub_45 (fun x h => (ht x h).elim) (Nat.le_of_ble_eq_true rfl) (Nat.le_of_ble_eq_true rfl) (Nat.le_of_ble_eq_true rfl) (Nat.le_of_ble_eq_true rfl) hlocks (fun t hvm hz hk => ⟨(u_57.1, u_57.2), trivial, ⟨⟨Or.inr (Or.inl ⟨rfl, (by simp only [kc_rub, kFitRub, hp_4, (kKn_t hj_54 (by omega)), k_59, decide_true, decide_false, Bool.not_true, Bool.not_false, Bool.and_true, Bool.true_and, Bool.and_false, Bool.false_and, Bool.and_self, Bool.false_eq_true, if_true, if_false, ite_true, ite_false, reduceIte] <;> decide)⟩), hI⟩, hP.kept (fun k q hq => hk q.1 (hP k q hq).lt), hD⟩, Nat.le_trans hS.1 hz, fun q h1 h2 => (hk q (Nat.lt_of_lt_of_le h1 hS.1)).trans (hS.2.1 q h1 h2)⟩) hS.2.2 (Nat.le_of_ble_eq_true rfl) (Nat.le_of_ble_eq_true rfl)
