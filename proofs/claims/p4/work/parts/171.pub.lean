set_option maxHeartbeats 4000000 in
set_option maxRecDepth 100000 in
theorem k_p_settings (l : Launch) (dC : Nat → ClassId) (dI : Nat → Nat → Nat) (dA : Nat → ClassId) (ad sz : Nat) (τ : Nat → Nat → Nat) (pv : Nat → Nat → Value) (L : List Nat) (f : Nat → va_E) (hI : kI dA τ pv L f) (x bl rl kl ba ra ka fr nb nr nk : Nat) (hW : kW τ pv ad x bl rl kl ba ra ka fr nb nr nk) (n : Int32) (a : UInt32) (b : UInt32) (k : Int32) (hlt : l.stackTraces = false) : vx_Met l yX3_settings wsX3_settings ({ frames := 6, cells := 2, slots := 12, locals := 82 } : Room) (va_Pc [.ref x, .int n, .float a, .float b, .int k] (kB dC dI dA ad sz L f)) (va_Qv (fun u => kc_settings n a b k = 0 ∧ kPost dA τ pv ad x ba ra nb nr nb nr u) (kR dC dI dA (va_A (va_pl L f) sz)) (va_A (va_pl L f) sz)) (kX dC dI (fun E u => ((E = "java/lang/IllegalArgumentException" ∧ kc_settings n a b k = 1)) ∧ kI dA τ pv u.1 u.2) (va_A (va_pl L f) sz)) 2 12 (va_A (va_pl L f) sz) := by
  refine vx_ofW (cc := cX3_settings) (maxL := 5) (ret := none) (by decide) rfl ?_
  intro p e s m args below meth c s₁ B hml ht hv
  obtain ⟨rfl, hsz, hP, hK, hD0, hE⟩ := hv
  have hx := B.exec
  have hb := B.bytes
  have hr := B.returns
  have hts := atoms_spec (ws := wsX3_settings) B.pre
  have hown : s.vm.findClass RX3 = some m.cls := findClass_of_methodNamed B.named
  have hlocks := B.notSynchronized
  have a_82 : ∀ w ∈ (vx_atS RX3 82 "java/lang/IllegalArgumentException" ["java/lang/RuntimeException", "java/lang/Exception"]).filter goodWord, w ∈ wsX3_settings := fun _ h => List.mem_cons_of_mem _ (List.mem_append_right _ h)
  have i_X3 : ∀ w ∈ u_ws RX3 TX3 16, w ∈ wsX3_settings := by decide +kernel
  subst hsz
  have hD := hD0.self (sz := s.heap.size)
  generalize hAe : va_A (va_pl L f) s.heap.size = A at hD hE ⊢
  have hA : ∀ q : Nat, s.heap.size ≤ q → A q := fun q h => by rw [← hAe]; exact Or.inr h
  have hS : va_S A s.heap s.heap [] := va_S.rf
  have hP : va_P (dC, dI) vwCl (va_pl L f) s.heap := hP
  have hK : va_K (dC, dI) vwCl (tyA dA) s := hK
  have hl := lv_entry ([.ref x, .int n, .float a, .float b, .int k]) (n := 5) (Nat.le_of_ble_eq_true rfl)
  rw [lg_entry_eq]
  generalize (lg_sl ([.ref x, .int n, .float a, .float b, .int k]) ++ List.replicate (5 - (lg_sl ([.ref x, .int n, .float a, .float b, .int k])).length) Slot.unset).toArray = ls at hl ⊢
  have hl : lv_has ls 5 [(0, .ref x), (1, .int n), (2, .float a), (3, .float b), (4, .int k)] := hl
  have hnb := hW.lnb
  have hnr := hW.lnr
  have hnk := hW.lnk
  have hF : kFr kPm τ pv τ pv := kFr.rf
  have hW00 := hW
  refine lv_iload_n hx hb dX3_settings_0 rfl (lv_at hl 1 rfl) ?_
  refine lv_iconst (v := 1) hx hb dX3_settings_1 (by decide) ?_
  refine lv_icmp_lt (tgt := 42) hx hb dX3_settings_2 (by decide) (fun c_1 => ?_) (fun c_1 => ?_)
  · obtain ⟨sa_2, hsa_2⟩ := hE.str 235 "a setting is out of range" (by decide +kernel)
    have hat : ∀ w ∈ (vx_atS RX3 82 "java/lang/IllegalArgumentException" ["java/lang/RuntimeException", "java/lang/Exception"]), w.before _ s = true := vx_hat (B := kx_non "java/lang/IllegalArgumentException") (fun w h => hts w (a_82 w h)) (by decide +kernel) (hE.non "java/lang/IllegalArgumentException" (by decide +kernel))
    refine W.widen (k := 1) (n := 6) (Nat.le_of_ble_eq_true rfl) (Nat.le_of_ble_eq_true rfl) ?_
    exact vx_throwS (A := A) (rest := []) hx hb hlt hown (by decide +kernel) (by decide +kernel) (hts (.classLink RX3 78 "java/lang/IllegalArgumentException") (by decide +kernel)) (hts (.initialized "java/lang/IllegalArgumentException") (by decide +kernel)) hsa_2 hat (by decide +kernel) hE.2.2.2.2.2.2.1 hE.2.2.2.2.2.2.2.1 hS (hl.1.trans hml.symm) dX3_settings_42 dX3_settings_45 dX3_settings_46 dX3_settings_48 dX3_settings_51 (fun x h => (ht x h).elim) (Nat.le_of_ble_eq_true rfl) (Nat.le_of_ble_eq_true rfl) (Nat.le_of_ble_eq_true rfl) (Nat.le_of_ble_eq_true rfl) hlocks (fun t hvm hz hk => ⟨(L, f), trivial, ⟨⟨⟨rfl, (by simp only [kc_settings, c_1, decide_true, decide_false, Bool.not_true, Bool.not_false, Bool.and_true, Bool.true_and, Bool.and_false, Bool.false_and, Bool.and_self, Bool.false_eq_true, if_true, if_false, ite_true, ite_false, reduceIte] <;> decide)⟩, hI⟩, hP.kept (fun k q hq => hk q.1 (hP k q hq).lt), hD⟩, Nat.le_trans hS.1 hz, fun q h1 h2 => (hk q (Nat.lt_of_lt_of_le h1 hS.1)).trans (hS.2.1 q h1 h2)⟩) hS.2.2 (Nat.le_of_ble_eq_true rfl) (Nat.le_of_ble_eq_true rfl)
  · refine lv_iload_n hx hb dX3_settings_5 rfl (lv_at hl 1 rfl) ?_
    refine lv_bipush (v := 16) hx hb dX3_settings_6 (by decide) ?_
    refine lv_icmp_gt (tgt := 42) hx hb dX3_settings_8 (by decide) (fun c_3 => ?_) (fun c_3 => ?_)
    · obtain ⟨sa_4, hsa_4⟩ := hE.str 235 "a setting is out of range" (by decide +kernel)
      have hat : ∀ w ∈ (vx_atS RX3 82 "java/lang/IllegalArgumentException" ["java/lang/RuntimeException", "java/lang/Exception"]), w.before _ s = true := vx_hat (B := kx_non "java/lang/IllegalArgumentException") (fun w h => hts w (a_82 w h)) (by decide +kernel) (hE.non "java/lang/IllegalArgumentException" (by decide +kernel))
      refine W.widen (k := 1) (n := 6) (Nat.le_of_ble_eq_true rfl) (Nat.le_of_ble_eq_true rfl) ?_
      exact vx_throwS (A := A) (rest := []) hx hb hlt hown (by decide +kernel) (by decide +kernel) (hts (.classLink RX3 78 "java/lang/IllegalArgumentException") (by decide +kernel)) (hts (.initialized "java/lang/IllegalArgumentException") (by decide +kernel)) hsa_4 hat (by decide +kernel) hE.2.2.2.2.2.2.1 hE.2.2.2.2.2.2.2.1 hS (hl.1.trans hml.symm) dX3_settings_42 dX3_settings_45 dX3_settings_46 dX3_settings_48 dX3_settings_51 (fun x h => (ht x h).elim) (Nat.le_of_ble_eq_true rfl) (Nat.le_of_ble_eq_true rfl) (Nat.le_of_ble_eq_true rfl) (Nat.le_of_ble_eq_true rfl) hlocks (fun t hvm hz hk => ⟨(L, f), trivial, ⟨⟨⟨rfl, (by simp only [kc_settings, c_1, c_3, decide_true, decide_false, Bool.not_true, Bool.not_false, Bool.and_true, Bool.true_and, Bool.and_false, Bool.false_and, Bool.and_self, Bool.false_eq_true, if_true, if_false, ite_true, ite_false, reduceIte] <;> decide)⟩, hI⟩, hP.kept (fun k q hq => hk q.1 (hP k q hq).lt), hD⟩, Nat.le_trans hS.1 hz, fun q h1 h2 => (hk q (Nat.lt_of_lt_of_le h1 hS.1)).trans (hS.2.1 q h1 h2)⟩) hS.2.2 (Nat.le_of_ble_eq_true rfl) (Nat.le_of_ble_eq_true rfl)
    · refine lv_fload_n hx hb dX3_settings_11 rfl (lv_at hl 2 rfl) ?_
      refine lv_fconst0 hx hb dX3_settings_12 ?_
      refine lv_fconst1 hx hb dX3_settings_13 ?_
      refine kd_calli (va_runS (As := [.float a, .float FP.fconst0, .float FP.fconst1]) (rest := []) ⟨hx, hb, hml, hown, hts⟩ (k_outside l dC dI dA ad _ τ pv _ _ hI a FP.fconst0 FP.fconst1) (va_cwS 3 hts gX3_settings_X3_outside rfl rfl rfl (by decide +kernel) ⟨Nat.le_of_ble_eq_true rfl, Nat.le_of_ble_eq_true rfl⟩) (kd_preS hP hD hK hS hA hE) rfl rfl hl.1 rfl (lv_room (Nat.le_of_ble_eq_true rfl)) dX3_settings_14 ⟨Nat.le_of_ble_eq_true rfl, Nat.le_of_ble_eq_true rfl⟩) hD hS hA (fun r_6 u_5 H locs hw hP hD hS => ?_)
      obtain ⟨⟨k_7, rfl⟩ | ⟨k_7, rfl⟩, hI⟩ := hw
      · have fb_8 : fb 1065353216 a := fb_within (fb_le kc_0 (by decide)) kc_1 (by decide) k_7
        refine lv_if_ne (tgt := 42) hx hb dX3_settings_17 (by decide) (fun h9 => by first | exact absurd h9 (by decide) | exact absurd (by decide) h9) (fun _ => ?_)
        refine lv_fload_n hx hb dX3_settings_20 rfl (lv_at hl 3 rfl) ?_
        refine lv_fconst0 hx hb dX3_settings_21 ?_
        refine lv_ldcf (v := 1115684864) hx hb hown (hts (.constantFloat RX3 149 (1115684864)) (by decide +kernel)) dX3_settings_22 ?_
        have hc_9 : fb 1115684864 1115684864 := by unfold fb; decide +kernel
        refine kd_calli (va_runS (As := [.float b, .float FP.fconst0, .float 1115684864]) (rest := []) ⟨hx, hb, hml, hown, hts⟩ (k_outside l dC dI dA ad _ τ pv _ _ hI b FP.fconst0 1115684864) (va_cwS 3 hts gX3_settings_X3_outside rfl rfl rfl (by decide +kernel) ⟨Nat.le_of_ble_eq_true rfl, Nat.le_of_ble_eq_true rfl⟩) (kd_preS hP hD hK hS hA hE) rfl rfl hl.1 rfl (lv_room (Nat.le_of_ble_eq_true rfl)) dX3_settings_24 ⟨Nat.le_of_ble_eq_true rfl, Nat.le_of_ble_eq_true rfl⟩) hD hS hA (fun r_11 u_10 H locs hw hP hD hS => ?_)
        obtain ⟨⟨k_12, rfl⟩ | ⟨k_12, rfl⟩, hI⟩ := hw
        · have fb_13 : fb 1115684864 b := fb_within (fb_le kc_0 (by decide)) hc_9 (by decide) k_12
          refine lv_if_ne (tgt := 42) hx hb dX3_settings_27 (by decide) (fun h9 => by first | exact absurd h9 (by decide) | exact absurd (by decide) h9) (fun _ => ?_)
          refine lv_iload hx hb dX3_settings_30 (lv_at hl 4 rfl) ?_
          refine lv_if_lt (tgt := 42) hx hb dX3_settings_32 (by decide) (fun c_14 => ?_) (fun c_14 => ?_)
          · obtain ⟨sa_15, hsa_15⟩ := hE.str 235 "a setting is out of range" (by decide +kernel)
            have hat : ∀ w ∈ (vx_atS RX3 82 "java/lang/IllegalArgumentException" ["java/lang/RuntimeException", "java/lang/Exception"]), w.before _ s = true := vx_hat (B := kx_non "java/lang/IllegalArgumentException") (fun w h => hts w (a_82 w h)) (by decide +kernel) (hE.non "java/lang/IllegalArgumentException" (by decide +kernel))
            refine W.widen (k := 1) (n := 6) (Nat.le_of_ble_eq_true rfl) (Nat.le_of_ble_eq_true rfl) ?_
            exact vx_throwS (A := A) (rest := []) hx hb hlt hown (by decide +kernel) (by decide +kernel) (hts (.classLink RX3 78 "java/lang/IllegalArgumentException") (by decide +kernel)) (hts (.initialized "java/lang/IllegalArgumentException") (by decide +kernel)) hsa_15 hat (by decide +kernel) hE.2.2.2.2.2.2.1 hE.2.2.2.2.2.2.2.1 hS (hl.1.trans hml.symm) dX3_settings_42 dX3_settings_45 dX3_settings_46 dX3_settings_48 dX3_settings_51 (fun x h => (ht x h).elim) (Nat.le_of_ble_eq_true rfl) (Nat.le_of_ble_eq_true rfl) (Nat.le_of_ble_eq_true rfl) (Nat.le_of_ble_eq_true rfl) hlocks (fun t hvm hz hk => ⟨(u_10.1, u_10.2), trivial, ⟨⟨⟨rfl, (by simp only [kc_settings, c_1, c_3, k_7, k_12, c_14, decide_true, decide_false, Bool.not_true, Bool.not_false, Bool.and_true, Bool.true_and, Bool.and_false, Bool.false_and, Bool.and_self, Bool.false_eq_true, if_true, if_false, ite_true, ite_false, reduceIte] <;> decide)⟩, hI⟩, hP.kept (fun k q hq => hk q.1 (hP k q hq).lt), hD⟩, Nat.le_trans hS.1 hz, fun q h1 h2 => (hk q (Nat.lt_of_lt_of_le h1 hS.1)).trans (hS.2.1 q h1 h2)⟩) hS.2.2 (Nat.le_of_ble_eq_true rfl) (Nat.le_of_ble_eq_true rfl)
          · refine lv_iload hx hb dX3_settings_35 (lv_at hl 4 rfl) ?_
            refine lv_bipush (v := 100) hx hb dX3_settings_37 (by decide) ?_
            refine lv_icmp_le (tgt := 52) hx hb dX3_settings_39 (by decide) (fun c_16 => ?_) (fun c_16 => ?_)
            · refine lv_aload_n hx hb dX3_settings_52 rfl (lv_at hl 0 rfl) ?_
              refine lv_iload_n hx hb dX3_settings_53 rfl (lv_at hl 1 rfl) ?_
              refine kp_put (v := .int n) (ty := .int) hx hb hts i_X3 tyX3 tyX3_ok nmX3 hown hK hP hD hS hI hW.tx rfl rfl 6 (by decide) (by decide) (hts (.fieldLink RX3 35 "IslandSolver" "rounds" "I") (by decide +kernel)) (fun _ h9 => h9) rfl (by decide +kernel) rfl rfl rfl (by decide) (kv_I _) dX3_settings_54 (fun f H locs hI hP hD hS => ?_)
              refine lv_aload_n hx hb dX3_settings_57 rfl (lv_at hl 0 rfl) ?_
              refine lv_fload_n hx hb dX3_settings_58 rfl (lv_at hl 2 rfl) ?_
              refine kp_put (v := .float a) (ty := .float) hx hb hts i_X3 tyX3 tyX3_ok nmX3 hown hK hP hD hS hI hW.tx rfl rfl 7 (by decide) (by decide) (hts (.fieldLink RX3 39 "IslandSolver" "warm" "F") (by decide +kernel)) (fun _ h9 => h9) rfl (by decide +kernel) rfl rfl rfl (by decide) (kv_F (by decide) fb_8) dX3_settings_59 (fun f H locs hI hP hD hS => ?_)
              refine lv_aload_n hx hb dX3_settings_62 rfl (lv_at hl 0 rfl) ?_
              refine lv_fload_n hx hb dX3_settings_63 rfl (lv_at hl 3 rfl) ?_
              refine kp_put (v := .float b) (ty := .float) hx hb hts i_X3 tyX3 tyX3_ok nmX3 hown hK hP hD hS hI hW.tx rfl rfl 8 (by decide) (by decide) (hts (.fieldLink RX3 44 "IslandSolver" "calm" "F") (by decide +kernel)) (fun _ h9 => h9) rfl (by decide +kernel) rfl rfl rfl (by decide) (kv_G _) dX3_settings_64 (fun f H locs hI hP hD hS => ?_)
              refine lv_aload_n hx hb dX3_settings_67 rfl (lv_at hl 0 rfl) ?_
              refine lv_iload hx hb dX3_settings_68 (lv_at hl 4 rfl) ?_
              refine kp_put (v := .int k) (ty := .int) hx hb hts i_X3 tyX3 tyX3_ok nmX3 hown hK hP hD hS hI hW.tx rfl rfl 9 (by decide) (by decide) (hts (.fieldLink RX3 47 "IslandSolver" "still" "I") (by decide +kernel)) (fun _ h9 => h9) rfl (by decide +kernel) rfl rfl rfl (by decide) (kv_I _) dX3_settings_70 (fun f H locs hI hP hD hS => ?_)
              refine vx_ret ?_
              refine W.widen (k := 2) (n := 12) (Nat.le_of_ble_eq_true rfl) (Nat.le_of_ble_eq_true rfl) ?_
              exact W.vret hx hb hr (fun t ht hW9 => ⟨⟨(u_10.1, f), rfl, ⟨(by simp only [kc_settings, c_1, c_3, k_7, k_12, c_14, (Int32.not_lt.mpr c_16), decide_true, decide_false, Bool.not_true, Bool.not_false, Bool.and_true, Bool.true_and, Bool.and_false, Bool.false_and, Bool.and_self, Bool.false_eq_true, if_true, if_false, ite_true, ite_false, reduceIte] <;> decide), ⟨_, _, bl, rl, kl, ba, ra, ka, fr, nk, hF.weak kPm_C, hW, hW00.eqB hF (fun _ => rfl), fun i hi _ => hW00.eqR hF (fun _ => rfl) i hi, hI⟩⟩, by rw [ht]; exact hP, va_K.moved hW9.alike hK, hD⟩, hS.F ht⟩) hS.2.2 dX3_settings_73
            · obtain ⟨sa_17, hsa_17⟩ := hE.str 235 "a setting is out of range" (by decide +kernel)
              have hat : ∀ w ∈ (vx_atS RX3 82 "java/lang/IllegalArgumentException" ["java/lang/RuntimeException", "java/lang/Exception"]), w.before _ s = true := vx_hat (B := kx_non "java/lang/IllegalArgumentException") (fun w h => hts w (a_82 w h)) (by decide +kernel) (hE.non "java/lang/IllegalArgumentException" (by decide +kernel))
              refine W.widen (k := 1) (n := 6) (Nat.le_of_ble_eq_true rfl) (Nat.le_of_ble_eq_true rfl) ?_
              exact vx_throwS (A := A) (rest := []) hx hb hlt hown (by decide +kernel) (by decide +kernel) (hts (.classLink RX3 78 "java/lang/IllegalArgumentException") (by decide +kernel)) (hts (.initialized "java/lang/IllegalArgumentException") (by decide +kernel)) hsa_17 hat (by decide +kernel) hE.2.2.2.2.2.2.1 hE.2.2.2.2.2.2.2.1 hS (hl.1.trans hml.symm) dX3_settings_42 dX3_settings_45 dX3_settings_46 dX3_settings_48 dX3_settings_51 (fun x h => (ht x h).elim) (Nat.le_of_ble_eq_true rfl) (Nat.le_of_ble_eq_true rfl) (Nat.le_of_ble_eq_true rfl) (Nat.le_of_ble_eq_true rfl) hlocks (fun t hvm hz hk => ⟨(u_10.1, u_10.2), trivial, ⟨⟨⟨rfl, (by simp only [kc_settings, c_1, c_3, k_7, k_12, c_14, (Int32.not_le.mp c_16), decide_true, decide_false, Bool.not_true, Bool.not_false, Bool.and_true, Bool.true_and, Bool.and_false, Bool.false_and, Bool.and_self, Bool.false_eq_true, if_true, if_false, ite_true, ite_false, reduceIte] <;> decide)⟩, hI⟩, hP.kept (fun k q hq => hk q.1 (hP k q hq).lt), hD⟩, Nat.le_trans hS.1 hz, fun q h1 h2 => (hk q (Nat.lt_of_lt_of_le h1 hS.1)).trans (hS.2.1 q h1 h2)⟩) hS.2.2 (Nat.le_of_ble_eq_true rfl) (Nat.le_of_ble_eq_true rfl)
        · refine lv_if_ne (tgt := 42) hx hb dX3_settings_27 (by decide) (fun _ => ?_) (fun h9 => by first | exact absurd h9 (by decide) | exact absurd (by decide) h9)
          obtain ⟨sa_18, hsa_18⟩ := hE.str 235 "a setting is out of range" (by decide +kernel)
          have hat : ∀ w ∈ (vx_atS RX3 82 "java/lang/IllegalArgumentException" ["java/lang/RuntimeException", "java/lang/Exception"]), w.before _ s = true := vx_hat (B := kx_non "java/lang/IllegalArgumentException") (fun w h => hts w (a_82 w h)) (by decide +kernel) (hE.non "java/lang/IllegalArgumentException" (by decide +kernel))
          refine W.widen (k := 1) (n := 6) (Nat.le_of_ble_eq_true rfl) (Nat.le_of_ble_eq_true rfl) ?_
          exact vx_throwS (A := A) (rest := []) hx hb hlt hown (by decide +kernel) (by decide +kernel) (hts (.classLink RX3 78 "java/lang/IllegalArgumentException") (by decide +kernel)) (hts (.initialized "java/lang/IllegalArgumentException") (by decide +kernel)) hsa_18 hat (by decide +kernel) hE.2.2.2.2.2.2.1 hE.2.2.2.2.2.2.2.1 hS (hl.1.trans hml.symm) dX3_settings_42 dX3_settings_45 dX3_settings_46 dX3_settings_48 dX3_settings_51 (fun x h => (ht x h).elim) (Nat.le_of_ble_eq_true rfl) (Nat.le_of_ble_eq_true rfl) (Nat.le_of_ble_eq_true rfl) (Nat.le_of_ble_eq_true rfl) hlocks (fun t hvm hz hk => ⟨(u_10.1, u_10.2), trivial, ⟨⟨⟨rfl, (by simp only [kc_settings, c_1, c_3, k_7, k_12, decide_true, decide_false, Bool.not_true, Bool.not_false, Bool.and_true, Bool.true_and, Bool.and_false, Bool.false_and, Bool.and_self, Bool.false_eq_true, if_true, if_false, ite_true, ite_false, reduceIte] <;> decide)⟩, hI⟩, hP.kept (fun k q hq => hk q.1 (hP k q hq).lt), hD⟩, Nat.le_trans hS.1 hz, fun q h1 h2 => (hk q (Nat.lt_of_lt_of_le h1 hS.1)).trans (hS.2.1 q h1 h2)⟩) hS.2.2 (Nat.le_of_ble_eq_true rfl) (Nat.le_of_ble_eq_true rfl)
      · refine lv_if_ne (tgt := 42) hx hb dX3_settings_17 (by decide) (fun _ => ?_) (fun h9 => by first | exact absurd h9 (by decide) | exact absurd (by decide) h9)
        obtain ⟨sa_19, hsa_19⟩ := hE.str 235 "a setting is out of range" (by decide +kernel)
        have hat : ∀ w ∈ (vx_atS RX3 82 "java/lang/IllegalArgumentException" ["java/lang/RuntimeException", "java/lang/Exception"]), w.before _ s = true := vx_hat (B := kx_non "java/lang/IllegalArgumentException") (fun w h => hts w (a_82 w h)) (by decide +kernel) (hE.non "java/lang/IllegalArgumentException" (by decide +kernel))
        refine W.widen (k := 1) (n := 6) (Nat.le_of_ble_eq_true rfl) (Nat.le_of_ble_eq_true rfl) ?_
        exact vx_throwS (A := A) (rest := []) hx hb hlt hown (by decide +kernel) (by decide +kernel) (hts (.classLink RX3 78 "java/lang/IllegalArgumentException") (by decide +kernel)) (hts (.initialized "java/lang/IllegalArgumentException") (by decide +kernel)) hsa_19 hat (by decide +kernel) hE.2.2.2.2.2.2.1 hE.2.2.2.2.2.2.2.1 hS (hl.1.trans hml.symm) dX3_settings_42 dX3_settings_45 dX3_settings_46 dX3_settings_48 dX3_settings_51 (fun x h => (ht x h).elim) (Nat.le_of_ble_eq_true rfl) (Nat.le_of_ble_eq_true rfl) (Nat.le_of_ble_eq_true rfl) (Nat.le_of_ble_eq_true rfl) hlocks (fun t hvm hz hk => ⟨(u_5.1, u_5.2), trivial, ⟨⟨⟨rfl, (by simp only [kc_settings, c_1, c_3, k_7, decide_true, decide_false, Bool.not_true, Bool.not_false, Bool.and_true, Bool.true_and, Bool.and_false, Bool.false_and, Bool.and_self, Bool.false_eq_true, if_true, if_false, ite_true, ite_false, reduceIte] <;> decide)⟩, hI⟩, hP.kept (fun k q hq => hk q.1 (hP k q hq).lt), hD⟩, Nat.le_trans hS.1 hz, fun q h1 h2 => (hk q (Nat.lt_of_lt_of_le h1 hS.1)).trans (hS.2.1 q h1 h2)⟩) hS.2.2 (Nat.le_of_ble_eq_true rfl) (Nat.le_of_ble_eq_true rfl)
set_option maxHeartbeats 4000000 in
set_option maxRecDepth 100000 in
theorem k_p_workers (l : Launch) (dC : Nat → ClassId) (dI : Nat → Nat → Nat) (dA : Nat → ClassId) (ad sz : Nat) (τ : Nat → Nat → Nat) (pv : Nat → Nat → Value) (L : List Nat) (f : Nat → va_E) (hI : kI dA τ pv L f) (x bl rl kl ba ra ka fr nb nr nk : Nat) (hW : kW τ pv ad x bl rl kl ba ra ka fr nb nr nk) (n : Int32) (hlt : l.stackTraces = false) : vx_Met l yX3_workers wsX3_workers ({ frames := 6, cells := 2, slots := 12, locals := 82 } : Room) (va_Pc [.ref x, .int n] (kB dC dI dA ad sz L f)) (va_Qi (fun r u => kc_workers n = 0 ∧ pv x 10 = .int r ∧ kPostW dA τ pv ad x bl rl kl ba ra ka fr nb nr nk n u) (kR dC dI dA (va_A (va_pl L f) sz)) (va_A (va_pl L f) sz)) (kX dC dI (fun E u => ((E = "java/lang/IllegalArgumentException" ∧ kc_workers n = 1)) ∧ kI dA τ pv u.1 u.2) (va_A (va_pl L f) sz)) 2 12 (va_A (va_pl L f) sz) := by
  refine vx_ofW (cc := cX3_workers) (maxL := 3) (ret := (some .int)) (by decide) rfl ?_
  intro p e s m args below meth c s₁ B hml ht hv
  obtain ⟨rfl, hsz, hP, hK, hD0, hE⟩ := hv
  have hx := B.exec
  have hb := B.bytes
  have hr := B.returns
  have hts := atoms_spec (ws := wsX3_workers) B.pre
  have hown : s.vm.findClass RX3 = some m.cls := findClass_of_methodNamed B.named
  have hlocks := B.notSynchronized
  have a_82 : ∀ w ∈ (vx_atS RX3 82 "java/lang/IllegalArgumentException" ["java/lang/RuntimeException", "java/lang/Exception"]).filter goodWord, w ∈ wsX3_workers := fun _ h => List.mem_cons_of_mem _ (List.mem_append_right _ h)
  have i_X3 : ∀ w ∈ u_ws RX3 TX3 16, w ∈ wsX3_workers := by decide +kernel
  subst hsz
  have hD := hD0.self (sz := s.heap.size)
  generalize hAe : va_A (va_pl L f) s.heap.size = A at hD hE ⊢
  have hA : ∀ q : Nat, s.heap.size ≤ q → A q := fun q h => by rw [← hAe]; exact Or.inr h
  have hS : va_S A s.heap s.heap [] := va_S.rf
  have hP : va_P (dC, dI) vwCl (va_pl L f) s.heap := hP
  have hK : va_K (dC, dI) vwCl (tyA dA) s := hK
  have hl := lv_entry ([.ref x, .int n]) (n := 3) (Nat.le_of_ble_eq_true rfl)
  rw [lg_entry_eq]
  generalize (lg_sl ([.ref x, .int n]) ++ List.replicate (3 - (lg_sl ([.ref x, .int n])).length) Slot.unset).toArray = ls at hl ⊢
  have hl : lv_has ls 3 [(0, .ref x), (1, .int n)] := hl
  have hnb := hW.lnb
  have hnr := hW.lnr
  have hnk := hW.lnk
  have hF : kFr kPm0 τ pv τ pv := kFr.rf
  refine lv_iload_n hx hb dX3_workers_0 rfl (lv_at hl 1 rfl) ?_
  refine lv_iconst (v := 1) hx hb dX3_workers_1 (by decide) ?_
  refine lv_icmp_lt (tgt := 11) hx hb dX3_workers_2 (by decide) (fun c_1 => ?_) (fun c_1 => ?_)
  · obtain ⟨sa_2, hsa_2⟩ := hE.str 237 "n is not 1 .. 8" (by decide +kernel)
    have hat : ∀ w ∈ (vx_atS RX3 82 "java/lang/IllegalArgumentException" ["java/lang/RuntimeException", "java/lang/Exception"]), w.before _ s = true := vx_hat (B := kx_non "java/lang/IllegalArgumentException") (fun w h => hts w (a_82 w h)) (by decide +kernel) (hE.non "java/lang/IllegalArgumentException" (by decide +kernel))
    refine W.widen (k := 1) (n := 6) (Nat.le_of_ble_eq_true rfl) (Nat.le_of_ble_eq_true rfl) ?_
    exact vx_throwS (A := A) (rest := []) hx hb hlt hown (by decide +kernel) (by decide +kernel) (hts (.classLink RX3 78 "java/lang/IllegalArgumentException") (by decide +kernel)) (hts (.initialized "java/lang/IllegalArgumentException") (by decide +kernel)) hsa_2 hat (by decide +kernel) hE.2.2.2.2.2.2.1 hE.2.2.2.2.2.2.2.1 hS (hl.1.trans hml.symm) dX3_workers_11 dX3_workers_14 dX3_workers_15 dX3_workers_17 dX3_workers_20 (fun x h => (ht x h).elim) (Nat.le_of_ble_eq_true rfl) (Nat.le_of_ble_eq_true rfl) (Nat.le_of_ble_eq_true rfl) (Nat.le_of_ble_eq_true rfl) hlocks (fun t hvm hz hk => ⟨(L, f), trivial, ⟨⟨⟨rfl, (by simp only [kc_workers, c_1, decide_true, decide_false, Bool.not_true, Bool.not_false, Bool.and_true, Bool.true_and, Bool.and_false, Bool.false_and, Bool.and_self, Bool.false_eq_true, if_true, if_false, ite_true, ite_false, reduceIte] <;> decide)⟩, hI⟩, hP.kept (fun k q hq => hk q.1 (hP k q hq).lt), hD⟩, Nat.le_trans hS.1 hz, fun q h1 h2 => (hk q (Nat.lt_of_lt_of_le h1 hS.1)).trans (hS.2.1 q h1 h2)⟩) hS.2.2 (Nat.le_of_ble_eq_true rfl) (Nat.le_of_ble_eq_true rfl)
  · refine lv_iload_n hx hb dX3_workers_5 rfl (lv_at hl 1 rfl) ?_
    refine lv_bipush (v := 8) hx hb dX3_workers_6 (by decide) ?_
    refine lv_icmp_le (tgt := 21) hx hb dX3_workers_8 (by decide) (fun c_3 => ?_) (fun c_3 => ?_)
    · refine lv_aload_n hx hb dX3_workers_21 rfl (lv_at hl 0 rfl) ?_
      refine kp_get hx hb hts i_X3 hown hK hP hI hW.tx rfl rfl 10 (by decide) (by decide) (hts (.fieldLink RX3 50 "IslandSolver" "workerCount" "I") (by decide +kernel)) (fun _ h9 => h9) dX3_workers_22 (kq_L5 rfl fun x_4 w_6 h_5 h_5_2 => ?_)
      refine lv_istore_n (lv' := [(2, .int (nI x_4)), (0, .ref x), (1, .int n)]) hx hb dX3_workers_25 rfl hl (by decide) rfl (fun ls hl => ?_)
      have hkw9 : kc_workers n = 0 := (by simp only [kc_workers, c_1, (Int32.not_lt.mpr c_3), decide_true, decide_false, Bool.not_true, Bool.not_false, Bool.and_true, Bool.true_and, Bool.and_false, Bool.false_and, Bool.and_self, Bool.false_eq_true, if_true, if_false, ite_true, ite_false, reduceIte] <;> decide)
      obtain ⟨j_7, hj_7, hj_7_2, rfl⟩ := kz_18 c_1 c_3
      refine lv_aload_n hx hb dX3_workers_26 rfl (lv_at hl 1 rfl) ?_
      refine lv_iload_n hx hb dX3_workers_27 rfl (lv_at hl 2 rfl) ?_
      refine kp_putP (v := .int (nI j_7)) (ty := .int) hx hb hts i_X3 tyX3 tyX3_ok nmX3 hown hK hP hD hS hI hW.tx rfl rfl 10 (by decide) (by decide) (hts (.fieldLink RX3 50 "IslandSolver" "workerCount" "I") (by decide +kernel)) (fun _ h9 => h9) rfl (by decide +kernel) rfl rfl rfl (kv_S (by decide) ⟨_, rfl, by omega, by omega⟩) dX3_workers_28 (fun f H locs hI hP hD hS => ?_)
      have hF := hF.trans (kFr.up (P := kPm0) (w := .int (nI j_7)) (k := 10) hW.tx rfl)
      have hW := hW.frw (kFr.up (P := kPw) (w := .int (nI j_7)) (k := 10) hW.tx rfl)
      refine lv_iload_n hx hb dX3_workers_31 rfl (lv_at hl 0 rfl) ?_
      refine vx_ret ?_
      refine W.widen (k := 2) (n := 12) (Nat.le_of_ble_eq_true rfl) (Nat.le_of_ble_eq_true rfl) ?_
      exact W.iret (v := nI x_4) hx hb hr (fun t ht hW9 => ⟨⟨nI x_4, (L, f), rfl, ⟨hkw9, w_6, ⟨_, hF, hW, kup_self, hI⟩⟩, by rw [ht]; exact hP, va_K.moved hW9.alike hK, hD⟩, hS.F ht⟩) hS.2.2 dX3_workers_32
    · obtain ⟨sa_8, hsa_8⟩ := hE.str 237 "n is not 1 .. 8" (by decide +kernel)
      have hat : ∀ w ∈ (vx_atS RX3 82 "java/lang/IllegalArgumentException" ["java/lang/RuntimeException", "java/lang/Exception"]), w.before _ s = true := vx_hat (B := kx_non "java/lang/IllegalArgumentException") (fun w h => hts w (a_82 w h)) (by decide +kernel) (hE.non "java/lang/IllegalArgumentException" (by decide +kernel))
      refine W.widen (k := 1) (n := 6) (Nat.le_of_ble_eq_true rfl) (Nat.le_of_ble_eq_true rfl) ?_
      exact vx_throwS (A := A) (rest := []) hx hb hlt hown (by decide +kernel) (by decide +kernel) (hts (.classLink RX3 78 "java/lang/IllegalArgumentException") (by decide +kernel)) (hts (.initialized "java/lang/IllegalArgumentException") (by decide +kernel)) hsa_8 hat (by decide +kernel) hE.2.2.2.2.2.2.1 hE.2.2.2.2.2.2.2.1 hS (hl.1.trans hml.symm) dX3_workers_11 dX3_workers_14 dX3_workers_15 dX3_workers_17 dX3_workers_20 (fun x h => (ht x h).elim) (Nat.le_of_ble_eq_true rfl) (Nat.le_of_ble_eq_true rfl) (Nat.le_of_ble_eq_true rfl) (Nat.le_of_ble_eq_true rfl) hlocks (fun t hvm hz hk => ⟨(L, f), trivial, ⟨⟨⟨rfl, (by simp only [kc_workers, c_1, (Int32.not_le.mp c_3), decide_true, decide_false, Bool.not_true, Bool.not_false, Bool.and_true, Bool.true_and, Bool.and_false, Bool.false_and, Bool.and_self, Bool.false_eq_true, if_true, if_false, ite_true, ite_false, reduceIte] <;> decide)⟩, hI⟩, hP.kept (fun k q hq => hk q.1 (hP k q hq).lt), hD⟩, Nat.le_trans hS.1 hz, fun q h1 h2 => (hk q (Nat.lt_of_lt_of_le h1 hS.1)).trans (hS.2.1 q h1 h2)⟩) hS.2.2 (Nat.le_of_ble_eq_true rfl) (Nat.le_of_ble_eq_true rfl)
set_option maxHeartbeats 4000000 in
set_option maxRecDepth 100000 in
theorem k_p_clear (l : Launch) (dC : Nat → ClassId) (dI : Nat → Nat → Nat) (dA : Nat → ClassId) (ad sz : Nat) (τ : Nat → Nat → Nat) (pv0 : Nat → Nat → Value) (L : List Nat) (f : Nat → va_E) (hI : kI dA τ pv0 L f) (x bl rl kl ba ra ka fr nb nr nk : Nat) (hW : kW τ pv0 ad x bl rl kl ba ra ka fr nb nr nk)  : Met l yX3_clear wsX3_clear ({ frames := 3, cells := 0, slots := 0, locals := 64 } : Room) (va_Pc [.ref x] (kB dC dI dA ad sz L f)) (va_Qi (fun r u => r = nI nr ∧ kPost dA τ pv0 ad x ba ra nb nr nb 0 u) (kR dC dI dA (va_A (va_pl L f) sz)) (va_A (va_pl L f) sz)) 0 0 (va_A (va_pl L f) sz) := by
  refine Met.ofW (cc := cX3_clear) (maxL := 4) (ret := (some .int)) (by decide) rfl ?_
  intro p e s m args below meth c s₁ B hml hv
  obtain ⟨rfl, hsz, hP, hK, hD0, hE⟩ := hv
  have hx := B.exec
  have hb := B.bytes
  have hr := B.returns
  have hts := atoms_spec (ws := wsX3_clear) B.pre
  have hown : s.vm.findClass RX3 = some m.cls := findClass_of_methodNamed B.named
  have hlocks := B.notSynchronized
  have i_X3 : ∀ w ∈ u_ws RX3 TX3 16, w ∈ wsX3_clear := by decide +kernel
  subst hsz
  have hD := hD0.self (sz := s.heap.size)
  generalize hAe : va_A (va_pl L f) s.heap.size = A at hD hE ⊢
  have hA : ∀ q : Nat, s.heap.size ≤ q → A q := fun q h => by rw [← hAe]; exact Or.inr h
  have hS : va_S A s.heap s.heap [] := va_S.rf
  have hP : va_P (dC, dI) vwCl (va_pl L f) s.heap := hP
  have hK : va_K (dC, dI) vwCl (tyA dA) s := hK
  have hl := lv_entry ([.ref x]) (n := 4) (Nat.le_of_ble_eq_true rfl)
  rw [lg_entry_eq]
  generalize (lg_sl ([.ref x]) ++ List.replicate (4 - (lg_sl ([.ref x])).length) Slot.unset).toArray = ls at hl ⊢
  have hl : lv_has ls 4 [(0, .ref x)] := hl
  have hnb := hW.lnb
  have hnr := hW.lnr
  have hnk := hW.lnk
  have hW00 := hW
  refine lv_aload_n hx hb dX3_clear_0 rfl (lv_at hl 0 rfl) ?_
  refine kp_get hx hb hts i_X3 hown hK hP hI hW.tx rfl rfl 1 (by decide) (by decide) (hts (.fieldLink RX3 16 "IslandSolver" "rows" "Ljava/util/ArrayList;") (by decide +kernel)) (fun _ h9 => h9) dX3_clear_1 (kq_P (v0 := .ref rl) rfl hW.p1 fun h_2 => ?_)
  refine kd_calli (va_runV (As := []) (rest := []) ⟨hx, hb, hml, hown, hts⟩ (k_size8 l dC dI dA ad _ τ pv0 _ _ hI rl nr hW.lr.1 hW.lr.2.2.1) (cwV 0 hts gX3_clear_Jx4a65c_size_8abf5 rfl rfl rfl (by decide +kernel) ⟨Nat.le_of_ble_eq_true rfl, Nat.le_of_ble_eq_true rfl⟩) (kd_preV hP hD hK hS hA hE hI hW.lr.1 rfl rfl) rfl rfl hl.1 rfl (lv_room (Nat.le_of_ble_eq_true rfl)) dX3_clear_4 ⟨Nat.le_of_ble_eq_true rfl, Nat.le_of_ble_eq_true rfl⟩) hD hS hA (fun r_4 u_3 H locs hw hP hD hS => ?_)
  obtain ⟨rfl, hI⟩ := hw
  refine lv_istore_n (lv' := [(1, .int (nI nr)), (0, .ref x)]) hx hb dX3_clear_7 rfl hl (by decide) rfl (fun ls hl => ?_)
  refine lv_aload_n hx hb dX3_clear_8 rfl (lv_at hl 1 rfl) ?_
  refine kp_get hx hb hts i_X3 hown hK hP hI hW.tx rfl rfl 2 (by decide) (by decide) (hts (.fieldLink RX3 19 "IslandSolver" "kept" "Ljava/util/ArrayList;") (by decide +kernel)) (fun _ h9 => h9) dX3_clear_9 (kq_P (v0 := .ref kl) rfl hW.p2 fun h_6 => ?_)
  refine lv_astore_n (lv' := [(2, .ref kl), (1, .int (nI nr)), (0, .ref x)]) hx hb dX3_clear_12 rfl hl (by decide) rfl (fun ls hl => ?_)
  refine lv_aload_n hx hb dX3_clear_13 rfl (lv_at hl 0 rfl) ?_
  have had := (kad hE hD hI).2
  have hxka : x ≠ ka := fun e9 => by have h9 := hW.tx; rcases hW.lk.2.2.2 with ⟨e8, _⟩ | ⟨e8, _, _⟩ <;> rw [e9] at h9 <;> first | (rw [e8, had] at h9; cases h9) | (rw [e8] at h9; cases h9)
  have hW0 := hW
  have hw4 := hW.lk.2.2.2
  rcases hw4 with ⟨e1, e2⟩ | ⟨hta, hla, hel⟩
  · have ha : pv0 kl 1 = .ref ad := by rw [← e1]; exact hW.lk.2.1
    have hn : pv0 kl 2 = .int 0 := by have h9 := hW.lk.2.2.1; rw [e2] at h9; exact h9
    refine kd_callv (va_runV (As := []) (rest := []) ⟨hx, hb, hml, hown, hts⟩ (k_clearF l dC dI dA ad _ τ pv0 _ _ hI kl hW.lk.1 ha hn) (cwV 0 hts gX3_clear_Jx4a65c_clear_da8c8 rfl rfl rfl (by decide +kernel) ⟨Nat.le_of_ble_eq_true rfl, Nat.le_of_ble_eq_true rfl⟩) (kd_preV hP hD hK hS hA hE hI hW.lk.1 rfl rfl) rfl rfl hl.1 rfl (lv_room (Nat.le_of_ble_eq_true rfl)) dX3_clear_14 ⟨Nat.le_of_ble_eq_true rfl, Nat.le_of_ble_eq_true rfl⟩) hD hS hA (fun u_7 H locs hw hP hD hS => ?_)
    obtain ⟨pv, hI, hl1, hl2, hF9⟩ := hw
    rw [← e1] at hl1 hF9
    have hx1 : pv x 1 = .ref rl := (hF9 x 1 (fun e9 => by have h9 := hW.tx; rw [e9, hW.lk.1] at h9; cases h9) hxka).trans hW.p1
    refine lv_aload_n hx hb dX3_clear_17 rfl (lv_at hl 2 rfl) ?_
    refine lv_aload_n hx hb dX3_clear_18 rfl (lv_at hl 2 rfl) ?_
    refine kp_get hx hb hts i_X3 hown hK hP hI hW.tx rfl rfl 1 (by decide) (by decide) (hts (.fieldLink RX3 16 "IslandSolver" "rows" "Ljava/util/ArrayList;") (by decide +kernel)) (fun _ h9 => h9) dX3_clear_19 (kq_P (v0 := .ref rl) rfl hx1 fun h_9 => ?_)
    refine kp_putP (v := .ref rl) (ty := .object "java/util/ArrayList") hx hb hts i_X3 tyX3 tyX3_ok nmX3 hown hK hP hD hS hI hW.tx rfl rfl 2 (by decide) (by decide) (hts (.fieldLink RX3 19 "IslandSolver" "kept" "Ljava/util/ArrayList;") (by decide +kernel)) (fun _ h9 => h9) rfl (by decide +kernel) rfl rfl rfl (kv_R 8 (by decide) hW0.lr.1) dX3_clear_22 (fun f H locs hI hP hD hS => ?_)
    refine lv_aload_n hx hb dX3_clear_25 rfl (lv_at hl 2 rfl) ?_
    refine lv_aload_n hx hb dX3_clear_26 rfl (lv_at hl 0 rfl) ?_
    refine kp_putP (v := .ref kl) (ty := .object "java/util/ArrayList") hx hb hts i_X3 tyX3 tyX3_ok nmX3 hown hK hP hD hS hI hW.tx rfl rfl 1 (by decide) (by decide) (hts (.fieldLink RX3 16 "IslandSolver" "rows" "Ljava/util/ArrayList;") (by decide +kernel)) (fun _ h9 => h9) rfl (by decide +kernel) rfl rfl rfl (kv_R 8 (by decide) hW.lk.1) dX3_clear_27 (fun f H locs hI hP hD hS => ?_)
    have hF : kFr kPmR τ pv0 τ (kup (kup pv x 2 (.ref rl)) x 1 (.ref kl)) := fun b h0 _ => ⟨fun _ => rfl, fun k9 hk9 => by
      have h14 := of_decide_eq_true hk9
      have n2 : b ≠ kl := fun e9 => by rw [e9, hW0.lk.1] at h14; omega
      have n3 : b ≠ ka := fun e9 => by rw [e9] at h14; rcases hW0.lk.2.2.2 with ⟨e8, _⟩ | ⟨e8, _, _⟩ <;> first | (rw [e8, had] at h14; omega) | (rw [e8] at h14; omega)
      by_cases n1 : b = x
      · rw [n1, hW0.tx] at h14
        have e10 : k9 = 10 := by omega
        rw [e10, n1]
        exact (kup_ne (Or.inr (by decide))).trans ((kup_ne (Or.inr (by decide))).trans (hF9 x 10 (by rw [← n1]; exact n2) (by rw [← n1]; exact n3)))
      · exact (kup_ne (Or.inl n1)).trans ((kup_ne (Or.inl n1)).trans (hF9 b k9 n2 n3))⟩
    have hW := hW0.clr had hl1 hl2 hF9
    refine lv_iconst (v := 0) hx hb dX3_clear_30 (by decide) ?_
    refine lv_istore_n (lv' := [(3, .int 0), (2, .ref kl), (1, .int (nI nr)), (0, .ref x)]) hx hb dX3_clear_31 rfl hl (by decide) rfl (fun ls hl => ?_)
    have hl : lv_has ls 4 [(0, .ref x), (1, .int (nI nr)), (2, .ref kl), (3, .int 0)] := lv_sub hl [3, 2, 1, 0] rfl
    refine kl_loop (Inv := fun n32 _ L f H locs ls => ∃ (i : Nat), nb - i < n32 ∧ kI dA τ (kup (kup pv x 2 (.ref rl)) x 1 (.ref kl)) L f ∧ va_P (dC, dI) vwCl (va_pl L f) H ∧ va_D A (va_pl L f) ∧ va_S A s.heap H locs ∧ lv_has ls 4 [(0, .ref x), (1, .int (nI nr)), (2, .ref kl), (3, .int (nI i))] ∧ i ≤ nb) (fun _ _ _ _ _ _ h9 => by obtain ⟨_, hn, _⟩ := h9; exact Nat.not_lt_zero _ hn) (fun n32 ih32 _ L f H locs ls h9 => ?_) (nb - 0 + 1) (fun _ _ => .null) _ _ _ _ _ ⟨0, Nat.lt_succ_self _, hI, hP, hD, hS, hl, Nat.zero_le _⟩
    obtain ⟨i, hn32, hI, hP, hD, hS, hl, hib⟩ := h9
    refine lv_iload_n hx hb dX3_clear_32 rfl (lv_at hl 3 rfl) ?_
    refine lv_aload_n hx hb dX3_clear_33 rfl (lv_at hl 0 rfl) ?_
    refine kp_get hx hb hts i_X3 hown hK hP hI hW.tx rfl rfl 0 (by decide) (by decide) (hts (.fieldLink RX3 10 "IslandSolver" "bodies" "Ljava/util/ArrayList;") (by decide +kernel)) (fun _ h9 => h9) dX3_clear_34 (kq_P (v0 := .ref bl) rfl hW.p0 fun h_11 => ?_)
    refine kd_calli (va_runV (As := []) (rest := [.int (nI i)]) ⟨hx, hb, hml, hown, hts⟩ (k_size7 l dC dI dA ad _ τ (kup (kup pv x 2 (.ref rl)) x 1 (.ref kl)) _ _ hI bl nb hW.lb.1 hW.lb.2.2.1) (cwV 0 hts gX3_clear_Jx4a65c_size_8abf5 rfl rfl rfl (by decide +kernel) ⟨Nat.le_of_ble_eq_true rfl, Nat.le_of_ble_eq_true rfl⟩) (kd_preV hP hD hK hS hA hE hI hW.lb.1 rfl rfl) rfl rfl hl.1 rfl (lv_room (Nat.le_of_ble_eq_true rfl)) dX3_clear_37 ⟨Nat.le_of_ble_eq_true rfl, Nat.le_of_ble_eq_true rfl⟩) hD hS hA (fun r_13 u_12 H locs hw hP hD hS => ?_)
    obtain ⟨rfl, hI⟩ := hw
    refine lv_icmp_ge (tgt := 63) hx hb dX3_clear_40 (by decide) (fun c_14 => ?_) (fun c_14 => ?_)
    · have n_15 : nb ≤ i := (nI_leI (by omega) (by omega)).mp (show nI nb ≤ nI i from c_14)
      refine lv_iload_n hx hb dX3_clear_63 rfl (lv_at hl 1 rfl) ?_
      refine W.widen (k := 0) (n := 0) (Nat.le_of_ble_eq_true rfl) (Nat.le_of_ble_eq_true rfl) ?_
      exact W.iret (v := nI nr) hx hb hr (fun t ht hW9 => ⟨⟨nI nr, (u_12.1, u_12.2), rfl, ⟨rfl, ⟨_, _, bl, kl, rl, ba, ka, ra, fr, nr, hF.weak kPmR_C, hW, hW00.eqB hF (fun _ => rfl), fun i _ h9 => absurd h9 (Nat.not_lt_zero i), hI⟩⟩, by rw [ht]; exact hP, va_K.moved hW9.alike hK, hD⟩, hS.F ht⟩) hS.2.2 dX3_clear_64
    · have n_16 : ¬ nb ≤ i := fun h9 => (show ¬ nI nb ≤ nI i from c_14) ((nI_leI (by omega) (by omega)).mpr h9)
      refine lv_aload_n hx hb dX3_clear_43 rfl (lv_at hl 0 rfl) ?_
      refine kp_get hx hb hts i_X3 hown hK hP hI hW.tx rfl rfl 0 (by decide) (by decide) (hts (.fieldLink RX3 10 "IslandSolver" "bodies" "Ljava/util/ArrayList;") (by decide +kernel)) (fun _ h9 => h9) dX3_clear_44 (kq_P (v0 := .ref bl) rfl hW.p0 fun h_18 => ?_)
      refine lv_iload_n hx hb dX3_clear_47 rfl (lv_at hl 3 rfl) ?_
      obtain ⟨q_19, g_20, g_21, g_22, g_23⟩ := hW.lb.at (i := i) (by omega)
      have g_24 := hW.xb (i := i) (by omega) g_22
      refine kd_callq (va_runV (As := [.int (nI i)]) (rest := []) ⟨hx, hb, hml, hown, hts⟩ (k_get7 l dC dI dA ad _ τ (kup (kup pv x 2 (.ref rl)) x 1 (.ref kl)) _ _ hI bl ba nb i q_19 hW.lb.1 hW.lb.2.1 hW.lb.2.2.1 g_20 g_21 (by omega) (by omega) g_22) (cwV 1 hts gX3_clear_Jx4a65c_get_915e3 rfl rfl rfl (by decide +kernel) ⟨Nat.le_of_ble_eq_true rfl, Nat.le_of_ble_eq_true rfl⟩) (kd_preV hP hD hK hS hA hE hI hW.lb.1 rfl rfl) rfl rfl hl.1 rfl (lv_room (Nat.le_of_ble_eq_true rfl)) dX3_clear_48 ⟨Nat.le_of_ble_eq_true rfl, Nat.le_of_ble_eq_true rfl⟩) hD hS hA (fun r_26 u_25 H locs hw hP hD hS => ?_)
      obtain ⟨rfl, hI⟩ := hw
      refine W.eq (g2 := F0 m 51 ls [.ref q_19]) rfl ?_
      refine va_castY hx hb hown (hts (.classLink RX3 94 "IslandSolver$Body") (by decide +kernel)) (kz_cast (hE.cast2 "IslandSolver$Body" "IslandSolver$Body" (by decide +kernel))) (kd_recv hK hP hI g_23 rfl rfl) dX3_clear_51 ?_
      refine kd_callv (va_runV (As := []) (rest := []) ⟨hx, hb, hml, hown, hts⟩ (k_leaveRows l dC dI dA ad _ τ (kup (kup pv x 2 (.ref rl)) x 1 (.ref kl)) _ _ hI q_19 g_23) (cwV 0 hts gX3_clear_X0_leaveRows rfl rfl rfl (by decide +kernel) ⟨Nat.le_of_ble_eq_true rfl, Nat.le_of_ble_eq_true rfl⟩) (kd_preV hP hD hK hS hA hE hI g_23 rfl rfl) rfl rfl hl.1 rfl (lv_room (Nat.le_of_ble_eq_true rfl)) dX3_clear_54 ⟨Nat.le_of_ble_eq_true rfl, Nat.le_of_ble_eq_true rfl⟩) hD hS hA (fun u_27 H locs hw hP hD hS => ?_)
      have hI := hw
      refine lv_iinc (v := nI (i + 1)) (lv' := [(3, .int (nI (i + 1))), (0, .ref x), (1, .int (nI nr)), (2, .ref kl)]) hx hb dX3_clear_57 hl (k := 3) rfl (nI_add i 1) (by decide) rfl (fun ls hl => ?_)
      refine lv_goto (tgt := 32) hx hb dX3_clear_60 (by decide) ?_
      have hl : lv_has ls 4 [(0, .ref x), (1, .int (nI nr)), (2, .ref kl), (3, .int (nI (i + 1)))] := lv_sub hl [1, 2, 3, 0] rfl
      exact ih32 (fun _ _ => .null) _ _ _ _ _ ⟨(i + 1), by omega, hI, hP, hD, hS, hl, by omega⟩
  · refine kd_callv (va_runV (As := []) (rest := []) ⟨hx, hb, hml, hown, hts⟩ (k_clearA l dC dI dA ad _ τ pv0 _ _ hI kl ka nk hW.lk.1 hW.lk.2.1 hW.lk.2.2.1 hta hla (by omega)) (cwV 0 hts gX3_clear_Jx4a65c_clear_da8c8 rfl rfl rfl (by decide +kernel) ⟨Nat.le_of_ble_eq_true rfl, Nat.le_of_ble_eq_true rfl⟩) (kd_preV hP hD hK hS hA hE hI hW.lk.1 rfl rfl) rfl rfl hl.1 rfl (lv_room (Nat.le_of_ble_eq_true rfl)) dX3_clear_14 ⟨Nat.le_of_ble_eq_true rfl, Nat.le_of_ble_eq_true rfl⟩) hD hS hA (fun u_28 H locs hw hP hD hS => ?_)
    obtain ⟨pv, hI, hl1, hl2, hF9⟩ := hw
    have hx1 : pv x 1 = .ref rl := (hF9 x 1 (fun e9 => by have h9 := hW.tx; rw [e9, hW.lk.1] at h9; cases h9) hxka).trans hW.p1
    refine lv_aload_n hx hb dX3_clear_17 rfl (lv_at hl 2 rfl) ?_
    refine lv_aload_n hx hb dX3_clear_18 rfl (lv_at hl 2 rfl) ?_
    refine kp_get hx hb hts i_X3 hown hK hP hI hW.tx rfl rfl 1 (by decide) (by decide) (hts (.fieldLink RX3 16 "IslandSolver" "rows" "Ljava/util/ArrayList;") (by decide +kernel)) (fun _ h9 => h9) dX3_clear_19 (kq_P (v0 := .ref rl) rfl hx1 fun h_30 => ?_)
    refine kp_putP (v := .ref rl) (ty := .object "java/util/ArrayList") hx hb hts i_X3 tyX3 tyX3_ok nmX3 hown hK hP hD hS hI hW.tx rfl rfl 2 (by decide) (by decide) (hts (.fieldLink RX3 19 "IslandSolver" "kept" "Ljava/util/ArrayList;") (by decide +kernel)) (fun _ h9 => h9) rfl (by decide +kernel) rfl rfl rfl (kv_R 8 (by decide) hW0.lr.1) dX3_clear_22 (fun f H locs hI hP hD hS => ?_)
    refine lv_aload_n hx hb dX3_clear_25 rfl (lv_at hl 2 rfl) ?_
    refine lv_aload_n hx hb dX3_clear_26 rfl (lv_at hl 0 rfl) ?_
    refine kp_putP (v := .ref kl) (ty := .object "java/util/ArrayList") hx hb hts i_X3 tyX3 tyX3_ok nmX3 hown hK hP hD hS hI hW.tx rfl rfl 1 (by decide) (by decide) (hts (.fieldLink RX3 16 "IslandSolver" "rows" "Ljava/util/ArrayList;") (by decide +kernel)) (fun _ h9 => h9) rfl (by decide +kernel) rfl rfl rfl (kv_R 8 (by decide) hW.lk.1) dX3_clear_27 (fun f H locs hI hP hD hS => ?_)
    have hF : kFr kPmR τ pv0 τ (kup (kup pv x 2 (.ref rl)) x 1 (.ref kl)) := fun b h0 _ => ⟨fun _ => rfl, fun k9 hk9 => by
      have h14 := of_decide_eq_true hk9
      have n2 : b ≠ kl := fun e9 => by rw [e9, hW0.lk.1] at h14; omega
      have n3 : b ≠ ka := fun e9 => by rw [e9] at h14; rcases hW0.lk.2.2.2 with ⟨e8, _⟩ | ⟨e8, _, _⟩ <;> first | (rw [e8, had] at h14; omega) | (rw [e8] at h14; omega)
      by_cases n1 : b = x
      · rw [n1, hW0.tx] at h14
        have e10 : k9 = 10 := by omega
        rw [e10, n1]
        exact (kup_ne (Or.inr (by decide))).trans ((kup_ne (Or.inr (by decide))).trans (hF9 x 10 (by rw [← n1]; exact n2) (by rw [← n1]; exact n3)))
      · exact (kup_ne (Or.inl n1)).trans ((kup_ne (Or.inl n1)).trans (hF9 b k9 n2 n3))⟩
    have hW := hW0.clr had hl1 hl2 hF9
    refine lv_iconst (v := 0) hx hb dX3_clear_30 (by decide) ?_
    refine lv_istore_n (lv' := [(3, .int 0), (2, .ref kl), (1, .int (nI nr)), (0, .ref x)]) hx hb dX3_clear_31 rfl hl (by decide) rfl (fun ls hl => ?_)
    have hl : lv_has ls 4 [(0, .ref x), (1, .int (nI nr)), (2, .ref kl), (3, .int 0)] := lv_sub hl [3, 2, 1, 0] rfl
    refine kl_loop (Inv := fun n32 _ L f H locs ls => ∃ (i : Nat), nb - i < n32 ∧ kI dA τ (kup (kup pv x 2 (.ref rl)) x 1 (.ref kl)) L f ∧ va_P (dC, dI) vwCl (va_pl L f) H ∧ va_D A (va_pl L f) ∧ va_S A s.heap H locs ∧ lv_has ls 4 [(0, .ref x), (1, .int (nI nr)), (2, .ref kl), (3, .int (nI i))] ∧ i ≤ nb) (fun _ _ _ _ _ _ h9 => by obtain ⟨_, hn, _⟩ := h9; exact Nat.not_lt_zero _ hn) (fun n32 ih32 _ L f H locs ls h9 => ?_) (nb - 0 + 1) (fun _ _ => .null) _ _ _ _ _ ⟨0, Nat.lt_succ_self _, hI, hP, hD, hS, hl, Nat.zero_le _⟩
    obtain ⟨i, hn32, hI, hP, hD, hS, hl, hib⟩ := h9
    refine lv_iload_n hx hb dX3_clear_32 rfl (lv_at hl 3 rfl) ?_
    refine lv_aload_n hx hb dX3_clear_33 rfl (lv_at hl 0 rfl) ?_
    refine kp_get hx hb hts i_X3 hown hK hP hI hW.tx rfl rfl 0 (by decide) (by decide) (hts (.fieldLink RX3 10 "IslandSolver" "bodies" "Ljava/util/ArrayList;") (by decide +kernel)) (fun _ h9 => h9) dX3_clear_34 (kq_P (v0 := .ref bl) rfl hW.p0 fun h_32 => ?_)
    refine kd_calli (va_runV (As := []) (rest := [.int (nI i)]) ⟨hx, hb, hml, hown, hts⟩ (k_size7 l dC dI dA ad _ τ (kup (kup pv x 2 (.ref rl)) x 1 (.ref kl)) _ _ hI bl nb hW.lb.1 hW.lb.2.2.1) (cwV 0 hts gX3_clear_Jx4a65c_size_8abf5 rfl rfl rfl (by decide +kernel) ⟨Nat.le_of_ble_eq_true rfl, Nat.le_of_ble_eq_true rfl⟩) (kd_preV hP hD hK hS hA hE hI hW.lb.1 rfl rfl) rfl rfl hl.1 rfl (lv_room (Nat.le_of_ble_eq_true rfl)) dX3_clear_37 ⟨Nat.le_of_ble_eq_true rfl, Nat.le_of_ble_eq_true rfl⟩) hD hS hA (fun r_34 u_33 H locs hw hP hD hS => ?_)
    obtain ⟨rfl, hI⟩ := hw
    refine lv_icmp_ge (tgt := 63) hx hb dX3_clear_40 (by decide) (fun c_35 => ?_) (fun c_35 => ?_)
    · have n_36 : nb ≤ i := (nI_leI (by omega) (by omega)).mp (show nI nb ≤ nI i from c_35)
      refine lv_iload_n hx hb dX3_clear_63 rfl (lv_at hl 1 rfl) ?_
      refine W.widen (k := 0) (n := 0) (Nat.le_of_ble_eq_true rfl) (Nat.le_of_ble_eq_true rfl) ?_
      exact W.iret (v := nI nr) hx hb hr (fun t ht hW9 => ⟨⟨nI nr, (u_33.1, u_33.2), rfl, ⟨rfl, ⟨_, _, bl, kl, rl, ba, ka, ra, fr, nr, hF.weak kPmR_C, hW, hW00.eqB hF (fun _ => rfl), fun i _ h9 => absurd h9 (Nat.not_lt_zero i), hI⟩⟩, by rw [ht]; exact hP, va_K.moved hW9.alike hK, hD⟩, hS.F ht⟩) hS.2.2 dX3_clear_64
    · have n_37 : ¬ nb ≤ i := fun h9 => (show ¬ nI nb ≤ nI i from c_35) ((nI_leI (by omega) (by omega)).mpr h9)
      refine lv_aload_n hx hb dX3_clear_43 rfl (lv_at hl 0 rfl) ?_
      refine kp_get hx hb hts i_X3 hown hK hP hI hW.tx rfl rfl 0 (by decide) (by decide) (hts (.fieldLink RX3 10 "IslandSolver" "bodies" "Ljava/util/ArrayList;") (by decide +kernel)) (fun _ h9 => h9) dX3_clear_44 (kq_P (v0 := .ref bl) rfl hW.p0 fun h_39 => ?_)
      refine lv_iload_n hx hb dX3_clear_47 rfl (lv_at hl 3 rfl) ?_
      obtain ⟨q_40, g_41, g_42, g_43, g_44⟩ := hW.lb.at (i := i) (by omega)
      have g_45 := hW.xb (i := i) (by omega) g_43
      refine kd_callq (va_runV (As := [.int (nI i)]) (rest := []) ⟨hx, hb, hml, hown, hts⟩ (k_get7 l dC dI dA ad _ τ (kup (kup pv x 2 (.ref rl)) x 1 (.ref kl)) _ _ hI bl ba nb i q_40 hW.lb.1 hW.lb.2.1 hW.lb.2.2.1 g_41 g_42 (by omega) (by omega) g_43) (cwV 1 hts gX3_clear_Jx4a65c_get_915e3 rfl rfl rfl (by decide +kernel) ⟨Nat.le_of_ble_eq_true rfl, Nat.le_of_ble_eq_true rfl⟩) (kd_preV hP hD hK hS hA hE hI hW.lb.1 rfl rfl) rfl rfl hl.1 rfl (lv_room (Nat.le_of_ble_eq_true rfl)) dX3_clear_48 ⟨Nat.le_of_ble_eq_true rfl, Nat.le_of_ble_eq_true rfl⟩) hD hS hA (fun r_47 u_46 H locs hw hP hD hS => ?_)
      obtain ⟨rfl, hI⟩ := hw
      refine W.eq (g2 := F0 m 51 ls [.ref q_40]) rfl ?_
      refine va_castY hx hb hown (hts (.classLink RX3 94 "IslandSolver$Body") (by decide +kernel)) (kz_cast (hE.cast2 "IslandSolver$Body" "IslandSolver$Body" (by decide +kernel))) (kd_recv hK hP hI g_44 rfl rfl) dX3_clear_51 ?_
      refine kd_callv (va_runV (As := []) (rest := []) ⟨hx, hb, hml, hown, hts⟩ (k_leaveRows l dC dI dA ad _ τ (kup (kup pv x 2 (.ref rl)) x 1 (.ref kl)) _ _ hI q_40 g_44) (cwV 0 hts gX3_clear_X0_leaveRows rfl rfl rfl (by decide +kernel) ⟨Nat.le_of_ble_eq_true rfl, Nat.le_of_ble_eq_true rfl⟩) (kd_preV hP hD hK hS hA hE hI g_44 rfl rfl) rfl rfl hl.1 rfl (lv_room (Nat.le_of_ble_eq_true rfl)) dX3_clear_54 ⟨Nat.le_of_ble_eq_true rfl, Nat.le_of_ble_eq_true rfl⟩) hD hS hA (fun u_48 H locs hw hP hD hS => ?_)
      have hI := hw
      refine lv_iinc (v := nI (i + 1)) (lv' := [(3, .int (nI (i + 1))), (0, .ref x), (1, .int (nI nr)), (2, .ref kl)]) hx hb dX3_clear_57 hl (k := 3) rfl (nI_add i 1) (by decide) rfl (fun ls hl => ?_)
      refine lv_goto (tgt := 32) hx hb dX3_clear_60 (by decide) ?_
      have hl : lv_has ls 4 [(0, .ref x), (1, .int (nI nr)), (2, .ref kl), (3, .int (nI (i + 1)))] := lv_sub hl [1, 2, 3, 0] rfl
      exact ih32 (fun _ _ => .null) _ _ _ _ _ ⟨(i + 1), by omega, hI, hP, hD, hS, hl, by omega⟩
