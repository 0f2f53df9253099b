set_option maxHeartbeats 4000000 in
set_option maxRecDepth 100000 in
theorem w_count (l : Launch) (dC : Nat → ClassId) (dI : Nat → Nat → Nat) (ad sz : Nat) (x : Nat) (lb : Nat) (lr : Nat) (lk : Nat) (pn : Nat) (pp : Nat) (pq : Nat) (wo : Nat) (re : Nat) (fr : Nat) (n : Int32) (o : Nat) (cJ : ClassId) (f : Nat → Int64) (hlt : l.stackTraces = false) : Met l yL_count wsL_count ({ frames := 7, cells := 1, slots := 6, locals := 103 } : Room) (va_Pc [.ref x, .int n, .ref o] (kc_B (dC, dI) vwCl ad sz [(x, .inr (4, [.ref lb, .ref lr, .ref lk, .ref pn, .ref pp, .ref pq, .int 8, .float FP.fconst1, .float 1031798784, .int 0, .int 1, .int 0, .int 0, .ref wo, .ref re, .ref fr])), (lb, .inr (0, [.int 0, .ref ad, .int 0])), (lr, .inr (0, [.int 0, .ref ad, .int 0])), (o, .inl (cJ, 1, .inr (.inl f)))] [(cJ, .long)])) (va_Qi (fun r u => (kc_count n = 0 ∧ r = 0 ∧ u 0 = 0) ∨ (kc_count n = 1 ∧ r = 1)) (kc_R (S := Nat → Int64) (dC, dI) vwCl (va_A [(x, .inr (4, [.ref lb, .ref lr, .ref lk, .ref pn, .ref pp, .ref pq, .int 8, .float FP.fconst1, .float 1031798784, .int 0, .int 1, .int 0, .int 0, .ref wo, .ref re, .ref fr])), (lb, .inr (0, [.int 0, .ref ad, .int 0])), (lr, .inr (0, [.int 0, .ref ad, .int 0])), (o, .inl (cJ, 1, .inr (.inl f)))] sz) (fun u => [(o, .inl (cJ, 1, .inr (.inl u)))]) (fun _ => [(cJ, .long)])) (va_A [(x, .inr (4, [.ref lb, .ref lr, .ref lk, .ref pn, .ref pp, .ref pq, .int 8, .float FP.fconst1, .float 1031798784, .int 0, .int 1, .int 0, .int 0, .ref wo, .ref re, .ref fr])), (lb, .inr (0, [.int 0, .ref ad, .int 0])), (lr, .inr (0, [.int 0, .ref ad, .int 0])), (o, .inl (cJ, 1, .inr (.inl f)))] sz)) 1 6 (va_A [(x, .inr (4, [.ref lb, .ref lr, .ref lk, .ref pn, .ref pp, .ref pq, .int 8, .float FP.fconst1, .float 1031798784, .int 0, .int 1, .int 0, .int 0, .ref wo, .ref re, .ref fr])), (lb, .inr (0, [.int 0, .ref ad, .int 0])), (lr, .inr (0, [.int 0, .ref ad, .int 0])), (o, .inl (cJ, 1, .inr (.inl f)))] sz) := by
  refine va_MetW (cc := cL_count) (maxL := 4) (ret := (some .int)) (by decide) rfl ?_
  intro p e s m args below meth c s₁ B hml hv
  obtain ⟨rfl, hsz, hP, hK, hD0, hE⟩ := hv
  have hx := B.exec
  have hb := B.bytes
  have hr := B.returns
  have hts := atoms_spec (ws := wsL_count) B.pre
  have hown : s.vm.findClass RL = some m.cls := findClass_of_methodNamed B.named
  have hlocks := B.notSynchronized
  have htab : c.exceptionTable.toList = tableOf [(0, 9, 12, 21)] := vx_table (x := yL_count) B (hts _ List.mem_cons_self)
  subst hsz
  have hD := hD0.self (sz := s.heap.size)
  generalize hAe : va_A [(x, .inr (4, [.ref lb, .ref lr, .ref lk, .ref pn, .ref pp, .ref pq, .int 8, .float FP.fconst1, .float 1031798784, .int 0, .int 1, .int 0, .int 0, .ref wo, .ref re, .ref fr])), (lb, .inr (0, [.int 0, .ref ad, .int 0])), (lr, .inr (0, [.int 0, .ref ad, .int 0])), (o, .inl (cJ, 1, .inr (.inl f)))] s.heap.size = A at hD hE ⊢
  have hA : ∀ q : Nat, s.heap.size ≤ q → A q := fun q h => by rw [← hAe]; exact Or.inr h
  have hS : va_S A s.heap s.heap [] := va_S.rf
  have hP : va_P (dC, dI) vwCl [(x, .inr (4, [.ref lb, .ref lr, .ref lk, .ref pn, .ref pp, .ref pq, .int 8, .float FP.fconst1, .float 1031798784, .int 0, .int 1, .int 0, .int 0, .ref wo, .ref re, .ref fr])), (lb, .inr (0, [.int 0, .ref ad, .int 0])), (lr, .inr (0, [.int 0, .ref ad, .int 0])), (o, .inl (cJ, 1, .inr (.inl f)))] s.heap := hP
  have hl := lv_entry ([.ref x, .int n, .ref o]) (n := 4) (Nat.le_of_ble_eq_true rfl)
  rw [lg_entry_eq]
  generalize (lg_sl ([.ref x, .int n, .ref o]) ++ List.replicate (4 - (lg_sl ([.ref x, .int n, .ref o])).length) Slot.unset).toArray = ls at hl ⊢
  have hl : lv_has ls 4 [(0, .ref x), (1, .int n), (2, .ref o)] := hl
  refine lv_aload_n hx hb dL_count_0 rfl (lv_at hl 2 rfl) ?_
  refine lv_iconst (v := 0) hx hb dL_count_1 (by decide) ?_
  refine lv_aload_n hx hb dL_count_2 rfl (lv_at hl 0 rfl) ?_
  refine lv_iload_n hx hb dL_count_3 rfl (lv_at hl 1 rfl) ?_
  refine kc_xi (wc := [(x, .inr (4, [.ref lb, .ref lr, .ref lk, .ref pn, .ref pp, .ref pq, .int 8, .float FP.fconst1, .float 1031798784, .int 0, .int 1, .int 0, .int 0, .ref wo, .ref re, .ref fr])), (lb, .inr (0, [.int 0, .ref ad, .int 0])), (lr, .inr (0, [.int 0, .ref ad, .int 0]))]) (wr := [(o, .inl (cJ, 1, .inr (.inl f)))]) (tyr := [(cJ, .long)]) (vx_runV (As := [.int n]) (rest := [.int 0, .ref o]) ⟨hx, hb, hml, hown, hts⟩ (c_count l dC dI ad _ x lb lr lk pn pp pq wo re fr n hlt) (cwV 1 hts gL_count_X3_count rfl rfl rfl (by decide +kernel) ⟨Nat.le_of_ble_eq_true rfl, Nat.le_of_ble_eq_true rfl⟩) (kc_preV hP hD hK hS hA hE [0, 1, 2] rfl (by decide) [] rfl 0 rfl rfl) rfl rfl hl.1 rfl (lv_room (Nat.le_of_ble_eq_true rfl)) dL_count_4 ⟨Nat.le_of_ble_eq_true rfl, Nat.le_of_ble_eq_true rfl⟩) hP hD hK hS hA [0, 1, 2] [3] rfl rfl (by decide) (by decide) [0] rfl (fun E ce q9 H locs hEX hP hD hS hce hcv hcl => ?_) (fun r_1 u H locs hw hP hD hK hS => ?_)
  · obtain ⟨rfl, k_3⟩ := hEX
    refine vx_catch (name := "java/lang/IndexOutOfBoundsException") hown [] ⟨0, 9, 12, 21⟩ [] (by rw [htab]; rfl) (fun z hz => by cases hz) (by decide) (by decide) (hts (.classLink RL 21 "java/lang/IndexOutOfBoundsException") (by decide +kernel)) (hE.cast "java/lang/IndexOutOfBoundsException" (by decide +kernel)) hce hcv hcl ?_
    refine W.eq (g2 := F0 m 12 ls [.ref q9]) rfl ?_
    refine lv_astore_n (lv' := [(3, .ref q9), (0, .ref x), (1, .int n), (2, .ref o)]) hx hb dL_count_12 rfl hl (by decide) rfl (fun ls hl => ?_)
    refine lv_iconst (v := 1) hx hb dL_count_13 (by decide) ?_
    refine W.widen (k := 1) (n := 6) (Nat.le_of_ble_eq_true rfl) (Nat.le_of_ble_eq_true rfl) ?_
    have hP9 := hP.sub (ws' := [(o, .inl (cJ, 1, .inr (.inl f)))]) [0] rfl
    have hD9 := hD.sub (ws' := [(o, .inl (cJ, 1, .inr (.inl f)))]) [0] (by decide) rfl
    have hK9 := hK.sub (tys' := [(cJ, .long)]) [0] rfl
    exact W.iret (v := 1) hx hb hr (fun t ht hW => ⟨⟨1, f, rfl, Or.inr (⟨k_3, rfl⟩), by rw [ht]; exact hP9, va_K.moved hW.alike hK9, hD9⟩, hS.F ht⟩) hS.2.2 dL_count_14
  · have hP : va_P (dC, dI) vwCl [(o, .inl (cJ, 1, .inr (.inl f)))] H := hP
    have hD : va_D A [(o, .inl (cJ, 1, .inr (.inl f)))] := hD
    have hK : va_K (dC, dI) vwCl [(cJ, .long)] s := hK.sub [0] rfl
    obtain ⟨k_4, rfl⟩ := hw
    refine lv_i2l (v := 0) hx hb dL_count_7 (by decide) ?_
    refine va_last hx hb hK hP hD hS 0 0 rfl rfl (i := 0) (x := 0) (by unfold vp_in; decide) dL_count_8 (fun H locs hP hD hS => ?_)
    have hP : va_P (dC, dI) vwCl [(o, .inl (cJ, 1, .inr (.inl (vp_updL f (0 : Int32).toNatClampNeg 0))))] H := hP
    have hD : va_D A [(o, .inl (cJ, 1, .inr (.inl (vp_updL f (0 : Int32).toNatClampNeg 0))))] := hD
    generalize hff_6 : vp_updL f (0 : Int32).toNatClampNeg 0 = f_6 at hP hD
    refine lv_goto (tgt := 15) hx hb dL_count_9 (by decide) ?_
    refine lv_iconst (v := 0) hx hb dL_count_15 (by decide) ?_
    refine W.widen (k := 1) (n := 6) (Nat.le_of_ble_eq_true rfl) (Nat.le_of_ble_eq_true rfl) ?_
    have hP9 := hP.sub (ws' := [(o, .inl (cJ, 1, .inr (.inl f_6)))]) [0] rfl
    have hD9 := hD.sub (ws' := [(o, .inl (cJ, 1, .inr (.inl f_6)))]) [0] (by decide) rfl
    have hK9 := hK.sub (tys' := [(cJ, .long)]) [0] rfl
    exact W.iret (v := 0) hx hb hr (fun t ht hW => ⟨⟨0, f_6, rfl, Or.inl ⟨k_4, rfl, by first | rfl | (rw [← hff_6]; rfl)⟩, by rw [ht]; exact hP9, va_K.moved hW.alike hK9, hD9⟩, hS.F ht⟩) hS.2.2 dL_count_16
set_option maxHeartbeats 4000000 in
set_option maxRecDepth 100000 in
theorem w_vector (l : Launch) (dC : Nat → ClassId) (dI : Nat → Nat → Nat) (ad sz : Nat) (x : Nat) (lb : Nat) (lr : Nat) (lk : Nat) (pn : Nat) (pp : Nat) (pq : Nat) (stp : Int32) (wo : Nat) (re : Nat) (fr : Nat) (n : Int32) (a : UInt32) (b : UInt32) (c3 : UInt32) (hlt : l.stackTraces = false) : Met l yL_vector wsL_vector ({ frames := 7, cells := 1, slots := 6, locals := 107 } : Room) (va_Pc [.ref x, .int n, .float a, .float b, .float c3] (kc_B (dC, dI) vwCl ad sz [(x, .inr (4, [.ref lb, .ref lr, .ref lk, .ref pn, .ref pp, .ref pq, .int 8, .float FP.fconst1, .float 1031798784, .int 0, .int 1, .int stp, .int 0, .ref wo, .ref re, .ref fr])), (pn, .inr (3, [.float 0, .float 0, .float 0])), (pp, .inr (3, [.float 0, .float 0, .float 0])), (pq, .inr (3, [.float 0, .float 0, .float 0]))] [])) (va_Qi (fun r u => (kc_vector n a b c3 = 0 ∧ r = 0) ∨ (kc_vector n a b c3 = 1 ∧ r = 1) ∨ (kc_vector n a b c3 = 2 ∧ r = 2)) (kc_R (S := Unit) (dC, dI) vwCl (va_A [(x, .inr (4, [.ref lb, .ref lr, .ref lk, .ref pn, .ref pp, .ref pq, .int 8, .float FP.fconst1, .float 1031798784, .int 0, .int 1, .int stp, .int 0, .ref wo, .ref re, .ref fr])), (pn, .inr (3, [.float 0, .float 0, .float 0])), (pp, .inr (3, [.float 0, .float 0, .float 0])), (pq, .inr (3, [.float 0, .float 0, .float 0]))] sz) (fun _ => []) (fun _ => [])) (va_A [(x, .inr (4, [.ref lb, .ref lr, .ref lk, .ref pn, .ref pp, .ref pq, .int 8, .float FP.fconst1, .float 1031798784, .int 0, .int 1, .int stp, .int 0, .ref wo, .ref re, .ref fr])), (pn, .inr (3, [.float 0, .float 0, .float 0])), (pp, .inr (3, [.float 0, .float 0, .float 0])), (pq, .inr (3, [.float 0, .float 0, .float 0]))] sz)) 1 6 (va_A [(x, .inr (4, [.ref lb, .ref lr, .ref lk, .ref pn, .ref pp, .ref pq, .int 8, .float FP.fconst1, .float 1031798784, .int 0, .int 1, .int stp, .int 0, .ref wo, .ref re, .ref fr])), (pn, .inr (3, [.float 0, .float 0, .float 0])), (pp, .inr (3, [.float 0, .float 0, .float 0])), (pq, .inr (3, [.float 0, .float 0, .float 0]))] sz) := by
  refine va_MetW (cc := cL_vector) (maxL := 6) (ret := (some .int)) (by decide) rfl ?_
  intro p e s m args below meth c s₁ B hml hv
  obtain ⟨rfl, hsz, hP, hK, hD0, hE⟩ := hv
  have hx := B.exec
  have hb := B.bytes
  have hr := B.returns
  have hts := atoms_spec (ws := wsL_vector) B.pre
  have hown : s.vm.findClass RL = some m.cls := findClass_of_methodNamed B.named
  have hlocks := B.notSynchronized
  have htab : c.exceptionTable.toList = tableOf [(0, 9, 12, 21), (0, 9, 16, 13)] := vx_table (x := yL_vector) B (hts _ List.mem_cons_self)
  subst hsz
  have hD := hD0.self (sz := s.heap.size)
  generalize hAe : va_A [(x, .inr (4, [.ref lb, .ref lr, .ref lk, .ref pn, .ref pp, .ref pq, .int 8, .float FP.fconst1, .float 1031798784, .int 0, .int 1, .int stp, .int 0, .ref wo, .ref re, .ref fr])), (pn, .inr (3, [.float 0, .float 0, .float 0])), (pp, .inr (3, [.float 0, .float 0, .float 0])), (pq, .inr (3, [.float 0, .float 0, .float 0]))] s.heap.size = A at hD hE ⊢
  have hA : ∀ q : Nat, s.heap.size ≤ q → A q := fun q h => by rw [← hAe]; exact Or.inr h
  have hS : va_S A s.heap s.heap [] := va_S.rf
  have hP : va_P (dC, dI) vwCl [(x, .inr (4, [.ref lb, .ref lr, .ref lk, .ref pn, .ref pp, .ref pq, .int 8, .float FP.fconst1, .float 1031798784, .int 0, .int 1, .int stp, .int 0, .ref wo, .ref re, .ref fr])), (pn, .inr (3, [.float 0, .float 0, .float 0])), (pp, .inr (3, [.float 0, .float 0, .float 0])), (pq, .inr (3, [.float 0, .float 0, .float 0]))] s.heap := hP
  have hl := lv_entry ([.ref x, .int n, .float a, .float b, .float c3]) (n := 6) (Nat.le_of_ble_eq_true rfl)
  rw [lg_entry_eq]
  generalize (lg_sl ([.ref x, .int n, .float a, .float b, .float c3]) ++ List.replicate (6 - (lg_sl ([.ref x, .int n, .float a, .float b, .float c3])).length) Slot.unset).toArray = ls at hl ⊢
  have hl : lv_has ls 6 [(0, .ref x), (1, .int n), (2, .float a), (3, .float b), (4, .float c3)] := hl
  refine lv_aload_n hx hb dL_vector_0 rfl (lv_at hl 0 rfl) ?_
  refine lv_iload_n hx hb dL_vector_1 rfl (lv_at hl 1 rfl) ?_
  refine lv_fload_n hx hb dL_vector_2 rfl (lv_at hl 2 rfl) ?_
  refine lv_fload_n hx hb dL_vector_3 rfl (lv_at hl 3 rfl) ?_
  refine lv_fload hx hb dL_vector_4 (lv_at hl 4 rfl) ?_
  refine kc_xv (wc := [(x, .inr (4, [.ref lb, .ref lr, .ref lk, .ref pn, .ref pp, .ref pq, .int 8, .float FP.fconst1, .float 1031798784, .int 0, .int 1, .int stp, .int 0, .ref wo, .ref re, .ref fr])), (pn, .inr (3, [.float 0, .float 0, .float 0])), (pp, .inr (3, [.float 0, .float 0, .float 0])), (pq, .inr (3, [.float 0, .float 0, .float 0]))]) (wr := []) (tyr := []) (vx_runV (As := [.int n, .float a, .float b, .float c3]) (rest := []) ⟨hx, hb, hml, hown, hts⟩ (c_vector l dC dI ad _ x lb lr lk pn pp pq stp wo re fr n a b c3 hlt) (cwV 4 hts gL_vector_X3_vector rfl rfl rfl (by decide +kernel) ⟨Nat.le_of_ble_eq_true rfl, Nat.le_of_ble_eq_true rfl⟩) (kc_preV hP hD hK hS hA hE [0, 1, 2, 3] rfl (by decide) [] rfl 0 rfl rfl) rfl rfl hl.1 rfl (lv_room (Nat.le_of_ble_eq_true rfl)) dL_vector_6 ⟨Nat.le_of_ble_eq_true rfl, Nat.le_of_ble_eq_true rfl⟩) hP hD hK hS hA [0, 1, 2, 3] [] rfl rfl (by decide) (by decide) [] rfl (fun E ce q9 H locs hEX hP hD hS hce hcv hcl => ?_) (fun u H locs hw hP hD hK hS => ?_)
  · rcases hEX with ⟨rfl, k_2⟩ | ⟨rfl, k_2⟩
    · refine vx_catch (name := "java/lang/IndexOutOfBoundsException") hown [] ⟨0, 9, 12, 21⟩ [⟨0, 9, 16, 13⟩] (by rw [htab]; rfl) (fun z hz => by cases hz) (by decide) (by decide) (hts (.classLink RL 21 "java/lang/IndexOutOfBoundsException") (by decide +kernel)) (hE.cast "java/lang/IndexOutOfBoundsException" (by decide +kernel)) hce hcv hcl ?_
      refine W.eq (g2 := F0 m 12 ls [.ref q9]) rfl ?_
      refine lv_astore (lv' := [(5, .ref q9), (0, .ref x), (1, .int n), (2, .float a), (3, .float b), (4, .float c3)]) hx hb dL_vector_12 hl (by decide) rfl (fun ls hl => ?_)
      refine lv_iconst (v := 1) hx hb dL_vector_14 (by decide) ?_
      refine W.widen (k := 1) (n := 6) (Nat.le_of_ble_eq_true rfl) (Nat.le_of_ble_eq_true rfl) ?_
      have hP9 := hP.sub (ws' := []) [] rfl
      have hD9 := hD.sub (ws' := []) [] (by decide) rfl
      have hK9 := hK.sub (tys' := []) [] rfl
      exact W.iret (v := 1) hx hb hr (fun t ht hW => ⟨⟨1, (), rfl, Or.inr (Or.inl ⟨k_2, rfl⟩), by rw [ht]; exact hP9, va_K.moved hW.alike hK9, hD9⟩, hS.F ht⟩) hS.2.2 dL_vector_15
    · refine vx_catch (name := "java/lang/IllegalArgumentException") hown [⟨0, 9, 12, 21⟩] ⟨0, 9, 16, 13⟩ [] (by rw [htab]; rfl) (fun z hz => by
        simp only [List.mem_cons, List.not_mem_nil, or_false] at hz
        rcases hz with rfl
        · exact Or.inr ⟨by decide, "java/lang/IndexOutOfBoundsException", (hts (.classLink RL 21 "java/lang/IndexOutOfBoundsException") (by decide +kernel)), hE.nocast "java/lang/IllegalArgumentException" "java/lang/IndexOutOfBoundsException" (by decide +kernel)⟩) (by decide) (by decide) (hts (.classLink RL 13 "java/lang/IllegalArgumentException") (by decide +kernel)) (hE.cast "java/lang/IllegalArgumentException" (by decide +kernel)) hce hcv hcl ?_
      refine W.eq (g2 := F0 m 16 ls [.ref q9]) rfl ?_
      refine lv_astore (lv' := [(5, .ref q9), (0, .ref x), (1, .int n), (2, .float a), (3, .float b), (4, .float c3)]) hx hb dL_vector_16 hl (by decide) rfl (fun ls hl => ?_)
      refine lv_iconst (v := 2) hx hb dL_vector_18 (by decide) ?_
      refine W.widen (k := 1) (n := 6) (Nat.le_of_ble_eq_true rfl) (Nat.le_of_ble_eq_true rfl) ?_
      have hP9 := hP.sub (ws' := []) [] rfl
      have hD9 := hD.sub (ws' := []) [] (by decide) rfl
      have hK9 := hK.sub (tys' := []) [] rfl
      exact W.iret (v := 2) hx hb hr (fun t ht hW => ⟨⟨2, (), rfl, Or.inr (Or.inr (⟨k_2, rfl⟩)), by rw [ht]; exact hP9, va_K.moved hW.alike hK9, hD9⟩, hS.F ht⟩) hS.2.2 dL_vector_19
  · have hP : va_P (dC, dI) vwCl [] H := hP
    have hD : va_D A [] := hD
    have hK : va_K (dC, dI) vwCl [] s := hK.sub [] rfl
    have k_3 := hw
    refine lv_goto (tgt := 20) hx hb dL_vector_9 (by decide) ?_
    refine lv_iconst (v := 0) hx hb dL_vector_20 (by decide) ?_
    refine W.widen (k := 1) (n := 6) (Nat.le_of_ble_eq_true rfl) (Nat.le_of_ble_eq_true rfl) ?_
    have hP9 := hP.sub (ws' := []) [] rfl
    have hD9 := hD.sub (ws' := []) [] (by decide) rfl
    have hK9 := hK.sub (tys' := []) [] rfl
    exact W.iret (v := 0) hx hb hr (fun t ht hW => ⟨⟨0, (), rfl, Or.inl ⟨k_3, rfl⟩, by rw [ht]; exact hP9, va_K.moved hW.alike hK9, hD9⟩, hS.F ht⟩) hS.2.2 dL_vector_21
set_option maxHeartbeats 4000000 in
set_option maxRecDepth 100000 in
theorem w_step (l : Launch) (dC : Nat → ClassId) (dI : Nat → Nat → Nat) (ad sz : Nat) (x : Nat) (lb : Nat) (lr : Nat) (lk : Nat) (pn : Nat) (pp : Nat) (pq : Nat) (wo : Nat) (re : Nat) (fr : Nat) (cR : ClassId) (n : Int32) (o : Nat) (cJ : ClassId) (f : Nat → Int64) (hlt : l.stackTraces = false) : Met l yL_step wsL_step ({ frames := 7, cells := 1, slots := 6, locals := 104 } : Room) (va_Pc [.ref x, .int n, .ref o] (kc_B (dC, dI) vwCl ad sz [(x, .inr (4, [.ref lb, .ref lr, .ref lk, .ref pn, .ref pp, .ref pq, .int 8, .float FP.fconst1, .float 1031798784, .int 0, .int 1, .int 0, .int 0, .ref wo, .ref re, .ref fr])), (lb, .inr (0, [.int 0, .ref ad, .int 0])), (lr, .inr (0, [.int 0, .ref ad, .int 0])), (fr, .inl (cR, 8, .inr (.inr (.inr (.inr (fun _ => none)))))), (o, .inl (cJ, 1, .inr (.inl f)))] [(cR, .object "IslandSolver$Row"), (cJ, .long)])) (va_Qi (fun r u => (kc_step n = 0 ∧ r = 0 ∧ u 0 = 0) ∨ (kc_step n = 1 ∧ r = 1)) (kc_R (S := Nat → Int64) (dC, dI) vwCl (va_A [(x, .inr (4, [.ref lb, .ref lr, .ref lk, .ref pn, .ref pp, .ref pq, .int 8, .float FP.fconst1, .float 1031798784, .int 0, .int 1, .int 0, .int 0, .ref wo, .ref re, .ref fr])), (lb, .inr (0, [.int 0, .ref ad, .int 0])), (lr, .inr (0, [.int 0, .ref ad, .int 0])), (fr, .inl (cR, 8, .inr (.inr (.inr (.inr (fun _ => none)))))), (o, .inl (cJ, 1, .inr (.inl f)))] sz) (fun u => [(o, .inl (cJ, 1, .inr (.inl u)))]) (fun _ => [(cJ, .long)])) (va_A [(x, .inr (4, [.ref lb, .ref lr, .ref lk, .ref pn, .ref pp, .ref pq, .int 8, .float FP.fconst1, .float 1031798784, .int 0, .int 1, .int 0, .int 0, .ref wo, .ref re, .ref fr])), (lb, .inr (0, [.int 0, .ref ad, .int 0])), (lr, .inr (0, [.int 0, .ref ad, .int 0])), (fr, .inl (cR, 8, .inr (.inr (.inr (.inr (fun _ => none)))))), (o, .inl (cJ, 1, .inr (.inl f)))] sz)) 1 6 (va_A [(x, .inr (4, [.ref lb, .ref lr, .ref lk, .ref pn, .ref pp, .ref pq, .int 8, .float FP.fconst1, .float 1031798784, .int 0, .int 1, .int 0, .int 0, .ref wo, .ref re, .ref fr])), (lb, .inr (0, [.int 0, .ref ad, .int 0])), (lr, .inr (0, [.int 0, .ref ad, .int 0])), (fr, .inl (cR, 8, .inr (.inr (.inr (.inr (fun _ => none)))))), (o, .inl (cJ, 1, .inr (.inl f)))] sz) := by
  refine va_MetW (cc := cL_step) (maxL := 4) (ret := (some .int)) (by decide) rfl ?_
  intro p e s m args below meth c s₁ B hml hv
  obtain ⟨rfl, hsz, hP, hK, hD0, hE⟩ := hv
  have hx := B.exec
  have hb := B.bytes
  have hr := B.returns
  have hts := atoms_spec (ws := wsL_step) B.pre
  have hown : s.vm.findClass RL = some m.cls := findClass_of_methodNamed B.named
  have hlocks := B.notSynchronized
  have htab : c.exceptionTable.toList = tableOf [(0, 9, 12, 13)] := vx_table (x := yL_step) B (hts _ List.mem_cons_self)
  subst hsz
  have hD := hD0.self (sz := s.heap.size)
  generalize hAe : va_A [(x, .inr (4, [.ref lb, .ref lr, .ref lk, .ref pn, .ref pp, .ref pq, .int 8, .float FP.fconst1, .float 1031798784, .int 0, .int 1, .int 0, .int 0, .ref wo, .ref re, .ref fr])), (lb, .inr (0, [.int 0, .ref ad, .int 0])), (lr, .inr (0, [.int 0, .ref ad, .int 0])), (fr, .inl (cR, 8, .inr (.inr (.inr (.inr (fun _ => none)))))), (o, .inl (cJ, 1, .inr (.inl f)))] s.heap.size = A at hD hE ⊢
  have hA : ∀ q : Nat, s.heap.size ≤ q → A q := fun q h => by rw [← hAe]; exact Or.inr h
  have hS : va_S A s.heap s.heap [] := va_S.rf
  have hP : va_P (dC, dI) vwCl [(x, .inr (4, [.ref lb, .ref lr, .ref lk, .ref pn, .ref pp, .ref pq, .int 8, .float FP.fconst1, .float 1031798784, .int 0, .int 1, .int 0, .int 0, .ref wo, .ref re, .ref fr])), (lb, .inr (0, [.int 0, .ref ad, .int 0])), (lr, .inr (0, [.int 0, .ref ad, .int 0])), (fr, .inl (cR, 8, .inr (.inr (.inr (.inr (fun _ => none)))))), (o, .inl (cJ, 1, .inr (.inl f)))] s.heap := hP
  have hl := lv_entry ([.ref x, .int n, .ref o]) (n := 4) (Nat.le_of_ble_eq_true rfl)
  rw [lg_entry_eq]
  generalize (lg_sl ([.ref x, .int n, .ref o]) ++ List.replicate (4 - (lg_sl ([.ref x, .int n, .ref o])).length) Slot.unset).toArray = ls at hl ⊢
  have hl : lv_has ls 4 [(0, .ref x), (1, .int n), (2, .ref o)] := hl
  refine lv_aload_n hx hb dL_step_0 rfl (lv_at hl 2 rfl) ?_
  refine lv_iconst (v := 0) hx hb dL_step_1 (by decide) ?_
  refine lv_aload_n hx hb dL_step_2 rfl (lv_at hl 0 rfl) ?_
  refine lv_iload_n hx hb dL_step_3 rfl (lv_at hl 1 rfl) ?_
  refine kc_xi (wc := [(x, .inr (4, [.ref lb, .ref lr, .ref lk, .ref pn, .ref pp, .ref pq, .int 8, .float FP.fconst1, .float 1031798784, .int 0, .int 1, .int 0, .int 0, .ref wo, .ref re, .ref fr])), (lb, .inr (0, [.int 0, .ref ad, .int 0])), (lr, .inr (0, [.int 0, .ref ad, .int 0])), (fr, .inl (cR, 8, .inr (.inr (.inr (.inr (fun _ => none))))))]) (wr := [(o, .inl (cJ, 1, .inr (.inl f)))]) (tyr := [(cR, .object "IslandSolver$Row"), (cJ, .long)]) (vx_runV (As := [.int n]) (rest := [.int 0, .ref o]) ⟨hx, hb, hml, hown, hts⟩ (c_step l dC dI ad _ x lb lr lk pn pp pq wo re fr cR n hlt) (cwV 1 hts gL_step_X3_step rfl rfl rfl (by decide +kernel) ⟨Nat.le_of_ble_eq_true rfl, Nat.le_of_ble_eq_true rfl⟩) (kc_preV hP hD hK hS hA hE [0, 1, 2, 3] rfl (by decide) [0] rfl 0 rfl rfl) rfl rfl hl.1 rfl (lv_room (Nat.le_of_ble_eq_true rfl)) dL_step_4 ⟨Nat.le_of_ble_eq_true rfl, Nat.le_of_ble_eq_true rfl⟩) hP hD hK hS hA [0, 1, 2, 3] [4] rfl rfl (by decide) (by decide) [0, 1] rfl (fun E ce q9 H locs hEX hP hD hS hce hcv hcl => ?_) (fun r_1 u H locs hw hP hD hK hS => ?_)
  · obtain ⟨rfl, k_3⟩ := hEX
    refine vx_catch (name := "java/lang/IllegalArgumentException") hown [] ⟨0, 9, 12, 13⟩ [] (by rw [htab]; rfl) (fun z hz => by cases hz) (by decide) (by decide) (hts (.classLink RL 13 "java/lang/IllegalArgumentException") (by decide +kernel)) (hE.cast "java/lang/IllegalArgumentException" (by decide +kernel)) hce hcv hcl ?_
    refine W.eq (g2 := F0 m 12 ls [.ref q9]) rfl ?_
    refine lv_astore_n (lv' := [(3, .ref q9), (0, .ref x), (1, .int n), (2, .ref o)]) hx hb dL_step_12 rfl hl (by decide) rfl (fun ls hl => ?_)
    refine lv_iconst (v := 1) hx hb dL_step_13 (by decide) ?_
    refine W.widen (k := 1) (n := 6) (Nat.le_of_ble_eq_true rfl) (Nat.le_of_ble_eq_true rfl) ?_
    have hP9 := hP.sub (ws' := [(o, .inl (cJ, 1, .inr (.inl f)))]) [0] rfl
    have hD9 := hD.sub (ws' := [(o, .inl (cJ, 1, .inr (.inl f)))]) [0] (by decide) rfl
    have hK9 := hK.sub (tys' := [(cJ, .long)]) [1] rfl
    exact W.iret (v := 1) hx hb hr (fun t ht hW => ⟨⟨1, f, rfl, Or.inr (⟨k_3, rfl⟩), by rw [ht]; exact hP9, va_K.moved hW.alike hK9, hD9⟩, hS.F ht⟩) hS.2.2 dL_step_14
  · have hP : va_P (dC, dI) vwCl [(o, .inl (cJ, 1, .inr (.inl f)))] H := hP
    have hD : va_D A [(o, .inl (cJ, 1, .inr (.inl f)))] := hD
    have hK : va_K (dC, dI) vwCl [(cR, .object "IslandSolver$Row"), (cJ, .long)] s := hK.sub [0, 1] rfl
    obtain ⟨k_4, rfl⟩ := hw
    refine lv_i2l (v := 0) hx hb dL_step_7 (by decide) ?_
    refine va_last hx hb hK hP hD hS 0 1 rfl rfl (i := 0) (x := 0) (by unfold vp_in; decide) dL_step_8 (fun H locs hP hD hS => ?_)
    have hP : va_P (dC, dI) vwCl [(o, .inl (cJ, 1, .inr (.inl (vp_updL f (0 : Int32).toNatClampNeg 0))))] H := hP
    have hD : va_D A [(o, .inl (cJ, 1, .inr (.inl (vp_updL f (0 : Int32).toNatClampNeg 0))))] := hD
    generalize hff_6 : vp_updL f (0 : Int32).toNatClampNeg 0 = f_6 at hP hD
    refine lv_goto (tgt := 15) hx hb dL_step_9 (by decide) ?_
    refine lv_iconst (v := 0) hx hb dL_step_15 (by decide) ?_
    refine W.widen (k := 1) (n := 6) (Nat.le_of_ble_eq_true rfl) (Nat.le_of_ble_eq_true rfl) ?_
    have hP9 := hP.sub (ws' := [(o, .inl (cJ, 1, .inr (.inl f_6)))]) [0] rfl
    have hD9 := hD.sub (ws' := [(o, .inl (cJ, 1, .inr (.inl f_6)))]) [0] (by decide) rfl
    have hK9 := hK.sub (tys' := [(cJ, .long)]) [1] rfl
    exact W.iret (v := 0) hx hb hr (fun t ht hW => ⟨⟨0, f_6, rfl, Or.inl ⟨k_4, rfl, by first | rfl | (rw [← hff_6]; rfl)⟩, by rw [ht]; exact hP9, va_K.moved hW.alike hK9, hD9⟩, hS.F ht⟩) hS.2.2 dL_step_16
