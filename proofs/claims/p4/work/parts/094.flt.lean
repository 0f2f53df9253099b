theorem kf_half {n m A : Nat} {s : Bool} {e : Int} (hn : Jvm.FP.Core.decode Jvm.FP.Core.b32 n = Jvm.FP.Core.roundRatio Jvm.FP.Core.b32 s A 1 e) (h0e : Jvm.FP.Core.b32.qmin ≤ e) (hm : m + 1 < 2139095040)
    (h : 2 * Jvm.FP.Core.inUnits A e Jvm.FP.Core.b32.qmin < Jvm.FP.Core.unitsOf Jvm.FP.Core.b32 m + Jvm.FP.Core.unitsOf Jvm.FP.Core.b32 (m + 1)) : Jvm.FP.Core.mag Jvm.FP.Core.b32 n ≤ m := by
  have hi : Jvm.FP.Core.infBits Jvm.FP.Core.b32 = 2139095040 := by decide +kernel
  have hmm : Jvm.FP.Core.unitsOf Jvm.FP.Core.b32 m ≤ Jvm.FP.Core.unitsOf Jvm.FP.Core.b32 (m + 1) := Jvm.FP.Core.unitsOf_le_iff.mpr (Nat.le_succ m)
  have hle : Jvm.FP.Core.mag Jvm.FP.Core.b32 n ≤ m + 1 := by
    refine Jvm.FP.Core.mag_le (s := s) (A := A) (B := 1) (e := e) Jvm.FP.Core.good_b32 hn (by decide) (e0 := Jvm.FP.Core.b32.qmin) (Int.le_refl _) h0e ?_
    rw [Int.sub_self, Int.toNat_zero, Nat.pow_zero, Nat.mul_one, Nat.mul_one]
    omega
  refine Nat.le_of_not_lt fun hlt => ?_
  have hk : Jvm.FP.Core.mag Jvm.FP.Core.b32 n = m + 1 := by omega
  obtain ⟨s1, c, q, g1, g2, g3⟩ := Jvm.FP.Core.fin_of_mag Jvm.FP.Core.good_b32 (n := n) (by rw [hk, hi]; exact hm)
  have hml : Jvm.FP.Core.mag Jvm.FP.Core.b32 m = m := Jvm.FP.Core.mag_of_lt (by rw [Jvm.FP.Core.half_b32]; omega)
  obtain ⟨s2, c2, q2, v1, v2, v3⟩ := Jvm.FP.Core.fin_of_mag Jvm.FP.Core.good_b32 (n := m) (by rw [hml, hi]; omega)
  have hR : Jvm.FP.Core.roundRatio Jvm.FP.Core.b32 s A 1 e = .fin s1 c q := hn.symm.trans g1
  have hd := Jvm.FP.Core.roundRatio_nearest Jvm.FP.Core.good_b32 (e0 := Jvm.FP.Core.b32.qmin) (by decide) hR v2.1 v2.2.1 (Int.le_refl _) h0e
  unfold Jvm.FP.Core.distance at hd
  rw [hk] at g3
  rw [hml] at v3
  have z1 : Jvm.FP.Core.inUnits c q Jvm.FP.Core.b32.qmin = Jvm.FP.Core.unitsOf Jvm.FP.Core.b32 (m + 1) := g3
  have z2 : Jvm.FP.Core.inUnits c2 q2 Jvm.FP.Core.b32.qmin = Jvm.FP.Core.unitsOf Jvm.FP.Core.b32 m := v3
  have hlt2 : Jvm.FP.Core.unitsOf Jvm.FP.Core.b32 m < Jvm.FP.Core.unitsOf Jvm.FP.Core.b32 (m + 1) := Jvm.FP.Core.unitsOf_lt_iff.mpr (Nat.lt_succ_self m)
  rw [z1, z2] at hd
  generalize Jvm.FP.Core.unitsOf Jvm.FP.Core.b32 (m + 1) = u1 at *
  generalize Jvm.FP.Core.unitsOf Jvm.FP.Core.b32 m = u0 at *
  generalize Jvm.FP.Core.inUnits A e Jvm.FP.Core.b32.qmin = x at *
  simp only [Int.ofNat_one, Int.mul_one] at hd
  omega
theorem kf_sumle {s t : Bool} {c d v : Nat} {q r e : Int} {sg : Bool} {A B : Nat} (p3 : Jvm.FP.Core.signed sg (Jvm.FP.Core.inUnits v e Jvm.FP.Core.b32.qmin) = Jvm.FP.Core.zval Jvm.FP.Core.b32 (.fin s c q) + Jvm.FP.Core.zval Jvm.FP.Core.b32 (.fin t d r)) (x3 : Jvm.FP.Core.zmag Jvm.FP.Core.b32 (.fin s c q) ≤ A) (y3 : Jvm.FP.Core.zmag Jvm.FP.Core.b32 (.fin t d r) ≤ B) : Jvm.FP.Core.inUnits v e Jvm.FP.Core.b32.qmin ≤ A + B := by
  have h1 : Jvm.FP.Core.inUnits v e Jvm.FP.Core.b32.qmin ≤ Jvm.FP.Core.zmag Jvm.FP.Core.b32 (.fin s c q) + Jvm.FP.Core.zmag Jvm.FP.Core.b32 (.fin t d r) := by
    have h2 := congrArg Int.natAbs p3
    rw [Jvm.FP.Core.natAbs_signed] at h2
    rw [h2]
    refine Nat.le_trans (Int.natAbs_add_le _ _) ?_
    unfold Jvm.FP.Core.zval
    rw [Jvm.FP.Core.natAbs_signed, Jvm.FP.Core.natAbs_signed]
    exact Nat.le_refl _
  omega
theorem kf_sum {n : UInt32} {s t : Bool} {c d : Nat} {q r : Int} {A B M : Nat} (x2 : Jvm.FP.Core.fits Jvm.FP.Core.b32 (.fin s c q)) (y2 : Jvm.FP.Core.fits Jvm.FP.Core.b32 (.fin t d r)) (x3 : Jvm.FP.Core.zmag Jvm.FP.Core.b32 (.fin s c q) ≤ A) (y3 : Jvm.FP.Core.zmag Jvm.FP.Core.b32 (.fin t d r) ≤ B)
    (hn : Jvm.FP.Core.val32 n = Jvm.FP.Core.round Jvm.FP.Core.b32 (Jvm.FP.Core.exactSum (.fin s c q) (.fin t d r))) (h : A + B ≤ Jvm.FP.Core.unitsOf Jvm.FP.Core.b32 M) : fb M n := by
  obtain ⟨sg, v, e, p1, p2, p3⟩ := Jvm.FP.Core.sum_units x2 y2
  rw [p1] at hn
  have hq : (Jvm.FP.Core.mag Jvm.FP.Core.b32 n.toNat) ≤ M := by
    refine Jvm.FP.Core.mag_le (s := sg) (A := v) (B := 1) (e := e) Jvm.FP.Core.good_b32 hn (by decide) (e0 := Jvm.FP.Core.b32.qmin) (Int.le_refl _) p2 ?_
    rw [Int.sub_self, Int.toNat_zero, Nat.pow_zero, Nat.mul_one, Nat.mul_one]
    exact Nat.le_trans (kf_sumle p3 x3 y3) h
  rw [Jvm.FP.Core.mag_toNat32] at hq
  exact hq
theorem kf_sumS {n : UInt32} {s t : Bool} {c d : Nat} {q r : Int} {A B M : Nat} (x2 : Jvm.FP.Core.fits Jvm.FP.Core.b32 (.fin s c q)) (y2 : Jvm.FP.Core.fits Jvm.FP.Core.b32 (.fin t d r)) (x3 : Jvm.FP.Core.zmag Jvm.FP.Core.b32 (.fin s c q) ≤ A) (y3 : Jvm.FP.Core.zmag Jvm.FP.Core.b32 (.fin t d r) ≤ B)
    (hn : Jvm.FP.Core.val32 n = Jvm.FP.Core.round Jvm.FP.Core.b32 (Jvm.FP.Core.exactSum (.fin s c q) (.fin t d r))) (hM : M + 1 < 2139095040) (h : 2 * (A + B) < Jvm.FP.Core.unitsOf Jvm.FP.Core.b32 M + Jvm.FP.Core.unitsOf Jvm.FP.Core.b32 (M + 1)) : fb M n := by
  obtain ⟨sg, v, e, p1, p2, p3⟩ := Jvm.FP.Core.sum_units x2 y2
  rw [p1] at hn
  have hq : (Jvm.FP.Core.mag Jvm.FP.Core.b32 n.toNat) ≤ M := by
    refine kf_half hn p2 hM ?_
    have := kf_sumle p3 x3 y3
    omega
  rw [Jvm.FP.Core.mag_toNat32] at hq
  exact hq
theorem fb_sub {a b : UInt32} {A B M : Nat} (ha : fb A a) (hb : fb B b) (hA : A < 2139095040) (hB : B < 2139095040) (h : Jvm.FP.Core.unitsOf Jvm.FP.Core.b32 A + Jvm.FP.Core.unitsOf Jvm.FP.Core.b32 B ≤ Jvm.FP.Core.unitsOf Jvm.FP.Core.b32 M) : fb M (FP.fsub a b) := by
  obtain ⟨s, c, q, x1, x2, x3⟩ := fb_fin ha hA
  obtain ⟨t, d, r, y1, y2, y3⟩ := fb_fin hb hB
  have e1 : Jvm.FP.Core.val32 (FP.fsub a b) = Jvm.FP.Core.round Jvm.FP.Core.b32 (Jvm.FP.Core.exactSum (Jvm.FP.Core.val32 a) (Jvm.FP.Core.negate (Jvm.FP.Core.val32 b))) := Jvm.FP.Core.val32_fsub a b
  rw [x1, y1] at e1
  exact kf_sum (t := !t) x2 (Jvm.FP.Core.negate_fits y2) x3 y3 e1 h
theorem fb_satA {a b : UInt32} {M B : Nat} (ha : fb M a) (hb : fb B b) (hM : M + 1 < 2139095040) (hB : B < 2139095040) (h : 2 * (Jvm.FP.Core.unitsOf Jvm.FP.Core.b32 M + Jvm.FP.Core.unitsOf Jvm.FP.Core.b32 B) < Jvm.FP.Core.unitsOf Jvm.FP.Core.b32 M + Jvm.FP.Core.unitsOf Jvm.FP.Core.b32 (M + 1)) : fb M (FP.fadd a b) := by
  obtain ⟨s, c, q, x1, x2, x3⟩ := fb_fin ha (by omega)
  obtain ⟨t, d, r, y1, y2, y3⟩ := fb_fin hb hB
  have e1 : Jvm.FP.Core.val32 (FP.fadd a b) = Jvm.FP.Core.round Jvm.FP.Core.b32 (Jvm.FP.Core.exactSum (Jvm.FP.Core.val32 a) (Jvm.FP.Core.val32 b)) := Jvm.FP.Core.val32_fadd a b
  rw [x1, y1] at e1
  exact kf_sumS x2 y2 x3 y3 e1 hM h
theorem fb_satS {a b : UInt32} {M B : Nat} (ha : fb M a) (hb : fb B b) (hM : M + 1 < 2139095040) (hB : B < 2139095040) (h : 2 * (Jvm.FP.Core.unitsOf Jvm.FP.Core.b32 M + Jvm.FP.Core.unitsOf Jvm.FP.Core.b32 B) < Jvm.FP.Core.unitsOf Jvm.FP.Core.b32 M + Jvm.FP.Core.unitsOf Jvm.FP.Core.b32 (M + 1)) : fb M (FP.fsub a b) := by
  obtain ⟨s, c, q, x1, x2, x3⟩ := fb_fin ha (by omega)
  obtain ⟨t, d, r, y1, y2, y3⟩ := fb_fin hb hB
  have e1 : Jvm.FP.Core.val32 (FP.fsub a b) = Jvm.FP.Core.round Jvm.FP.Core.b32 (Jvm.FP.Core.exactSum (Jvm.FP.Core.val32 a) (Jvm.FP.Core.negate (Jvm.FP.Core.val32 b))) := Jvm.FP.Core.val32_fsub a b
  rw [x1, y1] at e1
  exact kf_sumS (t := !t) x2 (Jvm.FP.Core.negate_fits y2) x3 y3 e1 hM h
theorem fb_neg {M : Nat} {x : UInt32} (h : fb M x) : fb M (FP.fneg x) := by
  unfold fb FP.fneg at *
  rw [UInt32.toNat_xor]
  have e : UInt32.toNat 0x80000000 = 2 ^ 31 := by decide
  rw [e]
  have hx := x.toNat_lt
  have h2 : (x.toNat ^^^ 2 ^ 31) % 2 ^ 31 = x.toNat % 2 ^ 31 := by
    rw [Nat.xor_mod_two_pow]
    simp
  rw [h2]
  exact h
theorem fb_div {a b : UInt32} {A B K L M : Nat} (ha : fb A a) (hb : fb B b) (hl : L * 2 ^ 23 ≤ b.toNat % 2 ^ 31) (hA : A < K * 2 ^ 23) (hB : B < 2139095040) (hK : K ≤ 255) (hL : 1 ≤ L) (hM : (K + 125 - L + 3) * 2 ^ 23 ≤ M) : fb M (FP.fdiv a b) := by
  have h := Jvm.FP.Core.fdiv_mag (a := a) (b := b) (K := K) (L := L) (Nat.lt_of_le_of_lt ha hA) hl (by unfold fb at hb; omega) hK hL
  unfold fb
  have h2 : (FP.fdiv a b).toNat % 2 ^ 31 < (K + (149 - 23 - 1) - L + 3) * 2 ^ 23 := h
  omega
theorem kf_cmp {x y : UInt32} {A B : Nat} (ha : fb A x) (hb : fb B y) (hA : A < 2139095040) (hB : B < 2139095040) : FP.fcmp x y = some (compare (Jvm.FP.Core.zval Jvm.FP.Core.b32 (Jvm.FP.Core.val32 x)) (Jvm.FP.Core.zval Jvm.FP.Core.b32 (Jvm.FP.Core.val32 y))) := by
  have c0 : FP.fcmp x y = Jvm.FP.Core.order (Jvm.FP.Core.val32 x) (Jvm.FP.Core.val32 y) := rfl
  rw [c0]
  obtain ⟨s, c, q, x1, x2, x3⟩ := fb_fin ha hA
  obtain ⟨t, d, r, y1, y2, y3⟩ := fb_fin hb hB
  exact Jvm.FP.Core.order_zval Jvm.FP.Core.good_b32 (Jvm.FP.Core.val32_fits x) (Jvm.FP.Core.val32_fits y) (by rw [x1]; intro h; cases h) (by rw [y1]; intro h; cases h)
theorem kf_nlt {o : Ordering} {op : CmpOp} (h : 0 ≤ Op.cmpValue (some o) op) : o ≠ .lt := by
  intro e
  rw [e] at h
  exact absurd h (by cases op <;> decide)
theorem kf_ngt {o : Ordering} {op : CmpOp} (h : Op.cmpValue (some o) op ≤ 0) : o ≠ .gt := by
  intro e
  rw [e] at h
  exact absurd h (by cases op <;> decide)
theorem kf_abs {M : Nat} {x : UInt32} (h : fb M x) (hM : M < 2139095040) : (Jvm.FP.Core.zval Jvm.FP.Core.b32 (Jvm.FP.Core.val32 x)).natAbs ≤ Jvm.FP.Core.unitsOf Jvm.FP.Core.b32 M := by
  obtain ⟨s, c, q, x1, x2, x3⟩ := fb_fin h hM
  rw [x1]
  unfold Jvm.FP.Core.zval
  rw [Jvm.FP.Core.natAbs_signed]
  exact x3
theorem kf_ofabs {M A : Nat} {x : UInt32} (h0 : fb A x) (hA : A < 2139095040) (h : (Jvm.FP.Core.zval Jvm.FP.Core.b32 (Jvm.FP.Core.val32 x)).natAbs ≤ Jvm.FP.Core.unitsOf Jvm.FP.Core.b32 M) : fb M x := by
  have hm : Jvm.FP.Core.mag Jvm.FP.Core.b32 x.toNat = x.toNat % 2 ^ 31 := Jvm.FP.Core.mag_toNat32 x
  have hi : Jvm.FP.Core.infBits Jvm.FP.Core.b32 = 2139095040 := by decide +kernel
  have hl : Jvm.FP.Core.mag Jvm.FP.Core.b32 x.toNat < Jvm.FP.Core.infBits Jvm.FP.Core.b32 := by rw [hm, hi]; exact Nat.lt_of_le_of_lt h0 hA
  obtain ⟨s, c, q, h1, h2, h3⟩ := Jvm.FP.Core.fin_of_mag Jvm.FP.Core.good_b32 hl
  have h1' : Jvm.FP.Core.val32 x = .fin s c q := h1
  rw [h1'] at h
  unfold Jvm.FP.Core.zval at h
  rw [Jvm.FP.Core.natAbs_signed, h3, hm] at h
  exact Jvm.FP.Core.unitsOf_le_iff.mp h
theorem kf_ge {x lo : UInt32} {op : CmpOp} {A B : Nat} (hx : fb A x) (hlo : fb B lo) (hA : A < 2139095040) (hB : B < 2139095040) (c1 : 0 ≤ Op.cmpValue (FP.fcmp x lo) op) : Jvm.FP.Core.zval Jvm.FP.Core.b32 (Jvm.FP.Core.val32 lo) ≤ Jvm.FP.Core.zval Jvm.FP.Core.b32 (Jvm.FP.Core.val32 x) := by
  rw [kf_cmp hx hlo hA hB] at c1
  have h := kf_nlt c1
  rw [Ne, Int.compare_eq_lt] at h
  omega
theorem kf_le {x hi : UInt32} {op : CmpOp} {A B : Nat} (hx : fb A x) (hhi : fb B hi) (hA : A < 2139095040) (hB : B < 2139095040) (c1 : Op.cmpValue (FP.fcmp x hi) op ≤ 0) : Jvm.FP.Core.zval Jvm.FP.Core.b32 (Jvm.FP.Core.val32 x) ≤ Jvm.FP.Core.zval Jvm.FP.Core.b32 (Jvm.FP.Core.val32 hi) := by
  rw [kf_cmp hx hhi hA hB] at c1
  have h := kf_ngt c1
  rw [Ne, Int.compare_eq_gt] at h
  omega
theorem kf_hold {x lo hi : UInt32} {o1 o2 : CmpOp} {A B : Nat} (hx : fb A x) (hlo : fb B lo) (hhi : fb B hi) (hA : A < 2139095040) (hB : B < 2139095040) (c1 : 0 ≤ Op.cmpValue (FP.fcmp x lo) o1) (c2 : Op.cmpValue (FP.fcmp x hi) o2 ≤ 0) : fb B x := by
  have h1 := kf_ge hx hlo hA hB c1
  have h2 := kf_le hx hhi hA hB c2
  have a1 := kf_abs hlo hB
  have a2 := kf_abs hhi hB
  refine kf_ofabs hx hA ?_
  omega
theorem kf_least {x : UInt32} {o : CmpOp} {A : Nat} (hx : fb A x) (hA : A < 2139095040) (c1 : 0 ≤ Op.cmpValue (FP.fcmp x 897581056) o) : 107 * 2 ^ 23 ≤ x.toNat % 2 ^ 31 := by
  have hl : fb 897581056 897581056 := by unfold fb; decide +kernel
  have h1 := kf_ge hx hl hA (by decide) c1
  have hv : Jvm.FP.Core.zval Jvm.FP.Core.b32 (Jvm.FP.Core.val32 897581056) = Jvm.FP.Core.unitsOf Jvm.FP.Core.b32 897581056 := by decide +kernel
  rw [hv] at h1
  have a1 := kf_abs (M := x.toNat % 2 ^ 31) (Nat.le_refl _) (Nat.lt_of_le_of_lt hx hA)
  have h3 : Jvm.FP.Core.unitsOf Jvm.FP.Core.b32 897581056 ≤ Jvm.FP.Core.unitsOf Jvm.FP.Core.b32 (x.toNat % 2 ^ 31) := by omega
  have h4 := Jvm.FP.Core.unitsOf_le_iff.mp h3
  omega
def nn (x : UInt32) : Prop := Jvm.FP.Core.val32 x = .inf false ∨ ∃ c q, Jvm.FP.Core.val32 x = .fin false c q
theorem nn_n {x : UInt32} (h : nn x) : vf_n32 x := by
  apply kf_nn
  rcases h with h | ⟨c, q, h⟩ <;> rw [h] <;> intro h2 <;> cases h2
theorem nn_rr {x : UInt32} {A B : Nat} {e : Int} (h : Jvm.FP.Core.val32 x = Jvm.FP.Core.roundRatio Jvm.FP.Core.b32 false A B e) : nn x := by
  rcases Jvm.FP.Core.roundRatio_cases Jvm.FP.Core.b32 false A B e with ⟨c, q, g⟩ | g
  · exact Or.inr ⟨c, q, h.trans g⟩
  · exact Or.inl (h.trans g)
theorem nn_sq {x : UInt32} {M : Nat} (h : fb M x) (hM : M < 2139095040) : nn (FP.fmul x x) := by
  obtain ⟨s, c, q, x1, x2, x3⟩ := fb_fin h hM
  have e1 : Jvm.FP.Core.val32 (FP.fmul x x) = Jvm.FP.Core.round Jvm.FP.Core.b32 (Jvm.FP.Core.exactProduct (Jvm.FP.Core.val32 x) (Jvm.FP.Core.val32 x)) := Jvm.FP.Core.val32_fmul x x
  rw [x1] at e1
  have e2 : Jvm.FP.Core.exactProduct (.fin s c q) (.fin s c q) = .fin false (c * c) (q + q) := by cases s <;> rfl
  rw [e2] at e1
  exact nn_rr e1
theorem nn_add {a b : UInt32} (ha : nn a) (hb : nn b) : nn (FP.fadd a b) := by
  have e1 : Jvm.FP.Core.val32 (FP.fadd a b) = Jvm.FP.Core.round Jvm.FP.Core.b32 (Jvm.FP.Core.exactSum (Jvm.FP.Core.val32 a) (Jvm.FP.Core.val32 b)) := Jvm.FP.Core.val32_fadd a b
  rcases ha with ha | ⟨c, q, ha⟩ <;> rcases hb with hb | ⟨d, r, hb⟩ <;> rw [ha, hb] at e1
  · exact Or.inl e1
  · exact Or.inl e1
  · exact Or.inl e1
  · have hv : (0 : Int) ≤ Jvm.FP.Core.sumUnits false c q false d r (min q r) := by
      unfold Jvm.FP.Core.sumUnits Jvm.FP.Core.signed
      simp only [Bool.false_eq_true, if_false]
      omega
    have hs : Jvm.FP.Core.sumSign false false (Jvm.FP.Core.sumUnits false c q false d r (min q r)) = false := by
      unfold Jvm.FP.Core.sumSign
      split
      · rfl
      · exact decide_eq_false (by omega)
    have e2 : Jvm.FP.Core.exactSum (.fin false c q) (.fin false d r) = .fin false (Jvm.FP.Core.sumUnits false c q false d r (min q r)).natAbs (min q r) := by
      show Jvm.FP.Core.Datum.fin (Jvm.FP.Core.sumSign false false _) _ _ = _
      rw [hs]
    rw [e2] at e1
    exact nn_rr e1
theorem nn_0 : nn FP.fconst0 := Or.inr ⟨0, -149, by decide +kernel⟩
theorem kf_f2dn {x : UInt32} (h : Jvm.FP.Core.val32 x ≠ .nan) : vf_n64 (FP.f2d x) := by
  have h0 : Jvm.FP.Core.fIsNaN x = false := (Jvm.FP.Core.notNaN_iff32 x).mpr h
  have e : FP.f2d x = Jvm.FP.Core.f2d x := by
    show (if Jvm.FP.Core.fIsNaN x then _ else Jvm.FP.Core.f2d x) = _
    rw [h0]; rfl
  have h1 : Jvm.FP.Core.val64 (Jvm.FP.Core.f2d x) ≠ .nan := (Jvm.FP.Core.notNaN_iff _).mp (Jvm.FP.Core.f2d_out h0)
  have h2 := (Jvm.FP.Core.ne_nan _).mp h1
  rw [e]
  unfold vf_n64
  rw [UInt64.le_iff_toNat_le, UInt64.toNat_and]
  have e1 : UInt64.toNat 0x7fffffffffffffff = 2 ^ 63 - 1 := by decide
  have e2 : UInt64.toNat 0x7ff0000000000000 = 9218868437227405312 := by decide
  rw [e1, e2, Nat.and_two_pow_sub_one_eq_mod]
  exact h2
theorem nn_f2d {x : UInt32} (h : nn x) : vf_n64 (FP.f2d x) := kf_f2dn (by rcases h with h | ⟨c, q, h⟩ <;> rw [h] <;> intro h2 <;> cases h2)
theorem fb_f2d {M : Nat} {x : UInt32} (h : fb M x) (hM : M ≤ 2139095040) : vf_n64 (FP.f2d x) := kf_f2dn ((Jvm.FP.Core.ne_nan32 x).mpr (Nat.le_trans h hM))
theorem fb_within {x lo hi : UInt32} {M : Nat} (hlo : fb M lo) (hhi : fb M hi) (hM : M < 2139095040) (h : kz_fin x lo hi = true) : fb M x := by
  unfold kz_fin at h
  rw [Bool.and_eq_true, Bool.not_eq_true', Bool.not_eq_true', decide_eq_false_iff_not, decide_eq_false_iff_not] at h
  obtain ⟨h1, h2⟩ := h
  have hl := fb_fin hlo hM
  have hh := fb_fin hhi hM
  have hf : fb 2139095039 x := by
    have c0 : FP.fcmp x lo = Jvm.FP.Core.order (Jvm.FP.Core.val32 x) (Jvm.FP.Core.val32 lo) := rfl
    have c1 : FP.fcmp x hi = Jvm.FP.Core.order (Jvm.FP.Core.val32 x) (Jvm.FP.Core.val32 hi) := rfl
    obtain ⟨s, c, q, x1, x2, x3⟩ := hl
    obtain ⟨t, d, r, y1, y2, y3⟩ := hh
    rw [c0, x1] at h1
    rw [c1, y1] at h2
    have : Jvm.FP.Core.FFin x := by
      cases hx : Jvm.FP.Core.val32 x with
      | nan => rw [hx] at h1; exact (h1 (show (-1 : Int32) < 0 by decide)).elim
      | inf u =>
        rw [hx] at h1 h2
        cases u
        · exact (h2 (show (0 : Int32) < 1 by decide)).elim
        · exact (h1 (show (-1 : Int32) < 0 by decide)).elim
      | fin u v w => exact ⟨u, v, w, hx⟩
    obtain ⟨u, v, w, hx⟩ := this
    unfold fb
    refine Nat.le_of_not_lt fun hlt => ?_
    have hn : Jvm.FP.Core.val32 x ≠ .nan := by rw [hx]; intro h; cases h
    have h3 := (Jvm.FP.Core.ne_nan32 x).mp hn
    have hm : Jvm.FP.Core.mag Jvm.FP.Core.b32 x.toNat = Jvm.FP.Core.infBits Jvm.FP.Core.b32 := by
      rw [Jvm.FP.Core.mag_toNat32]
      have hi : Jvm.FP.Core.infBits Jvm.FP.Core.b32 = 2139095040 := by decide +kernel
      rw [hi]; omega
    have h4 := Jvm.FP.Core.decode_inf hm
    have h5 : Jvm.FP.Core.decode Jvm.FP.Core.b32 x.toNat = .fin u v w := hx
    rw [h5] at h4
    cases h4
  exact kf_hold (o1 := .l) (o2 := .g) hf hlo hhi (by decide) hM (Int32.not_lt.mp h1) (Int32.not_lt.mp h2)
