def fb (M : Nat) (x : UInt32) : Prop := x.toNat % 2 ^ 31 ≤ M
theorem fb_n {M : Nat} {x : UInt32} (h : fb M x) (hM : M ≤ 2139095040) : vf_n32 x := kf_nn ((Jvm.FP.Core.ne_nan32 x).mpr (Nat.le_trans h hM))
theorem fb_le {M M2 : Nat} {x : UInt32} (h : fb M x) (hM : M ≤ M2) : fb M2 x := Nat.le_trans h hM
theorem fb_fin {M : Nat} {x : UInt32} (h : fb M x) (hM : M < 2139095040) : ∃ s c q, Jvm.FP.Core.val32 x = .fin s c q ∧ Jvm.FP.Core.fits Jvm.FP.Core.b32 (.fin s c q) ∧ Jvm.FP.Core.zmag Jvm.FP.Core.b32 (.fin s c q) ≤ Jvm.FP.Core.unitsOf Jvm.FP.Core.b32 M := by
  have hm : Jvm.FP.Core.mag Jvm.FP.Core.b32 x.toNat = x.toNat % 2 ^ 31 := Jvm.FP.Core.mag_toNat32 x
  have hi : Jvm.FP.Core.infBits Jvm.FP.Core.b32 = 2139095040 := by decide +kernel
  have hl : Jvm.FP.Core.mag Jvm.FP.Core.b32 x.toNat < Jvm.FP.Core.infBits Jvm.FP.Core.b32 := by rw [hm, hi]; exact Nat.lt_of_le_of_lt h hM
  obtain ⟨s, c, q, h1, h2, h3⟩ := Jvm.FP.Core.fin_of_mag Jvm.FP.Core.good_b32 hl
  refine ⟨s, c, q, h1, h2, ?_⟩
  rw [h3, hm]
  exact Jvm.FP.Core.unitsOf_le_iff.mpr h
theorem fb_add {a b : UInt32} {A B M : Nat} (ha : fb A a) (hb : fb B b) (hA : A < 2139095040) (hB : B < 2139095040) (h : Jvm.FP.Core.unitsOf Jvm.FP.Core.b32 A + Jvm.FP.Core.unitsOf Jvm.FP.Core.b32 B ≤ Jvm.FP.Core.unitsOf Jvm.FP.Core.b32 M) : fb M (FP.fadd a b) := by
  obtain ⟨s, c, q, x1, x2, x3⟩ := fb_fin ha hA
  obtain ⟨t, d, r, y1, y2, y3⟩ := fb_fin hb hB
  obtain ⟨sg, v, e, p1, p2, p3⟩ := Jvm.FP.Core.sum_units x2 y2
  have hn : Jvm.FP.Core.decode Jvm.FP.Core.b32 (FP.fadd a b).toNat = Jvm.FP.Core.roundRatio Jvm.FP.Core.b32 sg v 1 e := by
    have e1 : Jvm.FP.Core.val32 (FP.fadd a b) = Jvm.FP.Core.round Jvm.FP.Core.b32 (Jvm.FP.Core.exactSum (Jvm.FP.Core.val32 a) (Jvm.FP.Core.val32 b)) := Jvm.FP.Core.val32_fadd a b
    rw [x1, y1, p1] at e1
    exact e1
  have hq : (Jvm.FP.Core.mag Jvm.FP.Core.b32 (FP.fadd a b).toNat) ≤ M := by
    refine Jvm.FP.Core.mag_le (s := sg) (A := v) (B := 1) (e := e) Jvm.FP.Core.good_b32 hn (by decide) (e0 := Jvm.FP.Core.b32.qmin) (Int.le_refl _) p2 ?_
    rw [Int.sub_self, Int.toNat_zero, Nat.pow_zero, Nat.mul_one, Nat.mul_one]
    have h1 : Jvm.FP.Core.inUnits v e Jvm.FP.Core.b32.qmin ≤ Jvm.FP.Core.zmag Jvm.FP.Core.b32 (.fin s c q) + Jvm.FP.Core.zmag Jvm.FP.Core.b32 (.fin t d r) := by
      have h2 := congrArg Int.natAbs p3
      rw [Jvm.FP.Core.natAbs_signed] at h2
      rw [h2]
      refine Nat.le_trans (Int.natAbs_add_le _ _) ?_
      unfold Jvm.FP.Core.zval
      rw [Jvm.FP.Core.natAbs_signed, Jvm.FP.Core.natAbs_signed]
      exact Nat.le_refl _
    omega
  rw [Jvm.FP.Core.mag_toNat32] at hq
  exact hq
theorem fb_mul {a b : UInt32} {A B M : Nat} (ha : fb A a) (hb : fb B b) (hA : A < 2139095040) (hB : B < 2139095040) (h : Jvm.FP.Core.unitsOf Jvm.FP.Core.b32 A * Jvm.FP.Core.unitsOf Jvm.FP.Core.b32 B ≤ Jvm.FP.Core.unitsOf Jvm.FP.Core.b32 M * 2 ^ 149) : fb M (FP.fmul a b) := by
  obtain ⟨s, c, q, x1, x2, x3⟩ := fb_fin ha hA
  obtain ⟨t, d, r, y1, y2, y3⟩ := fb_fin hb hB
  obtain ⟨p1, p2, p3⟩ := Jvm.FP.Core.product_units x2 y2
  have hn : Jvm.FP.Core.decode Jvm.FP.Core.b32 (FP.fmul a b).toNat = Jvm.FP.Core.roundRatio Jvm.FP.Core.b32 (s != t) (c * d) 1 (q + r) := by
    have e1 : Jvm.FP.Core.val32 (FP.fmul a b) = Jvm.FP.Core.round Jvm.FP.Core.b32 (Jvm.FP.Core.exactProduct (Jvm.FP.Core.val32 a) (Jvm.FP.Core.val32 b)) := Jvm.FP.Core.val32_fmul a b
    rw [x1, y1, p1] at e1
    exact e1
  have hz : Jvm.FP.Core.b32.qmin = -149 := Jvm.FP.Core.qmin_b32
  have hq : (Jvm.FP.Core.mag Jvm.FP.Core.b32 (FP.fmul a b).toNat) ≤ M := by
    refine Jvm.FP.Core.mag_le (s := s != t) (A := c * d) (B := 1) (e := q + r) Jvm.FP.Core.good_b32 hn (by decide) (e0 := 2 * Jvm.FP.Core.b32.qmin) (by rw [hz]; decide) p2 ?_
    rw [p3, Nat.mul_one]
    have e2 : (Jvm.FP.Core.b32.qmin - 2 * Jvm.FP.Core.b32.qmin).toNat = 149 := by rw [hz]; decide
    rw [e2]
    exact Nat.le_trans (Nat.mul_le_mul x3 y3) h
  rw [Jvm.FP.Core.mag_toNat32] at hq
  exact hq
