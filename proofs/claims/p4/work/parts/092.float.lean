theorem kf_n {r : UInt32} {K : Nat} (h : r.toNat % 2 ^ 31 < K * 2 ^ 23) (hK : K ≤ 255) : vf_n32 r := by
  unfold vf_n32
  rw [UInt32.le_iff_toNat_le, UInt32.toNat_and]
  have e1 : UInt32.toNat 0x7fffffff = 2 ^ 31 - 1 := by decide
  have e2 : UInt32.toNat 0x7f800000 = 2139095040 := by decide
  rw [e1, e2, Nat.and_two_pow_sub_one_eq_mod]
  omega
theorem kf_8 (x : Int32) : vf_n32 (FP.fmul (FP.i2f x) 1040187392) :=
  kf_n (K := 159) (Jvm.FP.Core.fmul_mag (Ka := 160) (Kb := 125) (Jvm.FP.Core.i2f_mag x) (by decide) (by decide) (by decide)) (by decide)
theorem kf_neg64 : FP.fneg 1115684864 = 3263168512 := by decide +kernel
theorem kf_nn {r : UInt32} (h : Jvm.FP.Core.val32 r ≠ .nan) : vf_n32 r := by
  have h2 := (Jvm.FP.Core.ne_nan32 r).mp h
  unfold vf_n32
  rw [UInt32.le_iff_toNat_le, UInt32.toNat_and]
  have e1 : UInt32.toNat 0x7fffffff = 2 ^ 31 - 1 := by decide
  have e2 : UInt32.toNat 0x7f800000 = 2139095040 := by decide
  rw [e1, e2, Nat.and_two_pow_sub_one_eq_mod]
  exact h2
theorem kf_fin {x : UInt32} (h : kz_fin x FP.fconst0 1098907648 = true) : ∃ s c q, Jvm.FP.Core.val32 x = .fin s c q := by
  have hv0 : Jvm.FP.Core.val32 FP.fconst0 = .fin false 0 (-149) := by decide +kernel
  have hv1 : Jvm.FP.Core.val32 1098907648 = .fin false 8388608 (-19) := by decide +kernel
  have c0 : FP.fcmp x FP.fconst0 = Jvm.FP.Core.order (Jvm.FP.Core.val32 x) (Jvm.FP.Core.val32 FP.fconst0) := rfl
  have c1 : FP.fcmp x 1098907648 = Jvm.FP.Core.order (Jvm.FP.Core.val32 x) (Jvm.FP.Core.val32 1098907648) := rfl
  unfold kz_fin at h
  rw [c0, c1, hv0, hv1] at h
  cases hx : Jvm.FP.Core.val32 x with
  | nan => rw [hx] at h; exact absurd h (by decide)
  | inf s => rw [hx] at h; cases s <;> exact absurd h (by decide)
  | fin s c q => exact ⟨s, c, q, rfl⟩
theorem kf_16n {b c : UInt32} (h2 : kz_fin b FP.fconst0 1098907648 = true) (h3 : kz_fin c FP.fconst0 1098907648 = true) : Jvm.FP.Core.val32 (FP.fadd b c) ≠ .nan := by
  obtain ⟨s, m, q, hb⟩ := kf_fin h2
  obtain ⟨t, n, r, hc⟩ := kf_fin h3
  have e : Jvm.FP.Core.val32 (FP.fadd b c) = Jvm.FP.Core.round Jvm.FP.Core.b32 (Jvm.FP.Core.exactSum (Jvm.FP.Core.val32 b) (Jvm.FP.Core.val32 c)) := Jvm.FP.Core.val32_fadd b c
  rw [e, hb, hc]
  exact Jvm.FP.Core.roundRatio_ne_nan _ _ _ _ _
theorem kf_16 {b c : UInt32} (h2 : kz_fin b FP.fconst0 1098907648 = true) (h3 : kz_fin c FP.fconst0 1098907648 = true) : vf_n32 (FP.fadd b c) := kf_nn (kf_16n h2 h3)
theorem kf_16b {b c d : UInt32} (h2 : kz_fin b FP.fconst0 1098907648 = true) (h3 : kz_fin c FP.fconst0 1098907648 = true) (h4 : kz_fin d FP.fconst0 1098907648 = true) : vf_n32 (FP.fadd (FP.fadd b c) d) := by
  apply kf_nn
  have hn := kf_16n h2 h3
  obtain ⟨t, n, r, hd⟩ := kf_fin h4
  have e : Jvm.FP.Core.val32 (FP.fadd (FP.fadd b c) d) = Jvm.FP.Core.round Jvm.FP.Core.b32 (Jvm.FP.Core.exactSum (Jvm.FP.Core.val32 (FP.fadd b c)) (Jvm.FP.Core.val32 d)) := Jvm.FP.Core.val32_fadd _ d
  rw [e, hd]
  cases hx : Jvm.FP.Core.val32 (FP.fadd b c) with
  | nan => exact absurd hx hn
  | inf u => intro h; cases h
  | fin s m q => exact Jvm.FP.Core.roundRatio_ne_nan _ _ _ _ _
