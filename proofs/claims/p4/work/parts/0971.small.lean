theorem kc_0 : fb 0 FP.fconst0 := by unfold fb; decide +kernel
theorem kc_1 : fb 1065353216 FP.fconst1 := by unfold fb; decide +kernel
theorem kc_2 : fb 1073741824 FP.fconst2 := by unfold fb; decide +kernel
theorem kz_nar {i : Int32} (h : i = 0 ∨ i = 1) : narrow .boolean (.int i) = .int i := by rcases h with rfl | rfl <;> decide
theorem kz_fit {i : Int32} (h : i = 0 ∨ i = 1) : fits .boolean (.int i) = true := by rcases h with rfl | rfl <;> decide
theorem kz_le1 {n : Nat} (h : n ≤ 1) : nI n = 0 ∨ nI n = 1 := by
  rcases (show n = 0 ∨ n = 1 by omega) with rfl | rfl
  · exact Or.inl rfl
  · exact Or.inr rfl
theorem kz_w8 {n : Nat} {v : Value} (h : n < 8) (hv : v = .int (nI n) := by rfl) : ∃ i : Int32, v = .int i ∧ -1 ≤ i.toInt ∧ i.toInt < 8 := by
  refine ⟨nI n, hv, ?_⟩
  rw [nI_toInt (by omega)]
  omega
theorem kz_cast {a b : String} {U : State} (h : kx_cast a b U) : va_Nw (.castable a b) U := h.use
section KQ2
variable {τ : Nat → Nat → Nat} {Wf P : Value → Prop} {cd a : Nat}
theorem kz_of1 {i : Int32} (h : kPr τ 1 a (.int i)) : i = 0 ∨ i = 1 := by
  obtain ⟨j, hj, h2⟩ := (kPr_S (by decide)).mp h
  cases hj
  exact h2
theorem kz_ofF {x : UInt32} (hM : 1000000 < cd) (h : kPr τ cd a (.float x)) : fb cd x := by
  obtain ⟨y, hy, h2⟩ := (kPr_F hM).mp h
  cases hy
  exact h2
theorem kq_51 (k : τ 4 a ≤ 1 → Wf (.int (nI (τ 4 a)))) : ∀ v, kPr τ 51 a v → P v → Wf v := by
  intro v hv _
  obtain ⟨rfl, h⟩ := (kPr_S (by decide)).mp hv
  exact k h
theorem kq_52 (k0 : Wf .null) (k1 : ∀ q : Nat, τ 0 q = 1 → τ 1 q < τ 1 a → Wf (.ref q)) : ∀ v, kPr τ 52 a v → P v → Wf v := by
  intro v hv _
  rcases (kPr_S (by decide)).mp hv with rfl | ⟨q, rfl, h1, h2⟩
  · exact k0
  · exact k1 q h1 h2
theorem kq_52E {X : Value → Prop} {o : Option Value} (k0 : o = some .null → Wf .null) (k1 : ∀ q : Nat, o = some (.ref q) → τ 0 q = 1 → τ 1 q < τ 1 a → Wf (.ref q)) : ∀ v, kPr τ 52 a v → (X v ∧ o = some v) → Wf v := by
  intro v hv h
  rcases (kPr_S (by decide)).mp hv with rfl | ⟨q, rfl, h1, h2⟩
  · exact k0 h.2
  · exact k1 q h.2 h1 h2
theorem kq_54 (k0 : τ 6 a = 0 → Wf .null) (k1 : ∀ q : Nat, τ 6 a = q + 1 → τ 0 q = 1 → Wf (.ref q)) : ∀ v, kPr τ 54 a v → P v → Wf v := by
  intro v hv _
  obtain ⟨rfl, h⟩ := (kPr_S (by decide)).mp hv
  cases hz : τ 6 a with
  | zero => rw [kRf_0 rfl]; exact k0 hz
  | succ q => rw [kRf_s rfl]; exact k1 q hz (h q hz)
theorem kq_54n (hz : τ 6 a = 0) (k0 : Wf .null) : ∀ v, kPr τ 54 a v → P v → Wf v := by
  intro v hv _
  obtain ⟨rfl, h⟩ := (kPr_S (by decide)).mp hv
  rw [kRf_0 hz]
  exact k0
theorem kq_54s {q : Nat} (hz : τ 6 a = q + 1) (k1 : τ 0 q = 1 → Wf (.ref q)) : ∀ v, kPr τ 54 a v → P v → Wf v := by
  intro v hv _
  obtain ⟨rfl, h⟩ := (kPr_S (by decide)).mp hv
  rw [kRf_s hz]
  exact k1 (h q hz)
theorem kq_55 (k0 : τ 2 a = 0 → Wf .null) (k1 : ∀ q : Nat, τ 2 a = q + 1 → τ 0 q = 2 → τ 2 q = 0 → q ≠ a → Wf (.ref q)) : ∀ v, kPr τ 55 a v → P v → Wf v := by
  intro v hv _
  obtain ⟨rfl, h⟩ := (kPr_S (by decide)).mp hv
  cases hz : τ 2 a with
  | zero => rw [kRf_0 rfl]; exact k0 hz
  | succ q => rw [kRf_s rfl]; exact k1 q hz (h q hz).1 (h q hz).2.1 (h q hz).2.2
theorem kq_55n (hz : τ 2 a = 0) (k0 : Wf .null) : ∀ v, kPr τ 55 a v → P v → Wf v := by
  intro v hv _
  obtain ⟨rfl, h⟩ := (kPr_S (by decide)).mp hv
  rw [kRf_0 hz]
  exact k0
theorem kq_55s {q : Nat} (hz : τ 2 a = q + 1) (k1 : (τ 0 q = 2 ∧ τ 2 q = 0 ∧ q ≠ a) → Wf (.ref q)) : ∀ v, kPr τ 55 a v → P v → Wf v := by
  intro v hv _
  obtain ⟨rfl, h⟩ := (kPr_S (by decide)).mp hv
  rw [kRf_s hz]
  exact k1 (h q hz)
theorem kq_56 (k : ∀ x : UInt32, fb 1224736768 x → (τ 2 a = 0 → fb 1199570944 x) → Wf (.float x)) : ∀ v, kPr τ 56 a v → P v → Wf v := by
  intro v hv _
  obtain ⟨x, rfl, h1, h2⟩ := (kPr_S (by decide)).mp hv
  exact k x h1 h2
end KQ2
