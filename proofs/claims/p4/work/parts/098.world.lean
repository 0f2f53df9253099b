def kOkc (c : Nat) : Bool := decide (c < 100) || (decide (100 < c) && decide (c < 140)) || (decide (200 < c) && decide (c < 240)) || decide (1000000 < c)
theorem kPs.mono {τ τ' : Nat → Nat → Nat} {c a : Nat} {v : Value} (hq : ∀ q, τ 0 q ≠ 0 → τ 0 q < 40 → ∀ j, τ' j q = τ j q) (ha : ∀ j, τ' j a = τ j a) (h : kPs τ c a v) : kPs τ' c a v := by
  have e : ∀ q t, τ 0 q = t → t ≠ 0 → t < 40 → ∀ j, τ' j q = τ j q := fun q t h1 h2 h3 => hq q (by omega) (by omega)
  unfold kPs at h
  split at h
  · exact h
  · exact h
  · exact h
  · exact h
  · exact h
  · exact h
  · exact h
  · exact h
  · exact h
  · exact h
  · show v = .int (nI (τ' 1 a)) ∧ τ' 1 a < 256
    rw [ha 1]
    exact h
  · show v = .int (nI (τ' 4 a)) ∧ τ' 4 a ≤ 1
    rw [ha 4]
    exact h
  · show v = .null ∨ ∃ q : Nat, v = .ref q ∧ τ' 0 q = 1 ∧ τ' 1 q < τ' 1 a
    rw [ha 1]
    rcases h with h | ⟨q, h1, h2, h3⟩
    · exact Or.inl h
    · have g := e q 1 h2 (by decide) (by decide)
      exact Or.inr ⟨q, h1, by rw [g 0]; exact h2, by rw [g 1]; exact h3⟩
  · show v = .ref (τ' 5 a) ∧ τ' 0 (τ' 5 a) = 1
    rw [ha 5]
    exact ⟨h.1, by rw [e _ 1 h.2 (by decide) (by decide) 0]; exact h.2⟩
  · show v = kRf (τ' 6 a) ∧ ∀ q, τ' 6 a = q + 1 → τ' 0 q = 1
    rw [ha 6]
    exact ⟨h.1, fun q hh => by rw [e q 1 (h.2 q hh) (by decide) (by decide) 0]; exact h.2 q hh⟩
  · show v = kRf (τ' 2 a) ∧ ∀ q, τ' 2 a = q + 1 → τ' 0 q = 2 ∧ τ' 2 q = 0 ∧ q ≠ a
    rw [ha 2]
    refine ⟨h.1, fun q hh => ?_⟩
    obtain ⟨g1, g2, g3⟩ := h.2 q hh
    have g := e q 2 g1 (by decide) (by decide)
    exact ⟨by rw [g 0]; exact g1, by rw [g 2]; exact g2, g3⟩
  · show ∃ x : UInt32, v = .float x ∧ fb 1224736768 x ∧ (τ' 2 a = 0 → fb 1199570944 x)
    rw [ha 2]
    exact h
  · exact h.elim
theorem kPr.mono {τ τ' : Nat → Nat → Nat} {c a : Nat} {v : Value} (hq : ∀ q, τ 0 q ≠ 0 → τ 0 q < 40 → ∀ j, τ' j q = τ j q) (ha : ∀ j, τ' j a = τ j a) (hc : kOkc c = true) (h : kPr τ c a v) : kPr τ' c a v := by
  unfold kOkc at hc
  simp only [Bool.or_eq_true, Bool.and_eq_true, decide_eq_true_eq] at hc
  by_cases h1 : 1000000 < c
  · exact (kPr_F h1).mpr ((kPr_F h1).mp h)
  by_cases h2 : 200 ≤ c
  · obtain ⟨t, rfl⟩ : ∃ t, c = 200 + t := ⟨c - 200, by omega⟩
    rcases (kPr_N (by omega)).mp h with h | ⟨q, hv, ht⟩
    · exact (kPr_N (by omega)).mpr (Or.inl h)
    · exact (kPr_N (by omega)).mpr (Or.inr ⟨q, hv, by rw [hq q (by omega) (by omega)]; exact ht⟩)
  by_cases h3 : 100 ≤ c
  · obtain ⟨t, rfl⟩ : ∃ t, c = 100 + t := ⟨c - 100, by omega⟩
    obtain ⟨q, hv, ht⟩ := (kPr_R (by omega)).mp h
    exact (kPr_R (by omega)).mpr ⟨q, hv, by rw [hq q (by omega) (by omega)]; exact ht⟩
  · exact (kPr_S (by omega)).mpr (((kPr_S (by omega)).mp h).mono hq ha)
theorem kDl_ok (t k : Nat) : kOkc ((kDl t).getD k 0) = true := by
  have h : ∀ x ∈ kDl t, kOkc x = true := by
    unfold kDl
    split <;> decide
  rw [List.getD_eq_getElem?_getD]
  cases hk : (kDl t)[k]? with
  | none => rfl
  | some x => exact h x (List.mem_of_getElem? hk)
theorem kEc_ok (t i : Nat) : kOkc (kEc t i) = true := by
  unfold kEc
  split <;> first | rfl | (split <;> rfl)
def kC (dA : Nat → ClassId) (τ : Nat → Nat → Nat) (pv : Nat → Nat → Value) (a : Nat) (e : va_E) : Prop :=
  (∀ ci, kCi (τ 0 a) = some ci → ∃ vals, e = .inr (ci, vals) ∧ kO τ pv (τ 0 a) a vals) ∧
  (∀ k, kAk (τ 0 a) = some k → kLk (τ 0 a) (τ 3 a)) ∧
  (∀ k, kAk (τ 0 a) = some k → k ≤ 1 → ∃ g : Nat → Int32, e = .inl (dA k, τ 3 a, .inl g) ∧ ∀ i, kPr τ (kEc (τ 0 a) i) a (.int (g i)) ∧ kPn (τ 0 a) i (pv a i) (.int (g i))) ∧
  (kAk (τ 0 a) = some 2 → ∃ g : Nat → UInt32, e = .inl (dA 2, τ 3 a, .inr (.inr (.inl g))) ∧ ∀ i, kPr τ (kEc (τ 0 a) i) a (.float (g i)) ∧ kPn (τ 0 a) i (pv a i) (.float (g i))) ∧
  (kAk (τ 0 a) = some 3 → ∃ g : Nat → Int64, e = .inl (dA 3, τ 3 a, .inr (.inl g)) ∧ pv a 0 = .long (g 0)) ∧
  (kAk (τ 0 a) = some 4 → ∃ g : Nat → UInt64, e = .inl (dA 4, τ 3 a, .inr (.inr (.inr (.inl g))))) ∧
  (∀ k, kAk (τ 0 a) = some k → 5 ≤ k → ∃ g : Nat → Option Nat, e = .inl (dA k, τ 3 a, .inr (.inr (.inr (.inr g)))) ∧ ∀ i, kPr τ (kEc (τ 0 a) i) a (va_rf (g i)) ∧ kPn (τ 0 a) i (pv a i) (va_rf (g i)))
theorem kI.cell {dA : Nat → ClassId} {τ : Nat → Nat → Nat} {pv : Nat → Nat → Value} {L : List Nat} {f : Nat → va_E} (h : kI dA τ pv L f) (a : Nat) : kC dA τ pv a (f a) :=
  ⟨h.2.1 a, h.2.2.1 a, h.2.2.2.1 a, h.2.2.2.2.1 a, h.2.2.2.2.2.1 a, h.2.2.2.2.2.2.1 a, h.2.2.2.2.2.2.2 a⟩
theorem kI.mk {dA : Nat → ClassId} {τ : Nat → Nat → Nat} {pv : Nat → Nat → Value} {L : List Nat} {f : Nat → va_E} (h1 : ∀ a, τ 0 a ≠ 0 → a ∈ L) (h : ∀ a, kC dA τ pv a (f a)) : kI dA τ pv L f :=
  ⟨h1, fun a => (h a).1, fun a => (h a).2.1, fun a => (h a).2.2.1, fun a => (h a).2.2.2.1, fun a => (h a).2.2.2.2.1, fun a => (h a).2.2.2.2.2.1, fun a => (h a).2.2.2.2.2.2⟩
theorem kC.mono {dA : Nat → ClassId} {τ τ' : Nat → Nat → Nat} {pv pv' : Nat → Nat → Value} {a : Nat} {e : va_E} (hq : ∀ q, τ 0 q ≠ 0 → τ 0 q < 40 → ∀ j, τ' j q = τ j q) (ha : ∀ j, τ' j a = τ j a) (hp : ∀ j, pv' a j = pv a j) (h : kC dA τ pv a e) : kC dA τ' pv' a e := by
  obtain ⟨h1, h2, h3, h4, h5, h6, h7⟩ := h
  unfold kC
  rw [ha 0, ha 3]
  refine ⟨fun ci hc => ?_, h2, fun k hk hk1 => ?_, fun hk => ?_, fun hk => ?_, h6, fun k hk hk5 => ?_⟩
  · obtain ⟨vals, g1, g2, g3⟩ := h1 ci hc
    exact ⟨vals, g1, g2, fun k v hv => ⟨(g3 k v hv).1.mono hq ha (kDl_ok _ _), by rw [hp]; exact (g3 k v hv).2⟩⟩
  · obtain ⟨g, g1, g2⟩ := h3 k hk hk1
    exact ⟨g, g1, fun i => ⟨(g2 i).1.mono hq ha (kEc_ok _ _), by rw [hp]; exact (g2 i).2⟩⟩
  · obtain ⟨g, g1, g2⟩ := h4 hk
    exact ⟨g, g1, fun i => ⟨(g2 i).1.mono hq ha (kEc_ok _ _), by rw [hp]; exact (g2 i).2⟩⟩
  · obtain ⟨g, g1, g2⟩ := h5 hk
    exact ⟨g, g1, (hp 0).trans g2⟩
  · obtain ⟨g, g1, g2⟩ := h7 k hk hk5
    exact ⟨g, g1, fun i => ⟨(g2 i).1.mono hq ha (kEc_ok _ _), by rw [hp]; exact (g2 i).2⟩⟩
theorem kI.change {dA : Nat → ClassId} {τ τ' : Nat → Nat → Nat} {pv pv' : Nat → Nat → Value} {L L' : List Nat} {f f' : Nat → va_E} {a : Nat} (h : kI dA τ pv L f) (h0 : τ 0 a = 0 ∨ 40 ≤ τ 0 a) (hL : ∀ b ∈ L, b ∈ L') (haL : a ∈ L') (hτ : ∀ b, b ≠ a → ∀ j, τ' j b = τ j b) (hpv : ∀ b, b ≠ a → ∀ j, pv' b j = pv b j) (hf : ∀ b, b ≠ a → f' b = f b) (hc : kC dA τ' pv' a (f' a)) : kI dA τ' pv' L' f' := by
  refine kI.mk (fun b hb => ?_) (fun b => ?_)
  · by_cases e : b = a
    · rw [e]; exact haL
    · exact hL b (h.1 b (by rw [← hτ b e 0]; exact hb))
  · by_cases e : b = a
    · rw [e]; exact hc
    · rw [hf b e]
      exact (h.cell b).mono (fun q h1 h2 => hτ q (fun e2 => by rw [e2] at h1 h2; omega)) (hτ b e) (hpv b e)
def kxt (τ : Nat → Nat → Nat) (a : Nat) (g : Nat → Nat) : Nat → Nat → Nat := fun j b => if b = a then g j else τ j b
theorem kxt_self {τ : Nat → Nat → Nat} {a : Nat} {g : Nat → Nat} (j : Nat) : kxt τ a g j a = g j := by simp [kxt]
theorem kxt_ne {τ : Nat → Nat → Nat} {a b : Nat} {g : Nat → Nat} (h : b ≠ a) (j : Nat) : kxt τ a g j b = τ j b := by simp [kxt, h]
def kux (pv : Nat → Nat → Value) (a : Nat) (w : Nat → Value) : Nat → Nat → Value := fun b k => if b = a then w k else pv b k
theorem kux_self {pv : Nat → Nat → Value} {a : Nat} {w : Nat → Value} (k : Nat) : kux pv a w a k = w k := by simp [kux]
theorem kux_ne {pv : Nat → Nat → Value} {a b : Nat} {w : Nat → Value} (h : b ≠ a) (k : Nat) : kux pv a w b k = pv b k := by simp [kux, h]
theorem kI.t0 {dA : Nat → ClassId} {τ : Nat → Nat → Nat} {pv : Nat → Nat → Value} {L : List Nat} {f : Nat → va_E} {a : Nat} (h : kI dA τ pv L f) (ha : a ∉ L) : τ 0 a = 0 := Classical.byContradiction fun h2 => ha (h.1 a h2)
def kFr (P : Nat → Nat → Bool) (τ : Nat → Nat → Nat) (pv : Nat → Nat → Value) (τ' : Nat → Nat → Nat) (pv' : Nat → Nat → Value) : Prop := ∀ b, τ 0 b ≠ 0 → τ 0 b < 40 → (∀ j, τ' j b = τ j b) ∧ ∀ k, P (τ 0 b) k = true → pv' b k = pv b k
theorem kFr.rf {P : Nat → Nat → Bool} {τ : Nat → Nat → Nat} {pv : Nat → Nat → Value} : kFr P τ pv τ pv := fun _ _ _ => ⟨fun _ => rfl, fun _ _ => rfl⟩
theorem kFr.trans {P : Nat → Nat → Bool} {τ τ1 τ2 : Nat → Nat → Nat} {pv pv1 pv2 : Nat → Nat → Value} (h : kFr P τ pv τ1 pv1) (h2 : kFr P τ1 pv1 τ2 pv2) : kFr P τ pv τ2 pv2 := by
  intro b h0 h1
  obtain ⟨g1, g2⟩ := h b h0 h1
  obtain ⟨g3, g4⟩ := h2 b (by rw [g1]; exact h0) (by rw [g1]; exact h1)
  exact ⟨fun j => (g3 j).trans (g1 j), fun k hk => (g4 k (by rw [g1]; exact hk)).trans (g2 k hk)⟩
theorem kFr.weak {P P' : Nat → Nat → Bool} {τ τ' : Nat → Nat → Nat} {pv pv' : Nat → Nat → Value} (h : kFr P τ pv τ' pv') (hw : ∀ t k, P' t k = true → P t k = true) : kFr P' τ pv τ' pv' := fun b h0 h1 => ⟨(h b h0 h1).1, fun k hk => (h b h0 h1).2 k (hw _ _ hk)⟩
theorem kFr.ty {P : Nat → Nat → Bool} {τ τ' : Nat → Nat → Nat} {pv pv' : Nat → Nat → Value} {b t : Nat} (h : kFr P τ pv τ' pv') (hb : τ 0 b = t) (h0 : t ≠ 0 := by decide) (h1 : t < 40 := by decide) : τ' 0 b = t := ((h b (by omega) (by omega)).1 0).trans hb
theorem kFr.tj {P : Nat → Nat → Bool} {τ τ' : Nat → Nat → Nat} {pv pv' : Nat → Nat → Value} {b t : Nat} (h : kFr P τ pv τ' pv') (hb : τ 0 b = t) (h0 : t ≠ 0 := by decide) (h1 : t < 40 := by decide) (j : Nat) : τ' j b = τ j b := (h b (by omega) (by omega)).1 j
theorem kFr.pn {P : Nat → Nat → Bool} {τ τ' : Nat → Nat → Nat} {pv pv' : Nat → Nat → Value} {b t k : Nat} (h : kFr P τ pv τ' pv') (hb : τ 0 b = t) (hP : P t k = true) (h0 : t ≠ 0 := by decide) (h1 : t < 40 := by decide) : pv' b k = pv b k := (h b (by omega) (by omega)).2 k (by rw [hb]; exact hP)
theorem kFr.up {P : Nat → Nat → Bool} {τ : Nat → Nat → Nat} {pv : Nat → Nat → Value} {a k t : Nat} {w : Value} (ha : τ 0 a = t) (hP : P t k = false) : kFr P τ pv τ (kup pv a k w) := by
  intro b h0 h1
  refine ⟨fun _ => rfl, fun j hj => kup_ne ?_⟩
  by_cases e : b = a
  · right
    intro e2
    rw [e, e2, ha, hP] at hj
    cases hj
  · exact Or.inl e
theorem kFr.new {P : Nat → Nat → Bool} {τ : Nat → Nat → Nat} {pv : Nat → Nat → Value} {a : Nat} {g : Nat → Nat} {w : Nat → Value} (h0 : τ 0 a = 0 ∨ 40 ≤ τ 0 a) : kFr P τ pv (kxt τ a g) (kux pv a w) := by
  intro b hb hb2
  have e : b ≠ a := fun e => by rw [e] at hb hb2; omega
  exact ⟨fun j => kxt_ne e j, fun k _ => kux_ne e k⟩
theorem kFr.ret {P : Nat → Nat → Bool} {τ : Nat → Nat → Nat} {pv : Nat → Nat → Value} {a : Nat} {g : Nat → Nat} (h0 : τ 0 a = 0 ∨ 40 ≤ τ 0 a) : kFr P τ pv (kxt τ a g) pv := by
  intro b hb hb2
  have e : b ≠ a := fun e => by rw [e] at hb hb2; omega
  exact ⟨fun j => kxt_ne e j, fun k _ => rfl⟩
theorem kFr.upr {P : Nat → Nat → Bool} {τ : Nat → Nat → Nat} {pv : Nat → Nat → Value} {a k : Nat} {w : Value} (h0 : τ 0 a = 0 ∨ 40 ≤ τ 0 a) : kFr P τ pv τ (kup pv a k w) := by
  intro b hb hb2
  exact ⟨fun _ => rfl, fun j _ => kup_ne (Or.inl (fun e => by rw [e] at hb hb2; omega))⟩
