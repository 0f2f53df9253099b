def kRf (n : Nat) : Value := if n = 0 then .null else .ref (n - 1)
theorem kRf_0 {n : Nat} (h : n = 0) : kRf n = .null := by rw [h]; rfl
theorem kRf_s {n q : Nat} (h : n = q + 1) : kRf n = .ref q := by rw [h]; rfl
def kPs (τ : Nat → Nat → Nat) (c a : Nat) (v : Value) : Prop := match c with
  | 0 => ∃ i : Int32, v = .int i
  | 1 => ∃ i : Int32, v = .int i ∧ (i = 0 ∨ i = 1)
  | 2 => ∃ x : UInt32, v = .float x
  | 3 => ∃ i : Int32, v = .int i ∧ -1 ≤ i.toInt ∧ i.toInt < 256
  | 4 => ∃ i : Int32, v = .int i ∧ -1 ≤ i.toInt ∧ i.toInt < 8
  | 5 => ∃ n : Nat, v = .int (nI n) ∧ 1 ≤ n ∧ n ≤ 8
  | 6 => ∃ n : Nat, v = .int (nI n) ∧ n ≤ 256
  | 7 => ∃ n : Nat, v = .int (nI n) ∧ n ≤ 1024
  | 8 => ∃ q : Nat, v = .ref q
  | 9 => ∃ r : Option Nat, v = va_rf r
  | 50 => v = .int (nI (τ 1 a)) ∧ τ 1 a < 256
  | 51 => v = .int (nI (τ 4 a)) ∧ τ 4 a ≤ 1
  | 52 => v = .null ∨ ∃ q : Nat, v = .ref q ∧ τ 0 q = 1 ∧ τ 1 q < τ 1 a
  | 53 => v = .ref (τ 5 a) ∧ τ 0 (τ 5 a) = 1
  | 54 => v = kRf (τ 6 a) ∧ ∀ q, τ 6 a = q + 1 → τ 0 q = 1
  | 55 => v = kRf (τ 2 a) ∧ ∀ q, τ 2 a = q + 1 → τ 0 q = 2 ∧ τ 2 q = 0 ∧ q ≠ a
  | 56 => ∃ x : UInt32, v = .float x ∧ fb 1224736768 x ∧ (τ 2 a = 0 → fb 1199570944 x)
  | _ => False
def kPr (τ : Nat → Nat → Nat) (c a : Nat) (v : Value) : Prop :=
  if 1000000 < c then ∃ x : UInt32, v = .float x ∧ fb c x else
  if 200 ≤ c then v = .null ∨ ∃ q : Nat, v = .ref q ∧ τ 0 q = c - 200 else
  if 100 ≤ c then ∃ q : Nat, v = .ref q ∧ τ 0 q = c - 100 else kPs τ c a v
def kCi (t : Nat) : Option Nat := match t with
  | 1 => some 1
  | 2 => some 2
  | 3 => some 3
  | 4 => some 3
  | 5 => some 3
  | 6 => some 4
  | 7 => some 0
  | 8 => some 0
  | 14 => some 5
  | 40 => some 1
  | 41 => some 2
  | _ => none
def kDl (t : Nat) : List Nat := match t with
  | 1 => [50, 51, 1098907648, 1098907648, 1098907648, 1098907648, 1098907648, 1098907648, 1098907648, 103, 103, 1, 0, 0, 0, 52]
  | 2 => [53, 54, 104, 104, 104, 1149239296, 1115684864, 1199570944, 1199570944, 55, 1090519040, 0, 56, 1241513984, 1, 105, 105, 202]
  | 3 => [1535115264, 1535115264, 1535115264]
  | 4 => [1115684864, 1115684864, 1115684864]
  | 5 => [1161822208, 1161822208, 1161822208]
  | 6 => [107, 108, 108, 104, 104, 104, 0, 1065353216, 2, 0, 5, 0, 6, 111, 112, 113]
  | 7 => [0, 8, 7]
  | 8 => [0, 8, 7]
  | 14 => [0, 6, 115, 116, 117, 118, 7, 119, 120, 121, 122, 123, 124, 125, 126, 127, 128, 129, 130, 7, 131, 132, 0, 1065353216, 2, 0, 0, 0, 6, 133, 134, 135, 1161822208, 1161822208, 1161822208]
  | 40 => [0, 0, 2, 2, 2, 2, 2, 2, 2, 9, 9, 0, 0, 0, 0, 9]
  | 41 => [9, 9, 9, 9, 9, 2, 2, 2, 2, 9, 2, 0, 2, 2, 0, 9, 9, 9]
  | _ => []
def kAk (t : Nat) : Option Nat := match t with
  | 9 => some 5
  | 10 => some 5
  | 11 => some 0
  | 12 => some 1
  | 13 => some 6
  | 15 => some 2
  | 16 => some 1
  | 17 => some 0
  | 18 => some 2
  | 19 => some 0
  | 20 => some 0
  | 21 => some 2
  | 22 => some 2
  | 23 => some 2
  | 24 => some 2
  | 25 => some 2
  | 26 => some 2
  | 27 => some 0
  | 28 => some 0
  | 29 => some 2
  | 30 => some 2
  | 31 => some 0
  | 32 => some 2
  | 33 => some 0
  | 34 => some 0
  | 35 => some 1
  | 36 => some 3
  | 37 => some 4
  | _ => none
def kLk (t n : Nat) : Prop := match t with
  | 9 => 10 ≤ n ∧ n ≤ 4096
  | 10 => 10 ≤ n ∧ n ≤ 4096
  | 11 => n = 256
  | 12 => n = 256
  | 13 => n = 8
  | 15 => n = 3328
  | 16 => n = 256
  | 17 => n = 256
  | 18 => n = 9
  | 21 => n = 9216
  | 33 => n = 256
  | 34 => n = 256
  | 35 => n = 256
  | 36 => n = 1
  | 37 => n = 1
  | _ => n = 1024
theorem kLk_lt {t n : Nat} (h : kLk t n) : n < 2 ^ 31 := by
  unfold kLk at h
  split at h <;> omega
def kEc (t i : Nat) : Nat := match t with
  | 9 => 9
  | 10 => 9
  | 11 => 4
  | 12 => 1
  | 13 => 202
  | 15 => if i % 13 < 6 then 1535115264 else 1098907648
  | 16 => 1
  | 17 => 0
  | 18 => 1115684864
  | 19 => 0
  | 20 => 0
  | 21 => 1115684864
  | 22 => 1149239296
  | 23 => 1115684864
  | 24 => 1199570944
  | 25 => 1199570944
  | 26 => 1090519040
  | 27 => 0
  | 28 => 0
  | 29 => 1224736768
  | 30 => 1241513984
  | 31 => 0
  | 32 => 1224736768
  | 33 => 3
  | 34 => 3
  | 35 => 1
  | _ => 0
def kPb (t k : Nat) : Bool := match t with
  | 1 => k == 14
  | 2 => k == 13 || k == 14 || k == 17
  | 6 => k == 0 || k == 1 || k == 2 || k == 10 || k == 12 || k == 13 || k == 14 || k == 15
  | 7 => k == 1 || k == 2
  | 8 => k == 1 || k == 2
  | 9 => true
  | 10 => true
  | 13 => true
  | 14 => k == 0 || k == 1 || k == 2 || k == 6 || k == 7 || k == 8 || k == 15 || k == 17 || k == 18 || k == 19 || k == 26 || k == 28
  | 19 => true
  | 20 => true
  | 27 => true
  | 30 => true
  | 40 => true
  | 41 => true
  | _ => false
def kPn (t k : Nat) (w v : Value) : Prop := if kPb t k = true then v = w else if t = 29 then w = .int 0 → ∃ x : UInt32, v = .float x ∧ fb 1199570944 x else True
def kO (τ : Nat → Nat → Nat) (pv : Nat → Nat → Value) (t a : Nat) (vals : List Value) : Prop := vals.length = (kDl t).length ∧ ∀ (k : Nat) (v : Value), vals[k]? = some v → kPr τ ((kDl t).getD k 0) a v ∧ kPn t k (pv a k) v
def kI (dA : Nat → ClassId) (τ : Nat → Nat → Nat) (pv : Nat → Nat → Value) (L : List Nat) (f : Nat → va_E) : Prop :=
  (∀ a, τ 0 a ≠ 0 → a ∈ L) ∧
  (∀ a ci, kCi (τ 0 a) = some ci → ∃ vals, f a = .inr (ci, vals) ∧ kO τ pv (τ 0 a) a vals) ∧
  (∀ a k, kAk (τ 0 a) = some k → kLk (τ 0 a) (τ 3 a)) ∧
  (∀ a k, kAk (τ 0 a) = some k → k ≤ 1 → ∃ g : Nat → Int32, f a = .inl (dA k, τ 3 a, .inl g) ∧ ∀ i, kPr τ (kEc (τ 0 a) i) a (.int (g i)) ∧ kPn (τ 0 a) i (pv a i) (.int (g i))) ∧
  (∀ a, kAk (τ 0 a) = some 2 → ∃ g : Nat → UInt32, f a = .inl (dA 2, τ 3 a, .inr (.inr (.inl g))) ∧ ∀ i, kPr τ (kEc (τ 0 a) i) a (.float (g i)) ∧ kPn (τ 0 a) i (pv a i) (.float (g i))) ∧
  (∀ a, kAk (τ 0 a) = some 3 → ∃ g : Nat → Int64, f a = .inl (dA 3, τ 3 a, .inr (.inl g)) ∧ pv a 0 = .long (g 0)) ∧
  (∀ a, kAk (τ 0 a) = some 4 → ∃ g : Nat → UInt64, f a = .inl (dA 4, τ 3 a, .inr (.inr (.inr (.inl g))))) ∧
  (∀ a k, kAk (τ 0 a) = some k → 5 ≤ k → ∃ g : Nat → Option Nat, f a = .inl (dA k, τ 3 a, .inr (.inr (.inr (.inr g)))) ∧ ∀ i, kPr τ (kEc (τ 0 a) i) a (va_rf (g i)) ∧ kPn (τ 0 a) i (pv a i) (va_rf (g i)))
def kup (pv : Nat → Nat → Value) (a k : Nat) (w : Value) : Nat → Nat → Value := fun b j => if b = a ∧ j = k then w else pv b j
theorem kup_self {pv : Nat → Nat → Value} {a k : Nat} {w : Value} : kup pv a k w a k = w := by simp [kup]
theorem kup_ne {pv : Nat → Nat → Value} {a k b j : Nat} {w : Value} (h : b ≠ a ∨ j ≠ k) : kup pv a k w b j = pv b j := by
  unfold kup
  rw [if_neg]
  intro h2
  rcases h with h | h
  · exact h h2.1
  · exact h h2.2
theorem kPn_pin {t k : Nat} {w v : Value} (hb : kPb t k = true) : kPn t k w v ↔ v = w := by unfold kPn; rw [if_pos hb]
theorem kPn_not {t k : Nat} {w v : Value} (hb : kPb t k = false) (h : t ≠ 29) : kPn t k w v := by
  unfold kPn
  rw [if_neg (by rw [hb]; decide), if_neg h]
  trivial
theorem kCi_ne0 {t ci : Nat} (h : kCi t = some ci) : t ≠ 0 := by
  intro e
  rw [e] at h
  cases h
theorem kAk_ne0 {t k : Nat} (h : kAk t = some k) : t ≠ 0 := by
  intro e
  rw [e] at h
  cases h
theorem kCi_kAk {t ci k : Nat} (h : kCi t = some ci) (h2 : kAk t = some k) : False := by
  unfold kCi at h
  split at h <;> first | (cases h2) | (cases h)
section KI
variable {dA : Nat → ClassId} {τ : Nat → Nat → Nat} {pv pv' : Nat → Nat → Value} {L : List Nat} {f : Nat → va_E} {a t ci : Nat}
theorem kI.obj (h : kI dA τ pv L f) (ha : τ 0 a = t) (hc : kCi t = some ci) : a ∈ L ∧ ∃ vals, f a = .inr (ci, vals) ∧ kO τ pv t a vals := by
  subst ha
  exact ⟨h.1 a (kCi_ne0 hc), h.2.1 a ci hc⟩
theorem kI.put {vals' : List Value} (h : kI dA τ pv L f) (ha : τ 0 a = t) (hc : kCi t = some ci) (hpv : ∀ b j, b ≠ a → pv' b j = pv b j) (hO : kO τ pv' t a vals') : kI dA τ pv' L (va_up f a (.inr (ci, vals'))) := by
  obtain ⟨h1, h2, h3, h4, h5, h6, h7, h8⟩ := h
  have na : ∀ b k, kAk (τ 0 b) = some k → b ≠ a := by
    intro b k hb e
    subst e
    rw [ha] at hb
    exact kCi_kAk hc hb
  refine ⟨h1, fun b cj hb => ?_, h3, fun b k hb hk => ?_, fun b hb => ?_, fun b hb => ?_, fun b hb => ?_, fun b k hb hk => ?_⟩
  · by_cases e : b = a
    · subst e
      rw [ha] at hb ⊢
      cases Option.some.inj (hb.symm.trans hc)
      exact ⟨vals', va_up_self _ _ _, hO⟩
    · obtain ⟨vs, g1, g2, g3⟩ := h2 b cj hb
      refine ⟨vs, by rw [va_up_ne _ _ e]; exact g1, g2, fun k v hk => ?_⟩
      rw [hpv b k e]
      exact g3 k v hk
  · have e := na b k hb
    obtain ⟨g, g1, g2⟩ := h4 b k hb hk
    exact ⟨g, by rw [va_up_ne _ _ e]; exact g1, fun i => by rw [hpv b i e]; exact g2 i⟩
  · have e := na b 2 hb
    obtain ⟨g, g1, g2⟩ := h5 b hb
    exact ⟨g, by rw [va_up_ne _ _ e]; exact g1, fun i => by rw [hpv b i e]; exact g2 i⟩
  · have e := na b 3 hb
    obtain ⟨g, g1, g2⟩ := h6 b hb
    exact ⟨g, by rw [va_up_ne _ _ e]; exact g1, (hpv b 0 e).trans g2⟩
  · have e := na b 4 hb
    obtain ⟨g, g1⟩ := h7 b hb
    exact ⟨g, by rw [va_up_ne _ _ e]; exact g1⟩
  · have e := na b k hb
    obtain ⟨g, g1, g2⟩ := h8 b k hb hk
    exact ⟨g, by rw [va_up_ne _ _ e]; exact g1, fun i => by rw [hpv b i e]; exact g2 i⟩
theorem kO.set {vals : List Value} {k : Nat} {v : Value} (h : kO τ pv t a vals) (hpv : ∀ j, j ≠ k → pv' a j = pv a j) (hp : kPr τ ((kDl t).getD k 0) a v) (hn : kPn t k (pv' a k) v) : kO τ pv' t a (vals.set k v) := by
  obtain ⟨h1, h2⟩ := h
  refine ⟨by rw [List.length_set]; exact h1, fun j w hj => ?_⟩
  by_cases e : j = k
  · subst e
    have hl : j < (vals.set j v).length := (List.getElem?_eq_some_iff.mp hj).1
    rw [List.length_set] at hl
    rw [List.getElem?_set_self hl] at hj
    cases hj
    exact ⟨hp, hn⟩
  · rw [List.getElem?_set_ne (Ne.symm e)] at hj
    rw [hpv j e]
    exact h2 j w hj
theorem kI.arr {k : Nat} (h : kI dA τ pv L f) (ha : τ 0 a = t) (hk : kAk t = some k) : a ∈ L ∧ kLk t (τ 3 a) ∧ τ 3 a < 2 ^ 31 := by
  subst ha
  exact ⟨h.1 a (kAk_ne0 hk), h.2.2.1 a k hk, kLk_lt (h.2.2.1 a k hk)⟩
theorem kI.putA {k : Nat} {e : va_E} (h : kI dA τ pv L f) (ha : τ 0 a = t) (hk : kAk t = some k) (hpv : ∀ b j, b ≠ a → pv' b j = pv b j)
    (hi : k ≤ 1 → ∃ g : Nat → Int32, e = .inl (dA k, τ 3 a, .inl g) ∧ ∀ i, kPr τ (kEc t i) a (.int (g i)) ∧ kPn t i (pv' a i) (.int (g i)))
    (hf : k = 2 → ∃ g : Nat → UInt32, e = .inl (dA 2, τ 3 a, .inr (.inr (.inl g))) ∧ ∀ i, kPr τ (kEc t i) a (.float (g i)) ∧ kPn t i (pv' a i) (.float (g i)))
    (hl : k = 3 → ∃ g : Nat → Int64, e = .inl (dA 3, τ 3 a, .inr (.inl g)) ∧ pv' a 0 = .long (g 0)) (hd : k = 4 → ∃ g : Nat → UInt64, e = .inl (dA 4, τ 3 a, .inr (.inr (.inr (.inl g)))))
    (hr : 5 ≤ k → ∃ g : Nat → Option Nat, e = .inl (dA k, τ 3 a, .inr (.inr (.inr (.inr g)))) ∧ ∀ i, kPr τ (kEc t i) a (va_rf (g i)) ∧ kPn t i (pv' a i) (va_rf (g i))) : kI dA τ pv' L (va_up f a e) := by
  obtain ⟨h1, h2, h3, h4, h5, h6, h7, h8⟩ := h
  have na : ∀ b cj, kCi (τ 0 b) = some cj → b ≠ a := by
    intro b cj hb e
    subst e
    rw [ha] at hb
    exact kCi_kAk hb hk
  refine ⟨h1, fun b cj hb => ?_, h3, fun b k2 hb hk2 => ?_, fun b hb => ?_, fun b hb => ?_, fun b hb => ?_, fun b k2 hb hk2 => ?_⟩
  · have e := na b cj hb
    obtain ⟨vs, g1, g2, g3⟩ := h2 b cj hb
    refine ⟨vs, by rw [va_up_ne _ _ e]; exact g1, g2, fun k v hk => ?_⟩
    rw [hpv b k e]
    exact g3 k v hk
  · by_cases e : b = a
    · subst e
      rw [ha] at hb ⊢
      cases Option.some.inj (hb.symm.trans hk)
      rw [va_up_self]
      exact hi hk2
    · obtain ⟨g, g1, g2⟩ := h4 b k2 hb hk2
      exact ⟨g, by rw [va_up_ne _ _ e]; exact g1, fun i => by rw [hpv b i e]; exact g2 i⟩
  · by_cases e : b = a
    · subst e
      rw [ha] at hb ⊢
      cases Option.some.inj (hb.symm.trans hk)
      rw [va_up_self]
      exact hf rfl
    · obtain ⟨g, g1, g2⟩ := h5 b hb
      exact ⟨g, by rw [va_up_ne _ _ e]; exact g1, fun i => by rw [hpv b i e]; exact g2 i⟩
  · by_cases e : b = a
    · subst e
      rw [ha] at hb
      cases Option.some.inj (hb.symm.trans hk)
      rw [va_up_self]
      exact hl rfl
    · obtain ⟨g, g1, g2⟩ := h6 b hb
      exact ⟨g, by rw [va_up_ne _ _ e]; exact g1, (hpv b 0 e).trans g2⟩
  · by_cases e : b = a
    · subst e
      rw [ha] at hb
      cases Option.some.inj (hb.symm.trans hk)
      rw [va_up_self]
      exact hd rfl
    · obtain ⟨g, g1⟩ := h7 b hb
      exact ⟨g, by rw [va_up_ne _ _ e]; exact g1⟩
  · by_cases e : b = a
    · subst e
      rw [ha] at hb ⊢
      cases Option.some.inj (hb.symm.trans hk)
      rw [va_up_self]
      exact hr hk2
    · obtain ⟨g, g1, g2⟩ := h8 b k2 hb hk2
      exact ⟨g, by rw [va_up_ne _ _ e]; exact g1, fun i => by rw [hpv b i e]; exact g2 i⟩
end KI
def kvl (e : va_E) (k : Nat) : Option Value := match e with
  | .inr o => o.2[k]?
  | .inl _ => none
def kva (e : va_E) (j : Nat) : Option Int32 := match e with
  | .inl (_, _, .inl g) => some (g j)
  | _ => none
def kvf (e : va_E) (j : Nat) : Option UInt32 := match e with
  | .inl (_, _, .inr (.inr (.inl g))) => some (g j)
  | _ => none
section KQ
variable {τ : Nat → Nat → Nat} {Wf P : Value → Prop} {cd a : Nat}
theorem kPr_F {c : Nat} {v : Value} (h : 1000000 < c) : kPr τ c a v ↔ ∃ x : UInt32, v = .float x ∧ fb c x := by unfold kPr; rw [if_pos h]
theorem kPr_N {t : Nat} {v : Value} (h : t < 100) : kPr τ (200 + t) a v ↔ (v = .null ∨ ∃ q : Nat, v = .ref q ∧ τ 0 q = t) := by
  unfold kPr
  rw [if_neg (by omega), if_pos (by omega), show 200 + t - 200 = t by omega]
theorem kPr_R {t : Nat} {v : Value} (h : t < 100) : kPr τ (100 + t) a v ↔ ∃ q : Nat, v = .ref q ∧ τ 0 q = t := by
  unfold kPr
  rw [if_neg (by omega), if_neg (by omega), if_pos (by omega), show 100 + t - 100 = t by omega]
theorem kPr_S {c : Nat} {v : Value} (h : c < 100) : kPr τ c a v ↔ kPs τ c a v := by
  unfold kPr
  rw [if_neg (by omega), if_neg (by omega), if_neg (by omega)]
theorem kq_F (hM : 1000000 < cd) (k : ∀ x : UInt32, fb cd x → Wf (.float x)) : ∀ v, kPr τ cd a v → P v → Wf v := by
  intro v hv _
  obtain ⟨x, rfl, hx⟩ := (kPr_F hM).mp hv
  exact k x hx
theorem kq_G (k : ∀ x : UInt32, Wf (.float x)) : ∀ v, kPr τ 2 a v → P v → Wf v := by
  intro v hv _
  obtain ⟨x, rfl⟩ := (kPr_S (by decide)).mp hv
  exact k x
theorem kq_I (k : ∀ i : Int32, Wf (.int i)) : ∀ v, kPr τ 0 a v → P v → Wf v := by
  intro v hv _
  obtain ⟨i, rfl⟩ := (kPr_S (by decide)).mp hv
  exact k i
theorem kq_Z (k : ∀ i : Int32, (i = 0 ∨ i = 1) → Wf (.int i)) : ∀ v, kPr τ 1 a v → P v → Wf v := by
  intro v hv _
  obtain ⟨i, rfl, hi⟩ := (kPr_S (by decide)).mp hv
  exact k i hi
theorem kq_R (t : Nat) (ht : t < 100) (k : ∀ q : Nat, τ 0 q = t → Wf (.ref q)) : ∀ v, kPr τ (100 + t) a v → P v → Wf v := by
  intro v hv _
  obtain ⟨q, rfl, hq⟩ := (kPr_R ht).mp hv
  exact k q hq
theorem kq_N (t : Nat) (ht : t < 100) (k0 : Wf .null) (k1 : ∀ q : Nat, τ 0 q = t → Wf (.ref q)) : ∀ v, kPr τ (200 + t) a v → P v → Wf v := by
  intro v hv _
  rcases (kPr_N ht).mp hv with rfl | ⟨q, rfl, hq⟩
  · exact k0
  · exact k1 q hq
theorem kq_P {t k9 : Nat} {w v0 : Value} (hb : kPb t k9 = true) (hw : w = v0) {X : Value → Prop} (k : kPr τ cd a v0 → Wf v0) : ∀ v, kPr τ cd a v → (kPn t k9 w v ∧ X v) → Wf v := by
  intro v hv hn
  have e := ((kPn_pin hb).mp hn.1).trans hw
  subst e
  exact k hv
theorem kq_E {X Y : Value → Prop} {o : Option Value} {v0 : Value} (h0 : o = some v0) (k : Wf v0) : ∀ v, X v → (Y v ∧ o = some v) → Wf v := by
  intro v _ h
  cases Option.some.inj (h0.symm.trans h.2)
  exact k
theorem kq_C (hc : cd < 100) (k : ∀ v, kPs τ cd a v → Wf v) : ∀ v, kPr τ cd a v → P v → Wf v := fun v hv _ => k v ((kPr_S hc).mp hv)
theorem kv_F {x : UInt32} (hM : 1000000 < cd) (h : fb cd x) : kPr τ cd a (.float x) := (kPr_F hM).mpr ⟨x, rfl, h⟩
theorem kv_R {q : Nat} (t : Nat) (ht : t < 100) (h : τ 0 q = t) : kPr τ (100 + t) a (.ref q) := (kPr_R ht).mpr ⟨q, rfl, h⟩
theorem kv_N {q : Nat} (t : Nat) (ht : t < 100) (h : τ 0 q = t) : kPr τ (200 + t) a (.ref q) := (kPr_N ht).mpr (Or.inr ⟨q, rfl, h⟩)
theorem kv_N0 (t : Nat) (ht : t < 100) : kPr τ (200 + t) a .null := (kPr_N ht).mpr (Or.inl rfl)
theorem kv_I (i : Int32) : kPr τ 0 a (.int i) := (kPr_S (by decide)).mpr ⟨i, rfl⟩
theorem kv_Z {i : Int32} (h : i = 0 ∨ i = 1) : kPr τ 1 a (.int i) := (kPr_S (by decide)).mpr ⟨i, rfl, h⟩
theorem kv_G (x : UInt32) : kPr τ 2 a (.float x) := (kPr_S (by decide)).mpr ⟨x, rfl⟩
theorem kv_S {v : Value} (hc : cd < 100) (h : kPs τ cd a v) : kPr τ cd a v := (kPr_S hc).mpr h
end KQ
def tyA (dA : Nat → ClassId) : List (ClassId × FieldType) := [(dA 0, .int), (dA 1, .boolean), (dA 2, .float), (dA 3, .long), (dA 4, .double), (dA 5, .object "java/lang/Object"), (dA 6, .object "IslandSolver$Row")]
section KP
variable {p : Program} {l : Launch} {e : Env} {R : Room} {s : State} {m : MethodId} {args : Array Value} {below : List Frame} {meth : Method} {c : Code} {H : Heap} {locs : List Loc} {cells slots : Nat} {Q : State → Prop}
variable {cc : ByteArray} {pc : Nat} {ls : Array Slot} {rest : List Value} {D : va_G} {cl : List vw_C} {A : Nat → Prop} {a : Nat} {tys : List (ClassId × FieldType)} {H0 : Heap}
variable {dA : Nat → ClassId} {τ : Nat → Nat → Nat} {pv : Nat → Nat → Value} {L : List Nat} {f : Nat → va_E} {t : Nat}
theorem kpl_get (h : a ∈ L) : ∃ k : Nat, (va_pl L f)[k]? = some (a, f a) := va_pl_get (X := []) h
theorem kpl_set {k : Nat} {e : va_E} (hD : va_D A (va_pl L f)) (h : a ∈ L) (hk : (va_pl L f)[k]? = some (a, f a)) : (va_pl L f).set k (a, e) = va_pl L (va_up f a e) := va_pl_set (X := []) hD h hk
theorem kp_get (hexec : p.tables.exec = Jvm.exec) (hb : c.code = cc) {own ref C : String} {T : u_T} {N ci index : Nat} {Ts : List Cond} (hts : ∀ w ∈ Ts, w.before args s = true) (hin : ∀ w ∈ u_ws C T N, w ∈ Ts) (hown : s.vm.findClass own = some m.cls) (hK : va_K D cl tys s) (hP : va_P D cl (va_pl L f) H) (hI : kI dA τ pv L f) (ha : τ 0 a = t) (hci : kCi t = some ci) (hc : cl[ci]? = some (C, T, N)) (k : Nat) (hk : k < N) (hkl : k < (kDl t).length)
    (hlink : (Cond.fieldLink own index ref (T k).2.1 (T k).2.2.1).before args s = true) (hsame : ∀ x, s.fieldFound? (T k).1 (T k).2.1 (T k).2.2.1 = some x → s.fieldFound? ref (T k).2.1 (T k).2.2.1 = some x) (hdg : decode cc pc = .ok (.getfield index, 3))
    (kk : ∀ v, kPr τ ((kDl t).getD k 0) a v → (kPn t k (pv a k) v ∧ kvl (f a) k = some v) → W p l e R s m args below meth c H locs cells slots Q (F0 m (pc + 3) ls (v :: rest))) : W p l e R s m args below meth c H locs cells slots Q (F0 m pc ls (.ref a :: rest)) := by
  obtain ⟨hm, vals, hf, hl, hv⟩ := hI.obj ha hci
  obtain ⟨q0, hq0⟩ := kpl_get (f := f) hm
  rw [hf] at hq0
  have hlt : k < vals.length := by omega
  have hvk : vals[k]? = some vals[k] := List.getElem?_eq_getElem hlt
  obtain ⟨g1, g2⟩ := hv k _ hvk
  exact va_get hexec hb hts hin hown hK hP q0 hq0 hc k hk hlink hsame hvk hdg (kk _ g1 ⟨g2, by rw [hf]; exact hvk⟩)
theorem kp_putX {pv' : Nat → Nat → Value} (hexec : p.tables.exec = Jvm.exec) (hb : c.code = cc) {own ref C : String} {T : u_T} {N ci index : Nat} {Ts : List Cond} (hts : ∀ w ∈ Ts, w.before args s = true) (hin : ∀ w ∈ u_ws C T N, w ∈ Ts) (ty0 : Nat → FieldType) (hty : ∀ k, k < N → parseFieldDescriptor (T k).2.2.1 = some (ty0 k)) (hnm : ∀ a, a < N → ∀ b, b < N → a ≠ b → (T a).2.1 ≠ (T b).2.1) (hown : s.vm.findClass own = some m.cls) (hK : va_K D cl tys s) (hP : va_P D cl (va_pl L f) H) (hD : va_D A (va_pl L f)) (hS : va_S A H0 H locs) (hI : kI dA τ pv L f) (ha : τ 0 a = t) (hci : kCi t = some ci) (hc : cl[ci]? = some (C, T, N)) (k : Nat) (hk : k < N) (hkl : k < (kDl t).length)
    (hlink : (Cond.fieldLink own index ref (T k).2.1 (T k).2.2.1).before args s = true) (hsame : ∀ x, s.fieldFound? (T k).1 (T k).2.1 (T k).2.2.1 = some x → s.fieldFound? ref (T k).2.1 (T k).2.2.1 = some x) (hfin : (T k).2.2.2 = false) {ty : FieldType} {v : Value} (hd : parseFieldDescriptor (T k).2.2.1 = some ty) (hn : narrow ty v = v) (hfit : fits ty v = true) (hpv : ∀ b j, (b ≠ a ∨ j ≠ k) → pv' b j = pv b j) (hp : kPr τ ((kDl t).getD k 0) a v) (hpn : kPn t k (pv' a k) v)
    (hdg : decode cc pc = .ok (.putfield index, 3)) (kk : ∀ (f' : Nat → va_E) (H1 : Heap) (locs1 : List Loc), kI dA τ pv' L f' → va_P D cl (va_pl L f') H1 → va_D A (va_pl L f') → va_S A H0 H1 locs1 → W p l e R s m args below meth c H1 locs1 cells slots Q (F0 m (pc + 3) ls rest)) : W p l e R s m args below meth c H locs cells slots Q (F0 m pc ls (v :: .ref a :: rest)) := by
  obtain ⟨hm, vals, hf, hO⟩ := hI.obj ha hci
  obtain ⟨q0, hq0⟩ := kpl_get (f := f) hm
  have hq1 := hq0
  rw [hf] at hq1
  have hlt : k < vals.length := by rw [hO.1]; exact hkl
  refine va_put hexec hb hts hin ty0 hty hnm hown hK hP hD hS q0 hq1 hc k hk hlink hsame hfin hd hn hfit hlt hdg (fun H1 locs1 g1 g2 g3 => ?_)
  rw [kpl_set hD hm hq0] at g1 g2
  exact kk _ H1 locs1 (hI.put ha hci (fun b j hb => hpv b j (Or.inl hb)) (hO.set (fun j hj => hpv a j (Or.inr hj)) hp hpn)) g1 g2 g3
theorem kp_put (hexec : p.tables.exec = Jvm.exec) (hb : c.code = cc) {own ref C : String} {T : u_T} {N ci index : Nat} {Ts : List Cond} (hts : ∀ w ∈ Ts, w.before args s = true) (hin : ∀ w ∈ u_ws C T N, w ∈ Ts) (ty0 : Nat → FieldType) (hty : ∀ k, k < N → parseFieldDescriptor (T k).2.2.1 = some (ty0 k)) (hnm : ∀ a, a < N → ∀ b, b < N → a ≠ b → (T a).2.1 ≠ (T b).2.1) (hown : s.vm.findClass own = some m.cls) (hK : va_K D cl tys s) (hP : va_P D cl (va_pl L f) H) (hD : va_D A (va_pl L f)) (hS : va_S A H0 H locs) (hI : kI dA τ pv L f) (ha : τ 0 a = t) (hci : kCi t = some ci) (hc : cl[ci]? = some (C, T, N)) (k : Nat) (hk : k < N) (hkl : k < (kDl t).length)
    (hlink : (Cond.fieldLink own index ref (T k).2.1 (T k).2.2.1).before args s = true) (hsame : ∀ x, s.fieldFound? (T k).1 (T k).2.1 (T k).2.2.1 = some x → s.fieldFound? ref (T k).2.1 (T k).2.2.1 = some x) (hfin : (T k).2.2.2 = false) {ty : FieldType} {v : Value} (hd : parseFieldDescriptor (T k).2.2.1 = some ty) (hn : narrow ty v = v) (hfit : fits ty v = true) (hpb : kPb t k = false) (h29 : t ≠ 29) (hp : kPr τ ((kDl t).getD k 0) a v)
    (hdg : decode cc pc = .ok (.putfield index, 3)) (kk : ∀ (f' : Nat → va_E) (H1 : Heap) (locs1 : List Loc), kI dA τ pv L f' → va_P D cl (va_pl L f') H1 → va_D A (va_pl L f') → va_S A H0 H1 locs1 → W p l e R s m args below meth c H1 locs1 cells slots Q (F0 m (pc + 3) ls rest)) : W p l e R s m args below meth c H locs cells slots Q (F0 m pc ls (v :: .ref a :: rest)) :=
  kp_putX (pv' := pv) hexec hb hts hin ty0 hty hnm hown hK hP hD hS hI ha hci hc k hk hkl hlink hsame hfin hd hn hfit (fun _ _ _ => rfl) hp (kPn_not hpb h29) hdg kk
theorem kp_putP (hexec : p.tables.exec = Jvm.exec) (hb : c.code = cc) {own ref C : String} {T : u_T} {N ci index : Nat} {Ts : List Cond} (hts : ∀ w ∈ Ts, w.before args s = true) (hin : ∀ w ∈ u_ws C T N, w ∈ Ts) (ty0 : Nat → FieldType) (hty : ∀ k, k < N → parseFieldDescriptor (T k).2.2.1 = some (ty0 k)) (hnm : ∀ a, a < N → ∀ b, b < N → a ≠ b → (T a).2.1 ≠ (T b).2.1) (hown : s.vm.findClass own = some m.cls) (hK : va_K D cl tys s) (hP : va_P D cl (va_pl L f) H) (hD : va_D A (va_pl L f)) (hS : va_S A H0 H locs) (hI : kI dA τ pv L f) (ha : τ 0 a = t) (hci : kCi t = some ci) (hc : cl[ci]? = some (C, T, N)) (k : Nat) (hk : k < N) (hkl : k < (kDl t).length)
    (hlink : (Cond.fieldLink own index ref (T k).2.1 (T k).2.2.1).before args s = true) (hsame : ∀ x, s.fieldFound? (T k).1 (T k).2.1 (T k).2.2.1 = some x → s.fieldFound? ref (T k).2.1 (T k).2.2.1 = some x) (hfin : (T k).2.2.2 = false) {ty : FieldType} {v : Value} (hd : parseFieldDescriptor (T k).2.2.1 = some ty) (hn : narrow ty v = v) (hfit : fits ty v = true) (hpb : kPb t k = true) (hp : kPr τ ((kDl t).getD k 0) a v)
    (hdg : decode cc pc = .ok (.putfield index, 3)) (kk : ∀ (f' : Nat → va_E) (H1 : Heap) (locs1 : List Loc), kI dA τ (kup pv a k v) L f' → va_P D cl (va_pl L f') H1 → va_D A (va_pl L f') → va_S A H0 H1 locs1 → W p l e R s m args below meth c H1 locs1 cells slots Q (F0 m (pc + 3) ls rest)) : W p l e R s m args below meth c H locs cells slots Q (F0 m pc ls (v :: .ref a :: rest)) :=
  kp_putX (pv' := kup pv a k v) hexec hb hts hin ty0 hty hnm hown hK hP hD hS hI ha hci hc k hk hkl hlink hsame hfin hd hn hfit (fun _ _ h => kup_ne h) hp ((kPn_pin hpb).mpr kup_self.symm) hdg kk
end KP
