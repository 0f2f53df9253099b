def kmv (w xx yy zz : UInt32) : Nat := if (decide (0 < Op.cmpValue (FP.fcmp w FP.fconst0) .l) || decide (0 < Op.cmpValue (FP.fcmp (FP.fadd (FP.fadd xx yy) zz) FP.fconst0) .l)) = true then 1 else 0
theorem kmv_le {w xx yy zz : UInt32} : kmv w xx yy zz ≤ 1 := by
  unfold kmv
  split <;> omega
def ksum (fl : Nat → Nat) (a : Nat) : Nat → Nat
  | 0 => 0
  | i + 1 => ksum fl a i + (if a ≤ i then fl i else 0)
theorem ksum_s (fl : Nat → Nat) {a i : Nat} (h : a ≤ i) : ksum fl a (i + 1) = ksum fl a i + fl i := by
  show ksum fl a i + (if a ≤ i then fl i else 0) = _
  rw [if_pos h]
theorem ksum_0 (fl : Nat → Nat) {a : Nat} : ∀ i, i ≤ a → ksum fl a i = 0 := by
  intro i
  induction i with
  | zero => intro _; rfl
  | succ i ih =>
    intro h
    show ksum fl a i + (if a ≤ i then fl i else 0) = 0
    rw [ih (by omega), if_neg (by omega)]
def kgn (fl : Nat → Nat) (n k : Int32) : Int32 := nI (ksum fl n.toNatClampNeg (k.toNatClampNeg + 1))
theorem kgn_n {fl : Nat → Nat} {a b i c : Nat} (ha : a < 2 ^ 31) (hb : b < 2 ^ 31) (hi : i = b + 1) (hc : c = ksum fl a i) : nI c = kgn fl (nI a) (nI b) := by
  unfold kgn
  rw [nI_clamp ha, nI_clamp hb, hc, hi]
def kc_gain (n k : Int32) (nb : Nat) (a b c : UInt32) : Int32 := if (kKn n nb && (kKn k nb && !decide (k < n))) = true then (if kz_any a b c 1115684864 = true then 0 else 2) else 1
def kBf (pv : Nat → Nat → Value) (ma i v : Nat) : Prop := ∃ w xx yy zz : UInt32, pv ma (13 * i + 6) = .float w ∧ pv ma (13 * i + 7) = .float xx ∧ pv ma (13 * i + 8) = .float yy ∧ pv ma (13 * i + 9) = .float zz ∧ v = kmv w xx yy zz
theorem kBf.mv {pv pv2 : Nat → Nat → Value} {ma i v : Nat} (h : kBf pv ma i v) (he : ∀ k, k < 13 * (i + 1) → pv2 ma k = pv ma k) : kBf pv2 ma i v := by
  obtain ⟨w, xx, yy, zz, h1, h2, h3, h4, h5⟩ := h
  exact ⟨w, xx, yy, zz, (he _ (by omega)).trans h1, (he _ (by omega)).trans h2, (he _ (by omega)).trans h3, (he _ (by omega)).trans h4, h5⟩
def kFl (τ : Nat → Nat → Nat) (pv : Nat → Nat → Value) (ba ma nb : Nat) (fl : Nat → Nat) : Prop := (∀ i q, i < nb → pv ba i = .ref q → τ 4 q = fl i) ∧ (∀ i, i < nb → kBf pv ma i (fl i))
theorem kFl.x {P : Nat → Nat → Bool} {τ τ2 : Nat → Nat → Nat} {pv pv2 : Nat → Nat → Value} {ad x bl rl kl ba ba2 ra ka fr ma nb nr nk : Nat} {fl : Nat → Nat} (h : kFl τ pv ba ma nb fl) (hF : kFr P τ pv τ2 pv2) (hP : ∀ t k, kPmD t k = true → P t k = true) (tma : τ 0 ma = 15) (hW : kW τ pv ad x bl rl kl ba ra ka fr nb nr nk) (hB : ∀ i, i < nb → pv2 ba2 i = pv ba i) : kFl τ2 pv2 ba2 ma nb fl := by
  obtain ⟨h1, h2⟩ := h
  refine ⟨fun i q hi hq => ?_, fun i hi => (h2 i hi).mv (fun k _ => hF.pn tma (hP _ _ rfl))⟩
  rw [hB i hi] at hq
  obtain ⟨q2, k1, k2, k3, k4⟩ := hW.lb.at hi
  obtain rfl := kref (k3.symm.trans hq)
  exact (hF.tj k4 (j := 4)).trans (h1 i q2 hi hq)
theorem kFl.m {τ : Nat → Nat → Nat} {pv pv2 : Nat → Nat → Value} {ad x bl rl kl ba ra ka fr ma nb nr nk nb2 mb : Nat} {fl : Nat → Nat} (h : kFl τ pv ba ma nb fl) (hF : kFr (kPxt mb) τ pv τ pv2) (tma : τ 0 ma = 15) (hW : kW τ pv ad x bl rl kl ba ra ka fr nb2 nr nk) (hb : nb ≤ nb2) (hm : nb ≤ mb) : kFl τ pv2 ba ma nb fl := by
  obtain ⟨h1, h2⟩ := h
  refine ⟨fun i q hi hq => ?_, fun i hi => (h2 i hi).mv (fun k hk => hF.pn tma (decide_eq_true (by omega)))⟩
  rw [hW.eqB hF (fun _ => rfl) i (by omega)] at hq
  exact h1 i q hi hq
theorem kFl.push {c : Int32} {τ : Nat → Nat → Nat} {pv : Nat → Nat → Value} {ba ma nb v : Nat} {fl : Nat → Nat} (h : kFl τ pv ba ma nb fl) (hX : c = 0 → ∃ q, pv ba nb = .ref q ∧ τ 4 q = v) (hM : c = 0 → kBf pv ma nb v) : ∃ fl2, kFl τ pv ba ma (kinc c nb) fl2 := by
  by_cases hc : c = 0
  · rw [kinc_0 hc]
    obtain ⟨h1, h2⟩ := h
    obtain ⟨q9, e1, e2⟩ := hX hc
    refine ⟨fun i => if i = nb then v else fl i, fun i q hi hq => ?_, fun i hi => ?_⟩
    · by_cases e : i = nb
      · show τ 4 q = if i = nb then v else fl i
        rw [if_pos e]
        rw [e, e1] at hq
        cases hq
        exact e2
      · show τ 4 q = if i = nb then v else fl i
        rw [if_neg e]
        exact h1 i q (by omega) hq
    · show kBf pv ma i (if i = nb then v else fl i)
      by_cases e : i = nb
      · rw [if_pos e, e]
        exact hM hc
      · rw [if_neg e]
        exact h2 i (by omega)
  · rw [kinc_1 hc]
    exact ⟨fl, h⟩
def kPostB (dA : Nat → ClassId) (τ : Nat → Nat → Nat) (pv : Nat → Nat → Value) (ad x ba ra nb nr nb2 nr2 v : Nat) (u : kS) : Prop := ∃ (τ2 : Nat → Nat → Nat) (pv2 : Nat → Nat → Value) (bl rl kl ba2 ra2 ka fr nk : Nat), kFr kPmC τ pv τ2 pv2 ∧ kW τ2 pv2 ad x bl rl kl ba2 ra2 ka fr nb2 nr2 nk ∧ (∀ i, i < nb → pv2 ba2 i = pv ba i) ∧ (∀ i, i < nr → i < nr2 → pv2 ra2 i = pv ra i) ∧ (∃ q, pv2 ba2 nb = .ref q ∧ τ2 0 q = 1 ∧ τ2 4 q = v) ∧ kI dA τ2 pv2 u.1 u.2
def kPostC (dA : Nat → ClassId) (τ : Nat → Nat → Nat) (pv : Nat → Nat → Value) (ad x ba ra nb nr nb2 nr2 o : Nat) (c : Int32) (w : Value) (v : Nat) (u : kS) : Prop := ∃ (τ2 : Nat → Nat → Nat) (pv2 : Nat → Nat → Value) (bl rl kl ba2 ra2 ka fr nk : Nat), kFr kPmC τ pv τ2 pv2 ∧ kW τ2 pv2 ad x bl rl kl ba2 ra2 ka fr nb2 nr2 nk ∧ (∀ i, i < nb → pv2 ba2 i = pv ba i) ∧ (∀ i, i < nr → i < nr2 → pv2 ra2 i = pv ra i) ∧ (c = 0 → pv2 o 0 = w) ∧ (c = 0 → ∃ q, pv2 ba2 nb = .ref q ∧ τ2 4 q = v) ∧ kI dA τ2 pv2 u.1 u.2
