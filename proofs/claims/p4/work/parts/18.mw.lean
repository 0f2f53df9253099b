def kon : Nat → Int32
  | 0 => 0
  | _ + 1 => 1
def kMr (pv : Nat → Nat → Value) (fa sa aa mb r : Nat) : Prop := ∃ a b t : Nat, pv fa r = .int (nI a) ∧ a < mb ∧ pv sa r = .int (kmi b) ∧ b ≤ mb ∧ pv aa r = .int (kmi t) ∧ t ≤ r ∧ (∀ k, t = k + 1 → pv aa k = .int (-1))
def kMd (τ : Nat → Nat → Nat) (pv : Nat → Nat → Value) (mm fa sa aa ia sf mb mr mk mi : Nat) : Prop :=
  (τ 0 mm = 14 ∧ pv mm 1 = .int (nI mb) ∧ pv mm 6 = .int (nI mr) ∧ pv mm 19 = .int (nI mk) ∧ pv mm 7 = .ref fa ∧ pv mm 8 = .ref sa ∧ pv mm 15 = .ref aa ∧ pv mm 17 = .ref ia ∧ τ 0 fa = 19 ∧ τ 0 sa = 20 ∧ τ 0 aa = 27 ∧ τ 0 ia = 29 ∧ pv mm 18 = .ref sf ∧ τ 0 sf = 30) ∧ mb ≤ 256 ∧ mr ≤ 1024 ∧ mk ≤ 1024 ∧ mi ≤ mr ∧ (∀ r, r < mr → kMr pv fa sa aa mb r) ∧ (∀ r t, r < mi → pv aa r = .int (kmi t) → t ≤ 1024 → pv ia r = .int (kon t))
def kPy (mr t k : Nat) : Bool := match t with
  | 14 => k == 1 || k == 6 || k == 19 || k == 7 || k == 8 || k == 15 || k == 17 || k == 18
  | 19 => decide (k < mr)
  | 20 => decide (k < mr)
  | 27 => decide (k < mr)
  | 29 => decide (k < mr)
  | _ => false
def kPq (t k : Nat) : Bool := match t with
  | 14 => k != 0 && k != 28
  | 30 => false
  | _ => true
theorem kPy_q (mr t k : Nat) (h : kPy mr t k = true) : kPq t k = true := by
  unfold kPy at h
  split at h
  · simp only [Bool.or_eq_true, beq_iff_eq] at h
    rcases h with ((((((h | h) | h) | h) | h) | h) | h) | h <;> rw [h] <;> rfl
  · rfl
  · rfl
  · rfl
  · rfl
  · cases h
theorem kPy_m (mr t k : Nat) (h : kPy mr t k = true) : kPmC t k = true := by
  unfold kPy at h
  split at h <;> first | rfl | cases h
theorem kPx_q (t k : Nat) (h : kPx t k = true) : kPq t k = true := by
  have h := of_decide_eq_true h
  unfold kPq
  split
  · have e : k = 26 := by omega
    rw [e]
    rfl
  · omega
  · rfl
theorem kmi_inj {a b : Nat} (ha : a < 2 ^ 31) (hb : b < 2 ^ 31) (h : kmi a = kmi b) : a = b := by
  cases a with
  | zero => exact (kmi_m1 hb h.symm).symm
  | succ k =>
    cases b with
    | zero => exact kmi_m1 ha h
    | succ j => rw [(nI_eq (by omega) (by omega)).mp h]
section KMD
variable {τ τ' : Nat → Nat → Nat} {pv pv' : Nat → Nat → Value} {mm fa sa aa ia sf mb mr mk mi : Nat}
theorem kMd.tm (h : kMd τ pv mm fa sa aa ia sf mb mr mk mi) : τ 0 mm = 14 := h.1.1
theorem kMd.p1 (h : kMd τ pv mm fa sa aa ia sf mb mr mk mi) : pv mm 1 = .int (nI mb) := h.1.2.1
theorem kMd.p6 (h : kMd τ pv mm fa sa aa ia sf mb mr mk mi) : pv mm 6 = .int (nI mr) := h.1.2.2.1
theorem kMd.p19 (h : kMd τ pv mm fa sa aa ia sf mb mr mk mi) : pv mm 19 = .int (nI mk) := h.1.2.2.2.1
theorem kMd.p7 (h : kMd τ pv mm fa sa aa ia sf mb mr mk mi) : pv mm 7 = .ref fa := h.1.2.2.2.2.1
theorem kMd.p8 (h : kMd τ pv mm fa sa aa ia sf mb mr mk mi) : pv mm 8 = .ref sa := h.1.2.2.2.2.2.1
theorem kMd.p15 (h : kMd τ pv mm fa sa aa ia sf mb mr mk mi) : pv mm 15 = .ref aa := h.1.2.2.2.2.2.2.1
theorem kMd.p17 (h : kMd τ pv mm fa sa aa ia sf mb mr mk mi) : pv mm 17 = .ref ia := h.1.2.2.2.2.2.2.2.1
theorem kMd.tf (h : kMd τ pv mm fa sa aa ia sf mb mr mk mi) : τ 0 fa = 19 := h.1.2.2.2.2.2.2.2.2.1
theorem kMd.ts (h : kMd τ pv mm fa sa aa ia sf mb mr mk mi) : τ 0 sa = 20 := h.1.2.2.2.2.2.2.2.2.2.1
theorem kMd.ta (h : kMd τ pv mm fa sa aa ia sf mb mr mk mi) : τ 0 aa = 27 := h.1.2.2.2.2.2.2.2.2.2.2.1
theorem kMd.ti (h : kMd τ pv mm fa sa aa ia sf mb mr mk mi) : τ 0 ia = 29 := h.1.2.2.2.2.2.2.2.2.2.2.2.1
theorem kMd.p18 (h : kMd τ pv mm fa sa aa ia sf mb mr mk mi) : pv mm 18 = .ref sf := h.1.2.2.2.2.2.2.2.2.2.2.2.2.1
theorem kMd.tsf (h : kMd τ pv mm fa sa aa ia sf mb mr mk mi) : τ 0 sf = 30 := h.1.2.2.2.2.2.2.2.2.2.2.2.2.2
theorem kMd.lb (h : kMd τ pv mm fa sa aa ia sf mb mr mk mi) : mb ≤ 256 := h.2.1
theorem kMd.lr (h : kMd τ pv mm fa sa aa ia sf mb mr mk mi) : mr ≤ 1024 := h.2.2.1
theorem kMd.lk (h : kMd τ pv mm fa sa aa ia sf mb mr mk mi) : mk ≤ 1024 := h.2.2.2.1
theorem kMd.li (h : kMd τ pv mm fa sa aa ia sf mb mr mk mi) : mi ≤ mr := h.2.2.2.2.1
theorem kMd.rw {r : Nat} (h : kMd τ pv mm fa sa aa ia sf mb mr mk mi) (hr : r < mr) : kMr pv fa sa aa mb r := h.2.2.2.2.2.1 r hr
theorem kMd.im {r t : Nat} (h : kMd τ pv mm fa sa aa ia sf mb mr mk mi) (hr : r < mi) (ht : pv aa r = .int (kmi t)) (hl : t ≤ 1024) : pv ia r = .int (kon t) := h.2.2.2.2.2.2 r t hr ht hl
theorem kMd.frw (h : kMd τ pv mm fa sa aa ia sf mb mr mk mi) (hF : kFr (kPy mr) τ pv τ' pv') : kMd τ' pv' mm fa sa aa ia sf mb mr mk mi := by
  obtain ⟨⟨g1, g2, g3, g4, g5, g6, g7, g8, g9, g10, g11, g12, g13, g14⟩, h2, h3, h4, h5, h6, h7⟩ := h
  have fF : ∀ r, r < mr → pv' fa r = pv fa r := fun r hr => hF.pn g9 (decide_eq_true hr)
  have fS : ∀ r, r < mr → pv' sa r = pv sa r := fun r hr => hF.pn g10 (decide_eq_true hr)
  have fA : ∀ r, r < mr → pv' aa r = pv aa r := fun r hr => hF.pn g11 (decide_eq_true hr)
  have fI : ∀ r, r < mr → pv' ia r = pv ia r := fun r hr => hF.pn g12 (decide_eq_true hr)
  refine ⟨⟨hF.ty g1, (hF.pn g1 rfl).trans g2, (hF.pn g1 rfl).trans g3, (hF.pn g1 rfl).trans g4, (hF.pn g1 rfl).trans g5, (hF.pn g1 rfl).trans g6, (hF.pn g1 rfl).trans g7, (hF.pn g1 rfl).trans g8, hF.ty g9, hF.ty g10, hF.ty g11, hF.ty g12, (hF.pn g1 rfl).trans g13, hF.ty g14⟩, h2, h3, h4, h5, fun r hr => ?_, fun r t hr ht hl => ?_⟩
  · obtain ⟨a, b, t, k1, k2, k3, k4, k5, k6, k7⟩ := h6 r hr
    exact ⟨a, b, t, (fF r hr).trans k1, k2, (fS r hr).trans k3, k4, (fA r hr).trans k5, k6, fun k hk => (fA k (by omega)).trans (k7 k hk)⟩
  · have hr2 : r < mr := by omega
    exact (fI r hr2).trans (h7 r t hr ((fA r hr2).symm.trans ht) hl)
theorem kMd.frq (h : kMd τ pv mm fa sa aa ia sf mb mr mk mi) (hF : kFr kPq τ pv τ' pv') : kMd τ' pv' mm fa sa aa ia sf mb mr mk mi := h.frw (hF.weak (kPy_q mr))
theorem kMd.frm (h : kMd τ pv mm fa sa aa ia sf mb mr mk mi) (hF : kFr kPmC τ pv τ' pv') : kMd τ' pv' mm fa sa aa ia sf mb mr mk mi := h.frw (hF.weak (kPy_m mr))
theorem kMd.ne (h : kMd τ pv mm fa sa aa ia sf mb mr mk mi) : fa ≠ mm ∧ sa ≠ mm ∧ aa ≠ mm ∧ ia ≠ mm := by
  have e := h.tm
  refine ⟨fun e2 => ?_, fun e2 => ?_, fun e2 => ?_, fun e2 => ?_⟩
  · have := h.tf; rw [e2, e] at this; cases this
  · have := h.ts; rw [e2, e] at this; cases this
  · have := h.ta; rw [e2, e] at this; cases this
  · have := h.ti; rw [e2, e] at this; cases this
theorem kMd.incB (h : kMd τ pv mm fa sa aa ia sf mb mr mk mi) (hb : mb < 256) : kMd τ (kup pv mm 1 (.int (nI (mb + 1)))) mm fa sa aa ia sf (mb + 1) mr mk mi := by
  obtain ⟨n1, n2, n3, n4⟩ := h.ne
  obtain ⟨⟨g1, g2, g3, g4, g5, g6, g7, g8, g9, g10, g11, g12, g13, g14⟩, h2, h3, h4, h5, h6, h7⟩ := h
  refine ⟨⟨g1, kup_self, (kup_ne (Or.inr (by decide))).trans g3, (kup_ne (Or.inr (by decide))).trans g4, (kup_ne (Or.inr (by decide))).trans g5, (kup_ne (Or.inr (by decide))).trans g6, (kup_ne (Or.inr (by decide))).trans g7, (kup_ne (Or.inr (by decide))).trans g8, g9, g10, g11, g12, (kup_ne (Or.inr (by decide))).trans g13, g14⟩, hb, h3, h4, h5, fun r hr => ?_, fun r t hr ht hl => ?_⟩
  · obtain ⟨a, b, t, k1, k2, k3, k4, k5, k6, k7⟩ := h6 r hr
    exact ⟨a, b, t, (kup_ne (Or.inl n1)).trans k1, by omega, (kup_ne (Or.inl n2)).trans k3, by omega, (kup_ne (Or.inl n3)).trans k5, k6, fun k hk => (kup_ne (Or.inl n3)).trans (k7 k hk)⟩
  · exact (kup_ne (Or.inl n4)).trans (h7 r t hr ((kup_ne (Or.inl n3)).symm.trans ht) hl)
theorem kMd.setK {k9 : Nat} (h : kMd τ pv mm fa sa aa ia sf mb mr mk mi) (hb : k9 ≤ 1024) : kMd τ (kup pv mm 19 (.int (nI k9))) mm fa sa aa ia sf mb mr k9 mi := by
  obtain ⟨n1, n2, n3, n4⟩ := h.ne
  obtain ⟨⟨g1, g2, g3, g4, g5, g6, g7, g8, g9, g10, g11, g12, g13, g14⟩, h2, h3, h4, h5, h6, h7⟩ := h
  refine ⟨⟨g1, (kup_ne (Or.inr (by decide))).trans g2, (kup_ne (Or.inr (by decide))).trans g3, kup_self, (kup_ne (Or.inr (by decide))).trans g5, (kup_ne (Or.inr (by decide))).trans g6, (kup_ne (Or.inr (by decide))).trans g7, (kup_ne (Or.inr (by decide))).trans g8, g9, g10, g11, g12, (kup_ne (Or.inr (by decide))).trans g13, g14⟩, h2, h3, hb, h5, fun r hr => ?_, fun r t hr ht hl => ?_⟩
  · obtain ⟨a, b, t, k1, k2, k3, k4, k5, k6, k7⟩ := h6 r hr
    exact ⟨a, b, t, (kup_ne (Or.inl n1)).trans k1, by omega, (kup_ne (Or.inl n2)).trans k3, by omega, (kup_ne (Or.inl n3)).trans k5, k6, fun k hk => (kup_ne (Or.inl n3)).trans (k7 k hk)⟩
  · exact (kup_ne (Or.inl n4)).trans (h7 r t hr ((kup_ne (Or.inl n3)).symm.trans ht) hl)
theorem kMd.setR0 (h : kMd τ pv mm fa sa aa ia sf mb mr mk mi) : kMd τ (kup pv mm 6 (.int 0)) mm fa sa aa ia sf mb 0 mk 0 := by
  obtain ⟨⟨g1, g2, g3, g4, g5, g6, g7, g8, g9, g10, g11, g12, g13, g14⟩, h2, h3, h4, h5, h6, h7⟩ := h
  exact ⟨⟨g1, (kup_ne (Or.inr (by decide))).trans g2, kup_self, (kup_ne (Or.inr (by decide))).trans g4, (kup_ne (Or.inr (by decide))).trans g5, (kup_ne (Or.inr (by decide))).trans g6, (kup_ne (Or.inr (by decide))).trans g7, (kup_ne (Or.inr (by decide))).trans g8, g9, g10, g11, g12, (kup_ne (Or.inr (by decide))).trans g13, g14⟩, h2, by omega, h4, by omega, fun r hr => absurd hr (Nat.not_lt_zero r), fun r t hr => absurd hr (Nat.not_lt_zero r)⟩
theorem kMd.pushR (h : kMd τ pv mm fa sa aa ia sf mb mr mk mi) (hr : mr < 1024) (hn : kMr pv fa sa aa mb mr) : kMd τ (kup pv mm 6 (.int (nI (mr + 1)))) mm fa sa aa ia sf mb (mr + 1) mk mi := by
  obtain ⟨n1, n2, n3, n4⟩ := h.ne
  obtain ⟨⟨g1, g2, g3, g4, g5, g6, g7, g8, g9, g10, g11, g12, g13, g14⟩, h2, h3, h4, h5, h6, h7⟩ := h
  refine ⟨⟨g1, (kup_ne (Or.inr (by decide))).trans g2, kup_self, (kup_ne (Or.inr (by decide))).trans g4, (kup_ne (Or.inr (by decide))).trans g5, (kup_ne (Or.inr (by decide))).trans g6, (kup_ne (Or.inr (by decide))).trans g7, (kup_ne (Or.inr (by decide))).trans g8, g9, g10, g11, g12, (kup_ne (Or.inr (by decide))).trans g13, g14⟩, h2, hr, h4, by omega, fun r hr => ?_, fun r t hr ht hl => ?_⟩
  · have hk : kMr pv fa sa aa mb r := by
      by_cases e : r = mr
      · rw [e]; exact hn
      · exact h6 r (by omega)
    obtain ⟨a, b, t, k1, k2, k3, k4, k5, k6, k7⟩ := hk
    exact ⟨a, b, t, (kup_ne (Or.inl n1)).trans k1, k2, (kup_ne (Or.inl n2)).trans k3, k4, (kup_ne (Or.inl n3)).trans k5, k6, fun k hk => (kup_ne (Or.inl n3)).trans (k7 k hk)⟩
  · exact (kup_ne (Or.inl n4)).trans (h7 r t hr ((kup_ne (Or.inl n3)).symm.trans ht) hl)
theorem kMd.pushI {t : Nat} (h : kMd τ pv mm fa sa aa ia sf mb (mr + 1) mk mr) (ht : pv aa mr = .int (kmi t)) (hl : t ≤ 1024) : kMd τ (kup pv ia mr (.int (kon t))) mm fa sa aa ia sf mb (mr + 1) mk (mr + 1) := by
  obtain ⟨n1, n2, n3, n4⟩ := h.ne
  have nf : fa ≠ ia := fun e => by have := h.tf; rw [e, h.ti] at this; cases this
  have ns : sa ≠ ia := fun e => by have := h.ts; rw [e, h.ti] at this; cases this
  have na : aa ≠ ia := fun e => by have := h.ta; rw [e, h.ti] at this; cases this
  obtain ⟨⟨g1, g2, g3, g4, g5, g6, g7, g8, g9, g10, g11, g12, g13, g14⟩, h2, h3, h4, h5, h6, h7⟩ := h
  have um : ∀ k, kup pv ia mr (.int (kon t)) mm k = pv mm k := fun k => kup_ne (Or.inl n4.symm)
  refine ⟨⟨g1, (um _).trans g2, (um _).trans g3, (um _).trans g4, (um _).trans g5, (um _).trans g6, (um _).trans g7, (um _).trans g8, g9, g10, g11, g12, (um _).trans g13, g14⟩, h2, h3, h4, Nat.le_refl _, fun r hr => ?_, fun r t2 hr ht2 hl2 => ?_⟩
  · obtain ⟨a, b, t, k1, k2, k3, k4, k5, k6, k7⟩ := h6 r hr
    exact ⟨a, b, t, (kup_ne (Or.inl nf)).trans k1, k2, (kup_ne (Or.inl ns)).trans k3, k4, (kup_ne (Or.inl na)).trans k5, k6, fun k hk => (kup_ne (Or.inl na)).trans (k7 k hk)⟩
  · have ht3 : pv aa r = .int (kmi t2) := (kup_ne (Or.inl na)).symm.trans ht2
    by_cases e : r = mr
    · rw [e] at ht3 ⊢
      have e2 : kmi t = kmi t2 := Value.int.inj (ht.symm.trans ht3)
      rw [kup_self, kmi_inj (by omega) (by omega) e2]
    · exact (kup_ne (Or.inr e)).trans (h7 r t2 (by omega) ht3 hl2)
end KMD
theorem ka_29 {τ : Nat → Nat → Nat} {a j : Nat} {w : Value} {Wf : UInt32 → Prop} (k : ∀ x, fb 1224736768 x → (w = .int 0 → fb 1199570944 x) → Wf x) : ∀ x, kPr τ (kEc 29 j) a (.float x) → kPn 29 j w (.float x) → Wf x := by
  intro x h hn
  obtain ⟨y, hy, h2⟩ := (kPr_F (show 1000000 < kEc 29 j by show 1000000 < 1224736768; decide)).mp h
  cases hy
  refine k x h2 (fun hw => ?_)
  unfold kPn at hn
  rw [if_neg (show ¬ kPb 29 j = true by show ¬ false = true; decide), if_pos rfl] at hn
  obtain ⟨z, hz, h3⟩ := hn hw
  cases hz
  exact h3
theorem kPn_29 {k : Nat} {w : Value} {x : UInt32} (h : w = .int 0 → fb 1199570944 x) : kPn 29 k w (.float x) := by
  unfold kPn
  rw [if_neg (show ¬ kPb 29 k = true by show ¬ false = true; decide), if_pos rfl]
  exact fun hw => ⟨x, rfl, h hw⟩
theorem knt {τ : Nat → Nat → Nat} {a b t u : Nat} (h1 : τ 0 a = t) (h2 : τ 0 b = u) (h : t ≠ u := by decide) : a ≠ b := fun e => h (by rw [← h1, ← h2, e])
def kPostM (dA : Nat → ClassId) (τ : Nat → Nat → Nat) (pv : Nat → Nat → Value) (mm fa sa aa ia sf mb mr : Nat) (u : kS) : Prop := ∃ (pv2 : Nat → Nat → Value) (mk : Nat), kFr kPx τ pv τ pv2 ∧ kMd τ pv2 mm fa sa aa ia sf mb mr mk mr ∧ kI dA τ pv2 u.1 u.2
theorem ka_LF {τ : Nat → Nat → Nat} {a j : Nat} {w : Value} {Wf : UInt32 → Prop} (k : ∀ x, w = .float x → fb 1241513984 x → Wf x) : ∀ x, kPr τ (kEc 30 j) a (.float x) → kPn 30 j w (.float x) → Wf x := by
  intro x h hn
  obtain ⟨y, hy, h2⟩ := (kPr_F (show 1000000 < kEc 30 j by show 1000000 < 1241513984; decide)).mp h
  cases hy
  exact k x ((kPn_pin rfl).mp hn).symm h2
theorem ka_PF {τ : Nat → Nat → Nat} {a j : Nat} {w : Value} {x0 : UInt32} {Wf : UInt32 → Prop} (hw : w = .float x0) (k : fb 1241513984 x0 → Wf x0) : ∀ x, kPr τ (kEc 30 j) a (.float x) → kPn 30 j w (.float x) → Wf x := ka_LF (fun x hx h => by cases hx.symm.trans hw; exact k h)
theorem ka_FE {τ : Nat → Nat → Nat} {a cd c0 : Nat} {o : Option UInt32} {P3 Wf : UInt32 → Prop} (he : c0 = cd) (hM : 1000000 < cd) (k : ∀ x, o = some x → fb cd x → Wf x) : ∀ x, kPr τ c0 a (.float x) → (P3 x ∧ o = some x) → Wf x := by
  intro x h h9
  subst he
  obtain ⟨y, hy, h2⟩ := (kPr_F hM).mp h
  cases hy
  exact k x h9.2 h2
theorem ka_EF {o : Option UInt32} {X Y Wf : UInt32 → Prop} {x0 : UInt32} (h0 : o = some x0) (k : Wf x0) : ∀ x, X x → (Y x ∧ o = some x) → Wf x := by
  intro x _ h
  cases Option.some.inj (h0.symm.trans h.2)
  exact k
theorem ka_15 {τ : Nat → Nat → Nat} {a j : Nat} {P3 Wf : UInt32 → Prop} (k : ∀ x, fb 1535115264 x → Wf x) : ∀ x, kPr τ (kEc 15 j) a (.float x) → P3 x → Wf x := by
  intro x h _
  have e : kEc 15 j = 1535115264 ∨ kEc 15 j = 1098907648 := by
    show (if j % 13 < 6 then 1535115264 else 1098907648) = 1535115264 ∨ (if j % 13 < 6 then 1535115264 else 1098907648) = 1098907648
    split
    · exact Or.inl rfl
    · exact Or.inr rfl
  rcases e with e | e
  · obtain ⟨y, hy, h2⟩ := (kPr_F (show 1000000 < kEc 15 j by rw [e]; decide)).mp h
    cases hy
    rw [e] at h2
    exact k x h2
  · obtain ⟨y, hy, h2⟩ := (kPr_F (show 1000000 < kEc 15 j by rw [e]; decide)).mp h
    cases hy
    rw [e] at h2
    exact k x (fb_le h2 (by decide))
theorem kv_15z {τ : Nat → Nat → Nat} {a j : Nat} : kPr τ (kEc 15 j) a (.float FP.fconst0) := by
  have e : kEc 15 j = 1535115264 ∨ kEc 15 j = 1098907648 := by
    show (if j % 13 < 6 then 1535115264 else 1098907648) = 1535115264 ∨ (if j % 13 < 6 then 1535115264 else 1098907648) = 1098907648
    split
    · exact Or.inl rfl
    · exact Or.inr rfl
  rcases e with e | e <;> rw [e] <;> exact kv_F (by decide) (fb_le kc_0 (by decide))
theorem kl_cut {p : Program} {l : Launch} {e : Env} {R : Room} {s : State} {m : MethodId} {args : Array Value} {below : List Frame} {meth : Method} {c : Code} {cells slots : Nat} {Q : State → Prop} {P : Nat} {H0 : Heap} {locs0 : List Loc} {g0 : JFrame} (Inv : (Nat → Nat → Value) → List Nat → (Nat → va_E) → Heap → List Loc → Array Slot → Prop)
    (h1 : ∀ pv L f H locs ls, Inv pv L f H locs ls → W p l e R s m args below meth c H locs cells slots Q (F0 m P ls [])) (h2 : (∀ pv L f H locs ls, Inv pv L f H locs ls → W p l e R s m args below meth c H locs cells slots Q (F0 m P ls [])) → W p l e R s m args below meth c H0 locs0 cells slots Q g0) : W p l e R s m args below meth c H0 locs0 cells slots Q g0 := h2 h1
theorem kz_rgn {x : Int32} {n : Nat} (h0 : -1 ≤ x.toInt) (h1 : x.toInt < n) (h : ¬ x < 0) (hn : n < 2 ^ 31) : ∃ j : Nat, j < n ∧ x = nI j := by
  refine kn_rg ?_ h1 hn
  have h2 := Int32.le_iff_toInt_le.mp (Int32.not_lt.mp h)
  rw [show (0 : Int32).toInt = 0 by decide] at h2
  exact h2
def kPostT (dA : Nat → ClassId) (τ : Nat → Nat → Nat) (pv : Nat → Nat → Value) (mm fa sa aa ia sf mb mr : Nat) (c : Int32) (u : kS) : Prop := ∃ (pv2 : Nat → Nat → Value) (mk : Nat), kFr kPx τ pv τ pv2 ∧ kMd τ pv2 mm fa sa aa ia sf mb mr mk mr ∧ pv2 mm 0 = .int c ∧ kI dA τ pv2 u.1 u.2
def kPostR (dA : Nat → ClassId) (τ : Nat → Nat → Nat) (pv : Nat → Nat → Value) (mm fa sa aa ia sf mb mr : Nat) (c r v : Int32) (u : kS) : Prop := ∃ (pv2 : Nat → Nat → Value) (mk : Nat), kFr kPx τ pv τ pv2 ∧ kMd τ pv2 mm fa sa aa ia sf mb mr mk mr ∧ pv2 mm 0 = .int c ∧ (c = 0 → r = v) ∧ kI dA τ pv2 u.1 u.2
def kPostU (dA : Nat → ClassId) (τ : Nat → Nat → Nat) (pv : Nat → Nat → Value) (mm fa sa aa ia sf mb mr : Nat) (c r n : Int32) (u : kS) : Prop := ∃ (pv2 : Nat → Nat → Value) (mk : Nat), kFr kPx0 τ pv τ pv2 ∧ kMd τ pv2 mm fa sa aa ia sf mb mr mk mr ∧ pv2 mm 0 = .int c ∧ (c = 0 → pv mm 26 = .int r ∧ pv2 mm 26 = .int n) ∧ (c ≠ 0 → pv2 mm 26 = pv mm 26) ∧ kI dA τ pv2 u.1 u.2
def kPostQ (dA : Nat → ClassId) (τ : Nat → Nat → Nat) (pv : Nat → Nat → Value) (mm fa sa aa ia sf mb mr : Nat) (mr2 : Nat) (c r v n k at9 : Int32) (u : kS) : Prop := ∃ (pv2 : Nat → Nat → Value) (mk : Nat), kFr (kPxr mr) τ pv τ pv2 ∧ kMd τ pv2 mm fa sa aa ia sf mb mr2 mk mr2 ∧ pv2 mm 0 = .int c ∧ (c = 0 → r = v) ∧ (c = 0 → pv2 fa mr = .int n ∧ pv2 sa mr = .int k ∧ pv2 aa mr = .int at9) ∧ kI dA τ pv2 u.1 u.2
theorem kPxr_q (mr t k : Nat) (h : kPxr mr t k = true) : kPq t k = true ∨ True := Or.inr trivial
