def kgB (nm mv : Nat) : Nat → Nat := fun j => if j = 0 then 1 else if j = 1 then nm else if j = 4 then mv else 0
def kgR (ix at_ qa qb : Nat) : Nat → Nat := fun j => if j = 0 then 2 else if j = 1 then ix else if j = 2 then at_ else if j = 5 then qa else if j = 6 then qb else 0
def kb0 : List Value := [.int 0, .int 0, .float 0, .float 0, .float 0, .float 0, .float 0, .float 0, .float 0, .null, .null, .int 0, .int 0, .int 0, .int 0, .null]
def kr0 : List Value := [.null, .null, .null, .null, .null, .float 0, .float 0, .float 0, .float 0, .null, .float 0, .int 0, .float 0, .float 0, .int 0, .null, .null, .null]
section KMK
variable {dA : Nat → ClassId} {τ : Nat → Nat → Nat} {pv : Nat → Nat → Value} {L : List Nat} {f : Nat → va_E} {a q : Nat}
theorem kI.rawB (h : kI dA τ pv L f) (hq : q ∉ L) : kI dA (kxt τ q (fun j => if j = 0 then 40 else 0)) (kux pv q (fun k => kb0.getD k .null)) (L ++ [q]) (va_up f q (.inr (1, kb0))) := by
  refine h.newR 40 (Or.inl rfl) rfl hq rfl (fun k v hk => ?_)
  match k, hk with
  | 0, hk => cases hk; exact kv_I _
  | 1, hk => cases hk; exact kv_I _
  | 2, hk => cases hk; exact kv_G _
  | 3, hk => cases hk; exact kv_G _
  | 4, hk => cases hk; exact kv_G _
  | 5, hk => cases hk; exact kv_G _
  | 6, hk => cases hk; exact kv_G _
  | 7, hk => cases hk; exact kv_G _
  | 8, hk => cases hk; exact kv_G _
  | 9, hk => cases hk; exact kv_S (by decide) ⟨none, rfl⟩
  | 10, hk => cases hk; exact kv_S (by decide) ⟨none, rfl⟩
  | 11, hk => cases hk; exact kv_I _
  | 12, hk => cases hk; exact kv_I _
  | 13, hk => cases hk; exact kv_I _
  | 14, hk => cases hk; exact kv_I _
  | 15, hk => cases hk; exact kv_S (by decide) ⟨none, rfl⟩
  | k + 16, hk => simp [kb0] at hk
theorem kI.rawR (h : kI dA τ pv L f) (hq : q ∉ L) : kI dA (kxt τ q (fun j => if j = 0 then 41 else 0)) (kux pv q (fun k => kr0.getD k .null)) (L ++ [q]) (va_up f q (.inr (2, kr0))) := by
  refine h.newR 41 (Or.inr rfl) rfl hq rfl (fun k v hk => ?_)
  match k, hk with
  | 0, hk => cases hk; exact kv_S (by decide) ⟨none, rfl⟩
  | 1, hk => cases hk; exact kv_S (by decide) ⟨none, rfl⟩
  | 2, hk => cases hk; exact kv_S (by decide) ⟨none, rfl⟩
  | 3, hk => cases hk; exact kv_S (by decide) ⟨none, rfl⟩
  | 4, hk => cases hk; exact kv_S (by decide) ⟨none, rfl⟩
  | 5, hk => cases hk; exact kv_G _
  | 6, hk => cases hk; exact kv_G _
  | 7, hk => cases hk; exact kv_G _
  | 8, hk => cases hk; exact kv_G _
  | 9, hk => cases hk; exact kv_S (by decide) ⟨none, rfl⟩
  | 10, hk => cases hk; exact kv_G _
  | 11, hk => cases hk; exact kv_I _
  | 12, hk => cases hk; exact kv_G _
  | 13, hk => cases hk; exact kv_G _
  | 14, hk => cases hk; exact kv_I _
  | 15, hk => cases hk; exact kv_S (by decide) ⟨none, rfl⟩
  | 16, hk => cases hk; exact kv_S (by decide) ⟨none, rfl⟩
  | 17, hk => cases hk; exact kv_S (by decide) ⟨none, rfl⟩
  | k + 18, hk => simp [kr0] at hk
theorem kI.mkBody (h : kI dA τ pv L f) (ha : τ 0 a = 40) {nm mv qv qs : Nat} {x2 x3 x4 x5 : UInt32} (hnm : nm < 256) (hmv : mv ≤ 1) (p0 : pv a 0 = .int (nI nm)) (p1 : pv a 1 = .int (nI mv)) (p2 : pv a 2 = .float x2) (p3 : pv a 3 = .float x3) (p4 : pv a 4 = .float x4) (p5 : pv a 5 = .float x5) (p6 : pv a 6 = .float 0) (p7 : pv a 7 = .float 0) (p8 : pv a 8 = .float 0) (f2 : fb 1098907648 x2) (f3 : fb 1098907648 x3) (f4 : fb 1098907648 x4) (f5 : fb 1098907648 x5) (p9 : pv a 9 = .ref qv) (tv : τ 0 qv = 3) (p10 : pv a 10 = .ref qs) (ts : τ 0 qs = 3) (p11 : pv a 11 = .int 0) (p12 : pv a 12 = .int 0) (p13 : pv a 13 = .int 0) (p14 : pv a 14 = .int (-1)) (p15 : pv a 15 = .null) : kI dA (kxt τ a (kgB nm mv)) pv L f := by
  have z : fb 1098907648 0 := Nat.zero_le _
  have nv : qv ≠ a := fun e => by rw [e, ha] at tv; cases tv
  have ns : qs ≠ a := fun e => by rw [e, ha] at ts; cases ts
  have e1 : kxt τ a (kgB nm mv) 1 a = nm := kxt_self 1
  have e4 : kxt τ a (kgB nm mv) 4 a = mv := kxt_self 4
  refine h.retype (t' := 1) (kgB nm mv) ha (by decide) rfl rfl rfl rfl rfl (by decide) (fun _ => rfl) (fun k hk => ?_)
  match k, hk with
  | 0, _ => rw [p0]; exact kv_S (by decide) ⟨by rw [e1], by rw [e1]; exact hnm⟩
  | 1, _ => rw [p1]; exact kv_S (by decide) ⟨by rw [e4], by rw [e4]; exact hmv⟩
  | 2, _ => rw [p2]; exact kv_F (by decide) f2
  | 3, _ => rw [p3]; exact kv_F (by decide) f3
  | 4, _ => rw [p4]; exact kv_F (by decide) f4
  | 5, _ => rw [p5]; exact kv_F (by decide) f5
  | 6, _ => rw [p6]; exact kv_F (by decide) z
  | 7, _ => rw [p7]; exact kv_F (by decide) z
  | 8, _ => rw [p8]; exact kv_F (by decide) z
  | 9, _ => rw [p9]; exact kv_R 3 (by decide) ((kxt_ne nv 0).trans tv)
  | 10, _ => rw [p10]; exact kv_R 3 (by decide) ((kxt_ne ns 0).trans ts)
  | 11, _ => rw [p11]; exact kv_Z (Or.inl rfl)
  | 12, _ => rw [p12]; exact kv_I _
  | 13, _ => rw [p13]; exact kv_I _
  | 14, _ => rw [p14]; exact kv_I _
  | 15, _ => rw [p15]; exact kv_S (by decide) (Or.inl rfl)
  | k + 16, hk => exact absurd hk (by show ¬ k + 16 < 16; omega)
def kRaw (τ : Nat → Nat → Nat) (pv : Nat → Nat → Value) (a qa qb : Nat) : Prop := ∃ (qn qp qq q1 q2 : Nat) (tg : UInt32) (ky : Int32), pv a 0 = .ref qa ∧ pv a 1 = kRf qb ∧ pv a 2 = .ref qn ∧ pv a 3 = .ref qp ∧ pv a 4 = .ref qq ∧ pv a 5 = .float tg ∧ pv a 6 = .float 0 ∧ pv a 7 = .float 0 ∧ pv a 8 = .float 0 ∧ pv a 9 = .null ∧ pv a 10 = .float 0 ∧ pv a 11 = .int ky ∧ pv a 12 = .float 0 ∧ pv a 13 = .float 0 ∧ pv a 14 = .int 0 ∧ pv a 15 = .ref q1 ∧ pv a 16 = .ref q2 ∧ pv a 17 = .null ∧ fb 1149239296 tg ∧ τ 0 qa = 1 ∧ (∀ b, qb = b + 1 → τ 0 b = 1) ∧ τ 0 qn = 4 ∧ τ 0 qp = 4 ∧ τ 0 qq = 4 ∧ τ 0 q1 = 5 ∧ τ 0 q2 = 5
theorem kI.mkRow (h : kI dA τ pv L f) (ha : τ 0 a = 41) {ix at_ qa qb : Nat} {qn qp qq q1 q2 : Nat} {tg sf lo hi fc : UInt32} {ky : Int32} (p0 : pv a 0 = .ref qa) (p1 : pv a 1 = kRf qb) (p2 : pv a 2 = .ref qn) (p3 : pv a 3 = .ref qp) (p4 : pv a 4 = .ref qq) (p5 : pv a 5 = .float tg) (p6 : pv a 6 = .float sf) (p7 : pv a 7 = .float lo) (p8 : pv a 8 = .float hi) (p9 : pv a 9 = kRf at_) (p10 : pv a 10 = .float fc) (p11 : pv a 11 = .int ky) (p12 : pv a 12 = .float 0) (p13 : pv a 13 = .float 0) (p14 : pv a 14 = .int 0) (p15 : pv a 15 = .ref q1) (p16 : pv a 16 = .ref q2) (p17 : pv a 17 = .null) (f5 : fb 1149239296 tg) (f6 : fb 1115684864 sf) (f7 : fb 1199570944 lo) (f8 : fb 1199570944 hi) (f10 : fb 1090519040 fc) (t0 : τ 0 qa = 1) (t1 : ∀ b, qb = b + 1 → τ 0 b = 1) (t2 : τ 0 qn = 4) (t3 : τ 0 qp = 4) (t4 : τ 0 qq = 4) (t9 : ∀ b, at_ = b + 1 → τ 0 b = 2 ∧ τ 2 b = 0) (t15 : τ 0 q1 = 5) (t16 : τ 0 q2 = 5) : kI dA (kxt τ a (kgR ix at_ qa qb)) pv L f := by
  have z : ∀ M, fb M 0 := fun M => Nat.zero_le _
  have ne : ∀ b t, τ 0 b = t → t < 40 → b ≠ a := fun b t h1 h2 e => by rw [e, ha] at h1; omega
  have e2 : kxt τ a (kgR ix at_ qa qb) 2 a = at_ := kxt_self 2
  have e5 : kxt τ a (kgR ix at_ qa qb) 5 a = qa := kxt_self 5
  have e6 : kxt τ a (kgR ix at_ qa qb) 6 a = qb := kxt_self 6
  have tt : ∀ b t, τ 0 b = t → t < 40 → kxt τ a (kgR ix at_ qa qb) 0 b = t := fun b t h1 h2 => (kxt_ne (ne b t h1 h2) 0).trans h1
  refine h.retype (t' := 2) (kgR ix at_ qa qb) ha (by decide) rfl rfl rfl rfl rfl (by decide) (fun _ => rfl) (fun k hk => ?_)
  match k, hk with
  | 0, _ => rw [p0]; exact kv_S (by decide) ⟨by rw [e5], by rw [e5]; exact tt _ 1 t0 (by decide)⟩
  | 1, _ => rw [p1]; exact kv_S (by decide) ⟨by rw [e6], fun b hb => tt _ 1 (t1 b (e6 ▸ hb)) (by decide)⟩
  | 2, _ => rw [p2]; exact kv_R 4 (by decide) (tt _ 4 t2 (by decide))
  | 3, _ => rw [p3]; exact kv_R 4 (by decide) (tt _ 4 t3 (by decide))
  | 4, _ => rw [p4]; exact kv_R 4 (by decide) (tt _ 4 t4 (by decide))
  | 5, _ => rw [p5]; exact kv_F (by decide) f5
  | 6, _ => rw [p6]; exact kv_F (by decide) f6
  | 7, _ => rw [p7]; exact kv_F (by decide) f7
  | 8, _ => rw [p8]; exact kv_F (by decide) f8
  | 9, _ =>
    rw [p9]
    refine kv_S (by decide) ⟨by rw [e2], fun b hb => ?_⟩
    obtain ⟨g1, g2⟩ := t9 b (e2 ▸ hb)
    have nb := ne b 2 g1 (by decide)
    exact ⟨(kxt_ne nb 0).trans g1, (kxt_ne nb 2).trans g2, nb⟩
  | 10, _ => rw [p10]; exact kv_F (by decide) f10
  | 11, _ => rw [p11]; exact kv_I _
  | 12, _ => rw [p12]; exact kv_S (by decide) ⟨0, rfl, z _, fun _ => z _⟩
  | 13, _ => rw [p13]; exact kv_F (by decide) (z _)
  | 14, _ => rw [p14]; exact kv_Z (Or.inl rfl)
  | 15, _ => rw [p15]; exact kv_R 5 (by decide) (tt _ 5 t15 (by decide))
  | 16, _ => rw [p16]; exact kv_R 5 (by decide) (tt _ 5 t16 (by decide))
  | 17, _ => rw [p17]; exact kv_N0 2 (by decide)
  | k + 18, hk => exact absurd hk (by show ¬ k + 18 < 18; omega)
end KMK
section KAD
variable {τ τ2 : Nat → Nat → Nat} {pv pv2 : Nat → Nat → Value} {ad x bl rl kl ba ra ka fr nb nr nk e9 a2 : Nat}
theorem kFr.add {P : Nat → Nat → Bool} {l9 a9 tl ta : Nat} (hl : τ 0 l9 = tl) (ha : τ 0 a9 = ta ∨ τ 0 a9 = 0) (htl : ∀ k, P tl k = false) (hta : ∀ k, P ta k = false) (h1 : ∀ b, τ 0 b ≠ 0 → ∀ j, τ2 j b = τ j b) (h3 : ∀ b k, τ 0 b ≠ 0 → b ≠ l9 → b ≠ a9 → pv2 b k = pv b k) : kFr P τ pv τ2 pv2 := by
  intro b h0 _
  refine ⟨h1 b h0, fun k hk => h3 b k h0 (fun e => ?_) (fun e => ?_)⟩
  · rw [e, hl, htl] at hk
    cases hk
  · rcases ha with h | h
    · rw [e, h, hta] at hk
      cases hk
    · exact h0 (by rw [e]; exact h)
theorem kW.addB (hW : kW τ pv ad x bl rl kl ba ra ka fr nb nr nk) (hnb : nb < 256) (had : τ 0 ad = 0) (te : τ 0 e9 = 1) (te1 : τ 1 e9 = nb) (h1 : ∀ b, τ 0 b ≠ 0 → ∀ j, τ2 j b = τ j b) (h2 : a2 = ba ∨ τ 0 a2 = 0) (h3 : ∀ b k, τ 0 b ≠ 0 → b ≠ bl → b ≠ ba → pv2 b k = pv b k) (h4 : pv2 bl 1 = .ref a2) (h5 : pv2 bl 2 = .int (nI (nb + 1))) (h6 : τ2 0 a2 = 9) (h7 : nb + 1 ≤ τ2 3 a2) (h8 : ∀ i, i < nb → pv2 a2 i = pv ba i) (h9 : pv2 a2 nb = .ref e9) : kW τ2 pv2 ad x bl rl kl a2 ra ka fr (nb + 1) nr nk := by
  obtain ⟨⟨g1, g2, g3, g4, g5, g6⟩, k2, k3, k4, k5, k6, ⟨b1, b2, b3, b4⟩, ⟨r1, r2, r3, r4⟩, ⟨l1, l2, l3, l4⟩, k10, k11⟩ := hW
  have ty : ∀ b t, τ 0 b = t → t ≠ 0 → τ2 0 b = t := fun b t hb ht => (h1 b (by omega) 0).trans hb
  have hba : τ 0 ba = 9 ∨ τ 0 ba = 0 := by
    rcases b4 with ⟨e, _⟩ | ⟨e, _⟩
    · right; rw [e]; exact had
    · exact Or.inl e
  have pn : ∀ b t k, τ 0 b = t → t ≠ 0 → t ≠ 7 → t ≠ 9 → pv2 b k = pv b k := fun b t k hb h0 h7 h9 => h3 b k (by omega) (fun e => by rw [e, b1] at hb; omega) (fun e => by rw [e] at hb; rcases hba with h | h <;> omega)
  have ls : ∀ l a n, kLs τ pv ad 8 10 2 l a n → kLs τ2 pv2 ad 8 10 2 l a n := by
    intro l a n ⟨q1, q2, q3, q4⟩
    refine ⟨ty _ _ q1 (by decide), (pn _ _ _ q1 (by decide) (by decide) (by decide)).trans q2, (pn _ _ _ q1 (by decide) (by decide) (by decide)).trans q3, ?_⟩
    rcases q4 with q4 | ⟨q4, q5, q6⟩
    · exact Or.inl q4
    · refine Or.inr ⟨ty _ _ q4 (by decide), by rw [h1 a (by omega)]; exact q5, fun i hi => ?_⟩
      obtain ⟨q, m1, m2⟩ := q6 i hi
      exact ⟨q, (pn _ _ _ q4 (by decide) (by decide) (by decide)).trans m1, ty _ _ m2 (by decide)⟩
  refine ⟨⟨ty _ _ g1 (by decide), (pn _ _ _ g1 (by decide) (by decide) (by decide)).trans g2, (pn _ _ _ g1 (by decide) (by decide) (by decide)).trans g3, (pn _ _ _ g1 (by decide) (by decide) (by decide)).trans g4, (pn _ _ _ g1 (by decide) (by decide) (by decide)).trans g5, ty _ _ g6 (by decide)⟩, k2, k3, hnb, k5, k6, ⟨ty _ _ b1 (by decide), h4, h5, Or.inr ⟨h6, h7, fun i hi => ?_⟩⟩, ls _ _ _ ⟨r1, r2, r3, r4⟩, ls _ _ _ ⟨l1, l2, l3, l4⟩, fun i q hi hq => ?_, fun i q hi hq => ?_⟩
  · by_cases e : i = nb
    · rw [e]; exact ⟨e9, h9, ty _ _ te (by decide)⟩
    · have hi2 : i < nb := by omega
      rcases b4 with ⟨_, e0⟩ | ⟨_, _, q6⟩
      · omega
      · obtain ⟨q, m1, m2⟩ := q6 i hi2
        exact ⟨q, (h8 i hi2).trans m1, ty _ _ m2 (by decide)⟩
  · by_cases e : i = nb
    · rw [e] at hq
      cases hq.symm.trans h9
      rw [h1 _ (by omega) 1, te1, e]
    · have hi2 : i < nb := by omega
      have hq2 : pv ba i = .ref q := (h8 i hi2).symm.trans hq
      rcases b4 with ⟨_, e0⟩ | ⟨_, _, q6⟩
      · omega
      · obtain ⟨q', m1, m2⟩ := q6 i hi2
        cases m1.symm.trans hq2
        rw [h1 _ (by omega) 1]
        exact k10 i _ hi2 m1
  · rcases r4 with ⟨_, e0⟩ | ⟨r4, r5, r6⟩
    · omega
    · have pr : ∀ j, pv2 ra j = pv ra j := fun j => pn _ _ _ r4 (by decide) (by decide) (by decide)
      rw [pr] at hq
      obtain ⟨q', m1, m2⟩ := r6 i hi
      cases m1.symm.trans hq
      obtain ⟨n1, n2⟩ := k11 i _ hi m1
      refine ⟨by rw [h1 _ (by omega) 1]; exact n1, ?_⟩
      rcases n2 with n2 | ⟨q', j1, j2, j3, j4⟩
      · exact Or.inl ((pn _ _ _ m2 (by decide) (by decide) (by decide)).trans n2)
      · obtain ⟨q3, i1, i2⟩ := r6 _ j3
        obtain rfl := kref (i1.symm.trans j4)
        have e1 : τ2 1 q3 = τ 1 q3 := h1 _ (by omega) 1
        exact Or.inr ⟨q3, (pn _ _ _ m2 (by decide) (by decide) (by decide)).trans j1, by rw [e1]; exact j2, by rw [e1]; exact j3, by rw [e1, pr]; exact j4⟩
theorem kW.addR (hW : kW τ pv ad x bl rl kl ba ra ka fr nb nr nk) (hnr : nr < 1024) (had : τ 0 ad = 0) (te : τ 0 e9 = 2) (te1 : τ 1 e9 = nr) (te17 : pv e9 17 = .null) (h1 : ∀ b, τ 0 b ≠ 0 → ∀ j, τ2 j b = τ j b) (h2 : a2 = ra ∨ τ 0 a2 = 0) (h3 : ∀ b k, τ 0 b ≠ 0 → b ≠ rl → b ≠ ra → pv2 b k = pv b k) (h4 : pv2 rl 1 = .ref a2) (h5 : pv2 rl 2 = .int (nI (nr + 1))) (h6 : τ2 0 a2 = 10) (h7 : nr + 1 ≤ τ2 3 a2) (h8 : ∀ i, i < nr → pv2 a2 i = pv ra i) (h9 : pv2 a2 nr = .ref e9) (had2 : a2 ≠ ad) : kW τ2 pv2 ad x bl rl kl ba a2 ka fr nb (nr + 1) nk := by
  obtain ⟨⟨g1, g2, g3, g4, g5, g6⟩, k2, k3, k4, k5, k6, ⟨b1, b2, b3, b4⟩, ⟨r1, r2, r3, r4⟩, ⟨l1, l2, l3, l4⟩, k10, k11⟩ := hW
  have ty : ∀ b t, τ 0 b = t → t ≠ 0 → τ2 0 b = t := fun b t hb ht => (h1 b (by omega) 0).trans hb
  have hra : τ 0 ra = 10 ∨ τ 0 ra = 0 := by
    rcases r4 with ⟨e, _⟩ | ⟨e, _⟩
    · right; rw [e]; exact had
    · exact Or.inl e
  have pn : ∀ b t k, τ 0 b = t → t ≠ 0 → t ≠ 8 → t ≠ 10 → pv2 b k = pv b k := fun b t k hb h0 h7 h9 => h3 b k (by omega) (fun e => by rw [e, r1] at hb; omega) (fun e => by rw [e] at hb; rcases hra with h | h <;> omega)
  have el : ∀ i q, i < nr → pv ra i = .ref q → τ 0 q = 2 := by
    intro i q hi hq
    rcases r4 with ⟨_, e0⟩ | ⟨_, _, q6⟩
    · omega
    · obtain ⟨q', m1, m2⟩ := q6 i hi
      cases m1.symm.trans hq
      exact m2
  refine ⟨⟨ty _ _ g1 (by decide), (pn _ _ _ g1 (by decide) (by decide) (by decide)).trans g2, (pn _ _ _ g1 (by decide) (by decide) (by decide)).trans g3, (pn _ _ _ g1 (by decide) (by decide) (by decide)).trans g4, (pn _ _ _ g1 (by decide) (by decide) (by decide)).trans g5, ty _ _ g6 (by decide)⟩, k2, fun e => ?_, k4, hnr, k6, ⟨ty _ _ b1 (by decide), (pn _ _ _ b1 (by decide) (by decide) (by decide)).trans b2, (pn _ _ _ b1 (by decide) (by decide) (by decide)).trans b3, ?_⟩, ⟨ty _ _ r1 (by decide), h4, h5, Or.inr ⟨h6, h7, fun i hi => ?_⟩⟩, ⟨ty _ _ l1 (by decide), (h3 _ _ (by omega) k2.symm (fun e => ?_)).trans l2, (h3 _ _ (by omega) k2.symm (fun e => ?_)).trans l3, ?_⟩, fun i q hi hq => ?_, fun i q hi hq => ?_⟩
  · rcases h2 with h2 | h2
    · exact h2.trans (k3 (h2.symm.trans e))
    · rcases l4 with ⟨e2, _⟩ | ⟨e2, _⟩
      · exact e.trans e2
      · rw [e, e2] at h2; cases h2
  · rcases b4 with b4 | ⟨b4, b5, b6⟩
    · exact Or.inl b4
    · refine Or.inr ⟨ty _ _ b4 (by decide), by rw [h1 _ (by omega)]; exact b5, fun i hi => ?_⟩
      obtain ⟨q, m1, m2⟩ := b6 i hi
      exact ⟨q, (pn _ _ _ b4 (by decide) (by decide) (by decide)).trans m1, ty _ _ m2 (by decide)⟩
  · by_cases e : i = nr
    · rw [e]; exact ⟨e9, h9, ty _ _ te (by decide)⟩
    · have hi2 : i < nr := by omega
      rcases r4 with ⟨_, e0⟩ | ⟨_, _, q6⟩
      · omega
      · obtain ⟨q, m1, m2⟩ := q6 i hi2
        exact ⟨q, (h8 i hi2).trans m1, ty _ _ m2 (by decide)⟩
  · rw [e] at l1; rcases hra with h | h <;> omega
  · rw [e] at l1; rcases hra with h | h <;> omega
  · rcases l4 with l4 | ⟨l4, l5, l6⟩
    · exact Or.inl l4
    · have nka : ka ≠ ra := fun e => by
        have := k3 e.symm
        rw [← e] at this
        rw [this, had] at l4
        cases l4
      have nkl : ka ≠ rl := fun e => by rw [e, r1] at l4; cases l4
      refine Or.inr ⟨ty _ _ l4 (by decide), by rw [h1 _ (by omega)]; exact l5, fun i hi => ?_⟩
      obtain ⟨q, m1, m2⟩ := l6 i hi
      exact ⟨q, (h3 _ _ (by omega) nkl nka).trans m1, ty _ _ m2 (by decide)⟩
  · rcases b4 with ⟨_, e0⟩ | ⟨b4, b5, b6⟩
    · omega
    · have hq2 : pv ba i = .ref q := (pn _ _ _ b4 (by decide) (by decide) (by decide)).symm.trans hq
      obtain ⟨q', m1, m2⟩ := b6 i hi
      cases m1.symm.trans hq2
      rw [h1 _ (by omega) 1]
      exact k10 i _ hi m1
  · by_cases e : i = nr
    · rw [e] at hq
      cases hq.symm.trans h9
      refine ⟨by rw [h1 _ (by omega) 1, te1, e], Or.inl ((pn _ _ _ te (by decide) (by decide) (by decide)).trans te17)⟩
    · have hi2 : i < nr := by omega
      have hq2 : pv ra i = .ref q := (h8 i hi2).symm.trans hq
      have tq := el i q hi2 hq2
      obtain ⟨n1, n2⟩ := k11 i q hi2 hq2
      refine ⟨by rw [h1 _ (by omega) 1]; exact n1, ?_⟩
      rcases n2 with n2 | ⟨q', j1, j2, j3, j4⟩
      · exact Or.inl ((pn _ _ _ tq (by decide) (by decide) (by decide)).trans n2)
      · have tq' := el _ q' j3 j4
        have e1 : τ2 1 q' = τ 1 q' := h1 _ (by omega) 1
        exact Or.inr ⟨q', (pn _ _ _ tq (by decide) (by decide) (by decide)).trans j1, by rw [e1]; exact j2, by rw [e1]; omega, by rw [e1]; exact (h8 _ j3).trans j4⟩
theorem kW.clr (hW : kW τ pv ad x bl rl kl ba ra ka fr nb nr nk) (had : τ 0 ad = 0) (h2 : pv2 kl 1 = .ref ka) (h3 : pv2 kl 2 = .int 0) (h4 : ∀ b k, b ≠ kl → b ≠ ka → pv2 b k = pv b k) : kW τ (kup (kup pv2 x 2 (.ref rl)) x 1 (.ref kl)) ad x bl kl rl ba ka ra fr nb 0 nr := by
  obtain ⟨⟨g1, g2, g3, g4, g5, g6⟩, k2, k3, k4, k5, k6, ⟨b1, b2, b3, b4⟩, ⟨r1, r2, r3, r4⟩, ⟨l1, l2, l3, l4⟩, k10, k11⟩ := hW
  have hka : τ 0 ka = 10 ∨ τ 0 ka = 0 := by
    rcases l4 with ⟨e, _⟩ | ⟨e, _⟩
    · right; rw [e]; exact had
    · exact Or.inl e
  have pn : ∀ b t k, τ 0 b = t → t ≠ 0 → t ≠ 8 → t ≠ 10 → pv2 b k = pv b k := fun b t k hb h0 h7 h9 => h4 b k (fun e => by rw [e, l1] at hb; omega) (fun e => by rw [e] at hb; rcases hka with h | h <;> omega)
  have ux : ∀ b k, b ≠ x → kup (kup pv2 x 2 (.ref rl)) x 1 (.ref kl) b k = pv2 b k := fun b k hb => (kup_ne (Or.inl hb)).trans (kup_ne (Or.inl hb))
  have nx : ∀ b t, τ 0 b = t → t ≠ 6 → b ≠ x := fun b t hb ht e => by rw [e, g1] at hb; omega
  have nrk : rl ≠ ka := fun e => by rw [e] at r1; rcases hka with h | h <;> omega
  refine ⟨⟨g1, (kup_ne (Or.inr (by decide))).trans ((kup_ne (Or.inr (by decide))).trans ((pn _ _ _ g1 (by decide) (by decide) (by decide)).trans g2)), kup_self, (kup_ne (Or.inr (by decide))).trans kup_self, (kup_ne (Or.inr (by decide))).trans ((kup_ne (Or.inr (by decide))).trans ((pn _ _ _ g1 (by decide) (by decide) (by decide)).trans g5)), g6⟩, k2.symm, fun e => (e.trans (k3 e.symm)), k4, by omega, k5, ⟨b1, (ux _ _ (nx _ _ b1 (by decide))).trans ((pn _ _ _ b1 (by decide) (by decide) (by decide)).trans b2), (ux _ _ (nx _ _ b1 (by decide))).trans ((pn _ _ _ b1 (by decide) (by decide) (by decide)).trans b3), ?_⟩, ⟨l1, (ux _ _ (nx _ _ l1 (by decide))).trans h2, (ux _ _ (nx _ _ l1 (by decide))).trans h3, ?_⟩, ⟨r1, (ux _ _ (nx _ _ r1 (by decide))).trans ((h4 _ _ k2 nrk).trans r2), (ux _ _ (nx _ _ r1 (by decide))).trans ((h4 _ _ k2 nrk).trans r3), ?_⟩, fun i q hi hq => ?_, fun i q hi hq => absurd hi (Nat.not_lt_zero i)⟩
  · rcases b4 with b4 | ⟨b4, b5, b6⟩
    · exact Or.inl b4
    · refine Or.inr ⟨b4, b5, fun i hi => ?_⟩
      obtain ⟨q, m1, m2⟩ := b6 i hi
      exact ⟨q, (ux _ _ (nx _ _ b4 (by decide))).trans ((pn _ _ _ b4 (by decide) (by decide) (by decide)).trans m1), m2⟩
  · rcases l4 with ⟨e, _⟩ | ⟨l4, l5, l6⟩
    · exact Or.inl ⟨e, rfl⟩
    · exact Or.inr ⟨l4, Nat.zero_le _, fun i hi => absurd hi (Nat.not_lt_zero i)⟩
  · rcases r4 with r4 | ⟨r4, r5, r6⟩
    · exact Or.inl r4
    · have nra : ra ≠ ka := fun e => by
        have := k3 e
        rw [this, had] at r4
        cases r4
      have nrl : ra ≠ kl := fun e => by rw [e, l1] at r4; cases r4
      refine Or.inr ⟨r4, r5, fun i hi => ?_⟩
      obtain ⟨q, m1, m2⟩ := r6 i hi
      exact ⟨q, (ux _ _ (nx _ _ r4 (by decide))).trans ((h4 _ _ nrl nra).trans m1), m2⟩
  · rcases b4 with ⟨_, e0⟩ | ⟨b4, b5, b6⟩
    · omega
    · have hq2 : pv ba i = .ref q := ((ux _ _ (nx _ _ b4 (by decide))).trans (pn _ _ _ b4 (by decide) (by decide) (by decide))).symm.trans hq
      exact k10 i q hi hq2
end KAD
theorem knz {τ : Nat → Nat → Nat} {b q : Nat} (hb : τ 0 b ≠ 0) (h : τ 0 q = 0) : b ≠ q := fun e => hb (by rw [e]; exact h)
theorem knt6 {τ : Nat → Nat → Nat} {a b : Nat} (h1 : τ 0 a = 6) (h2 : τ 0 b = 36) : a ≠ b := fun e => by rw [e, h2] at h1; cases h1
