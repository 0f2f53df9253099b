theorem kw_ix {A : Nat → Prop} {ws : va_W} (hD : va_D A ws) : ∃ (ix : Nat → Nat) (f : Nat → va_E), (∀ (i : Nat) (q : Nat × va_E), ws[i]? = some q → ix q.1 = i ∧ f q.1 = q.2) ∧ (∀ a, ix a < ws.length → ∃ q, ws[ix a]? = some q ∧ q.1 = a) ∧ va_pl (ws.map Prod.fst) f = ws := by
  have h : ∀ a : Nat, ∃ z : Nat × va_E, (∀ (i : Nat) (q : Nat × va_E), ws[i]? = some q → q.1 = a → z.1 = i ∧ z.2 = q.2) ∧ (z.1 < ws.length → ∃ q, ws[z.1]? = some q ∧ q.1 = a) := by
    intro a
    rcases Classical.em (∃ (i : Nat) (q : Nat × va_E), ws[i]? = some q ∧ q.1 = a) with ⟨i, q, h1, h2⟩ | hn
    · refine ⟨(i, q.2), fun j r hj hr => ?_, fun _ => ⟨q, h1, h2⟩⟩
      have e := hD.1 i j q r h1 hj (h2.trans hr.symm)
      subst e
      cases Option.some.inj (h1.symm.trans hj)
      exact ⟨rfl, rfl⟩
    · exact ⟨(ws.length, .inr (0, [])), fun j r hj hr => absurd ⟨j, r, hj, hr⟩ hn, fun hl => absurd hl (Nat.lt_irrefl _)⟩
  have h1 : ∀ (i : Nat) (q : Nat × va_E), ws[i]? = some q → (Classical.choose (h q.1)).1 = i ∧ (Classical.choose (h q.1)).2 = q.2 := fun i q hq => (Classical.choose_spec (h q.1)).1 i q hq rfl
  refine ⟨fun a => (Classical.choose (h a)).1, fun a => (Classical.choose (h a)).2, h1, fun a hl => (Classical.choose_spec (h a)).2 hl, ?_⟩
  unfold va_pl
  rw [List.map_map]
  apply List.ext_getElem?
  intro i
  rw [List.getElem?_map]
  cases hi : ws[i]? with
  | none => rfl
  | some q =>
    have e := (h1 i q hi).2
    show some (q.1, (Classical.choose (h q.1)).2) = some q
    rw [e]
theorem kcl {D : va_G} {cl : List vw_C} {tys : List (ClassId × FieldType)} {s : State} (hK : va_K D cl tys s) (i j : Nat) {a b : ClassId} {t : FieldType} (hi : tys[i]? = some (a, t)) (hj : tys[j]? = some (b, t)) : a = b := by
  have h1 := (hK.2 i _ hi).2
  have h2 := (hK.2 j _ hj).2
  cases t <;> first
    | (obtain ⟨_, _, _, _, _, g1⟩ := h1; obtain ⟨_, _, _, _, _, g2⟩ := h2; exact Option.some.inj (g1.symm.trans g2))
    | (have g1 : s.vm.findClass _ = some a := h1; have g2 : s.vm.findClass _ = some b := h2; exact Option.some.inj (g1.symm.trans g2))
theorem kcO {s : State} {C : String} (h : va_AO C s) : ∃ cA : ClassId, ArrOfT s cA (.object C) ∧ va_RA s cA (.object C) := by
  obtain ⟨comp, cA, kA, hcomp, hidx, hkA, hkindA, hnameA⟩ := Cond.arrayOver_spec h
  exact ⟨cA, fun N z => ⟨(fun k h => by cases h), kA, hkA, comp, hkindA⟩, kA, comp, hkA, hkindA, hcomp, hnameA⟩
section KCN
variable {dA : Nat → ClassId} {τ : Nat → Nat → Nat} {pv : Nat → Nat → Value} {a t n : Nat} {e : va_E}
theorem kC_i (k : Nat) (ht : τ 0 a = t) (h3 : τ 3 a = n) (hk : kAk t = some k) (hc : kCi t = none) (hk1 : k ≤ 1) (hl : kLk t n) (he : e = .inl (dA k, n, .inl (fun _ => 0))) (hz : ∀ i, kPr τ (kEc t i) a (.int 0)) (hp : ∀ i, kPn t i (pv a i) (.int 0)) : kC dA τ pv a e := by
  unfold kC
  rw [ht, h3, hk, hc]
  refine ⟨fun _ h => (by cases h), fun _ _ => hl, fun k2 h _ => ?_, fun h => ?_, fun h => ?_, fun h => ?_, fun k2 h h5 => ?_⟩
  · cases h
    exact ⟨fun _ => 0, he, fun i => ⟨hz i, hp i⟩⟩
  · cases h; omega
  · cases h; omega
  · cases h; omega
  · cases h; omega
theorem kC_f (ht : τ 0 a = t) (h3 : τ 3 a = n) (hk : kAk t = some 2) (hc : kCi t = none) (hl : kLk t n) (he : e = .inl (dA 2, n, .inr (.inr (.inl (fun _ => 0))))) (hz : ∀ i, kPr τ (kEc t i) a (.float 0)) (hp : ∀ i, kPn t i (pv a i) (.float 0)) : kC dA τ pv a e := by
  unfold kC
  rw [ht, h3, hk, hc]
  refine ⟨fun _ h => (by cases h), fun _ _ => hl, fun k2 h h1 => ?_, fun h => ?_, fun h => ?_, fun h => ?_, fun k2 h h5 => ?_⟩
  · cases h; omega
  · exact ⟨fun _ => 0, he, fun i => ⟨hz i, hp i⟩⟩
  · cases h
  · cases h
  · cases h; omega
theorem kC_l (ht : τ 0 a = t) (h3 : τ 3 a = n) (hk : kAk t = some 3) (hc : kCi t = none) (hl : kLk t n) (he : e = .inl (dA 3, n, .inr (.inl (fun _ => 0)))) (hp : pv a 0 = .long 0) : kC dA τ pv a e := by
  unfold kC
  rw [ht, h3, hk, hc]
  refine ⟨fun _ h => (by cases h), fun _ _ => hl, fun k2 h h1 => ?_, fun h => ?_, fun h => ⟨_, he, hp⟩, fun h => ?_, fun k2 h h5 => ?_⟩
  · cases h; omega
  · cases h
  · cases h
  · cases h; omega
theorem kC_d (ht : τ 0 a = t) (h3 : τ 3 a = n) (hk : kAk t = some 4) (hc : kCi t = none) (hl : kLk t n) (he : e = .inl (dA 4, n, .inr (.inr (.inr (.inl (fun _ => 0)))))) : kC dA τ pv a e := by
  unfold kC
  rw [ht, h3, hk, hc]
  refine ⟨fun _ h => (by cases h), fun _ _ => hl, fun k2 h h1 => ?_, fun h => ?_, fun h => ?_, fun h => ⟨_, he⟩, fun k2 h h5 => ?_⟩
  · cases h; omega
  · cases h
  · cases h
  · cases h; omega
theorem kC_q (ht : τ 0 a = t) (h3 : τ 3 a = n) (hk : kAk t = some 6) (hc : kCi t = none) (hl : kLk t n) (he : e = .inl (dA 6, n, .inr (.inr (.inr (.inr (fun _ => none)))))) (hz : ∀ i, kPr τ (kEc t i) a .null) (hp : ∀ i, kPn t i (pv a i) .null) : kC dA τ pv a e := by
  unfold kC
  rw [ht, h3, hk, hc]
  refine ⟨fun _ h => (by cases h), fun _ _ => hl, fun k2 h h1 => ?_, fun h => ?_, fun h => ?_, fun h => ?_, fun k2 h h5 => ?_⟩
  · cases h; omega
  · cases h
  · cases h
  · cases h
  · cases h
    exact ⟨fun _ => none, he, fun i => ⟨hz i, hp i⟩⟩
theorem kC_o {ci : Nat} {vals : List Value} (ht : τ 0 a = t) (hk : kAk t = none) (hc : kCi t = some ci) (he : e = .inr (ci, vals)) (hO : kO τ pv t a vals) : kC dA τ pv a e := by
  unfold kC
  rw [ht, hk, hc]
  refine ⟨fun _ h => ?_, fun _ h => (by cases h), fun _ h => (by cases h), fun h => (by cases h), fun h => (by cases h), fun h => (by cases h), fun _ h => (by cases h)⟩
  cases h
  exact ⟨vals, he, hO⟩
theorem kC_0 (ht : τ 0 a = 0) : kC dA τ pv a e := by
  unfold kC
  rw [ht]
  exact ⟨fun _ h => (by cases h), fun _ h => (by cases h), fun _ h => (by cases h), fun h => (by cases h), fun h => (by cases h), fun h => (by cases h), fun _ h => (by cases h)⟩
end KCN
def ktyl : List Nat := [6, 7, 8, 8, 4, 4, 4, 11, 12, 13, 14, 15, 16, 17, 18, 19, 20, 21, 22, 23, 24, 25, 26, 27, 28, 29, 30, 31, 32, 33, 34, 35, 36, 37]
def klnl : List Nat := [0, 0, 0, 0, 0, 0, 0, 256, 256, 8, 0, 3328, 256, 256, 9, 1024, 1024, 9216, 1024, 1024, 1024, 1024, 1024, 1024, 1024, 1024, 1024, 1024, 1024, 256, 256, 256, 1, 1]
def kLw (dA : Nat → ClassId) (ad x mm o od : Nat) (L : List Nat) (f : Nat → va_E) : Prop := ∃ (τ : Nat → Nat → Nat) (pv : Nat → Nat → Value) (bl rl kl ba ra ka fr nb nr nk fa sa aa ia sf mk : Nat), kW τ pv ad x bl rl kl ba ra ka fr nb nr nk ∧ kMd τ pv mm fa sa aa ia sf nb nr mk nr ∧ kRel τ pv ba ra fa sa aa nb nr ∧ τ 0 o = 36 ∧ τ 0 od = 37 ∧ pv x 10 = pv mm 26 ∧ kI dA τ pv L f
theorem kv_15z0 {τ : Nat → Nat → Nat} {a j : Nat} : kPr τ (kEc 15 j) a (.float 0) := kv_15z
def kpvl (x_ l_ m_ : List Value) (i k : Nat) : Value := if i = 0 then x_.getD k .null else if i = 10 then m_.getD k .null else if i = 1 ∨ i = 2 ∨ i = 3 then l_.getD k .null else if i = 9 then .null else if i = 26 then .float 0 else if i = 32 then .long 0 else .int 0
set_option maxHeartbeats 8000000 in
set_option maxRecDepth 100000 in
theorem kw_start {A : Nat → Prop} {s : State} {H : Heap} {dC : Nat → ClassId} {dI : Nat → Nat → Nat} {ad : Nat} {cI cB cR cF cJ cD : ClassId} {x bl rl kl pn pp pq wo re fr mm a2 a3 a4 a5 a7 a8 a9 a10 a11 a12 a13 a14 a15 a16 a17 a18 a20 a21 a29 a30 a31 o od : Nat} (hO : va_AO "java/lang/Object" s) (hK : va_K (dC, dI) vwCl [(cI, .int), (cB, .boolean), (cR, .object "IslandSolver$Row"), (cF, .float), (cJ, .long), (cD, .double)] s)
    (hP : va_P (dC, dI) vwCl [(x, .inr (4, [.ref bl, .ref rl, .ref kl, .ref pn, .ref pp, .ref pq, .int 8, .float FP.fconst1, .float 1031798784, .int 0, .int 1, .int 0, .int 0, .ref wo, .ref re, .ref fr])), (bl, .inr (0, [.int 0, .ref ad, .int 0])), (rl, .inr (0, [.int 0, .ref ad, .int 0])), (kl, .inr (0, [.int 0, .ref ad, .int 0])), (pn, .inr (3, [.float 0, .float 0, .float 0])), (pp, .inr (3, [.float 0, .float 0, .float 0])), (pq, .inr (3, [.float 0, .float 0, .float 0])), (wo, .inl (cI, 256, .inl (fun _ => 0))), (re, .inl (cB, 256, .inl (fun _ => 0))), (fr, .inl (cR, 8, .inr (.inr (.inr (.inr (fun _ => none)))))), (mm, .inr (5, [.int 0, .int 0, .ref a2, .ref a3, .ref a4, .ref a5, .int 0, .ref a7, .ref a8, .ref a9, .ref a10, .ref a11, .ref a12, .ref a13, .ref a14, .ref a15, .ref a16, .ref a17, .ref a18, .int 0, .ref a20, .ref a21, .int 8, .float FP.fconst1, .float 1031798784, .int 0, .int 1, .int 0, .int 0, .ref a29, .ref a30, .ref a31, .float 0, .float 0, .float 0])), (a2, .inl (cF, 3328, .inr (.inr (.inl (fun _ => 0))))), (a3, .inl (cB, 256, .inl (fun _ => 0))), (a4, .inl (cI, 256, .inl (fun _ => 0))), (a5, .inl (cF, 9, .inr (.inr (.inl (fun _ => 0))))), (a7, .inl (cI, 1024, .inl (fun _ => 0))), (a8, .inl (cI, 1024, .inl (fun _ => 0))), (a9, .inl (cF, 9216, .inr (.inr (.inl (fun _ => 0))))), (a10, .inl (cF, 1024, .inr (.inr (.inl (fun _ => 0))))), (a11, .inl (cF, 1024, .inr (.inr (.inl (fun _ => 0))))), (a12, .inl (cF, 1024, .inr (.inr (.inl (fun _ => 0))))), (a13, .inl (cF, 1024, .inr (.inr (.inl (fun _ => 0))))), (a14, .inl (cF, 1024, .inr (.inr (.inl (fun _ => 0))))), (a15, .inl (cI, 1024, .inl (fun _ => 0))), (a16, .inl (cI, 1024, .inl (fun _ => 0))), (a17, .inl (cF, 1024, .inr (.inr (.inl (fun _ => 0))))), (a18, .inl (cF, 1024, .inr (.inr (.inl (fun _ => 0))))), (a20, .inl (cI, 1024, .inl (fun _ => 0))), (a21, .inl (cF, 1024, .inr (.inr (.inl (fun _ => 0))))), (a29, .inl (cI, 256, .inl (fun _ => 0))), (a30, .inl (cI, 256, .inl (fun _ => 0))), (a31, .inl (cB, 256, .inl (fun _ => 0))), (o, .inl (cJ, 1, .inr (.inl (fun _ => 0)))), (od, .inl (cD, 1, .inr (.inr (.inr (.inl (fun _ => 0))))))] H) (hD : va_D A [(x, .inr (4, [.ref bl, .ref rl, .ref kl, .ref pn, .ref pp, .ref pq, .int 8, .float FP.fconst1, .float 1031798784, .int 0, .int 1, .int 0, .int 0, .ref wo, .ref re, .ref fr])), (bl, .inr (0, [.int 0, .ref ad, .int 0])), (rl, .inr (0, [.int 0, .ref ad, .int 0])), (kl, .inr (0, [.int 0, .ref ad, .int 0])), (pn, .inr (3, [.float 0, .float 0, .float 0])), (pp, .inr (3, [.float 0, .float 0, .float 0])), (pq, .inr (3, [.float 0, .float 0, .float 0])), (wo, .inl (cI, 256, .inl (fun _ => 0))), (re, .inl (cB, 256, .inl (fun _ => 0))), (fr, .inl (cR, 8, .inr (.inr (.inr (.inr (fun _ => none)))))), (mm, .inr (5, [.int 0, .int 0, .ref a2, .ref a3, .ref a4, .ref a5, .int 0, .ref a7, .ref a8, .ref a9, .ref a10, .ref a11, .ref a12, .ref a13, .ref a14, .ref a15, .ref a16, .ref a17, .ref a18, .int 0, .ref a20, .ref a21, .int 8, .float FP.fconst1, .float 1031798784, .int 0, .int 1, .int 0, .int 0, .ref a29, .ref a30, .ref a31, .float 0, .float 0, .float 0])), (a2, .inl (cF, 3328, .inr (.inr (.inl (fun _ => 0))))), (a3, .inl (cB, 256, .inl (fun _ => 0))), (a4, .inl (cI, 256, .inl (fun _ => 0))), (a5, .inl (cF, 9, .inr (.inr (.inl (fun _ => 0))))), (a7, .inl (cI, 1024, .inl (fun _ => 0))), (a8, .inl (cI, 1024, .inl (fun _ => 0))), (a9, .inl (cF, 9216, .inr (.inr (.inl (fun _ => 0))))), (a10, .inl (cF, 1024, .inr (.inr (.inl (fun _ => 0))))), (a11, .inl (cF, 1024, .inr (.inr (.inl (fun _ => 0))))), (a12, .inl (cF, 1024, .inr (.inr (.inl (fun _ => 0))))), (a13, .inl (cF, 1024, .inr (.inr (.inl (fun _ => 0))))), (a14, .inl (cF, 1024, .inr (.inr (.inl (fun _ => 0))))), (a15, .inl (cI, 1024, .inl (fun _ => 0))), (a16, .inl (cI, 1024, .inl (fun _ => 0))), (a17, .inl (cF, 1024, .inr (.inr (.inl (fun _ => 0))))), (a18, .inl (cF, 1024, .inr (.inr (.inl (fun _ => 0))))), (a20, .inl (cI, 1024, .inl (fun _ => 0))), (a21, .inl (cF, 1024, .inr (.inr (.inl (fun _ => 0))))), (a29, .inl (cI, 256, .inl (fun _ => 0))), (a30, .inl (cI, 256, .inl (fun _ => 0))), (a31, .inl (cB, 256, .inl (fun _ => 0))), (o, .inl (cJ, 1, .inr (.inl (fun _ => 0)))), (od, .inl (cD, 1, .inr (.inr (.inr (.inl (fun _ => 0))))))]) :
    ∃ (dA : Nat → ClassId) (L : List Nat) (f : Nat → va_E), kLw dA ad x mm o od L f ∧ va_K (dC, dI) vwCl (tyA dA) s ∧ va_P (dC, dI) vwCl (va_pl L f) H ∧ va_D A (va_pl L f) := by
  obtain ⟨cO, hcO⟩ := kcO hO
  obtain ⟨ix, f, hix, hin, hpl⟩ := kw_ix hD
  have z : ∀ M, fb M 0 := fun M => Nat.zero_le _
  obtain ⟨dA, hdA⟩ : ∃ dA : Nat → ClassId, dA = fun k => if k = 0 then cI else if k = 1 then cB else if k = 2 then cF else if k = 3 then cJ else if k = 4 then cD else if k = 5 then cO else cR := ⟨_, rfl⟩
  obtain ⟨τ, hτ⟩ : ∃ τ : Nat → Nat → Nat, τ = fun j a => if j = 0 then ktyl.getD (ix a) 0 else if j = 3 then klnl.getD (ix a) 0 else 0 := ⟨_, rfl⟩
  obtain ⟨pv, hpv⟩ : ∃ pv : Nat → Nat → Value, pv = fun a k => kpvl [.ref bl, .ref rl, .ref kl, .ref pn, .ref pp, .ref pq, .int 8, .float FP.fconst1, .float 1031798784, .int 0, .int 1, .int 0, .int 0, .ref wo, .ref re, .ref fr] [.int 0, .ref ad, .int 0] [.int 0, .int 0, .ref a2, .ref a3, .ref a4, .ref a5, .int 0, .ref a7, .ref a8, .ref a9, .ref a10, .ref a11, .ref a12, .ref a13, .ref a14, .ref a15, .ref a16, .ref a17, .ref a18, .int 0, .ref a20, .ref a21, .int 8, .float FP.fconst1, .float 1031798784, .int 0, .int 1, .int 0, .int 0, .ref a29, .ref a30, .ref a31, .float 0, .float 0, .float 0] (ix a) k := ⟨_, rfl⟩
  have d0 : dA 0 = cI := by rw [hdA]; rfl
  have d1 : dA 1 = cB := by rw [hdA]; rfl
  have d2 : dA 2 = cF := by rw [hdA]; rfl
  have d3 : dA 3 = cJ := by rw [hdA]; rfl
  have d4 : dA 4 = cD := by rw [hdA]; rfl
  have d5 : dA 5 = cO := by rw [hdA]; rfl
  have d6 : dA 6 = cR := by rw [hdA]; rfl
  obtain ⟨x_x, f_x⟩ := hix 0 _ rfl
  have x_x : ix x = 0 := x_x
  have t_x : τ 0 x = 6 := by rw [hτ]; show ktyl.getD (ix x) 0 = 6; rw [x_x]; rfl
  have p_x : ∀ k, pv x k = List.getD [.ref bl, .ref rl, .ref kl, .ref pn, .ref pp, .ref pq, .int 8, .float FP.fconst1, .float 1031798784, .int 0, .int 1, .int 0, .int 0, .ref wo, .ref re, .ref fr] k .null := fun k => by rw [hpv]; show kpvl _ _ _ (ix x) k = _; rw [x_x]; rfl
  obtain ⟨x_bl, f_bl⟩ := hix 1 _ rfl
  have x_bl : ix bl = 1 := x_bl
  have t_bl : τ 0 bl = 7 := by rw [hτ]; show ktyl.getD (ix bl) 0 = 7; rw [x_bl]; rfl
  have p_bl : ∀ k, pv bl k = List.getD [.int 0, .ref ad, .int 0] k .null := fun k => by rw [hpv]; show kpvl _ _ _ (ix bl) k = _; rw [x_bl]; rfl
  obtain ⟨x_rl, f_rl⟩ := hix 2 _ rfl
  have x_rl : ix rl = 2 := x_rl
  have t_rl : τ 0 rl = 8 := by rw [hτ]; show ktyl.getD (ix rl) 0 = 8; rw [x_rl]; rfl
  have p_rl : ∀ k, pv rl k = List.getD [.int 0, .ref ad, .int 0] k .null := fun k => by rw [hpv]; show kpvl _ _ _ (ix rl) k = _; rw [x_rl]; rfl
  obtain ⟨x_kl, f_kl⟩ := hix 3 _ rfl
  have x_kl : ix kl = 3 := x_kl
  have t_kl : τ 0 kl = 8 := by rw [hτ]; show ktyl.getD (ix kl) 0 = 8; rw [x_kl]; rfl
  have p_kl : ∀ k, pv kl k = List.getD [.int 0, .ref ad, .int 0] k .null := fun k => by rw [hpv]; show kpvl _ _ _ (ix kl) k = _; rw [x_kl]; rfl
  obtain ⟨x_pn, f_pn⟩ := hix 4 _ rfl
  have x_pn : ix pn = 4 := x_pn
  have t_pn : τ 0 pn = 4 := by rw [hτ]; show ktyl.getD (ix pn) 0 = 4; rw [x_pn]; rfl
  obtain ⟨x_pp, f_pp⟩ := hix 5 _ rfl
  have x_pp : ix pp = 5 := x_pp
  have t_pp : τ 0 pp = 4 := by rw [hτ]; show ktyl.getD (ix pp) 0 = 4; rw [x_pp]; rfl
  obtain ⟨x_pq, f_pq⟩ := hix 6 _ rfl
  have x_pq : ix pq = 6 := x_pq
  have t_pq : τ 0 pq = 4 := by rw [hτ]; show ktyl.getD (ix pq) 0 = 4; rw [x_pq]; rfl
  obtain ⟨x_wo, f_wo⟩ := hix 7 _ rfl
  have x_wo : ix wo = 7 := x_wo
  have t_wo : τ 0 wo = 11 := by rw [hτ]; show ktyl.getD (ix wo) 0 = 11; rw [x_wo]; rfl
  have l_wo : τ 3 wo = 256 := by rw [hτ]; show klnl.getD (ix wo) 0 = 256; rw [x_wo]; rfl
  obtain ⟨x_re, f_re⟩ := hix 8 _ rfl
  have x_re : ix re = 8 := x_re
  have t_re : τ 0 re = 12 := by rw [hτ]; show ktyl.getD (ix re) 0 = 12; rw [x_re]; rfl
  have l_re : τ 3 re = 256 := by rw [hτ]; show klnl.getD (ix re) 0 = 256; rw [x_re]; rfl
  obtain ⟨x_fr, f_fr⟩ := hix 9 _ rfl
  have x_fr : ix fr = 9 := x_fr
  have t_fr : τ 0 fr = 13 := by rw [hτ]; show ktyl.getD (ix fr) 0 = 13; rw [x_fr]; rfl
  have l_fr : τ 3 fr = 8 := by rw [hτ]; show klnl.getD (ix fr) 0 = 8; rw [x_fr]; rfl
  have p_fr : ∀ k, pv fr k = .null := fun k => by rw [hpv]; show kpvl _ _ _ (ix fr) k = _; rw [x_fr]; rfl
  obtain ⟨x_mm, f_mm⟩ := hix 10 _ rfl
  have x_mm : ix mm = 10 := x_mm
  have t_mm : τ 0 mm = 14 := by rw [hτ]; show ktyl.getD (ix mm) 0 = 14; rw [x_mm]; rfl
  have p_mm : ∀ k, pv mm k = List.getD [.int 0, .int 0, .ref a2, .ref a3, .ref a4, .ref a5, .int 0, .ref a7, .ref a8, .ref a9, .ref a10, .ref a11, .ref a12, .ref a13, .ref a14, .ref a15, .ref a16, .ref a17, .ref a18, .int 0, .ref a20, .ref a21, .int 8, .float FP.fconst1, .float 1031798784, .int 0, .int 1, .int 0, .int 0, .ref a29, .ref a30, .ref a31, .float 0, .float 0, .float 0] k .null := fun k => by rw [hpv]; show kpvl _ _ _ (ix mm) k = _; rw [x_mm]; rfl
  obtain ⟨x_a2, f_a2⟩ := hix 11 _ rfl
  have x_a2 : ix a2 = 11 := x_a2
  have t_a2 : τ 0 a2 = 15 := by rw [hτ]; show ktyl.getD (ix a2) 0 = 15; rw [x_a2]; rfl
  have l_a2 : τ 3 a2 = 3328 := by rw [hτ]; show klnl.getD (ix a2) 0 = 3328; rw [x_a2]; rfl
  obtain ⟨x_a3, f_a3⟩ := hix 12 _ rfl
  have x_a3 : ix a3 = 12 := x_a3
  have t_a3 : τ 0 a3 = 16 := by rw [hτ]; show ktyl.getD (ix a3) 0 = 16; rw [x_a3]; rfl
  have l_a3 : τ 3 a3 = 256 := by rw [hτ]; show klnl.getD (ix a3) 0 = 256; rw [x_a3]; rfl
  obtain ⟨x_a4, f_a4⟩ := hix 13 _ rfl
  have x_a4 : ix a4 = 13 := x_a4
  have t_a4 : τ 0 a4 = 17 := by rw [hτ]; show ktyl.getD (ix a4) 0 = 17; rw [x_a4]; rfl
  have l_a4 : τ 3 a4 = 256 := by rw [hτ]; show klnl.getD (ix a4) 0 = 256; rw [x_a4]; rfl
  obtain ⟨x_a5, f_a5⟩ := hix 14 _ rfl
  have x_a5 : ix a5 = 14 := x_a5
  have t_a5 : τ 0 a5 = 18 := by rw [hτ]; show ktyl.getD (ix a5) 0 = 18; rw [x_a5]; rfl
  have l_a5 : τ 3 a5 = 9 := by rw [hτ]; show klnl.getD (ix a5) 0 = 9; rw [x_a5]; rfl
  obtain ⟨x_a7, f_a7⟩ := hix 15 _ rfl
  have x_a7 : ix a7 = 15 := x_a7
  have t_a7 : τ 0 a7 = 19 := by rw [hτ]; show ktyl.getD (ix a7) 0 = 19; rw [x_a7]; rfl
  have l_a7 : τ 3 a7 = 1024 := by rw [hτ]; show klnl.getD (ix a7) 0 = 1024; rw [x_a7]; rfl
  have p_a7 : ∀ k, pv a7 k = .int 0 := fun k => by rw [hpv]; show kpvl _ _ _ (ix a7) k = _; rw [x_a7]; rfl
  obtain ⟨x_a8, f_a8⟩ := hix 16 _ rfl
  have x_a8 : ix a8 = 16 := x_a8
  have t_a8 : τ 0 a8 = 20 := by rw [hτ]; show ktyl.getD (ix a8) 0 = 20; rw [x_a8]; rfl
  have l_a8 : τ 3 a8 = 1024 := by rw [hτ]; show klnl.getD (ix a8) 0 = 1024; rw [x_a8]; rfl
  have p_a8 : ∀ k, pv a8 k = .int 0 := fun k => by rw [hpv]; show kpvl _ _ _ (ix a8) k = _; rw [x_a8]; rfl
  obtain ⟨x_a9, f_a9⟩ := hix 17 _ rfl
  have x_a9 : ix a9 = 17 := x_a9
  have t_a9 : τ 0 a9 = 21 := by rw [hτ]; show ktyl.getD (ix a9) 0 = 21; rw [x_a9]; rfl
  have l_a9 : τ 3 a9 = 9216 := by rw [hτ]; show klnl.getD (ix a9) 0 = 9216; rw [x_a9]; rfl
  obtain ⟨x_a10, f_a10⟩ := hix 18 _ rfl
  have x_a10 : ix a10 = 18 := x_a10
  have t_a10 : τ 0 a10 = 22 := by rw [hτ]; show ktyl.getD (ix a10) 0 = 22; rw [x_a10]; rfl
  have l_a10 : τ 3 a10 = 1024 := by rw [hτ]; show klnl.getD (ix a10) 0 = 1024; rw [x_a10]; rfl
  obtain ⟨x_a11, f_a11⟩ := hix 19 _ rfl
  have x_a11 : ix a11 = 19 := x_a11
  have t_a11 : τ 0 a11 = 23 := by rw [hτ]; show ktyl.getD (ix a11) 0 = 23; rw [x_a11]; rfl
  have l_a11 : τ 3 a11 = 1024 := by rw [hτ]; show klnl.getD (ix a11) 0 = 1024; rw [x_a11]; rfl
  obtain ⟨x_a12, f_a12⟩ := hix 20 _ rfl
  have x_a12 : ix a12 = 20 := x_a12
  have t_a12 : τ 0 a12 = 24 := by rw [hτ]; show ktyl.getD (ix a12) 0 = 24; rw [x_a12]; rfl
  have l_a12 : τ 3 a12 = 1024 := by rw [hτ]; show klnl.getD (ix a12) 0 = 1024; rw [x_a12]; rfl
  obtain ⟨x_a13, f_a13⟩ := hix 21 _ rfl
  have x_a13 : ix a13 = 21 := x_a13
  have t_a13 : τ 0 a13 = 25 := by rw [hτ]; show ktyl.getD (ix a13) 0 = 25; rw [x_a13]; rfl
  have l_a13 : τ 3 a13 = 1024 := by rw [hτ]; show klnl.getD (ix a13) 0 = 1024; rw [x_a13]; rfl
  obtain ⟨x_a14, f_a14⟩ := hix 22 _ rfl
  have x_a14 : ix a14 = 22 := x_a14
  have t_a14 : τ 0 a14 = 26 := by rw [hτ]; show ktyl.getD (ix a14) 0 = 26; rw [x_a14]; rfl
  have l_a14 : τ 3 a14 = 1024 := by rw [hτ]; show klnl.getD (ix a14) 0 = 1024; rw [x_a14]; rfl
  obtain ⟨x_a15, f_a15⟩ := hix 23 _ rfl
  have x_a15 : ix a15 = 23 := x_a15
  have t_a15 : τ 0 a15 = 27 := by rw [hτ]; show ktyl.getD (ix a15) 0 = 27; rw [x_a15]; rfl
  have l_a15 : τ 3 a15 = 1024 := by rw [hτ]; show klnl.getD (ix a15) 0 = 1024; rw [x_a15]; rfl
  have p_a15 : ∀ k, pv a15 k = .int 0 := fun k => by rw [hpv]; show kpvl _ _ _ (ix a15) k = _; rw [x_a15]; rfl
  obtain ⟨x_a16, f_a16⟩ := hix 24 _ rfl
  have x_a16 : ix a16 = 24 := x_a16
  have t_a16 : τ 0 a16 = 28 := by rw [hτ]; show ktyl.getD (ix a16) 0 = 28; rw [x_a16]; rfl
  have l_a16 : τ 3 a16 = 1024 := by rw [hτ]; show klnl.getD (ix a16) 0 = 1024; rw [x_a16]; rfl
  obtain ⟨x_a17, f_a17⟩ := hix 25 _ rfl
  have x_a17 : ix a17 = 25 := x_a17
  have t_a17 : τ 0 a17 = 29 := by rw [hτ]; show ktyl.getD (ix a17) 0 = 29; rw [x_a17]; rfl
  have l_a17 : τ 3 a17 = 1024 := by rw [hτ]; show klnl.getD (ix a17) 0 = 1024; rw [x_a17]; rfl
  obtain ⟨x_a18, f_a18⟩ := hix 26 _ rfl
  have x_a18 : ix a18 = 26 := x_a18
  have t_a18 : τ 0 a18 = 30 := by rw [hτ]; show ktyl.getD (ix a18) 0 = 30; rw [x_a18]; rfl
  have l_a18 : τ 3 a18 = 1024 := by rw [hτ]; show klnl.getD (ix a18) 0 = 1024; rw [x_a18]; rfl
  have p_a18 : ∀ k, pv a18 k = .float 0 := fun k => by rw [hpv]; show kpvl _ _ _ (ix a18) k = _; rw [x_a18]; rfl
  obtain ⟨x_a20, f_a20⟩ := hix 27 _ rfl
  have x_a20 : ix a20 = 27 := x_a20
  have t_a20 : τ 0 a20 = 31 := by rw [hτ]; show ktyl.getD (ix a20) 0 = 31; rw [x_a20]; rfl
  have l_a20 : τ 3 a20 = 1024 := by rw [hτ]; show klnl.getD (ix a20) 0 = 1024; rw [x_a20]; rfl
  obtain ⟨x_a21, f_a21⟩ := hix 28 _ rfl
  have x_a21 : ix a21 = 28 := x_a21
  have t_a21 : τ 0 a21 = 32 := by rw [hτ]; show ktyl.getD (ix a21) 0 = 32; rw [x_a21]; rfl
  have l_a21 : τ 3 a21 = 1024 := by rw [hτ]; show klnl.getD (ix a21) 0 = 1024; rw [x_a21]; rfl
  obtain ⟨x_a29, f_a29⟩ := hix 29 _ rfl
  have x_a29 : ix a29 = 29 := x_a29
  have t_a29 : τ 0 a29 = 33 := by rw [hτ]; show ktyl.getD (ix a29) 0 = 33; rw [x_a29]; rfl
  have l_a29 : τ 3 a29 = 256 := by rw [hτ]; show klnl.getD (ix a29) 0 = 256; rw [x_a29]; rfl
  obtain ⟨x_a30, f_a30⟩ := hix 30 _ rfl
  have x_a30 : ix a30 = 30 := x_a30
  have t_a30 : τ 0 a30 = 34 := by rw [hτ]; show ktyl.getD (ix a30) 0 = 34; rw [x_a30]; rfl
  have l_a30 : τ 3 a30 = 256 := by rw [hτ]; show klnl.getD (ix a30) 0 = 256; rw [x_a30]; rfl
  obtain ⟨x_a31, f_a31⟩ := hix 31 _ rfl
  have x_a31 : ix a31 = 31 := x_a31
  have t_a31 : τ 0 a31 = 35 := by rw [hτ]; show ktyl.getD (ix a31) 0 = 35; rw [x_a31]; rfl
  have l_a31 : τ 3 a31 = 256 := by rw [hτ]; show klnl.getD (ix a31) 0 = 256; rw [x_a31]; rfl
  obtain ⟨x_o, f_o⟩ := hix 32 _ rfl
  have x_o : ix o = 32 := x_o
  have t_o : τ 0 o = 36 := by rw [hτ]; show ktyl.getD (ix o) 0 = 36; rw [x_o]; rfl
  have l_o : τ 3 o = 1 := by rw [hτ]; show klnl.getD (ix o) 0 = 1; rw [x_o]; rfl
  have p_o : pv o 0 = .long 0 := by rw [hpv]; show kpvl _ _ _ (ix o) 0 = _; rw [x_o]; rfl
  obtain ⟨x_od, f_od⟩ := hix 33 _ rfl
  have x_od : ix od = 33 := x_od
  have t_od : τ 0 od = 37 := by rw [hτ]; show ktyl.getD (ix od) 0 = 37; rw [x_od]; rfl
  have l_od : τ 3 od = 1 := by rw [hτ]; show klnl.getD (ix od) 0 = 1; rw [x_od]; rfl
  have O_x : kO τ pv 6 x [.ref bl, .ref rl, .ref kl, .ref pn, .ref pp, .ref pq, .int 8, .float FP.fconst1, .float 1031798784, .int 0, .int 1, .int 0, .int 0, .ref wo, .ref re, .ref fr] := by
    refine ⟨rfl, fun k v hk => ?_⟩
    match k, hk with
    | 0, hk => cases hk; exact ⟨(kv_R 7 (by decide) t_bl), ((kPn_pin rfl).mpr (p_x 0).symm)⟩
    | 1, hk => cases hk; exact ⟨(kv_R 8 (by decide) t_rl), ((kPn_pin rfl).mpr (p_x 1).symm)⟩
    | 2, hk => cases hk; exact ⟨(kv_R 8 (by decide) t_kl), ((kPn_pin rfl).mpr (p_x 2).symm)⟩
    | 3, hk => cases hk; exact ⟨(kv_R 4 (by decide) t_pn), (kPn_not rfl (by decide))⟩
    | 4, hk => cases hk; exact ⟨(kv_R 4 (by decide) t_pp), (kPn_not rfl (by decide))⟩
    | 5, hk => cases hk; exact ⟨(kv_R 4 (by decide) t_pq), (kPn_not rfl (by decide))⟩
    | 6, hk => cases hk; exact ⟨(kv_I _), (kPn_not rfl (by decide))⟩
    | 7, hk => cases hk; exact ⟨(kv_F (by decide) kc_1), (kPn_not rfl (by decide))⟩
    | 8, hk => cases hk; exact ⟨(kv_G _), (kPn_not rfl (by decide))⟩
    | 9, hk => cases hk; exact ⟨(kv_I _), (kPn_not rfl (by decide))⟩
    | 10, hk => cases hk; exact ⟨(kv_S (by decide) ⟨1, rfl, by decide, by decide⟩), ((kPn_pin rfl).mpr (p_x 10).symm)⟩
    | 11, hk => cases hk; exact ⟨(kv_I _), (kPn_not rfl (by decide))⟩
    | 12, hk => cases hk; exact ⟨(kv_S (by decide) ⟨0, rfl, by decide⟩), ((kPn_pin rfl).mpr (p_x 12).symm)⟩
    | 13, hk => cases hk; exact ⟨(kv_R 11 (by decide) t_wo), ((kPn_pin rfl).mpr (p_x 13).symm)⟩
    | 14, hk => cases hk; exact ⟨(kv_R 12 (by decide) t_re), ((kPn_pin rfl).mpr (p_x 14).symm)⟩
    | 15, hk => cases hk; exact ⟨(kv_R 13 (by decide) t_fr), ((kPn_pin rfl).mpr (p_x 15).symm)⟩
    | k + 16, hk => simp at hk
  have O_bl : kO τ pv 7 bl [.int 0, .ref ad, .int 0] := by
    refine ⟨rfl, fun k v hk => ?_⟩
    match k, hk with
    | 0, hk => cases hk; exact ⟨(kv_I _), (kPn_not rfl (by decide))⟩
    | 1, hk => cases hk; exact ⟨(kv_S (by decide) ⟨_, rfl⟩), ((kPn_pin rfl).mpr (p_bl 1).symm)⟩
    | 2, hk => cases hk; exact ⟨(kv_S (by decide) ⟨0, rfl, by decide⟩), ((kPn_pin rfl).mpr (p_bl 2).symm)⟩
    | k + 3, hk => simp at hk
  have O_rl : kO τ pv 8 rl [.int 0, .ref ad, .int 0] := by
    refine ⟨rfl, fun k v hk => ?_⟩
    match k, hk with
    | 0, hk => cases hk; exact ⟨(kv_I _), (kPn_not rfl (by decide))⟩
    | 1, hk => cases hk; exact ⟨(kv_S (by decide) ⟨_, rfl⟩), ((kPn_pin rfl).mpr (p_rl 1).symm)⟩
    | 2, hk => cases hk; exact ⟨(kv_S (by decide) ⟨0, rfl, by decide⟩), ((kPn_pin rfl).mpr (p_rl 2).symm)⟩
    | k + 3, hk => simp at hk
  have O_kl : kO τ pv 8 kl [.int 0, .ref ad, .int 0] := by
    refine ⟨rfl, fun k v hk => ?_⟩
    match k, hk with
    | 0, hk => cases hk; exact ⟨(kv_I _), (kPn_not rfl (by decide))⟩
    | 1, hk => cases hk; exact ⟨(kv_S (by decide) ⟨_, rfl⟩), ((kPn_pin rfl).mpr (p_kl 1).symm)⟩
    | 2, hk => cases hk; exact ⟨(kv_S (by decide) ⟨0, rfl, by decide⟩), ((kPn_pin rfl).mpr (p_kl 2).symm)⟩
    | k + 3, hk => simp at hk
  have O_pn : kO τ pv 4 pn [.float 0, .float 0, .float 0] := by
    refine ⟨rfl, fun k v hk => ?_⟩
    match k, hk with
    | 0, hk => cases hk; exact ⟨(kv_F (by decide) (z _)), (kPn_not rfl (by decide))⟩
    | 1, hk => cases hk; exact ⟨(kv_F (by decide) (z _)), (kPn_not rfl (by decide))⟩
    | 2, hk => cases hk; exact ⟨(kv_F (by decide) (z _)), (kPn_not rfl (by decide))⟩
    | k + 3, hk => simp at hk
  have O_pp : kO τ pv 4 pp [.float 0, .float 0, .float 0] := by
    refine ⟨rfl, fun k v hk => ?_⟩
    match k, hk with
    | 0, hk => cases hk; exact ⟨(kv_F (by decide) (z _)), (kPn_not rfl (by decide))⟩
    | 1, hk => cases hk; exact ⟨(kv_F (by decide) (z _)), (kPn_not rfl (by decide))⟩
    | 2, hk => cases hk; exact ⟨(kv_F (by decide) (z _)), (kPn_not rfl (by decide))⟩
    | k + 3, hk => simp at hk
  have O_pq : kO τ pv 4 pq [.float 0, .float 0, .float 0] := by
    refine ⟨rfl, fun k v hk => ?_⟩
    match k, hk with
    | 0, hk => cases hk; exact ⟨(kv_F (by decide) (z _)), (kPn_not rfl (by decide))⟩
    | 1, hk => cases hk; exact ⟨(kv_F (by decide) (z _)), (kPn_not rfl (by decide))⟩
    | 2, hk => cases hk; exact ⟨(kv_F (by decide) (z _)), (kPn_not rfl (by decide))⟩
    | k + 3, hk => simp at hk
  have O_mm : kO τ pv 14 mm [.int 0, .int 0, .ref a2, .ref a3, .ref a4, .ref a5, .int 0, .ref a7, .ref a8, .ref a9, .ref a10, .ref a11, .ref a12, .ref a13, .ref a14, .ref a15, .ref a16, .ref a17, .ref a18, .int 0, .ref a20, .ref a21, .int 8, .float FP.fconst1, .float 1031798784, .int 0, .int 1, .int 0, .int 0, .ref a29, .ref a30, .ref a31, .float 0, .float 0, .float 0] := by
    refine ⟨rfl, fun k v hk => ?_⟩
    match k, hk with
    | 0, hk => cases hk; exact ⟨(kv_I _), ((kPn_pin rfl).mpr (p_mm 0).symm)⟩
    | 1, hk => cases hk; exact ⟨(kv_S (by decide) ⟨0, rfl, by decide⟩), ((kPn_pin rfl).mpr (p_mm 1).symm)⟩
    | 2, hk => cases hk; exact ⟨(kv_R 15 (by decide) t_a2), ((kPn_pin rfl).mpr (p_mm 2).symm)⟩
    | 3, hk => cases hk; exact ⟨(kv_R 16 (by decide) t_a3), (kPn_not rfl (by decide))⟩
    | 4, hk => cases hk; exact ⟨(kv_R 17 (by decide) t_a4), (kPn_not rfl (by decide))⟩
    | 5, hk => cases hk; exact ⟨(kv_R 18 (by decide) t_a5), (kPn_not rfl (by decide))⟩
    | 6, hk => cases hk; exact ⟨(kv_S (by decide) ⟨0, rfl, by decide⟩), ((kPn_pin rfl).mpr (p_mm 6).symm)⟩
    | 7, hk => cases hk; exact ⟨(kv_R 19 (by decide) t_a7), ((kPn_pin rfl).mpr (p_mm 7).symm)⟩
    | 8, hk => cases hk; exact ⟨(kv_R 20 (by decide) t_a8), ((kPn_pin rfl).mpr (p_mm 8).symm)⟩
    | 9, hk => cases hk; exact ⟨(kv_R 21 (by decide) t_a9), (kPn_not rfl (by decide))⟩
    | 10, hk => cases hk; exact ⟨(kv_R 22 (by decide) t_a10), (kPn_not rfl (by decide))⟩
    | 11, hk => cases hk; exact ⟨(kv_R 23 (by decide) t_a11), (kPn_not rfl (by decide))⟩
    | 12, hk => cases hk; exact ⟨(kv_R 24 (by decide) t_a12), (kPn_not rfl (by decide))⟩
    | 13, hk => cases hk; exact ⟨(kv_R 25 (by decide) t_a13), (kPn_not rfl (by decide))⟩
    | 14, hk => cases hk; exact ⟨(kv_R 26 (by decide) t_a14), (kPn_not rfl (by decide))⟩
    | 15, hk => cases hk; exact ⟨(kv_R 27 (by decide) t_a15), ((kPn_pin rfl).mpr (p_mm 15).symm)⟩
    | 16, hk => cases hk; exact ⟨(kv_R 28 (by decide) t_a16), (kPn_not rfl (by decide))⟩
    | 17, hk => cases hk; exact ⟨(kv_R 29 (by decide) t_a17), ((kPn_pin rfl).mpr (p_mm 17).symm)⟩
    | 18, hk => cases hk; exact ⟨(kv_R 30 (by decide) t_a18), ((kPn_pin rfl).mpr (p_mm 18).symm)⟩
    | 19, hk => cases hk; exact ⟨(kv_S (by decide) ⟨0, rfl, by decide⟩), ((kPn_pin rfl).mpr (p_mm 19).symm)⟩
    | 20, hk => cases hk; exact ⟨(kv_R 31 (by decide) t_a20), (kPn_not rfl (by decide))⟩
    | 21, hk => cases hk; exact ⟨(kv_R 32 (by decide) t_a21), (kPn_not rfl (by decide))⟩
    | 22, hk => cases hk; exact ⟨(kv_I _), (kPn_not rfl (by decide))⟩
    | 23, hk => cases hk; exact ⟨(kv_F (by decide) kc_1), (kPn_not rfl (by decide))⟩
    | 24, hk => cases hk; exact ⟨(kv_G _), (kPn_not rfl (by decide))⟩
    | 25, hk => cases hk; exact ⟨(kv_I _), (kPn_not rfl (by decide))⟩
    | 26, hk => cases hk; exact ⟨(kv_I _), ((kPn_pin rfl).mpr (p_mm 26).symm)⟩
    | 27, hk => cases hk; exact ⟨(kv_I _), (kPn_not rfl (by decide))⟩
    | 28, hk => cases hk; exact ⟨(kv_S (by decide) ⟨0, rfl, by decide⟩), ((kPn_pin rfl).mpr (p_mm 28).symm)⟩
    | 29, hk => cases hk; exact ⟨(kv_R 33 (by decide) t_a29), (kPn_not rfl (by decide))⟩
    | 30, hk => cases hk; exact ⟨(kv_R 34 (by decide) t_a30), (kPn_not rfl (by decide))⟩
    | 31, hk => cases hk; exact ⟨(kv_R 35 (by decide) t_a31), (kPn_not rfl (by decide))⟩
    | 32, hk => cases hk; exact ⟨(kv_F (by decide) (z _)), (kPn_not rfl (by decide))⟩
    | 33, hk => cases hk; exact ⟨(kv_F (by decide) (z _)), (kPn_not rfl (by decide))⟩
    | 34, hk => cases hk; exact ⟨(kv_F (by decide) (z _)), (kPn_not rfl (by decide))⟩
    | k + 35, hk => simp at hk
  have kwc : ∀ (i : Nat) (q : Nat × va_E), ([(x, .inr (4, [.ref bl, .ref rl, .ref kl, .ref pn, .ref pp, .ref pq, .int 8, .float FP.fconst1, .float 1031798784, .int 0, .int 1, .int 0, .int 0, .ref wo, .ref re, .ref fr])), (bl, .inr (0, [.int 0, .ref ad, .int 0])), (rl, .inr (0, [.int 0, .ref ad, .int 0])), (kl, .inr (0, [.int 0, .ref ad, .int 0])), (pn, .inr (3, [.float 0, .float 0, .float 0])), (pp, .inr (3, [.float 0, .float 0, .float 0])), (pq, .inr (3, [.float 0, .float 0, .float 0])), (wo, .inl (cI, 256, .inl (fun _ => 0))), (re, .inl (cB, 256, .inl (fun _ => 0))), (fr, .inl (cR, 8, .inr (.inr (.inr (.inr (fun _ => none)))))), (mm, .inr (5, [.int 0, .int 0, .ref a2, .ref a3, .ref a4, .ref a5, .int 0, .ref a7, .ref a8, .ref a9, .ref a10, .ref a11, .ref a12, .ref a13, .ref a14, .ref a15, .ref a16, .ref a17, .ref a18, .int 0, .ref a20, .ref a21, .int 8, .float FP.fconst1, .float 1031798784, .int 0, .int 1, .int 0, .int 0, .ref a29, .ref a30, .ref a31, .float 0, .float 0, .float 0])), (a2, .inl (cF, 3328, .inr (.inr (.inl (fun _ => 0))))), (a3, .inl (cB, 256, .inl (fun _ => 0))), (a4, .inl (cI, 256, .inl (fun _ => 0))), (a5, .inl (cF, 9, .inr (.inr (.inl (fun _ => 0))))), (a7, .inl (cI, 1024, .inl (fun _ => 0))), (a8, .inl (cI, 1024, .inl (fun _ => 0))), (a9, .inl (cF, 9216, .inr (.inr (.inl (fun _ => 0))))), (a10, .inl (cF, 1024, .inr (.inr (.inl (fun _ => 0))))), (a11, .inl (cF, 1024, .inr (.inr (.inl (fun _ => 0))))), (a12, .inl (cF, 1024, .inr (.inr (.inl (fun _ => 0))))), (a13, .inl (cF, 1024, .inr (.inr (.inl (fun _ => 0))))), (a14, .inl (cF, 1024, .inr (.inr (.inl (fun _ => 0))))), (a15, .inl (cI, 1024, .inl (fun _ => 0))), (a16, .inl (cI, 1024, .inl (fun _ => 0))), (a17, .inl (cF, 1024, .inr (.inr (.inl (fun _ => 0))))), (a18, .inl (cF, 1024, .inr (.inr (.inl (fun _ => 0))))), (a20, .inl (cI, 1024, .inl (fun _ => 0))), (a21, .inl (cF, 1024, .inr (.inr (.inl (fun _ => 0))))), (a29, .inl (cI, 256, .inl (fun _ => 0))), (a30, .inl (cI, 256, .inl (fun _ => 0))), (a31, .inl (cB, 256, .inl (fun _ => 0))), (o, .inl (cJ, 1, .inr (.inl (fun _ => 0)))), (od, .inl (cD, 1, .inr (.inr (.inr (.inl (fun _ => 0))))))] : va_W)[i]? = some q → kC dA τ pv q.1 q.2 := by
    rw [← d0, ← d1, ← d2, ← d3, ← d4, ← d6]
    intro i q hq
    match i, hq with
    | 0, hq => cases hq; exact kC_o t_x rfl rfl rfl O_x
    | 1, hq => cases hq; exact kC_o t_bl rfl rfl rfl O_bl
    | 2, hq => cases hq; exact kC_o t_rl rfl rfl rfl O_rl
    | 3, hq => cases hq; exact kC_o t_kl rfl rfl rfl O_kl
    | 4, hq => cases hq; exact kC_o t_pn rfl rfl rfl O_pn
    | 5, hq => cases hq; exact kC_o t_pp rfl rfl rfl O_pp
    | 6, hq => cases hq; exact kC_o t_pq rfl rfl rfl O_pq
    | 7, hq => cases hq; exact kC_i 0 t_wo l_wo rfl rfl (by decide) rfl rfl (fun _ => kv_S (show 4 < 100 by decide) ⟨0, rfl, by decide, by decide⟩) (fun _ => kPn_not rfl (by decide))
    | 8, hq => cases hq; exact kC_i 1 t_re l_re rfl rfl (by decide) rfl rfl (fun _ => kv_Z (Or.inl rfl)) (fun _ => kPn_not rfl (by decide))
    | 9, hq => cases hq; exact kC_q t_fr l_fr rfl rfl rfl rfl (fun _ => kv_N0 2 (by decide)) (fun i => (kPn_pin rfl).mpr (p_fr i).symm)
    | 10, hq => cases hq; exact kC_o t_mm rfl rfl rfl O_mm
    | 11, hq => cases hq; exact kC_f t_a2 l_a2 rfl rfl rfl rfl (fun _ => kv_15z0) (fun _ => kPn_not rfl (by decide))
    | 12, hq => cases hq; exact kC_i 1 t_a3 l_a3 rfl rfl (by decide) rfl rfl (fun _ => kv_Z (Or.inl rfl)) (fun _ => kPn_not rfl (by decide))
    | 13, hq => cases hq; exact kC_i 0 t_a4 l_a4 rfl rfl (by decide) rfl rfl (fun _ => kv_I _) (fun _ => kPn_not rfl (by decide))
    | 14, hq => cases hq; exact kC_f t_a5 l_a5 rfl rfl rfl rfl (fun _ => kv_F (show 1000000 < 1115684864 by decide) (z _)) (fun _ => kPn_not rfl (by decide))
    | 15, hq => cases hq; exact kC_i 0 t_a7 l_a7 rfl rfl (by decide) rfl rfl (fun _ => kv_I _) (fun i => (kPn_pin rfl).mpr (p_a7 i).symm)
    | 16, hq => cases hq; exact kC_i 0 t_a8 l_a8 rfl rfl (by decide) rfl rfl (fun _ => kv_I _) (fun i => (kPn_pin rfl).mpr (p_a8 i).symm)
    | 17, hq => cases hq; exact kC_f t_a9 l_a9 rfl rfl rfl rfl (fun _ => kv_F (show 1000000 < 1115684864 by decide) (z _)) (fun _ => kPn_not rfl (by decide))
    | 18, hq => cases hq; exact kC_f t_a10 l_a10 rfl rfl rfl rfl (fun _ => kv_F (show 1000000 < 1149239296 by decide) (z _)) (fun _ => kPn_not rfl (by decide))
    | 19, hq => cases hq; exact kC_f t_a11 l_a11 rfl rfl rfl rfl (fun _ => kv_F (show 1000000 < 1115684864 by decide) (z _)) (fun _ => kPn_not rfl (by decide))
    | 20, hq => cases hq; exact kC_f t_a12 l_a12 rfl rfl rfl rfl (fun _ => kv_F (show 1000000 < 1199570944 by decide) (z _)) (fun _ => kPn_not rfl (by decide))
    | 21, hq => cases hq; exact kC_f t_a13 l_a13 rfl rfl rfl rfl (fun _ => kv_F (show 1000000 < 1199570944 by decide) (z _)) (fun _ => kPn_not rfl (by decide))
    | 22, hq => cases hq; exact kC_f t_a14 l_a14 rfl rfl rfl rfl (fun _ => kv_F (show 1000000 < 1090519040 by decide) (z _)) (fun _ => kPn_not rfl (by decide))
    | 23, hq => cases hq; exact kC_i 0 t_a15 l_a15 rfl rfl (by decide) rfl rfl (fun _ => kv_I _) (fun i => (kPn_pin rfl).mpr (p_a15 i).symm)
    | 24, hq => cases hq; exact kC_i 0 t_a16 l_a16 rfl rfl (by decide) rfl rfl (fun _ => kv_I _) (fun _ => kPn_not rfl (by decide))
    | 25, hq => cases hq; exact kC_f t_a17 l_a17 rfl rfl rfl rfl (fun _ => kv_F (show 1000000 < 1224736768 by decide) (z _)) (fun _ => kPn_29 (fun _ => z _))
    | 26, hq => cases hq; exact kC_f t_a18 l_a18 rfl rfl rfl rfl (fun _ => kv_F (show 1000000 < 1241513984 by decide) (z _)) (fun i => (kPn_pin rfl).mpr (p_a18 i).symm)
    | 27, hq => cases hq; exact kC_i 0 t_a20 l_a20 rfl rfl (by decide) rfl rfl (fun _ => kv_I _) (fun _ => kPn_not rfl (by decide))
    | 28, hq => cases hq; exact kC_f t_a21 l_a21 rfl rfl rfl rfl (fun _ => kv_F (show 1000000 < 1224736768 by decide) (z _)) (fun _ => kPn_not rfl (by decide))
    | 29, hq => cases hq; exact kC_i 0 t_a29 l_a29 rfl rfl (by decide) rfl rfl (fun _ => kv_S (show 3 < 100 by decide) ⟨0, rfl, by decide, by decide⟩) (fun _ => kPn_not rfl (by decide))
    | 30, hq => cases hq; exact kC_i 0 t_a30 l_a30 rfl rfl (by decide) rfl rfl (fun _ => kv_S (show 3 < 100 by decide) ⟨0, rfl, by decide, by decide⟩) (fun _ => kPn_not rfl (by decide))
    | 31, hq => cases hq; exact kC_i 1 t_a31 l_a31 rfl rfl (by decide) rfl rfl (fun _ => kv_Z (Or.inl rfl)) (fun _ => kPn_not rfl (by decide))
    | 32, hq => cases hq; exact kC_l t_o l_o rfl rfl rfl rfl p_o
    | 33, hq => cases hq; exact kC_d t_od l_od rfl rfl rfl rfl
    | i + 34, hq => simp at hq
  refine ⟨dA, _, f, ⟨τ, pv, bl, rl, kl, ad, ad, ad, fr, 0, 0, 0, a7, a8, a15, a17, a18, 0, ?_, ?_, kRel.nil, t_o, t_od, (p_x 10).trans (p_mm 26).symm, ?_⟩, ?_, by rw [hpl]; exact hP, by rw [hpl]; exact hD⟩
  · refine ⟨⟨t_x, p_x 0, p_x 1, p_x 2, p_x 15, t_fr⟩, fun e => ?_, fun _ => rfl, by decide, by decide, by decide, ⟨t_bl, p_bl 1, p_bl 2, Or.inl ⟨rfl, rfl⟩⟩, ⟨t_rl, p_rl 1, p_rl 2, Or.inl ⟨rfl, rfl⟩⟩, ⟨t_kl, p_kl 1, p_kl 2, Or.inl ⟨rfl, rfl⟩⟩, fun i q hi => absurd hi (Nat.not_lt_zero i), fun i q hi => absurd hi (Nat.not_lt_zero i)⟩
    rw [e, x_kl] at x_rl
    cases x_rl
  · exact ⟨⟨t_mm, p_mm 1, p_mm 6, p_mm 19, p_mm 7, p_mm 8, p_mm 15, p_mm 17, t_a7, t_a8, t_a15, t_a17, p_mm 18, t_a18⟩, by decide, by decide, by decide, by decide, fun r hr => absurd hr (Nat.not_lt_zero r), fun r t hr => absurd hr (Nat.not_lt_zero r)⟩
  · refine kI.mk (fun a ha => ?_) (fun a => ?_)
    · have hl : ix a < 34 := by
        rcases Nat.lt_or_ge (ix a) 34 with h | h
        · exact h
        · exact absurd (show τ 0 a = 0 by rw [hτ]; show ktyl.getD (ix a) 0 = 0; rw [List.getD_eq_getElem?_getD, List.getElem?_eq_none (show ktyl.length ≤ ix a from h)]; rfl) ha
      obtain ⟨q, h1, h2⟩ := hin a hl
      rw [← h2]
      exact List.mem_map.mpr ⟨q, List.mem_of_getElem? h1, rfl⟩
    · rcases Nat.lt_or_ge (ix a) 34 with h | h
      · obtain ⟨q, h1, h2⟩ := hin a h
        have h3 := (hix _ q h1).2
        rw [← h2, h3]
        exact kwc (ix a) q h1
      · exact kC_0 (by rw [hτ]; show ktyl.getD (ix a) 0 = 0; rw [List.getD_eq_getElem?_getD, List.getElem?_eq_none (show ktyl.length ≤ ix a from h)]; rfl)
  · refine ⟨hK.1, fun k q hk => ?_⟩
    match k, hk with
    | 0, hk => cases hk; rw [d0]; exact hK.2 0 _ rfl
    | 1, hk => cases hk; rw [d1]; exact hK.2 1 _ rfl
    | 2, hk => cases hk; rw [d2]; exact hK.2 3 _ rfl
    | 3, hk => cases hk; rw [d3]; exact hK.2 4 _ rfl
    | 4, hk => cases hk; rw [d4]; exact hK.2 5 _ rfl
    | 5, hk => cases hk; rw [d5]; exact hcO
    | 6, hk => cases hk; rw [d6]; exact hK.2 2 _ rfl
    | k + 7, hk => simp [tyA] at hk
