theorem kref {a b : Nat} (h : Value.ref a = Value.ref b) : a = b := by cases h; rfl
section KCY
variable {p : Program} {l : Launch} {e : Env} {R : Room} {s : State} {m : MethodId} {args : Array Value} {below : List Frame} {meth : Method} {c : Code} {H : Heap} {locs : List Loc} {cells slots : Nat} {Q : State → Prop}
variable {cc : ByteArray} {pc : Nat} {ls : Array Slot} {rest : List Value} {D : va_G} {cl : List vw_C} {A : Nat → Prop} {H0 : Heap}
variable {dA : Nat → ClassId} {τ : Nat → Nat → Nat} {pv : Nat → Nat → Value} {L : List Nat} {f : Nat → va_E} {t : Nat}
theorem kp_copy (hexec : p.tables.exec = Jvm.exec) (hb : c.code = cc) (hml : c.maxLocals = ls.size) {own : String} {index : Nat} (hown : s.vm.findClass own = some m.cls) (hlink : (Cond.methodLink own index arraycopyName).before args s = true) (hnat : (Cond.native arraycopyName).before args s = true) (hstat : (Cond.static arraycopyName).before args s = true) (hini : (Cond.initialized "java/lang/System").before args s = true)
    (hK : va_K D cl (tyA dA) s) (hP : va_P D cl (va_pl L f) H) (hD : va_D A (va_pl L f)) (hS : va_S A H0 H locs) {a0 a n0 n1 n : Nat} {g0 g : Nat → Option Nat} (hm0 : a0 ∈ L) (hm : a ∈ L) (hf0 : f a0 = .inl (dA 5, n0, .inr (.inr (.inr (.inr g0))))) (hf : f a = .inl (dA 5, n1, .inr (.inr (.inr (.inr g))))) (hn0 : n ≤ n0) (hn1 : n ≤ n1) (hn : n < 2 ^ 31) (hel : ∀ i, i < n → ∀ y, g0 i = some y → va_Any "java/lang/Object" s H y)
    (hframes : 1 ≤ R.frames) (hlocals : (rest.map fun v => v.category).sum + (nativeFrameWords "java/lang/System" "arraycopy" 5 + 11) ≤ R.locals) (hdg : decode cc pc = .ok (.invokestatic index, 3))
    (kk : ∀ (H1 : Heap) (locs1 : List Loc), va_P D cl (va_pl L (va_up f a (.inl (dA 5, n1, .inr (.inr (.inr (.inr (va_cpy g0 g 0 0 n)))))))) H1 → va_D A (va_pl L (va_up f a (.inl (dA 5, n1, .inr (.inr (.inr (.inr (va_cpy g0 g 0 0 n)))))))) → va_S A H0 H1 locs1 → W p l e R s m args below meth c H1 locs1 cells slots Q (F0 m (pc + 3) ls rest)) : W p l e R s m args below meth c H locs cells slots Q (F0 m pc ls (.int (nI n) :: .int 0 :: .ref a :: .int 0 :: .ref a0 :: rest)) := by
  obtain ⟨q0, hq0⟩ := kpl_get (f := f) hm0
  obtain ⟨q1, hq1⟩ := kpl_get (f := f) hm
  have hq0' := hq0
  have hq1' := hq1
  rw [hf0] at hq0'
  rw [hf] at hq1'
  have z : (0 : Int32).toNatClampNeg = 0 := by decide
  have zn : (nI n).toNatClampNeg = n := nI_clamp hn
  refine va_copyM (E1 := "java/lang/Object") hexec hb hml hown hlink hnat hstat hini hK hP hD hS q0 q1 5 5 hq0' hq1' rfl rfl (by decide) (by decide) (nI_pos hn) (by rw [z, zn]; omega) (by rw [z, zn]; omega) (fun i hi y hy => ?_) hframes hlocals hdg (fun H1 locs1 g1 g2 g3 => ?_)
  · rw [zn] at hi
    rw [z, Nat.zero_add] at hy
    exact hel i hi y hy
  · rw [z, zn, kpl_set hD hm hq1] at g1 g2
    exact kk H1 locs1 g1 g2 g3
end KCY
theorem kI.push {dA : Nat → ClassId} {τ : Nat → Nat → Nat} {pv : Nat → Nat → Value} {L : List Nat} {f : Nat → va_E} {q : Nat} {e : va_E} (h : kI dA τ pv L f) (hq : q ∉ L) : kI dA τ pv (L ++ [q]) (va_up f q e) := by
  have h0 : τ 0 q = 0 := h.t0 hq
  refine h.change (a := q) (Or.inl h0) (fun b hb => List.mem_append_left _ hb) (List.mem_append_right _ (List.mem_singleton.mpr rfl)) (fun _ _ _ => rfl) (fun _ _ _ => rfl) (fun b hb => va_up_ne _ _ hb) ?_
  unfold kC
  rw [h0]
  exact ⟨fun _ hc => (by cases hc), fun _ hc => (by cases hc), fun _ hc => (by cases hc), fun hc => (by cases hc), fun hc => (by cases hc), fun hc => (by cases hc), fun _ hc => (by cases hc)⟩
def kgA (t n : Nat) : Nat → Nat := fun j => if j = 0 then t else if j = 3 then n else 0
theorem kI.newB {dA : Nat → ClassId} {τ : Nat → Nat → Nat} {pv : Nat → Nat → Value} {L L' : List Nat} {f f' : Nat → va_E} {q t n : Nat} {g : Nat → Option Nat} (h : kI dA τ pv L f) (hL : ∀ b ∈ L, b ∈ L') (hq : q ∈ L') (h0 : τ 0 q = 0) (ht : t = 9 ∨ t = 10) (hn : 10 ≤ n ∧ n ≤ 4096) (hf : ∀ b, b ≠ q → f' b = f b) (he : f' q = .inl (dA 5, n, .inr (.inr (.inr (.inr g))))) : kI dA (kxt τ q (kgA t n)) (kux pv q (fun k => va_rf (g k))) L' f' := by
  refine h.change (a := q) (Or.inl h0) hL hq (fun b hb j => kxt_ne hb j) (fun b hb j => kux_ne hb j) hf ?_
  rw [he]
  have e0 : kxt τ q (kgA t n) 0 q = t := kxt_self 0
  have e3 : kxt τ q (kgA t n) 3 q = n := kxt_self 3
  unfold kC
  rw [e0, e3]
  have h5 : kAk t = some 5 := by rcases ht with rfl | rfl <;> rfl
  have hec : ∀ i, kEc t i = 9 := by rcases ht with rfl | rfl <;> exact fun _ => rfl
  rw [h5]
  refine ⟨fun ci hc => ?_, fun k hk => ?_, fun k hk hk1 => ?_, fun hk => (by cases hk), fun hk => (by cases hk), fun hk => (by cases hk), fun k hk _ => ?_⟩
  · rcases ht with rfl | rfl <;> cases hc
  · rcases ht with rfl | rfl <;> exact hn
  · cases hk
    exact absurd hk1 (by decide)
  · cases hk
    refine ⟨g, rfl, fun i => ⟨?_, (kPn_pin (by rcases ht with rfl | rfl <;> rfl)).mpr (kux_self (w := fun k => va_rf (g k)) i).symm⟩⟩
    rw [hec i]
    exact kv_S (by decide) ⟨g i, rfl⟩
theorem kI.newA {dA : Nat → ClassId} {τ : Nat → Nat → Nat} {pv : Nat → Nat → Value} {L : List Nat} {f : Nat → va_E} {q t n : Nat} {g : Nat → Option Nat} (h : kI dA τ pv L f) (hq : q ∈ L) (h0 : τ 0 q = 0) (ht : t = 9 ∨ t = 10) (hn : 10 ≤ n ∧ n ≤ 4096) : kI dA (kxt τ q (kgA t n)) (kux pv q (fun k => va_rf (g k))) L (va_up f q (.inl (dA 5, n, .inr (.inr (.inr (.inr g)))))) := h.newB (fun b hb => hb) hq h0 ht hn (fun b hb => va_up_ne _ _ hb) (va_up_self _ _ _)
theorem kI.newC {dA : Nat → ClassId} {τ : Nat → Nat → Nat} {pv : Nat → Nat → Value} {L : List Nat} {f : Nat → va_E} {q t n : Nat} {g : Nat → Option Nat} (h : kI dA τ pv L f) (hq : q ∉ L) (ht : t = 9 ∨ t = 10) (hn : 10 ≤ n ∧ n ≤ 4096) : kI dA (kxt τ q (kgA t n)) (kux pv q (fun k => va_rf (g k))) (L ++ [q]) (va_up f q (.inl (dA 5, n, .inr (.inr (.inr (.inr g)))))) := h.newB (fun b hb => List.mem_append_left _ hb) (List.mem_append_right _ (List.mem_singleton.mpr rfl)) (h.t0 hq) ht hn (fun b hb => va_up_ne _ _ hb) (va_up_self _ _ _)
theorem kI.qarr {dA : Nat → ClassId} {τ : Nat → Nat → Nat} {pv : Nat → Nat → Value} {L : List Nat} {f : Nat → va_E} {a t : Nat} (h : kI dA τ pv L f) (ha : τ 0 a = t) (ht : t = 9 ∨ t = 10) : a ∈ L ∧ ∃ g : Nat → Option Nat, f a = .inl (dA 5, τ 3 a, .inr (.inr (.inr (.inr g)))) ∧ ∀ i, va_rf (g i) = pv a i := by
  have hk : kAk t = some 5 := by rcases ht with rfl | rfl <;> rfl
  obtain ⟨hm, -, -⟩ := h.arr ha hk
  subst ha
  obtain ⟨g, h1, h2⟩ := h.2.2.2.2.2.2.2 a 5 hk (by decide)
  exact ⟨hm, g, h1, fun i => (kPn_pin (by rcases ht with e | e <;> rw [e] <;> rfl)).mp (h2 i).2⟩
def kLs (τ : Nat → Nat → Nat) (pv : Nat → Nat → Value) (ad tl ta te l a n : Nat) : Prop := τ 0 l = tl ∧ pv l 1 = .ref a ∧ pv l 2 = .int (nI n) ∧ ((a = ad ∧ n = 0) ∨ (τ 0 a = ta ∧ n ≤ τ 3 a ∧ ∀ i, i < n → ∃ q, pv a i = .ref q ∧ τ 0 q = te))
theorem kLs.at {τ : Nat → Nat → Nat} {pv : Nat → Nat → Value} {ad tl ta te l a n i : Nat} (h : kLs τ pv ad tl ta te l a n) (hi : i < n) : ∃ q, τ 0 a = ta ∧ n ≤ τ 3 a ∧ pv a i = .ref q ∧ τ 0 q = te := by
  obtain ⟨-, -, -, h | ⟨h1, h2, h3⟩⟩ := h
  · omega
  · obtain ⟨q, g1, g2⟩ := h3 i hi
    exact ⟨q, h1, h2, g1, g2⟩
theorem kLs.fr {P : Nat → Nat → Bool} {τ τ' : Nat → Nat → Nat} {pv pv' : Nat → Nat → Value} {ad tl ta te l a n : Nat} (h : kLs τ pv ad tl ta te l a n) (hF : kFr P τ pv τ' pv') (h1 : P tl 1 = true) (h2 : P tl 2 = true) (ha : ∀ k, P ta k = true) (htl : 0 < tl ∧ tl < 40) (hta : 0 < ta ∧ ta < 40) (hte : 0 < te ∧ te < 40) : kLs τ' pv' ad tl ta te l a n := by
  obtain ⟨g1, g2, g3, g4⟩ := h
  refine ⟨hF.ty g1 (by omega) (by omega), (hF.pn g1 h1 (by omega) (by omega)).trans g2, (hF.pn g1 h2 (by omega) (by omega)).trans g3, ?_⟩
  rcases g4 with g4 | ⟨g4, g5, g6⟩
  · exact Or.inl g4
  · refine Or.inr ⟨hF.ty g4 (by omega) (by omega), by rw [hF.tj g4 (by omega) (by omega) 3]; exact g5, fun i hi => ?_⟩
    obtain ⟨q, k1, k2⟩ := g6 i hi
    exact ⟨q, (hF.pn g4 (ha i) (by omega) (by omega)).trans k1, hF.ty k2 (by omega) (by omega)⟩
def kPw (t k : Nat) : Bool := match t with
  | 2 => k == 17
  | 6 => k == 0 || k == 1 || k == 2 || k == 15
  | 7 => true
  | 8 => true
  | 9 => true
  | 10 => true
  | _ => false
def kPk (t k : Nat) : Bool := match t with
  | 1 => k != 14
  | 2 => k != 13 && k != 14
  | 6 => k != 12
  | 13 => false
  | _ => true
def kPd (t k : Nat) : Bool := match t with
  | 2 => k != 17
  | 13 => false
  | _ => true
def kPt (_ _ : Nat) : Bool := true
def kPm (t k : Nat) : Bool := decide ((14 ≤ t ∧ t ≠ 36) ∨ (t = 6 ∧ k = 10) ∨ t = 9 ∨ t = 10)
def kPmC (t k : Nat) : Bool := decide ((14 ≤ t ∧ t ≠ 36) ∨ (t = 6 ∧ k = 10))
def kPmB (t k : Nat) : Bool := decide ((14 ≤ t ∧ t ≠ 36) ∨ (t = 6 ∧ k = 10) ∨ t = 10)
def kPmR (t k : Nat) : Bool := decide ((14 ≤ t ∧ t ≠ 36) ∨ (t = 6 ∧ k = 10) ∨ t = 9)
def kPm0 (t _ : Nat) : Bool := decide ((14 ≤ t ∧ t ≠ 36) ∨ t = 9 ∨ t = 10)
def kPmD (t _ : Nat) : Bool := decide (14 ≤ t ∧ t ≠ 36)
def kP9 (t _ : Nat) : Bool := decide (t = 9)
def kP10 (t _ : Nat) : Bool := decide (t = 10)
def kPx (t k : Nat) : Bool := decide (t < 14 ∨ t = 36 ∨ (t = 14 ∧ k = 26) ∨ t = 19 ∨ t = 20 ∨ t = 27)
def kPx0 (t _ : Nat) : Bool := decide (t < 14 ∨ t = 36 ∨ t = 19 ∨ t = 20 ∨ t = 27)
def kPxr (mr t k : Nat) : Bool := decide (t < 14 ∨ t = 36 ∨ (t = 14 ∧ k = 26) ∨ ((t = 19 ∨ t = 20 ∨ t = 27) ∧ k < mr))
def kPxs (mr t k : Nat) : Bool := decide (t < 14 ∨ t = 36 ∨ ((t = 19 ∨ t = 20 ∨ t = 27) ∧ k < mr))
theorem kPw_k (t k : Nat) (h : kPw t k = true) : kPk t k = true := by
  unfold kPw at h
  split at h
  · rw [beq_iff_eq.mp h]; rfl
  · simp only [Bool.or_eq_true, beq_iff_eq] at h
    rcases h with ((h | h) | h) | h <;> rw [h] <;> rfl
  · rfl
  · rfl
  · rfl
  · rfl
  · cases h
theorem kPw_x (t k : Nat) (h : kPw t k = true) : kPx t k = true := by
  unfold kPw at h
  split at h <;> first | rfl | cases h
theorem kPm_0 (t k : Nat) (h : kPm0 t k = true) : kPm t k = true := decide_eq_true (by have := of_decide_eq_true h; omega)
theorem kPm_C (t k : Nat) (h : kPmC t k = true) : kPm t k = true := decide_eq_true (by have := of_decide_eq_true h; omega)
theorem kPmB_C (t k : Nat) (h : kPmC t k = true) : kPmB t k = true := decide_eq_true (by have := of_decide_eq_true h; omega)
theorem kPmR_C (t k : Nat) (h : kPmC t k = true) : kPmR t k = true := decide_eq_true (by have := of_decide_eq_true h; omega)
theorem kPm_R (t k : Nat) (h : kPmR t k = true) : kPm t k = true := decide_eq_true (by have := of_decide_eq_true h; omega)
theorem kPm0_D (t k : Nat) (h : kPmD t k = true) : kPm0 t k = true := decide_eq_true (by have := of_decide_eq_true h; omega)
theorem kPmC_D (t k : Nat) (h : kPmD t k = true) : kPmC t k = true := decide_eq_true (by have := of_decide_eq_true h; omega)
theorem kPm_9 (t k : Nat) (h : kP9 t k = true) : kPm t k = true := decide_eq_true (by have := of_decide_eq_true h; omega)
theorem kPm_10 (t k : Nat) (h : kP10 t k = true) : kPm t k = true := decide_eq_true (by have := of_decide_eq_true h; omega)
theorem kPm0_9 (t k : Nat) (h : kP9 t k = true) : kPm0 t k = true := decide_eq_true (by have := of_decide_eq_true h; omega)
theorem kPm0_10 (t k : Nat) (h : kP10 t k = true) : kPm0 t k = true := decide_eq_true (by have := of_decide_eq_true h; omega)
theorem kPmB_10 (t k : Nat) (h : kP10 t k = true) : kPmB t k = true := decide_eq_true (by have := of_decide_eq_true h; omega)
theorem kPmR_9 (t k : Nat) (h : kP9 t k = true) : kPmR t k = true := decide_eq_true (by have := of_decide_eq_true h; omega)
theorem kPx_r (mr t k : Nat) (h : kPxr mr t k = true) : kPx t k = true := decide_eq_true (by have := of_decide_eq_true h; omega)
theorem kPx0_s (mr t k : Nat) (h : kPxs mr t k = true) : kPx0 t k = true := decide_eq_true (by have := of_decide_eq_true h; omega)
theorem kPxr_s (mr t k : Nat) (h : kPxs mr t k = true) : kPxr mr t k = true := decide_eq_true (by have := of_decide_eq_true h; omega)
theorem kPx_s (mr t k : Nat) (h : kPxs mr t k = true) : kPx t k = true := decide_eq_true (by have := of_decide_eq_true h; omega)
theorem kPw_xr (mr t k : Nat) (h : kPw t k = true) : kPxr mr t k = true := by
  unfold kPw at h
  split at h <;> first | rfl | cases h
theorem kPm_k (t k : Nat) (h : kPm t k = true) : kPk t k = true := by
  rcases of_decide_eq_true h with h | ⟨rfl, rfl⟩ | rfl | rfl
  · unfold kPk
    split <;> first | rfl | omega
  · rfl
  · rfl
  · rfl
theorem kPm_d (t k : Nat) (h : kPm t k = true) : kPd t k = true := by
  rcases of_decide_eq_true h with h | ⟨rfl, rfl⟩ | rfl | rfl
  · unfold kPd
    split <;> first | rfl | omega
  · rfl
  · rfl
  · rfl
def kW (τ : Nat → Nat → Nat) (pv : Nat → Nat → Value) (ad x bl rl kl ba ra ka fr nb nr nk : Nat) : Prop :=
  (τ 0 x = 6 ∧ pv x 0 = .ref bl ∧ pv x 1 = .ref rl ∧ pv x 2 = .ref kl ∧ pv x 15 = .ref fr ∧ τ 0 fr = 13) ∧ rl ≠ kl ∧ (ra = ka → ra = ad) ∧ nb ≤ 256 ∧ nr ≤ 1024 ∧ nk ≤ 1024 ∧
  kLs τ pv ad 7 9 1 bl ba nb ∧ kLs τ pv ad 8 10 2 rl ra nr ∧ kLs τ pv ad 8 10 2 kl ka nk ∧
  (∀ i q, i < nb → pv ba i = .ref q → τ 1 q = i) ∧
  (∀ i q, i < nr → pv ra i = .ref q → τ 1 q = i ∧ (pv q 17 = .null ∨ ∃ q', pv q 17 = .ref q' ∧ i < τ 1 q' ∧ τ 1 q' < nr ∧ pv ra (τ 1 q') = .ref q'))
section KWW
variable {τ τ' : Nat → Nat → Nat} {pv pv' : Nat → Nat → Value} {ad x bl rl kl ba ra ka fr nb nr nk : Nat}
theorem kW.tx (h : kW τ pv ad x bl rl kl ba ra ka fr nb nr nk) : τ 0 x = 6 := h.1.1
theorem kW.p0 (h : kW τ pv ad x bl rl kl ba ra ka fr nb nr nk) : pv x 0 = .ref bl := h.1.2.1
theorem kW.p1 (h : kW τ pv ad x bl rl kl ba ra ka fr nb nr nk) : pv x 1 = .ref rl := h.1.2.2.1
theorem kW.p2 (h : kW τ pv ad x bl rl kl ba ra ka fr nb nr nk) : pv x 2 = .ref kl := h.1.2.2.2.1
theorem kW.p15 (h : kW τ pv ad x bl rl kl ba ra ka fr nb nr nk) : pv x 15 = .ref fr := h.1.2.2.2.2.1
theorem kW.tf (h : kW τ pv ad x bl rl kl ba ra ka fr nb nr nk) : τ 0 fr = 13 := h.1.2.2.2.2.2
theorem kW.lnb (h : kW τ pv ad x bl rl kl ba ra ka fr nb nr nk) : nb ≤ 256 := h.2.2.2.1
theorem kW.lnr (h : kW τ pv ad x bl rl kl ba ra ka fr nb nr nk) : nr ≤ 1024 := h.2.2.2.2.1
theorem kW.lnk (h : kW τ pv ad x bl rl kl ba ra ka fr nb nr nk) : nk ≤ 1024 := h.2.2.2.2.2.1
theorem kW.lb (h : kW τ pv ad x bl rl kl ba ra ka fr nb nr nk) : kLs τ pv ad 7 9 1 bl ba nb := h.2.2.2.2.2.2.1
theorem kW.lr (h : kW τ pv ad x bl rl kl ba ra ka fr nb nr nk) : kLs τ pv ad 8 10 2 rl ra nr := h.2.2.2.2.2.2.2.1
theorem kW.lk (h : kW τ pv ad x bl rl kl ba ra ka fr nb nr nk) : kLs τ pv ad 8 10 2 kl ka nk := h.2.2.2.2.2.2.2.2.1
theorem kW.xb (h : kW τ pv ad x bl rl kl ba ra ka fr nb nr nk) {i q : Nat} (hi : i < nb) (hq : pv ba i = .ref q) : τ 1 q = i := h.2.2.2.2.2.2.2.2.2.1 i q hi hq
theorem kW.xr (h : kW τ pv ad x bl rl kl ba ra ka fr nb nr nk) {i q : Nat} (hi : i < nr) (hq : pv ra i = .ref q) : τ 1 q = i ∧ (pv q 17 = .null ∨ ∃ q', pv q 17 = .ref q' ∧ i < τ 1 q' ∧ τ 1 q' < nr ∧ pv ra (τ 1 q') = .ref q') := h.2.2.2.2.2.2.2.2.2.2 i q hi hq
theorem kW.frw (h : kW τ pv ad x bl rl kl ba ra ka fr nb nr nk) (hF : kFr kPw τ pv τ' pv') : kW τ' pv' ad x bl rl kl ba ra ka fr nb nr nk := by
  obtain ⟨⟨g1, g2, g3, g4, g5, g6⟩, h2, h3, h4, h5, h6, h7, h8, h9, h10, h11⟩ := h
  refine ⟨⟨hF.ty g1, (hF.pn g1 rfl).trans g2, (hF.pn g1 rfl).trans g3, (hF.pn g1 rfl).trans g4, (hF.pn g1 rfl).trans g5, hF.ty g6⟩, h2, h3, h4, h5, h6, h7.fr hF rfl rfl (fun _ => rfl) (by decide) (by decide) (by decide), h8.fr hF rfl rfl (fun _ => rfl) (by decide) (by decide) (by decide), h9.fr hF rfl rfl (fun _ => rfl) (by decide) (by decide) (by decide), fun i q hi hq => ?_, fun i q hi hq => ?_⟩
  · obtain ⟨q2, k1, k2, k3, k4⟩ := h7.at hi
    have e : pv ba i = .ref q := (hF.pn k1 rfl).symm.trans hq
    obtain rfl := kref (k3.symm.trans e)
    rw [hF.tj k4]
    exact h10 i q2 hi k3
  · obtain ⟨q2, k1, k2, k3, k4⟩ := h8.at hi
    have e : pv ra i = .ref q := (hF.pn k1 rfl).symm.trans hq
    obtain rfl := kref (k3.symm.trans e)
    obtain ⟨m1, m2⟩ := h11 i q2 hi k3
    refine ⟨by rw [hF.tj k4]; exact m1, ?_⟩
    rcases m2 with m2 | ⟨q', n1, n2, n3, n4⟩
    · exact Or.inl ((hF.pn k4 rfl).trans m2)
    · obtain ⟨q3, j1, j2, j3, j4⟩ := h8.at n3
      obtain rfl := kref (j3.symm.trans n4)
      have e1 : τ' 1 q3 = τ 1 q3 := hF.tj j4 (j := 1)
      refine Or.inr ⟨q3, (hF.pn k4 rfl).trans n1, by rw [e1]; exact n2, by rw [e1]; exact n3, ?_⟩
      rw [e1]
      exact (hF.pn k1 rfl).trans n4
theorem kW.frk (h : kW τ pv ad x bl rl kl ba ra ka fr nb nr nk) (hF : kFr kPk τ pv τ' pv') : kW τ' pv' ad x bl rl kl ba ra ka fr nb nr nk := h.frw (hF.weak kPw_k)
theorem kW.frx (h : kW τ pv ad x bl rl kl ba ra ka fr nb nr nk) (hF : kFr kPx τ pv τ' pv') : kW τ' pv' ad x bl rl kl ba ra ka fr nb nr nk := h.frw (hF.weak kPw_x)
end KWW
theorem kd_recvA {s : State} {H : Heap} {D : va_G} {cl : List vw_C} {dA : Nat → ClassId} {L : List Nat} {f : Nat → va_E} {a n : Nat} {g : Nat → Option Nat} (hK : va_K D cl (tyA dA) s) (hP : va_P D cl (va_pl L f) H) (hm : a ∈ L) (hf : f a = .inl (dA 5, n, .inr (.inr (.inr (.inr g))))) : ∃ cell : Cell, H[a]? = some cell ∧ cell.vm.isStatics = false ∧ s.vm.findClass "[Ljava/lang/Object;" = some cell.cls := by
  obtain ⟨q0, hq0⟩ := kpl_get (f := f) hm
  rw [hf] at hq0
  exact ⟨_, hP q0 _ hq0, rfl, va_nmO (hK.2 5 _ rfl).2 (by decide)⟩
def kB2 (dC : Nat → ClassId) (dI : Nat → Nat → Nat) (dA : Nat → ClassId) (ad sz : Nat) (L : List Nat) (f : Nat → va_E) (mi : Nat) : State → Prop := fun U => kB dC dI dA ad sz L f U ∧ va_Mi "[Ljava/lang/Object;" mi U
theorem kd_blind2 {dC : Nat → ClassId} {dI : Nat → Nat → Nat} {dA : Nat → ClassId} {ad sz : Nat} {L : List Nat} {f : Nat → va_E} {mi : Nat} {av : List Value} : FrameBlind (va_Pc av (kB2 dC dI dA ad sz L f mi)) := by
  intro a U g mk q
  obtain ⟨q0, q1, q2⟩ := q
  obtain ⟨r0, r1⟩ := kc_blind (av := av) a U g mk ⟨q0, q1⟩
  exact ⟨r0, r1, va_Mi.moved (u := U) (U := U.calling g mk a) (Vm.Alike.refl U.vm) q2⟩
theorem kd_preS2 {s : State} {H : Heap} {locs : List Loc} {A : Nat → Prop} {dC : Nat → ClassId} {dI : Nat → Nat → Nat} {dA : Nat → ClassId} {ad : Nat} {L : List Nat} {f : Nat → va_E} {mi : Nat} {As : List Value} (hP : va_P (dC, dI) vwCl (va_pl L f) H) (hD : va_D A (va_pl L f)) (hK : va_K (dC, dI) vwCl (tyA dA) s) (hS : va_S A s.heap H locs) (hA : ∀ q, s.heap.size ≤ q → A q) (hE : kx_E ad A s s.heap) (hMi : va_Mi "[Ljava/lang/Object;" mi s) : PreS s H (va_Pc As (kB2 dC dI dA ad H.size L f mi)) As := ⟨kd_blind2, fun U hU hW => ⟨rfl, kd_U hP hD hK hS hA hE U hU hW, hMi.moved hW.alike⟩⟩
theorem kz_min {a b : Nat} (h : a ≤ b) (hb : b < 2 ^ 31) : (if nI b < nI a then nI b else nI a) = nI a := if_neg (nI_nlt h hb)
theorem kz_max {a b : Nat} (h : a < b) (hb : b < 2 ^ 31) : (if nI a < nI b then nI b else nI a) = nI b := if_pos (nI_lt h hb)
theorem kz_max2 {a b : Nat} (h : b ≤ a) (hb : a < 2 ^ 31) : (if nI a < nI b then nI b else nI a) = nI a := if_neg (nI_nlt h hb)
def kMz (pv : Nat → Nat → Value) (q : Nat) : Prop := ∃ (sx : UInt32) (dd : Int32), pv q 13 = .float sx ∧ pv q 14 = .int dd ∧ (dd = 0 → 107 * 2 ^ 23 ≤ sx.toNat % 2 ^ 31)
theorem kMz.up {pv : Nat → Nat → Value} {q q' : Nat} {x : UInt32} {d : Int32} (h : d = 0 → 107 * 2 ^ 23 ≤ x.toNat % 2 ^ 31) (h2 : q' ≠ q → kMz pv q') : kMz (kup (kup pv q 13 (.float x)) q 14 (.int d)) q' := by
  by_cases e : q' = q
  · rw [e]
    exact ⟨x, d, (kup_ne (Or.inr (by decide))).trans kup_self, kup_self, h⟩
  · obtain ⟨sx, dd, h1, h2, h3⟩ := h2 e
    exact ⟨sx, dd, (kup_ne (Or.inl e)).trans ((kup_ne (Or.inl e)).trans h1), (kup_ne (Or.inl e)).trans ((kup_ne (Or.inl e)).trans h2), h3⟩
theorem kFr.ms {P : Nat → Nat → Bool} {τ : Nat → Nat → Nat} {pv : Nat → Nat → Value} {a : Nat} {x d : Value} (ha : τ 0 a = 2) (h13 : P 2 13 = false) (h14 : P 2 14 = false) : kFr P τ pv τ (kup (kup pv a 13 x) a 14 d) := (kFr.up ha h13).trans (kFr.up ha h14)
theorem kMz.fr {τ τ' : Nat → Nat → Nat} {pv pv' : Nat → Nat → Value} {q : Nat} (h : kMz pv q) (hF : kFr kPd τ pv τ' pv') (hq : τ 0 q = 2) : kMz pv' q := by
  obtain ⟨sx, dd, h1, h2, h3⟩ := h
  exact ⟨sx, dd, (hF.pn hq rfl).trans h1, (hF.pn hq rfl).trans h2, h3⟩
def kMs (pv : Nat → Nat → Value) (ra nr : Nat) : Prop := ∀ i q, i < nr → pv ra i = .ref q → kMz pv q
def kNx (τ : Nat → Nat → Nat) (pv : Nat → Nat → Value) (fr ra nr k : Nat) : Prop := ∀ w, w < 8 → pv fr w = va_rf none ∨ ∃ q, pv fr w = va_rf (some q) ∧ k ≤ τ 1 q ∧ τ 1 q < nr ∧ pv ra (τ 1 q) = .ref q
theorem kW.row {τ : Nat → Nat → Nat} {pv : Nat → Nat → Value} {ad x bl rl kl ba ra ka fr nb nr nk : Nat} (h : kW τ pv ad x bl rl kl ba ra ka fr nb nr nk) {i q : Nat} (hi : i < nr) (hq : pv ra i = .ref q) : τ 0 q = 2 ∧ τ 0 ra = 10 := by
  obtain ⟨q2, k1, k2, k3, k4⟩ := h.lr.at hi
  obtain rfl := kref (k3.symm.trans hq)
  exact ⟨k4, k1⟩
theorem kMs.fr {τ τ' : Nat → Nat → Nat} {pv pv' : Nat → Nat → Value} {ad x bl rl kl ba ra ka fr nb nr nk : Nat} (h : kMs pv ra nr) (hW : kW τ pv ad x bl rl kl ba ra ka fr nb nr nk) (hF : kFr kPd τ pv τ' pv') : kMs pv' ra nr := by
  intro i q hi hq
  obtain ⟨q2, k1, k2, k3, k4⟩ := hW.lr.at hi
  have e : pv ra i = .ref q := (hF.pn k1 rfl).symm.trans hq
  exact (h i q hi e).fr hF (hW.row hi e).1
theorem kW.next {τ : Nat → Nat → Nat} {pv : Nat → Nat → Value} {ad x bl rl kl ba ra ka fr nb nr nk j q : Nat} {v : Value} (hW : kW τ pv ad x bl rl kl ba ra ka fr nb nr nk) (hj : j < nr) (hq : pv ra j = .ref q) (hv : v = .null ∨ ∃ q', v = .ref q' ∧ j < τ 1 q' ∧ τ 1 q' < nr ∧ pv ra (τ 1 q') = .ref q') : kW τ (kup pv q 17 v) ad x bl rl kl ba ra ka fr nb nr nk := by
  obtain ⟨t1, t2⟩ := hW.row hj hq
  have t3 := (hW.xr hj hq).1
  obtain ⟨⟨g1, g2, g3, g4, g5, g6⟩, k2, k3, k4, k5, k6, ⟨b1, b2, b3, b4⟩, ⟨r1, r2, r3, r4⟩, ⟨l1, l2, l3, l4⟩, k10, k11⟩ := hW
  have ne : ∀ b t k, τ 0 b = t → t ≠ 2 → kup pv q 17 v b k = pv b k := fun b t k hb ht => kup_ne (Or.inl (fun e => by rw [e, t1] at hb; omega))
  have ls : ∀ tl ta te l a n, tl ≠ 2 → ta ≠ 2 → kLs τ pv ad tl ta te l a n → kLs τ (kup pv q 17 v) ad tl ta te l a n := by
    intro tl ta te l a n h1 h2 ⟨q1, q2, q3, q4⟩
    refine ⟨q1, (ne _ _ _ q1 h1).trans q2, (ne _ _ _ q1 h1).trans q3, ?_⟩
    rcases q4 with q4 | ⟨q4, q5, q6⟩
    · exact Or.inl q4
    · refine Or.inr ⟨q4, q5, fun i hi => ?_⟩
      obtain ⟨z, m1, m2⟩ := q6 i hi
      exact ⟨z, (ne _ _ _ q4 h2).trans m1, m2⟩
  have er : ∀ i, kup pv q 17 v ra i = pv ra i := fun i => ne _ _ _ t2 (by decide)
  refine ⟨⟨g1, (ne _ _ _ g1 (by decide)).trans g2, (ne _ _ _ g1 (by decide)).trans g3, (ne _ _ _ g1 (by decide)).trans g4, (ne _ _ _ g1 (by decide)).trans g5, g6⟩, k2, k3, k4, k5, k6, ls _ _ _ _ _ _ (by decide) (by decide) ⟨b1, b2, b3, b4⟩, ls _ _ _ _ _ _ (by decide) (by decide) ⟨r1, r2, r3, r4⟩, ls _ _ _ _ _ _ (by decide) (by decide) ⟨l1, l2, l3, l4⟩, fun i z hi hz => ?_, fun i z hi hz => ?_⟩
  · rcases b4 with ⟨_, e0⟩ | ⟨b4, b5, b6⟩
    · omega
    · exact k10 i z hi ((ne _ _ _ b4 (by decide)).symm.trans hz)
  · rw [er] at hz
    obtain ⟨n1, n2⟩ := k11 i z hi hz
    refine ⟨n1, ?_⟩
    by_cases e : z = q
    · have ij : i = j := by rw [← n1, e]; exact t3
      rw [e, kup_self]
      rcases hv with hv | ⟨q', j1, j2, j3, j4⟩
      · exact Or.inl hv
      · exact Or.inr ⟨q', j1, by omega, j3, by rw [er]; exact j4⟩
    · rw [kup_ne (Or.inl e)]
      rcases n2 with n2 | ⟨q', j1, j2, j3, j4⟩
      · exact Or.inl n2
      · exact Or.inr ⟨q', j1, j2, j3, by rw [er]; exact j4⟩
theorem kz_spl {n M : Int32} (m : Nat) (hM : M.toInt = m) : (n < 0 ∨ M < n) ∨ ∃ j, j ≤ m ∧ n = nI j := by
  by_cases h1 : n < 0
  · exact Or.inl (Or.inl h1)
  · by_cases h2 : M < n
    · exact Or.inl (Or.inr h2)
    · exact Or.inr (nI_of2 hM h1 (Int32.not_lt.mp h2))
theorem kz_nx {x : Int32} {i : Nat} (hi : i < 2 ^ 31) (h : ¬ x ≤ nI i) : i + 1 < 2 ^ 31 := by
  have h1 := Int32.lt_iff_toInt_lt.mp (Int32.not_le.mp h)
  rw [nI_toInt hi] at h1
  have := Int32.toInt_lt x
  omega
theorem kad {A : Nat → Prop} {s : State} {ad : Nat} {dA : Nat → ClassId} {τ : Nat → Nat → Nat} {pv : Nat → Nat → Value} {L : List Nat} {f : Nat → va_E} {H : Heap} (hE : kx_E ad A s H) (hD : va_D A (va_pl L f)) (hI : kI dA τ pv L f) : ad ∉ L ∧ τ 0 ad = 0 := by
  obtain ⟨cell, -, -, -, -, -, -, h7⟩ := hE.2.2.2.2.2.2.2.2.2.1
  have h : ad ∉ L := fun hm => by
    obtain ⟨k, hk⟩ := kpl_get (f := f) hm
    exact h7 (hD.2 k _ hk)
  exact ⟨h, hI.t0 h⟩
theorem kW.eqB {P : Nat → Nat → Bool} {τ τ' : Nat → Nat → Nat} {pv pv' : Nat → Nat → Value} {ad x bl rl kl ba ra ka fr nb nr nk : Nat} (h : kW τ pv ad x bl rl kl ba ra ka fr nb nr nk) (hF : kFr P τ pv τ' pv') (hP : ∀ k, P 9 k = true) : ∀ i, i < nb → pv' ba i = pv ba i := by
  intro i hi
  obtain ⟨q2, k1, k2, k3, k4⟩ := h.lb.at hi
  exact hF.pn k1 (hP i)
theorem kW.eqR {P : Nat → Nat → Bool} {τ τ' : Nat → Nat → Nat} {pv pv' : Nat → Nat → Value} {ad x bl rl kl ba ra ka fr nb nr nk : Nat} (h : kW τ pv ad x bl rl kl ba ra ka fr nb nr nk) (hF : kFr P τ pv τ' pv') (hP : ∀ k, P 10 k = true) : ∀ i, i < nr → pv' ra i = pv ra i := by
  intro i hi
  obtain ⟨q2, k1, k2, k3, k4⟩ := h.lr.at hi
  exact hF.pn k1 (hP i)
def kinc (c : Int32) (n : Nat) : Nat := if c = 0 then n + 1 else n
theorem kinc_0 {c : Int32} {n : Nat} (h : c = 0) : kinc c n = n + 1 := if_pos h
theorem kinc_1 {c : Int32} {n : Nat} (h : c ≠ 0) : kinc c n = n := if_neg h
theorem kinc_le {c : Int32} {n : Nat} : n ≤ kinc c n := by
  unfold kinc
  split <;> omega
def kRb (τ : Nat → Nat → Nat) (pv : Nat → Nat → Value) (ba q a b t nb : Nat) : Prop := a < nb ∧ pv ba a = .ref (τ 5 q) ∧ b ≤ nb ∧ (b = 0 → τ 6 q = 0) ∧ (∀ z, b = z + 1 → ∃ w, τ 6 q = w + 1 ∧ pv ba z = .ref w) ∧ (t = 0 ↔ τ 2 q = 0)
def kRel (τ : Nat → Nat → Nat) (pv : Nat → Nat → Value) (ba ra fa sa aa nb nr : Nat) : Prop := ∀ j, j < nr → ∃ q a b t, τ 0 q = 2 ∧ pv ra j = .ref q ∧ pv fa j = .int (nI a) ∧ pv sa j = .int (kmi b) ∧ pv aa j = .int (kmi t) ∧ t ≤ 1024 ∧ kRb τ pv ba q a b t nb
def kNw (τ : Nat → Nat → Nat) (pv : Nat → Nat → Value) (ba ra nb nr : Nat) (n k at9 : Int32) : Prop := ∃ q a b t, τ 0 q = 2 ∧ pv ra nr = .ref q ∧ n = nI a ∧ k = kmi b ∧ at9 = kmi t ∧ t ≤ 1024 ∧ kRb τ pv ba q a b t nb
theorem kRb.mv {τ τ2 : Nat → Nat → Nat} {pv pv2 : Nat → Nat → Value} {ba ba2 q a b t nb nb2 : Nat} (h : kRb τ pv ba q a b t nb) (hτ : ∀ j, τ2 j q = τ j q) (hB : ∀ i, i < nb → pv2 ba2 i = pv ba i) (hn : nb ≤ nb2) : kRb τ2 pv2 ba2 q a b t nb2 := by
  obtain ⟨h1, h2, h3, h4, h5, h6⟩ := h
  refine ⟨by omega, by rw [hB a h1, hτ 5]; exact h2, by omega, fun e => by rw [hτ 6]; exact h4 e, fun z e => ?_, by rw [hτ 2]; exact h6⟩
  obtain ⟨w, g1, g2⟩ := h5 z e
  exact ⟨w, by rw [hτ 6]; exact g1, by rw [hB z (by omega)]; exact g2⟩
theorem kRel.nil {τ : Nat → Nat → Nat} {pv : Nat → Nat → Value} {ba ra fa sa aa nb : Nat} : kRel τ pv ba ra fa sa aa nb 0 := fun j hj => absurd hj (Nat.not_lt_zero j)
theorem kRel.x {P : Nat → Nat → Bool} {τ τ2 : Nat → Nat → Nat} {pv pv2 : Nat → Nat → Value} {ba ba2 ra ra2 fa sa aa nb nb2 nr nt : Nat} (h : kRel τ pv ba ra fa sa aa nb nr) (hF : kFr P τ pv τ2 pv2) (hP : ∀ t k, kPmD t k = true → P t k = true) (tf : τ 0 fa = 19) (ts : τ 0 sa = 20) (ta : τ 0 aa = 27) (hB : ∀ i, i < nb → pv2 ba2 i = pv ba i) (hR : ∀ i, i < nt → pv2 ra2 i = pv ra i) (hn : nb ≤ nb2) (hr : nt ≤ nr) : kRel τ2 pv2 ba2 ra2 fa sa aa nb2 nt := by
  intro j hj
  obtain ⟨q, a, b, t, h1, h2, h3, h4, h5, h6, h7⟩ := h j (by omega)
  exact ⟨q, a, b, t, hF.ty h1, by rw [hR j hj]; exact h2, (hF.pn tf (hP _ _ rfl)).trans h3, (hF.pn ts (hP _ _ rfl)).trans h4, (hF.pn ta (hP _ _ rfl)).trans h5, h6, h7.mv (fun j => hF.tj h1 (j := j)) hB hn⟩
theorem kRel.m {τ : Nat → Nat → Nat} {pv pv2 : Nat → Nat → Value} {ad x bl rl kl ba ra ka fr fa sa aa nb nb2 nr nr2 nk mr : Nat} (h : kRel τ pv ba ra fa sa aa nb nr) (hF : kFr (kPxs mr) τ pv τ pv2) (hW : kW τ pv ad x bl rl kl ba ra ka fr nb2 nr2 nk) (hb : nb ≤ nb2) (hr : nr ≤ nr2) (hm : nr ≤ mr) (tf : τ 0 fa = 19) (ts : τ 0 sa = 20) (ta : τ 0 aa = 27) : kRel τ pv2 ba ra fa sa aa nb nr := by
  intro j hj
  obtain ⟨q, a, b, t, h1, h2, h3, h4, h5, h6, h7⟩ := h j hj
  exact ⟨q, a, b, t, h1, (hW.eqR hF (fun _ => rfl) j (by omega)).trans h2, (hF.pn tf (decide_eq_true (by omega))).trans h3, (hF.pn ts (decide_eq_true (by omega))).trans h4, (hF.pn ta (decide_eq_true (by omega))).trans h5, h6, h7.mv (fun _ => rfl) (fun i hi => hW.eqB hF (fun _ => rfl) i (by omega)) (Nat.le_refl _)⟩
theorem kNw.fr {P : Nat → Nat → Bool} {τ τ2 : Nat → Nat → Nat} {pv pv2 : Nat → Nat → Value} {ad x bl rl kl ba ra ka fr nb nb2 nr nr2 nk : Nat} {n k at9 : Int32} (h : kNw τ pv ba ra nb nr n k at9) (hF : kFr P τ pv τ2 pv2) (hW : kW τ pv ad x bl rl kl ba ra ka fr nb2 nr2 nk) (h9 : ∀ k, P 9 k = true) (h10 : ∀ k, P 10 k = true) (hb : nb ≤ nb2) (hr : nr < nr2) : kNw τ2 pv2 ba ra nb nr n k at9 := by
  obtain ⟨q, a, b, t, h1, h2, h3, h4, h5, h6, h7⟩ := h
  exact ⟨q, a, b, t, hF.ty h1, (hW.eqR hF h10 nr hr).trans h2, h3, h4, h5, h6, h7.mv (fun j => hF.tj h1 (j := j)) (fun i hi => hW.eqB hF h9 i (by omega)) (Nat.le_refl _)⟩
theorem kRel.push {c : Int32} {τ : Nat → Nat → Nat} {pv : Nat → Nat → Value} {ba ra fa sa aa nb nr : Nat} {n k at9 : Int32} (h : kRel τ pv ba ra fa sa aa nb nr) (hN : c = 0 → kNw τ pv ba ra nb nr n k at9) (hM : c = 0 → pv fa nr = .int n ∧ pv sa nr = .int k ∧ pv aa nr = .int at9) : kRel τ pv ba ra fa sa aa nb (kinc c nr) := by
  by_cases hc : c = 0
  · rw [kinc_0 hc]
    intro j hj
    by_cases e : j = nr
    · obtain ⟨q, a, b, t, h1, h2, h3, h4, h5, h6, h7⟩ := hN hc
      obtain ⟨m1, m2, m3⟩ := hM hc
      rw [e]
      exact ⟨q, a, b, t, h1, h2, by rw [m1, h3], by rw [m2, h4], by rw [m3, h5], h6, h7⟩
    · exact h j (by omega)
  · rw [kinc_1 hc]
    exact h
theorem kNw.mk0 {P : Nat → Nat → Bool} {τ τ2 : Nat → Nat → Nat} {pv pv1 pv2 : Nat → Nat → Value} {ba ra nb nr q qa ja t at_ : Nat} (hq : τ 0 q = 2) (h5 : τ 5 q = qa) (h6 : τ 6 q = 0) (h2 : τ 2 q = at_) (hF : kFr P τ pv1 τ2 pv2) (hB : ∀ i, i < nb → pv2 ba i = pv ba i) (hn : pv2 ra nr = .ref q) (hja : ja < nb) (pa : pv ba ja = .ref qa) (ht : t = 0 ↔ at_ = 0) (hl : t ≤ 1024) : kNw τ2 pv2 ba ra nb nr (nI ja) (-1) (kmi t) := by
  have hj : ∀ j, τ2 j q = τ j q := fun j => hF.tj hq (j := j)
  exact ⟨q, ja, 0, t, hF.ty hq, hn, rfl, rfl, rfl, hl, hja, by rw [hB ja hja, pa, hj 5, h5], Nat.zero_le _, fun _ => by rw [hj 6]; exact h6, fun z hz => (by cases hz), by rw [hj 2, h2]; exact ht⟩
theorem kNw.mk1 {P : Nat → Nat → Bool} {τ τ2 : Nat → Nat → Nat} {pv pv1 pv2 : Nat → Nat → Value} {ba ra nb nr q qa ja jb w t at_ : Nat} (hq : τ 0 q = 2) (h5 : τ 5 q = qa) (h6 : τ 6 q = w + 1) (h2 : τ 2 q = at_) (hF : kFr P τ pv1 τ2 pv2) (hB : ∀ i, i < nb → pv2 ba i = pv ba i) (hn : pv2 ra nr = .ref q) (hja : ja < nb) (pa : pv ba ja = .ref qa) (hjb : jb < nb) (pb : pv ba jb = .ref w) (ht : t = 0 ↔ at_ = 0) (hl : t ≤ 1024) : kNw τ2 pv2 ba ra nb nr (nI ja) (nI jb) (kmi t) := by
  have hj : ∀ j, τ2 j q = τ j q := fun j => hF.tj hq (j := j)
  exact ⟨q, ja, jb + 1, t, hF.ty hq, hn, rfl, rfl, rfl, hl, hja, by rw [hB ja hja, pa, hj 5, h5], hjb, fun e => (by cases e), fun z hz => by
    cases hz
    exact ⟨w, by rw [hj 6]; exact h6, by rw [hB jb hjb]; exact pb⟩, by rw [hj 2, h2]; exact ht⟩
def kGxP (τ : Nat → Nat → Nat) (pv : Nat → Nat → Value) (ba ra nb nr : Nat) (n k at9 : Int32) : Prop := ∃ q a b j, n = nI a ∧ k = kmi b ∧ at9 = nI j ∧ j < nr ∧ pv ra j = .ref q ∧ kRb τ pv ba q a b 0 nb
noncomputable def kGx (τ : Nat → Nat → Nat) (pv : Nat → Nat → Value) (ba ra nb nr : Nat) (n k at9 : Int32) : Bool := @decide (kGxP τ pv ba ra nb nr n k at9) (Classical.propDecidable _)
def kGmP (pv : Nat → Nat → Value) (fa sa aa nr : Nat) (n k at9 : Int32) : Prop := ∃ j, at9 = nI j ∧ j < nr ∧ pv fa j = .int n ∧ pv sa j = .int k ∧ pv aa j = .int (-1)
noncomputable def kGm (pv : Nat → Nat → Value) (fa sa aa nr : Nat) (n k at9 : Int32) : Bool := @decide (kGmP pv fa sa aa nr n k at9) (Classical.propDecidable _)
theorem kGx_t {τ : Nat → Nat → Nat} {pv : Nat → Nat → Value} {ba ra nb nr : Nat} {n k at9 : Int32} (h : kGxP τ pv ba ra nb nr n k at9) : kGx τ pv ba ra nb nr n k at9 = true := @decide_eq_true _ (Classical.propDecidable _) h
theorem kGx_f {τ : Nat → Nat → Nat} {pv : Nat → Nat → Value} {ba ra nb nr : Nat} {n k at9 : Int32} (h : ¬ kGxP τ pv ba ra nb nr n k at9) : kGx τ pv ba ra nb nr n k at9 = false := @decide_eq_false _ (Classical.propDecidable _) h
theorem kGm_t {pv : Nat → Nat → Value} {fa sa aa nr : Nat} {n k at9 : Int32} (h : kGmP pv fa sa aa nr n k at9) : kGm pv fa sa aa nr n k at9 = true := @decide_eq_true _ (Classical.propDecidable _) h
theorem kGm_f {pv : Nat → Nat → Value} {fa sa aa nr : Nat} {n k at9 : Int32} (h : ¬ kGmP pv fa sa aa nr n k at9) : kGm pv fa sa aa nr n k at9 = false := @decide_eq_false _ (Classical.propDecidable _) h
theorem kRel.g {τ : Nat → Nat → Nat} {pv : Nat → Nat → Value} {ad x bl rl kl ba ra ka fr fa sa aa nb nr nk : Nat} {n k at9 : Int32} (h : kRel τ pv ba ra fa sa aa nb nr) (hW : kW τ pv ad x bl rl kl ba ra ka fr nb nr nk) : kGx τ pv ba ra nb nr n k at9 = kGm pv fa sa aa nr n k at9 := by
  have inj : ∀ i j q, i < nb → j < nb → pv ba i = .ref q → pv ba j = .ref q → i = j := fun i j q hi hj h1 h2 => (hW.xb hi h1).symm.trans (hW.xb hj h2)
  have e : kGxP τ pv ba ra nb nr n k at9 ↔ kGmP pv fa sa aa nr n k at9 := by
    constructor
    · rintro ⟨q, a, b, j, rfl, rfl, rfl, hj, hq, g1, g2, g3, g4, g5, g6⟩
      obtain ⟨q', a', b', t', h1, h2, h3, h4, h5, h6, k1, k2, k3, k4, k5, k6⟩ := h j hj
      obtain rfl := kref (hq.symm.trans h2)
      obtain rfl := inj a a' _ g1 k1 g2 k2
      have ht : t' = 0 := k6.mpr (g6.mp rfl)
      have hb : b' = b := by
        rcases b with _ | z
        · rcases b' with _ | z'
          · rfl
          · obtain ⟨w, w1, w2⟩ := k5 z' rfl
            rw [g4 rfl] at w1
            cases w1
        · obtain ⟨w, w1, w2⟩ := g5 z rfl
          rcases b' with _ | z'
          · rw [k4 rfl] at w1
            cases w1
          · obtain ⟨w', v1, v2⟩ := k5 z' rfl
            have ew : w = w' := by omega
            rw [ew] at w2
            rw [inj z z' w' (by omega) (by omega) w2 v2]
      rw [ht] at h5
      rw [hb] at h4
      exact ⟨j, rfl, hj, h3, h4, h5⟩
    · rintro ⟨j, rfl, hj, m1, m2, m3⟩
      obtain ⟨q', a', b', t', h1, h2, h3, h4, h5, h6, h7⟩ := h j hj
      have ht : t' = 0 := kmi_m1 (by omega) (Value.int.inj (h5.symm.trans m3))
      rw [ht] at h7
      exact ⟨q', a', b', j, Value.int.inj (m1.symm.trans h3), Value.int.inj (m2.symm.trans h4), rfl, hj, h2, h7⟩
  by_cases hg : kGxP τ pv ba ra nb nr n k at9
  · rw [kGx_t hg, kGm_t (e.mp hg)]
  · rw [kGx_f hg, kGm_f (fun h9 => hg (e.mpr h9))]
theorem kGm_fr {P : Nat → Nat → Bool} {τ τ2 : Nat → Nat → Nat} {pv pv2 : Nat → Nat → Value} {fa sa aa nr : Nat} {n k at9 : Int32} (hF : kFr P τ pv τ2 pv2) (hP : ∀ t k, kPmD t k = true → P t k = true) (tf : τ 0 fa = 19) (ts : τ 0 sa = 20) (ta : τ 0 aa = 27) : kGm pv fa sa aa nr n k at9 = kGm pv2 fa sa aa nr n k at9 := by
  have e : kGmP pv fa sa aa nr n k at9 ↔ kGmP pv2 fa sa aa nr n k at9 := by
    have e1 : ∀ j, pv2 fa j = pv fa j := fun j => hF.pn tf (hP _ _ rfl)
    have e2 : ∀ j, pv2 sa j = pv sa j := fun j => hF.pn ts (hP _ _ rfl)
    have e3 : ∀ j, pv2 aa j = pv aa j := fun j => hF.pn ta (hP _ _ rfl)
    constructor
    · rintro ⟨j, h1, h2, h3, h4, h5⟩
      exact ⟨j, h1, h2, (e1 j).trans h3, (e2 j).trans h4, (e3 j).trans h5⟩
    · rintro ⟨j, h1, h2, h3, h4, h5⟩
      exact ⟨j, h1, h2, (e1 j).symm.trans h3, (e2 j).symm.trans h4, (e3 j).symm.trans h5⟩
  by_cases hg : kGmP pv fa sa aa nr n k at9
  · rw [kGm_t hg, kGm_t (e.mp hg)]
  · rw [kGm_f hg, kGm_f (fun h9 => hg (e.mpr h9))]
theorem kGx_f2 {τ : Nat → Nat → Nat} {pv : Nat → Nat → Value} {ba ra nb nr j q : Nat} {n k : Int32} (hnr : nr ≤ 1024) (hj : j < nr) (hq : pv ra j = .ref q) (h : τ 2 q ≠ 0) : kGx τ pv ba ra nb nr n k (nI j) = false := by
  refine kGx_f ?_
  rintro ⟨q', a, b, j', e1, e2, e3, hj', hq', g1, g2, g3, g4, g5, g6⟩
  rw [← (nI_eq (by omega) (by omega)).mp e3] at hq'
  obtain rfl := kref (hq.symm.trans hq')
  exact h (g6.mp rfl)
theorem kGx_f5 {τ : Nat → Nat → Nat} {pv : Nat → Nat → Value} {ba ra nb nr j q ja qa : Nat} {k : Int32} (hnr : nr ≤ 1024) (hnb : nb ≤ 256) (hj : j < nr) (hq : pv ra j = .ref q) (hja : ja < nb) (pa : pv ba ja = .ref qa) (h : τ 5 q ≠ qa) : kGx τ pv ba ra nb nr (nI ja) k (nI j) = false := by
  refine kGx_f ?_
  rintro ⟨q', a, b, j', e1, e2, e3, hj', hq', g1, g2, g3, g4, g5, g6⟩
  rw [← (nI_eq (by omega) (by omega)).mp e3] at hq'
  obtain rfl := kref (hq.symm.trans hq')
  rw [← (nI_eq (by omega) (by omega)).mp e1, pa] at g2
  exact h (kref g2).symm
theorem kGx_f6 {τ : Nat → Nat → Nat} {pv : Nat → Nat → Value} {ba ra nb nr j q jb : Nat} {n : Int32} (hnr : nr ≤ 1024) (hnb : nb ≤ 256) (hj : j < nr) (hq : pv ra j = .ref q) (hjb : jb < nb) (h : τ 6 q = 0) : kGx τ pv ba ra nb nr n (nI jb) (nI j) = false := by
  refine kGx_f ?_
  rintro ⟨q', a, b, j', e1, e2, e3, hj', hq', g1, g2, g3, g4, g5, g6⟩
  rw [← (nI_eq (by omega) (by omega)).mp e3] at hq'
  obtain rfl := kref (hq.symm.trans hq')
  rcases b with _ | z
  · exact absurd (kmi_m1 (n := jb + 1) (by omega) e2) (by omega)
  · obtain ⟨w, w1, w2⟩ := g5 z rfl
    rw [h] at w1
    cases w1
theorem kGx_f7 {τ : Nat → Nat → Nat} {pv : Nat → Nat → Value} {ba ra nb nr j q w : Nat} {n : Int32} (hnr : nr ≤ 1024) (hnb : nb ≤ 256) (hj : j < nr) (hq : pv ra j = .ref q) (h : τ 6 q = w + 1) : kGx τ pv ba ra nb nr n (-1) (nI j) = false := by
  refine kGx_f ?_
  rintro ⟨q', a, b, j', e1, e2, e3, hj', hq', g1, g2, g3, g4, g5, g6⟩
  rw [← (nI_eq (by omega) (by omega)).mp e3] at hq'
  obtain rfl := kref (hq.symm.trans hq')
  have hb : b = 0 := kmi_m1 (by omega) e2.symm
  rw [g4 hb] at h
  cases h
theorem kGx_f8 {τ : Nat → Nat → Nat} {pv : Nat → Nat → Value} {ba ra nb nr j q jb w w' : Nat} {n : Int32} (hnr : nr ≤ 1024) (hnb : nb ≤ 256) (hj : j < nr) (hq : pv ra j = .ref q) (h : τ 6 q = w + 1) (hjb : jb < nb) (pb : pv ba jb = .ref w') (hne : w ≠ w') : kGx τ pv ba ra nb nr n (nI jb) (nI j) = false := by
  refine kGx_f ?_
  rintro ⟨q', a, b, j', e1, e2, e3, hj', hq', g1, g2, g3, g4, g5, g6⟩
  rw [← (nI_eq (by omega) (by omega)).mp e3] at hq'
  obtain rfl := kref (hq.symm.trans hq')
  rcases b with _ | z
  · exact absurd (kmi_m1 (n := jb + 1) (by omega) e2) (by omega)
  · obtain ⟨w2, v1, v2⟩ := g5 z rfl
    have ez : jb = z := (nI_eq (by omega) (by omega)).mp e2
    rw [← ez, pb] at v2
    exact hne (by have := kref v2; omega)
theorem kGx_t0 {τ : Nat → Nat → Nat} {pv : Nat → Nat → Value} {ba ra nb nr j q ja qa : Nat} (hj : j < nr) (hq : pv ra j = .ref q) (h2 : τ 2 q = 0) (hja : ja < nb) (pa : pv ba ja = .ref qa) (h5 : τ 5 q = qa) (h6 : τ 6 q = 0) : kGx τ pv ba ra nb nr (nI ja) (-1) (nI j) = true := kGx_t ⟨q, ja, 0, j, rfl, rfl, rfl, hj, hq, hja, by rw [h5]; exact pa, Nat.zero_le _, fun _ => h6, fun z hz => (by cases hz), fun _ => h2, fun _ => rfl⟩
theorem kGx_t1 {τ : Nat → Nat → Nat} {pv : Nat → Nat → Value} {ba ra nb nr j q ja qa jb w w' : Nat} (hj : j < nr) (hq : pv ra j = .ref q) (h2 : τ 2 q = 0) (hja : ja < nb) (pa : pv ba ja = .ref qa) (h5 : τ 5 q = qa) (h6 : τ 6 q = w + 1) (hjb : jb < nb) (pb : pv ba jb = .ref w') (hw : w = w') : kGx τ pv ba ra nb nr (nI ja) (nI jb) (nI j) = true := kGx_t ⟨q, ja, jb + 1, j, rfl, rfl, rfl, hj, hq, hja, by rw [h5]; exact pa, hjb, fun e => (by cases e), fun z hz => by
    cases hz
    exact ⟨w, h6, by rw [hw]; exact pb⟩, fun _ => h2, fun _ => rfl⟩
theorem kGm_fa {pv : Nat → Nat → Value} {fa sa aa nr j : Nat} {n k v : Int32} (hnr : nr ≤ 1024) (hj : j < nr) (h : pv aa j = .int v) (hv : v ≠ -1) : kGm pv fa sa aa nr n k (nI j) = false := by
  refine kGm_f ?_
  rintro ⟨j', e1, h2, h3, h4, h5⟩
  rw [← (nI_eq (by omega) (by omega)).mp e1, h] at h5
  exact hv (Value.int.inj h5)
theorem kGm_ff {pv : Nat → Nat → Value} {fa sa aa nr j : Nat} {n k v : Int32} (hnr : nr ≤ 1024) (hj : j < nr) (h : pv fa j = .int v) (hv : ¬ v = n) : kGm pv fa sa aa nr n k (nI j) = false := by
  refine kGm_f ?_
  rintro ⟨j', e1, h2, h3, h4, h5⟩
  rw [← (nI_eq (by omega) (by omega)).mp e1, h] at h3
  exact hv (Value.int.inj h3)
theorem kGm_fs {pv : Nat → Nat → Value} {fa sa aa nr j : Nat} {n k v : Int32} (hnr : nr ≤ 1024) (hj : j < nr) (h : pv sa j = .int v) (hv : ¬ v = k) : kGm pv fa sa aa nr n k (nI j) = false := by
  refine kGm_f ?_
  rintro ⟨j', e1, h2, h3, h4, h5⟩
  rw [← (nI_eq (by omega) (by omega)).mp e1, h] at h4
  exact hv (Value.int.inj h4)
theorem kGm_tt {pv : Nat → Nat → Value} {fa sa aa nr j : Nat} {n k v w : Int32} (hj : j < nr) (h1 : pv fa j = .int v) (h2 : pv sa j = .int w) (h3 : pv aa j = .int (-1)) (e1 : v = n) (e2 : w = k) : kGm pv fa sa aa nr n k (nI j) = true := kGm_t ⟨j, rfl, hj, by rw [← e1]; exact h1, by rw [← e2]; exact h2, h3⟩
def kPost (dA : Nat → ClassId) (τ : Nat → Nat → Nat) (pv : Nat → Nat → Value) (ad x ba ra nb nr nb2 nr2 : Nat) (u : kS) : Prop := ∃ (τ2 : Nat → Nat → Nat) (pv2 : Nat → Nat → Value) (bl rl kl ba2 ra2 ka fr nk : Nat), kFr kPmC τ pv τ2 pv2 ∧ kW τ2 pv2 ad x bl rl kl ba2 ra2 ka fr nb2 nr2 nk ∧ (∀ i, i < nb → pv2 ba2 i = pv ba i) ∧ (∀ i, i < nr → i < nr2 → pv2 ra2 i = pv ra i) ∧ kI dA τ2 pv2 u.1 u.2
def kPostO (dA : Nat → ClassId) (τ : Nat → Nat → Nat) (pv : Nat → Nat → Value) (ad x ba ra nb nr nb2 nr2 o : Nat) (c : Int32) (v : Value) (u : kS) : Prop := ∃ (τ2 : Nat → Nat → Nat) (pv2 : Nat → Nat → Value) (bl rl kl ba2 ra2 ka fr nk : Nat), kFr kPmC τ pv τ2 pv2 ∧ kW τ2 pv2 ad x bl rl kl ba2 ra2 ka fr nb2 nr2 nk ∧ (∀ i, i < nb → pv2 ba2 i = pv ba i) ∧ (∀ i, i < nr → i < nr2 → pv2 ra2 i = pv ra i) ∧ (c = 0 → pv2 o 0 = v) ∧ kI dA τ2 pv2 u.1 u.2
def kPostE (dA : Nat → ClassId) (τ : Nat → Nat → Nat) (pv : Nat → Nat → Value) (ad x ba ra nb nr nb2 nr2 : Nat) (n k at9 : Int32) (u : kS) : Prop := ∃ (τ2 : Nat → Nat → Nat) (pv2 : Nat → Nat → Value) (bl rl kl ba2 ra2 ka fr nk : Nat), kFr kPmC τ pv τ2 pv2 ∧ kW τ2 pv2 ad x bl rl kl ba2 ra2 ka fr nb2 nr2 nk ∧ (∀ i, i < nb → pv2 ba2 i = pv ba i) ∧ (∀ i, i < nr → i < nr2 → pv2 ra2 i = pv ra i) ∧ kNw τ2 pv2 ba2 ra2 nb nr n k at9 ∧ kI dA τ2 pv2 u.1 u.2
def kPostN (dA : Nat → ClassId) (τ : Nat → Nat → Nat) (pv : Nat → Nat → Value) (ad x ba ra nb nr nb2 nr2 o : Nat) (c : Int32) (v : Value) (n k at9 : Int32) (u : kS) : Prop := ∃ (τ2 : Nat → Nat → Nat) (pv2 : Nat → Nat → Value) (bl rl kl ba2 ra2 ka fr nk : Nat), kFr kPmC τ pv τ2 pv2 ∧ kW τ2 pv2 ad x bl rl kl ba2 ra2 ka fr nb2 nr2 nk ∧ (∀ i, i < nb → pv2 ba2 i = pv ba i) ∧ (∀ i, i < nr → i < nr2 → pv2 ra2 i = pv ra i) ∧ (c = 0 → pv2 o 0 = v) ∧ (c = 0 → kNw τ2 pv2 ba2 ra2 nb nr n k at9) ∧ kI dA τ2 pv2 u.1 u.2
def kPostW (dA : Nat → ClassId) (τ : Nat → Nat → Nat) (pv : Nat → Nat → Value) (ad x bl rl kl ba ra ka fr nb nr nk : Nat) (n : Int32) (u : kS) : Prop := ∃ pv2 : Nat → Nat → Value, kFr kPm0 τ pv τ pv2 ∧ kW τ pv2 ad x bl rl kl ba ra ka fr nb nr nk ∧ pv2 x 10 = .int n ∧ kI dA τ pv2 u.1 u.2
def kPostV (dA : Nat → ClassId) (τ : Nat → Nat → Nat) (pv : Nat → Nat → Value) (ad x ba ra nb nr nb2 nr2 o : Nat) (c n : Int32) (u : kS) : Prop := ∃ (τ2 : Nat → Nat → Nat) (pv2 : Nat → Nat → Value) (bl rl kl ba2 ra2 ka fr nk : Nat), kFr kPmD τ pv τ2 pv2 ∧ kW τ2 pv2 ad x bl rl kl ba2 ra2 ka fr nb2 nr2 nk ∧ (∀ i, i < nb → pv2 ba2 i = pv ba i) ∧ (∀ i, i < nr → i < nr2 → pv2 ra2 i = pv ra i) ∧ (c = 0 → (∃ w : Int32, pv x 10 = .int w ∧ pv2 o 0 = .long w.toInt64) ∧ pv2 x 10 = .int n) ∧ (c ≠ 0 → pv2 x 10 = pv x 10) ∧ kI dA τ2 pv2 u.1 u.2
