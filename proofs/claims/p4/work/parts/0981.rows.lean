def kmi : Nat → Int32
  | 0 => -1
  | n + 1 => nI n
theorem kmi_dec (n : Nat) : nI n + (-1) = kmi n := by
  cases n with
  | zero => decide
  | succ k => exact pk_m1 k
theorem kmi_sub (n : Nat) : nI n - 1 = kmi n := by
  cases n with
  | zero => decide
  | succ k => exact nI_pred k
theorem kmi_neg {n : Nat} (h : n < 2 ^ 31) (h1 : kmi n < 0) : n = 0 := by
  cases n with
  | zero => rfl
  | succ k => exact absurd h1 (nI_pos (by omega))
theorem kmi_nn {n : Nat} (h1 : ¬ kmi n < 0) : ∃ k, n = k + 1 := by
  cases n with
  | zero => exact absurd (by decide) h1
  | succ k => exact ⟨k, rfl⟩
theorem kmi_m1 {n : Nat} (h : n < 2 ^ 31) (h1 : kmi n = -1) : n = 0 := by
  cases n with
  | zero => rfl
  | succ k => exact absurd (show nI k < 0 by rw [show nI k = -1 from h1]; decide) (nI_pos (by omega))
theorem kz_8 {x : Int32} (h0 : -1 ≤ x.toInt) (h1 : x.toInt < 8) (h2 : ¬ x = -1) : ∃ j : Nat, j < 8 ∧ x = nI j := by
  refine kn_rg ?_ h1 (by decide)
  rcases Int.lt_or_le x.toInt 0 with h | h
  · exact absurd (Int32.toInt_inj.mp (show x.toInt = (-1 : Int32).toInt by rw [show (-1 : Int32).toInt = -1 by decide]; omega)) h2
  · exact h
theorem kz_256 {x : Int32} (h0 : -1 ≤ x.toInt) (h1 : x.toInt < 256) : x = -1 ∨ ∃ j : Nat, j < 256 ∧ x = nI j := by
  rcases Int.lt_or_le x.toInt 0 with h | h
  · exact Or.inl (Int32.toInt_inj.mp (show x.toInt = (-1 : Int32).toInt by rw [show (-1 : Int32).toInt = -1 by decide]; omega))
  · exact Or.inr (kn_rg h h1 (by decide))
theorem kz_r256 {n : Nat} (h : n < 256) : -1 ≤ (nI n).toInt ∧ (nI n).toInt < 256 := by
  rw [nI_toInt (by omega)]
  omega
theorem kz_is {x : Int32} {n : Nat} (h0 : ¬ x < 0) (h1 : ¬ nI n ≤ x) (hn : n ≤ 2000000) : ∃ j : Nat, j < n ∧ x = nI j := kn_of h0 (Int32.not_le.mp h1) (by omega)
section KQ3
variable {τ : Nat → Nat → Nat} {Wf : Value → Prop} {cd a t k9 : Nat} {w : Value} {X : Value → Prop}
theorem kq_L {i : Nat} (hb : kPb t k9 = true) (k : ∀ v, w = v → kPr τ i a v → Wf v) : ∀ v, kPr τ i a v → (kPn t k9 w v ∧ X v) → Wf v := fun v hv hn => k v (((kPn_pin hb).mp hn.1).symm) hv
theorem kq_L0 (hb : kPb t k9 = true) (k : ∀ x : Int32, w = .int x → Wf (.int x)) : ∀ v, kPr τ 0 a v → (kPn t k9 w v ∧ X v) → Wf v := kq_L hb (fun v hw hv => by
  obtain ⟨x, rfl⟩ := (kPr_S (by decide)).mp hv
  exact k x hw)
theorem kq_L1 (hb : kPb t k9 = true) (k : ∀ x : Int32, w = .int x → (x = 0 ∨ x = 1) → Wf (.int x)) : ∀ v, kPr τ 1 a v → (kPn t k9 w v ∧ X v) → Wf v := kq_L hb (fun v hw hv => by
  obtain ⟨x, rfl, h⟩ := (kPr_S (by decide)).mp hv
  exact k x hw h)
theorem kq_L5 (hb : kPb t k9 = true) (k : ∀ n : Nat, w = .int (nI n) → 1 ≤ n → n ≤ 8 → Wf (.int (nI n))) : ∀ v, kPr τ 5 a v → (kPn t k9 w v ∧ X v) → Wf v := kq_L hb (fun v hw hv => by
  obtain ⟨x, rfl, h, h2⟩ := (kPr_S (by decide)).mp hv
  exact k x hw h h2)
theorem kq_L6 (hb : kPb t k9 = true) (k : ∀ n : Nat, w = .int (nI n) → n ≤ 256 → Wf (.int (nI n))) : ∀ v, kPr τ 6 a v → (kPn t k9 w v ∧ X v) → Wf v := kq_L hb (fun v hw hv => by
  obtain ⟨x, rfl, h⟩ := (kPr_S (by decide)).mp hv
  exact k x hw h)
theorem kq_L7 (hb : kPb t k9 = true) (k : ∀ n : Nat, w = .int (nI n) → n ≤ 1024 → Wf (.int (nI n))) : ∀ v, kPr τ 7 a v → (kPn t k9 w v ∧ X v) → Wf v := kq_L hb (fun v hw hv => by
  obtain ⟨x, rfl, h⟩ := (kPr_S (by decide)).mp hv
  exact k x hw h)
theorem kq_LF (hM : 1000000 < cd) (hb : kPb t k9 = true) (k : ∀ x : UInt32, w = .float x → fb cd x → Wf (.float x)) : ∀ v, kPr τ cd a v → (kPn t k9 w v ∧ X v) → Wf v := kq_L hb (fun v hw hv => by
  obtain ⟨x, rfl, h⟩ := (kPr_F hM).mp hv
  exact k x hw h)
theorem kq_FE {o : Option Value} {Y : Value → Prop} (hM : 1000000 < cd) (k : ∀ x : UInt32, o = some (.float x) → fb cd x → Wf (.float x)) : ∀ v, kPr τ cd a v → (Y v ∧ o = some v) → Wf v := by
  intro v hv h
  obtain ⟨x, rfl, hx⟩ := (kPr_F hM).mp hv
  exact k x h.2 hx
theorem kq_RE {o : Option Value} {Y : Value → Prop} (t : Nat) (ht : t < 100) (k : ∀ q : Nat, o = some (.ref q) → τ 0 q = t → Wf (.ref q)) : ∀ v, kPr τ (100 + t) a v → (Y v ∧ o = some v) → Wf v := by
  intro v hv h
  obtain ⟨q, rfl, hq⟩ := (kPr_R ht).mp hv
  exact k q h.2 hq
end KQ3
section KNW
variable {p : Program} {l : Launch} {e : Env} {R : Room} {s : State} {m : MethodId} {args : Array Value} {below : List Frame} {meth : Method} {c : Code} {H : Heap} {locs : List Loc} {cells slots : Nat} {Q : State → Prop}
variable {cc : ByteArray} {pc : Nat} {ls : Array Slot} {rest : List Value} {D : va_G} {cl : List vw_C} {A : Nat → Prop} {a : Nat} {H0 : Heap} {tys : List (ClassId × FieldType)}
variable {dA : Nat → ClassId} {τ : Nat → Nat → Nat} {pv : Nat → Nat → Value} {L : List Nat} {f : Nat → va_E} {t : Nat}
theorem kpl_push {q : Nat} {e : va_E} (hD : va_D A (va_pl L f ++ [(q, e)])) : q ∉ L ∧ va_pl L f ++ [(q, e)] = va_pl (L ++ [q]) (va_up f q e) := by
  have hq : q ∉ L := va_pl_fresh2 (X := []) hD
  exact ⟨hq, va_pl_push hq⟩
theorem kp_new (hexec : p.tables.exec = Jvm.exec) (hb : c.code = cc) {own C : String} {T : u_T} {N ci index : Nat} {Ts : List Cond} (hts : ∀ w ∈ Ts, w.before args s = true) (hin : ∀ w ∈ u_ws C T N, w ∈ Ts) (ty : Nat → FieldType) (hty : ∀ k, k < N → parseFieldDescriptor (T k).2.2.1 = some (ty k)) (hown : s.vm.findClass own = some m.cls) (hcl : (Cond.classLink own index C).before args s = true) (hinst : (Cond.instantiable C N).before args s = true) (hini : (Cond.initialized C).before args s = true)
    (hK : va_K D cl tys s) (hP : va_P D cl (va_pl L f) H) (hD : va_D A (va_pl L f)) (hS : va_S A H0 H locs) (hA : ∀ q, H0.size ≤ q → A q) (hc : cl[ci]? = some (C, T, N)) {fs : List Value} (hfs : ∀ j, j < N → defaultValue (ty j) = vp_V fs j) (hcells : cells + 1 ≤ R.cells) (hslots : slots + N ≤ R.slots) (hdg : decode cc pc = .ok (.new index, 3))
    (kk : ∀ (q : Nat) (H1 : Heap), q ∉ L → va_P D cl (va_pl (L ++ [q]) (va_up f q (.inr (ci, fs)))) H1 → va_D A (va_pl (L ++ [q]) (va_up f q (.inr (ci, fs)))) → va_S A H0 H1 locs →
      W p l e R s m args below meth c H1 locs (cells + 1) (slots + N) Q (F0 m (pc + 3) ls (.ref q :: rest))) : W p l e R s m args below meth c H locs cells slots Q (F0 m pc ls rest) := by
  refine va_new hexec hb hts hin ty hty hown hcl hinst hini hK hP hD hS hA hc hfs hcells hslots hdg (fun q H1 hP1 hD1 hS1 => ?_)
  obtain ⟨hq, he⟩ := kpl_push hD1
  rw [he] at hP1 hD1
  exact kk q H1 hq hP1 hD1 hS1
theorem kp_newq (hexec : p.tables.exec = Jvm.exec) (hb : c.code = cc) {own : String} {index : Nat} (hown : s.vm.findClass own = some m.cls) (hclink : (Cond.classLink own index "java/lang/Object").before args s = true) (hover : va_AO "java/lang/Object" s) (hK : va_K D cl (tyA dA) s) (hP : va_P D cl (va_pl L f) H) (hD : va_D A (va_pl L f)) (hS : va_S A H0 H locs) (hA : ∀ q, H0.size ≤ q → A q)
    {n : Nat} (hn : n ≤ 100000) (hcells : cells + 1 ≤ R.cells) (hslots : slots + n ≤ R.slots) (hdg : decode cc pc = .ok (.anewarray index, 3))
    (kk : ∀ (q : Nat) (H1 : Heap), q ∉ L → va_P D cl (va_pl (L ++ [q]) (va_up f q (.inl (dA 5, n, .inr (.inr (.inr (.inr (fun _ => none)))))))) H1 → va_D A (va_pl (L ++ [q]) (va_up f q (.inl (dA 5, n, .inr (.inr (.inr (.inr (fun _ => none)))))))) → va_S A H0 H1 locs →
      W p l e R s m args below meth c H1 locs (cells + 1) (slots + n) Q (F0 m (pc + 3) ls (.ref q :: rest))) : W p l e R s m args below meth c H locs cells slots Q (F0 m pc ls (.int (nI n) :: rest)) := by
  refine va_newq (N' := n) hexec hb hown hclink hover hK hP hD hS hA (nI_pos (by omega)) (nI_clamp (by omega)) (by omega) hcells hslots hdg (fun q cA H1 hK1 hP1 hD1 hS1 => ?_)
  have e : cA = dA 5 := by
    obtain ⟨-, kA, comp, -, -, -, h4⟩ := hK1.2 7 _ rfl
    obtain ⟨-, kA2, comp2, -, -, -, h5⟩ := hK.2 5 _ rfl
    exact Option.some.inj (h4.symm.trans h5)
  subst e
  obtain ⟨hq, he⟩ := kpl_push hD1
  rw [he] at hP1 hD1
  exact kk q H1 hq hP1 hD1 hS1
theorem kp_putF (hexec : p.tables.exec = Jvm.exec) (hb : c.code = cc) {own ref C : String} {T : u_T} {N ci index : Nat} {Ts : List Cond} (hts : ∀ w ∈ Ts, w.before args s = true) (hin : ∀ w ∈ u_ws C T N, w ∈ Ts) (ty0 : Nat → FieldType) (hty : ∀ k, k < N → parseFieldDescriptor (T k).2.2.1 = some (ty0 k)) (hnm : ∀ a, a < N → ∀ b, b < N → a ≠ b → (T a).2.1 ≠ (T b).2.1) (hown : s.vm.findClass own = some m.cls) (hK : va_K D cl tys s) (hP : va_P D cl (va_pl L f) H) (hD : va_D A (va_pl L f)) (hS : va_S A H0 H locs) (hI : kI dA τ pv L f) (ha : τ 0 a = t) (hci : kCi t = some ci) (hc : cl[ci]? = some (C, T, N)) (k : Nat) (hk : k < N) (hkl : k < (kDl t).length)
    (hlink : (Cond.fieldLink own index ref (T k).2.1 (T k).2.2.1).before args s = true) (hsame : ∀ x, s.fieldFound? (T k).1 (T k).2.1 (T k).2.2.1 = some x → s.fieldFound? ref (T k).2.1 (T k).2.2.1 = some x) (hfin : (T k).2.2.2 = true) (hin2 : meth.name = "<init>") (hdecl : (T k).1 = own) {ty : FieldType} {v : Value} (hd : parseFieldDescriptor (T k).2.2.1 = some ty) (hn : narrow ty v = v) (hfit : fits ty v = true) (hpb : kPb t k = true) (hp : kPr τ ((kDl t).getD k 0) a v)
    (hdg : decode cc pc = .ok (.putfield index, 3)) (kk : ∀ (f' : Nat → va_E) (H1 : Heap) (locs1 : List Loc), kI dA τ (kup pv a k v) L f' → va_P D cl (va_pl L f') H1 → va_D A (va_pl L f') → va_S A H0 H1 locs1 → W p l e R s m args below meth c H1 locs1 cells slots Q (F0 m (pc + 3) ls rest)) : W p l e R s m args below meth c H locs cells slots Q (F0 m pc ls (v :: .ref a :: rest)) := by
  obtain ⟨hm, vals, hf, hO⟩ := hI.obj ha hci
  obtain ⟨q0, hq0⟩ := kpl_get (f := f) hm
  have hq1 := hq0
  rw [hf] at hq1
  have hlt : k < vals.length := by rw [hO.1]; exact hkl
  refine va_putF hexec hb hts hin ty0 hty hnm hown hK hP hD hS q0 hq1 hc k hk hlink hsame hfin hin2 hdecl hd hn hfit hlt hdg (fun H1 locs1 g1 g2 g3 => ?_)
  rw [kpl_set hD hm hq0] at g1 g2
  exact kk _ H1 locs1 (hI.put ha hci (fun b j hb => kup_ne (Or.inl hb)) (hO.set (fun j hj => kup_ne (Or.inr hj)) hp ((kPn_pin hpb).mpr kup_self.symm))) g1 g2 g3
theorem kw_nnA {x y : UInt32} (hexec : p.tables.exec = Jvm.exec) (hb : c.code = cc) (hdg : decode cc pc = .ok (.fadd, 1)) (hx : nn x) (hy : nn y) (kk : ∀ z, nn z → W p l e R s m args below meth c H locs cells slots Q (F0 m (pc + 1) ls (.float z :: rest))) : W p l e R s m args below meth c H locs cells slots Q (F0 m pc ls (.float y :: .float x :: rest)) := lv_fadd hexec hb hdg (nn_n (nn_add hx hy)) (kk _ (nn_add hx hy))
theorem kw_nnB {x y : UInt32} {A B M : Nat} (hexec : p.tables.exec = Jvm.exec) (hb : c.code = cc) (hdg : decode cc pc = .ok (.fadd, 1)) (hx : fb A x) (hy : fb B y) (hA : A < 2139095040) (hB : B < 2139095040) (h : Jvm.FP.Core.unitsOf Jvm.FP.Core.b32 A + Jvm.FP.Core.unitsOf Jvm.FP.Core.b32 B ≤ Jvm.FP.Core.unitsOf Jvm.FP.Core.b32 M) (hM : M ≤ 2139095040) (nx : nn x) (ny : nn y) (kk : ∀ z, fb M z → nn z → W p l e R s m args below meth c H locs cells slots Q (F0 m (pc + 1) ls (.float z :: rest))) : W p l e R s m args below meth c H locs cells slots Q (F0 m pc ls (.float y :: .float x :: rest)) := lv_fadd hexec hb hdg (fb_n (fb_add hx hy hA hB h) hM) (kk _ (fb_add hx hy hA hB h) (nn_add nx ny))
theorem kw_sq {x : UInt32} {A M : Nat} (hexec : p.tables.exec = Jvm.exec) (hb : c.code = cc) (hdg : decode cc pc = .ok (.fmul, 1)) (hx : fb A x) (hA : A < 2139095040) (h : Jvm.FP.Core.unitsOf Jvm.FP.Core.b32 A * Jvm.FP.Core.unitsOf Jvm.FP.Core.b32 A ≤ Jvm.FP.Core.unitsOf Jvm.FP.Core.b32 M * 2 ^ 149) (hM : M ≤ 2139095040) (kk : ∀ z, fb M z → nn z → W p l e R s m args below meth c H locs cells slots Q (F0 m (pc + 1) ls (.float z :: rest))) : W p l e R s m args below meth c H locs cells slots Q (F0 m pc ls (.float x :: .float x :: rest)) := lv_fmul hexec hb hdg (fb_n (fb_mul hx hx hA hA h) hM) (kk _ (fb_mul hx hx hA hA h) (nn_sq hx hA))
end KNW
theorem kI.newV {dA : Nat → ClassId} {τ : Nat → Nat → Nat} {pv : Nat → Nat → Value} {L : List Nat} {f : Nat → va_E} {q : Nat} (t : Nat) (ht : t = 3 ∨ t = 4 ∨ t = 5) (h : kI dA τ pv L f) (hq : q ∉ L) : kI dA (kxt τ q (fun j => if j = 0 then t else 0)) pv (L ++ [q]) (va_up f q (.inr (3, [.float 0, .float 0, .float 0]))) := by
  have h0 : τ 0 q = 0 := h.t0 hq
  refine h.change (a := q) (Or.inl h0) (fun b hb => List.mem_append_left _ hb) (List.mem_append_right _ (List.mem_singleton.mpr rfl)) (fun b hb j => kxt_ne hb j) (fun _ _ _ => rfl) (fun b hb => va_up_ne _ _ hb) ?_
  rw [va_up_self]
  have e0 : kxt τ q (fun j => if j = 0 then t else 0) 0 q = t := kxt_self 0
  have z : ∀ M, fb M 0 := fun M => Nat.zero_le _
  unfold kC
  rw [e0]
  refine ⟨fun ci hc => ?_, fun k hk => ?_, fun k hk => ?_, fun hk => ?_, fun hk => ?_, fun hk => ?_, fun k hk => ?_⟩
  · refine ⟨[.float 0, .float 0, .float 0], ?_, ?_, ?_⟩
    · rcases ht with rfl | rfl | rfl <;> cases hc <;> rfl
    · rcases ht with rfl | rfl | rfl <;> rfl
    · intro k v hk
      refine ⟨?_, kPn_not (by rcases ht with rfl | rfl | rfl <;> rfl) (by rcases ht with rfl | rfl | rfl <;> decide)⟩
      match k, hk with
      | 0, hk => cases hk; rcases ht with rfl | rfl | rfl <;> exact kv_F (by decide) (z _)
      | 1, hk => cases hk; rcases ht with rfl | rfl | rfl <;> exact kv_F (by decide) (z _)
      | 2, hk => cases hk; rcases ht with rfl | rfl | rfl <;> exact kv_F (by decide) (z _)
      | k + 3, hk => simp at hk
  all_goals (rcases ht with rfl | rfl | rfl <;> cases hk)
theorem kI.newR {dA : Nat → ClassId} {τ : Nat → Nat → Nat} {pv : Nat → Nat → Value} {L : List Nat} {f : Nat → va_E} {q ci : Nat} {vals : List Value} (t : Nat) (ht : t = 40 ∨ t = 41) (hci : kCi t = some ci) (h : kI dA τ pv L f) (hq : q ∉ L) (hl : vals.length = (kDl t).length) (hv : ∀ k v, vals[k]? = some v → kPr (kxt τ q (fun j => if j = 0 then t else 0)) ((kDl t).getD k 0) q v) : kI dA (kxt τ q (fun j => if j = 0 then t else 0)) (kux pv q (fun k => vals.getD k .null)) (L ++ [q]) (va_up f q (.inr (ci, vals))) := by
  have h0 : τ 0 q = 0 := h.t0 hq
  refine h.change (a := q) (Or.inl h0) (fun b hb => List.mem_append_left _ hb) (List.mem_append_right _ (List.mem_singleton.mpr rfl)) (fun b hb j => kxt_ne hb j) (fun b hb j => kux_ne hb j) (fun b hb => va_up_ne _ _ hb) ?_
  rw [va_up_self]
  have e0 : kxt τ q (fun j => if j = 0 then t else 0) 0 q = t := kxt_self 0
  unfold kC
  rw [e0]
  refine ⟨fun cj hc => ?_, fun k hk => ?_, fun k hk => ?_, fun hk => ?_, fun hk => ?_, fun hk => ?_, fun k hk => ?_⟩
  · cases Option.some.inj (hc.symm.trans hci)
    refine ⟨vals, rfl, hl, fun k v hk => ⟨hv k v hk, (kPn_pin (by rcases ht with rfl | rfl <;> rfl)).mpr ?_⟩⟩
    rw [kux_self, List.getD_eq_getElem?_getD, hk]
    rfl
  all_goals (rcases ht with rfl | rfl <;> cases hk)
theorem kI.retype {dA : Nat → ClassId} {τ : Nat → Nat → Nat} {pv : Nat → Nat → Value} {L : List Nat} {f : Nat → va_E} {a t t' ci : Nat} (g : Nat → Nat) (h : kI dA τ pv L f) (ha : τ 0 a = t) (h40 : 40 ≤ t) (hci : kCi t = some ci) (hg : g 0 = t') (hci' : kCi t' = some ci) (hl : (kDl t).length = (kDl t').length) (hna : kAk t' = none) (h29 : t' ≠ 29) (hpb : ∀ k, kPb t k = true) (hv : ∀ k, k < (kDl t').length → kPr (kxt τ a g) ((kDl t').getD k 0) a (pv a k)) : kI dA (kxt τ a g) pv L f := by
  obtain ⟨hm, vals, hf, hO⟩ := h.obj ha hci
  refine h.change (a := a) (Or.inr (by omega)) (fun b hb => hb) hm (fun b hb j => kxt_ne hb j) (fun _ _ _ => rfl) (fun b hb => rfl) ?_
  have e0 : kxt τ a g 0 a = t' := (kxt_self 0).trans hg
  unfold kC
  rw [e0, hna]
  refine ⟨fun cj hc => ?_, fun k hk => (by cases hk), fun k hk => (by cases hk), fun hk => (by cases hk), fun hk => (by cases hk), fun hk => (by cases hk), fun k hk => (by cases hk)⟩
  cases Option.some.inj (hc.symm.trans hci')
  refine ⟨vals, hf, hO.1.trans hl, fun k v hk => ?_⟩
  have e1 : v = pv a k := (kPn_pin (hpb k)).mp (hO.2 k v hk).2
  have hk2 : k < (kDl t').length := by
    have := (List.getElem?_eq_some_iff.mp hk).1
    rw [hO.1, hl] at this
    exact this
  subst e1
  refine ⟨hv k hk2, ?_⟩
  unfold kPn
  split
  · rfl
  · trivial
