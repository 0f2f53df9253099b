section KAR
variable {p : Program} {l : Launch} {e : Env} {R : Room} {s : State} {m : MethodId} {args : Array Value} {below : List Frame} {meth : Method} {c : Code} {H : Heap} {locs : List Loc} {cells slots : Nat} {Q : State → Prop}
variable {cc : ByteArray} {pc : Nat} {ls : Array Slot} {rest : List Value} {D : va_G} {cl : List vw_C} {A : Nat → Prop} {a : Nat} {H0 : Heap}
variable {dA : Nat → ClassId} {τ : Nat → Nat → Nat} {pv : Nat → Nat → Value} {L : List Nat} {f : Nat → va_E} {t : Nat}

theorem kp_iald (hexec : p.tables.exec = Jvm.exec) (hb : c.code = cc) (hK : va_K D cl (tyA dA) s) (hP : va_P D cl (va_pl L f) H) (hI : kI dA τ pv L f) (ha : τ 0 a = t) (hk : kAk t = some 0) {j : Nat} (hj : j < τ 3 a) (hdg : decode cc pc = .ok (.iaload, 1))
    (kk : ∀ x : Int32, kPr τ (kEc t j) a (.int x) → (kPn t j (pv a j) (.int x) ∧ kva (f a) j = some x) → W p l e R s m args below meth c H locs cells slots Q (F0 m (pc + 1) ls (.int x :: rest))) : W p l e R s m args below meth c H locs cells slots Q (F0 m pc ls (.int (nI j) :: .ref a :: rest)) := by
  obtain ⟨hm, -, hlt⟩ := hI.arr ha hk
  obtain ⟨q0, hq0⟩ := kpl_get (f := f) hm
  subst ha
  obtain ⟨g, hf, hv⟩ := hI.2.2.2.1 a 0 hk (by decide)
  rw [hf] at hq0
  obtain ⟨v1, v2⟩ := hv j
  refine va_iald hexec hb hK hP q0 0 hq0 rfl (vp_in_nI hj hlt) hdg ?_
  rw [nI_clamp (Nat.lt_trans hj hlt)]
  exact kk _ v1 ⟨v2, by rw [hf]; rfl⟩

theorem kp_zald (hexec : p.tables.exec = Jvm.exec) (hb : c.code = cc) (hK : va_K D cl (tyA dA) s) (hP : va_P D cl (va_pl L f) H) (hI : kI dA τ pv L f) (ha : τ 0 a = t) (hk : kAk t = some 1) {j : Nat} (hj : j < τ 3 a) (hdg : decode cc pc = .ok (.baload, 1))
    (kk : ∀ x : Int32, kPr τ (kEc t j) a (.int x) → (kPn t j (pv a j) (.int x) ∧ kva (f a) j = some x) → W p l e R s m args below meth c H locs cells slots Q (F0 m (pc + 1) ls (.int x :: rest))) : W p l e R s m args below meth c H locs cells slots Q (F0 m pc ls (.int (nI j) :: .ref a :: rest)) := by
  obtain ⟨hm, -, hlt⟩ := hI.arr ha hk
  obtain ⟨q0, hq0⟩ := kpl_get (f := f) hm
  subst ha
  obtain ⟨g, hf, hv⟩ := hI.2.2.2.1 a 1 hk (by decide)
  rw [hf] at hq0
  obtain ⟨v1, v2⟩ := hv j
  refine va_zald hexec hb hK hP q0 1 hq0 rfl (vp_in_nI hj hlt) hdg ?_
  rw [nI_clamp (Nat.lt_trans hj hlt)]
  exact kk _ v1 ⟨v2, by rw [hf]; rfl⟩

theorem kp_fald (hexec : p.tables.exec = Jvm.exec) (hb : c.code = cc) (hK : va_K D cl (tyA dA) s) (hP : va_P D cl (va_pl L f) H) (hI : kI dA τ pv L f) (ha : τ 0 a = t) (hk : kAk t = some 2) {j : Nat} (hj : j < τ 3 a) (hdg : decode cc pc = .ok (.faload, 1))
    (kk : ∀ x : UInt32, kPr τ (kEc t j) a (.float x) → kPn t j (pv a j) (.float x) → W p l e R s m args below meth c H locs cells slots Q (F0 m (pc + 1) ls (.float x :: rest))) : W p l e R s m args below meth c H locs cells slots Q (F0 m pc ls (.int (nI j) :: .ref a :: rest)) := by
  obtain ⟨hm, -, hlt⟩ := hI.arr ha hk
  obtain ⟨q0, hq0⟩ := kpl_get (f := f) hm
  subst ha
  obtain ⟨g, hf, hv⟩ := hI.2.2.2.2.1 a hk
  rw [hf] at hq0
  obtain ⟨v1, v2⟩ := hv j
  refine va_fald hexec hb hK hP q0 2 hq0 rfl (vp_in_nI hj hlt) hdg ?_
  rw [nI_clamp (Nat.lt_trans hj hlt)]
  exact kk _ v1 v2

theorem kp_faldE (hexec : p.tables.exec = Jvm.exec) (hb : c.code = cc) (hK : va_K D cl (tyA dA) s) (hP : va_P D cl (va_pl L f) H) (hI : kI dA τ pv L f) (ha : τ 0 a = t) (hk : kAk t = some 2) {j : Nat} (hj : j < τ 3 a) (hdg : decode cc pc = .ok (.faload, 1))
    (kk : ∀ x : UInt32, kPr τ (kEc t j) a (.float x) → (kPn t j (pv a j) (.float x) ∧ kvf (f a) j = some x) → W p l e R s m args below meth c H locs cells slots Q (F0 m (pc + 1) ls (.float x :: rest))) : W p l e R s m args below meth c H locs cells slots Q (F0 m pc ls (.int (nI j) :: .ref a :: rest)) := by
  obtain ⟨hm, -, hlt⟩ := hI.arr ha hk
  obtain ⟨q0, hq0⟩ := kpl_get (f := f) hm
  subst ha
  obtain ⟨g, hf, hv⟩ := hI.2.2.2.2.1 a hk
  rw [hf] at hq0
  obtain ⟨v1, v2⟩ := hv j
  refine va_fald hexec hb hK hP q0 2 hq0 rfl (vp_in_nI hj hlt) hdg ?_
  rw [nI_clamp (Nat.lt_trans hj hlt)]
  exact kk _ v1 ⟨v2, by rw [hf]; rfl⟩

theorem kp_qald5 (hexec : p.tables.exec = Jvm.exec) (hb : c.code = cc) (hK : va_K D cl (tyA dA) s) (hP : va_P D cl (va_pl L f) H) (hI : kI dA τ pv L f) (ha : τ 0 a = t) (hk : kAk t = some 5) {j : Nat} (hj : j < τ 3 a) (hdg : decode cc pc = .ok (.aaload, 1))
    (kk : ∀ x : Option Nat, kPr τ (kEc t j) a (va_rf x) → kPn t j (pv a j) (va_rf x) → W p l e R s m args below meth c H locs cells slots Q (F0 m (pc + 1) ls (va_rf x :: rest))) : W p l e R s m args below meth c H locs cells slots Q (F0 m pc ls (.int (nI j) :: .ref a :: rest)) := by
  obtain ⟨hm, -, hlt⟩ := hI.arr ha hk
  obtain ⟨q0, hq0⟩ := kpl_get (f := f) hm
  subst ha
  obtain ⟨g, hf, hv⟩ := hI.2.2.2.2.2.2.2 a 5 hk (by decide)
  rw [hf] at hq0
  obtain ⟨v1, v2⟩ := hv j
  refine va_aldq hexec hb hK hP q0 5 hq0 rfl (vp_in_nI hj hlt) hdg ?_
  rw [nI_clamp (Nat.lt_trans hj hlt)]
  exact kk _ v1 v2

theorem kp_qald6 (hexec : p.tables.exec = Jvm.exec) (hb : c.code = cc) (hK : va_K D cl (tyA dA) s) (hP : va_P D cl (va_pl L f) H) (hI : kI dA τ pv L f) (ha : τ 0 a = t) (hk : kAk t = some 6) {j : Nat} (hj : j < τ 3 a) (hdg : decode cc pc = .ok (.aaload, 1))
    (kk : ∀ x : Option Nat, kPr τ (kEc t j) a (va_rf x) → kPn t j (pv a j) (va_rf x) → W p l e R s m args below meth c H locs cells slots Q (F0 m (pc + 1) ls (va_rf x :: rest))) : W p l e R s m args below meth c H locs cells slots Q (F0 m pc ls (.int (nI j) :: .ref a :: rest)) := by
  obtain ⟨hm, -, hlt⟩ := hI.arr ha hk
  obtain ⟨q0, hq0⟩ := kpl_get (f := f) hm
  subst ha
  obtain ⟨g, hf, hv⟩ := hI.2.2.2.2.2.2.2 a 6 hk (by decide)
  rw [hf] at hq0
  obtain ⟨v1, v2⟩ := hv j
  refine va_aldq hexec hb hK hP q0 6 hq0 rfl (vp_in_nI hj hlt) hdg ?_
  rw [nI_clamp (Nat.lt_trans hj hlt)]
  exact kk _ v1 v2

theorem kp_iastX {pv' : Nat → Nat → Value} (hexec : p.tables.exec = Jvm.exec) (hb : c.code = cc) (hK : va_K D cl (tyA dA) s) (hP : va_P D cl (va_pl L f) H) (hD : va_D A (va_pl L f)) (hS : va_S A H0 H locs) (hI : kI dA τ pv L f) (ha : τ 0 a = t) (hk : kAk t = some 0) {j : Nat} (hj : j < τ 3 a) {x : Int32}  (hpv : ∀ b i, (b ≠ a ∨ i ≠ j) → pv' b i = pv b i) (hp : kPr τ (kEc t j) a (.int x)) (hpn : kPn t j (pv' a j) (.int x)) (hdg : decode cc pc = .ok (.iastore, 1))
    (kk : ∀ (f' : Nat → va_E) (H1 : Heap) (locs1 : List Loc), kI dA τ pv' L f' → va_P D cl (va_pl L f') H1 → va_D A (va_pl L f') → va_S A H0 H1 locs1 → W p l e R s m args below meth c H1 locs1 cells slots Q (F0 m (pc + 1) ls rest)) : W p l e R s m args below meth c H locs cells slots Q (F0 m pc ls (.int x :: .int (nI j) :: .ref a :: rest)) := by
  obtain ⟨hm, -, hlt⟩ := hI.arr ha hk
  obtain ⟨q0, hq0⟩ := kpl_get (f := f) hm
  subst ha
  obtain ⟨g, hf, hv⟩ := hI.2.2.2.1 a 0 hk (by decide)
  have hq1 := hq0
  rw [hf] at hq1
  refine va_iast hexec hb hK hP hD hS q0 0 hq1 rfl  (vp_in_nI hj hlt) hdg (fun H1 locs1 g1 g2 g3 => ?_)
  rw [kpl_set hD hm hq0] at g1 g2
  rw [nI_clamp (Nat.lt_trans hj hlt)] at g1 g2
  refine kk _ H1 locs1 (hI.putA rfl hk (fun b i hb => hpv b i (Or.inl hb)) (fun _ => ⟨_, rfl, fun i => ?_⟩) (fun h => by cases h) (fun h => by cases h) (fun h => by cases h) (fun h => absurd h (by decide))) g1 g2 g3
  by_cases hij : i = j
  · subst hij
    
    rw [show upd g i x i = x by simp [upd]]
    exact ⟨hp, hpn⟩
  · rw [show upd g j x i = g i by simp [upd, hij], hpv a i (Or.inr hij)]
    exact hv i

theorem kp_zastX {pv' : Nat → Nat → Value} (hexec : p.tables.exec = Jvm.exec) (hb : c.code = cc) (hK : va_K D cl (tyA dA) s) (hP : va_P D cl (va_pl L f) H) (hD : va_D A (va_pl L f)) (hS : va_S A H0 H locs) (hI : kI dA τ pv L f) (ha : τ 0 a = t) (hk : kAk t = some 1) {j : Nat} (hj : j < τ 3 a) {x : Int32} (h01 : x = 0 ∨ x = 1) (hpv : ∀ b i, (b ≠ a ∨ i ≠ j) → pv' b i = pv b i) (hp : kPr τ (kEc t j) a (.int x)) (hpn : kPn t j (pv' a j) (.int x)) (hdg : decode cc pc = .ok (.bastore, 1))
    (kk : ∀ (f' : Nat → va_E) (H1 : Heap) (locs1 : List Loc), kI dA τ pv' L f' → va_P D cl (va_pl L f') H1 → va_D A (va_pl L f') → va_S A H0 H1 locs1 → W p l e R s m args below meth c H1 locs1 cells slots Q (F0 m (pc + 1) ls rest)) : W p l e R s m args below meth c H locs cells slots Q (F0 m pc ls (.int x :: .int (nI j) :: .ref a :: rest)) := by
  obtain ⟨hm, -, hlt⟩ := hI.arr ha hk
  obtain ⟨q0, hq0⟩ := kpl_get (f := f) hm
  subst ha
  obtain ⟨g, hf, hv⟩ := hI.2.2.2.1 a 1 hk (by decide)
  have hq1 := hq0
  rw [hf] at hq1
  refine va_zast hexec hb hK hP hD hS q0 1 hq1 rfl  (vp_in_nI hj hlt) hdg (fun H1 locs1 g1 g2 g3 => ?_)
  rw [kpl_set hD hm hq0] at g1 g2
  rw [nI_clamp (Nat.lt_trans hj hlt)] at g1 g2
  refine kk _ H1 locs1 (hI.putA rfl hk (fun b i hb => hpv b i (Or.inl hb)) (fun _ => ⟨_, rfl, fun i => ?_⟩) (fun h => by cases h) (fun h => by cases h) (fun h => by cases h) (fun h => absurd h (by decide))) g1 g2 g3
  by_cases hij : i = j
  · subst hij
    have e01 : vp_nar .boolean x = x := by rcases h01 with rfl | rfl <;> decide
    rw [e01]
    rw [show upd g i x i = x by simp [upd]]
    exact ⟨hp, hpn⟩
  · rw [show upd g j (vp_nar .boolean x) i = g i by simp [upd, hij], hpv a i (Or.inr hij)]
    exact hv i

theorem kp_fastX {pv' : Nat → Nat → Value} (hexec : p.tables.exec = Jvm.exec) (hb : c.code = cc) (hK : va_K D cl (tyA dA) s) (hP : va_P D cl (va_pl L f) H) (hD : va_D A (va_pl L f)) (hS : va_S A H0 H locs) (hI : kI dA τ pv L f) (ha : τ 0 a = t) (hk : kAk t = some 2) {j : Nat} (hj : j < τ 3 a) {x : UInt32}  (hpv : ∀ b i, (b ≠ a ∨ i ≠ j) → pv' b i = pv b i) (hp : kPr τ (kEc t j) a (.float x)) (hpn : kPn t j (pv' a j) (.float x)) (hdg : decode cc pc = .ok (.fastore, 1))
    (kk : ∀ (f' : Nat → va_E) (H1 : Heap) (locs1 : List Loc), kI dA τ pv' L f' → va_P D cl (va_pl L f') H1 → va_D A (va_pl L f') → va_S A H0 H1 locs1 → W p l e R s m args below meth c H1 locs1 cells slots Q (F0 m (pc + 1) ls rest)) : W p l e R s m args below meth c H locs cells slots Q (F0 m pc ls (.float x :: .int (nI j) :: .ref a :: rest)) := by
  obtain ⟨hm, -, hlt⟩ := hI.arr ha hk
  obtain ⟨q0, hq0⟩ := kpl_get (f := f) hm
  subst ha
  obtain ⟨g, hf, hv⟩ := hI.2.2.2.2.1 a hk
  have hq1 := hq0
  rw [hf] at hq1
  refine va_fast hexec hb hK hP hD hS q0 2 hq1 rfl  (vp_in_nI hj hlt) hdg (fun H1 locs1 g1 g2 g3 => ?_)
  rw [kpl_set hD hm hq0] at g1 g2
  rw [nI_clamp (Nat.lt_trans hj hlt)] at g1 g2
  refine kk _ H1 locs1 (hI.putA rfl hk (fun b i hb => hpv b i (Or.inl hb)) (fun h => absurd h (by decide)) (fun _ => ⟨_, rfl, fun i => ?_⟩) (fun h => by cases h) (fun h => by cases h) (fun h => absurd h (by decide))) g1 g2 g3
  by_cases hij : i = j
  · subst hij
    
    rw [show vf_upd g i x i = x by simp [vf_upd]]
    exact ⟨hp, hpn⟩
  · rw [show vf_upd g j x i = g i by simp [vf_upd, hij], hpv a i (Or.inr hij)]
    exact hv i

theorem kp_qastN6X {pv' : Nat → Nat → Value} (hexec : p.tables.exec = Jvm.exec) (hb : c.code = cc) (hK : va_K D cl (tyA dA) s) (hP : va_P D cl (va_pl L f) H) (hD : va_D A (va_pl L f)) (hS : va_S A H0 H locs) (hI : kI dA τ pv L f) (ha : τ 0 a = t) (hk : kAk t = some 6) {j : Nat} (hj : j < τ 3 a) {x : Unit}  (hpv : ∀ b i, (b ≠ a ∨ i ≠ j) → pv' b i = pv b i) (hp : kPr τ (kEc t j) a (va_rf none)) (hpn : kPn t j (pv' a j) (va_rf none)) (hdg : decode cc pc = .ok (.aastore, 1))
    (kk : ∀ (f' : Nat → va_E) (H1 : Heap) (locs1 : List Loc), kI dA τ pv' L f' → va_P D cl (va_pl L f') H1 → va_D A (va_pl L f') → va_S A H0 H1 locs1 → W p l e R s m args below meth c H1 locs1 cells slots Q (F0 m (pc + 1) ls rest)) : W p l e R s m args below meth c H locs cells slots Q (F0 m pc ls (.null :: .int (nI j) :: .ref a :: rest)) := by
  obtain ⟨hm, -, hlt⟩ := hI.arr ha hk
  obtain ⟨q0, hq0⟩ := kpl_get (f := f) hm
  subst ha
  obtain ⟨g, hf, hv⟩ := hI.2.2.2.2.2.2.2 a 6 hk (by decide)
  have hq1 := hq0
  rw [hf] at hq1
  refine va_astqN hexec hb hK hP hD hS q0 6 hq1 rfl  (vp_in_nI hj hlt) hdg (fun H1 locs1 g1 g2 g3 => ?_)
  rw [kpl_set hD hm hq0] at g1 g2
  rw [nI_clamp (Nat.lt_trans hj hlt)] at g1 g2
  refine kk _ H1 locs1 (hI.putA rfl hk (fun b i hb => hpv b i (Or.inl hb)) (fun h => absurd h (by decide)) (fun h => by cases h) (fun h => by cases h) (fun h => by cases h) (fun _ => ⟨_, rfl, fun i => ?_⟩)) g1 g2 g3
  by_cases hij : i = j
  · subst hij
    
    rw [show va_up g i none i = none by simp [va_up]]
    exact ⟨hp, hpn⟩
  · rw [show va_up g j none i = g i by simp [va_up, hij], hpv a i (Or.inr hij)]
    exact hv i

theorem kp_qastN5X {pv' : Nat → Nat → Value} (hexec : p.tables.exec = Jvm.exec) (hb : c.code = cc) (hK : va_K D cl (tyA dA) s) (hP : va_P D cl (va_pl L f) H) (hD : va_D A (va_pl L f)) (hS : va_S A H0 H locs) (hI : kI dA τ pv L f) (ha : τ 0 a = t) (hk : kAk t = some 5) {j : Nat} (hj : j < τ 3 a) {x : Unit}  (hpv : ∀ b i, (b ≠ a ∨ i ≠ j) → pv' b i = pv b i) (hp : kPr τ (kEc t j) a (va_rf none)) (hpn : kPn t j (pv' a j) (va_rf none)) (hdg : decode cc pc = .ok (.aastore, 1))
    (kk : ∀ (f' : Nat → va_E) (H1 : Heap) (locs1 : List Loc), kI dA τ pv' L f' → va_P D cl (va_pl L f') H1 → va_D A (va_pl L f') → va_S A H0 H1 locs1 → W p l e R s m args below meth c H1 locs1 cells slots Q (F0 m (pc + 1) ls rest)) : W p l e R s m args below meth c H locs cells slots Q (F0 m pc ls (.null :: .int (nI j) :: .ref a :: rest)) := by
  obtain ⟨hm, -, hlt⟩ := hI.arr ha hk
  obtain ⟨q0, hq0⟩ := kpl_get (f := f) hm
  subst ha
  obtain ⟨g, hf, hv⟩ := hI.2.2.2.2.2.2.2 a 5 hk (by decide)
  have hq1 := hq0
  rw [hf] at hq1
  refine va_astqN hexec hb hK hP hD hS q0 5 hq1 rfl  (vp_in_nI hj hlt) hdg (fun H1 locs1 g1 g2 g3 => ?_)
  rw [kpl_set hD hm hq0] at g1 g2
  rw [nI_clamp (Nat.lt_trans hj hlt)] at g1 g2
  refine kk _ H1 locs1 (hI.putA rfl hk (fun b i hb => hpv b i (Or.inl hb)) (fun h => absurd h (by decide)) (fun h => by cases h) (fun h => by cases h) (fun h => by cases h) (fun _ => ⟨_, rfl, fun i => ?_⟩)) g1 g2 g3
  by_cases hij : i = j
  · subst hij
    
    rw [show va_up g i none i = none by simp [va_up]]
    exact ⟨hp, hpn⟩
  · rw [show va_up g j none i = g i by simp [va_up, hij], hpv a i (Or.inr hij)]
    exact hv i

theorem kp_qast6X {pv' : Nat → Nat → Value} (hexec : p.tables.exec = Jvm.exec) (hb : c.code = cc) (hK : va_K D cl (tyA dA) s) (hP : va_P D cl (va_pl L f) H) (hD : va_D A (va_pl L f)) (hS : va_S A H0 H locs) (hI : kI dA τ pv L f) (ha : τ 0 a = t) (hk : kAk t = some 6) {j : Nat} (hj : j < τ 3 a) {x : Nat} (hr : va_Any "IslandSolver$Row" s H x) (hpv : ∀ b i, (b ≠ a ∨ i ≠ j) → pv' b i = pv b i) (hp : kPr τ (kEc t j) a (va_rf (some x))) (hpn : kPn t j (pv' a j) (va_rf (some x))) (hdg : decode cc pc = .ok (.aastore, 1))
    (kk : ∀ (f' : Nat → va_E) (H1 : Heap) (locs1 : List Loc), kI dA τ pv' L f' → va_P D cl (va_pl L f') H1 → va_D A (va_pl L f') → va_S A H0 H1 locs1 → W p l e R s m args below meth c H1 locs1 cells slots Q (F0 m (pc + 1) ls rest)) : W p l e R s m args below meth c H locs cells slots Q (F0 m pc ls (.ref x :: .int (nI j) :: .ref a :: rest)) := by
  obtain ⟨hm, -, hlt⟩ := hI.arr ha hk
  obtain ⟨q0, hq0⟩ := kpl_get (f := f) hm
  subst ha
  obtain ⟨g, hf, hv⟩ := hI.2.2.2.2.2.2.2 a 6 hk (by decide)
  have hq1 := hq0
  rw [hf] at hq1
  refine va_astqM (E := "IslandSolver$Row") hexec hb hK hP hD hS q0 6 hq1 rfl hr (vp_in_nI hj hlt) hdg (fun H1 locs1 g1 g2 g3 => ?_)
  rw [kpl_set hD hm hq0] at g1 g2
  rw [nI_clamp (Nat.lt_trans hj hlt)] at g1 g2
  refine kk _ H1 locs1 (hI.putA rfl hk (fun b i hb => hpv b i (Or.inl hb)) (fun h => absurd h (by decide)) (fun h => by cases h) (fun h => by cases h) (fun h => by cases h) (fun _ => ⟨_, rfl, fun i => ?_⟩)) g1 g2 g3
  by_cases hij : i = j
  · subst hij
    
    rw [show va_up g i (some x) i = some x by simp [va_up]]
    exact ⟨hp, hpn⟩
  · rw [show va_up g j (some x) i = g i by simp [va_up, hij], hpv a i (Or.inr hij)]
    exact hv i

theorem kp_qast5X {pv' : Nat → Nat → Value} (hexec : p.tables.exec = Jvm.exec) (hb : c.code = cc) (hK : va_K D cl (tyA dA) s) (hP : va_P D cl (va_pl L f) H) (hD : va_D A (va_pl L f)) (hS : va_S A H0 H locs) (hI : kI dA τ pv L f) (ha : τ 0 a = t) (hk : kAk t = some 5) {j : Nat} (hj : j < τ 3 a) {x : Nat} (hr : va_Any "java/lang/Object" s H x) (hpv : ∀ b i, (b ≠ a ∨ i ≠ j) → pv' b i = pv b i) (hp : kPr τ (kEc t j) a (va_rf (some x))) (hpn : kPn t j (pv' a j) (va_rf (some x))) (hdg : decode cc pc = .ok (.aastore, 1))
    (kk : ∀ (f' : Nat → va_E) (H1 : Heap) (locs1 : List Loc), kI dA τ pv' L f' → va_P D cl (va_pl L f') H1 → va_D A (va_pl L f') → va_S A H0 H1 locs1 → W p l e R s m args below meth c H1 locs1 cells slots Q (F0 m (pc + 1) ls rest)) : W p l e R s m args below meth c H locs cells slots Q (F0 m pc ls (.ref x :: .int (nI j) :: .ref a :: rest)) := by
  obtain ⟨hm, -, hlt⟩ := hI.arr ha hk
  obtain ⟨q0, hq0⟩ := kpl_get (f := f) hm
  subst ha
  obtain ⟨g, hf, hv⟩ := hI.2.2.2.2.2.2.2 a 5 hk (by decide)
  have hq1 := hq0
  rw [hf] at hq1
  refine va_astqM (E := "java/lang/Object") hexec hb hK hP hD hS q0 5 hq1 rfl hr (vp_in_nI hj hlt) hdg (fun H1 locs1 g1 g2 g3 => ?_)
  rw [kpl_set hD hm hq0] at g1 g2
  rw [nI_clamp (Nat.lt_trans hj hlt)] at g1 g2
  refine kk _ H1 locs1 (hI.putA rfl hk (fun b i hb => hpv b i (Or.inl hb)) (fun h => absurd h (by decide)) (fun h => by cases h) (fun h => by cases h) (fun h => by cases h) (fun _ => ⟨_, rfl, fun i => ?_⟩)) g1 g2 g3
  by_cases hij : i = j
  · subst hij
    
    rw [show va_up g i (some x) i = some x by simp [va_up]]
    exact ⟨hp, hpn⟩
  · rw [show va_up g j (some x) i = g i by simp [va_up, hij], hpv a i (Or.inr hij)]
    exact hv i

theorem kp_alen5 (hexec : p.tables.exec = Jvm.exec) (hb : c.code = cc) (hK : va_K D cl (tyA dA) s) (hP : va_P D cl (va_pl L f) H) (hI : kI dA τ pv L f) (ha : τ 0 a = t) (hk : kAk t = some 5) (hdg : decode cc pc = .ok (.arraylength, 1)) (kk : W p l e R s m args below meth c H locs cells slots Q (F0 m (pc + 1) ls (.int (nI (τ 3 a)) :: rest))) : W p l e R s m args below meth c H locs cells slots Q (F0 m pc ls (.ref a :: rest)) := by
  obtain ⟨hm, -, hlt⟩ := hI.arr ha hk
  obtain ⟨q0, hq0⟩ := kpl_get (f := f) hm
  subst ha
  obtain ⟨g, hf, hv⟩ := hI.2.2.2.2.2.2.2 a 5 hk (by decide)
  rw [hf] at hq0
  exact va_alen hexec hb hK hP q0 5 hq0 rfl rfl hdg kk
theorem kp_last (hexec : p.tables.exec = Jvm.exec) (hb : c.code = cc) (hK : va_K D cl (tyA dA) s) (hP : va_P D cl (va_pl L f) H) (hD : va_D A (va_pl L f)) (hS : va_S A H0 H locs) (hI : kI dA τ pv L f) (ha : τ 0 a = 36) {j : Nat} (hj : j < 1) {x : Int64} (hdg : decode cc pc = .ok (.lastore, 1))
    (kk : ∀ (f' : Nat → va_E) (H1 : Heap) (locs1 : List Loc), kI dA τ (kup pv a 0 (.long x)) L f' → va_P D cl (va_pl L f') H1 → va_D A (va_pl L f') → va_S A H0 H1 locs1 → W p l e R s m args below meth c H1 locs1 cells slots Q (F0 m (pc + 1) ls rest)) : W p l e R s m args below meth c H locs cells slots Q (F0 m pc ls (.long x :: .int (nI j) :: .ref a :: rest)) := by
  have hk : kAk 36 = some 3 := rfl
  obtain ⟨hm, hln, hlt⟩ := hI.arr ha hk
  obtain ⟨q0, hq0⟩ := kpl_get (f := f) hm
  have hln : τ 3 a = 1 := hln
  rw [← ha] at hk
  obtain ⟨g, hf, -⟩ := hI.2.2.2.2.2.1 a hk
  have hq1 := hq0
  rw [hf] at hq1
  refine va_last hexec hb hK hP hD hS q0 3 hq1 rfl (vp_in_nI (by omega) hlt) hdg (fun H1 locs1 g1 g2 g3 => ?_)
  rw [kpl_set hD hm hq0] at g1 g2
  exact kk _ H1 locs1 (hI.putA rfl hk (fun b i hb => kup_ne (Or.inl hb)) (fun h => absurd h (by decide)) (fun h => by cases h) (fun _ => ⟨_, rfl, by rw [kup_self, show j = 0 by omega, show (nI 0).toNatClampNeg = 0 by decide, pk_uLs]⟩) (fun h => by cases h) (fun h => absurd h (by decide))) g1 g2 g3
theorem kp_lald (hexec : p.tables.exec = Jvm.exec) (hb : c.code = cc) (hK : va_K D cl (tyA dA) s) (hP : va_P D cl (va_pl L f) H) (hI : kI dA τ pv L f) (ha : τ 0 a = 36) {x : Int64} (hx : pv a 0 = .long x) (hdg : decode cc pc = .ok (.laload, 1))
    (kk : W p l e R s m args below meth c H locs cells slots Q (F0 m (pc + 1) ls (.long x :: rest))) : W p l e R s m args below meth c H locs cells slots Q (F0 m pc ls (.int (nI 0) :: .ref a :: rest)) := by
  have hk : kAk 36 = some 3 := rfl
  obtain ⟨hm, hln, hlt⟩ := hI.arr ha hk
  have hln : τ 3 a = 1 := hln
  obtain ⟨q0, hq0⟩ := kpl_get (f := f) hm
  rw [← ha] at hk
  obtain ⟨g, hf, hg⟩ := hI.2.2.2.2.2.1 a hk
  rw [hf] at hq0
  refine va_lald hexec hb hK hP q0 3 hq0 rfl (vp_in_nI (by omega) hlt) hdg ?_
  rw [show (nI 0).toNatClampNeg = 0 by decide]
  cases hg.symm.trans hx
  exact kk
theorem kp_dast (hexec : p.tables.exec = Jvm.exec) (hb : c.code = cc) (hK : va_K D cl (tyA dA) s) (hP : va_P D cl (va_pl L f) H) (hD : va_D A (va_pl L f)) (hS : va_S A H0 H locs) (hI : kI dA τ pv L f) (ha : τ 0 a = 37) {j : Nat} (hj : j < 1) {x : UInt64} (hdg : decode cc pc = .ok (.dastore, 1))
    (kk : ∀ (f' : Nat → va_E) (H1 : Heap) (locs1 : List Loc), kI dA τ pv L f' → va_P D cl (va_pl L f') H1 → va_D A (va_pl L f') → va_S A H0 H1 locs1 → W p l e R s m args below meth c H1 locs1 cells slots Q (F0 m (pc + 1) ls rest)) : W p l e R s m args below meth c H locs cells slots Q (F0 m pc ls (.double x :: .int (nI j) :: .ref a :: rest)) := by
  have hk : kAk 37 = some 4 := rfl
  obtain ⟨hm, hln, hlt⟩ := hI.arr ha hk
  obtain ⟨q0, hq0⟩ := kpl_get (f := f) hm
  have hln : τ 3 a = 1 := hln
  rw [← ha] at hk
  obtain ⟨g, hf⟩ := hI.2.2.2.2.2.2.1 a hk
  have hq1 := hq0
  rw [hf] at hq1
  refine va_dast hexec hb hK hP hD hS q0 4 hq1 rfl (vp_in_nI (by omega) hlt) hdg (fun H1 locs1 g1 g2 g3 => ?_)
  rw [kpl_set hD hm hq0] at g1 g2
  exact kk _ H1 locs1 (hI.putA rfl hk (fun b i hb => rfl) (fun h => absurd h (by decide)) (fun h => by cases h) (fun h => by cases h) (fun _ => ⟨_, rfl⟩) (fun h => absurd h (by decide))) g1 g2 g3
theorem kd_any {E : String} {r : vw_C} {b t ci : Nat} (hK : va_K D cl (tyA dA) s) (hP : va_P D cl (va_pl L f) H) (hI : kI dA τ pv L f) (ha : τ 0 b = t) (hci : kCi t = some ci) (hc : cl[ci]? = some r) (hasg : ∀ comp c0 : ClassId, s.vm.findClass E = some comp → s.vm.findClass r.1 = some c0 → s.vm.assignable c0 comp = true) : va_Any E s H b := by
  obtain ⟨hm, vals, hf, -⟩ := hI.obj ha hci
  obtain ⟨q0, hq0⟩ := kpl_get (f := f) hm
  rw [hf] at hq0
  exact va_rAny hK hP hq0 hc hasg
theorem kd_recv {r : vw_C} {b t ci : Nat} (hK : va_K D cl (tyA dA) s) (hP : va_P D cl (va_pl L f) H) (hI : kI dA τ pv L f) (ha : τ 0 b = t) (hci : kCi t = some ci) (hc : cl[ci]? = some r) : ∃ cell : Cell, H[b]? = some cell ∧ cell.vm.isStatics = false ∧ s.vm.findClass r.1 = some cell.cls := by
  obtain ⟨hm, vals, hf, -⟩ := hI.obj ha hci
  obtain ⟨q0, hq0⟩ := kpl_get (f := f) hm
  rw [hf] at hq0
  exact va_recv hK hP hc hq0
end KAR
section KAQ
variable {τ : Nat → Nat → Nat} {a cd : Nat} {Wi P1 P2 : Int32 → Prop} {Wf P3 : UInt32 → Prop}
theorem ka_I (k : ∀ x, Wi x) : ∀ x, P1 x → P2 x → Wi x := fun x _ _ => k x
theorem ka_Z (k : ∀ x : Int32, (x = 0 ∨ x = 1) → Wi x) : ∀ x, kPr τ 1 a (.int x) → P2 x → Wi x := by
  intro x h _
  obtain ⟨i, hi, h2⟩ := (kPr_S (by decide)).mp h
  cases hi
  exact k x h2
theorem ka_3 (k : ∀ x : Int32, -1 ≤ x.toInt → x.toInt < 256 → Wi x) : ∀ x, kPr τ 3 a (.int x) → P2 x → Wi x := by
  intro x h _
  obtain ⟨i, hi, h2, h3⟩ := (kPr_S (by decide)).mp h
  cases hi
  exact k x h2 h3
theorem ka_4 (k : ∀ x : Int32, -1 ≤ x.toInt → x.toInt < 8 → Wi x) : ∀ x, kPr τ 4 a (.int x) → P2 x → Wi x := by
  intro x h _
  obtain ⟨i, hi, h2, h3⟩ := (kPr_S (by decide)).mp h
  cases hi
  exact k x h2 h3
theorem ka_P {t j : Nat} {w : Value} {x0 : Int32} (hb : kPb t j = true) (hw : w = .int x0) {X : Int32 → Prop} (k : Wi x0) : ∀ x, P1 x → (kPn t j w (.int x) ∧ X x) → Wi x := by
  intro x _ h
  have e := ((kPn_pin hb).mp h.1).trans hw
  cases e
  exact k
theorem ka_E {X Y : Int32 → Prop} {o : Option Int32} {x0 : Int32} (h0 : o = some x0) (k : Wi x0) : ∀ x, X x → (Y x ∧ o = some x) → Wi x := by
  intro x _ h
  cases Option.some.inj (h0.symm.trans h.2)
  exact k
theorem ka_3E {X : Int32 → Prop} {o : Option Int32} (k : ∀ x : Int32, -1 ≤ x.toInt → x.toInt < 256 → o = some x → Wi x) : ∀ x, kPr τ 3 a (.int x) → (X x ∧ o = some x) → Wi x := by
  intro x h h9
  obtain ⟨i, hi, h2, h3⟩ := (kPr_S (by decide)).mp h
  cases hi
  exact k x h2 h3 h9.2
theorem ka_F {c0 : Nat} (he : c0 = cd) (hM : 1000000 < cd) (k : ∀ x, fb cd x → Wf x) : ∀ x, kPr τ c0 a (.float x) → P3 x → Wf x := by
  intro x h _
  subst he
  obtain ⟨y, hy, h2⟩ := (kPr_F hM).mp h
  cases hy
  exact k x h2
theorem ka_N (t : Nat) (ht : t < 100) {Wo P4 : Option Nat → Prop} (k0 : Wo none) (k1 : ∀ q : Nat, τ 0 q = t → Wo (some q)) : ∀ x, kPr τ (200 + t) a (va_rf x) → P4 x → Wo x := by
  intro x h _
  cases x with
  | none => exact k0
  | some q =>
    rcases (kPr_N ht).mp h with h | ⟨q2, h, h2⟩
    · cases h
    · cases h
      exact k1 q h2
theorem ka_PN {t j : Nat} {w : Value} {x0 : Option Nat} {Wo P4 : Option Nat → Prop} (hb : kPb t j = true) (hw : w = va_rf x0) (k : Wo x0) : ∀ x, P4 x → kPn t j w (va_rf x) → Wo x := by
  intro x _ h
  have e := ((kPn_pin hb).mp h).trans hw
  cases x <;> cases x0 <;> cases e <;> exact k
end KAQ
