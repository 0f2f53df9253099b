abbrev kS : Type := List Nat × (Nat → va_E)
def kB (dC : Nat → ClassId) (dI : Nat → Nat → Nat) (dA : Nat → ClassId) (ad sz : Nat) (L : List Nat) (f : Nat → va_E) : State → Prop := kc_B (dC, dI) vwCl ad sz (va_pl L f) (tyA dA)
def kR (dC : Nat → ClassId) (dI : Nat → Nat → Nat) (dA : Nat → ClassId) (A : Nat → Prop) : kS → State → Prop := kc_R (S := kS) (dC, dI) vwCl A (fun u => va_pl u.1 u.2) (fun _ => tyA dA)
def kX (dC : Nat → ClassId) (dI : Nat → Nat → Nat) (PX : String → kS → Prop) (A : Nat → Prop) : String → State → State → Prop := vx_X (S := kS) (fun _ => True) (fun E u t => PX E u ∧ va_P (dC, dI) vwCl (va_pl u.1 u.2) t.heap ∧ va_D A (va_pl u.1 u.2)) A
section KDC
variable {p : Program} {l : Launch} {e : Env} {R : Room} {s : State} {m : MethodId} {args : Array Value} {below : List Frame} {meth : Method} {c : Code} {H : Heap} {locs : List Loc} {cells slots : Nat} {Q : State → Prop}
variable {mc ms : Nat} {A : Nat → Prop} {a : Array Value} {pc : Nat} {ls : Array Slot} {st0 rest : List Value} {dC : Nat → ClassId} {dI : Nat → Nat → Nat} {dA : Nat → ClassId} {ad : Nat} {L : List Nat} {f : Nat → va_E} {τ : Nat → Nat → Nat} {pv : Nat → Nat → Value}
theorem kd_free {ws : va_W} {H0 : Heap} (hD : va_D A ws) (hS : va_S A H0 H locs) (hA : ∀ q, H0.size ≤ q → A q) : ∀ q, va_A ws H.size q → A q := by
  intro q h
  rcases h with ⟨k, e, h⟩ | h
  · exact hD.2 k (q, e) h
  · exact hA q (Nat.le_trans hS.1 h)
theorem kd_U (hP : va_P (dC, dI) vwCl (va_pl L f) H) (hD : va_D A (va_pl L f)) (hK : va_K (dC, dI) vwCl (tyA dA) s) (hS : va_S A s.heap H locs) (hA : ∀ q, s.heap.size ≤ q → A q) (hE : kx_E ad A s s.heap) : ∀ U : State, U.heap = H → s.WarmedH U.vm → kB dC dI dA ad H.size L f U := by
  intro U hU hW
  exact ⟨by rw [hU], by rw [hU]; exact hP, va_K.moved hW.alike hK, hD.weaken (fun _ _ _ _ => trivial), by rw [hU]; exact kx_E.go hW ((hE.kept hS.2.1).narrow (kd_free hD hS hA))⟩
theorem kd_preS {As : List Value} (hP : va_P (dC, dI) vwCl (va_pl L f) H) (hD : va_D A (va_pl L f)) (hK : va_K (dC, dI) vwCl (tyA dA) s) (hS : va_S A s.heap H locs) (hA : ∀ q, s.heap.size ≤ q → A q) (hE : kx_E ad A s s.heap) : PreS s H (va_Pc As (kB dC dI dA ad H.size L f)) As := ⟨kc_blind, fun U hU hW => ⟨rfl, kd_U hP hD hK hS hA hE U hU hW⟩⟩
theorem kd_preV {As : List Value} {b ci t : Nat} {C : String} {T : u_T} {N : Nat} (hP : va_P (dC, dI) vwCl (va_pl L f) H) (hD : va_D A (va_pl L f)) (hK : va_K (dC, dI) vwCl (tyA dA) s) (hS : va_S A s.heap H locs) (hA : ∀ q, s.heap.size ≤ q → A q) (hE : kx_E ad A s s.heap) (hI : kI dA τ pv L f) (ha : τ 0 b = t) (hci : kCi t = some ci) (hc : vwCl[ci]? = some (C, T, N)) : PreV s H C b (va_Pc (.ref b :: As) (kB dC dI dA ad H.size L f)) As := ⟨kc_blind, kd_recv hK hP hI ha hci hc, fun U hU hW => ⟨rfl, kd_U hP hD hK hS hA hE U hU hW⟩⟩

theorem kd_calli {post : Int32 → kS → Prop} (hr : va_Run p l e R s m args below meth c H locs cells slots mc ms (F0 m pc ls st0) rest (va_Qi post (kR dC dI dA (va_A (va_pl L f) H.size)) (va_A (va_pl L f) H.size) a) (va_A (va_pl L f) H.size)) (hD : va_D A (va_pl L f)) (hS : va_S A s.heap H locs) (hA : ∀ q, s.heap.size ≤ q → A q)
    (kk : ∀ (r : Int32) (u : kS) (H1 : Heap) (locs1 : List Loc), post r u → va_P (dC, dI) vwCl (va_pl u.1 u.2) H1 → va_D A (va_pl u.1 u.2) → va_S A s.heap H1 locs1 → W p l e R s m args below meth c H1 locs1 (cells + mc) (slots + ms) Q (F0 m (pc + 3) ls (.int r :: rest))) : W p l e R s m args below meth c H locs cells slots Q (F0 m pc ls st0) := by
  have hFc := kd_free hD hS hA
  refine va_calli hr hS (fun q _ h => hFc q h) hFc (fun r u t H1 locs1 ht hvm hw hB hz1 hk1 hS1 => ?_)
  obtain ⟨hP1, hK1, hD1⟩ := hB
  rw [ht] at hP1
  exact kk r u H1 locs1 hw hP1 (hD1.weaken (fun _ q _ h => hFc q.1 h)) hS1

theorem kd_callf {post : UInt32 → kS → Prop} (hr : va_Run p l e R s m args below meth c H locs cells slots mc ms (F0 m pc ls st0) rest (va_Qf post (kR dC dI dA (va_A (va_pl L f) H.size)) (va_A (va_pl L f) H.size) a) (va_A (va_pl L f) H.size)) (hD : va_D A (va_pl L f)) (hS : va_S A s.heap H locs) (hA : ∀ q, s.heap.size ≤ q → A q)
    (kk : ∀ (r : UInt32) (u : kS) (H1 : Heap) (locs1 : List Loc), post r u → va_P (dC, dI) vwCl (va_pl u.1 u.2) H1 → va_D A (va_pl u.1 u.2) → va_S A s.heap H1 locs1 → W p l e R s m args below meth c H1 locs1 (cells + mc) (slots + ms) Q (F0 m (pc + 3) ls (.float r :: rest))) : W p l e R s m args below meth c H locs cells slots Q (F0 m pc ls st0) := by
  have hFc := kd_free hD hS hA
  refine va_callf hr hS (fun q _ h => hFc q h) hFc (fun r u t H1 locs1 ht hvm hw hB hz1 hk1 hS1 => ?_)
  obtain ⟨hP1, hK1, hD1⟩ := hB
  rw [ht] at hP1
  exact kk r u H1 locs1 hw hP1 (hD1.weaken (fun _ q _ h => hFc q.1 h)) hS1

theorem kd_callv {post : kS → Prop} (hr : va_Run p l e R s m args below meth c H locs cells slots mc ms (F0 m pc ls st0) rest (va_Qv post (kR dC dI dA (va_A (va_pl L f) H.size)) (va_A (va_pl L f) H.size) a) (va_A (va_pl L f) H.size)) (hD : va_D A (va_pl L f)) (hS : va_S A s.heap H locs) (hA : ∀ q, s.heap.size ≤ q → A q)
    (kk : ∀ (u : kS) (H1 : Heap) (locs1 : List Loc), post u → va_P (dC, dI) vwCl (va_pl u.1 u.2) H1 → va_D A (va_pl u.1 u.2) → va_S A s.heap H1 locs1 → W p l e R s m args below meth c H1 locs1 (cells + mc) (slots + ms) Q (F0 m (pc + 3) ls (rest))) : W p l e R s m args below meth c H locs cells slots Q (F0 m pc ls st0) := by
  have hFc := kd_free hD hS hA
  refine va_callv hr hS (fun q _ h => hFc q h) hFc (fun u t H1 locs1 ht hvm hw hB hz1 hk1 hS1 => ?_)
  obtain ⟨hP1, hK1, hD1⟩ := hB
  rw [ht] at hP1
  exact kk u H1 locs1 hw hP1 (hD1.weaken (fun _ q _ h => hFc q.1 h)) hS1

theorem kd_callq {post : Option Nat → kS → Prop} (hr : va_Run p l e R s m args below meth c H locs cells slots mc ms (F0 m pc ls st0) rest (va_Qq post (kR dC dI dA (va_A (va_pl L f) H.size)) (va_A (va_pl L f) H.size) a) (va_A (va_pl L f) H.size)) (hD : va_D A (va_pl L f)) (hS : va_S A s.heap H locs) (hA : ∀ q, s.heap.size ≤ q → A q)
    (kk : ∀ (r : Option Nat) (u : kS) (H1 : Heap) (locs1 : List Loc), post r u → va_P (dC, dI) vwCl (va_pl u.1 u.2) H1 → va_D A (va_pl u.1 u.2) → va_S A s.heap H1 locs1 → W p l e R s m args below meth c H1 locs1 (cells + mc) (slots + ms) Q (F0 m (pc + 3) ls (va_rf r :: rest))) : W p l e R s m args below meth c H locs cells slots Q (F0 m pc ls st0) := by
  have hFc := kd_free hD hS hA
  refine va_callq hr hS (fun q _ h => hFc q h) hFc (fun r u t H1 locs1 ht hvm hw hB hz1 hk1 hS1 => ?_)
  obtain ⟨hP1, hK1, hD1⟩ := hB
  rw [ht] at hP1
  exact kk r u H1 locs1 hw hP1 (hD1.weaken (fun _ q _ h => hFc q.1 h)) hS1

theorem kd_xi {PX : String → kS → Prop} {post : Int32 → kS → Prop} (hr : vx_Run p l e R s m args below meth c H locs cells slots mc ms (F0 m pc ls st0) rest (va_Qi post (kR dC dI dA (va_A (va_pl L f) H.size)) (va_A (va_pl L f) H.size) a) (kX dC dI PX (va_A (va_pl L f) H.size)) (va_A (va_pl L f) H.size)) (hD : va_D A (va_pl L f)) (hS : va_S A s.heap H locs) (hA : ∀ q, s.heap.size ≤ q → A q)
    (kx : ∀ (E : String) (ce : Cell) (q9 : Addr) (u : kS) (H1 : Heap) (locs1 : List Loc), PX E u → va_P (dC, dI) vwCl (va_pl u.1 u.2) H1 → va_D A (va_pl u.1 u.2) → va_S A s.heap H1 locs1 → H1[q9]? = some ce → ce.vm = .none → s.vm.findClass E = some ce.cls → vx_W p l e R s m args below meth c H1 locs1 (cells + mc) (slots + ms) Q (F0 m pc ls rest) q9)
    (kk : ∀ (r : Int32) (u : kS) (H1 : Heap) (locs1 : List Loc), post r u → va_P (dC, dI) vwCl (va_pl u.1 u.2) H1 → va_D A (va_pl u.1 u.2) → va_S A s.heap H1 locs1 → W p l e R s m args below meth c H1 locs1 (cells + mc) (slots + ms) Q (F0 m (pc + 3) ls (.int r :: rest))) : W p l e R s m args below meth c H locs cells slots Q (F0 m pc ls st0) := by
  have hFc := kd_free hD hS hA
  refine vx_calli hr hS (fun q _ h => hFc q h) hFc (fun q _ h => hFc q h) (fun E ce q9 u t H1 locs1 ht hvm _ hx hz1 hk1 hS1 h1 h2 h3 => ?_) (fun r u t H1 locs1 ht hvm hw hB hz1 hk1 hS1 => ?_)
  · obtain ⟨g0, g1, g2⟩ := hx
    rw [ht] at g1
    exact kx E ce q9 u H1 locs1 g0 g1 (g2.weaken (fun _ q _ h => hFc q.1 h)) hS1 h1 h2 h3
  · obtain ⟨hP1, hK1, hD1⟩ := hB
    rw [ht] at hP1
    exact kk r u H1 locs1 hw hP1 (hD1.weaken (fun _ q _ h => hFc q.1 h)) hS1

theorem kd_xf {PX : String → kS → Prop} {post : UInt32 → kS → Prop} (hr : vx_Run p l e R s m args below meth c H locs cells slots mc ms (F0 m pc ls st0) rest (va_Qf post (kR dC dI dA (va_A (va_pl L f) H.size)) (va_A (va_pl L f) H.size) a) (kX dC dI PX (va_A (va_pl L f) H.size)) (va_A (va_pl L f) H.size)) (hD : va_D A (va_pl L f)) (hS : va_S A s.heap H locs) (hA : ∀ q, s.heap.size ≤ q → A q)
    (kx : ∀ (E : String) (ce : Cell) (q9 : Addr) (u : kS) (H1 : Heap) (locs1 : List Loc), PX E u → va_P (dC, dI) vwCl (va_pl u.1 u.2) H1 → va_D A (va_pl u.1 u.2) → va_S A s.heap H1 locs1 → H1[q9]? = some ce → ce.vm = .none → s.vm.findClass E = some ce.cls → vx_W p l e R s m args below meth c H1 locs1 (cells + mc) (slots + ms) Q (F0 m pc ls rest) q9)
    (kk : ∀ (r : UInt32) (u : kS) (H1 : Heap) (locs1 : List Loc), post r u → va_P (dC, dI) vwCl (va_pl u.1 u.2) H1 → va_D A (va_pl u.1 u.2) → va_S A s.heap H1 locs1 → W p l e R s m args below meth c H1 locs1 (cells + mc) (slots + ms) Q (F0 m (pc + 3) ls (.float r :: rest))) : W p l e R s m args below meth c H locs cells slots Q (F0 m pc ls st0) := by
  have hFc := kd_free hD hS hA
  refine vx_callf hr hS (fun q _ h => hFc q h) hFc (fun q _ h => hFc q h) (fun E ce q9 u t H1 locs1 ht hvm _ hx hz1 hk1 hS1 h1 h2 h3 => ?_) (fun r u t H1 locs1 ht hvm hw hB hz1 hk1 hS1 => ?_)
  · obtain ⟨g0, g1, g2⟩ := hx
    rw [ht] at g1
    exact kx E ce q9 u H1 locs1 g0 g1 (g2.weaken (fun _ q _ h => hFc q.1 h)) hS1 h1 h2 h3
  · obtain ⟨hP1, hK1, hD1⟩ := hB
    rw [ht] at hP1
    exact kk r u H1 locs1 hw hP1 (hD1.weaken (fun _ q _ h => hFc q.1 h)) hS1

theorem kd_xv {PX : String → kS → Prop} {post : kS → Prop} (hr : vx_Run p l e R s m args below meth c H locs cells slots mc ms (F0 m pc ls st0) rest (va_Qv post (kR dC dI dA (va_A (va_pl L f) H.size)) (va_A (va_pl L f) H.size) a) (kX dC dI PX (va_A (va_pl L f) H.size)) (va_A (va_pl L f) H.size)) (hD : va_D A (va_pl L f)) (hS : va_S A s.heap H locs) (hA : ∀ q, s.heap.size ≤ q → A q)
    (kx : ∀ (E : String) (ce : Cell) (q9 : Addr) (u : kS) (H1 : Heap) (locs1 : List Loc), PX E u → va_P (dC, dI) vwCl (va_pl u.1 u.2) H1 → va_D A (va_pl u.1 u.2) → va_S A s.heap H1 locs1 → H1[q9]? = some ce → ce.vm = .none → s.vm.findClass E = some ce.cls → vx_W p l e R s m args below meth c H1 locs1 (cells + mc) (slots + ms) Q (F0 m pc ls rest) q9)
    (kk : ∀ (u : kS) (H1 : Heap) (locs1 : List Loc), post u → va_P (dC, dI) vwCl (va_pl u.1 u.2) H1 → va_D A (va_pl u.1 u.2) → va_S A s.heap H1 locs1 → W p l e R s m args below meth c H1 locs1 (cells + mc) (slots + ms) Q (F0 m (pc + 3) ls (rest))) : W p l e R s m args below meth c H locs cells slots Q (F0 m pc ls st0) := by
  have hFc := kd_free hD hS hA
  refine vx_callv hr hS (fun q _ h => hFc q h) hFc (fun q _ h => hFc q h) (fun E ce q9 u t H1 locs1 ht hvm _ hx hz1 hk1 hS1 h1 h2 h3 => ?_) (fun u t H1 locs1 ht hvm hw hB hz1 hk1 hS1 => ?_)
  · obtain ⟨g0, g1, g2⟩ := hx
    rw [ht] at g1
    exact kx E ce q9 u H1 locs1 g0 g1 (g2.weaken (fun _ q _ h => hFc q.1 h)) hS1 h1 h2 h3
  · obtain ⟨hP1, hK1, hD1⟩ := hB
    rw [ht] at hP1
    exact kk u H1 locs1 hw hP1 (hD1.weaken (fun _ q _ h => hFc q.1 h)) hS1

theorem kd_xn {PX : String → kS → Prop} {Qa : State → Outcome → State → Prop} (hr : vx_Run p l e R s m args below meth c H locs cells slots mc ms (F0 m pc ls st0) rest Qa (kX dC dI PX (va_A (va_pl L f) H.size)) (va_A (va_pl L f) H.size)) (hno : ∀ st o t, Qa st o t → False) (hD : va_D A (va_pl L f)) (hS : va_S A s.heap H locs) (hA : ∀ q, s.heap.size ≤ q → A q)
    (kx : ∀ (E : String) (ce : Cell) (q9 : Addr) (u : kS) (H1 : Heap) (locs1 : List Loc), PX E u → va_P (dC, dI) vwCl (va_pl u.1 u.2) H1 → va_D A (va_pl u.1 u.2) → va_S A s.heap H1 locs1 → H1[q9]? = some ce → ce.vm = .none → s.vm.findClass E = some ce.cls → vx_W p l e R s m args below meth c H1 locs1 (cells + mc) (slots + ms) Q (F0 m pc ls rest) q9) : W p l e R s m args below meth c H locs cells slots Q (F0 m pc ls st0) := by
  have hFc := kd_free hD hS hA
  intro T hT X
  rcases hr T hT X with ⟨v, st₀, t, T', L9, h0, X', hL, e1, e2, hq, st⟩ | ⟨q, st₀, t, T', L9, E, ce, h0, X', hL, e1, e2, ⟨u, -, hx, hF⟩, hce, hcv, hcl, st⟩
  · exact (hno _ _ _ hq).elim
  · obtain ⟨k1, k2, k3⟩ := vx_keep h0 e1 hS (fun q _ h => hFc q h) hFc hL hF
    obtain ⟨g0, g1, g2⟩ := hx
    rw [← e1] at g1
    obtain ⟨t2, a1, b1⟩ := kx E ce q u T'.heap (locs ++ L9) g0 g1 (g2.weaken (fun _ q _ h => hFc q.1 h)) k3 (by rw [e1]; exact hce) hcv hcl T' rfl X'
    exact ⟨t2, st.trans a1, b1⟩
end KDC
section KWF
variable {p : Program} {l : Launch} {e : Env} {R : Room} {s : State} {m : MethodId} {args : Array Value} {below : List Frame} {meth : Method} {c : Code} {H : Heap} {locs : List Loc} {cells slots : Nat} {Q : State → Prop}
variable {cc : ByteArray} {pc : Nat} {ls : Array Slot} {rest : List Value} {x y : UInt32} {A B M : Nat}
theorem kw_fadd (hexec : p.tables.exec = Jvm.exec) (hb : c.code = cc) (hdg : decode cc pc = .ok (.fadd, 1)) (hx : fb A x) (hy : fb B y) (hA : A < 2139095040) (hB : B < 2139095040) (h : Jvm.FP.Core.unitsOf Jvm.FP.Core.b32 A + Jvm.FP.Core.unitsOf Jvm.FP.Core.b32 B ≤ Jvm.FP.Core.unitsOf Jvm.FP.Core.b32 M) (hM : M ≤ 2139095040) (kk : ∀ z, fb M z → W p l e R s m args below meth c H locs cells slots Q (F0 m (pc + 1) ls (.float z :: rest))) : W p l e R s m args below meth c H locs cells slots Q (F0 m pc ls (.float y :: .float x :: rest)) := lv_fadd hexec hb hdg (fb_n (fb_add hx hy hA hB h) hM) (kk _ (fb_add hx hy hA hB h))
theorem kw_fsub (hexec : p.tables.exec = Jvm.exec) (hb : c.code = cc) (hdg : decode cc pc = .ok (.fsub, 1)) (hx : fb A x) (hy : fb B y) (hA : A < 2139095040) (hB : B < 2139095040) (h : Jvm.FP.Core.unitsOf Jvm.FP.Core.b32 A + Jvm.FP.Core.unitsOf Jvm.FP.Core.b32 B ≤ Jvm.FP.Core.unitsOf Jvm.FP.Core.b32 M) (hM : M ≤ 2139095040) (kk : ∀ z, fb M z → W p l e R s m args below meth c H locs cells slots Q (F0 m (pc + 1) ls (.float z :: rest))) : W p l e R s m args below meth c H locs cells slots Q (F0 m pc ls (.float y :: .float x :: rest)) := lv_fsub hexec hb hdg (fb_n (fb_sub hx hy hA hB h) hM) (kk _ (fb_sub hx hy hA hB h))
theorem kw_fmul (hexec : p.tables.exec = Jvm.exec) (hb : c.code = cc) (hdg : decode cc pc = .ok (.fmul, 1)) (hx : fb A x) (hy : fb B y) (hA : A < 2139095040) (hB : B < 2139095040) (h : Jvm.FP.Core.unitsOf Jvm.FP.Core.b32 A * Jvm.FP.Core.unitsOf Jvm.FP.Core.b32 B ≤ Jvm.FP.Core.unitsOf Jvm.FP.Core.b32 M * 2 ^ 149) (hM : M ≤ 2139095040) (kk : ∀ z, fb M z → W p l e R s m args below meth c H locs cells slots Q (F0 m (pc + 1) ls (.float z :: rest))) : W p l e R s m args below meth c H locs cells slots Q (F0 m pc ls (.float y :: .float x :: rest)) := lv_fmul hexec hb hdg (fb_n (fb_mul hx hy hA hB h) hM) (kk _ (fb_mul hx hy hA hB h))
theorem kw_satA (hexec : p.tables.exec = Jvm.exec) (hb : c.code = cc) (hdg : decode cc pc = .ok (.fadd, 1)) (hx : fb M x) (hy : fb B y) (hM : M + 1 < 2139095040) (hB : B < 2139095040) (h : 2 * (Jvm.FP.Core.unitsOf Jvm.FP.Core.b32 M + Jvm.FP.Core.unitsOf Jvm.FP.Core.b32 B) < Jvm.FP.Core.unitsOf Jvm.FP.Core.b32 M + Jvm.FP.Core.unitsOf Jvm.FP.Core.b32 (M + 1)) (kk : ∀ z, fb M z → W p l e R s m args below meth c H locs cells slots Q (F0 m (pc + 1) ls (.float z :: rest))) : W p l e R s m args below meth c H locs cells slots Q (F0 m pc ls (.float y :: .float x :: rest)) := lv_fadd hexec hb hdg (fb_n (fb_satA hx hy hM hB h) (by omega)) (kk _ (fb_satA hx hy hM hB h))
theorem kw_satS (hexec : p.tables.exec = Jvm.exec) (hb : c.code = cc) (hdg : decode cc pc = .ok (.fsub, 1)) (hx : fb M x) (hy : fb B y) (hM : M + 1 < 2139095040) (hB : B < 2139095040) (h : 2 * (Jvm.FP.Core.unitsOf Jvm.FP.Core.b32 M + Jvm.FP.Core.unitsOf Jvm.FP.Core.b32 B) < Jvm.FP.Core.unitsOf Jvm.FP.Core.b32 M + Jvm.FP.Core.unitsOf Jvm.FP.Core.b32 (M + 1)) (kk : ∀ z, fb M z → W p l e R s m args below meth c H locs cells slots Q (F0 m (pc + 1) ls (.float z :: rest))) : W p l e R s m args below meth c H locs cells slots Q (F0 m pc ls (.float y :: .float x :: rest)) := lv_fsub hexec hb hdg (fb_n (fb_satS hx hy hM hB h) (by omega)) (kk _ (fb_satS hx hy hM hB h))
theorem kw_fdiv {K Lb : Nat} (hexec : p.tables.exec = Jvm.exec) (hb : c.code = cc) (hdg : decode cc pc = .ok (.fdiv, 1)) (hx : fb A x) (hy : fb B y) (hl : Lb * 2 ^ 23 ≤ y.toNat % 2 ^ 31) (hA : A < K * 2 ^ 23) (hB : B < 2139095040) (hK : K ≤ 255) (hL : 1 ≤ Lb) (h : (K + 125 - Lb + 3) * 2 ^ 23 ≤ M) (hM : M ≤ 2139095040) (kk : ∀ z, fb M z → W p l e R s m args below meth c H locs cells slots Q (F0 m (pc + 1) ls (.float z :: rest))) : W p l e R s m args below meth c H locs cells slots Q (F0 m pc ls (.float y :: .float x :: rest)) := lv_fdiv hexec hb hdg (fb_n (fb_div hx hy hl hA hB hK hL h) hM) (kk _ (fb_div hx hy hl hA hB hK hL h))
theorem kw_fneg (hexec : p.tables.exec = Jvm.exec) (hb : c.code = cc) (hdg : decode cc pc = .ok (.fneg, 1)) (hx : fb M x) (kk : ∀ z, fb M z → W p l e R s m args below meth c H locs cells slots Q (F0 m (pc + 1) ls (.float z :: rest))) : W p l e R s m args below meth c H locs cells slots Q (F0 m pc ls (.float x :: rest)) := lv_fneg hexec hb hdg (kk _ (fb_neg hx))
end KWF
theorem kn_of {x : Int32} {n : Nat} (h0 : ¬ x < 0) (h1 : x < nI n) (hn : n < 2 ^ 31) : ∃ j : Nat, j < n ∧ x = nI j := by
  obtain ⟨j, hj, rfl⟩ := nI_of h0
  exact ⟨j, (nI_ltI hj hn).mp h1, rfl⟩
theorem kn_rg {x : Int32} {n : Nat} (h0 : 0 ≤ x.toInt) (h1 : x.toInt < n) (hn : n < 2 ^ 31) : ∃ j : Nat, j < n ∧ x = nI j := vp_in_of (vp_in_iff.mpr ⟨h0, h1⟩) hn
