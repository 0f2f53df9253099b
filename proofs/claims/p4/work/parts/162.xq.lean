theorem kd_xq {p : Program} {l : Launch} {e : Env} {R : Room} {s : State} {m : MethodId} {args : Array Value} {below : List Frame} {meth : Method} {c : Code} {H : Heap} {locs : List Loc} {cells slots : Nat} {Q : State → Prop}
    {mc ms : Nat} {A : Nat → Prop} {a : Array Value} {pc : Nat} {ls : Array Slot} {st0 rest : List Value} {dC : Nat → ClassId} {dI : Nat → Nat → Nat} {dA : Nat → ClassId} {L : List Nat} {f : Nat → va_E} {PX : String → kS → Prop} {post : Option Nat → kS → Prop} (hr : vx_Run p l e R s m args below meth c H locs cells slots mc ms (F0 m pc ls st0) rest (va_Qq post (kR dC dI dA (va_A (va_pl L f) H.size)) (va_A (va_pl L f) H.size) a) (kX dC dI PX (va_A (va_pl L f) H.size)) (va_A (va_pl L f) H.size)) (hD : va_D A (va_pl L f)) (hS : va_S A s.heap H locs) (hA : ∀ q, s.heap.size ≤ q → A q)
    (kx : ∀ (E : String) (ce : Cell) (q9 : Addr) (u : kS) (H1 : Heap) (locs1 : List Loc), PX E u → va_P (dC, dI) vwCl (va_pl u.1 u.2) H1 → va_D A (va_pl u.1 u.2) → va_S A s.heap H1 locs1 → H1[q9]? = some ce → ce.vm = .none → s.vm.findClass E = some ce.cls → vx_W p l e R s m args below meth c H1 locs1 (cells + mc) (slots + ms) Q (F0 m pc ls rest) q9)
    (kk : ∀ (r : Option Nat) (u : kS) (H1 : Heap) (locs1 : List Loc), post r u → va_P (dC, dI) vwCl (va_pl u.1 u.2) H1 → va_D A (va_pl u.1 u.2) → va_S A s.heap H1 locs1 → W p l e R s m args below meth c H1 locs1 (cells + mc) (slots + ms) Q (F0 m (pc + 3) ls (va_rf r :: rest))) : W p l e R s m args below meth c H locs cells slots Q (F0 m pc ls st0) := by
  have hFc := kd_free hD hS hA
  intro T hT X
  rcases hr T hT X with ⟨v, st₀, t, T', L9, h0, X', hL, e1, e2, ⟨⟨r, u, hv, hp, hb⟩, hF⟩, st⟩ | ⟨q, st₀, t, T', L9, E, ce, h0, X', hL, e1, e2, ⟨u, -, hx, hF⟩, hce, hcv, hcl, st⟩
  · cases hv
    obtain ⟨k1, k2, k3⟩ := vx_keep h0 e1 hS (fun q _ h => hFc q h) hFc hL hF
    obtain ⟨hP1, hK1, hD1⟩ := hb
    rw [← e1] at hP1
    obtain ⟨t2, a1, b1⟩ := kk r u T'.heap (locs ++ L9) hp hP1 (hD1.weaken (fun _ q _ h => hFc q.1 h)) k3 T' rfl X'
    exact ⟨t2, st t2 a1, b1⟩
  · obtain ⟨k1, k2, k3⟩ := vx_keep h0 e1 hS (fun q _ h => hFc q h) hFc hL hF
    obtain ⟨g0, g1, g2⟩ := hx
    rw [← e1] at g1
    obtain ⟨t2, a1, b1⟩ := kx E ce q u T'.heap (locs ++ L9) g0 g1 (g2.weaken (fun _ q _ h => hFc q.1 h)) k3 (by rw [e1]; exact hce) hcv hcl T' rfl X'
    exact ⟨t2, st.trans a1, b1⟩
theorem kz_18 {n : Int32} (h1 : ¬ n < 1) (h2 : n ≤ 8) : ∃ j : Nat, 1 ≤ j ∧ j ≤ 8 ∧ n = nI j := by
  have h0 : ¬ n < 0 := fun h => h1 (Int32.lt_of_lt_of_le h (by decide))
  obtain ⟨j, hj, rfl⟩ := nI_of2 (M := 8) (n := 8) (by decide) h0 h2
  refine ⟨j, ?_, hj, rfl⟩
  rcases Nat.lt_or_ge j 1 with q | q
  · exact absurd (nI_lt (b := 1) q (by decide)) h1
  · exact q
