theorem kl_loop {p : Program} {l : Launch} {e : Env} {R : Room} {s : State} {m : MethodId} {args : Array Value} {below : List Frame} {meth : Method} {c : Code} {cells slots : Nat} {Q : State → Prop} {head : Nat}
    (Inv : Nat → (Nat → Nat → Value) → List Nat → (Nat → va_E) → Heap → List Loc → Array Slot → Prop) (hz : ∀ pv L f H locs ls, Inv 0 pv L f H locs ls → False)
    (hs : ∀ n, (∀ pv L f H locs ls, Inv n pv L f H locs ls → W p l e R s m args below meth c H locs cells slots Q (F0 m head ls [])) → ∀ pv L f H locs ls, Inv (n + 1) pv L f H locs ls → W p l e R s m args below meth c H locs cells slots Q (F0 m head ls [])) :
    ∀ n pv L f H locs ls, Inv n pv L f H locs ls → W p l e R s m args below meth c H locs cells slots Q (F0 m head ls []) := by
  intro n
  induction n with
  | zero => intro pv L f H locs ls h; exact (hz _ _ _ _ _ _ h).elim
  | succ n ih => exact hs n ih
