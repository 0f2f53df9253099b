def kKn (n : Int32) (nb : Nat) : Bool := !decide (n < 0) && !decide (nI nb ≤ n)
theorem kKn_t {j nb : Nat} (h : j < nb) (hn : nb ≤ 2000000) : kKn (nI j) nb = true := by
  unfold kKn
  rw [decide_eq_false (nI_pos (by omega)), decide_eq_false (nI_ge h (by omega))]
  rfl
theorem kKn_f {n : Int32} {nb : Nat} (h : n < 0 ∨ nI nb ≤ n) : kKn n nb = false := by
  unfold kKn
  rcases h with h | h
  · rw [decide_eq_true h]; rfl
  · rw [decide_eq_true h, Bool.not_true, Bool.and_false]
def kc_lean (n : Int32) (nb : Nat) (a b c : UInt32) : Int32 := if kKn n nb = true then (if (kz_fin a 3229614080 1082130432 && (kz_fin b 3229614080 1082130432 && kz_fin c 3229614080 1082130432)) = true then 0 else 2) else 1
def kc_set (n : Int32) (nb : Nat) (a b c d e f : UInt32) : Int32 := if kKn n nb = true then (if (kz_any a b c 1149239296 && kz_any d e f 1149239296) = true then 0 else 2) else 1
def kc_body2 (nb : Nat) (a b c d : UInt32) : Int32 := if (kz_fin a FP.fconst0 1098907648 && (kz_fin b FP.fconst0 1098907648 && (kz_fin c FP.fconst0 1098907648 && kz_fin d FP.fconst0 1098907648))) = true then (if decide (nb < 256) = true then 0 else 2) else 1
theorem kf_neg1024 : FP.fneg 1149239296 = 3296722944 := by decide +kernel
def kinc (c : Int32) (n : Nat) : Nat := if c = 0 then n + 1 else n
theorem kinc_0 {c : Int32} {n : Nat} (h : c = 0) : kinc c n = n + 1 := if_pos h
theorem kinc_1 {c : Int32} {n : Nat} (h : c ≠ 0) : kinc c n = n := if_neg h
