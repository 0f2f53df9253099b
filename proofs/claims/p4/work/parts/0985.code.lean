def kKn (n : Int32) (nb : Nat) : Bool := !decide (n < 0) && !decide (nI nb ≤ n)
theorem kKn_t {j nb : Nat} (h : j < nb) (hn : nb ≤ 2000000) : kKn (nI j) nb = true := by
  unfold kKn
  rw [decide_eq_false (nI_pos (by omega)), decide_eq_false (nI_ge h (by omega))]
  rfl
theorem kKn_f {n : Int32} {nb : Nat} (h : n < 0 ∨ nI nb ≤ n) : kKn n nb = false := by
  unfold kKn
  rcases h with h | h
  · rw [decide_eq_true h]; rfl
  · rw [decide_eq_true h, Bool.not_true, Bool.and_false]
def kc_lean (n : Int32) (nb : Nat) (a b c : UInt32) : Int32 := if kKn n nb = true then (if (kz_fin a 3229614080 1082130432 && (kz_fin b 3229614080 1082130432 && kz_fin c 3229614080 1082130432)) = true then 0 else 2) else 1
def kc_set (n : Int32) (nb : Nat) (a b c d e f : UInt32) : Int32 := if kKn n nb = true then (if (kz_any a b c 1149239296 && kz_any d e f 1149239296) = true then 0 else 2) else 1
def kc_body2 (nb : Nat) (a b c d : UInt32) : Int32 := if (kz_fin a FP.fconst0 1098907648 && (kz_fin b FP.fconst0 1098907648 && (kz_fin c FP.fconst0 1098907648 && kz_fin d FP.fconst0 1098907648))) = true then (if decide (nb < 256) = true then 0 else 2) else 1
theorem kf_neg1024 : FP.fneg 1149239296 = 3296722944 := by decide +kernel
def kPairOk (n k : Int32) (nb : Nat) : Bool := kKn n nb && ((decide (k = -1) || kKn k nb) && !decide (n = k))
theorem kPk_f1 {n k : Int32} {nb : Nat} (h : kKn n nb = false) : kPairOk n k nb = false := by
  unfold kPairOk
  rw [h]
  rfl
theorem kPk_f2 {n k : Int32} {nb : Nat} (h : ¬ k = -1) (h2 : kKn k nb = false) : kPairOk n k nb = false := by
  unfold kPairOk
  rw [h2, decide_eq_false h]
  simp
theorem kPk_f3 {n k : Int32} {nb : Nat} (h : n = k) : kPairOk n k nb = false := by
  unfold kPairOk
  rw [decide_eq_true h]
  simp
theorem kPk_t {n k : Int32} {nb : Nat} (h1 : kKn n nb = true) (h2 : k = -1 ∨ kKn k nb = true) (h3 : ¬ n = k) : kPairOk n k nb = true := by
  unfold kPairOk
  rw [h1, decide_eq_false h3]
  rcases h2 with h2 | h2
  · rw [decide_eq_true h2]; rfl
  · rw [h2]; simp
def kFitRow (a b c d : UInt32) : Bool := kz_fin a 3296722944 1149239296 && (kz_fin b FP.fconst0 1115684864 && (kz_fin c 3347054592 1199570944 && (kz_fin d 3347054592 1199570944 && !decide (0 < Op.cmpValue (FP.fcmp c d) .l))))
def kFitRub (a b : UInt32) : Bool := kz_fin a 3296722944 1149239296 && kz_fin b FP.fconst0 1090519040
def kc_row (n k : Int32) (nb nr : Nat) (a b c d : UInt32) : Int32 := if kPairOk n k nb = true then (if kFitRow a b c d = true then (if decide (nr < 1024) = true then 0 else 3) else 2) else 1
def kc_rub (n k : Int32) (nb nr : Nat) (a : UInt32) (at9 : Int32) (b : UInt32) (g : Bool) : Int32 := if (kPairOk n k nb && kKn at9 nr) = true then (if (kFitRub a b && g) = true then (if decide (nr < 1024) = true then 0 else 3) else 2) else 1
theorem kf_lg {x y : UInt32} {A B : Nat} (ha : fb A x) (hb : fb B y) (hA : A < 2139095040) (hB : B < 2139095040) : Op.cmpValue (FP.fcmp x y) .g = Op.cmpValue (FP.fcmp x y) .l := by
  rw [kf_cmp ha hb hA hB]
  generalize compare (Jvm.FP.Core.zval Jvm.FP.Core.b32 (Jvm.FP.Core.val32 x)) (Jvm.FP.Core.zval Jvm.FP.Core.b32 (Jvm.FP.Core.val32 y)) = o
  cases o <;> rfl
