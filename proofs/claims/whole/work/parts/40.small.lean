/-! small methods -/
def ay_w (a b : Int32) : Bool := decide (¬ a < ay_i 0 ∧ a < b)
section AmS
variable {X : Nat × (Nat → Int32)} {e gb : Nat} {M : ax_M} {o : Int64} {h : ax_H}
theorem am_71 {a b : Int32} : ax_fn 71 0 (ax_entry 71 [.int a, .int b]) [] h = some (.inl (some (.int (ay_b (ay_w a b)))), h) := by
  simp (disch := first | omega | assumption | exact ay_z1b _ | exact ay_z10 | exact ay_z11) only [ae_71, af_71_0, af_71_1, af_71_4, af_71_5, af_71_6, af_71_9, af_71_10, af_71_13, af_71_14, ay_cl_v, ay_cl_s, ay_i_add, ay_i_mul, ay_i_eq, ay_i_lt, ay_b0, ay_b1, ay_ni, ay_in, ay_nn, ay_nl, ay_ln, if_true, if_false, ↓reduceIte, Nat.reduceAdd, Nat.reduceMul, Nat.reduceEqDiff, Nat.reduceLT, Nat.not_lt_zero, Bool.true_eq_false, Bool.false_eq_true, reduceCtorEq, Nat.add_zero, Nat.zero_add]
  by_cases h1 : a < ay_i 0 <;> by_cases h2 : a < b <;> simp [h1, h2, ay_b, ay_w]
theorem am_19 {b : Nat} {a : Int32} (hb : b < 12) : ax_fn 19 0 (ax_entry 19 [.ref (ax_a 3 b), .int a]) [] (ax_hp X e gb M o) = some (.inl (some (.int (ay_b (ay_w a (M 3 b 6))))), ax_hp X e gb M o) := by
  simp (disch := first | omega | assumption | exact ay_z1b _ | exact ay_z10 | exact ay_z11) only [ae_19, af_19_0, af_19_1, af_19_2, af_19_5, af_19_8, am_71, ay_cl_v, ay_cl_s, ay_i_add, ay_i_mul, ay_i_eq, ay_i_lt, ay_b0, ay_b1, ay_ni, ay_in, ay_nn, ay_nl, ay_ln, if_true, if_false, ↓reduceIte, Nat.reduceAdd, Nat.reduceMul, Nat.reduceEqDiff, Nat.reduceLT, Nat.not_lt_zero, Bool.true_eq_false, Bool.false_eq_true, reduceCtorEq, Nat.add_zero, Nat.zero_add]
theorem am_72 {c : Bool} (he : e < 800000) : ax_fn 72 0 (ax_entry 72 [.int (ay_b c)]) [] (ax_hp X e gb M o) = if c = false then some (.inr (389 + e, 0), ax_hp X (e + 1) gb M o) else some (.inl none, ax_hp X e gb M o) := by
  simp (disch := first | omega | assumption | exact ay_z1b _ | exact ay_z10 | exact ay_z11) only [ae_72, af_72_0, af_72_1, af_72_4, af_72_14, ay_cl_v, ay_cl_s, ay_i_add, ay_i_mul, ay_i_eq, ay_i_lt, ay_b0, ay_b1, ay_ni, ay_in, ay_nn, ay_nl, ay_ln, if_true, if_false, ↓reduceIte, Nat.reduceAdd, Nat.reduceMul, Nat.reduceEqDiff, Nat.reduceLT, Nat.not_lt_zero, Bool.true_eq_false, Bool.false_eq_true, reduceCtorEq, Nat.add_zero, Nat.zero_add]
theorem am_136 {a b : Nat} (ha : a < 1000) (hb : b < 1000) : ax_fn 136 0 (ax_entry 136 [.int (ay_i a), .int (ay_i b)]) [] h = some (.inl (some (.int (ay_i (max a b)))), h) := by
  simp (disch := first | omega | assumption | exact ay_z1b _ | exact ay_z10 | exact ay_z11) only [ae_136, af_136_0, af_136_1, af_136_2, af_136_5, af_136_6, af_136_9, af_136_10, ay_cl_v, ay_cl_s, ay_i_add, ay_i_mul, ay_i_eq, ay_i_lt, ay_b0, ay_b1, ay_ni, ay_in, ay_nn, ay_nl, ay_ln, if_true, if_false, ↓reduceIte, Nat.reduceAdd, Nat.reduceMul, Nat.reduceEqDiff, Nat.reduceLT, Nat.not_lt_zero, Bool.true_eq_false, Bool.false_eq_true, reduceCtorEq, Nat.add_zero, Nat.zero_add]
  split
  · rw [Nat.max_eq_right (by omega)]
  · rw [Nat.max_eq_left (by omega)]
theorem am_21 {d : Nat} {a s : Int32} {c : Bool} (hd : d < 72) : ax_fn 21 0 (ax_entry 21 [.ref (ax_a 10 d), .int a, .int (ay_b c), .int s]) [] (ax_hp X e gb M o) = some (.inl none, ax_hp X e gb (ax_u3 (ax_u3 (ax_u3 M 10 d 0 a) 10 d 1 (ay_b c)) 10 d 2 s) o) := by
  simp (disch := first | omega | assumption | exact ay_z1b _ | exact ay_z10 | exact ay_z11) only [ae_21, af_21_0, af_21_1, af_21_2, af_21_5, af_21_6, af_21_7, af_21_10, af_21_11, af_21_12, af_21_15, ay_cl_v, ay_cl_s, ay_i_add, ay_i_mul, ay_i_eq, ay_i_lt, ay_b0, ay_b1, ay_ni, ay_in, ay_nn, ay_nl, ay_ln, if_true, if_false, ↓reduceIte, Nat.reduceAdd, Nat.reduceMul, Nat.reduceEqDiff, Nat.reduceLT, Nat.not_lt_zero, Bool.true_eq_false, Bool.false_eq_true, reduceCtorEq, Nat.add_zero, Nat.zero_add]
end AmS
