/-! THE REFERENCE'S GUARD: small methods, meet, come -/
theorem ay_ite_st {c : Prop} {d : Decidable c} {k pc : Nat} {ls : ax_L} {a b : Int32} {st : List Value} {h : ax_H} : (if c then ax_fn k pc ls (.int a :: st) h else ax_fn k pc ls (.int b :: st) h) = ax_fn k pc ls (.int (if c then a else b) :: st) h := by split <;> rfl
theorem ay_ite_ls {c : Prop} {d : Decidable c} {r : ax_H} {a b : Int32} : (if c then some (.inl (some (.int a)), r) else some (.inl (some (.int b)), r) : Option (ax_O × ax_H)) = some (.inl (some (.int (if c then a else b))), r) := by split <;> rfl
theorem ay_ba {c : Prop} {d : Decidable c} : (if c then ay_i 1 else ay_i 0) = ay_b (decide c) := by by_cases h : c <;> simp [h, ay_b]
theorem ay_bb {c : Prop} {d : Decidable c} : (if c then ay_i 0 else ay_i 1) = ay_b (!decide c) := by by_cases h : c <;> simp [h, ay_b]
theorem ay_bc {c : Prop} {d : Decidable c} {x : Bool} : (if c then ay_i 1 else ay_b x) = ay_b (decide c || x) := by by_cases h : c <;> simp [h, ay_b]
theorem ay_bg {c : Prop} {d : Decidable c} {x : Bool} : (if c then ay_i 0 else ay_b x) = ay_b (!decide c && x) := by by_cases h : c <;> simp [h, ay_b]
theorem ay_be {c : Prop} {d : Decidable c} {x : Bool} : (if c then ay_b x else ay_i 0) = ay_b (decide c && x) := by by_cases h : c <;> simp [h, ay_b]
theorem ay_bh {c : Prop} {d : Decidable c} {x : Bool} : (if c then ay_b x else ay_i 1) = ay_b (!decide c || x) := by by_cases h : c <;> simp [h, ay_b]
theorem ay_bi {c : Prop} {d : Decidable c} {x y : Bool} : (if c then ay_b x else ay_b y) = ay_b (if c then x else y) := by by_cases h : c <;> simp [h]
def ag_tp (M : ax_M) (a : Nat) : ag_L := ag_nl (M 46 0 a) (M 47 0 a) (M 48 0 a)
def ag_tn (M : ax_M) (l : Nat) : ag_L := ag_nl (M 52 0 l) (M 53 0 l) (M 54 0 l)
def ag_nv (M : ax_M) : ag_S := (fun l => if l < 8 then ag_tn M l else ag_z, M 24 0 25)
def ag_vp (M : ax_M) (p : Nat) : ag_S := (fun l => if l < 8 then ag_tp M (8 * p + l) else ag_z, M 49 0 p)
def ag_vm (M : ax_M) (n : Nat) : ag_T := fun p => if p < n ∧ M 45 0 p = ay_i 1 then some (ag_vp M p) else none
def ag_rm (M : ax_M) (n : Nat) (G : ag_T × Prop) : Prop := ag_vm M n = G.1 ∧ (∀ p, p < n → ∃ r : Bool, M 45 0 p = ay_b r) ∧ ∃ c : Bool, M 24 0 21 = ay_b c ∧ (c = true ↔ G.2)
def ag_fm (M M' : ax_M) : Prop := ∀ f i j, ¬ (45 ≤ f ∧ f ≤ 54) → ¬ (f = 24 ∧ (j = 20 ∨ j = 21 ∨ j = 25)) → M' f i j = M f i j
section AmM
variable {X : Nat × (Nat → Int32)} {e gb : Nat} {M P : ax_M} {o : Int64} {h : ax_H}
theorem am_111 {l : Nat} (hl : l < 8) : ax_fn 111 0 (ax_entry 111 [.ref (ax_a 24 0), .int (ay_i l)]) [] (ax_hp X e gb M o) = some (.inl (some (.int (ay_b (decide (¬ M 52 0 l = ay_n 2))))), ax_hp X e gb M o) := by
  simp (disch := first | omega | assumption | exact ay_z1b _ | exact ay_z10 | exact ay_z11) only [ae_111, af_111_0, af_111_1, af_111_4, af_111_5, af_111_6, af_111_8, af_111_11, af_111_12, af_111_15, af_111_16, ay_cl_v, ay_cl_s, ay_i_add, ay_i_mul, ay_i_eq, ay_i_lt, ay_b0, ay_b1, ay_ni, ay_in, ay_nn, ay_nl, ay_ln, if_true, if_false, ↓reduceIte, Nat.reduceAdd, Nat.reduceMul, Nat.reduceEqDiff, Nat.reduceLT, Nat.not_lt_zero, Bool.true_eq_false, Bool.false_eq_true, reduceCtorEq, Nat.add_zero, Nat.zero_add]
  by_cases h1 : M 52 0 l = ay_n 2 <;> simp [h1, ay_b]
/-- what meet makes of place-slot a and now's local l -/
def ag_mn (M : ax_M) (a l : Nat) (ch : Bool) : ax_M := if M 46 0 a = ay_n 2 then M else
  ax_u3 (ax_u3 (ax_u3 (ax_u3 M 24 0 21 (ay_b (ch || decide (ag_jl (ag_tp M a) (ag_tn M l) ≠ ag_tp M a)))) 46 0 a (ag_cc (M 46 0 a) (M 52 0 l))) 47 0 a (ag_jn (M 47 0 a) (M 53 0 l))) 48 0 a (ag_js (M 48 0 a) (M 54 0 l))
theorem am_108 {a l : Nat} {ch : Bool} (ha : a < 320) (hl : l < 8) (hc : M 24 0 21 = ay_b ch) : ax_fn 108 0 (ax_entry 108 [.ref (ax_a 24 0), .int (ay_i a), .int (ay_i l)]) [] (ax_hp X e gb M o) = some (.inl none, ax_hp X e gb (ag_mn M a l ch) o) := by
  by_cases h1 : M 46 0 a = ay_n 2
  · unfold ag_mn
    rw [if_pos h1]
    simp (disch := first | omega | assumption | exact ay_z1b _ | exact ay_z10 | exact ay_z11) only [ae_108, af_108_0, af_108_1, af_108_4, af_108_5, af_108_6, af_108_8, af_108_11, af_108_12, af_108_13, af_108_16, af_108_17, af_108_18, af_108_19, af_108_22, af_108_23, af_108_24, af_108_27, af_108_28, af_108_31, af_108_32, af_108_33, af_108_34, af_108_37, af_108_38, af_108_41, af_108_42, af_108_43, af_108_46, af_108_47, af_108_50, af_108_51, af_108_52, af_108_53, af_108_56, af_108_57, af_108_60, af_108_61, af_108_62, af_108_65, af_108_67, af_108_68, af_108_69, af_108_72, af_108_73, af_108_74, af_108_76, af_108_79, af_108_81, af_108_84, af_108_85, af_108_86, af_108_87, af_108_90, af_108_91, af_108_92, af_108_93, af_108_96, af_108_97, af_108_98, af_108_101, af_108_102, af_108_105, af_108_106, af_108_107, af_108_110, af_108_111, af_108_113, af_108_114, af_108_117, af_108_118, af_108_119, af_108_120, af_108_123, af_108_124, af_108_125, af_108_128, af_108_129, af_108_132, af_108_133, af_108_134, af_108_137, af_108_138, af_108_140, af_108_141, af_108_142, af_108_145, af_108_146, af_108_147, af_108_150, af_108_151, af_108_153, af_108_156, af_108_158, af_108_159, af_108_162, af_108_163, af_108_164, af_108_167, af_108_169, af_108_170, af_108_173, af_108_174, af_108_175, af_108_178, af_108_179, af_108_182, af_108_183, af_108_185, af_108_186, af_108_187, af_108_190, af_108_193, af_108_195, af_108_198, af_108_199, af_108_202, af_108_203, af_108_206, af_108_207, af_108_210, af_108_211, af_108_212, af_108_213, af_108_214, af_108_217, af_108_218, af_108_220, af_108_221, af_108_222, af_108_225, af_108_226, af_108_228, af_108_229, h1, ay_cl_v, ay_cl_s, ay_i_add, ay_i_mul, ay_i_eq, ay_i_lt, ay_b0, ay_b1, ay_ni, ay_in, ay_nn, ay_nl, ay_ln, if_true, if_false, ↓reduceIte, Nat.reduceAdd, Nat.reduceMul, Nat.reduceEqDiff, Nat.reduceLT, Nat.not_lt_zero, Bool.true_eq_false, Bool.false_eq_true, reduceCtorEq, Nat.add_zero, Nat.zero_add, ay_ite_st, ay_ite_ls, ay_ba, ay_bb, ay_bc, ay_bg, ay_be, ay_bh, Bool.not_eq_true, Bool.not_eq_false, ite_self]
  · have hcc : ∀ c : Int32, c = (if M 46 0 a = M 52 0 l then M 46 0 a else if M 52 0 l = ay_n 1 then M 46 0 a else if M 46 0 a = ay_n 1 then M 52 0 l else ay_n 2) → (if M 52 0 l = ay_n 2 then ay_n 2 else c) = ag_cc (M 46 0 a) (M 52 0 l) := by
      intro c hcq
      by_cases h2 : M 52 0 l = ay_n 2
      · rw [if_pos h2, ag_cc2 (.inr h2)]
      · rw [if_neg h2, hcq]; rfl
    simp (disch := first | omega | assumption | exact ay_z1b _ | exact ay_z10 | exact ay_z11) only [ae_108, af_108_0, af_108_1, af_108_4, af_108_5, af_108_6, af_108_8, af_108_11, af_108_12, af_108_13, af_108_16, af_108_17, af_108_18, af_108_19, af_108_22, af_108_23, af_108_24, af_108_27, af_108_28, af_108_31, af_108_32, af_108_33, af_108_34, af_108_37, af_108_38, af_108_41, af_108_42, af_108_43, af_108_46, af_108_47, af_108_50, af_108_51, af_108_52, af_108_53, af_108_56, af_108_57, af_108_60, af_108_61, af_108_62, af_108_65, af_108_68, af_108_69, af_108_72, af_108_73, af_108_74, af_108_76, af_108_79, af_108_81, af_108_84, af_108_86, af_108_87, af_108_90, af_108_91, af_108_92, af_108_93, af_108_96, af_108_97, af_108_98, af_108_101, af_108_102, af_108_105, af_108_106, af_108_107, af_108_110, af_108_113, af_108_114, af_108_117, af_108_118, af_108_119, af_108_120, af_108_123, af_108_124, af_108_125, af_108_128, af_108_129, af_108_132, af_108_133, af_108_134, af_108_137, af_108_140, af_108_141, af_108_142, af_108_145, af_108_146, af_108_147, af_108_150, af_108_151, af_108_153, af_108_156, af_108_158, af_108_159, af_108_162, af_108_163, af_108_164, af_108_167, af_108_169, af_108_170, af_108_173, af_108_174, af_108_175, af_108_178, af_108_179, af_108_182, af_108_185, af_108_186, af_108_187, af_108_190, af_108_193, af_108_195, af_108_198, af_108_199, af_108_202, af_108_206, af_108_207, af_108_210, af_108_211, af_108_212, af_108_213, af_108_214, af_108_217, af_108_218, af_108_220, af_108_221, af_108_222, af_108_225, af_108_226, af_108_228, af_108_229, h1, ay_cl_v, ay_cl_s, ay_i_add, ay_i_mul, ay_i_eq, ay_i_lt, ay_b0, ay_b1, ay_ni, ay_in, ay_nn, ay_nl, ay_ln, if_true, if_false, ↓reduceIte, Nat.reduceAdd, Nat.reduceMul, Nat.reduceEqDiff, Nat.reduceLT, Nat.not_lt_zero, Bool.true_eq_false, Bool.false_eq_true, reduceCtorEq, Nat.add_zero, Nat.zero_add, ay_ite_st, ay_ite_ls, ay_ba, ay_bb, ay_bc, ay_bg, ay_be, ay_bh, Bool.not_eq_true, Bool.not_eq_false, ite_self]
    rw [af_108_67]
    simp (disch := first | omega | assumption | exact ay_z1b _ | exact ay_z10 | exact ay_z11) only [ae_108, af_108_0, af_108_1, af_108_4, af_108_5, af_108_6, af_108_8, af_108_11, af_108_12, af_108_13, af_108_16, af_108_17, af_108_18, af_108_19, af_108_22, af_108_23, af_108_24, af_108_27, af_108_28, af_108_31, af_108_32, af_108_33, af_108_34, af_108_37, af_108_38, af_108_41, af_108_42, af_108_43, af_108_46, af_108_47, af_108_50, af_108_51, af_108_52, af_108_53, af_108_56, af_108_57, af_108_60, af_108_61, af_108_62, af_108_65, af_108_68, af_108_69, af_108_72, af_108_73, af_108_74, af_108_76, af_108_79, af_108_81, af_108_84, af_108_86, af_108_87, af_108_90, af_108_91, af_108_92, af_108_93, af_108_96, af_108_97, af_108_98, af_108_101, af_108_102, af_108_105, af_108_106, af_108_107, af_108_110, af_108_113, af_108_114, af_108_117, af_108_118, af_108_119, af_108_120, af_108_123, af_108_124, af_108_125, af_108_128, af_108_129, af_108_132, af_108_133, af_108_134, af_108_137, af_108_140, af_108_141, af_108_142, af_108_145, af_108_146, af_108_147, af_108_150, af_108_151, af_108_153, af_108_156, af_108_158, af_108_159, af_108_162, af_108_163, af_108_164, af_108_167, af_108_169, af_108_170, af_108_173, af_108_174, af_108_175, af_108_178, af_108_179, af_108_182, af_108_185, af_108_186, af_108_187, af_108_190, af_108_193, af_108_195, af_108_198, af_108_199, af_108_202, af_108_206, af_108_207, af_108_210, af_108_211, af_108_212, af_108_213, af_108_214, af_108_217, af_108_218, af_108_220, af_108_221, af_108_222, af_108_225, af_108_226, af_108_228, af_108_229, ay_cl_v, ay_cl_s, ay_i_add, ay_i_mul, ay_i_eq, ay_i_lt, ay_b0, ay_b1, ay_ni, ay_in, ay_nn, ay_nl, ay_ln, if_true, if_false, ↓reduceIte, Nat.reduceAdd, Nat.reduceMul, Nat.reduceEqDiff, Nat.reduceLT, Nat.not_lt_zero, Bool.true_eq_false, Bool.false_eq_true, reduceCtorEq, Nat.add_zero, Nat.zero_add, ay_ite_st, ay_ite_ls, ay_ba, ay_bb, ay_bc, ay_bg, ay_be, ay_bh, Bool.not_eq_true, Bool.not_eq_false, ite_self]
    rw [af_108_85, hcc _ rfl]
    simp (disch := first | omega | assumption | exact ay_z1b _ | exact ay_z10 | exact ay_z11) only [ae_108, af_108_0, af_108_1, af_108_4, af_108_5, af_108_6, af_108_8, af_108_11, af_108_12, af_108_13, af_108_16, af_108_17, af_108_18, af_108_19, af_108_22, af_108_23, af_108_24, af_108_27, af_108_28, af_108_31, af_108_32, af_108_33, af_108_34, af_108_37, af_108_38, af_108_41, af_108_42, af_108_43, af_108_46, af_108_47, af_108_50, af_108_51, af_108_52, af_108_53, af_108_56, af_108_57, af_108_60, af_108_61, af_108_62, af_108_65, af_108_68, af_108_69, af_108_72, af_108_73, af_108_74, af_108_76, af_108_79, af_108_81, af_108_84, af_108_86, af_108_87, af_108_90, af_108_91, af_108_92, af_108_93, af_108_96, af_108_97, af_108_98, af_108_101, af_108_102, af_108_105, af_108_106, af_108_107, af_108_110, af_108_113, af_108_114, af_108_117, af_108_118, af_108_119, af_108_120, af_108_123, af_108_124, af_108_125, af_108_128, af_108_129, af_108_132, af_108_133, af_108_134, af_108_137, af_108_140, af_108_141, af_108_142, af_108_145, af_108_146, af_108_147, af_108_150, af_108_151, af_108_153, af_108_156, af_108_158, af_108_159, af_108_162, af_108_163, af_108_164, af_108_167, af_108_169, af_108_170, af_108_173, af_108_174, af_108_175, af_108_178, af_108_179, af_108_182, af_108_185, af_108_186, af_108_187, af_108_190, af_108_193, af_108_195, af_108_198, af_108_199, af_108_202, af_108_206, af_108_207, af_108_210, af_108_211, af_108_212, af_108_213, af_108_214, af_108_217, af_108_218, af_108_220, af_108_221, af_108_222, af_108_225, af_108_226, af_108_228, af_108_229, ay_cl_v, ay_cl_s, ay_i_add, ay_i_mul, ay_i_eq, ay_i_lt, ay_b0, ay_b1, ay_ni, ay_in, ay_nn, ay_nl, ay_ln, if_true, if_false, ↓reduceIte, Nat.reduceAdd, Nat.reduceMul, Nat.reduceEqDiff, Nat.reduceLT, Nat.not_lt_zero, Bool.true_eq_false, Bool.false_eq_true, reduceCtorEq, Nat.add_zero, Nat.zero_add, ay_ite_st, ay_ite_ls, ay_ba, ay_bb, ay_bc, ay_bg, ay_be, ay_bh, Bool.not_eq_true, Bool.not_eq_false, ite_self]
    rw [af_108_111]
    simp (disch := first | omega | assumption | exact ay_z1b _ | exact ay_z10 | exact ay_z11) only [ae_108, af_108_0, af_108_1, af_108_4, af_108_5, af_108_6, af_108_8, af_108_11, af_108_12, af_108_13, af_108_16, af_108_17, af_108_18, af_108_19, af_108_22, af_108_23, af_108_24, af_108_27, af_108_28, af_108_31, af_108_32, af_108_33, af_108_34, af_108_37, af_108_38, af_108_41, af_108_42, af_108_43, af_108_46, af_108_47, af_108_50, af_108_51, af_108_52, af_108_53, af_108_56, af_108_57, af_108_60, af_108_61, af_108_62, af_108_65, af_108_68, af_108_69, af_108_72, af_108_73, af_108_74, af_108_76, af_108_79, af_108_81, af_108_84, af_108_86, af_108_87, af_108_90, af_108_91, af_108_92, af_108_93, af_108_96, af_108_97, af_108_98, af_108_101, af_108_102, af_108_105, af_108_106, af_108_107, af_108_110, af_108_113, af_108_114, af_108_117, af_108_118, af_108_119, af_108_120, af_108_123, af_108_124, af_108_125, af_108_128, af_108_129, af_108_132, af_108_133, af_108_134, af_108_137, af_108_140, af_108_141, af_108_142, af_108_145, af_108_146, af_108_147, af_108_150, af_108_151, af_108_153, af_108_156, af_108_158, af_108_159, af_108_162, af_108_163, af_108_164, af_108_167, af_108_169, af_108_170, af_108_173, af_108_174, af_108_175, af_108_178, af_108_179, af_108_182, af_108_185, af_108_186, af_108_187, af_108_190, af_108_193, af_108_195, af_108_198, af_108_199, af_108_202, af_108_206, af_108_207, af_108_210, af_108_211, af_108_212, af_108_213, af_108_214, af_108_217, af_108_218, af_108_220, af_108_221, af_108_222, af_108_225, af_108_226, af_108_228, af_108_229, ay_cl_v, ay_cl_s, ay_i_add, ay_i_mul, ay_i_eq, ay_i_lt, ay_b0, ay_b1, ay_ni, ay_in, ay_nn, ay_nl, ay_ln, if_true, if_false, ↓reduceIte, Nat.reduceAdd, Nat.reduceMul, Nat.reduceEqDiff, Nat.reduceLT, Nat.not_lt_zero, Bool.true_eq_false, Bool.false_eq_true, reduceCtorEq, Nat.add_zero, Nat.zero_add, ay_ite_st, ay_ite_ls, ay_ba, ay_bb, ay_bc, ay_bg, ay_be, ay_bh, Bool.not_eq_true, Bool.not_eq_false, ite_self]
    rw [af_108_138]
    simp (disch := first | omega | assumption | exact ay_z1b _ | exact ay_z10 | exact ay_z11) only [ae_108, af_108_0, af_108_1, af_108_4, af_108_5, af_108_6, af_108_8, af_108_11, af_108_12, af_108_13, af_108_16, af_108_17, af_108_18, af_108_19, af_108_22, af_108_23, af_108_24, af_108_27, af_108_28, af_108_31, af_108_32, af_108_33, af_108_34, af_108_37, af_108_38, af_108_41, af_108_42, af_108_43, af_108_46, af_108_47, af_108_50, af_108_51, af_108_52, af_108_53, af_108_56, af_108_57, af_108_60, af_108_61, af_108_62, af_108_65, af_108_68, af_108_69, af_108_72, af_108_73, af_108_74, af_108_76, af_108_79, af_108_81, af_108_84, af_108_86, af_108_87, af_108_90, af_108_91, af_108_92, af_108_93, af_108_96, af_108_97, af_108_98, af_108_101, af_108_102, af_108_105, af_108_106, af_108_107, af_108_110, af_108_113, af_108_114, af_108_117, af_108_118, af_108_119, af_108_120, af_108_123, af_108_124, af_108_125, af_108_128, af_108_129, af_108_132, af_108_133, af_108_134, af_108_137, af_108_140, af_108_141, af_108_142, af_108_145, af_108_146, af_108_147, af_108_150, af_108_151, af_108_153, af_108_156, af_108_158, af_108_159, af_108_162, af_108_163, af_108_164, af_108_167, af_108_169, af_108_170, af_108_173, af_108_174, af_108_175, af_108_178, af_108_179, af_108_182, af_108_185, af_108_186, af_108_187, af_108_190, af_108_193, af_108_195, af_108_198, af_108_199, af_108_202, af_108_206, af_108_207, af_108_210, af_108_211, af_108_212, af_108_213, af_108_214, af_108_217, af_108_218, af_108_220, af_108_221, af_108_222, af_108_225, af_108_226, af_108_228, af_108_229, ay_cl_v, ay_cl_s, ay_i_add, ay_i_mul, ay_i_eq, ay_i_lt, ay_b0, ay_b1, ay_ni, ay_in, ay_nn, ay_nl, ay_ln, if_true, if_false, ↓reduceIte, Nat.reduceAdd, Nat.reduceMul, Nat.reduceEqDiff, Nat.reduceLT, Nat.not_lt_zero, Bool.true_eq_false, Bool.false_eq_true, reduceCtorEq, Nat.add_zero, Nat.zero_add, ay_ite_st, ay_ite_ls, ay_ba, ay_bb, ay_bc, ay_bg, ay_be, ay_bh, Bool.not_eq_true, Bool.not_eq_false, ite_self]
    rw [af_108_183]
    simp (disch := first | omega | assumption | exact ay_z1b _ | exact ay_z10 | exact ay_z11) only [ae_108, af_108_0, af_108_1, af_108_4, af_108_5, af_108_6, af_108_8, af_108_11, af_108_12, af_108_13, af_108_16, af_108_17, af_108_18, af_108_19, af_108_22, af_108_23, af_108_24, af_108_27, af_108_28, af_108_31, af_108_32, af_108_33, af_108_34, af_108_37, af_108_38, af_108_41, af_108_42, af_108_43, af_108_46, af_108_47, af_108_50, af_108_51, af_108_52, af_108_53, af_108_56, af_108_57, af_108_60, af_108_61, af_108_62, af_108_65, af_108_68, af_108_69, af_108_72, af_108_73, af_108_74, af_108_76, af_108_79, af_108_81, af_108_84, af_108_86, af_108_87, af_108_90, af_108_91, af_108_92, af_108_93, af_108_96, af_108_97, af_108_98, af_108_101, af_108_102, af_108_105, af_108_106, af_108_107, af_108_110, af_108_113, af_108_114, af_108_117, af_108_118, af_108_119, af_108_120, af_108_123, af_108_124, af_108_125, af_108_128, af_108_129, af_108_132, af_108_133, af_108_134, af_108_137, af_108_140, af_108_141, af_108_142, af_108_145, af_108_146, af_108_147, af_108_150, af_108_151, af_108_153, af_108_156, af_108_158, af_108_159, af_108_162, af_108_163, af_108_164, af_108_167, af_108_169, af_108_170, af_108_173, af_108_174, af_108_175, af_108_178, af_108_179, af_108_182, af_108_185, af_108_186, af_108_187, af_108_190, af_108_193, af_108_195, af_108_198, af_108_199, af_108_202, af_108_206, af_108_207, af_108_210, af_108_211, af_108_212, af_108_213, af_108_214, af_108_217, af_108_218, af_108_220, af_108_221, af_108_222, af_108_225, af_108_226, af_108_228, af_108_229, hc, ay_cl_v, ay_cl_s, ay_i_add, ay_i_mul, ay_i_eq, ay_i_lt, ay_b0, ay_b1, ay_ni, ay_in, ay_nn, ay_nl, ay_ln, if_true, if_false, ↓reduceIte, Nat.reduceAdd, Nat.reduceMul, Nat.reduceEqDiff, Nat.reduceLT, Nat.not_lt_zero, Bool.true_eq_false, Bool.false_eq_true, reduceCtorEq, Nat.add_zero, Nat.zero_add, ay_ite_st, ay_ite_ls, ay_ba, ay_bb, ay_bc, ay_bg, ay_be, ay_bh, Bool.not_eq_true, Bool.not_eq_false, ite_self]
    rw [af_108_203 (ay_z1b _)]
    simp (disch := first | omega | assumption | exact ay_z1b _ | exact ay_z10 | exact ay_z11) only [ae_108, af_108_0, af_108_1, af_108_4, af_108_5, af_108_6, af_108_8, af_108_11, af_108_12, af_108_13, af_108_16, af_108_17, af_108_18, af_108_19, af_108_22, af_108_23, af_108_24, af_108_27, af_108_28, af_108_31, af_108_32, af_108_33, af_108_34, af_108_37, af_108_38, af_108_41, af_108_42, af_108_43, af_108_46, af_108_47, af_108_50, af_108_51, af_108_52, af_108_53, af_108_56, af_108_57, af_108_60, af_108_61, af_108_62, af_108_65, af_108_67, af_108_68, af_108_69, af_108_72, af_108_73, af_108_74, af_108_76, af_108_79, af_108_81, af_108_84, af_108_85, af_108_86, af_108_87, af_108_90, af_108_91, af_108_92, af_108_93, af_108_96, af_108_97, af_108_98, af_108_101, af_108_102, af_108_105, af_108_106, af_108_107, af_108_110, af_108_111, af_108_113, af_108_114, af_108_117, af_108_118, af_108_119, af_108_120, af_108_123, af_108_124, af_108_125, af_108_128, af_108_129, af_108_132, af_108_133, af_108_134, af_108_137, af_108_138, af_108_140, af_108_141, af_108_142, af_108_145, af_108_146, af_108_147, af_108_150, af_108_151, af_108_153, af_108_156, af_108_158, af_108_159, af_108_162, af_108_163, af_108_164, af_108_167, af_108_169, af_108_170, af_108_173, af_108_174, af_108_175, af_108_178, af_108_179, af_108_182, af_108_183, af_108_185, af_108_186, af_108_187, af_108_190, af_108_193, af_108_195, af_108_198, af_108_199, af_108_202, af_108_203, af_108_206, af_108_207, af_108_210, af_108_211, af_108_212, af_108_213, af_108_214, af_108_217, af_108_218, af_108_220, af_108_221, af_108_222, af_108_225, af_108_226, af_108_228, af_108_229, ay_cl_v, ay_cl_s, ay_i_add, ay_i_mul, ay_i_eq, ay_i_lt, ay_b0, ay_b1, ay_ni, ay_in, ay_nn, ay_nl, ay_ln, if_true, if_false, ↓reduceIte, Nat.reduceAdd, Nat.reduceMul, Nat.reduceEqDiff, Nat.reduceLT, Nat.not_lt_zero, Bool.true_eq_false, Bool.false_eq_true, reduceCtorEq, Nat.add_zero, Nat.zero_add, ay_ite_st, ay_ite_ls, ay_ba, ay_bb, ay_bc, ay_bg, ay_be, ay_bh, Bool.not_eq_true, Bool.not_eq_false, ite_self]
    unfold ag_mn
    rw [if_neg h1]
    congr 3
    congr 3
    congr 1
    congr 1
    congr 1
    · cases ch <;> rfl
    · have hj : ag_jl (ag_tp M a) (ag_tn M l) = ag_nl (ag_cc (M 46 0 a) (M 52 0 l)) (if ag_cc (M 46 0 a) (M 52 0 l) = ay_n 2 then M 47 0 a else ag_jn (M 47 0 a) (M 53 0 l)) (if ag_cc (M 46 0 a) (M 52 0 l) = ay_n 2 then M 48 0 a else ag_js (M 48 0 a) (M 54 0 l)) := ag_nl_jl _ _ _ _ _ _
      have ht : ag_tp M a = (M 46 0 a, M 47 0 a, M 48 0 a) := if_neg h1
      by_cases p2 : ag_cc (M 46 0 a) (M 52 0 l) = ay_n 2
      · have p1 : ¬ ag_cc (M 46 0 a) (M 52 0 l) = M 46 0 a := fun h => h1 (h.symm.trans p2)
        have hne : ag_jl (ag_tp M a) (ag_tn M l) ≠ ag_tp M a := by
          rw [hj, ht, p2]
          intro h
          exact h1 (congrArg Prod.fst h).symm
        rw [decide_eq_true hne]
        simp [p1]
      · have hj2 : ag_jl (ag_tp M a) (ag_tn M l) = (ag_cc (M 46 0 a) (M 52 0 l), ag_jn (M 47 0 a) (M 53 0 l), ag_js (M 48 0 a) (M 54 0 l)) := by
          rw [hj, if_neg p2, if_neg p2]; exact if_neg p2
        rw [hj2, ht]
        simp only [ne_eq, Prod.mk.injEq, ag_jn, ag_js]
        by_cases p1 : ag_cc (M 46 0 a) (M 52 0 l) = M 46 0 a <;> by_cases p3 : (if M 47 0 a = M 53 0 l then M 47 0 a else ay_i 1) = M 47 0 a <;> by_cases p4 : (if M 48 0 a = M 54 0 l then M 48 0 a else ay_i 2) = M 48 0 a <;> simp only [p1, p2, p3, p4] <;> simp [h1]
theorem ag_mn_tp {a l : Nat} {ch : Bool} : ag_tp (ag_mn M a l ch) a = ag_jl (ag_tp M a) (ag_tn M l) := by
  have hj : ag_jl (ag_tp M a) (ag_tn M l) = ag_nl (ag_cc (M 46 0 a) (M 52 0 l)) (if ag_cc (M 46 0 a) (M 52 0 l) = ay_n 2 then M 47 0 a else ag_jn (M 47 0 a) (M 53 0 l)) (if ag_cc (M 46 0 a) (M 52 0 l) = ay_n 2 then M 48 0 a else ag_js (M 48 0 a) (M 54 0 l)) := ag_nl_jl _ _ _ _ _ _
  rw [hj]
  unfold ag_mn
  by_cases h1 : M 46 0 a = ay_n 2
  · rw [if_pos h1]
    have h2 := ag_cc2 (a := M 46 0 a) (b := M 52 0 l) (.inl h1)
    unfold ag_tp ag_nl
    rw [if_pos h1, if_pos h2]
  · rw [if_neg h1]
    unfold ag_tp
    simp only [ax_u3, Nat.reduceEqDiff, false_and, if_false, and_self, if_true]
    unfold ag_nl
    by_cases p2 : ag_cc (M 46 0 a) (M 52 0 l) = ay_n 2
    · simp only [p2, if_true]
    · simp only [p2, if_false]
theorem ag_mn_ne {a l f i j : Nat} {ch : Bool} (h : ¬ (46 ≤ f ∧ f ≤ 48 ∧ j = a)) (h2 : ¬ (f = 24 ∧ j = 21)) : ag_mn M a l ch f i j = M f i j := by
  unfold ag_mn
  split
  · rfl
  · simp only [ax_u3]; grind
theorem ag_mn_ch {a l : Nat} {ch : Bool} (hc : M 24 0 21 = ay_b ch) : ag_mn M a l ch 24 0 21 = ay_b (ch || decide (ag_jl (ag_tp M a) (ag_tn M l) ≠ ag_tp M a)) := by
  unfold ag_mn
  split
  · rename_i h1
    have ht : ag_tp M a = ag_z := if_pos h1
    have hj : ag_jl (ag_tp M a) (ag_tn M l) = ag_z := by
      unfold ag_jl
      rw [ht]
      exact if_pos (ag_cc2 (.inl rfl))
    rw [hj, ht, hc]; simp
  · simp [ax_u3]
theorem al_107a {p : Nat} {vb : Int32} (hp : p < 40) : ∀ d k (M : ax_M) (ch : Bool), k + d = 8 → M 24 0 21 = ay_b ch → ∃ (M' : ax_M) (ch' : Bool), ax_fn 107 168 [some (.ref (ax_a 24 0)), some (.int vb), some (.int (ay_i p)), some (.int (ay_i k))] [] (ax_hp X e gb M o) = some (.inl none, ax_hp X e gb M' o) ∧ (∀ f i j, ¬ (46 ≤ f ∧ f ≤ 48 ∧ 8 * p + k ≤ j ∧ j < 8 * p + 8) → ¬ (f = 24 ∧ j = 21) → M' f i j = M f i j) ∧ (∀ l, k ≤ l → l < 8 → ag_tp M' (8 * p + l) = ag_jl (ag_tp M (8 * p + l)) (ag_tn M l)) ∧ M' 24 0 21 = ay_b ch' ∧ (ch' = true ↔ ch = true ∨ ∃ l, k ≤ l ∧ l < 8 ∧ ag_jl (ag_tp M (8 * p + l)) (ag_tn M l) ≠ ag_tp M (8 * p + l)) := by
  intro d
  induction d with
  | zero =>
    intro k M ch hk hc
    obtain rfl : k = 8 := by omega
    refine ⟨M, ch, ?_, fun _ _ _ _ _ => rfl, fun l h1 h2 => absurd h2 (by omega), hc, ?_⟩
    · rw [af_107_168]
      simp (disch := first | omega | assumption | exact ay_z1b _ | exact ay_z10 | exact ay_z11) only [ae_107, af_107_0, af_107_1, af_107_4, af_107_5, af_107_6, af_107_9, af_107_10, af_107_11, af_107_14, af_107_15, af_107_16, af_107_19, af_107_20, af_107_21, af_107_24, af_107_25, af_107_26, af_107_29, af_107_30, af_107_33, af_107_34, af_107_35, af_107_36, af_107_37, af_107_38, af_107_41, af_107_42, af_107_45, af_107_46, af_107_47, af_107_50, af_107_51, af_107_52, af_107_53, af_107_54, af_107_56, af_107_59, af_107_60, af_107_63, af_107_65, af_107_66, af_107_67, af_107_68, af_107_69, af_107_70, af_107_73, af_107_74, af_107_75, af_107_76, af_107_77, af_107_80, af_107_82, af_107_83, af_107_84, af_107_85, af_107_86, af_107_87, af_107_90, af_107_91, af_107_92, af_107_93, af_107_94, af_107_97, af_107_99, af_107_100, af_107_101, af_107_102, af_107_103, af_107_104, af_107_107, af_107_108, af_107_109, af_107_110, af_107_113, af_107_116, af_107_117, af_107_118, af_107_119, af_107_122, af_107_125, af_107_126, af_107_129, af_107_130, af_107_131, af_107_132, af_107_135, af_107_136, af_107_137, af_107_138, af_107_141, af_107_142, af_107_145, af_107_146, af_107_149, af_107_150, af_107_153, af_107_154, af_107_155, af_107_158, af_107_159, af_107_160, af_107_161, af_107_164, af_107_165, af_107_166, af_107_167, af_107_169, af_107_171, af_107_174, af_107_175, af_107_177, af_107_178, af_107_179, af_107_180, af_107_181, af_107_182, af_107_185, af_107_188, af_107_191, ay_cl_v, ay_cl_s, ay_i_add, ay_i_mul, ay_i_eq, ay_i_lt, ay_b0, ay_b1, ay_ni, ay_in, ay_nn, ay_nl, ay_ln, if_true, if_false, ↓reduceIte, Nat.reduceAdd, Nat.reduceMul, Nat.reduceEqDiff, Nat.reduceLT, Nat.not_lt_zero, Bool.true_eq_false, Bool.false_eq_true, reduceCtorEq, Nat.add_zero, Nat.zero_add]
    · constructor
      · exact fun h => .inl h
      · rintro (h | ⟨l, h1, h2, -⟩)
        · exact h
        · omega
  | succ d ih =>
    intro k M ch hk hc
    have hlt : k < 8 := by omega
    have hm := am_108 (X := X) (e := e) (gb := gb) (o := o) (a := 8 * p + k) (by omega) hlt hc
    obtain ⟨M', ch', e1, e2, e3, e4, e5⟩ := ih (k + 1) (ag_mn M (8 * p + k) k ch) _ (by omega) (ag_mn_ch hc)
    have hne : ∀ f i j, ¬ (46 ≤ f ∧ f ≤ 48 ∧ j = 8 * p + k) → ¬ (f = 24 ∧ j = 21) → ag_mn M (8 * p + k) k ch f i j = M f i j := fun f i j h1 h2 => ag_mn_ne h1 h2
    have htn : ∀ l, ag_tn (ag_mn M (8 * p + k) k ch) l = ag_tn M l := by
      intro l; unfold ag_tn
      rw [hne 52 0 l (by omega) (by omega), hne 53 0 l (by omega) (by omega), hne 54 0 l (by omega) (by omega)]
    have htp : ∀ l, l ≠ k → ag_tp (ag_mn M (8 * p + k) k ch) (8 * p + l) = ag_tp M (8 * p + l) := by
      intro l hl; unfold ag_tp
      rw [hne 46 0 _ (by omega) (by omega), hne 47 0 _ (by omega) (by omega), hne 48 0 _ (by omega) (by omega)]
    refine ⟨M', ch', ?_, fun f i j h1 h2 => ?_, fun l h1 h2 => ?_, e4, ?_⟩
    · rw [← e1, af_107_168]
      simp (disch := first | omega | assumption | exact ay_z1b _ | exact ay_z10 | exact ay_z11) only [ae_107, af_107_0, af_107_1, af_107_4, af_107_5, af_107_6, af_107_9, af_107_10, af_107_11, af_107_14, af_107_15, af_107_16, af_107_19, af_107_20, af_107_21, af_107_24, af_107_25, af_107_26, af_107_29, af_107_30, af_107_33, af_107_34, af_107_35, af_107_36, af_107_37, af_107_38, af_107_41, af_107_42, af_107_45, af_107_46, af_107_47, af_107_50, af_107_51, af_107_52, af_107_53, af_107_54, af_107_56, af_107_59, af_107_60, af_107_63, af_107_65, af_107_66, af_107_67, af_107_68, af_107_69, af_107_70, af_107_73, af_107_74, af_107_75, af_107_76, af_107_77, af_107_80, af_107_82, af_107_83, af_107_84, af_107_85, af_107_86, af_107_87, af_107_90, af_107_91, af_107_92, af_107_93, af_107_94, af_107_97, af_107_99, af_107_100, af_107_101, af_107_102, af_107_103, af_107_104, af_107_107, af_107_108, af_107_109, af_107_110, af_107_113, af_107_116, af_107_117, af_107_118, af_107_119, af_107_122, af_107_125, af_107_126, af_107_129, af_107_130, af_107_131, af_107_132, af_107_135, af_107_136, af_107_137, af_107_138, af_107_141, af_107_142, af_107_145, af_107_146, af_107_149, af_107_150, af_107_153, af_107_154, af_107_155, af_107_158, af_107_159, af_107_160, af_107_161, af_107_164, af_107_165, af_107_166, af_107_167, af_107_169, af_107_171, af_107_174, af_107_175, af_107_177, af_107_178, af_107_179, af_107_180, af_107_181, af_107_182, af_107_185, af_107_188, af_107_191, hlt, hm, ay_cl_v, ay_cl_s, ay_i_add, ay_i_mul, ay_i_eq, ay_i_lt, ay_b0, ay_b1, ay_ni, ay_in, ay_nn, ay_nl, ay_ln, if_true, if_false, ↓reduceIte, Nat.reduceAdd, Nat.reduceMul, Nat.reduceEqDiff, Nat.reduceLT, Nat.not_lt_zero, Bool.true_eq_false, Bool.false_eq_true, reduceCtorEq, Nat.add_zero, Nat.zero_add]
    · rw [e2 f i j (by omega) h2, hne f i j (by omega) h2]
    · by_cases hlk : l = k
      · subst hlk
        have : ag_tp M' (8 * p + l) = ag_tp (ag_mn M (8 * p + l) l ch) (8 * p + l) := by
          unfold ag_tp
          rw [e2 46 0 _ (by omega) (by omega), e2 47 0 _ (by omega) (by omega), e2 48 0 _ (by omega) (by omega)]
        rw [this, ag_mn_tp]
      · rw [e3 l (by omega) h2, htp l hlk, htn]
    · rw [e5, Bool.or_eq_true, decide_eq_true_eq]
      constructor
      · rintro ((h | h) | ⟨l, h1, h2, h3⟩)
        · exact .inl h
        · exact .inr ⟨k, Nat.le_refl _, hlt, h⟩
        · rw [htp l (by omega), htn] at h3
          exact .inr ⟨l, by omega, h2, h3⟩
      · rintro (h | ⟨l, h1, h2, h3⟩)
        · exact .inl (.inl h)
        · by_cases hlk : l = k
          · subst hlk; exact .inl (.inr h3)
          · refine .inr ⟨l, by omega, h2, ?_⟩
            rw [htp l hlk, htn]; exact h3
theorem al_107b {p : Nat} {vb : Int32} (hp : p < 40) : ∀ d k (M : ax_M), k + d = 8 → ∃ M' : ax_M, ax_fn 107 53 [some (.ref (ax_a 24 0)), some (.int vb), some (.int (ay_i p)), some (.int (ay_i k))] [] (ax_hp X e gb M o) = some (.inl none, ax_hp X e gb M' o) ∧ (∀ f i j, ¬ (46 ≤ f ∧ f ≤ 48 ∧ 8 * p + k ≤ j ∧ j < 8 * p + 8) → M' f i j = M f i j) ∧ (∀ l, k ≤ l → l < 8 → ag_tp M' (8 * p + l) = ag_tn M l) := by
  intro d
  induction d with
  | zero =>
    intro k M hk
    obtain rfl : k = 8 := by omega
    refine ⟨M, ?_, fun _ _ _ _ => rfl, fun l h1 h2 => absurd h2 (by omega)⟩
    rw [af_107_53]
    simp (disch := first | omega | assumption | exact ay_z1b _ | exact ay_z10 | exact ay_z11) only [ae_107, af_107_0, af_107_1, af_107_4, af_107_5, af_107_6, af_107_9, af_107_10, af_107_11, af_107_14, af_107_15, af_107_16, af_107_19, af_107_20, af_107_21, af_107_24, af_107_25, af_107_26, af_107_29, af_107_30, af_107_33, af_107_34, af_107_35, af_107_36, af_107_37, af_107_38, af_107_41, af_107_42, af_107_45, af_107_46, af_107_47, af_107_50, af_107_51, af_107_52, af_107_54, af_107_56, af_107_59, af_107_60, af_107_63, af_107_65, af_107_66, af_107_67, af_107_68, af_107_69, af_107_70, af_107_73, af_107_74, af_107_75, af_107_76, af_107_77, af_107_80, af_107_82, af_107_83, af_107_84, af_107_85, af_107_86, af_107_87, af_107_90, af_107_91, af_107_92, af_107_93, af_107_94, af_107_97, af_107_99, af_107_100, af_107_101, af_107_102, af_107_103, af_107_104, af_107_107, af_107_108, af_107_109, af_107_110, af_107_113, af_107_116, af_107_117, af_107_118, af_107_119, af_107_122, af_107_125, af_107_126, af_107_129, af_107_130, af_107_131, af_107_132, af_107_135, af_107_136, af_107_137, af_107_138, af_107_141, af_107_142, af_107_145, af_107_146, af_107_149, af_107_150, af_107_153, af_107_154, af_107_155, af_107_158, af_107_159, af_107_160, af_107_161, af_107_164, af_107_165, af_107_166, af_107_167, af_107_168, af_107_169, af_107_171, af_107_174, af_107_175, af_107_177, af_107_178, af_107_179, af_107_180, af_107_181, af_107_182, af_107_185, af_107_188, af_107_191, ay_cl_v, ay_cl_s, ay_i_add, ay_i_mul, ay_i_eq, ay_i_lt, ay_b0, ay_b1, ay_ni, ay_in, ay_nn, ay_nl, ay_ln, if_true, if_false, ↓reduceIte, Nat.reduceAdd, Nat.reduceMul, Nat.reduceEqDiff, Nat.reduceLT, Nat.not_lt_zero, Bool.true_eq_false, Bool.false_eq_true, reduceCtorEq, Nat.add_zero, Nat.zero_add]
  | succ d ih =>
    intro k M hk
    have hlt : k < 8 := by omega
    obtain ⟨M', e1, e2, e3⟩ := ih (k + 1) (ax_u3 (ax_u3 (ax_u3 M 46 0 (8 * p + k) (M 52 0 k)) 47 0 (8 * p + k) (M 53 0 k)) 48 0 (8 * p + k) (M 54 0 k)) (by omega)
    refine ⟨M', ?_, fun f i j h1 => ?_, fun l h1 h2 => ?_⟩
    · rw [← e1, af_107_53]
      simp (disch := first | omega | assumption | exact ay_z1b _ | exact ay_z10 | exact ay_z11) only [ae_107, af_107_0, af_107_1, af_107_4, af_107_5, af_107_6, af_107_9, af_107_10, af_107_11, af_107_14, af_107_15, af_107_16, af_107_19, af_107_20, af_107_21, af_107_24, af_107_25, af_107_26, af_107_29, af_107_30, af_107_33, af_107_34, af_107_35, af_107_36, af_107_37, af_107_38, af_107_41, af_107_42, af_107_45, af_107_46, af_107_47, af_107_50, af_107_51, af_107_52, af_107_54, af_107_56, af_107_59, af_107_60, af_107_63, af_107_65, af_107_66, af_107_67, af_107_68, af_107_69, af_107_70, af_107_73, af_107_74, af_107_75, af_107_76, af_107_77, af_107_80, af_107_82, af_107_83, af_107_84, af_107_85, af_107_86, af_107_87, af_107_90, af_107_91, af_107_92, af_107_93, af_107_94, af_107_97, af_107_99, af_107_100, af_107_101, af_107_102, af_107_103, af_107_104, af_107_107, af_107_108, af_107_109, af_107_110, af_107_113, af_107_116, af_107_117, af_107_118, af_107_119, af_107_122, af_107_125, af_107_126, af_107_129, af_107_130, af_107_131, af_107_132, af_107_135, af_107_136, af_107_137, af_107_138, af_107_141, af_107_142, af_107_145, af_107_146, af_107_149, af_107_150, af_107_153, af_107_154, af_107_155, af_107_158, af_107_159, af_107_160, af_107_161, af_107_164, af_107_165, af_107_166, af_107_167, af_107_168, af_107_169, af_107_171, af_107_174, af_107_175, af_107_177, af_107_178, af_107_179, af_107_180, af_107_181, af_107_182, af_107_185, af_107_188, af_107_191, hlt, ax_u3, false_and, ay_cl_v, ay_cl_s, ay_i_add, ay_i_mul, ay_i_eq, ay_i_lt, ay_b0, ay_b1, ay_ni, ay_in, ay_nn, ay_nl, ay_ln, if_true, if_false, ↓reduceIte, Nat.reduceAdd, Nat.reduceMul, Nat.reduceEqDiff, Nat.reduceLT, Nat.not_lt_zero, Bool.true_eq_false, Bool.false_eq_true, reduceCtorEq, Nat.add_zero, Nat.zero_add]
    · rw [e2 f i j (by omega)]
      simp only [ax_u3]; grind
    · by_cases hlk : l = k
      · subst hlk
        unfold ag_tp ag_tn
        rw [e2 46 0 _ (by omega), e2 47 0 _ (by omega), e2 48 0 _ (by omega)]
        simp [ax_u3]
      · rw [e3 l (by omega) h2]
        unfold ag_tn
        simp [ax_u3]
end AmM
