/-! the class's machine: attempt, advance -/
def ab_d (o k : Nat) : Nat := if o = 2 ∨ o = 7 then k + 2 else if o = 8 then k else k + 1
def ab_q (o q : Nat) : Nat := if o = 2 then q + 1 else q
/-- what the next step runs into, and the memory behind it -/
def ab_T (P C : ax_M) : Nat := if ay_w (C 22 ((C 18 0 3).toNatClampNeg - 1) 2) (P 40 0 (C 22 ((C 18 0 3).toNatClampNeg - 1) 1).toNatClampNeg) = false then 5 else
  ab_tr P C ((C 18 0 3).toNatClampNeg - 1) (C 18 0 4).toNatClampNeg (C 22 ((C 18 0 3).toNatClampNeg - 1) 1).toNatClampNeg (C 22 ((C 18 0 3).toNatClampNeg - 1) 2).toNatClampNeg
def ab_N (P C : ax_M) : ax_M := ab_nx P C ((C 18 0 3).toNatClampNeg - 1) (C 18 0 4).toNatClampNeg (C 22 ((C 18 0 3).toNatClampNeg - 1) 1).toNatClampNeg (C 22 ((C 18 0 3).toNatClampNeg - 1) 2).toNatClampNeg
def ab_U (D : ax_M) : ax_M := ax_u3 (ax_u3 D 18 0 8 (D 18 0 8 + ay_i 1)) 18 0 7 (if D 18 0 3 = ay_i 0 then ay_i 1 else ay_i 0)
def ab_run (P : ax_M) : Nat → ax_M → Nat × ax_M
  | 0, C => (0, C)
  | c + 1, C => if C 18 0 7 = ay_i 0 then (if ab_T P C = 0 then ((ab_run P c (ab_U (ab_N P C))).1 + 1, (ab_run P c (ab_U (ab_N P C))).2) else (0, ax_u3 C 18 0 7 (ay_i (ab_T P C)))) else (0, C)
theorem ai_v_le {v : Int32} {q q' : Nat} (h : ai_v v q) (hq : q ≤ q') : ai_v v q' := by
  rcases h with h | ⟨x, h1, h2⟩
  · exact .inl h
  · exact .inr ⟨x, by omega, h2⟩
section AmB
variable {X : Nat × (Nat → Int32)} {e gb : Nat} {M C P : ax_M} {o : Int64} {k q b p : Nat}
theorem am_45a (hc : ai_mc C P (k + 1) q) (hW : ap_wf P) (hp : ac_p C P) (hb : b < 12) (h1 : C 22 k 1 = ay_i b) (h2 : ay_w (C 22 k 2) (ay_i (ap_sz P b)) = false) : ax_fn 45 0 (ax_entry 45 [.ref (ax_a 18 0)]) [] (ax_hp X e gb C o) = some (.inl (some (.int (ay_i 5))), ax_hp X e gb C o) := by
  obtain ⟨c1, c2, c3, c4, c5, c6⟩ := hc
  have hk : k < 20 := by omega
  have h46 := am_46 (X := X) (e := e) (gb := gb) (o := o) c3 hk
  have hs3 : C 3 b 6 = ay_i (ap_sz P b) := by rw [(hp.1 b hb).1]; exact (hW.1 b hb).1
  simp (disch := first | omega | assumption | exact ay_z1b _ | exact ay_z10 | exact ay_z11) only [ae_45, af_45_0, af_45_1, af_45_4, af_45_5, af_45_6, af_45_9, af_45_12, af_45_13, af_45_16, af_45_17, af_45_18, af_45_19, af_45_22, af_45_23, af_45_24, af_45_25, af_45_28, af_45_31, af_45_32, af_45_33, af_45_34, af_45_37, af_45_38, af_45_39_0, af_45_39_1, af_45_39_2, af_45_39_3, af_45_39_4, af_45_39_5, af_45_39_6, af_45_39_7, af_45_39_8, af_45_39_9, af_45_80, af_45_81, af_45_82, af_45_83, af_45_86, af_45_87, af_45_88, af_45_89, af_45_92, af_45_93, af_45_94, af_45_97, af_45_98, af_45_99, af_45_100, af_45_102, af_45_103, af_45_106, af_45_107, af_45_108, af_45_109, af_45_110, af_45_113, af_45_114, af_45_115, af_45_118, af_45_119, af_45_120, af_45_121, af_45_122, af_45_125, af_45_126, af_45_127, af_45_130, af_45_131, af_45_132, af_45_133, af_45_134, af_45_137, af_45_138, af_45_141, af_45_142, af_45_143, af_45_144, af_45_145, af_45_148, af_45_149, af_45_152, af_45_153, af_45_154, af_45_157, af_45_158, af_45_159, af_45_160, af_45_163, af_45_164, af_45_165, af_45_166, af_45_167, af_45_170, af_45_171, af_45_172, af_45_175, af_45_176, af_45_177, af_45_178, af_45_179, af_45_180, af_45_181, af_45_184, h46, h1, am_19, hs3, h2, ay_bf, ay_cl_v, ay_cl_s, ay_i_add, ay_i_mul, ay_i_eq, ay_i_lt, ay_b0, ay_b1, ay_ni, ay_in, ay_nn, ay_nl, ay_ln, if_true, if_false, ↓reduceIte, Nat.reduceAdd, Nat.reduceMul, Nat.reduceEqDiff, Nat.reduceLT, Nat.not_lt_zero, Bool.true_eq_false, Bool.false_eq_true, reduceCtorEq, Nat.add_zero, Nat.zero_add]
theorem am_45b (hc : ai_mc C P (k + 1) q) (hW : ap_wf P) (hp : ac_p C P) (hb : b < 12) (h1 : C 22 k 1 = ay_i b) (hpn : p < ap_sz P b) (h2 : C 22 k 2 = ay_i p) : ax_fn 45 0 (ax_entry 45 [.ref (ax_a 18 0)]) [] (ax_hp X e gb C o) = some (.inl (some (.int (ay_i (ab_tr P C k q b p)))), ax_hp X e gb (if ab_tr P C k q b p = 0 then ab_nx P C k q b p else C) o) := by
  obtain ⟨c1, c2, c3, c4, c5, c6⟩ := id hc
  have hk : k < 20 := by omega
  have h46 := am_46 (X := X) (e := e) (gb := gb) (o := o) c3 hk
  have hsz := hW.1 b hb
  have hs3 : C 3 b 6 = ay_i (ap_sz P b) := by rw [(hp.1 b hb).1]; exact hsz.1
  have hw := ay_w_i hpn (by omega)
  have hp4 : p < 40 := by omega
  obtain ⟨g1, g2, g3, g4⟩ := hp.2.1 b p hb hp4
  obtain ⟨w1, w2, w3, w4, w5, w6⟩ := hW.2.2.1 b p hb hpn
  have lv := (c5 k (by omega)).2.2
  have : ap_o P b p = 0 ∨ ap_o P b p = 1 ∨ ap_o P b p = 2 ∨ ap_o P b p = 3 ∨ ap_o P b p = 4 ∨ ap_o P b p = 5 ∨ ap_o P b p = 6 ∨ ap_o P b p = 7 ∨ ap_o P b p = 8 := by omega
  rcases this with ho | ho | ho | ho | ho | ho | ho | ho | ho
  · obtain ⟨x1, x2⟩ := w3 (by omega)
    obtain ⟨y1, y2⟩ := w4 (by omega)
    rw [w1, ho] at g1; rw [x1] at g2; rw [y1] at g3
    simp (disch := first | omega | assumption | exact ay_z1b _ | exact ay_z10 | exact ay_z11) only [ae_45, af_45_0, af_45_1, af_45_4, af_45_5, af_45_6, af_45_9, af_45_12, af_45_13, af_45_16, af_45_17, af_45_18, af_45_19, af_45_22, af_45_23, af_45_24, af_45_25, af_45_28, af_45_31, af_45_32, af_45_33, af_45_34, af_45_37, af_45_38, af_45_39_0, af_45_39_1, af_45_39_2, af_45_39_3, af_45_39_4, af_45_39_5, af_45_39_6, af_45_39_7, af_45_39_8, af_45_39_9, af_45_80, af_45_81, af_45_82, af_45_83, af_45_86, af_45_87, af_45_88, af_45_89, af_45_92, af_45_93, af_45_94, af_45_97, af_45_98, af_45_99, af_45_100, af_45_102, af_45_103, af_45_106, af_45_107, af_45_108, af_45_109, af_45_110, af_45_113, af_45_114, af_45_115, af_45_118, af_45_119, af_45_120, af_45_121, af_45_122, af_45_125, af_45_126, af_45_127, af_45_130, af_45_131, af_45_132, af_45_133, af_45_134, af_45_137, af_45_138, af_45_141, af_45_142, af_45_143, af_45_144, af_45_145, af_45_148, af_45_149, af_45_152, af_45_153, af_45_154, af_45_157, af_45_158, af_45_159, af_45_160, af_45_163, af_45_164, af_45_165, af_45_166, af_45_167, af_45_170, af_45_171, af_45_172, af_45_175, af_45_176, af_45_177, af_45_178, af_45_179, af_45_180, af_45_181, af_45_184, ae_50, af_50_0, af_50_1, af_50_4, af_50_6, af_50_7, af_50_10, af_50_11, af_50_12, af_50_14, af_50_15, af_50_18, af_50_19, af_50_20, af_50_22, af_50_23, af_50_26, af_50_27, af_50_28, af_50_30, af_50_32, af_50_35, af_50_37, af_50_39, af_50_41, af_50_43, af_50_44, af_50_45, af_50_48, af_50_50, af_50_51, af_50_54, af_50_56, af_50_58, af_50_59, af_50_60, af_50_63, af_50_65, af_50_66, af_50_69, af_50_71, af_50_73, af_50_74, af_50_77, af_50_79, af_50_81, af_50_82, af_50_84, af_50_86, af_50_87, af_50_90, af_50_91, af_50_92, af_50_94, af_50_95, af_50_96, af_50_97, af_50_100, af_50_101, af_50_102, af_50_103, af_50_105, af_50_107, af_50_108, af_50_111, af_50_113, af_50_115, af_50_116, af_50_119, af_50_121, af_50_122, af_50_123, af_50_126, af_50_127, af_50_130, af_50_132, af_50_134, af_50_136, af_50_137, af_50_138, af_50_139, af_50_140, af_50_141, af_50_142, af_50_145, af_50_146, h46, h1, h2, am_19, hs3, hw, ay_bt, g1, g2, g3, ab_tr, ab_nx, ho, ay_cl_v, ay_cl_s, ay_i_add, ay_i_mul, ay_i_eq, ay_i_lt, ay_b0, ay_b1, ay_ni, ay_in, ay_nn, ay_nl, ay_ln, if_true, if_false, ↓reduceIte, Nat.reduceAdd, Nat.reduceMul, Nat.reduceEqDiff, Nat.reduceLT, Nat.not_lt_zero, Bool.true_eq_false, Bool.false_eq_true, reduceCtorEq, Nat.add_zero, Nat.zero_add]
  · obtain ⟨x1, x2⟩ := w3 (by omega)
    rw [w1, ho] at g1; rw [x1] at g2
    simp (disch := first | omega | assumption | exact ay_z1b _ | exact ay_z10 | exact ay_z11) only [ae_45, af_45_0, af_45_1, af_45_4, af_45_5, af_45_6, af_45_9, af_45_12, af_45_13, af_45_16, af_45_17, af_45_18, af_45_19, af_45_22, af_45_23, af_45_24, af_45_25, af_45_28, af_45_31, af_45_32, af_45_33, af_45_34, af_45_37, af_45_38, af_45_39_0, af_45_39_1, af_45_39_2, af_45_39_3, af_45_39_4, af_45_39_5, af_45_39_6, af_45_39_7, af_45_39_8, af_45_39_9, af_45_80, af_45_81, af_45_82, af_45_83, af_45_86, af_45_87, af_45_88, af_45_89, af_45_92, af_45_93, af_45_94, af_45_97, af_45_98, af_45_99, af_45_100, af_45_102, af_45_103, af_45_106, af_45_107, af_45_108, af_45_109, af_45_110, af_45_113, af_45_114, af_45_115, af_45_118, af_45_119, af_45_120, af_45_121, af_45_122, af_45_125, af_45_126, af_45_127, af_45_130, af_45_131, af_45_132, af_45_133, af_45_134, af_45_137, af_45_138, af_45_141, af_45_142, af_45_143, af_45_144, af_45_145, af_45_148, af_45_149, af_45_152, af_45_153, af_45_154, af_45_157, af_45_158, af_45_159, af_45_160, af_45_163, af_45_164, af_45_165, af_45_166, af_45_167, af_45_170, af_45_171, af_45_172, af_45_175, af_45_176, af_45_177, af_45_178, af_45_179, af_45_180, af_45_181, af_45_184, ae_50, af_50_0, af_50_1, af_50_4, af_50_6, af_50_7, af_50_10, af_50_11, af_50_12, af_50_14, af_50_15, af_50_18, af_50_19, af_50_20, af_50_22, af_50_23, af_50_26, af_50_27, af_50_28, af_50_30, af_50_32, af_50_35, af_50_37, af_50_39, af_50_41, af_50_43, af_50_44, af_50_45, af_50_48, af_50_50, af_50_51, af_50_54, af_50_56, af_50_58, af_50_59, af_50_60, af_50_63, af_50_65, af_50_66, af_50_69, af_50_71, af_50_73, af_50_74, af_50_77, af_50_79, af_50_81, af_50_82, af_50_84, af_50_86, af_50_87, af_50_90, af_50_91, af_50_92, af_50_94, af_50_95, af_50_96, af_50_97, af_50_100, af_50_101, af_50_102, af_50_103, af_50_105, af_50_107, af_50_108, af_50_111, af_50_113, af_50_115, af_50_116, af_50_119, af_50_121, af_50_122, af_50_123, af_50_126, af_50_127, af_50_130, af_50_132, af_50_134, af_50_136, af_50_137, af_50_138, af_50_139, af_50_140, af_50_141, af_50_142, af_50_145, af_50_146, h46, h1, h2, am_19, hs3, hw, ay_bt, g1, g2, g3, ab_tr, ab_nx, ho, ay_cl_v, ay_cl_s, ay_i_add, ay_i_mul, ay_i_eq, ay_i_lt, ay_b0, ay_b1, ay_ni, ay_in, ay_nn, ay_nl, ay_ln, if_true, if_false, ↓reduceIte, Nat.reduceAdd, Nat.reduceMul, Nat.reduceEqDiff, Nat.reduceLT, Nat.not_lt_zero, Bool.true_eq_false, Bool.false_eq_true, reduceCtorEq, Nat.add_zero, Nat.zero_add]
  · obtain ⟨⟨y1, y2⟩, z1, z2⟩ := w5 (by omega)
    rw [w1, ho] at g1; rw [y1] at g3; rw [z1] at g4
    by_cases hq : q = 60
    · subst hq
      have := am_47x (X := X) (e := e) (gb := gb) (o := o) (k := k) (vb := ay_i (ap_y P b p)) (z := ay_i (ap_z P b p)) c4
      simp (disch := first | omega | assumption | exact ay_z1b _ | exact ay_z10 | exact ay_z11) only [ae_45, af_45_0, af_45_1, af_45_4, af_45_5, af_45_6, af_45_9, af_45_12, af_45_13, af_45_16, af_45_17, af_45_18, af_45_19, af_45_22, af_45_23, af_45_24, af_45_25, af_45_28, af_45_31, af_45_32, af_45_33, af_45_34, af_45_37, af_45_38, af_45_39_0, af_45_39_1, af_45_39_2, af_45_39_3, af_45_39_4, af_45_39_5, af_45_39_6, af_45_39_7, af_45_39_8, af_45_39_9, af_45_80, af_45_81, af_45_82, af_45_83, af_45_86, af_45_87, af_45_88, af_45_89, af_45_92, af_45_93, af_45_94, af_45_97, af_45_98, af_45_99, af_45_100, af_45_102, af_45_103, af_45_106, af_45_107, af_45_108, af_45_109, af_45_110, af_45_113, af_45_114, af_45_115, af_45_118, af_45_119, af_45_120, af_45_121, af_45_122, af_45_125, af_45_126, af_45_127, af_45_130, af_45_131, af_45_132, af_45_133, af_45_134, af_45_137, af_45_138, af_45_141, af_45_142, af_45_143, af_45_144, af_45_145, af_45_148, af_45_149, af_45_152, af_45_153, af_45_154, af_45_157, af_45_158, af_45_159, af_45_160, af_45_163, af_45_164, af_45_165, af_45_166, af_45_167, af_45_170, af_45_171, af_45_172, af_45_175, af_45_176, af_45_177, af_45_178, af_45_179, af_45_180, af_45_181, af_45_184, h46, h1, h2, am_19, hs3, hw, ay_bt, g1, g3, g4, this, ab_tr, ab_nx, ho, ay_cl_v, ay_cl_s, ay_i_add, ay_i_mul, ay_i_eq, ay_i_lt, ay_b0, ay_b1, ay_ni, ay_in, ay_nn, ay_nl, ay_ln, if_true, if_false, ↓reduceIte, Nat.reduceAdd, Nat.reduceMul, Nat.reduceEqDiff, Nat.reduceLT, Nat.not_lt_zero, Bool.true_eq_false, Bool.false_eq_true, reduceCtorEq, Nat.add_zero, Nat.zero_add]
    · by_cases hk19 : k = 19
      · subst hk19
        have := am_47y (X := X) (e := e) (gb := gb) (o := o) (k := 19) (vb := ay_i (ap_y P b p)) (z := ay_i (ap_z P b p)) c4 (by omega) c3
        simp (disch := first | omega | assumption | exact ay_z1b _ | exact ay_z10 | exact ay_z11) only [ae_45, af_45_0, af_45_1, af_45_4, af_45_5, af_45_6, af_45_9, af_45_12, af_45_13, af_45_16, af_45_17, af_45_18, af_45_19, af_45_22, af_45_23, af_45_24, af_45_25, af_45_28, af_45_31, af_45_32, af_45_33, af_45_34, af_45_37, af_45_38, af_45_39_0, af_45_39_1, af_45_39_2, af_45_39_3, af_45_39_4, af_45_39_5, af_45_39_6, af_45_39_7, af_45_39_8, af_45_39_9, af_45_80, af_45_81, af_45_82, af_45_83, af_45_86, af_45_87, af_45_88, af_45_89, af_45_92, af_45_93, af_45_94, af_45_97, af_45_98, af_45_99, af_45_100, af_45_102, af_45_103, af_45_106, af_45_107, af_45_108, af_45_109, af_45_110, af_45_113, af_45_114, af_45_115, af_45_118, af_45_119, af_45_120, af_45_121, af_45_122, af_45_125, af_45_126, af_45_127, af_45_130, af_45_131, af_45_132, af_45_133, af_45_134, af_45_137, af_45_138, af_45_141, af_45_142, af_45_143, af_45_144, af_45_145, af_45_148, af_45_149, af_45_152, af_45_153, af_45_154, af_45_157, af_45_158, af_45_159, af_45_160, af_45_163, af_45_164, af_45_165, af_45_166, af_45_167, af_45_170, af_45_171, af_45_172, af_45_175, af_45_176, af_45_177, af_45_178, af_45_179, af_45_180, af_45_181, af_45_184, h46, h1, h2, am_19, hs3, hw, ay_bt, g1, g3, g4, this, ab_tr, ab_nx, ho, hq, ay_cl_v, ay_cl_s, ay_i_add, ay_i_mul, ay_i_eq, ay_i_lt, ay_b0, ay_b1, ay_ni, ay_in, ay_nn, ay_nl, ay_ln, if_true, if_false, ↓reduceIte, Nat.reduceAdd, Nat.reduceMul, Nat.reduceEqDiff, Nat.reduceLT, Nat.not_lt_zero, Bool.true_eq_false, Bool.false_eq_true, reduceCtorEq, Nat.add_zero, Nat.zero_add]
      · have := am_47 (X := X) (e := e) (gb := gb) (o := o) hW hp c3 c4 (by omega) (by omega) y2 z2
        simp (disch := first | omega | assumption | exact ay_z1b _ | exact ay_z10 | exact ay_z11) only [ae_45, af_45_0, af_45_1, af_45_4, af_45_5, af_45_6, af_45_9, af_45_12, af_45_13, af_45_16, af_45_17, af_45_18, af_45_19, af_45_22, af_45_23, af_45_24, af_45_25, af_45_28, af_45_31, af_45_32, af_45_33, af_45_34, af_45_37, af_45_38, af_45_39_0, af_45_39_1, af_45_39_2, af_45_39_3, af_45_39_4, af_45_39_5, af_45_39_6, af_45_39_7, af_45_39_8, af_45_39_9, af_45_80, af_45_81, af_45_82, af_45_83, af_45_86, af_45_87, af_45_88, af_45_89, af_45_92, af_45_93, af_45_94, af_45_97, af_45_98, af_45_99, af_45_100, af_45_102, af_45_103, af_45_106, af_45_107, af_45_108, af_45_109, af_45_110, af_45_113, af_45_114, af_45_115, af_45_118, af_45_119, af_45_120, af_45_121, af_45_122, af_45_125, af_45_126, af_45_127, af_45_130, af_45_131, af_45_132, af_45_133, af_45_134, af_45_137, af_45_138, af_45_141, af_45_142, af_45_143, af_45_144, af_45_145, af_45_148, af_45_149, af_45_152, af_45_153, af_45_154, af_45_157, af_45_158, af_45_159, af_45_160, af_45_163, af_45_164, af_45_165, af_45_166, af_45_167, af_45_170, af_45_171, af_45_172, af_45_175, af_45_176, af_45_177, af_45_178, af_45_179, af_45_180, af_45_181, af_45_184, h46, h1, h2, am_19, hs3, hw, ay_bt, g1, g3, g4, this, ab_tr, ab_nx, ho, hq, hk19, ay_cl_v, ay_cl_s, ay_i_add, ay_i_mul, ay_i_eq, ay_i_lt, ay_b0, ay_b1, ay_ni, ay_in, ay_nn, ay_nl, ay_ln, if_true, if_false, ↓reduceIte, Nat.reduceAdd, Nat.reduceMul, Nat.reduceEqDiff, Nat.reduceLT, Nat.not_lt_zero, Bool.true_eq_false, Bool.false_eq_true, reduceCtorEq, Nat.add_zero, Nat.zero_add]
  · obtain ⟨x1, x2⟩ := w3 (by omega)
    obtain ⟨y1, y2⟩ := w4 (by omega)
    obtain ⟨z1, z2⟩ := w6 (by omega)
    rw [w1, ho] at g1; rw [x1] at g2; rw [y1] at g3; rw [z1] at g4
    rcases lv _ y2 with hn | ⟨v, hv, hn⟩
    · simp (disch := first | omega | assumption | exact ay_z1b _ | exact ay_z10 | exact ay_z11) only [ae_45, af_45_0, af_45_1, af_45_4, af_45_5, af_45_6, af_45_9, af_45_12, af_45_13, af_45_16, af_45_17, af_45_18, af_45_19, af_45_22, af_45_23, af_45_24, af_45_25, af_45_28, af_45_31, af_45_32, af_45_33, af_45_34, af_45_37, af_45_38, af_45_39_0, af_45_39_1, af_45_39_2, af_45_39_3, af_45_39_4, af_45_39_5, af_45_39_6, af_45_39_7, af_45_39_8, af_45_39_9, af_45_80, af_45_81, af_45_82, af_45_83, af_45_86, af_45_87, af_45_88, af_45_89, af_45_92, af_45_93, af_45_94, af_45_97, af_45_98, af_45_99, af_45_100, af_45_102, af_45_103, af_45_106, af_45_107, af_45_108, af_45_109, af_45_110, af_45_113, af_45_114, af_45_115, af_45_118, af_45_119, af_45_120, af_45_121, af_45_122, af_45_125, af_45_126, af_45_127, af_45_130, af_45_131, af_45_132, af_45_133, af_45_134, af_45_137, af_45_138, af_45_141, af_45_142, af_45_143, af_45_144, af_45_145, af_45_148, af_45_149, af_45_152, af_45_153, af_45_154, af_45_157, af_45_158, af_45_159, af_45_160, af_45_163, af_45_164, af_45_165, af_45_166, af_45_167, af_45_170, af_45_171, af_45_172, af_45_175, af_45_176, af_45_177, af_45_178, af_45_179, af_45_180, af_45_181, af_45_184, ae_50, af_50_0, af_50_1, af_50_4, af_50_6, af_50_7, af_50_10, af_50_11, af_50_12, af_50_14, af_50_15, af_50_18, af_50_19, af_50_20, af_50_22, af_50_23, af_50_26, af_50_27, af_50_28, af_50_30, af_50_32, af_50_35, af_50_37, af_50_39, af_50_41, af_50_43, af_50_44, af_50_45, af_50_48, af_50_50, af_50_51, af_50_54, af_50_56, af_50_58, af_50_59, af_50_60, af_50_63, af_50_65, af_50_66, af_50_69, af_50_71, af_50_73, af_50_74, af_50_77, af_50_79, af_50_81, af_50_82, af_50_84, af_50_86, af_50_87, af_50_90, af_50_91, af_50_92, af_50_94, af_50_95, af_50_96, af_50_97, af_50_100, af_50_101, af_50_102, af_50_103, af_50_105, af_50_107, af_50_108, af_50_111, af_50_113, af_50_115, af_50_116, af_50_119, af_50_121, af_50_122, af_50_123, af_50_126, af_50_127, af_50_130, af_50_132, af_50_134, af_50_136, af_50_137, af_50_138, af_50_139, af_50_140, af_50_141, af_50_142, af_50_145, af_50_146, h46, h1, h2, am_19, hs3, hw, ay_bt, g1, g2, g3, g4, hn, ab_tr, ab_nx, ho, ay_cl_v, ay_cl_s, ay_i_add, ay_i_mul, ay_i_eq, ay_i_lt, ay_b0, ay_b1, ay_ni, ay_in, ay_nn, ay_nl, ay_ln, if_true, if_false, ↓reduceIte, Nat.reduceAdd, Nat.reduceMul, Nat.reduceEqDiff, Nat.reduceLT, Nat.not_lt_zero, Bool.true_eq_false, Bool.false_eq_true, reduceCtorEq, Nat.add_zero, Nat.zero_add]
    · have hm : v * 4 = 4 * v := by omega
      simp (disch := first | omega | assumption | exact ay_z1b _ | exact ay_z10 | exact ay_z11) only [ae_45, af_45_0, af_45_1, af_45_4, af_45_5, af_45_6, af_45_9, af_45_12, af_45_13, af_45_16, af_45_17, af_45_18, af_45_19, af_45_22, af_45_23, af_45_24, af_45_25, af_45_28, af_45_31, af_45_32, af_45_33, af_45_34, af_45_37, af_45_38, af_45_39_0, af_45_39_1, af_45_39_2, af_45_39_3, af_45_39_4, af_45_39_5, af_45_39_6, af_45_39_7, af_45_39_8, af_45_39_9, af_45_80, af_45_81, af_45_82, af_45_83, af_45_86, af_45_87, af_45_88, af_45_89, af_45_92, af_45_93, af_45_94, af_45_97, af_45_98, af_45_99, af_45_100, af_45_102, af_45_103, af_45_106, af_45_107, af_45_108, af_45_109, af_45_110, af_45_113, af_45_114, af_45_115, af_45_118, af_45_119, af_45_120, af_45_121, af_45_122, af_45_125, af_45_126, af_45_127, af_45_130, af_45_131, af_45_132, af_45_133, af_45_134, af_45_137, af_45_138, af_45_141, af_45_142, af_45_143, af_45_144, af_45_145, af_45_148, af_45_149, af_45_152, af_45_153, af_45_154, af_45_157, af_45_158, af_45_159, af_45_160, af_45_163, af_45_164, af_45_165, af_45_166, af_45_167, af_45_170, af_45_171, af_45_172, af_45_175, af_45_176, af_45_177, af_45_178, af_45_179, af_45_180, af_45_181, af_45_184, ae_50, af_50_0, af_50_1, af_50_4, af_50_6, af_50_7, af_50_10, af_50_11, af_50_12, af_50_14, af_50_15, af_50_18, af_50_19, af_50_20, af_50_22, af_50_23, af_50_26, af_50_27, af_50_28, af_50_30, af_50_32, af_50_35, af_50_37, af_50_39, af_50_41, af_50_43, af_50_44, af_50_45, af_50_48, af_50_50, af_50_51, af_50_54, af_50_56, af_50_58, af_50_59, af_50_60, af_50_63, af_50_65, af_50_66, af_50_69, af_50_71, af_50_73, af_50_74, af_50_77, af_50_79, af_50_81, af_50_82, af_50_84, af_50_86, af_50_87, af_50_90, af_50_91, af_50_92, af_50_94, af_50_95, af_50_96, af_50_97, af_50_100, af_50_101, af_50_102, af_50_103, af_50_105, af_50_107, af_50_108, af_50_111, af_50_113, af_50_115, af_50_116, af_50_119, af_50_121, af_50_122, af_50_123, af_50_126, af_50_127, af_50_130, af_50_132, af_50_134, af_50_136, af_50_137, af_50_138, af_50_139, af_50_140, af_50_141, af_50_142, af_50_145, af_50_146, h46, h1, h2, am_19, hs3, hw, ay_bt, g1, g2, g3, g4, hn, hm, ay_i_ct, ab_tr, ab_nx, ho, ay_cl_v, ay_cl_s, ay_i_add, ay_i_mul, ay_i_eq, ay_i_lt, ay_b0, ay_b1, ay_ni, ay_in, ay_nn, ay_nl, ay_ln, if_true, if_false, ↓reduceIte, Nat.reduceAdd, Nat.reduceMul, Nat.reduceEqDiff, Nat.reduceLT, Nat.not_lt_zero, Bool.true_eq_false, Bool.false_eq_true, reduceCtorEq, Nat.add_zero, Nat.zero_add]
  · obtain ⟨x1, x2⟩ := w3 (by omega)
    obtain ⟨y1, y2⟩ := w4 (by omega)
    obtain ⟨z1, z2⟩ := w6 (by omega)
    rw [w1, ho] at g1; rw [x1] at g2; rw [y1] at g3; rw [z1] at g4
    rcases lv _ x2 with hn | ⟨v, hv, hn⟩
    · simp (disch := first | omega | assumption | exact ay_z1b _ | exact ay_z10 | exact ay_z11) only [ae_45, af_45_0, af_45_1, af_45_4, af_45_5, af_45_6, af_45_9, af_45_12, af_45_13, af_45_16, af_45_17, af_45_18, af_45_19, af_45_22, af_45_23, af_45_24, af_45_25, af_45_28, af_45_31, af_45_32, af_45_33, af_45_34, af_45_37, af_45_38, af_45_39_0, af_45_39_1, af_45_39_2, af_45_39_3, af_45_39_4, af_45_39_5, af_45_39_6, af_45_39_7, af_45_39_8, af_45_39_9, af_45_80, af_45_81, af_45_82, af_45_83, af_45_86, af_45_87, af_45_88, af_45_89, af_45_92, af_45_93, af_45_94, af_45_97, af_45_98, af_45_99, af_45_100, af_45_102, af_45_103, af_45_106, af_45_107, af_45_108, af_45_109, af_45_110, af_45_113, af_45_114, af_45_115, af_45_118, af_45_119, af_45_120, af_45_121, af_45_122, af_45_125, af_45_126, af_45_127, af_45_130, af_45_131, af_45_132, af_45_133, af_45_134, af_45_137, af_45_138, af_45_141, af_45_142, af_45_143, af_45_144, af_45_145, af_45_148, af_45_149, af_45_152, af_45_153, af_45_154, af_45_157, af_45_158, af_45_159, af_45_160, af_45_163, af_45_164, af_45_165, af_45_166, af_45_167, af_45_170, af_45_171, af_45_172, af_45_175, af_45_176, af_45_177, af_45_178, af_45_179, af_45_180, af_45_181, af_45_184, ae_50, af_50_0, af_50_1, af_50_4, af_50_6, af_50_7, af_50_10, af_50_11, af_50_12, af_50_14, af_50_15, af_50_18, af_50_19, af_50_20, af_50_22, af_50_23, af_50_26, af_50_27, af_50_28, af_50_30, af_50_32, af_50_35, af_50_37, af_50_39, af_50_41, af_50_43, af_50_44, af_50_45, af_50_48, af_50_50, af_50_51, af_50_54, af_50_56, af_50_58, af_50_59, af_50_60, af_50_63, af_50_65, af_50_66, af_50_69, af_50_71, af_50_73, af_50_74, af_50_77, af_50_79, af_50_81, af_50_82, af_50_84, af_50_86, af_50_87, af_50_90, af_50_91, af_50_92, af_50_94, af_50_95, af_50_96, af_50_97, af_50_100, af_50_101, af_50_102, af_50_103, af_50_105, af_50_107, af_50_108, af_50_111, af_50_113, af_50_115, af_50_116, af_50_119, af_50_121, af_50_122, af_50_123, af_50_126, af_50_127, af_50_130, af_50_132, af_50_134, af_50_136, af_50_137, af_50_138, af_50_139, af_50_140, af_50_141, af_50_142, af_50_145, af_50_146, h46, h1, h2, am_19, hs3, hw, ay_bt, g1, g2, g3, g4, hn, ab_tr, ab_nx, ho, ay_cl_v, ay_cl_s, ay_i_add, ay_i_mul, ay_i_eq, ay_i_lt, ay_b0, ay_b1, ay_ni, ay_in, ay_nn, ay_nl, ay_ln, if_true, if_false, ↓reduceIte, Nat.reduceAdd, Nat.reduceMul, Nat.reduceEqDiff, Nat.reduceLT, Nat.not_lt_zero, Bool.true_eq_false, Bool.false_eq_true, reduceCtorEq, Nat.add_zero, Nat.zero_add]
    · have hm : v * 4 = 4 * v := by omega
      simp (disch := first | omega | assumption | exact ay_z1b _ | exact ay_z10 | exact ay_z11) only [ae_45, af_45_0, af_45_1, af_45_4, af_45_5, af_45_6, af_45_9, af_45_12, af_45_13, af_45_16, af_45_17, af_45_18, af_45_19, af_45_22, af_45_23, af_45_24, af_45_25, af_45_28, af_45_31, af_45_32, af_45_33, af_45_34, af_45_37, af_45_38, af_45_39_0, af_45_39_1, af_45_39_2, af_45_39_3, af_45_39_4, af_45_39_5, af_45_39_6, af_45_39_7, af_45_39_8, af_45_39_9, af_45_80, af_45_81, af_45_82, af_45_83, af_45_86, af_45_87, af_45_88, af_45_89, af_45_92, af_45_93, af_45_94, af_45_97, af_45_98, af_45_99, af_45_100, af_45_102, af_45_103, af_45_106, af_45_107, af_45_108, af_45_109, af_45_110, af_45_113, af_45_114, af_45_115, af_45_118, af_45_119, af_45_120, af_45_121, af_45_122, af_45_125, af_45_126, af_45_127, af_45_130, af_45_131, af_45_132, af_45_133, af_45_134, af_45_137, af_45_138, af_45_141, af_45_142, af_45_143, af_45_144, af_45_145, af_45_148, af_45_149, af_45_152, af_45_153, af_45_154, af_45_157, af_45_158, af_45_159, af_45_160, af_45_163, af_45_164, af_45_165, af_45_166, af_45_167, af_45_170, af_45_171, af_45_172, af_45_175, af_45_176, af_45_177, af_45_178, af_45_179, af_45_180, af_45_181, af_45_184, ae_50, af_50_0, af_50_1, af_50_4, af_50_6, af_50_7, af_50_10, af_50_11, af_50_12, af_50_14, af_50_15, af_50_18, af_50_19, af_50_20, af_50_22, af_50_23, af_50_26, af_50_27, af_50_28, af_50_30, af_50_32, af_50_35, af_50_37, af_50_39, af_50_41, af_50_43, af_50_44, af_50_45, af_50_48, af_50_50, af_50_51, af_50_54, af_50_56, af_50_58, af_50_59, af_50_60, af_50_63, af_50_65, af_50_66, af_50_69, af_50_71, af_50_73, af_50_74, af_50_77, af_50_79, af_50_81, af_50_82, af_50_84, af_50_86, af_50_87, af_50_90, af_50_91, af_50_92, af_50_94, af_50_95, af_50_96, af_50_97, af_50_100, af_50_101, af_50_102, af_50_103, af_50_105, af_50_107, af_50_108, af_50_111, af_50_113, af_50_115, af_50_116, af_50_119, af_50_121, af_50_122, af_50_123, af_50_126, af_50_127, af_50_130, af_50_132, af_50_134, af_50_136, af_50_137, af_50_138, af_50_139, af_50_140, af_50_141, af_50_142, af_50_145, af_50_146, h46, h1, h2, am_19, hs3, hw, ay_bt, g1, g2, g3, g4, hn, hm, ay_i_ct, ab_tr, ab_nx, ho, ay_cl_v, ay_cl_s, ay_i_add, ay_i_mul, ay_i_eq, ay_i_lt, ay_b0, ay_b1, ay_ni, ay_in, ay_nn, ay_nl, ay_ln, if_true, if_false, ↓reduceIte, Nat.reduceAdd, Nat.reduceMul, Nat.reduceEqDiff, Nat.reduceLT, Nat.not_lt_zero, Bool.true_eq_false, Bool.false_eq_true, reduceCtorEq, Nat.add_zero, Nat.zero_add]
  · obtain ⟨x1, x2⟩ := w3 (by omega)
    rw [w1, ho] at g1; rw [x1] at g2
    by_cases hn : C 23 k (ap_x P b p) = ay_n 1 <;> simp (disch := first | omega | assumption | exact ay_z1b _ | exact ay_z10 | exact ay_z11) only [ae_45, af_45_0, af_45_1, af_45_4, af_45_5, af_45_6, af_45_9, af_45_12, af_45_13, af_45_16, af_45_17, af_45_18, af_45_19, af_45_22, af_45_23, af_45_24, af_45_25, af_45_28, af_45_31, af_45_32, af_45_33, af_45_34, af_45_37, af_45_38, af_45_39_0, af_45_39_1, af_45_39_2, af_45_39_3, af_45_39_4, af_45_39_5, af_45_39_6, af_45_39_7, af_45_39_8, af_45_39_9, af_45_80, af_45_81, af_45_82, af_45_83, af_45_86, af_45_87, af_45_88, af_45_89, af_45_92, af_45_93, af_45_94, af_45_97, af_45_98, af_45_99, af_45_100, af_45_102, af_45_103, af_45_106, af_45_107, af_45_108, af_45_109, af_45_110, af_45_113, af_45_114, af_45_115, af_45_118, af_45_119, af_45_120, af_45_121, af_45_122, af_45_125, af_45_126, af_45_127, af_45_130, af_45_131, af_45_132, af_45_133, af_45_134, af_45_137, af_45_138, af_45_141, af_45_142, af_45_143, af_45_144, af_45_145, af_45_148, af_45_149, af_45_152, af_45_153, af_45_154, af_45_157, af_45_158, af_45_159, af_45_160, af_45_163, af_45_164, af_45_165, af_45_166, af_45_167, af_45_170, af_45_171, af_45_172, af_45_175, af_45_176, af_45_177, af_45_178, af_45_179, af_45_180, af_45_181, af_45_184, h46, h1, h2, am_19, hs3, hw, ay_bt, g1, g2, g3, hn, ab_tr, ab_nx, ho, ay_cl_v, ay_cl_s, ay_i_add, ay_i_mul, ay_i_eq, ay_i_lt, ay_b0, ay_b1, ay_ni, ay_in, ay_nn, ay_nl, ay_ln, if_true, if_false, ↓reduceIte, Nat.reduceAdd, Nat.reduceMul, Nat.reduceEqDiff, Nat.reduceLT, Nat.not_lt_zero, Bool.true_eq_false, Bool.false_eq_true, reduceCtorEq, Nat.add_zero, Nat.zero_add]
  · rw [w1, ho] at g1
    simp (disch := first | omega | assumption | exact ay_z1b _ | exact ay_z10 | exact ay_z11) only [ae_45, af_45_0, af_45_1, af_45_4, af_45_5, af_45_6, af_45_9, af_45_12, af_45_13, af_45_16, af_45_17, af_45_18, af_45_19, af_45_22, af_45_23, af_45_24, af_45_25, af_45_28, af_45_31, af_45_32, af_45_33, af_45_34, af_45_37, af_45_38, af_45_39_0, af_45_39_1, af_45_39_2, af_45_39_3, af_45_39_4, af_45_39_5, af_45_39_6, af_45_39_7, af_45_39_8, af_45_39_9, af_45_80, af_45_81, af_45_82, af_45_83, af_45_86, af_45_87, af_45_88, af_45_89, af_45_92, af_45_93, af_45_94, af_45_97, af_45_98, af_45_99, af_45_100, af_45_102, af_45_103, af_45_106, af_45_107, af_45_108, af_45_109, af_45_110, af_45_113, af_45_114, af_45_115, af_45_118, af_45_119, af_45_120, af_45_121, af_45_122, af_45_125, af_45_126, af_45_127, af_45_130, af_45_131, af_45_132, af_45_133, af_45_134, af_45_137, af_45_138, af_45_141, af_45_142, af_45_143, af_45_144, af_45_145, af_45_148, af_45_149, af_45_152, af_45_153, af_45_154, af_45_157, af_45_158, af_45_159, af_45_160, af_45_163, af_45_164, af_45_165, af_45_166, af_45_167, af_45_170, af_45_171, af_45_172, af_45_175, af_45_176, af_45_177, af_45_178, af_45_179, af_45_180, af_45_181, af_45_184, h46, h1, h2, am_19, hs3, hw, ay_bt, g1, g3, ab_tr, ab_nx, ho, ay_cl_v, ay_cl_s, ay_i_add, ay_i_mul, ay_i_eq, ay_i_lt, ay_b0, ay_b1, ay_ni, ay_in, ay_nn, ay_nl, ay_ln, if_true, if_false, ↓reduceIte, Nat.reduceAdd, Nat.reduceMul, Nat.reduceEqDiff, Nat.reduceLT, Nat.not_lt_zero, Bool.true_eq_false, Bool.false_eq_true, reduceCtorEq, Nat.add_zero, Nat.zero_add]
  · obtain ⟨⟨y1, y2⟩, z1, z2⟩ := w5 (by omega)
    rw [w1, ho] at g1; rw [y1] at g3; rw [z1] at g4
    by_cases hk19 : k = 19
    · subst hk19
      have := am_48x (X := X) (e := e) (gb := gb) (o := o) (k := 19) (vb := ay_i (6 + ap_y P b p)) (z := ay_i (ap_z P b p)) c3
      simp (disch := first | omega | assumption | exact ay_z1b _ | exact ay_z10 | exact ay_z11) only [ae_45, af_45_0, af_45_1, af_45_4, af_45_5, af_45_6, af_45_9, af_45_12, af_45_13, af_45_16, af_45_17, af_45_18, af_45_19, af_45_22, af_45_23, af_45_24, af_45_25, af_45_28, af_45_31, af_45_32, af_45_33, af_45_34, af_45_37, af_45_38, af_45_39_0, af_45_39_1, af_45_39_2, af_45_39_3, af_45_39_4, af_45_39_5, af_45_39_6, af_45_39_7, af_45_39_8, af_45_39_9, af_45_80, af_45_81, af_45_82, af_45_83, af_45_86, af_45_87, af_45_88, af_45_89, af_45_92, af_45_93, af_45_94, af_45_97, af_45_98, af_45_99, af_45_100, af_45_102, af_45_103, af_45_106, af_45_107, af_45_108, af_45_109, af_45_110, af_45_113, af_45_114, af_45_115, af_45_118, af_45_119, af_45_120, af_45_121, af_45_122, af_45_125, af_45_126, af_45_127, af_45_130, af_45_131, af_45_132, af_45_133, af_45_134, af_45_137, af_45_138, af_45_141, af_45_142, af_45_143, af_45_144, af_45_145, af_45_148, af_45_149, af_45_152, af_45_153, af_45_154, af_45_157, af_45_158, af_45_159, af_45_160, af_45_163, af_45_164, af_45_165, af_45_166, af_45_167, af_45_170, af_45_171, af_45_172, af_45_175, af_45_176, af_45_177, af_45_178, af_45_179, af_45_180, af_45_181, af_45_184, h46, h1, h2, am_19, hs3, hw, ay_bt, g1, g3, g4, this, ab_tr, ab_nx, ho, ay_cl_v, ay_cl_s, ay_i_add, ay_i_mul, ay_i_eq, ay_i_lt, ay_b0, ay_b1, ay_ni, ay_in, ay_nn, ay_nl, ay_ln, if_true, if_false, ↓reduceIte, Nat.reduceAdd, Nat.reduceMul, Nat.reduceEqDiff, Nat.reduceLT, Nat.not_lt_zero, Bool.true_eq_false, Bool.false_eq_true, reduceCtorEq, Nat.add_zero, Nat.zero_add]
    · have := am_48 (X := X) (e := e) (gb := gb) (o := o) (b := 6 + ap_y P b p) hW hp c3 (by omega) (by omega) z2
      simp (disch := first | omega | assumption | exact ay_z1b _ | exact ay_z10 | exact ay_z11) only [ae_45, af_45_0, af_45_1, af_45_4, af_45_5, af_45_6, af_45_9, af_45_12, af_45_13, af_45_16, af_45_17, af_45_18, af_45_19, af_45_22, af_45_23, af_45_24, af_45_25, af_45_28, af_45_31, af_45_32, af_45_33, af_45_34, af_45_37, af_45_38, af_45_39_0, af_45_39_1, af_45_39_2, af_45_39_3, af_45_39_4, af_45_39_5, af_45_39_6, af_45_39_7, af_45_39_8, af_45_39_9, af_45_80, af_45_81, af_45_82, af_45_83, af_45_86, af_45_87, af_45_88, af_45_89, af_45_92, af_45_93, af_45_94, af_45_97, af_45_98, af_45_99, af_45_100, af_45_102, af_45_103, af_45_106, af_45_107, af_45_108, af_45_109, af_45_110, af_45_113, af_45_114, af_45_115, af_45_118, af_45_119, af_45_120, af_45_121, af_45_122, af_45_125, af_45_126, af_45_127, af_45_130, af_45_131, af_45_132, af_45_133, af_45_134, af_45_137, af_45_138, af_45_141, af_45_142, af_45_143, af_45_144, af_45_145, af_45_148, af_45_149, af_45_152, af_45_153, af_45_154, af_45_157, af_45_158, af_45_159, af_45_160, af_45_163, af_45_164, af_45_165, af_45_166, af_45_167, af_45_170, af_45_171, af_45_172, af_45_175, af_45_176, af_45_177, af_45_178, af_45_179, af_45_180, af_45_181, af_45_184, h46, h1, h2, am_19, hs3, hw, ay_bt, g1, g3, g4, this, ab_tr, ab_nx, ho, hk19, ay_cl_v, ay_cl_s, ay_i_add, ay_i_mul, ay_i_eq, ay_i_lt, ay_b0, ay_b1, ay_ni, ay_in, ay_nn, ay_nl, ay_ln, if_true, if_false, ↓reduceIte, Nat.reduceAdd, Nat.reduceMul, Nat.reduceEqDiff, Nat.reduceLT, Nat.not_lt_zero, Bool.true_eq_false, Bool.false_eq_true, reduceCtorEq, Nat.add_zero, Nat.zero_add]
  · obtain ⟨x1, x2⟩ := w3 (by omega)
    rw [w1, ho] at g1; rw [x1] at g2
    have := am_49 (X := X) (e := e) (gb := gb) (o := o) hW hp hc hb h1 x2
    simp (disch := first | omega | assumption | exact ay_z1b _ | exact ay_z10 | exact ay_z11) only [ae_45, af_45_0, af_45_1, af_45_4, af_45_5, af_45_6, af_45_9, af_45_12, af_45_13, af_45_16, af_45_17, af_45_18, af_45_19, af_45_22, af_45_23, af_45_24, af_45_25, af_45_28, af_45_31, af_45_32, af_45_33, af_45_34, af_45_37, af_45_38, af_45_39_0, af_45_39_1, af_45_39_2, af_45_39_3, af_45_39_4, af_45_39_5, af_45_39_6, af_45_39_7, af_45_39_8, af_45_39_9, af_45_80, af_45_81, af_45_82, af_45_83, af_45_86, af_45_87, af_45_88, af_45_89, af_45_92, af_45_93, af_45_94, af_45_97, af_45_98, af_45_99, af_45_100, af_45_102, af_45_103, af_45_106, af_45_107, af_45_108, af_45_109, af_45_110, af_45_113, af_45_114, af_45_115, af_45_118, af_45_119, af_45_120, af_45_121, af_45_122, af_45_125, af_45_126, af_45_127, af_45_130, af_45_131, af_45_132, af_45_133, af_45_134, af_45_137, af_45_138, af_45_141, af_45_142, af_45_143, af_45_144, af_45_145, af_45_148, af_45_149, af_45_152, af_45_153, af_45_154, af_45_157, af_45_158, af_45_159, af_45_160, af_45_163, af_45_164, af_45_165, af_45_166, af_45_167, af_45_170, af_45_171, af_45_172, af_45_175, af_45_176, af_45_177, af_45_178, af_45_179, af_45_180, af_45_181, af_45_184, h46, h1, h2, am_19, hs3, hw, ay_bt, g1, g2, this, ab_tr, ab_nx, ho, ay_cl_v, ay_cl_s, ay_i_add, ay_i_mul, ay_i_eq, ay_i_lt, ay_b0, ay_b1, ay_ni, ay_in, ay_nn, ay_nl, ay_ln, if_true, if_false, ↓reduceIte, Nat.reduceAdd, Nat.reduceMul, Nat.reduceEqDiff, Nat.reduceLT, Nat.not_lt_zero, Bool.true_eq_false, Bool.false_eq_true, reduceCtorEq, Nat.add_zero, Nat.zero_add]
/-- a step keeps the machine in order -/
theorem ab_keep (hc : ai_mc C P (k + 1) q) (hW : ap_wf P) (hb : b < 12) (h1 : C 22 k 1 = ay_i b) (hpn : p < ap_sz P b) (h2 : C 22 k 2 = ay_i p) (ht : ab_tr P C k q b p = 0) : ai_mc (ab_nx P C k q b p) P (ab_d (ap_o P b p) k) (ab_q (ap_o P b p) q) := by
  obtain ⟨c1, c2, c3, c4, c5, c6⟩ := id hc
  obtain ⟨w1, w2, w3, w4, w5, w6⟩ := hW.2.2.1 b p hb hpn
  have lv := (c5 k (by omega)).2.2
  have top : ∀ C' : ax_M, (∀ f i j, ¬ (f = 22 ∧ i = k ∧ j = 2) → ¬ (f = 23 ∧ i = k) → ¬ f = 20 → C' f i j = C f i j) → (∀ l, l < 8 → ai_v (C' 23 k l) q) → (∀ i z, i < q → z < 4 → ai_v (C' 20 0 (4 * i + z)) q) → ai_mc C' P (k + 1) q := by
    intro C' hf hl hg
    refine ⟨c1, c2, by rw [hf _ _ _ (by omega) (by omega) (by omega)]; exact c3, by rw [hf _ _ _ (by omega) (by omega) (by omega)]; exact c4, fun m hm => ?_, hg⟩
    obtain ⟨⟨b', q1, q2, q3⟩, q4, q5⟩ := c5 m hm
    refine ⟨⟨b', q1, by rw [hf _ _ _ (by omega) (by omega) (by omega)]; exact q2, fun hm1 => ?_⟩, by rw [hf _ _ _ (by omega) (by omega) (by omega)]; exact q4, fun l hl' => ?_⟩
    · obtain ⟨p', r1, r2, r3⟩ := q3 hm1
      exact ⟨p', r1, r2, by rw [hf _ _ _ (by omega) (by omega) (by omega)]; exact r3⟩
    · by_cases hmk : m = k
      · subst hmk; exact hl l hl'
      · rw [hf _ _ _ (by omega) (by omega) (by omega)]; exact q5 l hl'
  have call : ∀ b' z n, b' < 12 → (ap_o P b p = 2 ∨ ap_o P b p = 7) → k < 19 → ai_mc (ab_ca C k b' z n) P (k + 2) q := by
    intro b' z n hb' ho hk
    have hf : ∀ f i j, ¬ (f = 18 ∧ j = 3) → ¬ (f = 22 ∧ i = k + 1) → ¬ (f = 23 ∧ i = k + 1) → ab_ca C k b' z n f i j = C f i j := by
      intro f i j a1 a2 a3
      unfold ab_ca
      rw [if_neg (by omega), if_neg (by omega), if_neg (by omega), if_neg (by omega), if_neg (by omega)]
    refine ⟨by omega, c2, by simp [ab_ca], by rw [hf _ _ _ (by omega) (by omega) (by omega)]; exact c4, fun m hm => ?_, fun i z hi hz => by rw [hf _ _ _ (by omega) (by omega) (by omega)]; exact c6 i z hi hz⟩
    by_cases hmk : m = k + 1
    · subst hmk
      refine ⟨⟨b', hb', by simp [ab_ca], fun h => by omega⟩, .inl (by simp [ab_ca]), fun l hl => ?_⟩
      have : ab_ca C k b' z n 23 (k + 1) l = if l < n ∧ z + l < 8 then C 23 k (z + l) else ay_n 1 := by simp [ab_ca, hl]
      rw [this]
      split
      · rename_i hh; exact lv _ hh.2
      · exact .inl rfl
    · obtain ⟨⟨b2, q1, q2, q3⟩, q4, q5⟩ := c5 m (by omega)
      rw [hf 22 m 1 (by omega) (by omega) (by omega), hf 22 m 2 (by omega) (by omega) (by omega), hf 22 m 3 (by omega) (by omega) (by omega)]
      refine ⟨⟨b2, q1, q2, fun hm1 => ?_⟩, q4, fun l hl => by rw [hf _ _ _ (by omega) (by omega) (by omega)]; exact q5 l hl⟩
      by_cases hmk2 : m = k
      · subst hmk2
        rw [h1, ay_i_eq (by omega) (by omega)] at q2
        subst q2
        exact ⟨p, hpn, ho, h2⟩
      · exact q3 (by omega)
  have : ap_o P b p = 0 ∨ ap_o P b p = 1 ∨ ap_o P b p = 2 ∨ ap_o P b p = 3 ∨ ap_o P b p = 4 ∨ ap_o P b p = 5 ∨ ap_o P b p = 6 ∨ ap_o P b p = 7 ∨ ap_o P b p = 8 := by omega
  rcases this with ho | ho | ho | ho | ho | ho | ho | ho | ho
  · obtain ⟨y1, y2⟩ := w4 (by omega)
    simp only [ab_nx, ho, ab_d, ab_q]
    refine top _ (fun f i j a1 a2 a3 => by simp only [ax_u3]; grind) (fun l hl => ?_) (fun i z hi hz => by simp only [ax_u3]; exact c6 i z hi hz)
    by_cases hlx : l = ap_x P b p
    · subst hlx; simp only [ax_u3]; simpa using lv _ y2
    · have : ax_u3 (ax_u3 C 23 k (ap_x P b p) (C 23 k (ap_y P b p))) 22 k 2 (ay_i (p + 1)) 23 k l = C 23 k l := by simp only [ax_u3]; grind
      rw [this]; exact lv l hl
  · simp only [ab_nx, ho, ab_d, ab_q]
    refine top _ (fun f i j a1 a2 a3 => by simp only [ax_u3]; grind) (fun l hl => ?_) (fun i z hi hz => by simp only [ax_u3]; exact c6 i z hi hz)
    by_cases hlx : l = ap_x P b p
    · subst hlx; simp only [ax_u3]; exact .inl (by simp)
    · have : ax_u3 (ax_u3 C 23 k (ap_x P b p) (ay_n 1)) 22 k 2 (ay_i (p + 1)) 23 k l = C 23 k l := by simp only [ax_u3]; grind
      rw [this]; exact lv l hl
  · obtain ⟨⟨y1, y2⟩, z1, z2⟩ := w5 (by omega)
    have hq60 : q < 60 := by
      simp only [ab_tr, ho] at ht
      split at ht
      · omega
      · omega
    have hk19 : k < 19 := by
      simp only [ab_tr, ho] at ht
      split at ht
      · omega
      · split at ht <;> omega
    obtain ⟨d1, d2, d3, d4, d5, d6⟩ := call (ap_y P b p) (ap_z P b p) (ap_mn P (ap_y P b p)) (by omega) (.inl ho) hk19
    simp only [ab_nx, ho, ab_d, ab_q]
    generalize ab_ca C k (ap_y P b p) (ap_z P b p) (ap_mn P (ap_y P b p)) = D at *
    generalize hE : ab_m2 (ax_u3 D 19 0 q (ay_i (ap_y P b p))) k q 0 = E
    have hf : ∀ f i j, ¬ (f = 18 ∧ j = 4) → ¬ (f = 22 ∧ i = k + 1 ∧ j = 3) → ¬ (f = 23 ∧ i = k + 1 ∧ j = 7) → ¬ (f = 20 ∧ 4 * q ≤ j) → ¬ f = 19 → E f i j = D f i j := by
      intro f i j a1 a2 a3 a4 a5
      rw [← hE]
      simp only [ab_m2, ax_u3]
      rw [if_neg (by omega), if_neg (by omega), if_neg (by omega), if_neg (by omega), if_neg (by omega)]
    refine ⟨d1, by simp; omega, by rw [hf _ _ _ (by omega) (by omega) (by omega) (by omega) (by omega)]; exact d3, by rw [← hE]; simp [ab_m2], fun m hm => ?_, fun i z hi hz => ?_⟩
    · obtain ⟨⟨b', q1, q2, q3⟩, q4, q5⟩ := d5 m hm
      rw [hf 22 m 1 (by omega) (by omega) (by omega) (by omega) (by omega), hf 22 m 2 (by omega) (by omega) (by omega) (by omega) (by omega)]
      refine ⟨⟨b', q1, q2, q3⟩, ?_, fun l hl => ?_⟩
      · by_cases hmk : m = k + 1
        · subst hmk; rw [← hE]; exact .inr ⟨q, by simp, by simp [ab_m2]⟩
        · rw [hf _ _ _ (by omega) (by omega) (by omega) (by omega) (by omega)]; exact ai_v_le q4 (by simp)
      · by_cases hmk : m = k + 1 ∧ l = 7
        · obtain ⟨rfl, rfl⟩ := hmk; rw [← hE]; exact .inr ⟨q, by simp, by simp [ab_m2]⟩
        · rw [hf _ _ _ (by omega) (by omega) (by omega) (by omega) (by omega)]; exact ai_v_le (q5 l hl) (by simp)
    · by_cases hiq : i = q
      · subst hiq; rw [← hE]; exact .inl (by simp [ab_m2]; omega)
      · simp at hi
        rw [hf _ _ _ (by omega) (by omega) (by omega) (by omega) (by omega)]; exact ai_v_le (d6 i z (by omega) hz) (by simp)
  · obtain ⟨y1, y2⟩ := w4 (by omega)
    obtain ⟨z1, z2⟩ := w6 (by omega)
    have hn : ¬ C 23 k (ap_y P b p) = ay_n 1 := by
      intro h; simp [ab_tr, ho, h] at ht
    obtain ⟨v, hv, hv2⟩ := (lv _ y2).resolve_left hn
    simp only [ab_nx, ho, ab_d, ab_q, hv2, ay_i_ct (show v < 2147483648 by omega)]
    refine top _ (fun f i j a1 a2 a3 => by simp only [ax_u3]; grind) (fun l hl => ?_) (fun i z hi hz => by simp only [ax_u3]; exact c6 i z hi hz)
    by_cases hlx : l = ap_x P b p
    · subst hlx; simp only [ax_u3]; simpa using c6 v _ hv z2
    · have : ax_u3 (ax_u3 C 23 k (ap_x P b p) (C 20 0 (4 * v + ap_z P b p))) 22 k 2 (ay_i (p + 1)) 23 k l = C 23 k l := by simp only [ax_u3]; grind
      rw [this]; exact lv l hl
  · obtain ⟨x1, x2⟩ := w3 (by omega)
    obtain ⟨y1, y2⟩ := w4 (by omega)
    obtain ⟨z1, z2⟩ := w6 (by omega)
    have hn : ¬ C 23 k (ap_x P b p) = ay_n 1 := by
      intro h; simp [ab_tr, ho, h] at ht
    obtain ⟨v, hv, hv2⟩ := (lv _ x2).resolve_left hn
    simp only [ab_nx, ho, ab_d, ab_q, hv2, ay_i_ct (show v < 2147483648 by omega)]
    refine top _ (fun f i j a1 a2 a3 => by simp only [ax_u3]; grind) (fun l hl => by simp only [ax_u3]; exact lv l hl) (fun i z hi hz => ?_)
    by_cases hlx : 4 * i + z = 4 * v + ap_z P b p
    · rw [hlx]; simp only [ax_u3]; simpa using lv _ y2
    · have : ax_u3 (ax_u3 C 20 0 (4 * v + ap_z P b p) (C 23 k (ap_y P b p))) 22 k 2 (ay_i (p + 1)) 20 0 (4 * i + z) = C 20 0 (4 * i + z) := by simp only [ax_u3]; grind
      rw [this]; exact c6 i z hi hz
  · simp only [ab_nx, ho, ab_d, ab_q]
    exact top _ (fun f i j a1 a2 a3 => by simp only [ax_u3]; grind) (fun l hl => by simp only [ax_u3]; exact lv l hl) (fun i z hi hz => by simp only [ax_u3]; exact c6 i z hi hz)
  · simp only [ab_nx, ho, ab_d, ab_q]
    exact top _ (fun f i j a1 a2 a3 => by simp only [ax_u3]; grind) (fun l hl => by simp only [ax_u3]; exact lv l hl) (fun i z hi hz => by simp only [ax_u3]; exact c6 i z hi hz)
  · obtain ⟨⟨y1, y2⟩, z1, z2⟩ := w5 (by omega)
    have hk19 : k < 19 := by
      simp only [ab_tr, ho] at ht
      split at ht <;> omega
    simp only [ab_nx, ho, ab_d, ab_q]
    exact call _ _ _ (by omega) (.inr ho) hk19
  · obtain ⟨x1, x2⟩ := w3 (by omega)
    have hlv : ai_v (ab_lv P C k b p) q := by
      unfold ab_lv
      split
      · exact (c5 k (by omega)).2.1
      · exact lv _ x2
    simp only [ab_nx, ho, ab_d, ab_q]
    show ai_mc (ab_le P C k b p) P k q
    unfold ab_le; generalize ab_lv P C k b p = v at *
    cases k with
    | zero =>
      rw [if_pos rfl]
      exact ⟨by omega, c2, by simp [ax_u3], by simpa [ax_u3] using c4, fun m hm => by omega, fun i z hi hz => by simp only [ax_u3]; exact c6 i z hi hz⟩
    | succ k =>
      rw [if_neg (by omega)]
      have hk1 : k + 1 - 1 = k := by omega
      rw [hk1]
      generalize ap_x P (C 22 k 1).toNatClampNeg (C 22 k 2).toNatClampNeg = xx
      generalize hE : ax_u3 (ax_u3 (ax_u3 C 18 0 3 (ay_i (k + 1))) 23 k xx v) 22 k 2 (C 22 k 2 + ay_i 1) = E
      have hf : ∀ f i j, ¬ (f = 18 ∧ j = 3) → ¬ (f = 22 ∧ i = k ∧ j = 2) → ¬ (f = 23 ∧ i = k ∧ j = xx) → E f i j = C f i j := by
        intro f i j a1 a2 a3; rw [← hE]; simp only [ax_u3]; grind
      refine ⟨by omega, c2, by rw [← hE]; simp [ax_u3], by rw [hf _ _ _ (by omega) (by omega) (by omega)]; exact c4, fun m hm => ?_, fun i z hi hz => by rw [hf _ _ _ (by omega) (by omega) (by omega)]; exact c6 i z hi hz⟩
      obtain ⟨⟨b', q1, q2, q3⟩, q4, q5⟩ := c5 m (by omega)
      rw [hf 22 m 1 (by omega) (by omega) (by omega), hf 22 m 3 (by omega) (by omega) (by omega)]
      refine ⟨⟨b', q1, q2, fun hm1 => ?_⟩, q4, fun l hl => ?_⟩
      · rw [hf 22 m 2 (by omega) (by omega) (by omega)]; exact q3 (by omega)
      · by_cases hml : m = k ∧ l = xx
        · obtain ⟨rfl, rfl⟩ := hml; rw [← hE]; simpa [ax_u3] using hlv
        · rw [hf 23 m l (by omega) (by omega) (by omega)]; exact q5 l hl
theorem ab_tr_le : ab_tr P C k q b p ≤ 5 := by
  unfold ab_tr
  split
  all_goals first | omega | (split <;> first | omega | (split <;> omega))
/-- all that the machine needs to know of the next step -/
theorem ab_TN (hc : ai_mc C P (k + 1) q) (hW : ap_wf P) (hb : b < 12) (h1 : C 22 k 1 = ay_i b) : (ay_w (C 22 k 2) (ay_i (ap_sz P b)) = false ∧ ab_T P C = 5) ∨ ∃ p, p < ap_sz P b ∧ C 22 k 2 = ay_i p ∧ ab_T P C = ab_tr P C k q b p ∧ ab_N P C = ab_nx P C k q b p := by
  obtain ⟨c1, c2, c3, c4, c5, c6⟩ := id hc
  have hsz := hW.1 b hb
  have hk1 : k + 1 - 1 = k := by omega
  have hd : (C 18 0 3).toNatClampNeg = k + 1 := by rw [c3]; exact ay_i_ct (by omega)
  have hq : (C 18 0 4).toNatClampNeg = q := by rw [c4]; exact ay_i_ct (by omega)
  have hbb : (C 22 k 1).toNatClampNeg = b := by rw [h1]; exact ay_i_ct (by omega)
  unfold ab_T ab_N
  rw [hd, hq, hk1, hbb, hsz.1]
  cases hw : ay_w (C 22 k 2) (ay_i (ap_sz P b)) with
  | false => exact .inl ⟨rfl, by simp⟩
  | true =>
    obtain ⟨p, p1, p2, p3⟩ := ay_w_inv (by omega) hw
    refine .inr ⟨p, p1, p2, ?_, ?_⟩
    · rw [p3]; simp
    · rw [p3]
theorem ab_nx_fr {f i j : Nat} (hf : f < 18 ∨ 23 < f ∨ (f = 18 ∧ (j = 7 ∨ j = 8 ∨ j = 2))) : ab_nx P C k q b p f i j = C f i j := by
  unfold ab_nx
  generalize ap_o P b p = oo
  match oo with
  | 0 =>
    simp only [ab_m2, ab_ca, ax_u3]
    repeat rw [if_neg (by omega)]
  | 1 =>
    simp only [ab_m2, ab_ca, ax_u3]
    repeat rw [if_neg (by omega)]
  | 2 =>
    simp only [ab_m2, ab_ca, ax_u3]
    repeat rw [if_neg (by omega)]
  | 3 =>
    simp only [ab_m2, ab_ca, ax_u3]
    repeat rw [if_neg (by omega)]
  | 4 =>
    simp only [ab_m2, ab_ca, ax_u3]
    repeat rw [if_neg (by omega)]
  | 5 =>
    simp only [ab_m2, ab_ca, ax_u3]
    repeat rw [if_neg (by omega)]
  | 6 =>
    simp only [ab_m2, ab_ca, ax_u3]
    repeat rw [if_neg (by omega)]
  | 7 =>
    simp only [ab_m2, ab_ca, ax_u3]
    repeat rw [if_neg (by omega)]
  | n + 8 =>
    show ab_le P C k b p f i j = C f i j
    unfold ab_le
    split
    · simp only [ax_u3]; rw [if_neg (by omega), if_neg (by omega)]
    · simp only [ax_u3]; rw [if_neg (by omega), if_neg (by omega), if_neg (by omega)]
theorem ab_N_fr {f i j : Nat} (hf : f < 18 ∨ 23 < f) : ab_N P C f i j = C f i j := ab_nx_fr (by omega)
theorem ab_N_8 {j : Nat} (hj : j = 7 ∨ j = 8 ∨ j = 2) : ab_N P C 18 0 j = C 18 0 j := ab_nx_fr (by omega)
theorem ab_mc_u {D : ax_M} {d : Nat} (h : ai_mc D P d q) (hf : ∀ f i j, ¬ (f = 18 ∧ (j = 7 ∨ j = 8)) → C f i j = D f i j) : ai_mc C P d q := by
  obtain ⟨c1, c2, c3, c4, c5, c6⟩ := h
  refine ⟨c1, c2, by rw [hf _ _ _ (by omega)]; exact c3, by rw [hf _ _ _ (by omega)]; exact c4, fun k hk => ?_, fun i z hi hz => by rw [hf _ _ _ (by omega)]; exact c6 i z hi hz⟩
  rw [hf _ _ _ (by omega), hf _ _ _ (by omega), hf _ _ _ (by omega)]
  obtain ⟨a1, a2, a3⟩ := c5 k hk
  exact ⟨a1, a2, fun l hl => by rw [hf _ _ _ (by omega)]; exact a3 l hl⟩
theorem ab_U_mc {D : ax_M} {d : Nat} (h : ai_mc D P d q) : ai_mc (ab_U D) P d q ∧ (ab_U D 18 0 7 = ay_i (if d = 0 then 1 else 0)) := by
  refine ⟨ab_mc_u h (fun f i j hh => by unfold ab_U; simp only [ax_u3]; grind), ?_⟩
  obtain ⟨c1, c2, c3, -⟩ := h
  unfold ab_U
  rw [c3]
  simp only [ax_u3]
  by_cases hd : d = 0
  · subst hd; simp
  · have : ¬ ay_i d = ay_i 0 := by rw [ay_i_eq (by omega) (by omega)]; exact hd
    simp [hd, this]
theorem al_44 {N : Nat} (hW : ap_wf P) (hN : N ≤ 1000) : ∀ c i (C : ax_M) d q l3, i + c = N → ai_mc C P d q → ac_p C P → (C 18 0 7 = ay_i 0 → 0 < d) → ax_fn 44 2 [some (.ref (ax_a 18 0)), some (.int (ay_i N)), some (.int (ay_i i)), l3] [] (ax_hp X e gb C o) = some (.inl (some (.int (ay_i (i + (ab_run P c C).1)))), ax_hp X e gb (ab_run P c C).2 o) := by
  intro c
  induction c with
  | zero =>
    intro i C d q l3 hi hc hp hd
    have : i = N := by omega
    subst this
    have hlt : ¬ i < i := by omega
    rw [af_44_2]
    simp (disch := first | omega | assumption | exact ay_z1b _ | exact ay_z10 | exact ay_z11) only [ae_44, af_44_0, af_44_1, af_44_3, af_44_4, af_44_7, af_44_8, af_44_11, af_44_14, af_44_15, af_44_16, af_44_17, af_44_20, af_44_21, af_44_22, af_44_25, af_44_26, af_44_27, af_44_30, af_44_31, af_44_32, af_44_33, af_44_34, af_44_37, af_44_38, af_44_39, af_44_42, af_44_43, af_44_44, af_44_47, af_44_50, af_44_51, af_44_54, af_44_55, af_44_58, af_44_61, af_44_64, af_44_65, hlt, not_false_eq_true, ab_run, ay_cl_v, ay_cl_s, ay_i_add, ay_i_mul, ay_i_eq, ay_i_lt, ay_b0, ay_b1, ay_ni, ay_in, ay_nn, ay_nl, ay_ln, if_true, if_false, ↓reduceIte, Nat.reduceAdd, Nat.reduceMul, Nat.reduceEqDiff, Nat.reduceLT, Nat.not_lt_zero, Bool.true_eq_false, Bool.false_eq_true, reduceCtorEq, Nat.add_zero, Nat.zero_add]
  | succ c ih =>
    intro i C d q l3 hi hc hp hd
    have hlt : i < N := by omega
    rw [af_44_2]
    by_cases h7 : C 18 0 7 = ay_i 0
    · have hd0 := hd h7
      obtain ⟨k, rfl⟩ : ∃ k, d = k + 1 := ⟨d - 1, by omega⟩
      obtain ⟨b, hb, h1, -⟩ := (hc.2.2.2.2.1 k (by omega)).1
      rcases ab_TN hc hW hb h1 with ⟨hw, hT⟩ | ⟨p, hpn, h2, hT, hN2⟩
      · have h45 := am_45a (X := X) (e := e) (gb := gb) (o := o) hc hW hp hb h1 hw
        simp (disch := first | omega | assumption | exact ay_z1b _ | exact ay_z10 | exact ay_z11) only [ae_44, af_44_0, af_44_1, af_44_3, af_44_4, af_44_7, af_44_8, af_44_11, af_44_14, af_44_15, af_44_16, af_44_17, af_44_20, af_44_21, af_44_22, af_44_25, af_44_26, af_44_27, af_44_30, af_44_31, af_44_32, af_44_33, af_44_34, af_44_37, af_44_38, af_44_39, af_44_42, af_44_43, af_44_44, af_44_47, af_44_50, af_44_51, af_44_54, af_44_55, af_44_58, af_44_61, af_44_64, af_44_65, hlt, not_true, h7, h45, ab_run, hT, ay_cl_v, ay_cl_s, ay_i_add, ay_i_mul, ay_i_eq, ay_i_lt, ay_b0, ay_b1, ay_ni, ay_in, ay_nn, ay_nl, ay_ln, if_true, if_false, ↓reduceIte, Nat.reduceAdd, Nat.reduceMul, Nat.reduceEqDiff, Nat.reduceLT, Nat.not_lt_zero, Bool.true_eq_false, Bool.false_eq_true, reduceCtorEq, Nat.add_zero, Nat.zero_add]
      · have h45 := am_45b (X := X) (e := e) (gb := gb) (o := o) hc hW hp hb h1 hpn h2
        have hle := ab_tr_le (P := P) (C := C) (k := k) (q := q) (b := b) (p := p)
        by_cases ht : ab_tr P C k q b p = 0
        · rw [if_pos ht, ht, ← hN2] at h45
          have hk := ab_keep hc hW hb h1 hpn h2 ht
          rw [← hN2] at hk
          obtain ⟨u1, u2⟩ := ab_U_mc hk
          have hpU : ac_p (ab_U (ab_N P C)) P := by
            refine ac_p_fr hp (fun f i j hf => ?_)
            have : ab_U (ab_N P C) f i j = ab_N P C f i j := by unfold ab_U; simp only [ax_u3]; grind
            rw [this]; exact ab_N_fr (.inl (by omega))
          have hd' := hk.2.2.1
          have hdl := hk.1
          have hnx := ih (i + 1) (ab_U (ab_N P C)) (ab_d (ap_o P b p) k) (ab_q (ap_o P b p) q) (some (.int (ay_i 0))) (by omega) u1 hpU (fun h => by
            rw [u2] at h
            by_cases hz : ab_d (ap_o P b p) k = 0
            · rw [if_pos hz, ay_i_eq (by omega) (by omega)] at h; omega
            · omega)
          have hrun : ab_run P (c + 1) C = ((ab_run P c (ab_U (ab_N P C))).1 + 1, (ab_run P c (ab_U (ab_N P C))).2) := by
            rw [ab_run, if_pos h7, if_pos (by rw [hT]; exact ht)]
          have hsum : i + ((ab_run P c (ab_U (ab_N P C))).1 + 1) = i + 1 + (ab_run P c (ab_U (ab_N P C))).1 := by omega
          rw [hrun]
          simp only []
          rw [hsum, ← hnx]
          have hUe : ab_U (ab_N P C) = ax_u3 (ax_u3 (ab_N P C) 18 0 8 (ab_N P C 18 0 8 + ay_i 1)) 18 0 7 (if ab_N P C 18 0 3 = ay_i 0 then ay_i 1 else ay_i 0) := rfl
          rw [hUe]
          by_cases hz : ab_N P C 18 0 3 = ay_i 0
          · rw [if_pos hz]
            simp (disch := first | omega | assumption | exact ay_z1b _ | exact ay_z10 | exact ay_z11) only [ae_44, af_44_0, af_44_1, af_44_3, af_44_4, af_44_7, af_44_8, af_44_11, af_44_14, af_44_15, af_44_16, af_44_17, af_44_20, af_44_21, af_44_22, af_44_25, af_44_26, af_44_27, af_44_30, af_44_31, af_44_32, af_44_33, af_44_34, af_44_37, af_44_38, af_44_39, af_44_42, af_44_43, af_44_44, af_44_47, af_44_50, af_44_51, af_44_54, af_44_55, af_44_58, af_44_61, af_44_64, af_44_65, hlt, not_true, h7, h45, ay_u3e, false_and, and_false, true_and, and_true, and_self, hz, ay_cl_v, ay_cl_s, ay_i_add, ay_i_mul, ay_i_eq, ay_i_lt, ay_b0, ay_b1, ay_ni, ay_in, ay_nn, ay_nl, ay_ln, if_true, if_false, ↓reduceIte, Nat.reduceAdd, Nat.reduceMul, Nat.reduceEqDiff, Nat.reduceLT, Nat.not_lt_zero, Bool.true_eq_false, Bool.false_eq_true, reduceCtorEq, Nat.add_zero, Nat.zero_add]
          · rw [if_neg hz]
            simp (disch := first | omega | assumption | exact ay_z1b _ | exact ay_z10 | exact ay_z11) only [ae_44, af_44_0, af_44_1, af_44_3, af_44_4, af_44_7, af_44_8, af_44_11, af_44_14, af_44_15, af_44_16, af_44_17, af_44_20, af_44_21, af_44_22, af_44_25, af_44_26, af_44_27, af_44_30, af_44_31, af_44_32, af_44_33, af_44_34, af_44_37, af_44_38, af_44_39, af_44_42, af_44_43, af_44_44, af_44_47, af_44_50, af_44_51, af_44_54, af_44_55, af_44_58, af_44_61, af_44_64, af_44_65, hlt, not_true, h7, h45, ay_u3e, false_and, and_false, true_and, and_true, and_self, hz, ay_cl_v, ay_cl_s, ay_i_add, ay_i_mul, ay_i_eq, ay_i_lt, ay_b0, ay_b1, ay_ni, ay_in, ay_nn, ay_nl, ay_ln, if_true, if_false, ↓reduceIte, Nat.reduceAdd, Nat.reduceMul, Nat.reduceEqDiff, Nat.reduceLT, Nat.not_lt_zero, Bool.true_eq_false, Bool.false_eq_true, reduceCtorEq, Nat.add_zero, Nat.zero_add]
        · rw [if_neg ht] at h45
          rw [ab_run, if_pos h7, if_neg (by rw [hT]; exact ht), hT]
          simp (disch := first | omega | assumption | exact ay_z1b _ | exact ay_z10 | exact ay_z11) only [ae_44, af_44_0, af_44_1, af_44_3, af_44_4, af_44_7, af_44_8, af_44_11, af_44_14, af_44_15, af_44_16, af_44_17, af_44_20, af_44_21, af_44_22, af_44_25, af_44_26, af_44_27, af_44_30, af_44_31, af_44_32, af_44_33, af_44_34, af_44_37, af_44_38, af_44_39, af_44_42, af_44_43, af_44_44, af_44_47, af_44_50, af_44_51, af_44_54, af_44_55, af_44_58, af_44_61, af_44_64, af_44_65, hlt, not_true, h7, h45, ht, ay_cl_v, ay_cl_s, ay_i_add, ay_i_mul, ay_i_eq, ay_i_lt, ay_b0, ay_b1, ay_ni, ay_in, ay_nn, ay_nl, ay_ln, if_true, if_false, ↓reduceIte, Nat.reduceAdd, Nat.reduceMul, Nat.reduceEqDiff, Nat.reduceLT, Nat.not_lt_zero, Bool.true_eq_false, Bool.false_eq_true, reduceCtorEq, Nat.add_zero, Nat.zero_add]
    · rw [ab_run, if_neg h7]
      simp (disch := first | omega | assumption | exact ay_z1b _ | exact ay_z10 | exact ay_z11) only [ae_44, af_44_0, af_44_1, af_44_3, af_44_4, af_44_7, af_44_8, af_44_11, af_44_14, af_44_15, af_44_16, af_44_17, af_44_20, af_44_21, af_44_22, af_44_25, af_44_26, af_44_27, af_44_30, af_44_31, af_44_32, af_44_33, af_44_34, af_44_37, af_44_38, af_44_39, af_44_42, af_44_43, af_44_44, af_44_47, af_44_50, af_44_51, af_44_54, af_44_55, af_44_58, af_44_61, af_44_64, af_44_65, hlt, not_true, h7, ay_cl_v, ay_cl_s, ay_i_add, ay_i_mul, ay_i_eq, ay_i_lt, ay_b0, ay_b1, ay_ni, ay_in, ay_nn, ay_nl, ay_ln, if_true, if_false, ↓reduceIte, Nat.reduceAdd, Nat.reduceMul, Nat.reduceEqDiff, Nat.reduceLT, Nat.not_lt_zero, Bool.true_eq_false, Bool.false_eq_true, reduceCtorEq, Nat.add_zero, Nat.zero_add]
end AmB
