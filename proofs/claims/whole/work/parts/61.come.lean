/-! the reference's come, and its tests of what is now held -/
theorem ag_andnot (a b : Int32) : (a &&& (b ^^^ ay_n 1) = ay_i 0) ↔ (a &&& b = a) := by
  have hx : (ay_n 1).toBitVec = BitVec.allOnes 32 := by decide
  have h0 : (ay_i 0).toBitVec = 0#32 := by decide
  have key : ∀ i, (a &&& (b ^^^ ay_n 1)).toBitVec.getLsbD i = (a.toBitVec.getLsbD i && (b.toBitVec.getLsbD i ^^ decide (i < 32))) := by
    intro i
    rw [show (a &&& (b ^^^ ay_n 1)).toBitVec = a.toBitVec &&& (b.toBitVec ^^^ (ay_n 1).toBitVec) from rfl, hx, BitVec.getLsbD_and, BitVec.getLsbD_xor, BitVec.getLsbD_allOnes]
  have key2 : ∀ i, (a &&& b).toBitVec.getLsbD i = (a.toBitVec.getLsbD i && b.toBitVec.getLsbD i) := by
    intro i
    rw [show (a &&& b).toBitVec = a.toBitVec &&& b.toBitVec from rfl, BitVec.getLsbD_and]
  constructor
  · intro h
    apply Int32.toBitVec_inj.mp
    apply BitVec.eq_of_getLsbD_eq
    intro i hi
    have h1 := key i
    rw [h, h0, BitVec.getLsbD_zero] at h1
    rw [key2]
    revert h1
    cases a.toBitVec.getLsbD i <;> cases b.toBitVec.getLsbD i <;> simp [hi]
  · intro h
    apply Int32.toBitVec_inj.mp
    apply BitVec.eq_of_getLsbD_eq
    intro i hi
    rw [key, h0, BitVec.getLsbD_zero]
    have h1 := key2 i
    rw [h] at h1
    revert h1
    cases a.toBitVec.getLsbD i <;> cases b.toBitVec.getLsbD i <;> simp [hi]
def ag_fc (M M' : ax_M) : Prop := ∀ f i j, ¬ (45 ≤ f ∧ f ≤ 49) → ¬ (f = 24 ∧ j = 21) → M' f i j = M f i j
section AmN
variable {X : Nat × (Nat → Int32)} {e gb : Nat} {M P : ax_M} {o : Int64} {h : ax_H} {b n : Nat}
theorem am_107a {t : Int32} (hb : b < 12) (hn : M 40 0 b = ay_i n) (ht : ay_w t (ay_i n) = false) : ax_fn 107 0 (ax_entry 107 [.ref (ax_a 24 0), .int (ay_i b), .int t]) [] (ax_hp X e gb M o) = some (.inl none, ax_hp X e gb (ax_u3 M 24 0 20 (ay_i 1)) o) := by
  unfold ay_w at ht
  have ht := of_decide_eq_false ht
  by_cases h1 : t < ay_i 0
  · simp (disch := first | omega | assumption | exact ay_z1b _ | exact ay_z10 | exact ay_z11) only [ae_107, af_107_0, af_107_1, af_107_4, af_107_5, af_107_6, af_107_9, af_107_10, af_107_11, af_107_14, af_107_15, af_107_16, af_107_19, af_107_20, af_107_21, af_107_24, af_107_25, af_107_26, af_107_29, af_107_30, af_107_33, af_107_34, af_107_35, af_107_36, af_107_37, af_107_38, af_107_41, af_107_42, af_107_45, af_107_46, af_107_47, af_107_50, af_107_51, af_107_52, af_107_54, af_107_56, af_107_59, af_107_60, af_107_63, af_107_65, af_107_66, af_107_67, af_107_68, af_107_69, af_107_70, af_107_73, af_107_74, af_107_75, af_107_76, af_107_77, af_107_80, af_107_82, af_107_83, af_107_84, af_107_85, af_107_86, af_107_87, af_107_90, af_107_91, af_107_92, af_107_93, af_107_94, af_107_97, af_107_99, af_107_100, af_107_101, af_107_102, af_107_103, af_107_104, af_107_107, af_107_108, af_107_109, af_107_110, af_107_113, af_107_116, af_107_117, af_107_118, af_107_119, af_107_122, af_107_125, af_107_126, af_107_129, af_107_130, af_107_131, af_107_132, af_107_135, af_107_136, af_107_137, af_107_138, af_107_141, af_107_142, af_107_145, af_107_146, af_107_149, af_107_150, af_107_153, af_107_154, af_107_155, af_107_158, af_107_159, af_107_160, af_107_161, af_107_164, af_107_165, af_107_166, af_107_167, af_107_169, af_107_171, af_107_174, af_107_175, af_107_177, af_107_178, af_107_179, af_107_180, af_107_181, af_107_182, af_107_185, af_107_188, af_107_191, h1, hn, ay_cl_v, ay_cl_s, ay_i_add, ay_i_mul, ay_i_eq, ay_i_lt, ay_b0, ay_b1, ay_ni, ay_in, ay_nn, ay_nl, ay_ln, if_true, if_false, ↓reduceIte, Nat.reduceAdd, Nat.reduceMul, Nat.reduceEqDiff, Nat.reduceLT, Nat.not_lt_zero, Bool.true_eq_false, Bool.false_eq_true, reduceCtorEq, Nat.add_zero, Nat.zero_add]
  · have h2 : ¬ t < ay_i n := fun h => ht ⟨h1, h⟩
    simp (disch := first | omega | assumption | exact ay_z1b _ | exact ay_z10 | exact ay_z11) only [ae_107, af_107_0, af_107_1, af_107_4, af_107_5, af_107_6, af_107_9, af_107_10, af_107_11, af_107_14, af_107_15, af_107_16, af_107_19, af_107_20, af_107_21, af_107_24, af_107_25, af_107_26, af_107_29, af_107_30, af_107_33, af_107_34, af_107_35, af_107_36, af_107_37, af_107_38, af_107_41, af_107_42, af_107_45, af_107_46, af_107_47, af_107_50, af_107_51, af_107_52, af_107_54, af_107_56, af_107_59, af_107_60, af_107_63, af_107_65, af_107_66, af_107_67, af_107_68, af_107_69, af_107_70, af_107_73, af_107_74, af_107_75, af_107_76, af_107_77, af_107_80, af_107_82, af_107_83, af_107_84, af_107_85, af_107_86, af_107_87, af_107_90, af_107_91, af_107_92, af_107_93, af_107_94, af_107_97, af_107_99, af_107_100, af_107_101, af_107_102, af_107_103, af_107_104, af_107_107, af_107_108, af_107_109, af_107_110, af_107_113, af_107_116, af_107_117, af_107_118, af_107_119, af_107_122, af_107_125, af_107_126, af_107_129, af_107_130, af_107_131, af_107_132, af_107_135, af_107_136, af_107_137, af_107_138, af_107_141, af_107_142, af_107_145, af_107_146, af_107_149, af_107_150, af_107_153, af_107_154, af_107_155, af_107_158, af_107_159, af_107_160, af_107_161, af_107_164, af_107_165, af_107_166, af_107_167, af_107_169, af_107_171, af_107_174, af_107_175, af_107_177, af_107_178, af_107_179, af_107_180, af_107_181, af_107_182, af_107_185, af_107_188, af_107_191, h1, h2, hn, ay_cl_v, ay_cl_s, ay_i_add, ay_i_mul, ay_i_eq, ay_i_lt, ay_b0, ay_b1, ay_ni, ay_in, ay_nn, ay_nl, ay_ln, if_true, if_false, ↓reduceIte, Nat.reduceAdd, Nat.reduceMul, Nat.reduceEqDiff, Nat.reduceLT, Nat.not_lt_zero, Bool.true_eq_false, Bool.false_eq_true, reduceCtorEq, Nat.add_zero, Nat.zero_add]
theorem am_107 {t : Nat} {G : ag_T × Prop} (hb : b < 12) (hn : M 40 0 b = ay_i n) (hn4 : n ≤ 40) (ht : t < n) (hR : ag_rm M n G) : ∃ M', ax_fn 107 0 (ax_entry 107 [.ref (ax_a 24 0), .int (ay_i b), .int (ay_i t)]) [] (ax_hp X e gb M o) = some (.inl none, ax_hp X e gb M' o) ∧ ag_fc M M' ∧ ag_rm M' n (ag_mg G (t, ag_nv M)) := by
  obtain ⟨hv, hr, ch, hc, hq⟩ := hR
  obtain ⟨r, hrt⟩ := hr t ht
  have ht0 : ¬ ay_i t < ay_i 0 := by rw [ay_i_lt (by omega) (by omega)]; omega
  cases r with
  | false =>
    obtain ⟨M', e1, e2, e3⟩ := al_107b (X := X) (e := e) (gb := gb) (o := o) (vb := ay_i b) (p := t) (by omega) 8 0 (ax_u3 (ax_u3 (ax_u3 M 45 0 t (ay_i 1)) 24 0 21 (ay_i 1)) 49 0 t (M 24 0 25)) (by omega)
    have hT : G.1 t = none := by
      rw [← hv]; unfold ag_vm
      refine if_neg ?_
      rintro ⟨-, h2⟩
      rw [hrt, ay_b1] at h2; cases h2
    have hin : ag_in G.1 t (ag_nv M) = ag_nv M := by unfold ag_in; rw [hT]
    have hfr : ∀ f i j, ¬ (46 ≤ f ∧ f ≤ 48 ∧ 8 * t ≤ j ∧ j < 8 * t + 8) → ¬ (f = 45 ∧ j = t) → ¬ (f = 49 ∧ j = t) → ¬ (f = 24 ∧ j = 21) → M' f i j = M f i j := by
      intro f i j h1 h2 h3 h4
      rw [e2 f i j (by omega)]
      simp only [ax_u3]; grind
    have h45 : M' 45 0 t = ay_i 1 := by rw [e2 _ _ _ (by omega)]; simp [ax_u3]
    have h49 : M' 49 0 t = M 24 0 25 := by rw [e2 _ _ _ (by omega)]; simp [ax_u3]
    have h21 : M' 24 0 21 = ay_i 1 := by rw [e2 _ _ _ (by omega)]; simp [ax_u3]
    refine ⟨M', ?_, fun f i j h1 h2 => hfr f i j (by omega) (by omega) (by omega) h2, ?_, ?_, ?_⟩
    · simp (disch := first | omega | assumption | exact ay_z1b _ | exact ay_z10 | exact ay_z11) only [ae_107, af_107_0, af_107_1, af_107_4, af_107_5, af_107_6, af_107_9, af_107_10, af_107_11, af_107_14, af_107_15, af_107_16, af_107_19, af_107_20, af_107_21, af_107_24, af_107_25, af_107_26, af_107_29, af_107_30, af_107_33, af_107_34, af_107_35, af_107_36, af_107_37, af_107_38, af_107_41, af_107_42, af_107_45, af_107_46, af_107_47, af_107_50, af_107_51, af_107_52, af_107_54, af_107_56, af_107_59, af_107_60, af_107_63, af_107_65, af_107_66, af_107_67, af_107_68, af_107_69, af_107_70, af_107_73, af_107_74, af_107_75, af_107_76, af_107_77, af_107_80, af_107_82, af_107_83, af_107_84, af_107_85, af_107_86, af_107_87, af_107_90, af_107_91, af_107_92, af_107_93, af_107_94, af_107_97, af_107_99, af_107_100, af_107_101, af_107_102, af_107_103, af_107_104, af_107_107, af_107_108, af_107_109, af_107_110, af_107_113, af_107_116, af_107_117, af_107_118, af_107_119, af_107_122, af_107_125, af_107_126, af_107_129, af_107_130, af_107_131, af_107_132, af_107_135, af_107_136, af_107_137, af_107_138, af_107_141, af_107_142, af_107_145, af_107_146, af_107_149, af_107_150, af_107_153, af_107_154, af_107_155, af_107_158, af_107_159, af_107_160, af_107_161, af_107_164, af_107_165, af_107_166, af_107_167, af_107_169, af_107_171, af_107_174, af_107_175, af_107_177, af_107_178, af_107_179, af_107_180, af_107_181, af_107_182, af_107_185, af_107_188, af_107_191, ht0, hn, ht, hrt, ay_u3e, false_and, and_false, true_and, ay_cl_v, ay_cl_s, ay_i_add, ay_i_mul, ay_i_eq, ay_i_lt, ay_b0, ay_b1, ay_ni, ay_in, ay_nn, ay_nl, ay_ln, if_true, if_false, ↓reduceIte, Nat.reduceAdd, Nat.reduceMul, Nat.reduceEqDiff, Nat.reduceLT, Nat.not_lt_zero, Bool.true_eq_false, Bool.false_eq_true, reduceCtorEq, Nat.add_zero, Nat.zero_add]
      rw [← e1]
    · funext p
      show _ = if p = t then some (ag_in G.1 t (ag_nv M)) else G.1 p
      by_cases hp : p = t
      · subst hp
        rw [if_pos rfl, hin]
        unfold ag_vm
        rw [if_pos ⟨ht, h45⟩]
        congr 1
        refine Prod.ext ?_ h49
        funext l
        show (if l < 8 then ag_tp M' (8 * p + l) else ag_z) = if l < 8 then ag_tn M l else ag_z
        by_cases hl : l < 8
        · rw [if_pos hl, if_pos hl, e3 l (by omega) hl]
          unfold ag_tn; simp [ax_u3]
        · rw [if_neg hl, if_neg hl]
      · rw [if_neg hp, ← hv]
        unfold ag_vm
        rw [hfr 45 0 p (by omega) (by omega) (by omega) (by omega)]
        have : ag_vp M' p = ag_vp M p := by
          unfold ag_vp ag_tp
          rw [hfr 49 0 p (by omega) (by omega) (by omega) (by omega)]
          refine Prod.ext ?_ rfl
          funext l
          by_cases hl : l < 8
          · simp only [hl, if_true]
            rw [hfr 46 0 _ (by omega) (by omega) (by omega) (by omega), hfr 47 0 _ (by omega) (by omega) (by omega) (by omega), hfr 48 0 _ (by omega) (by omega) (by omega) (by omega)]
          · simp only [hl, if_false]
        rw [this]
    · intro p hp
      by_cases hpt : p = t
      · subst hpt; exact ⟨true, h45⟩
      · rw [hfr 45 0 p (by omega) (by omega) (by omega) (by omega)]; exact hr p hp
    · refine ⟨true, h21, ?_⟩
      show _ ↔ G.2 ∨ some (ag_in G.1 t (ag_nv M)) ≠ G.1 t
      rw [hT]; simp
  | true =>
    have hT : G.1 t = some (ag_vp M t) := by
      rw [← hv]; unfold ag_vm
      rw [if_pos ⟨ht, hrt⟩]
    have hin : ag_in G.1 t (ag_nv M) = ag_jo (ag_vp M t) (ag_nv M) := by unfold ag_in; rw [hT]
    have hpb : decide (M 49 0 t &&& (M 24 0 25 ^^^ ay_n 1) = ay_i 0) = decide (M 49 0 t &&& M 24 0 25 = M 49 0 t) := by
      by_cases hh : M 49 0 t &&& M 24 0 25 = M 49 0 t
      · rw [decide_eq_true hh, decide_eq_true ((ag_andnot _ _).mpr hh)]
      · rw [decide_eq_false hh, decide_eq_false (fun h2 => hh ((ag_andnot _ _).mp h2))]
    obtain ⟨M', ch', e1, e2, e3, e4, e5⟩ := al_107a (X := X) (e := e) (gb := gb) (o := o) (vb := ay_i b) (p := t) (by omega) 8 0 (ax_u3 (ax_u3 M 24 0 21 (ay_b (ch || decide (¬ M 49 0 t &&& M 24 0 25 = M 49 0 t)))) 49 0 t (M 49 0 t &&& M 24 0 25)) (ch || decide (¬ M 49 0 t &&& M 24 0 25 = M 49 0 t)) (by omega) (by simp [ax_u3])
    have hfr : ∀ f i j, ¬ (46 ≤ f ∧ f ≤ 48 ∧ 8 * t ≤ j ∧ j < 8 * t + 8) → ¬ (f = 49 ∧ j = t) → ¬ (f = 24 ∧ j = 21) → M' f i j = M f i j := by
      intro f i j h1 h3 h4
      rw [e2 f i j (by omega) h4]
      simp only [ax_u3]; grind
    have h45 : M' 45 0 t = ay_i 1 := by rw [hfr _ _ _ (by omega) (by omega) (by omega)]; exact hrt
    have h49 : M' 49 0 t = M 49 0 t &&& M 24 0 25 := by rw [e2 _ _ _ (by omega) (by omega)]; simp [ax_u3]
    have htp : ∀ l, ag_tp (ax_u3 (ax_u3 M 24 0 21 (ay_b (ch || decide (¬ M 49 0 t &&& M 24 0 25 = M 49 0 t)))) 49 0 t (M 49 0 t &&& M 24 0 25)) l = ag_tp M l := by
      intro l; unfold ag_tp; simp [ax_u3]
    have htn : ∀ l, ag_tn (ax_u3 (ax_u3 M 24 0 21 (ay_b (ch || decide (¬ M 49 0 t &&& M 24 0 25 = M 49 0 t)))) 49 0 t (M 49 0 t &&& M 24 0 25)) l = ag_tn M l := by
      intro l; unfold ag_tn; simp [ax_u3]
    refine ⟨M', ?_, fun f i j h1 h2 => hfr f i j (by omega) (by omega) h2, ?_, ?_, ?_⟩
    · simp (disch := first | omega | assumption | exact ay_z1b _ | exact ay_z10 | exact ay_z11) only [ae_107, af_107_0, af_107_1, af_107_4, af_107_5, af_107_6, af_107_9, af_107_10, af_107_11, af_107_14, af_107_15, af_107_16, af_107_19, af_107_20, af_107_21, af_107_24, af_107_25, af_107_26, af_107_29, af_107_30, af_107_33, af_107_34, af_107_35, af_107_36, af_107_37, af_107_38, af_107_41, af_107_42, af_107_45, af_107_46, af_107_47, af_107_50, af_107_51, af_107_52, af_107_54, af_107_56, af_107_59, af_107_60, af_107_63, af_107_65, af_107_66, af_107_67, af_107_68, af_107_69, af_107_70, af_107_73, af_107_74, af_107_75, af_107_76, af_107_77, af_107_80, af_107_82, af_107_83, af_107_84, af_107_85, af_107_86, af_107_87, af_107_90, af_107_91, af_107_92, af_107_93, af_107_94, af_107_97, af_107_99, af_107_100, af_107_101, af_107_102, af_107_103, af_107_104, af_107_107, af_107_108, af_107_109, af_107_110, af_107_113, af_107_116, af_107_117, af_107_118, af_107_119, af_107_122, af_107_125, af_107_126, af_107_129, af_107_130, af_107_131, af_107_132, af_107_135, af_107_136, af_107_137, af_107_138, af_107_141, af_107_142, af_107_145, af_107_149, af_107_150, af_107_153, af_107_154, af_107_155, af_107_158, af_107_159, af_107_160, af_107_161, af_107_164, af_107_165, af_107_166, af_107_167, af_107_169, af_107_171, af_107_174, af_107_175, af_107_177, af_107_178, af_107_179, af_107_180, af_107_181, af_107_182, af_107_185, af_107_188, af_107_191, ht0, hn, ht, hrt, hc, ay_cl_v, ay_cl_s, ay_i_add, ay_i_mul, ay_i_eq, ay_i_lt, ay_b0, ay_b1, ay_ni, ay_in, ay_nn, ay_nl, ay_ln, if_true, if_false, ↓reduceIte, Nat.reduceAdd, Nat.reduceMul, Nat.reduceEqDiff, Nat.reduceLT, Nat.not_lt_zero, Bool.true_eq_false, Bool.false_eq_true, reduceCtorEq, Nat.add_zero, Nat.zero_add, ay_ite_st, ay_ite_ls, ay_ba, ay_bb, ay_bc, ay_bg, ay_be, ay_bh, Bool.not_eq_true, Bool.not_eq_false, ite_self]
      rw [af_107_146 (ay_z1b _)]
      simp (disch := first | omega | assumption | exact ay_z1b _ | exact ay_z10 | exact ay_z11) only [ae_107, af_107_0, af_107_1, af_107_4, af_107_5, af_107_6, af_107_9, af_107_10, af_107_11, af_107_14, af_107_15, af_107_16, af_107_19, af_107_20, af_107_21, af_107_24, af_107_25, af_107_26, af_107_29, af_107_30, af_107_33, af_107_34, af_107_35, af_107_36, af_107_37, af_107_38, af_107_41, af_107_42, af_107_45, af_107_46, af_107_47, af_107_50, af_107_51, af_107_52, af_107_54, af_107_56, af_107_59, af_107_60, af_107_63, af_107_65, af_107_66, af_107_67, af_107_68, af_107_69, af_107_70, af_107_73, af_107_74, af_107_75, af_107_76, af_107_77, af_107_80, af_107_82, af_107_83, af_107_84, af_107_85, af_107_86, af_107_87, af_107_90, af_107_91, af_107_92, af_107_93, af_107_94, af_107_97, af_107_99, af_107_100, af_107_101, af_107_102, af_107_103, af_107_104, af_107_107, af_107_108, af_107_109, af_107_110, af_107_113, af_107_116, af_107_117, af_107_118, af_107_119, af_107_122, af_107_125, af_107_126, af_107_129, af_107_130, af_107_131, af_107_132, af_107_135, af_107_136, af_107_137, af_107_138, af_107_141, af_107_142, af_107_145, af_107_146, af_107_149, af_107_150, af_107_153, af_107_154, af_107_155, af_107_158, af_107_159, af_107_160, af_107_161, af_107_164, af_107_165, af_107_166, af_107_167, af_107_169, af_107_171, af_107_174, af_107_175, af_107_177, af_107_178, af_107_179, af_107_180, af_107_181, af_107_182, af_107_185, af_107_188, af_107_191, ay_u3e, false_and, ay_cl_v, ay_cl_s, ay_i_add, ay_i_mul, ay_i_eq, ay_i_lt, ay_b0, ay_b1, ay_ni, ay_in, ay_nn, ay_nl, ay_ln, if_true, if_false, ↓reduceIte, Nat.reduceAdd, Nat.reduceMul, Nat.reduceEqDiff, Nat.reduceLT, Nat.not_lt_zero, Bool.true_eq_false, Bool.false_eq_true, reduceCtorEq, Nat.add_zero, Nat.zero_add]
      rw [← e1]
      congr 4
      cases ch <;> simp [hpb]
    · funext p
      show _ = if p = t then some (ag_in G.1 t (ag_nv M)) else G.1 p
      by_cases hp : p = t
      · subst hp
        rw [if_pos rfl, hin]
        unfold ag_vm
        rw [if_pos ⟨ht, h45⟩]
        congr 1
        refine Prod.ext ?_ h49
        funext l
        show (if l < 8 then ag_tp M' (8 * p + l) else ag_z) = ag_jl (if l < 8 then ag_tp M (8 * p + l) else ag_z) (if l < 8 then ag_tn M l else ag_z)
        by_cases hl : l < 8
        · rw [if_pos hl, if_pos hl, if_pos hl, e3 l (by omega) hl, htp, htn]
        · rw [if_neg hl, if_neg hl, if_neg hl]; exact ag_jz.symm
      · rw [if_neg hp, ← hv]
        unfold ag_vm
        rw [hfr 45 0 p (by omega) (by omega) (by omega)]
        have : ag_vp M' p = ag_vp M p := by
          unfold ag_vp ag_tp
          rw [hfr 49 0 p (by omega) (by omega) (by omega)]
          refine Prod.ext ?_ rfl
          funext l
          by_cases hl : l < 8
          · simp only [hl, if_true]
            rw [hfr 46 0 _ (by omega) (by omega) (by omega), hfr 47 0 _ (by omega) (by omega) (by omega), hfr 48 0 _ (by omega) (by omega) (by omega)]
          · simp only [hl, if_false]
        rw [this]
    · intro p hp
      rw [hfr 45 0 p (by omega) (by omega) (by omega)]; exact hr p hp
    · refine ⟨ch', e4, ?_⟩
      show _ ↔ G.2 ∨ some (ag_in G.1 t (ag_nv M)) ≠ G.1 t
      rw [hT, hin, e5, Bool.or_eq_true, hq, decide_eq_true_eq, or_assoc]
      refine or_congr Iff.rfl ?_
      simp only [htp, htn]
      constructor
      · rintro (h | ⟨l, -, h2, h3⟩) h4
        · exact h (congrArg (fun x : Option ag_S => (x.getD (ag_nv M)).2) h4)
        · have := congrArg (fun x : Option ag_S => (x.getD (ag_nv M)).1 l) h4
          simp only [Option.getD_some, ag_jo, ag_vp, ag_nv, h2, if_true] at this
          exact h3 this
      · intro h4
        by_cases h5 : M 49 0 t &&& M 24 0 25 = M 49 0 t
        · right
          apply Classical.byContradiction
          intro h6
          apply h4
          congr 1
          refine Prod.ext ?_ h5
          funext l
          show ag_jl (if l < 8 then ag_tp M (8 * t + l) else ag_z) (if l < 8 then ag_tn M l else ag_z) = if l < 8 then ag_tp M (8 * t + l) else ag_z
          by_cases hl : l < 8
          · rw [if_pos hl, if_pos hl]
            apply Classical.byContradiction
            intro h7
            exact h6 ⟨l, by omega, hl, h7⟩
          · rw [if_neg hl, if_neg hl]; exact ag_jz
        · exact .inl h5
end AmN
