/-! the reference's choose, look, judge -/
section AmJ
variable {X : Nat × (Nat → Int32)} {e gb : Nat} {M P : ax_M} {o : Int64} {h : ax_H} {b n p : Nat} {G : ag_T × Prop}
theorem am_110a {x : Nat} {y : Int32} (hb : b < 12) (hs : M 40 0 b = ay_i n) (hn : n ≤ 40) (hp : p < 40) (hx : x < 8) (hno : ((ag_nv M).1 x).1 = ay_n 2 ∨ ay_w y (ay_i n) = false ∨ ¬ p + 1 < n) : ax_fn 110 0 (ax_entry 110 [.ref (ax_a 24 0), .int (ay_i b), .int (ay_i p), .int (ay_i x), .int y]) [] (ax_hp X e gb M o) = some (.inl none, ax_hp X e gb (ax_u3 M 24 0 20 (ay_i 1)) o) := by
  have h111 := am_111 (X := X) (e := e) (gb := gb) (M := M) (o := o) hx
  by_cases h1 : M 52 0 x = ay_n 2
  · rw [decide_eq_false (not_not_intro h1)] at h111
    simp (disch := first | omega | assumption | exact ay_z1b _ | exact ay_z10 | exact ay_z11) only [ae_110, af_110_0, af_110_1, af_110_2, af_110_5, af_110_8, af_110_10, af_110_13, af_110_15, af_110_16, af_110_19, af_110_20, af_110_21, af_110_24, af_110_25, af_110_26, af_110_27, af_110_28, af_110_31, af_110_32, af_110_33, af_110_36, af_110_37, af_110_38, af_110_41, af_110_42, af_110_43, af_110_46, af_110_47, af_110_48, af_110_50, af_110_52, af_110_55, af_110_56, af_110_59, af_110_60, af_110_61, af_110_62, af_110_63, af_110_64, af_110_66, af_110_69, af_110_71, af_110_72, af_110_75, af_110_76, af_110_79, af_110_80, af_110_81, af_110_82, af_110_83, af_110_84, af_110_85, af_110_86, af_110_87, af_110_90, h111, ay_cl_v, ay_cl_s, ay_i_add, ay_i_mul, ay_i_eq, ay_i_lt, ay_b0, ay_b1, ay_ni, ay_in, ay_nn, ay_nl, ay_ln, if_true, if_false, ↓reduceIte, Nat.reduceAdd, Nat.reduceMul, Nat.reduceEqDiff, Nat.reduceLT, Nat.not_lt_zero, Bool.true_eq_false, Bool.false_eq_true, reduceCtorEq, Nat.add_zero, Nat.zero_add]
  · rw [decide_eq_true h1] at h111
    by_cases h2 : y < ay_i 0
    · simp (disch := first | omega | assumption | exact ay_z1b _ | exact ay_z10 | exact ay_z11) only [ae_110, af_110_0, af_110_1, af_110_2, af_110_5, af_110_8, af_110_10, af_110_13, af_110_15, af_110_16, af_110_19, af_110_20, af_110_21, af_110_24, af_110_25, af_110_26, af_110_27, af_110_28, af_110_31, af_110_32, af_110_33, af_110_36, af_110_37, af_110_38, af_110_41, af_110_42, af_110_43, af_110_46, af_110_47, af_110_48, af_110_50, af_110_52, af_110_55, af_110_56, af_110_59, af_110_60, af_110_61, af_110_62, af_110_63, af_110_64, af_110_66, af_110_69, af_110_71, af_110_72, af_110_75, af_110_76, af_110_79, af_110_80, af_110_81, af_110_82, af_110_83, af_110_84, af_110_85, af_110_86, af_110_87, af_110_90, h111, h2, ay_cl_v, ay_cl_s, ay_i_add, ay_i_mul, ay_i_eq, ay_i_lt, ay_b0, ay_b1, ay_ni, ay_in, ay_nn, ay_nl, ay_ln, if_true, if_false, ↓reduceIte, Nat.reduceAdd, Nat.reduceMul, Nat.reduceEqDiff, Nat.reduceLT, Nat.not_lt_zero, Bool.true_eq_false, Bool.false_eq_true, reduceCtorEq, Nat.add_zero, Nat.zero_add]
    · by_cases h3 : y < ay_i n
      · have h4 : ¬ p + 1 < n := by
          rcases hno with h | h | h
          · rw [ag_nv_lt hx] at h
            simp [ag_tn, ag_nl, h1] at h
          · unfold ay_w at h
            exact absurd ⟨h2, h3⟩ (of_decide_eq_false h)
          · exact h
        simp (disch := first | omega | assumption | exact ay_z1b _ | exact ay_z10 | exact ay_z11) only [ae_110, af_110_0, af_110_1, af_110_2, af_110_5, af_110_8, af_110_10, af_110_13, af_110_15, af_110_16, af_110_19, af_110_20, af_110_21, af_110_24, af_110_25, af_110_26, af_110_27, af_110_28, af_110_31, af_110_32, af_110_33, af_110_36, af_110_37, af_110_38, af_110_41, af_110_42, af_110_43, af_110_46, af_110_47, af_110_48, af_110_50, af_110_52, af_110_55, af_110_56, af_110_59, af_110_60, af_110_61, af_110_62, af_110_63, af_110_64, af_110_66, af_110_69, af_110_71, af_110_72, af_110_75, af_110_76, af_110_79, af_110_80, af_110_81, af_110_82, af_110_83, af_110_84, af_110_85, af_110_86, af_110_87, af_110_90, h111, h2, h3, hs, h4, ay_cl_v, ay_cl_s, ay_i_add, ay_i_mul, ay_i_eq, ay_i_lt, ay_b0, ay_b1, ay_ni, ay_in, ay_nn, ay_nl, ay_ln, if_true, if_false, ↓reduceIte, Nat.reduceAdd, Nat.reduceMul, Nat.reduceEqDiff, Nat.reduceLT, Nat.not_lt_zero, Bool.true_eq_false, Bool.false_eq_true, reduceCtorEq, Nat.add_zero, Nat.zero_add]
      · simp (disch := first | omega | assumption | exact ay_z1b _ | exact ay_z10 | exact ay_z11) only [ae_110, af_110_0, af_110_1, af_110_2, af_110_5, af_110_8, af_110_10, af_110_13, af_110_15, af_110_16, af_110_19, af_110_20, af_110_21, af_110_24, af_110_25, af_110_26, af_110_27, af_110_28, af_110_31, af_110_32, af_110_33, af_110_36, af_110_37, af_110_38, af_110_41, af_110_42, af_110_43, af_110_46, af_110_47, af_110_48, af_110_50, af_110_52, af_110_55, af_110_56, af_110_59, af_110_60, af_110_61, af_110_62, af_110_63, af_110_64, af_110_66, af_110_69, af_110_71, af_110_72, af_110_75, af_110_76, af_110_79, af_110_80, af_110_81, af_110_82, af_110_83, af_110_84, af_110_85, af_110_86, af_110_87, af_110_90, h111, h2, h3, hs, ay_cl_v, ay_cl_s, ay_i_add, ay_i_mul, ay_i_eq, ay_i_lt, ay_b0, ay_b1, ay_ni, ay_in, ay_nn, ay_nl, ay_ln, if_true, if_false, ↓reduceIte, Nat.reduceAdd, Nat.reduceMul, Nat.reduceEqDiff, Nat.reduceLT, Nat.not_lt_zero, Bool.true_eq_false, Bool.false_eq_true, reduceCtorEq, Nat.add_zero, Nat.zero_add]
theorem ag_q5 (hW : ap_wf P) (hm : ac_m M P) (hb : b < 12) (hn : n = ap_sz P b) (hpn : p < n) (hR : ag_rm M n G) (hws : ag_ws (ag_nv M)) (hf0 : M 24 0 20 = ay_i 0) (ho : ap_o P b p = 5) : ag_om (ax_fn 109 82 [some (.ref (ax_a 24 0)), some (.int (ay_i b)), some (.int (ay_i p)), some (.int (ay_i (40 * b + p)))] [] (ax_hp X e gb M o)) X e gb M o n G (ag_no P b n p (ag_nv M)) (ag_ou P b p (ag_nv M)) := by
  obtain ⟨hn4, hs, ⟨w1, -, w2, w3, w4, w5⟩, hq, m1, m2, m3, m4⟩ := ap_onm hW hm hb hn hpn
  obtain ⟨wx, hx⟩ := w2 (by omega)
  rw [w1, ho] at m1
  rw [wx] at m2
  have hno : ag_no P b n p (ag_nv M) = (((ag_nv M).1 (ap_x P b p)).1 = ay_n 2 ∨ ay_w (P 43 0 (40 * b + p)) (ay_i n) = false ∨ ¬ p + 1 < n) := by unfold ag_no; simp only [ho]
  have hou : ag_ou P b p (ag_nv M) = (if ((ag_nv M).1 (ap_x P b p)).2.1 = ay_i 0 then [] else [((P 43 0 (40 * b + p)).toNatClampNeg, (ag_st (ag_nv M).1 (ap_x P b p) (((ag_nv M).1 (ap_x P b p)).1, ay_i 2, ((ag_nv M).1 (ap_x P b p)).2.2), (ag_nv M).2))]) ++ (if ((ag_nv M).1 (ap_x P b p)).2.1 = ay_i 2 then [] else [(p + 1, (ag_st (ag_nv M).1 (ap_x P b p) (((ag_nv M).1 (ap_x P b p)).1, ay_i 0, ((ag_nv M).1 (ap_x P b p)).2.2), (ag_nv M).2))]) := by unfold ag_ou; simp only [ho]
  rw [hno, hou]
  constructor
  · intro hh
    have h110 := am_110a (X := X) (e := e) (gb := gb) (o := o) hb hs hn4 (show p < 40 by omega) hx hh
    refine ⟨ax_u3 M 24 0 20 (ay_i 1), ?_, by simp [ax_u3], ag_fe2_fm ag_f20⟩
    simp (disch := first | omega | assumption | exact ay_z1b _ | exact ay_z10 | exact ay_z11) only [ae_109, af_109_0, af_109_1, af_109_3, af_109_5, af_109_8, af_109_9, af_109_12, af_109_13, af_109_14, af_109_17, af_109_19, af_109_20, af_109_21, af_109_22, af_109_23, af_109_24, af_109_25, af_109_26, af_109_29, af_109_30, af_109_31, af_109_34, af_109_36, af_109_37, af_109_38, af_109_39, af_109_40, af_109_41, af_109_42, af_109_43, af_109_46, af_109_47, af_109_48, af_109_51, af_109_53, af_109_54, af_109_55, af_109_56, af_109_57, af_109_58, af_109_59, af_109_62, af_109_65, af_109_66, af_109_67, af_109_70, af_109_71, af_109_72, af_109_75, af_109_77, af_109_78, af_109_79, af_109_80, af_109_81, af_109_82, af_109_83, af_109_86, af_109_87, af_109_88, af_109_89, af_109_92, af_109_93, af_109_94, af_109_95, af_109_96, af_109_99, af_109_100, af_109_101, af_109_102, af_109_105, af_109_106, af_109_107, af_109_110, af_109_111, af_109_112, af_109_113, af_109_114, af_109_117, af_109_118, af_109_119, af_109_120, af_109_123, af_109_124, af_109_125, af_109_126, af_109_129, af_109_130, af_109_131, af_109_132, af_109_135, af_109_136, af_109_137, af_109_140, af_109_141, af_109_144, af_109_147, af_109_148, af_109_151, af_109_152, af_109_153, af_109_155, af_109_158, af_109_159, af_109_160, af_109_161, af_109_164, af_109_165, af_109_166, af_109_168, af_109_171, af_109_172, af_109_175, af_109_176, af_109_177, af_109_180, af_109_181, af_109_182, af_109_183, af_109_186, m1, m2, m3, h110, ay_cl_v, ay_cl_s, ay_i_add, ay_i_mul, ay_i_eq, ay_i_lt, ay_b0, ay_b1, ay_ni, ay_in, ay_nn, ay_nl, ay_ln, if_true, if_false, ↓reduceIte, Nat.reduceAdd, Nat.reduceMul, Nat.reduceEqDiff, Nat.reduceLT, Nat.not_lt_zero, Bool.true_eq_false, Bool.false_eq_true, reduceCtorEq, Nat.add_zero, Nat.zero_add]
  · intro hh
    have hc : ¬ ((ag_nv M).1 (ap_x P b p)).1 = ay_n 2 := fun h => hh (.inl h)
    have hy : ay_w (P 43 0 (40 * b + p)) (ay_i n) = true := by
      cases h : ay_w (P 43 0 (40 * b + p)) (ay_i n)
      · exact absurd (.inr (.inl h)) hh
      · rfl
    have hpl : p + 1 < n := Classical.byContradiction fun h => hh (.inr (.inr h))
    obtain ⟨t, ht, hy1, hy2⟩ := ay_w_inv (by omega) hy
    have hid : (ag_nv M).1 (ap_x P b p) = (M 52 0 (ap_x P b p), M 53 0 (ap_x P b p), M 54 0 (ap_x P b p)) := by rw [ag_nv_lt hx] at hc ⊢; exact ag_nl_id hc
    have hc2 : ¬ M 52 0 (ap_x P b p) = ay_n 2 := by rw [hid] at hc; exact hc
    have e14 : M 53 0 (ap_x P b p) = ((ag_nv M).1 (ap_x P b p)).2.1 := by rw [hid]
    have h111 := am_111 (X := X) (e := e) (gb := gb) (M := M) (o := o) hx
    rw [decide_eq_true hc2] at h111
    have ht0 : ¬ ay_i t < ay_i 0 := by rw [ay_i_lt (by omega) (by omega)]; omega
    rw [hy2]
    rw [hy1] at m3
    by_cases h0 : ((ag_nv M).1 (ap_x P b p)).2.1 = ay_i 0
    · have h02 : ¬ ay_i 0 = ay_i 2 := by rw [ay_i_eq (by omega) (by omega)]; omega
      rw [h0, if_pos rfl, if_neg h02]
      rw [h0] at e14
      obtain ⟨M', g1, g2, g3⟩ := am_107 (X := X) (e := e) (gb := gb) (o := o) (M := ax_u3 M 53 0 (ap_x P b p) (ay_i 0)) hb (by rw [ag_f53 _ _ _ (by omega) (by omega)]; exact hs) hn4 hpl (ag_rm_fe hR (fun f j h => ag_f53 f 0 j (by omega) (by omega)))
      rw [ag_nv_53 hx hc] at g3
      refine ⟨M', ?_, ?_, ag_fe2_fc ag_f53 g2, g3⟩
      · simp (disch := first | omega | assumption | exact ay_z1b _ | exact ay_z10 | exact ay_z11) only [ae_109, af_109_0, af_109_1, af_109_3, af_109_5, af_109_8, af_109_9, af_109_12, af_109_13, af_109_14, af_109_17, af_109_19, af_109_20, af_109_21, af_109_22, af_109_23, af_109_24, af_109_25, af_109_26, af_109_29, af_109_30, af_109_31, af_109_34, af_109_36, af_109_37, af_109_38, af_109_39, af_109_40, af_109_41, af_109_42, af_109_43, af_109_46, af_109_47, af_109_48, af_109_51, af_109_53, af_109_54, af_109_55, af_109_56, af_109_57, af_109_58, af_109_59, af_109_62, af_109_65, af_109_66, af_109_67, af_109_70, af_109_71, af_109_72, af_109_75, af_109_77, af_109_78, af_109_79, af_109_80, af_109_81, af_109_82, af_109_83, af_109_86, af_109_87, af_109_88, af_109_89, af_109_92, af_109_93, af_109_94, af_109_95, af_109_96, af_109_99, af_109_100, af_109_101, af_109_102, af_109_105, af_109_106, af_109_107, af_109_110, af_109_111, af_109_112, af_109_113, af_109_114, af_109_117, af_109_118, af_109_119, af_109_120, af_109_123, af_109_124, af_109_125, af_109_126, af_109_129, af_109_130, af_109_131, af_109_132, af_109_135, af_109_136, af_109_137, af_109_140, af_109_141, af_109_144, af_109_147, af_109_148, af_109_151, af_109_152, af_109_153, af_109_155, af_109_158, af_109_159, af_109_160, af_109_161, af_109_164, af_109_165, af_109_166, af_109_168, af_109_171, af_109_172, af_109_175, af_109_176, af_109_177, af_109_180, af_109_181, af_109_182, af_109_183, af_109_186, ae_110, af_110_0, af_110_1, af_110_2, af_110_5, af_110_8, af_110_10, af_110_13, af_110_15, af_110_16, af_110_19, af_110_20, af_110_21, af_110_24, af_110_25, af_110_26, af_110_27, af_110_28, af_110_31, af_110_32, af_110_33, af_110_36, af_110_37, af_110_38, af_110_41, af_110_42, af_110_43, af_110_46, af_110_47, af_110_48, af_110_50, af_110_52, af_110_55, af_110_56, af_110_59, af_110_60, af_110_61, af_110_62, af_110_63, af_110_64, af_110_66, af_110_69, af_110_71, af_110_72, af_110_75, af_110_76, af_110_79, af_110_80, af_110_81, af_110_82, af_110_83, af_110_84, af_110_85, af_110_86, af_110_87, af_110_90, m1, m2, m3, h111, ht0, ht, hpl, hs, e14, g1, ay_cl_v, ay_cl_s, ay_i_add, ay_i_mul, ay_i_eq, ay_i_lt, ay_b0, ay_b1, ay_ni, ay_in, ay_nn, ay_nl, ay_ln, if_true, if_false, ↓reduceIte, Nat.reduceAdd, Nat.reduceMul, Nat.reduceEqDiff, Nat.reduceLT, Nat.not_lt_zero, Bool.true_eq_false, Bool.false_eq_true, reduceCtorEq, Nat.add_zero, Nat.zero_add]
      · rw [g2 _ _ _ (by omega) (by omega)]; simp [ax_u3]; exact hf0
    · rw [if_neg h0]
      have e0 : ¬ M 53 0 (ap_x P b p) = ay_i 0 := by rw [e14]; exact h0
      obtain ⟨M', g1, g2, g3⟩ := am_107 (X := X) (e := e) (gb := gb) (o := o) (M := ax_u3 M 53 0 (ap_x P b p) (ay_i 2)) hb (by rw [ag_f53 _ _ _ (by omega) (by omega)]; exact hs) hn4 ht (ag_rm_fe hR (fun f j h => ag_f53 f 0 j (by omega) (by omega)))
      rw [ag_nv_53 hx hc] at g3
      by_cases h2 : ((ag_nv M).1 (ap_x P b p)).2.1 = ay_i 2
      · rw [if_pos h2]
        rw [h2] at e14
        refine ⟨M', ?_, ?_, ag_fe2_fc ag_f53 g2, g3⟩
        · simp (disch := first | omega | assumption | exact ay_z1b _ | exact ay_z10 | exact ay_z11) only [ae_109, af_109_0, af_109_1, af_109_3, af_109_5, af_109_8, af_109_9, af_109_12, af_109_13, af_109_14, af_109_17, af_109_19, af_109_20, af_109_21, af_109_22, af_109_23, af_109_24, af_109_25, af_109_26, af_109_29, af_109_30, af_109_31, af_109_34, af_109_36, af_109_37, af_109_38, af_109_39, af_109_40, af_109_41, af_109_42, af_109_43, af_109_46, af_109_47, af_109_48, af_109_51, af_109_53, af_109_54, af_109_55, af_109_56, af_109_57, af_109_58, af_109_59, af_109_62, af_109_65, af_109_66, af_109_67, af_109_70, af_109_71, af_109_72, af_109_75, af_109_77, af_109_78, af_109_79, af_109_80, af_109_81, af_109_82, af_109_83, af_109_86, af_109_87, af_109_88, af_109_89, af_109_92, af_109_93, af_109_94, af_109_95, af_109_96, af_109_99, af_109_100, af_109_101, af_109_102, af_109_105, af_109_106, af_109_107, af_109_110, af_109_111, af_109_112, af_109_113, af_109_114, af_109_117, af_109_118, af_109_119, af_109_120, af_109_123, af_109_124, af_109_125, af_109_126, af_109_129, af_109_130, af_109_131, af_109_132, af_109_135, af_109_136, af_109_137, af_109_140, af_109_141, af_109_144, af_109_147, af_109_148, af_109_151, af_109_152, af_109_153, af_109_155, af_109_158, af_109_159, af_109_160, af_109_161, af_109_164, af_109_165, af_109_166, af_109_168, af_109_171, af_109_172, af_109_175, af_109_176, af_109_177, af_109_180, af_109_181, af_109_182, af_109_183, af_109_186, ae_110, af_110_0, af_110_1, af_110_2, af_110_5, af_110_8, af_110_10, af_110_13, af_110_15, af_110_16, af_110_19, af_110_20, af_110_21, af_110_24, af_110_25, af_110_26, af_110_27, af_110_28, af_110_31, af_110_32, af_110_33, af_110_36, af_110_37, af_110_38, af_110_41, af_110_42, af_110_43, af_110_46, af_110_47, af_110_48, af_110_50, af_110_52, af_110_55, af_110_56, af_110_59, af_110_60, af_110_61, af_110_62, af_110_63, af_110_64, af_110_66, af_110_69, af_110_71, af_110_72, af_110_75, af_110_76, af_110_79, af_110_80, af_110_81, af_110_82, af_110_83, af_110_84, af_110_85, af_110_86, af_110_87, af_110_90, m1, m2, m3, h111, ht0, ht, hpl, hs, e14, g1, ay_cl_v, ay_cl_s, ay_i_add, ay_i_mul, ay_i_eq, ay_i_lt, ay_b0, ay_b1, ay_ni, ay_in, ay_nn, ay_nl, ay_ln, if_true, if_false, ↓reduceIte, Nat.reduceAdd, Nat.reduceMul, Nat.reduceEqDiff, Nat.reduceLT, Nat.not_lt_zero, Bool.true_eq_false, Bool.false_eq_true, reduceCtorEq, Nat.add_zero, Nat.zero_add]
        · rw [g2 _ _ _ (by omega) (by omega)]; simp [ax_u3]; exact hf0
      · rw [if_neg h2]
        have e2 : ¬ M 53 0 (ap_x P b p) = ay_i 2 := by rw [e14]; exact h2
        have hv : ag_nv M' = (ag_st (ag_nv M).1 (ap_x P b p) (((ag_nv M).1 (ap_x P b p)).1, ay_i 2, ((ag_nv M).1 (ap_x P b p)).2.2), (ag_nv M).2) := by rw [ag_nv_fc g2, ag_nv_53 hx hc]
        have hs' : M' 40 0 b = ay_i n := by rw [g2 _ _ _ (by omega) (by omega), ag_f53 _ _ _ (by omega) (by omega)]; exact hs
        obtain ⟨M2, k1, k2, k3⟩ := am_107 (X := X) (e := e) (gb := gb) (o := o) (M := ax_u3 M' 53 0 (ap_x P b p) (ay_i 0)) hb (by rw [ag_f53 _ _ _ (by omega) (by omega)]; exact hs') hn4 hpl (ag_rm_fe g3 (fun f j h => ag_f53 f 0 j (by omega) (by omega)))
        have hs2 : ag_st (ag_st (ag_nv M).1 (ap_x P b p) (((ag_nv M).1 (ap_x P b p)).1, ay_i 2, ((ag_nv M).1 (ap_x P b p)).2.2)) (ap_x P b p) (((ag_nv M).1 (ap_x P b p)).1, ay_i 0, ((ag_nv M).1 (ap_x P b p)).2.2) = ag_st (ag_nv M).1 (ap_x P b p) (((ag_nv M).1 (ap_x P b p)).1, ay_i 0, ((ag_nv M).1 (ap_x P b p)).2.2) := by
          funext l; unfold ag_st; split <;> rfl
        have hx2 : ag_st (ag_nv M).1 (ap_x P b p) (((ag_nv M).1 (ap_x P b p)).1, ay_i 2, ((ag_nv M).1 (ap_x P b p)).2.2) (ap_x P b p) = (((ag_nv M).1 (ap_x P b p)).1, ay_i 2, ((ag_nv M).1 (ap_x P b p)).2.2) := if_pos rfl
        rw [ag_nv_53 hx (by rw [hv]; simp only [hx2]; exact hc), hv] at k3
        simp only [hx2, hs2] at k3
        refine ⟨M2, ?_, ?_, ?_, k3⟩
        · simp (disch := first | omega | assumption | exact ay_z1b _ | exact ay_z10 | exact ay_z11) only [ae_109, af_109_0, af_109_1, af_109_3, af_109_5, af_109_8, af_109_9, af_109_12, af_109_13, af_109_14, af_109_17, af_109_19, af_109_20, af_109_21, af_109_22, af_109_23, af_109_24, af_109_25, af_109_26, af_109_29, af_109_30, af_109_31, af_109_34, af_109_36, af_109_37, af_109_38, af_109_39, af_109_40, af_109_41, af_109_42, af_109_43, af_109_46, af_109_47, af_109_48, af_109_51, af_109_53, af_109_54, af_109_55, af_109_56, af_109_57, af_109_58, af_109_59, af_109_62, af_109_65, af_109_66, af_109_67, af_109_70, af_109_71, af_109_72, af_109_75, af_109_77, af_109_78, af_109_79, af_109_80, af_109_81, af_109_82, af_109_83, af_109_86, af_109_87, af_109_88, af_109_89, af_109_92, af_109_93, af_109_94, af_109_95, af_109_96, af_109_99, af_109_100, af_109_101, af_109_102, af_109_105, af_109_106, af_109_107, af_109_110, af_109_111, af_109_112, af_109_113, af_109_114, af_109_117, af_109_118, af_109_119, af_109_120, af_109_123, af_109_124, af_109_125, af_109_126, af_109_129, af_109_130, af_109_131, af_109_132, af_109_135, af_109_136, af_109_137, af_109_140, af_109_141, af_109_144, af_109_147, af_109_148, af_109_151, af_109_152, af_109_153, af_109_155, af_109_158, af_109_159, af_109_160, af_109_161, af_109_164, af_109_165, af_109_166, af_109_168, af_109_171, af_109_172, af_109_175, af_109_176, af_109_177, af_109_180, af_109_181, af_109_182, af_109_183, af_109_186, ae_110, af_110_0, af_110_1, af_110_2, af_110_5, af_110_8, af_110_10, af_110_13, af_110_15, af_110_16, af_110_19, af_110_20, af_110_21, af_110_24, af_110_25, af_110_26, af_110_27, af_110_28, af_110_31, af_110_32, af_110_33, af_110_36, af_110_37, af_110_38, af_110_41, af_110_42, af_110_43, af_110_46, af_110_47, af_110_48, af_110_50, af_110_52, af_110_55, af_110_56, af_110_59, af_110_60, af_110_61, af_110_62, af_110_63, af_110_64, af_110_66, af_110_69, af_110_71, af_110_72, af_110_75, af_110_76, af_110_79, af_110_80, af_110_81, af_110_82, af_110_83, af_110_84, af_110_85, af_110_86, af_110_87, af_110_90, m1, m2, m3, h111, ht0, ht, hpl, hs, e0, e2, g1, k1, ay_cl_v, ay_cl_s, ay_i_add, ay_i_mul, ay_i_eq, ay_i_lt, ay_b0, ay_b1, ay_ni, ay_in, ay_nn, ay_nl, ay_ln, if_true, if_false, ↓reduceIte, Nat.reduceAdd, Nat.reduceMul, Nat.reduceEqDiff, Nat.reduceLT, Nat.not_lt_zero, Bool.true_eq_false, Bool.false_eq_true, reduceCtorEq, Nat.add_zero, Nat.zero_add]
        · have hz : ax_u3 M' 53 0 (ap_x P b p) (ay_i 0) 24 0 20 = M' 24 0 20 := by simp [ax_u3]
          rw [k2 _ _ _ (by omega) (by omega), hz, g2 _ _ _ (by omega) (by omega)]; simp [ax_u3]; exact hf0
        · intro f i j q1 q2
          rw [k2 f i j (by omega) (by omega), ag_f53 f i j (by omega) (by omega)]
          exact ag_fe2_fc ag_f53 g2 f i j q1 q2
theorem ag_qa (hW : ap_wf P) (hm : ac_m M P) (hb : b < 12) (hn : n = ap_sz P b) (hpn : p < n) (hR : ag_rm M n G) (hws : ag_ws (ag_nv M)) (hf0 : M 24 0 20 = ay_i 0) : ag_om (ax_fn 109 82 [some (.ref (ax_a 24 0)), some (.int (ay_i b)), some (.int (ay_i p)), some (.int (ay_i (40 * b + p)))] [] (ax_hp X e gb M o)) X e gb M o n G (ag_no P b n p (ag_nv M)) (ag_ou P b p (ag_nv M)) := by
  have h8 := (ap_onm hW hm hb hn hpn).2.2.1.2.1
  have hc : ap_o P b p = 0 ∨ ap_o P b p = 1 ∨ ap_o P b p = 2 ∨ ap_o P b p = 3 ∨ ap_o P b p = 4 ∨ ap_o P b p = 5 ∨ ap_o P b p = 6 ∨ ap_o P b p = 7 ∨ ap_o P b p = 8 := by omega
  rcases hc with h | h | h | h | h | h | h | h | h
  · exact ag_q0 hW hm hb hn hpn hR hws hf0 h
  · exact ag_q1 hW hm hb hn hpn hR hws hf0 h
  · exact ag_q2 hW hm hb hn hpn hR hws hf0 h
  · exact ag_q3 hW hm hb hn hpn hR hws hf0 h
  · exact ag_q4 hW hm hb hn hpn hR hws hf0 h
  · exact ag_q5 hW hm hb hn hpn hR hws hf0 h
  · exact ag_q6 hW hm hb hn hpn hR hws hf0 h
  · exact ag_q7 hW hm hb hn hpn hR hws hf0 h
  · exact ag_q8 hW hm hb hn hpn hR hws hf0 h
theorem al_109 (hp : p < 40) {vb : Int32} : ∀ d k (M : ax_M), k + d = 8 → ∃ M' : ax_M, ax_fn 109 2 [some (.ref (ax_a 24 0)), some (.int vb), some (.int (ay_i p)), some (.int (ay_i k))] [] (ax_hp X e gb M o) = ax_fn 109 65 [some (.ref (ax_a 24 0)), some (.int vb), some (.int (ay_i p)), some (.int (ay_i 8))] [] (ax_hp X e gb M' o) ∧ (∀ f i j, ¬ (52 ≤ f ∧ f ≤ 54 ∧ k ≤ j) → M' f i j = M f i j) ∧ (∀ l, k ≤ l → l < 8 → ag_tn M' l = ag_tp M (8 * p + l)) := by
  intro d
  induction d with
  | zero =>
    intro k M hk
    obtain rfl : k = 8 := by omega
    refine ⟨M, ?_, fun _ _ _ _ => rfl, fun l h1 h2 => absurd h2 (by omega)⟩
    rw [af_109_2]
    simp (disch := first | omega | assumption | exact ay_z1b _ | exact ay_z10 | exact ay_z11) only [ae_109, af_109_0, af_109_1, af_109_3, af_109_5, af_109_8, af_109_9, af_109_12, af_109_13, af_109_14, af_109_17, af_109_19, af_109_20, af_109_21, af_109_22, af_109_23, af_109_24, af_109_25, af_109_26, af_109_29, af_109_30, af_109_31, af_109_34, af_109_36, af_109_37, af_109_38, af_109_39, af_109_40, af_109_41, af_109_42, af_109_43, af_109_46, af_109_47, af_109_48, af_109_51, af_109_53, af_109_54, af_109_55, af_109_56, af_109_57, af_109_58, af_109_59, af_109_62, af_109_66, af_109_67, af_109_70, af_109_71, af_109_72, af_109_75, af_109_77, af_109_78, af_109_79, af_109_80, af_109_81, af_109_82, af_109_83, af_109_86, af_109_87, af_109_88, af_109_89, af_109_92, af_109_93, af_109_94, af_109_95, af_109_96, af_109_99, af_109_100, af_109_101, af_109_102, af_109_105, af_109_106, af_109_107, af_109_110, af_109_111, af_109_112, af_109_113, af_109_114, af_109_117, af_109_118, af_109_119, af_109_120, af_109_123, af_109_124, af_109_125, af_109_126, af_109_129, af_109_130, af_109_131, af_109_132, af_109_135, af_109_136, af_109_137, af_109_140, af_109_141, af_109_144, af_109_147, af_109_148, af_109_151, af_109_152, af_109_153, af_109_155, af_109_158, af_109_159, af_109_160, af_109_161, af_109_164, af_109_165, af_109_166, af_109_168, af_109_171, af_109_172, af_109_175, af_109_176, af_109_177, af_109_180, af_109_181, af_109_182, af_109_183, af_109_186, ay_cl_v, ay_cl_s, ay_i_add, ay_i_mul, ay_i_eq, ay_i_lt, ay_b0, ay_b1, ay_ni, ay_in, ay_nn, ay_nl, ay_ln, if_true, if_false, ↓reduceIte, Nat.reduceAdd, Nat.reduceMul, Nat.reduceEqDiff, Nat.reduceLT, Nat.not_lt_zero, Bool.true_eq_false, Bool.false_eq_true, reduceCtorEq, Nat.add_zero, Nat.zero_add]
  | succ d ih =>
    intro k M hk
    have hlt : k < 8 := by omega
    obtain ⟨M', e1, e2, e3⟩ := ih (k + 1) (ax_u3 (ax_u3 (ax_u3 M 52 0 k (M 46 0 (8 * p + k))) 53 0 k (M 47 0 (8 * p + k))) 54 0 k (M 48 0 (8 * p + k))) (by omega)
    refine ⟨M', ?_, fun f i j h1 => ?_, fun l h1 h2 => ?_⟩
    · rw [← e1, af_109_2]
      simp (disch := first | omega | assumption | exact ay_z1b _ | exact ay_z10 | exact ay_z11) only [ae_109, af_109_0, af_109_1, af_109_3, af_109_5, af_109_8, af_109_9, af_109_12, af_109_13, af_109_14, af_109_17, af_109_19, af_109_20, af_109_21, af_109_22, af_109_23, af_109_24, af_109_25, af_109_26, af_109_29, af_109_30, af_109_31, af_109_34, af_109_36, af_109_37, af_109_38, af_109_39, af_109_40, af_109_41, af_109_42, af_109_43, af_109_46, af_109_47, af_109_48, af_109_51, af_109_53, af_109_54, af_109_55, af_109_56, af_109_57, af_109_58, af_109_59, af_109_62, af_109_66, af_109_67, af_109_70, af_109_71, af_109_72, af_109_75, af_109_77, af_109_78, af_109_79, af_109_80, af_109_81, af_109_82, af_109_83, af_109_86, af_109_87, af_109_88, af_109_89, af_109_92, af_109_93, af_109_94, af_109_95, af_109_96, af_109_99, af_109_100, af_109_101, af_109_102, af_109_105, af_109_106, af_109_107, af_109_110, af_109_111, af_109_112, af_109_113, af_109_114, af_109_117, af_109_118, af_109_119, af_109_120, af_109_123, af_109_124, af_109_125, af_109_126, af_109_129, af_109_130, af_109_131, af_109_132, af_109_135, af_109_136, af_109_137, af_109_140, af_109_141, af_109_144, af_109_147, af_109_148, af_109_151, af_109_152, af_109_153, af_109_155, af_109_158, af_109_159, af_109_160, af_109_161, af_109_164, af_109_165, af_109_166, af_109_168, af_109_171, af_109_172, af_109_175, af_109_176, af_109_177, af_109_180, af_109_181, af_109_182, af_109_183, af_109_186, hlt, ay_u3e, false_and, and_false, true_and, and_true, and_self, ay_cl_v, ay_cl_s, ay_i_add, ay_i_mul, ay_i_eq, ay_i_lt, ay_b0, ay_b1, ay_ni, ay_in, ay_nn, ay_nl, ay_ln, if_true, if_false, ↓reduceIte, Nat.reduceAdd, Nat.reduceMul, Nat.reduceEqDiff, Nat.reduceLT, Nat.not_lt_zero, Bool.true_eq_false, Bool.false_eq_true, reduceCtorEq, Nat.add_zero, Nat.zero_add]
    · rw [e2 f i j (by omega)]
      simp only [ax_u3]; grind
    · by_cases hlk : l = k
      · subst hlk
        unfold ag_tp ag_tn
        rw [e2 52 0 _ (by omega), e2 53 0 _ (by omega), e2 54 0 _ (by omega)]
        simp [ax_u3]
      · rw [e3 l (by omega) h2]
        unfold ag_tp
        simp [ax_u3]
theorem am_109 (hW : ap_wf P) (hm : ac_m M P) (hb : b < 12) (hn : n = ap_sz P b) (hpn : p < n) (hR : ag_rm M n G) (hws : ag_ws (ag_vp M p)) (hf0 : M 24 0 20 = ay_i 0) : ag_om (ax_fn 109 0 (ax_entry 109 [.ref (ax_a 24 0), .int (ay_i b), .int (ay_i p)]) [] (ax_hp X e gb M o)) X e gb M o n G (ag_no P b n p (ag_vp M p)) (ag_ou P b p (ag_vp M p)) := by
  have hn4 := (ap_onm hW hm hb hn hpn).1
  obtain ⟨M1, e1, e2, e3⟩ := al_109 (X := X) (e := e) (gb := gb) (o := o) (p := p) (by omega) (vb := ay_i b) 8 0 M (by omega)
  have hfe : ag_fe2 M (ax_u3 M1 24 0 25 (M 49 0 p)) := by
    intro f i j h1 h2
    rw [← e2 f i j (by omega)]
    simp only [ax_u3]; grind
  have hnv : ag_nv (ax_u3 M1 24 0 25 (M 49 0 p)) = ag_vp M p := by
    refine Prod.ext ?_ ?_
    · funext l
      show (if l < 8 then ag_tn _ l else ag_z) = if l < 8 then ag_tp M (8 * p + l) else ag_z
      by_cases hl : l < 8
      · rw [if_pos hl, if_pos hl, ← e3 l (by omega) hl]
        unfold ag_tn; simp [ax_u3]
      · rw [if_neg hl, if_neg hl]
    · show ax_u3 M1 24 0 25 (M 49 0 p) 24 0 25 = M 49 0 p
      simp [ax_u3]
  have h49 : M1 49 0 p = M 49 0 p := e2 _ _ _ (by omega)
  have hrun : ax_fn 109 0 (ax_entry 109 [.ref (ax_a 24 0), .int (ay_i b), .int (ay_i p)]) [] (ax_hp X e gb M o) = ax_fn 109 82 [some (.ref (ax_a 24 0)), some (.int (ay_i b)), some (.int (ay_i p)), some (.int (ay_i (40 * b + p)))] [] (ax_hp X e gb (ax_u3 M1 24 0 25 (M 49 0 p)) o) := by
    simp (disch := first | omega | assumption | exact ay_z1b _ | exact ay_z10 | exact ay_z11) only [ae_109, af_109_0, af_109_1, af_109_3, af_109_5, af_109_8, af_109_9, af_109_12, af_109_13, af_109_14, af_109_17, af_109_19, af_109_20, af_109_21, af_109_22, af_109_23, af_109_24, af_109_25, af_109_26, af_109_29, af_109_30, af_109_31, af_109_34, af_109_36, af_109_37, af_109_38, af_109_39, af_109_40, af_109_41, af_109_42, af_109_43, af_109_46, af_109_47, af_109_48, af_109_51, af_109_53, af_109_54, af_109_55, af_109_56, af_109_57, af_109_58, af_109_59, af_109_62, af_109_66, af_109_67, af_109_70, af_109_71, af_109_72, af_109_75, af_109_77, af_109_78, af_109_79, af_109_80, af_109_81, af_109_83, af_109_86, af_109_87, af_109_88, af_109_89, af_109_92, af_109_93, af_109_94, af_109_95, af_109_96, af_109_99, af_109_100, af_109_101, af_109_102, af_109_105, af_109_106, af_109_107, af_109_110, af_109_111, af_109_112, af_109_113, af_109_114, af_109_117, af_109_118, af_109_119, af_109_120, af_109_123, af_109_124, af_109_125, af_109_126, af_109_129, af_109_130, af_109_131, af_109_132, af_109_135, af_109_136, af_109_137, af_109_140, af_109_141, af_109_144, af_109_147, af_109_148, af_109_151, af_109_152, af_109_153, af_109_155, af_109_158, af_109_159, af_109_160, af_109_161, af_109_164, af_109_165, af_109_166, af_109_168, af_109_171, af_109_172, af_109_175, af_109_176, af_109_177, af_109_180, af_109_181, af_109_182, af_109_183, af_109_186, ay_cl_v, ay_cl_s, ay_i_add, ay_i_mul, ay_i_eq, ay_i_lt, ay_b0, ay_b1, ay_ni, ay_in, ay_nn, ay_nl, ay_ln, if_true, if_false, ↓reduceIte, Nat.reduceAdd, Nat.reduceMul, Nat.reduceEqDiff, Nat.reduceLT, Nat.not_lt_zero, Bool.true_eq_false, Bool.false_eq_true, reduceCtorEq, Nat.add_zero, Nat.zero_add]
    rw [e1]
    simp (disch := first | omega | assumption | exact ay_z1b _ | exact ay_z10 | exact ay_z11) only [ae_109, af_109_0, af_109_1, af_109_3, af_109_5, af_109_8, af_109_9, af_109_12, af_109_13, af_109_14, af_109_17, af_109_19, af_109_20, af_109_21, af_109_22, af_109_23, af_109_24, af_109_25, af_109_26, af_109_29, af_109_30, af_109_31, af_109_34, af_109_36, af_109_37, af_109_38, af_109_39, af_109_40, af_109_41, af_109_42, af_109_43, af_109_46, af_109_47, af_109_48, af_109_51, af_109_53, af_109_54, af_109_55, af_109_56, af_109_57, af_109_58, af_109_59, af_109_62, af_109_65, af_109_66, af_109_67, af_109_70, af_109_71, af_109_72, af_109_75, af_109_77, af_109_78, af_109_79, af_109_80, af_109_81, af_109_83, af_109_86, af_109_87, af_109_88, af_109_89, af_109_92, af_109_93, af_109_94, af_109_95, af_109_96, af_109_99, af_109_100, af_109_101, af_109_102, af_109_105, af_109_106, af_109_107, af_109_110, af_109_111, af_109_112, af_109_113, af_109_114, af_109_117, af_109_118, af_109_119, af_109_120, af_109_123, af_109_124, af_109_125, af_109_126, af_109_129, af_109_130, af_109_131, af_109_132, af_109_135, af_109_136, af_109_137, af_109_140, af_109_141, af_109_144, af_109_147, af_109_148, af_109_151, af_109_152, af_109_153, af_109_155, af_109_158, af_109_159, af_109_160, af_109_161, af_109_164, af_109_165, af_109_166, af_109_168, af_109_171, af_109_172, af_109_175, af_109_176, af_109_177, af_109_180, af_109_181, af_109_182, af_109_183, af_109_186, h49, ay_cl_v, ay_cl_s, ay_i_add, ay_i_mul, ay_i_eq, ay_i_lt, ay_b0, ay_b1, ay_ni, ay_in, ay_nn, ay_nl, ay_ln, if_true, if_false, ↓reduceIte, Nat.reduceAdd, Nat.reduceMul, Nat.reduceEqDiff, Nat.reduceLT, Nat.not_lt_zero, Bool.true_eq_false, Bool.false_eq_true, reduceCtorEq, Nat.add_zero, Nat.zero_add]
  have key := ag_qa (X := X) (e := e) (gb := gb) (o := o) (M := ax_u3 M1 24 0 25 (M 49 0 p)) (P := P) (b := b) (n := n) (p := p) (G := G) hW (fun f j h1 h2 => by rw [hfe f 0 j (by omega) (by omega)]; exact hm f j h1 h2) hb hn hpn (ag_rm_fe hR (fun f j h => hfe f 0 j (by omega) (by omega))) (by rw [hnv]; exact hws) (by
    have : ax_u3 M1 24 0 25 (M 49 0 p) 24 0 20 = M1 24 0 20 := by simp [ax_u3]
    rw [this, e2 _ _ _ (by omega)]; exact hf0)
  rw [hnv] at key
  rw [hrun]
  refine ⟨fun h => ?_, fun h => ?_⟩
  · obtain ⟨M', k1, k2, k3⟩ := key.1 h
    exact ⟨M', k1, k2, fun f i j q1 q2 => (k3 f i j q1 q2).trans (hfe f i j (by omega) (by omega))⟩
  · obtain ⟨M', k1, k2, k3, k4⟩ := key.2 h
    exact ⟨M', k1, k2, fun f i j q1 q2 => (k3 f i j q1 q2).trans (hfe f i j (by omega) (by omega)), k4⟩
end AmJ
