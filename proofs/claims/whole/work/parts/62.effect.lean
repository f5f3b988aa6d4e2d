/-! the reference's guard: what an instruction does to what is now held -/
theorem ag_nv_lt {M : ax_M} {l : Nat} (hl : l < 8) : (ag_nv M).1 l = ag_tn M l := if_pos hl
theorem ag_nv_u3 {M : ax_M} {x : Nat} {c n t : Int32} (hx : x < 8) : ag_nv (ax_u3 (ax_u3 (ax_u3 M 52 0 x c) 53 0 x n) 54 0 x t) = (ag_st (ag_nv M).1 x (ag_nl c n t), (ag_nv M).2) := by
  unfold ag_nv ag_st ag_tn
  refine Prod.ext ?_ ?_
  · funext l
    by_cases hl : l = x
    · subst hl; simp [ax_u3, hx]
    · simp [ax_u3, hl]
  · simp [ax_u3]
theorem ag_nv_20 {M : ax_M} {v : Int32} : ag_nv (ax_u3 M 24 0 20 v) = ag_nv M := by
  unfold ag_nv ag_tn; simp [ax_u3]
/-- only what is now held, and whether it fails, has changed -/
def ag_fe2 (M M' : ax_M) : Prop := ∀ f i j, ¬ (52 ≤ f ∧ f ≤ 54) → ¬ (f = 24 ∧ (j = 20 ∨ j = 25)) → M' f i j = M f i j
section AmO
variable {X : Nat × (Nat → Int32)} {e gb : Nat} {M P : ax_M} {o : Int64} {h : ax_H} {b n : Nat}
theorem am_115 {l : Nat} {c s : Int32} {nb : Bool} (hl : l < 8) (hc : ap_nb c 6) {d0 : Decidable (ag_fit (ag_tn M l) c nb s)} : ax_fn 115 0 (ax_entry 115 [.ref (ax_a 24 0), .int (ay_i l), .int c, .int (ay_b nb), .int s]) [] (ax_hp X e gb M o) = some (.inl (some (.int (ay_b (decide (ag_fit (ag_tn M l) c nb s))))), ax_hp X e gb M o) := by
  have hf := ag_fit_raw (c := M 52 0 l) (n := M 53 0 l) (t := M 54 0 l) (nb := nb) (ds := s) hc
  have h2 := (ag_nb2 hc (by omega)).1
  have h12 := ag_n12
  have h111 := am_111 (X := X) (e := e) (gb := gb) (M := M) (o := o) hl
  have key : decide (ag_fit (ag_tn M l) c nb s) = (decide (M 52 0 l = c ∨ M 52 0 l = ay_n 1) && decide (M 53 0 l = ay_i 0 ∨ nb = true) && decide (M 54 0 l = s ∨ s = ay_i 2 ∨ M 53 0 l = ay_i 2)) := by
    rw [Bool.eq_iff_iff, decide_eq_true_eq, Bool.and_eq_true, Bool.and_eq_true, decide_eq_true_eq, decide_eq_true_eq, decide_eq_true_eq]
    exact hf
  rw [key]
  by_cases hh : M 52 0 l = ay_n 2
  · rw [decide_eq_false (not_not_intro hh)] at h111
    have hz : ¬ (M 52 0 l = c ∨ M 52 0 l = ay_n 1) := by
      rw [hh]; rintro (h | h)
      · exact h2 h.symm
      · exact h12 h
    rw [decide_eq_false hz]
    simp (disch := first | omega | assumption | exact ay_z1b _ | exact ay_z10 | exact ay_z11) only [ae_115, af_115_0, af_115_1, af_115_2, af_115_5, af_115_8, af_115_9, af_115_12, af_115_13, af_115_14, af_115_15, af_115_18, af_115_19, af_115_22, af_115_23, af_115_24, af_115_25, af_115_28, af_115_29, af_115_32, af_115_33, af_115_35, af_115_37, af_115_40, af_115_41, af_115_44, af_115_45, af_115_46, af_115_49, af_115_50, af_115_53, af_115_54, af_115_57, af_115_58, af_115_60, af_115_62, af_115_65, af_115_66, af_115_69, af_115_70, af_115_71, af_115_73, af_115_76, af_115_78, af_115_79, af_115_82, af_115_83, af_115_86, af_115_87, af_115_88, af_115_89, af_115_92, af_115_93, af_115_96, af_115_97, h111, ay_cl_v, ay_cl_s, ay_i_add, ay_i_mul, ay_i_eq, ay_i_lt, ay_b0, ay_b1, ay_ni, ay_in, ay_nn, ay_nl, ay_ln, if_true, if_false, ↓reduceIte, Nat.reduceAdd, Nat.reduceMul, Nat.reduceEqDiff, Nat.reduceLT, Nat.not_lt_zero, Bool.true_eq_false, Bool.false_eq_true, reduceCtorEq, Nat.add_zero, Nat.zero_add, ay_ite_st, ay_ite_ls, ay_ba, ay_bb, ay_bc, ay_bg, ay_be, ay_bh, Bool.not_eq_true, Bool.not_eq_false, ite_self]
    rfl
  · rw [decide_eq_true hh] at h111
    have fin : ∀ x y : Bool, x = y → (some (.inl (some (.int (ay_b x))), ax_hp X e gb M o) : Option (ax_O × ax_H)) = some (.inl (some (.int (ay_b y))), ax_hp X e gb M o) := fun x y h => by rw [h]
    simp (disch := first | omega | assumption | exact ay_z1b _ | exact ay_z10 | exact ay_z11) only [ae_115, af_115_0, af_115_1, af_115_2, af_115_5, af_115_8, af_115_9, af_115_12, af_115_13, af_115_14, af_115_15, af_115_18, af_115_19, af_115_22, af_115_23, af_115_24, af_115_25, af_115_28, af_115_29, af_115_32, af_115_35, af_115_37, af_115_40, af_115_41, af_115_44, af_115_45, af_115_46, af_115_49, af_115_50, af_115_53, af_115_54, af_115_57, af_115_60, af_115_62, af_115_65, af_115_66, af_115_69, af_115_70, af_115_71, af_115_73, af_115_76, af_115_78, af_115_79, af_115_82, af_115_83, af_115_86, af_115_87, af_115_88, af_115_89, af_115_92, af_115_93, af_115_96, h111, ay_cl_v, ay_cl_s, ay_i_add, ay_i_mul, ay_i_eq, ay_i_lt, ay_b0, ay_b1, ay_ni, ay_in, ay_nn, ay_nl, ay_ln, if_true, if_false, ↓reduceIte, Nat.reduceAdd, Nat.reduceMul, Nat.reduceEqDiff, Nat.reduceLT, Nat.not_lt_zero, Bool.true_eq_false, Bool.false_eq_true, reduceCtorEq, Nat.add_zero, Nat.zero_add, ay_ite_st, ay_ite_ls, ay_ba, ay_bb, ay_bc, ay_bg, ay_be, ay_bh, Bool.not_eq_true, Bool.not_eq_false, ite_self]
    rw [af_115_33]
    simp (disch := first | omega | assumption | exact ay_z1b _ | exact ay_z10 | exact ay_z11) only [ae_115, af_115_0, af_115_1, af_115_2, af_115_5, af_115_8, af_115_9, af_115_12, af_115_13, af_115_14, af_115_15, af_115_18, af_115_19, af_115_22, af_115_23, af_115_24, af_115_25, af_115_28, af_115_29, af_115_32, af_115_35, af_115_37, af_115_40, af_115_41, af_115_44, af_115_45, af_115_46, af_115_49, af_115_50, af_115_53, af_115_54, af_115_57, af_115_60, af_115_62, af_115_65, af_115_66, af_115_69, af_115_70, af_115_71, af_115_73, af_115_76, af_115_78, af_115_79, af_115_82, af_115_83, af_115_86, af_115_87, af_115_88, af_115_89, af_115_92, af_115_93, af_115_96, ay_cl_v, ay_cl_s, ay_i_add, ay_i_mul, ay_i_eq, ay_i_lt, ay_b0, ay_b1, ay_ni, ay_in, ay_nn, ay_nl, ay_ln, if_true, if_false, ↓reduceIte, Nat.reduceAdd, Nat.reduceMul, Nat.reduceEqDiff, Nat.reduceLT, Nat.not_lt_zero, Bool.true_eq_false, Bool.false_eq_true, reduceCtorEq, Nat.add_zero, Nat.zero_add, ay_ite_st, ay_ite_ls, ay_ba, ay_bb, ay_bc, ay_bg, ay_be, ay_bh, Bool.not_eq_true, Bool.not_eq_false, ite_self]
    rw [af_115_58]
    simp (disch := first | omega | assumption | exact ay_z1b _ | exact ay_z10 | exact ay_z11) only [ae_115, af_115_0, af_115_1, af_115_2, af_115_5, af_115_8, af_115_9, af_115_12, af_115_13, af_115_14, af_115_15, af_115_18, af_115_19, af_115_22, af_115_23, af_115_24, af_115_25, af_115_28, af_115_29, af_115_32, af_115_35, af_115_37, af_115_40, af_115_41, af_115_44, af_115_45, af_115_46, af_115_49, af_115_50, af_115_53, af_115_54, af_115_57, af_115_60, af_115_62, af_115_65, af_115_66, af_115_69, af_115_70, af_115_71, af_115_73, af_115_76, af_115_78, af_115_79, af_115_82, af_115_83, af_115_86, af_115_87, af_115_88, af_115_89, af_115_92, af_115_93, af_115_96, ay_cl_v, ay_cl_s, ay_i_add, ay_i_mul, ay_i_eq, ay_i_lt, ay_b0, ay_b1, ay_ni, ay_in, ay_nn, ay_nl, ay_ln, if_true, if_false, ↓reduceIte, Nat.reduceAdd, Nat.reduceMul, Nat.reduceEqDiff, Nat.reduceLT, Nat.not_lt_zero, Bool.true_eq_false, Bool.false_eq_true, reduceCtorEq, Nat.add_zero, Nat.zero_add, ay_ite_st, ay_ite_ls, ay_ba, ay_bb, ay_bc, ay_bg, ay_be, ay_bh, Bool.not_eq_true, Bool.not_eq_false, ite_self]
    rw [af_115_97 (ay_z1b _)]
    apply fin
    clear key hf h111 fin
    cases nb <;> grind
theorem al_114 {c z : Nat} (hW : ap_wf P) (hm : ac_m M P) (hc : c < 12) (hz : z < 8) {d0 : Decidable (ag_af P c z (ag_nv M).1)} : ∀ d k (l5 : Option Value), k + d = ap_mn P c → (∀ j, j < k → z + j < 8 ∧ ag_fit ((ag_nv M).1 (z + j)) (P 34 0 (3 * c + j)) (ap_nu P (3 * c + j)) (P 36 0 (3 * c + j))) → ax_fn 114 5 [some (.ref (ax_a 24 0)), some (.int (ay_i c)), some (.int (ay_i z)), some (.int (ay_i 1)), some (.int (ay_i k)), l5] [] (ax_hp X e gb M o) = some (.inl (some (.int (ay_b (decide (ag_af P c z (ag_nv M).1))))), ax_hp X e gb M o) := by
  have hmn : M 33 0 c = ay_i (ap_mn P c) := by rw [hm 33 c (by omega) (by omega)]; exact (hW.2.1 c hc).1
  have hm3 := (hW.2.1 c hc).2
  intro d
  induction d with
  | zero =>
    intro k l5 hk hall
    obtain rfl : k = ap_mn P c := by omega
    rw [af_114_5]
    simp (disch := first | omega | assumption | exact ay_z1b _ | exact ay_z10 | exact ay_z11) only [ae_114, af_114_0, af_114_1, af_114_2, af_114_3, af_114_7, af_114_8, af_114_11, af_114_12, af_114_13, af_114_16, af_114_17, af_114_20, af_114_21, af_114_22, af_114_23, af_114_25, af_114_26, af_114_28, af_114_29, af_114_31, af_114_32, af_114_34, af_114_37, af_114_38, af_114_39, af_114_41, af_114_42, af_114_43, af_114_46, af_114_48, af_114_49, af_114_50, af_114_53, af_114_55, af_114_56, af_114_57, af_114_60, af_114_62, af_114_63, af_114_66, af_114_69, af_114_70, af_114_73, af_114_74, af_114_75, af_114_78, af_114_81, af_114_82, hmn, Nat.lt_irrefl, ay_cl_v, ay_cl_s, ay_i_add, ay_i_mul, ay_i_eq, ay_i_lt, ay_b0, ay_b1, ay_ni, ay_in, ay_nn, ay_nl, ay_ln, if_true, if_false, ↓reduceIte, Nat.reduceAdd, Nat.reduceMul, Nat.reduceEqDiff, Nat.reduceLT, Nat.not_lt_zero, Bool.true_eq_false, Bool.false_eq_true, reduceCtorEq, Nat.add_zero, Nat.zero_add]
    rw [ay_bd (show ag_af P c z (ag_nv M).1 from hall)]
  | succ d ih =>
    intro k l5 hk hall
    have hlt : k < ap_mn P c := by omega
    obtain ⟨q1, q2, q3⟩ := hW.2.2.2.2.1 (3 * c + k) (by omega)
    have m1 := hm 34 (3 * c + k) (by omega) (by omega)
    have m2 := hm 35 (3 * c + k) (by omega) (by omega)
    have m3 := hm 36 (3 * c + k) (by omega) (by omega)
    rw [q2] at m2
    rw [af_114_5]
    by_cases h8 : z + k < 8
    · have h115 := am_115 (X := X) (e := e) (gb := gb) (M := M) (o := o) (s := P 36 0 (3 * c + k)) (nb := ap_nu P (3 * c + k)) h8 q1 (d0 := Classical.propDecidable _)
      by_cases hfit : ag_fit ((ag_nv M).1 (z + k)) (P 34 0 (3 * c + k)) (ap_nu P (3 * c + k)) (P 36 0 (3 * c + k))
      · rw [@decide_eq_true _ (Classical.propDecidable _) (by rw [← ag_nv_lt h8]; exact hfit)] at h115
        simp (disch := first | omega | assumption | exact ay_z1b _ | exact ay_z10 | exact ay_z11) only [ae_114, af_114_0, af_114_1, af_114_2, af_114_3, af_114_7, af_114_8, af_114_11, af_114_12, af_114_13, af_114_16, af_114_17, af_114_20, af_114_21, af_114_22, af_114_23, af_114_25, af_114_26, af_114_28, af_114_29, af_114_31, af_114_32, af_114_34, af_114_37, af_114_38, af_114_39, af_114_41, af_114_42, af_114_43, af_114_46, af_114_48, af_114_49, af_114_50, af_114_53, af_114_55, af_114_56, af_114_57, af_114_60, af_114_62, af_114_63, af_114_66, af_114_69, af_114_70, af_114_73, af_114_74, af_114_75, af_114_78, af_114_81, af_114_82, hmn, hlt, h8, m1, m2, m3, h115, ay_cl_v, ay_cl_s, ay_i_add, ay_i_mul, ay_i_eq, ay_i_lt, ay_b0, ay_b1, ay_ni, ay_in, ay_nn, ay_nl, ay_ln, if_true, if_false, ↓reduceIte, Nat.reduceAdd, Nat.reduceMul, Nat.reduceEqDiff, Nat.reduceLT, Nat.not_lt_zero, Bool.true_eq_false, Bool.false_eq_true, reduceCtorEq, Nat.add_zero, Nat.zero_add]
        exact ih (k + 1) _ (by omega) (fun j hj => if hjk : j = k then hjk ▸ ⟨h8, hfit⟩ else hall j (by omega))
      · rw [@decide_eq_false _ (Classical.propDecidable _) (by rw [← ag_nv_lt h8]; exact hfit)] at h115
        simp (disch := first | omega | assumption | exact ay_z1b _ | exact ay_z10 | exact ay_z11) only [ae_114, af_114_0, af_114_1, af_114_2, af_114_3, af_114_7, af_114_8, af_114_11, af_114_12, af_114_13, af_114_16, af_114_17, af_114_20, af_114_21, af_114_22, af_114_23, af_114_25, af_114_26, af_114_28, af_114_29, af_114_31, af_114_32, af_114_34, af_114_37, af_114_38, af_114_39, af_114_41, af_114_42, af_114_43, af_114_46, af_114_48, af_114_49, af_114_50, af_114_53, af_114_55, af_114_56, af_114_57, af_114_60, af_114_62, af_114_63, af_114_66, af_114_69, af_114_70, af_114_73, af_114_74, af_114_75, af_114_78, af_114_81, af_114_82, hmn, hlt, h8, m1, m2, m3, h115, ay_cl_v, ay_cl_s, ay_i_add, ay_i_mul, ay_i_eq, ay_i_lt, ay_b0, ay_b1, ay_ni, ay_in, ay_nn, ay_nl, ay_ln, if_true, if_false, ↓reduceIte, Nat.reduceAdd, Nat.reduceMul, Nat.reduceEqDiff, Nat.reduceLT, Nat.not_lt_zero, Bool.true_eq_false, Bool.false_eq_true, reduceCtorEq, Nat.add_zero, Nat.zero_add]
        rw [af_114_5]
        simp (disch := first | omega | assumption | exact ay_z1b _ | exact ay_z10 | exact ay_z11) only [ae_114, af_114_0, af_114_1, af_114_2, af_114_3, af_114_7, af_114_8, af_114_11, af_114_12, af_114_13, af_114_16, af_114_17, af_114_20, af_114_21, af_114_22, af_114_23, af_114_25, af_114_26, af_114_28, af_114_29, af_114_31, af_114_32, af_114_34, af_114_37, af_114_38, af_114_39, af_114_41, af_114_42, af_114_43, af_114_46, af_114_48, af_114_49, af_114_50, af_114_53, af_114_55, af_114_56, af_114_57, af_114_60, af_114_62, af_114_63, af_114_66, af_114_69, af_114_70, af_114_73, af_114_74, af_114_75, af_114_78, af_114_81, af_114_82, hmn, ite_self, ay_cl_v, ay_cl_s, ay_i_add, ay_i_mul, ay_i_eq, ay_i_lt, ay_b0, ay_b1, ay_ni, ay_in, ay_nn, ay_nl, ay_ln, if_true, if_false, ↓reduceIte, Nat.reduceAdd, Nat.reduceMul, Nat.reduceEqDiff, Nat.reduceLT, Nat.not_lt_zero, Bool.true_eq_false, Bool.false_eq_true, reduceCtorEq, Nat.add_zero, Nat.zero_add]
        rw [ay_bn (show ¬ ag_af P c z (ag_nv M).1 from fun hh => hfit (hh k hlt).2)]
    · simp (disch := first | omega | assumption | exact ay_z1b _ | exact ay_z10 | exact ay_z11) only [ae_114, af_114_0, af_114_1, af_114_2, af_114_3, af_114_7, af_114_8, af_114_11, af_114_12, af_114_13, af_114_16, af_114_17, af_114_20, af_114_21, af_114_22, af_114_23, af_114_25, af_114_26, af_114_28, af_114_29, af_114_31, af_114_32, af_114_34, af_114_37, af_114_38, af_114_39, af_114_41, af_114_42, af_114_43, af_114_46, af_114_48, af_114_49, af_114_50, af_114_53, af_114_55, af_114_56, af_114_57, af_114_60, af_114_62, af_114_63, af_114_66, af_114_69, af_114_70, af_114_73, af_114_74, af_114_75, af_114_78, af_114_81, af_114_82, hmn, hlt, h8, ay_cl_v, ay_cl_s, ay_i_add, ay_i_mul, ay_i_eq, ay_i_lt, ay_b0, ay_b1, ay_ni, ay_in, ay_nn, ay_nl, ay_ln, if_true, if_false, ↓reduceIte, Nat.reduceAdd, Nat.reduceMul, Nat.reduceEqDiff, Nat.reduceLT, Nat.not_lt_zero, Bool.true_eq_false, Bool.false_eq_true, reduceCtorEq, Nat.add_zero, Nat.zero_add]
      rw [af_114_5]
      simp (disch := first | omega | assumption | exact ay_z1b _ | exact ay_z10 | exact ay_z11) only [ae_114, af_114_0, af_114_1, af_114_2, af_114_3, af_114_7, af_114_8, af_114_11, af_114_12, af_114_13, af_114_16, af_114_17, af_114_20, af_114_21, af_114_22, af_114_23, af_114_25, af_114_26, af_114_28, af_114_29, af_114_31, af_114_32, af_114_34, af_114_37, af_114_38, af_114_39, af_114_41, af_114_42, af_114_43, af_114_46, af_114_48, af_114_49, af_114_50, af_114_53, af_114_55, af_114_56, af_114_57, af_114_60, af_114_62, af_114_63, af_114_66, af_114_69, af_114_70, af_114_73, af_114_74, af_114_75, af_114_78, af_114_81, af_114_82, hmn, ite_self, ay_cl_v, ay_cl_s, ay_i_add, ay_i_mul, ay_i_eq, ay_i_lt, ay_b0, ay_b1, ay_ni, ay_in, ay_nn, ay_nl, ay_ln, if_true, if_false, ↓reduceIte, Nat.reduceAdd, Nat.reduceMul, Nat.reduceEqDiff, Nat.reduceLT, Nat.not_lt_zero, Bool.true_eq_false, Bool.false_eq_true, reduceCtorEq, Nat.add_zero, Nat.zero_add]
      rw [ay_bn (show ¬ ag_af P c z (ag_nv M).1 from fun hh => h8 (hh k hlt).1)]
theorem am_114 {c z : Nat} (hW : ap_wf P) (hm : ac_m M P) (hc : c < 12) (hz : z < 8) {d0 : Decidable (ag_af P c z (ag_nv M).1)} : ax_fn 114 0 (ax_entry 114 [.ref (ax_a 24 0), .int (ay_i c), .int (ay_i z)]) [] (ax_hp X e gb M o) = some (.inl (some (.int (ay_b (decide (ag_af P c z (ag_nv M).1))))), ax_hp X e gb M o) := by
  simp (disch := first | omega | assumption | exact ay_z1b _ | exact ay_z10 | exact ay_z11) only [ae_114, af_114_0, af_114_1, af_114_2, af_114_3, af_114_7, af_114_8, af_114_11, af_114_12, af_114_13, af_114_16, af_114_17, af_114_20, af_114_21, af_114_22, af_114_23, af_114_25, af_114_26, af_114_28, af_114_29, af_114_31, af_114_32, af_114_34, af_114_37, af_114_38, af_114_39, af_114_41, af_114_42, af_114_43, af_114_46, af_114_48, af_114_49, af_114_50, af_114_53, af_114_55, af_114_56, af_114_57, af_114_60, af_114_62, af_114_63, af_114_66, af_114_69, af_114_70, af_114_73, af_114_74, af_114_75, af_114_78, af_114_81, af_114_82, ay_cl_v, ay_cl_s, ay_i_add, ay_i_mul, ay_i_eq, ay_i_lt, ay_b0, ay_b1, ay_ni, ay_in, ay_nn, ay_nl, ay_ln, if_true, if_false, ↓reduceIte, Nat.reduceAdd, Nat.reduceMul, Nat.reduceEqDiff, Nat.reduceLT, Nat.not_lt_zero, Bool.true_eq_false, Bool.false_eq_true, reduceCtorEq, Nat.add_zero, Nat.zero_add]
  exact al_114 hW hm hc hz (ap_mn P c) 0 _ (by omega) (fun j hj => absurd hj (by omega))
theorem al_116 {c z n : Nat} (hn : n ≤ 3) (hmn : M 33 0 c = ay_i n) (hc : c < 12) (hz : z < 8) (ho : ∀ k, k < n → z + k < 8 ∧ ¬ ((ag_nv M).1 (z + k)).1 = ay_n 2) : ∀ d k (dn fe : Bool), k + d = n → (dn = true ↔ ∀ j, j < k → ag_dn ((ag_nv M).1 (z + j))) → (fe = true ↔ ∃ j, j < k ∧ ag_fe ((ag_nv M).1 (z + j))) → ax_fn 116 8 [some (.ref (ax_a 24 0)), some (.int (ay_i c)), some (.int (ay_i z)), some (.int (ay_b dn)), some (.int (ay_b fe)), some (.int (ay_i k))] [] (ax_hp X e gb M o) = some (.inl (some (.int (ag_so (ag_nv M).1 z n))), ax_hp X e gb M o) := by
  intro d
  induction d with
  | zero =>
    intro k dn fe hk h1 h2
    obtain rfl : k = n := by omega
    have hso : ag_so (ag_nv M).1 z k = if dn = true then ay_i 0 else if fe = true then ay_i 1 else ay_i 2 := by
      unfold ag_so
      by_cases x1 : dn = true
      · rw [if_pos (h1.mp x1), if_pos x1]
      · rw [if_neg (fun h => x1 (h1.mpr h)), if_neg x1]
        by_cases x2 : fe = true
        · rw [if_pos (h2.mp x2), if_pos x2]
        · rw [if_neg (fun h => x2 (h2.mpr h)), if_neg x2]
    rw [hso, af_116_8]
    simp (disch := first | omega | assumption | exact ay_z1b _ | exact ay_z10 | exact ay_z11) only [ae_116, af_116_0, af_116_1, af_116_2, af_116_3, af_116_5, af_116_6, af_116_10, af_116_11, af_116_14, af_116_15, af_116_16, af_116_19, af_116_20, af_116_23, af_116_24, af_116_27, af_116_28, af_116_30, af_116_31, af_116_32, af_116_35, af_116_36, af_116_39, af_116_40, af_116_42, af_116_43, af_116_44, af_116_45, af_116_48, af_116_49, af_116_52, af_116_53, af_116_54, af_116_56, af_116_59, af_116_60, af_116_63, af_116_64, af_116_66, af_116_67, af_116_68, af_116_69, af_116_72, af_116_73, af_116_76, af_116_77, af_116_79, af_116_80, af_116_81, af_116_84, af_116_85, af_116_88, af_116_89, af_116_91, af_116_94, af_116_97, af_116_98, af_116_101, af_116_102, af_116_105, af_116_107, af_116_110, af_116_111, af_116_114, af_116_115, hmn, Nat.lt_irrefl, ay_cl_v, ay_cl_s, ay_i_add, ay_i_mul, ay_i_eq, ay_i_lt, ay_b0, ay_b1, ay_ni, ay_in, ay_nn, ay_nl, ay_ln, if_true, if_false, ↓reduceIte, Nat.reduceAdd, Nat.reduceMul, Nat.reduceEqDiff, Nat.reduceLT, Nat.not_lt_zero, Bool.true_eq_false, Bool.false_eq_true, reduceCtorEq, Nat.add_zero, Nat.zero_add]
    cases dn <;> cases fe <;> simp
  | succ d ih =>
    intro k dn fe hk h1 h2
    have hlt : k < n := by omega
    obtain ⟨h8, hcl⟩ := ho k hlt
    have hid : (ag_nv M).1 (z + k) = (M 52 0 (z + k), M 53 0 (z + k), M 54 0 (z + k)) := by
      rw [ag_nv_lt h8] at hcl ⊢; exact ag_nl_id hcl
    have hdn : ag_dn ((ag_nv M).1 (z + k)) ↔ (M 54 0 (z + k) = ay_i 0 ∨ M 53 0 (z + k) = ay_i 2) := by rw [hid]; exact Iff.rfl
    have hfe : ag_fe ((ag_nv M).1 (z + k)) ↔ (M 54 0 (z + k) = ay_i 1 ∧ M 53 0 (z + k) = ay_i 0) := by rw [hid]; exact Iff.rfl
    rw [af_116_8]
    simp (disch := first | omega | assumption | exact ay_z1b _ | exact ay_z10 | exact ay_z11) only [ae_116, af_116_0, af_116_1, af_116_2, af_116_3, af_116_5, af_116_6, af_116_10, af_116_11, af_116_14, af_116_15, af_116_16, af_116_19, af_116_20, af_116_23, af_116_24, af_116_27, af_116_28, af_116_30, af_116_31, af_116_32, af_116_35, af_116_36, af_116_39, af_116_40, af_116_42, af_116_43, af_116_44, af_116_45, af_116_48, af_116_49, af_116_52, af_116_54, af_116_56, af_116_59, af_116_60, af_116_63, af_116_64, af_116_66, af_116_67, af_116_68, af_116_69, af_116_72, af_116_73, af_116_76, af_116_77, af_116_79, af_116_80, af_116_81, af_116_84, af_116_85, af_116_88, af_116_91, af_116_94, af_116_97, af_116_98, af_116_101, af_116_102, af_116_105, af_116_107, af_116_110, af_116_111, af_116_114, af_116_115, hmn, hlt, h8, ay_cl_v, ay_cl_s, ay_i_add, ay_i_mul, ay_i_eq, ay_i_lt, ay_b0, ay_b1, ay_ni, ay_in, ay_nn, ay_nl, ay_ln, if_true, if_false, ↓reduceIte, Nat.reduceAdd, Nat.reduceMul, Nat.reduceEqDiff, Nat.reduceLT, Nat.not_lt_zero, Bool.true_eq_false, Bool.false_eq_true, reduceCtorEq, Nat.add_zero, Nat.zero_add, ay_ite_st, ay_ite_ls, ay_ba, ay_bb, ay_bc, ay_bg, ay_be, ay_bh, Bool.not_eq_true, Bool.not_eq_false, ite_self]
    rw [af_116_53]
    simp (disch := first | omega | assumption | exact ay_z1b _ | exact ay_z10 | exact ay_z11) only [ae_116, af_116_0, af_116_1, af_116_2, af_116_3, af_116_5, af_116_6, af_116_10, af_116_11, af_116_14, af_116_15, af_116_16, af_116_19, af_116_20, af_116_23, af_116_24, af_116_27, af_116_28, af_116_30, af_116_31, af_116_32, af_116_35, af_116_36, af_116_39, af_116_40, af_116_42, af_116_43, af_116_44, af_116_45, af_116_48, af_116_49, af_116_52, af_116_54, af_116_56, af_116_59, af_116_60, af_116_63, af_116_64, af_116_66, af_116_67, af_116_68, af_116_69, af_116_72, af_116_73, af_116_76, af_116_77, af_116_79, af_116_80, af_116_81, af_116_84, af_116_85, af_116_88, af_116_91, af_116_94, af_116_97, af_116_98, af_116_101, af_116_102, af_116_105, af_116_107, af_116_110, af_116_111, af_116_114, af_116_115, h8, ay_cl_v, ay_cl_s, ay_i_add, ay_i_mul, ay_i_eq, ay_i_lt, ay_b0, ay_b1, ay_ni, ay_in, ay_nn, ay_nl, ay_ln, if_true, if_false, ↓reduceIte, Nat.reduceAdd, Nat.reduceMul, Nat.reduceEqDiff, Nat.reduceLT, Nat.not_lt_zero, Bool.true_eq_false, Bool.false_eq_true, reduceCtorEq, Nat.add_zero, Nat.zero_add, ay_ite_st, ay_ite_ls, ay_ba, ay_bb, ay_bc, ay_bg, ay_be, ay_bh, Bool.not_eq_true, Bool.not_eq_false, ite_self]
    rw [af_116_89]
    simp (disch := first | omega | assumption | exact ay_z1b _ | exact ay_z10 | exact ay_z11) only [ae_116, af_116_0, af_116_1, af_116_2, af_116_3, af_116_5, af_116_6, af_116_10, af_116_11, af_116_14, af_116_15, af_116_16, af_116_19, af_116_20, af_116_23, af_116_24, af_116_27, af_116_28, af_116_30, af_116_31, af_116_32, af_116_35, af_116_36, af_116_39, af_116_40, af_116_42, af_116_43, af_116_44, af_116_45, af_116_48, af_116_49, af_116_52, af_116_54, af_116_56, af_116_59, af_116_60, af_116_63, af_116_64, af_116_66, af_116_67, af_116_68, af_116_69, af_116_72, af_116_73, af_116_76, af_116_77, af_116_79, af_116_80, af_116_81, af_116_84, af_116_85, af_116_88, af_116_91, af_116_94, af_116_97, af_116_98, af_116_101, af_116_102, af_116_105, af_116_107, af_116_110, af_116_111, af_116_114, af_116_115, ay_bi, ay_cl_v, ay_cl_s, ay_i_add, ay_i_mul, ay_i_eq, ay_i_lt, ay_b0, ay_b1, ay_ni, ay_in, ay_nn, ay_nl, ay_ln, if_true, if_false, ↓reduceIte, Nat.reduceAdd, Nat.reduceMul, Nat.reduceEqDiff, Nat.reduceLT, Nat.not_lt_zero, Bool.true_eq_false, Bool.false_eq_true, reduceCtorEq, Nat.add_zero, Nat.zero_add, ay_ite_st, ay_ite_ls, ay_ba, ay_bb, ay_bc, ay_bg, ay_be, ay_bh, Bool.not_eq_true, Bool.not_eq_false, ite_self]
    refine ih (k + 1) _ _ (by omega) ?_ ?_
    · constructor
      · intro hh j hj
        by_cases hjk : j = k
        · subst hjk; rw [hdn]; grind
        · have : dn = true := by grind
          exact h1.mp this j (by omega)
      · intro hh
        have x1 : dn = true := h1.mpr (fun j hj => hh j (by omega))
        have x2 := hdn.mp (hh k (by omega))
        grind
    · constructor
      · intro hh
        by_cases x1 : fe = true
        · obtain ⟨j, hj, hf⟩ := h2.mp x1
          exact ⟨j, by omega, hf⟩
        · exact ⟨k, by omega, hfe.mpr (by grind)⟩
      · rintro ⟨j, hj, hf⟩
        by_cases hjk : j = k
        · subst hjk
          have := hfe.mp hf
          grind
        · have x1 : fe = true := h2.mpr ⟨j, by omega, hf⟩
          grind
theorem am_116 {c z n : Nat} (hn : n ≤ 3) (hmn : M 33 0 c = ay_i n) (hc : c < 12) (hz : z < 8) (ho : ∀ k, k < n → z + k < 8 ∧ ¬ ((ag_nv M).1 (z + k)).1 = ay_n 2) : ax_fn 116 0 (ax_entry 116 [.ref (ax_a 24 0), .int (ay_i c), .int (ay_i z)]) [] (ax_hp X e gb M o) = some (.inl (some (.int (ag_so (ag_nv M).1 z n))), ax_hp X e gb M o) := by
  simp (disch := first | omega | assumption | exact ay_z1b _ | exact ay_z10 | exact ay_z11) only [ae_116, af_116_0, af_116_1, af_116_2, af_116_3, af_116_5, af_116_6, af_116_10, af_116_11, af_116_14, af_116_15, af_116_16, af_116_19, af_116_20, af_116_23, af_116_24, af_116_27, af_116_28, af_116_30, af_116_31, af_116_32, af_116_35, af_116_36, af_116_39, af_116_40, af_116_42, af_116_43, af_116_44, af_116_45, af_116_48, af_116_49, af_116_52, af_116_53, af_116_54, af_116_56, af_116_59, af_116_60, af_116_63, af_116_64, af_116_66, af_116_67, af_116_68, af_116_69, af_116_72, af_116_73, af_116_76, af_116_77, af_116_79, af_116_80, af_116_81, af_116_84, af_116_85, af_116_88, af_116_89, af_116_91, af_116_94, af_116_97, af_116_98, af_116_101, af_116_102, af_116_105, af_116_107, af_116_110, af_116_111, af_116_114, af_116_115, ay_cl_v, ay_cl_s, ay_i_add, ay_i_mul, ay_i_eq, ay_i_lt, ay_b0, ay_b1, ay_ni, ay_in, ay_nn, ay_nl, ay_ln, if_true, if_false, ↓reduceIte, Nat.reduceAdd, Nat.reduceMul, Nat.reduceEqDiff, Nat.reduceLT, Nat.not_lt_zero, Bool.true_eq_false, Bool.false_eq_true, reduceCtorEq, Nat.add_zero, Nat.zero_add]
  have := al_116 (X := X) (e := e) (gb := gb) (M := M) (o := o) hn hmn hc hz ho n 0 true false (by omega) (by simp) (by simp)
  rw [ay_bt, ay_bf] at this
  exact this
theorem am_113 {x : Nat} {c n t : Int32} {fl : Bool} (hb : b < 12) (hx : x < 8) (hf : M 24 0 20 = ay_b fl) : ax_fn 113 0 (ax_entry 113 [.ref (ax_a 24 0), .int (ay_i b), .int (ay_i x), .int c, .int n, .int t]) [] (ax_hp X e gb M o) = some (.inl none, ax_hp X e gb (ax_u3 (ax_u3 (ax_u3 (ax_u3 M 24 0 20 (ay_b (fl || decide (b < 6 ∧ x = 7)))) 52 0 x c) 53 0 x n) 54 0 x t) o) := by
  simp (disch := first | omega | assumption | exact ay_z1b _ | exact ay_z10 | exact ay_z11) only [ae_113, af_113_0, af_113_1, af_113_2, af_113_5, af_113_8, af_113_9, af_113_11, af_113_14, af_113_15, af_113_17, af_113_20, af_113_21, af_113_24, af_113_28, af_113_29, af_113_32, af_113_33, af_113_34, af_113_35, af_113_36, af_113_39, af_113_40, af_113_42, af_113_43, af_113_44, af_113_47, af_113_48, af_113_50, af_113_51, hf, ay_cl_v, ay_cl_s, ay_i_add, ay_i_mul, ay_i_eq, ay_i_lt, ay_b0, ay_b1, ay_ni, ay_in, ay_nn, ay_nl, ay_ln, if_true, if_false, ↓reduceIte, Nat.reduceAdd, Nat.reduceMul, Nat.reduceEqDiff, Nat.reduceLT, Nat.not_lt_zero, Bool.true_eq_false, Bool.false_eq_true, reduceCtorEq, Nat.add_zero, Nat.zero_add, ay_ite_st, ay_ite_ls, ay_ba, ay_bb, ay_bc, ay_bg, ay_be, ay_bh, Bool.not_eq_true, Bool.not_eq_false, ite_self]
  rw [af_113_25 (ay_z1b _)]
  simp (disch := first | omega | assumption | exact ay_z1b _ | exact ay_z10 | exact ay_z11) only [ae_113, af_113_0, af_113_1, af_113_2, af_113_5, af_113_8, af_113_9, af_113_11, af_113_14, af_113_15, af_113_17, af_113_20, af_113_21, af_113_24, af_113_25, af_113_28, af_113_29, af_113_32, af_113_33, af_113_34, af_113_35, af_113_36, af_113_39, af_113_40, af_113_42, af_113_43, af_113_44, af_113_47, af_113_48, af_113_50, af_113_51, ay_cl_v, ay_cl_s, ay_i_add, ay_i_mul, ay_i_eq, ay_i_lt, ay_b0, ay_b1, ay_ni, ay_in, ay_nn, ay_nl, ay_ln, if_true, if_false, ↓reduceIte, Nat.reduceAdd, Nat.reduceMul, Nat.reduceEqDiff, Nat.reduceLT, Nat.not_lt_zero, Bool.true_eq_false, Bool.false_eq_true, reduceCtorEq, Nat.add_zero, Nat.zero_add]
  congr 3
  congr 4
  by_cases h1 : b < 6 <;> by_cases h2 : x = 7 <;> cases fl <;> simp [h1, h2]
end AmO
