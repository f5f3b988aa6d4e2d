/-! count -/
def ai_s (f : Nat → Nat) : Nat → Nat → Nat
  | 0, _ => 0
  | d + 1, k => f k + ai_s f d (k + 1)
noncomputable def ai_g1 (P : ax_M) (b : Nat) : Nat := if ai_g P b = true then 1 else 0
section AmC
variable {X : Nat × (Nat → Int32)} {e : Nat} {P : ax_M} {o : Int64}
theorem al_90a {gb : Nat} {M : ax_M} (hW : ap_wf P) (hp : ac_p M P) : ∀ d k s, k + d = 12 → ax_fn 90 12 [some (.ref (ax_a 0 0)), some (.int (ay_i 0)), some (.int (ay_i s)), some (.int (ay_i k))] [] (ax_hp X e gb M o) = some (.inl (some (.int (ay_i (s + ai_s (ap_sz P) d k)))), ax_hp X e gb M o) := by
  intro d
  induction d with
  | zero =>
    intro k s hk
    have : k = 12 := by omega
    subst this
    rw [af_90_12]
    simp (disch := first | omega | assumption | exact ay_z1b _ | exact ay_z10 | exact ay_z11) only [ae_90, af_90_0, af_90_1, af_90_2, af_90_5, af_90_8, af_90_9, af_90_10, af_90_11, af_90_13, af_90_15, af_90_18, af_90_19, af_90_22, af_90_23, af_90_24, af_90_27, af_90_30, af_90_31, af_90_32, af_90_35, af_90_36, af_90_37, af_90_40, af_90_41, af_90_44, af_90_45, af_90_48, af_90_51, af_90_54, af_90_57, af_90_60, af_90_61, ai_s, ay_cl_v, ay_cl_s, ay_i_add, ay_i_mul, ay_i_eq, ay_i_lt, ay_b0, ay_b1, ay_ni, ay_in, ay_nn, ay_nl, ay_ln, if_true, if_false, ↓reduceIte, Nat.reduceAdd, Nat.reduceMul, Nat.reduceEqDiff, Nat.reduceLT, Nat.not_lt_zero, Bool.true_eq_false, Bool.false_eq_true, reduceCtorEq, Nat.add_zero, Nat.zero_add]
  | succ d ih =>
    intro k s hk
    have hs : M 3 k 6 = ay_i (ap_sz P k) := by rw [(hp.1 k (by omega)).1]; exact (hW.1 k (by omega)).1
    have h12 : k < 12 := by omega
    rw [af_90_12]
    simp (disch := first | omega | assumption | exact ay_z1b _ | exact ay_z10 | exact ay_z11) only [ae_90, af_90_0, af_90_1, af_90_2, af_90_5, af_90_8, af_90_9, af_90_10, af_90_11, af_90_13, af_90_15, af_90_18, af_90_19, af_90_22, af_90_23, af_90_24, af_90_27, af_90_30, af_90_31, af_90_32, af_90_35, af_90_36, af_90_37, af_90_40, af_90_41, af_90_44, af_90_45, af_90_48, af_90_51, af_90_54, af_90_57, af_90_60, af_90_61, hs, h12, not_true, ay_cl_v, ay_cl_s, ay_i_add, ay_i_mul, ay_i_eq, ay_i_lt, ay_b0, ay_b1, ay_ni, ay_in, ay_nn, ay_nl, ay_ln, if_true, if_false, ↓reduceIte, Nat.reduceAdd, Nat.reduceMul, Nat.reduceEqDiff, Nat.reduceLT, Nat.not_lt_zero, Bool.true_eq_false, Bool.false_eq_true, reduceCtorEq, Nat.add_zero, Nat.zero_add]
    rw [ih _ _ (by omega)]
    simp only [ai_s, Nat.add_assoc]
theorem al_90b (hW : ap_wf P) : ∀ d k s gb (M : ax_M), k + d = 12 → ac_p M P → ai_c M P → ∃ (M' : ax_M) (gb' : Nat), ax_fn 90 12 [some (.ref (ax_a 0 0)), some (.int (ay_i 1)), some (.int (ay_i s)), some (.int (ay_i k))] [] (ax_hp X e gb M o) = some (.inl (some (.int (ay_i (s + ai_s (ai_g1 P) d k)))), ax_hp X e gb' M' o) ∧ ag_fg M M' ∧ ai_c M' P := by
  intro d
  induction d with
  | zero =>
    intro k s gb M hk hp hc
    have : k = 12 := by omega
    subst this
    refine ⟨M, gb, ?_, fun _ _ _ _ _ => rfl, hc⟩
    rw [af_90_12]
    simp (disch := first | omega | assumption | exact ay_z1b _ | exact ay_z10 | exact ay_z11) only [ae_90, af_90_0, af_90_1, af_90_2, af_90_5, af_90_8, af_90_9, af_90_10, af_90_11, af_90_13, af_90_15, af_90_18, af_90_19, af_90_22, af_90_23, af_90_24, af_90_27, af_90_30, af_90_31, af_90_32, af_90_35, af_90_36, af_90_37, af_90_40, af_90_41, af_90_44, af_90_45, af_90_48, af_90_51, af_90_54, af_90_57, af_90_60, af_90_61, ai_s, ay_cl_v, ay_cl_s, ay_i_add, ay_i_mul, ay_i_eq, ay_i_lt, ay_b0, ay_b1, ay_ni, ay_in, ay_nn, ay_nl, ay_ln, if_true, if_false, ↓reduceIte, Nat.reduceAdd, Nat.reduceMul, Nat.reduceEqDiff, Nat.reduceLT, Nat.not_lt_zero, Bool.true_eq_false, Bool.false_eq_true, reduceCtorEq, Nat.add_zero, Nat.zero_add]
  | succ d ih =>
    intro k s gb M hk hp hc
    have h12 : k < 12 := by omega
    obtain ⟨M1, gb1, a1, a2, a3⟩ := am_26 (X := X) (e := e) (o := o) (gb := gb) hW hp hc h12
    obtain ⟨M2, gb2, b1, b2, b3⟩ := ih (k + 1) (s + ai_g1 P k) gb1 M1 (by omega) (ac_p_fg hp a2) a3
    refine ⟨M2, gb2, ?_, ag_fg_t a2 b2, b3⟩
    rw [af_90_12]
    have hq : s + ai_s (ai_g1 P) (d + 1) k = s + ai_g1 P k + ai_s (ai_g1 P) d (k + 1) := by simp only [ai_s, Nat.add_assoc]
    rw [hq, ← b1]
    cases hg : ai_g P k <;> rw [hg] at a1 <;> simp (disch := first | omega | assumption | exact ay_z1b _ | exact ay_z10 | exact ay_z11) only [ae_90, af_90_0, af_90_1, af_90_2, af_90_5, af_90_8, af_90_9, af_90_10, af_90_11, af_90_13, af_90_15, af_90_18, af_90_19, af_90_22, af_90_23, af_90_24, af_90_27, af_90_30, af_90_31, af_90_32, af_90_35, af_90_36, af_90_37, af_90_40, af_90_41, af_90_44, af_90_45, af_90_48, af_90_51, af_90_54, af_90_57, af_90_60, af_90_61, h12, not_true, a1, ay_bt, ay_bf, ai_g1, hg, ay_cl_v, ay_cl_s, ay_i_add, ay_i_mul, ay_i_eq, ay_i_lt, ay_b0, ay_b1, ay_ni, ay_in, ay_nn, ay_nl, ay_ln, if_true, if_false, ↓reduceIte, Nat.reduceAdd, Nat.reduceMul, Nat.reduceEqDiff, Nat.reduceLT, Nat.not_lt_zero, Bool.true_eq_false, Bool.false_eq_true, reduceCtorEq, Nat.add_zero, Nat.zero_add]
theorem al_135a {gb : Nat} {M : ax_M} (hW : ap_wf P) (hm : ac_m M P) : ∀ d k s l4, k + d = 12 → ax_fn 135 21 [some (.ref (ax_a 24 0)), some (.int (ay_i 0)), some (.int (ay_i s)), some (.int (ay_i k)), l4] [] (ax_hp X e gb M o) = some (.inl (some (.int (ay_i (s + ai_s (ap_sz P) d k)))), ax_hp X e gb M o) := by
  intro d
  induction d with
  | zero =>
    intro k s l4 hk
    have : k = 12 := by omega
    subst this
    rw [af_135_21]
    simp (disch := first | omega | assumption | exact ay_z1b _ | exact ay_z10 | exact ay_z11) only [ae_135, af_135_0, af_135_1, af_135_2, af_135_3, af_135_4, af_135_7, af_135_8, af_135_9, af_135_12, af_135_15, af_135_16, af_135_17, af_135_18, af_135_19, af_135_20, af_135_22, af_135_24, af_135_27, af_135_28, af_135_29, af_135_32, af_135_33, af_135_34, af_135_37, af_135_40, af_135_41, af_135_44, af_135_45, af_135_47, af_135_48, af_135_51, af_135_52, af_135_53, af_135_56, af_135_57, af_135_58, af_135_59, af_135_62, af_135_63, af_135_65, af_135_66, af_135_67, af_135_70, af_135_73, af_135_74, ai_s, ay_cl_v, ay_cl_s, ay_i_add, ay_i_mul, ay_i_eq, ay_i_lt, ay_b0, ay_b1, ay_ni, ay_in, ay_nn, ay_nl, ay_ln, if_true, if_false, ↓reduceIte, Nat.reduceAdd, Nat.reduceMul, Nat.reduceEqDiff, Nat.reduceLT, Nat.not_lt_zero, Bool.true_eq_false, Bool.false_eq_true, reduceCtorEq, Nat.add_zero, Nat.zero_add]
  | succ d ih =>
    intro k s l4 hk
    have hs : M 40 0 k = ay_i (ap_sz P k) := by rw [hm 40 k (by omega) (by omega)]; exact (hW.1 k (by omega)).1
    have h12 : k < 12 := by omega
    rw [af_135_21]
    simp (disch := first | omega | assumption | exact ay_z1b _ | exact ay_z10 | exact ay_z11) only [ae_135, af_135_0, af_135_1, af_135_2, af_135_3, af_135_4, af_135_7, af_135_8, af_135_9, af_135_12, af_135_15, af_135_16, af_135_17, af_135_18, af_135_19, af_135_20, af_135_22, af_135_24, af_135_27, af_135_28, af_135_29, af_135_32, af_135_33, af_135_34, af_135_37, af_135_40, af_135_41, af_135_44, af_135_45, af_135_47, af_135_48, af_135_51, af_135_52, af_135_53, af_135_56, af_135_57, af_135_58, af_135_59, af_135_62, af_135_63, af_135_65, af_135_66, af_135_67, af_135_70, af_135_73, af_135_74, hs, h12, not_true, ay_cl_v, ay_cl_s, ay_i_add, ay_i_mul, ay_i_eq, ay_i_lt, ay_b0, ay_b1, ay_ni, ay_in, ay_nn, ay_nl, ay_ln, if_true, if_false, ↓reduceIte, Nat.reduceAdd, Nat.reduceMul, Nat.reduceEqDiff, Nat.reduceLT, Nat.not_lt_zero, Bool.true_eq_false, Bool.false_eq_true, reduceCtorEq, Nat.add_zero, Nat.zero_add]
    rw [ih _ _ _ (by omega)]
    simp only [ai_s, Nat.add_assoc]
theorem al_135b {gb : Nat} (hW : ap_wf P) : ∀ d k s l4 (M : ax_M), k + d = 12 → ac_m M P → ∃ (M' : ax_M), ax_fn 135 21 [some (.ref (ax_a 24 0)), some (.int (ay_i 1)), some (.int (ay_i s)), some (.int (ay_i k)), l4] [] (ax_hp X e gb M o) = some (.inl (some (.int (ay_i (s + ai_s (ai_g1 P) d k)))), ax_hp X e gb M' o) ∧ ag_fm M M' := by
  intro d
  induction d with
  | zero =>
    intro k s l4 M hk hm
    have : k = 12 := by omega
    subst this
    refine ⟨M, ?_, fun _ _ _ _ _ => rfl⟩
    rw [af_135_21]
    simp (disch := first | omega | assumption | exact ay_z1b _ | exact ay_z10 | exact ay_z11) only [ae_135, af_135_0, af_135_1, af_135_2, af_135_3, af_135_4, af_135_7, af_135_8, af_135_9, af_135_12, af_135_15, af_135_16, af_135_17, af_135_18, af_135_19, af_135_20, af_135_22, af_135_24, af_135_27, af_135_28, af_135_29, af_135_32, af_135_33, af_135_34, af_135_37, af_135_40, af_135_41, af_135_44, af_135_45, af_135_47, af_135_48, af_135_51, af_135_52, af_135_53, af_135_56, af_135_57, af_135_58, af_135_59, af_135_62, af_135_63, af_135_65, af_135_66, af_135_67, af_135_70, af_135_73, af_135_74, ai_s, ay_cl_v, ay_cl_s, ay_i_add, ay_i_mul, ay_i_eq, ay_i_lt, ay_b0, ay_b1, ay_ni, ay_in, ay_nn, ay_nl, ay_ln, if_true, if_false, ↓reduceIte, Nat.reduceAdd, Nat.reduceMul, Nat.reduceEqDiff, Nat.reduceLT, Nat.not_lt_zero, Bool.true_eq_false, Bool.false_eq_true, reduceCtorEq, Nat.add_zero, Nat.zero_add]
  | succ d ih =>
    intro k s l4 M hk hm
    have h12 : k < 12 := by omega
    obtain ⟨M1, a1, a2, -⟩ := am_106c (X := X) (e := e) (o := o) (gb := gb) hW hm h12
    obtain ⟨M2, b1, b2⟩ := ih (k + 1) (s + ai_g1 P k) (some (.int (ay_b (ai_g P k)))) M1 (by omega) (ac_m_fm hm a2)
    refine ⟨M2, ?_, ag_fm_t a2 b2⟩
    rw [af_135_21]
    have hq : s + ai_s (ai_g1 P) (d + 1) k = s + ai_g1 P k + ai_s (ai_g1 P) d (k + 1) := by simp only [ai_s, Nat.add_assoc]
    rw [hq, ← b1]
    cases hg : ai_g P k <;> rw [hg] at a1 <;> simp (disch := first | omega | assumption | exact ay_z1b _ | exact ay_z10 | exact ay_z11) only [ae_135, af_135_0, af_135_1, af_135_2, af_135_3, af_135_4, af_135_7, af_135_8, af_135_9, af_135_12, af_135_15, af_135_16, af_135_17, af_135_18, af_135_19, af_135_20, af_135_22, af_135_24, af_135_27, af_135_28, af_135_29, af_135_32, af_135_33, af_135_34, af_135_37, af_135_40, af_135_41, af_135_44, af_135_45, af_135_47, af_135_48, af_135_51, af_135_52, af_135_53, af_135_56, af_135_57, af_135_58, af_135_59, af_135_62, af_135_63, af_135_65, af_135_66, af_135_67, af_135_70, af_135_73, af_135_74, h12, not_true, a1, ay_bt, ay_bf, ai_g1, hg, ay_cl_v, ay_cl_s, ay_i_add, ay_i_mul, ay_i_eq, ay_i_lt, ay_b0, ay_b1, ay_ni, ay_in, ay_nn, ay_nl, ay_ln, if_true, if_false, ↓reduceIte, Nat.reduceAdd, Nat.reduceMul, Nat.reduceEqDiff, Nat.reduceLT, Nat.not_lt_zero, Bool.true_eq_false, Bool.false_eq_true, reduceCtorEq, Nat.add_zero, Nat.zero_add]
theorem aj_count {gb : Nat} {M : ax_M} (hR : ai_R M) (he : e < 700000) {w : Int32} : ai_J (ax_fn 14 0 (ax_entry 14 [.ref (ax_a 0 0), .int w, .ref (ax_a 68 0)]) [] (ax_hp X e gb M o)) (fun e' gb' M1 o1 => ax_fn 135 0 (ax_entry 135 [.ref (ax_a 24 0), .int w]) [] (ax_hp X e' gb' M1 o1)) X e (fun v => some (.int v)) true o := by
  cases hv : ay_w w (ay_i 2) with
  | false =>
    refine ⟨1, e + 1, gb, M, ax_u3 M 24 0 0 (ay_i 1), o, ay_i 0, ?_, ?_, by simp [ax_u3], by omega, (fun h => by omega), by omega, ai_R_t hR⟩
    · simp (disch := first | omega | assumption | exact ay_z1b _ | exact ay_z10 | exact ay_z11) only [ae_14, af_14_0, af_14_1, af_14_2, af_14_3, af_14_4, af_14_7, af_14_8, af_14_9, af_14_12, af_14_13, af_14_14, af_14_15, af_14_16, ae_90, af_90_0, af_90_1, af_90_2, af_90_5, af_90_8, af_90_9, af_90_10, af_90_11, af_90_12, af_90_13, af_90_15, af_90_18, af_90_19, af_90_22, af_90_23, af_90_24, af_90_27, af_90_30, af_90_31, af_90_32, af_90_35, af_90_36, af_90_37, af_90_40, af_90_41, af_90_44, af_90_45, af_90_48, af_90_51, af_90_54, af_90_57, af_90_60, af_90_61, am_71, hv, ay_bf, am_78f, ah_90, ah_14_1, ay_cl_v, ay_cl_s, ay_i_add, ay_i_mul, ay_i_eq, ay_i_lt, ay_b0, ay_b1, ay_ni, ay_in, ay_nn, ay_nl, ay_ln, if_true, if_false, ↓reduceIte, Nat.reduceAdd, Nat.reduceMul, Nat.reduceEqDiff, Nat.reduceLT, Nat.not_lt_zero, Bool.true_eq_false, Bool.false_eq_true, reduceCtorEq, Nat.add_zero, Nat.zero_add]
    · simp (disch := first | omega | assumption | exact ay_z1b _ | exact ay_z10 | exact ay_z11) only [ae_135, af_135_0, af_135_1, af_135_2, af_135_3, af_135_4, af_135_7, af_135_8, af_135_9, af_135_12, af_135_15, af_135_16, af_135_17, af_135_18, af_135_19, af_135_20, af_135_22, af_135_24, af_135_27, af_135_28, af_135_29, af_135_32, af_135_33, af_135_34, af_135_37, af_135_40, af_135_41, af_135_44, af_135_45, af_135_47, af_135_48, af_135_51, af_135_52, af_135_53, af_135_56, af_135_57, af_135_58, af_135_59, af_135_62, af_135_63, af_135_65, af_135_66, af_135_67, af_135_70, af_135_73, af_135_74, hv, ay_bf, am_95 (show 1 < 100000 by omega), am_96a, ay_cl_v, ay_cl_s, ay_i_add, ay_i_mul, ay_i_eq, ay_i_lt, ay_b0, ay_b1, ay_ni, ay_in, ay_nn, ay_nl, ay_ln, if_true, if_false, ↓reduceIte, Nat.reduceAdd, Nat.reduceMul, Nat.reduceEqDiff, Nat.reduceLT, Nat.not_lt_zero, Bool.true_eq_false, Bool.false_eq_true, reduceCtorEq, Nat.add_zero, Nat.zero_add]
  | true =>
    obtain ⟨w, hw, rfl, -⟩ := ay_w_inv (by omega) hv
    obtain ⟨r1, r2, r3, r4⟩ := id hR
    have : w = 0 ∨ w = 1 := by omega
    rcases this with rfl | rfl
    · have hm : ac_m (ax_u3 M 24 0 0 (ay_i 0)) (ag_pr M) := by
        intro f j h1 h2
        have : ax_u3 M 24 0 0 (ay_i 0) f 0 j = M f 0 j := by simp only [ax_u3]; grind
        rw [this]; exact ag_pr_m M f j h1 h2
      refine ⟨0, e, gb, M, ax_u3 M 24 0 0 (ay_i 0), (ay_i (0 + ai_s (ap_sz (ag_pr M)) 12 0)).toInt64, ay_i (0 + ai_s (ap_sz (ag_pr M)) 12 0), ?_, ?_, by simp [ax_u3], by omega, (fun _ _ => rfl), by omega, ai_R_t hR⟩
      · have h1 := al_90a (X := X) (e := e) (gb := gb) (o := o) r1 r2 12 0 0 rfl
        simp (disch := first | omega | assumption | exact ay_z1b _ | exact ay_z10 | exact ay_z11) only [ae_14, af_14_0, af_14_1, af_14_2, af_14_3, af_14_4, af_14_7, af_14_8, af_14_9, af_14_12, af_14_13, af_14_14, af_14_15, af_14_16, ae_90, af_90_0, af_90_1, af_90_2, af_90_5, af_90_8, af_90_9, af_90_10, af_90_11, af_90_13, af_90_15, af_90_18, af_90_19, af_90_22, af_90_23, af_90_24, af_90_27, af_90_30, af_90_31, af_90_32, af_90_35, af_90_36, af_90_37, af_90_40, af_90_41, af_90_44, af_90_45, af_90_48, af_90_51, af_90_54, af_90_57, af_90_60, af_90_61, am_71, hv, ay_bt, am_78t, h1, ay_cl_v, ay_cl_s, ay_i_add, ay_i_mul, ay_i_eq, ay_i_lt, ay_b0, ay_b1, ay_ni, ay_in, ay_nn, ay_nl, ay_ln, if_true, if_false, ↓reduceIte, Nat.reduceAdd, Nat.reduceMul, Nat.reduceEqDiff, Nat.reduceLT, Nat.not_lt_zero, Bool.true_eq_false, Bool.false_eq_true, reduceCtorEq, Nat.add_zero, Nat.zero_add]
      · have h1 := fun o1 => al_135a (X := X) (e := e) (gb := gb) (o := o1) r1 hm 12 0 0 none rfl
        simp (disch := first | omega | assumption | exact ay_z1b _ | exact ay_z10 | exact ay_z11) only [ae_135, af_135_0, af_135_1, af_135_2, af_135_3, af_135_4, af_135_7, af_135_8, af_135_9, af_135_12, af_135_15, af_135_16, af_135_17, af_135_18, af_135_19, af_135_20, af_135_22, af_135_24, af_135_27, af_135_28, af_135_29, af_135_32, af_135_33, af_135_34, af_135_37, af_135_40, af_135_41, af_135_44, af_135_45, af_135_47, af_135_48, af_135_51, af_135_52, af_135_53, af_135_56, af_135_57, af_135_58, af_135_59, af_135_62, af_135_63, af_135_65, af_135_66, af_135_67, af_135_70, af_135_73, af_135_74, hv, ay_bt, am_95 (show 1 < 100000 by omega), am_96d, h1, ay_cl_v, ay_cl_s, ay_i_add, ay_i_mul, ay_i_eq, ay_i_lt, ay_b0, ay_b1, ay_ni, ay_in, ay_nn, ay_nl, ay_ln, if_true, if_false, ↓reduceIte, Nat.reduceAdd, Nat.reduceMul, Nat.reduceEqDiff, Nat.reduceLT, Nat.not_lt_zero, Bool.true_eq_false, Bool.false_eq_true, reduceCtorEq, Nat.add_zero, Nat.zero_add]
    · obtain ⟨M1, gb', a1, a2, a3⟩ := al_90b (X := X) (e := e) (o := o) r1 12 0 0 gb M rfl r2 r3
      have hm : ac_m (ax_u3 M1 24 0 0 (ay_i 0)) (ag_pr M) := by
        intro f j h1 h2
        have : ax_u3 M1 24 0 0 (ay_i 0) f 0 j = M1 f 0 j := by simp only [ax_u3]; grind
        rw [this]; exact ac_m_fg a2 f j h1 h2
      obtain ⟨M2, b1, b2⟩ := al_135b (X := X) (e := e) (o := (ay_i (0 + ai_s (ai_g1 (ag_pr M)) 12 0)).toInt64) (gb := gb') r1 12 0 0 none (ax_u3 M1 24 0 0 (ay_i 0)) rfl hm
      refine ⟨0, e, gb', M1, M2, (ay_i (0 + ai_s (ai_g1 (ag_pr M)) 12 0)).toInt64, ay_i (0 + ai_s (ai_g1 (ag_pr M)) 12 0), ?_, ?_, ?_, by omega, (fun _ _ => rfl), by omega, ?_⟩
      · simp (disch := first | omega | assumption | exact ay_z1b _ | exact ay_z10 | exact ay_z11) only [ae_14, af_14_0, af_14_1, af_14_2, af_14_3, af_14_4, af_14_7, af_14_8, af_14_9, af_14_12, af_14_13, af_14_14, af_14_15, af_14_16, ae_90, af_90_0, af_90_1, af_90_2, af_90_5, af_90_8, af_90_9, af_90_10, af_90_11, af_90_13, af_90_15, af_90_18, af_90_19, af_90_22, af_90_23, af_90_24, af_90_27, af_90_30, af_90_31, af_90_32, af_90_35, af_90_36, af_90_37, af_90_40, af_90_41, af_90_44, af_90_45, af_90_48, af_90_51, af_90_54, af_90_57, af_90_60, af_90_61, am_71, hv, ay_bt, am_78t, a1, ay_cl_v, ay_cl_s, ay_i_add, ay_i_mul, ay_i_eq, ay_i_lt, ay_b0, ay_b1, ay_ni, ay_in, ay_nn, ay_nl, ay_ln, if_true, if_false, ↓reduceIte, Nat.reduceAdd, Nat.reduceMul, Nat.reduceEqDiff, Nat.reduceLT, Nat.not_lt_zero, Bool.true_eq_false, Bool.false_eq_true, reduceCtorEq, Nat.add_zero, Nat.zero_add]
      · simp only [Nat.zero_add] at b1
        simp (disch := first | omega | assumption | exact ay_z1b _ | exact ay_z10 | exact ay_z11) only [ae_135, af_135_0, af_135_1, af_135_2, af_135_3, af_135_4, af_135_7, af_135_8, af_135_9, af_135_12, af_135_15, af_135_16, af_135_17, af_135_18, af_135_19, af_135_20, af_135_22, af_135_24, af_135_27, af_135_28, af_135_29, af_135_32, af_135_33, af_135_34, af_135_37, af_135_40, af_135_41, af_135_44, af_135_45, af_135_47, af_135_48, af_135_51, af_135_52, af_135_53, af_135_56, af_135_57, af_135_58, af_135_59, af_135_62, af_135_63, af_135_65, af_135_66, af_135_67, af_135_70, af_135_73, af_135_74, hv, ay_bt, am_95 (show 1 < 100000 by omega), am_96d, b1, ay_cl_v, ay_cl_s, ay_i_add, ay_i_mul, ay_i_eq, ay_i_lt, ay_b0, ay_b1, ay_ni, ay_in, ay_nn, ay_nl, ay_ln, if_true, if_false, ↓reduceIte, Nat.reduceAdd, Nat.reduceMul, Nat.reduceEqDiff, Nat.reduceLT, Nat.not_lt_zero, Bool.true_eq_false, Bool.false_eq_true, reduceCtorEq, Nat.add_zero, Nat.zero_add]
      · rw [b2 _ _ _ (by omega) (by omega)]; simp [ax_u3]
      · refine ai_R_g hR (fun f i j h1 h2 h3 h4 => ?_) (ai_c_cg a3 (fun f i j h => ?_))
        · rw [b2 f i j h3 (by omega), ← a2 f i j h1 h2]; simp only [ax_u3]; grind
        · rw [b2 f i j (by omega) (by omega)]; simp only [ax_u3]; grind
end AmC
