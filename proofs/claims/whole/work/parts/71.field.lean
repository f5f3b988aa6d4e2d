/-! calls that change the program: field, returns -/
section AmF
variable {X : Nat × (Nat → Int32)} {e gb : Nat} {M : ax_M} {o : Int64} {h : ax_H}
theorem am_96a {x y : Int32} : ax_fn 96 0 (ax_entry 96 [.ref (ax_a 24 0), .int (ay_i 0), .int x, .int y]) [] (ax_hp X e gb M o) = some (.inl (some (.int (ay_i 0))), ax_hp X e gb (ax_u3 M 24 0 0 (ay_i 1)) o) := by
  simp (disch := first | omega | assumption | exact ay_z1b _ | exact ay_z10 | exact ay_z11) only [ae_96, af_96_0, af_96_1, af_96_2, af_96_5, af_96_6, af_96_9, af_96_10, af_96_13, af_96_14, af_96_17, af_96_18, af_96_21, af_96_22, af_96_25, af_96_26, af_96_29, af_96_30, af_96_33, af_96_36, af_96_37, af_96_40, af_96_41, ay_u3e, false_and, and_false, true_and, and_true, and_self, ay_cl_v, ay_cl_s, ay_i_add, ay_i_mul, ay_i_eq, ay_i_lt, ay_b0, ay_b1, ay_ni, ay_in, ay_nn, ay_nl, ay_ln, if_true, if_false, ↓reduceIte, Nat.reduceAdd, Nat.reduceMul, Nat.reduceEqDiff, Nat.reduceLT, Nat.not_lt_zero, Bool.true_eq_false, Bool.false_eq_true, reduceCtorEq, Nat.add_zero, Nat.zero_add]
theorem am_96b {y : Int32} : ax_fn 96 0 (ax_entry 96 [.ref (ax_a 24 0), .int (ay_i 1), .int (ay_i 0), .int y]) [] (ax_hp X e gb M o) = some (.inl (some (.int (ay_i 0))), ax_hp X e gb (ax_u3 M 24 0 0 (ay_i 2)) o) := by
  simp (disch := first | omega | assumption | exact ay_z1b _ | exact ay_z10 | exact ay_z11) only [ae_96, af_96_0, af_96_1, af_96_2, af_96_5, af_96_6, af_96_9, af_96_10, af_96_13, af_96_14, af_96_17, af_96_18, af_96_21, af_96_22, af_96_25, af_96_26, af_96_29, af_96_30, af_96_33, af_96_36, af_96_37, af_96_40, af_96_41, ay_u3e, false_and, and_false, true_and, and_true, and_self, ay_cl_v, ay_cl_s, ay_i_add, ay_i_mul, ay_i_eq, ay_i_lt, ay_b0, ay_b1, ay_ni, ay_in, ay_nn, ay_nl, ay_ln, if_true, if_false, ↓reduceIte, Nat.reduceAdd, Nat.reduceMul, Nat.reduceEqDiff, Nat.reduceLT, Nat.not_lt_zero, Bool.true_eq_false, Bool.false_eq_true, reduceCtorEq, Nat.add_zero, Nat.zero_add]
theorem am_96c : ax_fn 96 0 (ax_entry 96 [.ref (ax_a 24 0), .int (ay_i 1), .int (ay_i 1), .int (ay_i 0)]) [] (ax_hp X e gb M o) = some (.inl (some (.int (ay_i 0))), ax_hp X e gb (ax_u3 M 24 0 0 (ay_i 3)) o) := by
  simp (disch := first | omega | assumption | exact ay_z1b _ | exact ay_z10 | exact ay_z11) only [ae_96, af_96_0, af_96_1, af_96_2, af_96_5, af_96_6, af_96_9, af_96_10, af_96_13, af_96_14, af_96_17, af_96_18, af_96_21, af_96_22, af_96_25, af_96_26, af_96_29, af_96_30, af_96_33, af_96_36, af_96_37, af_96_40, af_96_41, ay_u3e, false_and, and_false, true_and, and_true, and_self, ay_cl_v, ay_cl_s, ay_i_add, ay_i_mul, ay_i_eq, ay_i_lt, ay_b0, ay_b1, ay_ni, ay_in, ay_nn, ay_nl, ay_ln, if_true, if_false, ↓reduceIte, Nat.reduceAdd, Nat.reduceMul, Nat.reduceEqDiff, Nat.reduceLT, Nat.not_lt_zero, Bool.true_eq_false, Bool.false_eq_true, reduceCtorEq, Nat.add_zero, Nat.zero_add]
theorem am_96d : ax_fn 96 0 (ax_entry 96 [.ref (ax_a 24 0), .int (ay_i 1), .int (ay_i 1), .int (ay_i 1)]) [] (ax_hp X e gb M o) = some (.inl (some (.int (ay_i 1))), ax_hp X e gb (ax_u3 M 24 0 0 (ay_i 0)) o) := by
  simp (disch := first | omega | assumption | exact ay_z1b _ | exact ay_z10 | exact ay_z11) only [ae_96, af_96_0, af_96_1, af_96_2, af_96_5, af_96_6, af_96_9, af_96_10, af_96_13, af_96_14, af_96_17, af_96_18, af_96_21, af_96_22, af_96_25, af_96_26, af_96_29, af_96_30, af_96_33, af_96_36, af_96_37, af_96_40, af_96_41, ay_u3e, false_and, and_false, true_and, and_true, and_self, ay_cl_v, ay_cl_s, ay_i_add, ay_i_mul, ay_i_eq, ay_i_lt, ay_b0, ay_b1, ay_ni, ay_in, ay_nn, ay_nl, ay_ln, if_true, if_false, ↓reduceIte, Nat.reduceAdd, Nat.reduceMul, Nat.reduceEqDiff, Nat.reduceLT, Nat.not_lt_zero, Bool.true_eq_false, Bool.false_eq_true, reduceCtorEq, Nat.add_zero, Nat.zero_add]
/-- a call of the class and one of the reference have come to the same -/
def ai_J (r1 : Option (ax_O × ax_H)) (r2 : Nat → Nat → ax_M → Int64 → Option (ax_O × ax_H)) (X : Nat × (Nat → Int32)) (e : Nat) (val : Int32 → Option Value) (cmp : Bool) (o : Int64) : Prop :=
  ∃ (t e' gb' : Nat) (M1 M2 : ax_M) (o1 : Int64) (v : Int32), r1 = some (.inl (some (.int (ay_i t))), ax_hp X e' gb' M1 o1) ∧ r2 e' gb' M1 o1 = some (.inl (val v), ax_hp X e' gb' M2 o1) ∧ M2 24 0 0 = ay_i t ∧ t < 4 ∧ (t = 0 → cmp = true → o1 = v.toInt64) ∧ e' ≤ e + 1 ∧ ai_R M2
theorem ai_R_t (hR : ai_R M) {t : Nat} : ai_R (ax_u3 M 24 0 0 (ay_i t)) := ai_R_same hR (fun f i j h => by simp only [ax_u3]; grind)
theorem ap_su_b {P : ax_M} {f : Nat} {c : Bool} (h : P 32 0 f = ay_b c) : ap_su P f = c := ag_b1n h
theorem ap_nu_b {P : ax_M} {f : Nat} {c : Bool} (h : P 35 0 f = ay_b c) : ap_nu P f = c := ag_b1n h
theorem ap_rs_b {P : ax_M} {f : Nat} {c : Bool} (h : P 38 0 f = ay_b c) : ap_rs P f = c := ag_b1n h
theorem aj_field (hR : ai_R M) (he : e < 700000) {c k w : Int32} {nb : Bool} : ai_J (ax_fn 1 0 (ax_entry 1 [.ref (ax_a 0 0), .int c, .int k, .int w, .int (ay_b nb)]) [] (ax_hp X e gb M o)) (fun e' gb' M1 o1 => ax_fn 93 0 (ax_entry 93 [.ref (ax_a 24 0), .int c, .int k, .int w, .int (ay_b nb)]) [] (ax_hp X e' gb' M1 o1)) X e (fun _ => none) false o := by
  by_cases hv : ay_w c (ay_i 6) = true ∧ ay_w k (ay_i 4) = true ∧ ay_w w (ay_i 6) = true
  · obtain ⟨h1, h2, h3⟩ := hv
    obtain ⟨c, hc, rfl, -⟩ := ay_w_inv (by omega) h1
    obtain ⟨k, hk, rfl, -⟩ := ay_w_inv (by omega) h2
    obtain ⟨w, hw, rfl, -⟩ := ay_w_inv (by omega) h3
    have h21 := am_21 (X := X) (e := e) (gb := gb) (M := M) (o := o) (d := 4 * c + k) (a := ay_i w) (s := ay_i 0) (c := nb) (by omega)
    generalize hD : ax_u3 (ax_u3 (ax_u3 M 10 (4 * c + k) 0 (ay_i w)) 10 (4 * c + k) 1 (ay_b nb)) 10 (4 * c + k) 2 (ay_i 0) = D at h21
    refine ⟨0, e, gb, ai_fo D, ax_u3 (ax_u3 (ax_u3 (ax_u3 (ai_fo D) 24 0 0 (ay_i 0)) 31 0 (4 * c + k) (ay_i w)) 32 0 (4 * c + k) (ay_b (!nb))) 24 0 26 (ay_i 0), o, 0, ?_, ?_, ?_, by omega, (fun _ h => by cases h), by omega, ?_⟩
    · simp (disch := first | omega | assumption | exact ay_z1b _ | exact ay_z10 | exact ay_z11) only [ae_1, af_1_0, af_1_1, af_1_2, af_1_3, af_1_4, af_1_6, af_1_9, af_1_12, af_1_14, af_1_15, af_1_16, af_1_17, ae_70, af_70_0, af_70_1, af_70_3, af_70_6, af_70_9, af_70_10, af_70_11, af_70_14, af_70_17, af_70_18, af_70_20, af_70_23, af_70_26, af_70_27, af_70_30, af_70_31, af_70_34, af_70_35, af_70_38, af_70_39, af_70_40, af_70_43, af_70_44, af_70_46, af_70_47, af_70_50, af_70_51, af_70_54, am_71, h1, h2, h3, am_72t, am_53 hc hk, h21, am_73, ay_cl_v, ay_cl_s, ay_i_add, ay_i_mul, ay_i_eq, ay_i_lt, ay_b0, ay_b1, ay_ni, ay_in, ay_nn, ay_nl, ay_ln, if_true, if_false, ↓reduceIte, Nat.reduceAdd, Nat.reduceMul, Nat.reduceEqDiff, Nat.reduceLT, Nat.not_lt_zero, Bool.true_eq_false, Bool.false_eq_true, reduceCtorEq, Nat.add_zero, Nat.zero_add]
    · cases nb <;> simp (disch := first | omega | assumption | exact ay_z1b _ | exact ay_z10 | exact ay_z11) only [ae_93, af_93_0, af_93_1, af_93_2, af_93_5, af_93_8, af_93_9, af_93_10, af_93_11, af_93_14, af_93_17, af_93_18, af_93_21, af_93_24, af_93_25, af_93_28, af_93_29, af_93_30, af_93_31, af_93_34, af_93_37, af_93_38, af_93_41, af_93_42, af_93_43, af_93_44, af_93_45, af_93_46, af_93_47, af_93_48, af_93_49, af_93_52, af_93_53, af_93_54, af_93_55, af_93_56, af_93_57, af_93_59, af_93_62, af_93_63, af_93_66, af_93_67, af_93_68, af_93_69, af_93_70, af_93_73, am_94, am_95 (show 3 < 100000 by omega), h1, h2, h3, am_96d, ay_u3e, false_and, and_false, true_and, and_true, and_self, Bool.not_true, Bool.not_false, ay_bt, ay_bf, ay_cl_v, ay_cl_s, ay_i_add, ay_i_mul, ay_i_eq, ay_i_lt, ay_b0, ay_b1, ay_ni, ay_in, ay_nn, ay_nl, ay_ln, if_true, if_false, ↓reduceIte, Nat.reduceAdd, Nat.reduceMul, Nat.reduceEqDiff, Nat.reduceLT, Nat.not_lt_zero, Bool.true_eq_false, Bool.false_eq_true, reduceCtorEq, Nat.add_zero, Nat.zero_add]
    · simp [ax_u3]
    · obtain ⟨r1, r2, -, -⟩ := hR
      have hDc : ∀ f i j, ¬ (f = 10 ∧ i = 4 * c + k) → D f i j = M f i j := by
        intro f i j hf; rw [← hD]; simp only [ax_u3]; grind
      have hD0 : D 10 (4 * c + k) 0 = ay_i w := by rw [← hD]; simp [ax_u3]
      have hD1 : D 10 (4 * c + k) 1 = ay_b nb := by rw [← hD]; simp [ax_u3]
      have hD2 : D 10 (4 * c + k) 2 = ay_i 0 := by rw [← hD]; simp [ax_u3]
      generalize hM2 : ax_u3 (ax_u3 (ax_u3 (ax_u3 (ai_fo D) 24 0 0 (ay_i 0)) 31 0 (4 * c + k) (ay_i w)) 32 0 (4 * c + k) (ay_b (!nb))) 24 0 26 (ay_i 0) = M2
      have m31 : M2 31 0 (4 * c + k) = ay_i w := by rw [← hM2]; simp [ax_u3]
      have m32 : M2 32 0 (4 * c + k) = ay_b (!nb) := by rw [← hM2]; simp [ax_u3]
      have mF : ∀ f i j, ¬ ((f = 31 ∨ f = 32) ∧ j = 4 * c + k) → ¬ (f = 24) → M2 f i j = ai_fo D f i j := by
        intro f i j h1 h2; rw [← hM2]; simp only [ax_u3]; grind
      have mO : ∀ f i j, ¬ ((f = 31 ∨ f = 32) ∧ j = 4 * c + k) → ¬ (f = 24) → ¬ f = 16 → ¬ f = 9 → ¬ f = 18 → ¬ (f = 10 ∧ i = 4 * c + k) → M2 f i j = M f i j := by
        intro f i j q1 q2 q3 q4 q5 q6
        rw [mF f i j q1 q2, ai_fo_ne q3 (by omega) (by omega), hDc f i j q6]
      have mP : ∀ f j, 31 ≤ f → f ≤ 44 → ¬ ((f = 31 ∨ f = 32) ∧ j = 4 * c + k) → ag_pr M2 f 0 j = ag_pr M f 0 j := by
        intro f j q1 q2 q3
        rw [ag_pr_at q1 q2, ag_pr_at q1 q2]; exact mO f 0 j q3 (by omega) (by omega) (by omega) (by omega) (by omega)
      have p31 : ag_pr M2 31 0 (4 * c + k) = ay_i w := by rw [ag_pr_at (by omega) (by omega)]; exact m31
      have p32 : ag_pr M2 32 0 (4 * c + k) = ay_b (!nb) := by rw [ag_pr_at (by omega) (by omega)]; exact m32
      have hsu : ap_su (ag_pr M2) (4 * c + k) = !nb := ap_su_b p32
      refine ai_R0 ?_ ?_ ?_ ?_ ?_ ?_
      · refine ap_wf_ch r1 (.inl (fun b hb => mP _ _ (by omega) (by omega) (by omega))) (.inl (fun b hb => mP _ _ (by omega) (by omega) (by omega))) (.inl (fun f j q1 q2 => mP _ _ (by omega) (by omega) (by omega))) (.inr (fun f hf => ?_)) (.inl (fun f j q1 q2 => mP _ _ (by omega) (by omega) (by omega))) (.inl (fun f j q1 q2 => mP _ _ (by omega) (by omega) (by omega)))
        by_cases hq : f = 4 * c + k
        · subst hq; rw [hsu, p31, p32]; exact ⟨⟨w, hw, rfl⟩, rfl⟩
        · have := r1.2.2.2.1 f hf
          unfold ap_su at this ⊢
          rw [mP 31 f (by omega) (by omega) (by omega), mP 32 f (by omega) (by omega) (by omega)]; exact this
      · obtain ⟨s1, s2, s3, s4, s5⟩ := r2
        refine ⟨fun b hb => ?_, fun b p hb hp => ?_, fun f hf => ?_, fun b q hb hq => ?_, fun f hf => ?_⟩
        · rw [mO 3 b 6 (by omega) (by omega) (by omega) (by omega) (by omega) (by omega), mO 3 b 7 (by omega) (by omega) (by omega) (by omega) (by omega) (by omega), mP 40 b (by omega) (by omega) (by omega), mP 33 b (by omega) (by omega) (by omega)]; exact s1 b hb
        · rw [mO 4 b p (by omega) (by omega) (by omega) (by omega) (by omega) (by omega), mO 5 b p (by omega) (by omega) (by omega) (by omega) (by omega) (by omega), mO 6 b p (by omega) (by omega) (by omega) (by omega) (by omega) (by omega), mO 7 b p (by omega) (by omega) (by omega) (by omega) (by omega) (by omega), mP 41 _ (by omega) (by omega) (by omega), mP 42 _ (by omega) (by omega) (by omega), mP 43 _ (by omega) (by omega) (by omega), mP 44 _ (by omega) (by omega) (by omega)]; exact s2 b p hb hp
        · by_cases hq : f = 4 * c + k
          · subst hq
            rw [mF 10 _ 0 (by omega) (by omega), mF 10 _ 1 (by omega) (by omega), mF 10 _ 2 (by omega) (by omega), ai_fo_ne (by omega) (by omega) (by omega), ai_fo_ne (by omega) (by omega) (by omega), ai_fo_ne (by omega) (by omega) (by omega), hsu, p31, Bool.not_not]
            exact ⟨hD0, hD1, hD2⟩
          · have := s3 f hf
            unfold ap_su at this ⊢
            rw [mO 10 f 0 (by omega) (by omega) (by omega) (by omega) (by omega) (by omega), mO 10 f 1 (by omega) (by omega) (by omega) (by omega) (by omega) (by omega), mO 10 f 2 (by omega) (by omega) (by omega) (by omega) (by omega) (by omega), mP 31 f (by omega) (by omega) (by omega), mP 32 f (by omega) (by omega) (by omega)]; exact this
        · have hq' : q < ap_mn (ag_pr M) b := by unfold ap_mn at hq ⊢; rw [mP 33 b (by omega) (by omega) (by omega)] at hq; exact hq
          have := s4 b q hb hq'
          unfold ap_nu at this ⊢
          rw [mO 10 _ 0 (by omega) (by omega) (by omega) (by omega) (by omega) (by omega), mO 10 _ 1 (by omega) (by omega) (by omega) (by omega) (by omega) (by omega), mO 10 _ 2 (by omega) (by omega) (by omega) (by omega) (by omega) (by omega), mP 34 _ (by omega) (by omega) (by omega), mP 35 _ (by omega) (by omega) (by omega), mP 36 _ (by omega) (by omega) (by omega)]; exact this
        · have := s5 f hf
          unfold ap_rs at this ⊢
          rw [mO 10 _ 0 (by omega) (by omega) (by omega) (by omega) (by omega) (by omega), mO 10 _ 1 (by omega) (by omega) (by omega) (by omega) (by omega) (by omega), mO 10 _ 2 (by omega) (by omega) (by omega) (by omega) (by omega) (by omega), mP 37 _ (by omega) (by omega) (by omega), mP 38 _ (by omega) (by omega) (by omega), mP 39 _ (by omega) (by omega) (by omega)]; exact this
      · intro b hb; rw [mF _ _ _ (by omega) (by omega)]; exact ai_fo_16 hb
      · rw [mF _ _ _ (by omega) (by omega)]; exact ai_fo_9
      · rw [mF _ _ _ (by omega) (by omega)]; exact ai_fo_18
      · rw [← hM2]; simp [ax_u3]
  · refine ⟨1, e + 1, gb, M, ax_u3 M 24 0 0 (ay_i 1), o, 0, ?_, ?_, by simp [ax_u3], by omega, (fun h => by omega), by omega, ai_R_t hR⟩
    · cases h1 : ay_w c (ay_i 6) <;> cases h2 : ay_w k (ay_i 4) <;> cases h3 : ay_w w (ay_i 6) <;> simp only [h1, h2, h3, and_self, not_true, Bool.false_eq_true, false_and, and_false, not_false_eq_true] at hv <;> simp (disch := first | omega | assumption | exact ay_z1b _ | exact ay_z10 | exact ay_z11) only [ae_1, af_1_0, af_1_1, af_1_2, af_1_3, af_1_4, af_1_6, af_1_9, af_1_12, af_1_14, af_1_15, af_1_16, af_1_17, ae_70, af_70_0, af_70_1, af_70_3, af_70_6, af_70_9, af_70_10, af_70_11, af_70_14, af_70_17, af_70_18, af_70_20, af_70_23, af_70_26, af_70_27, af_70_30, af_70_31, af_70_34, af_70_35, af_70_38, af_70_39, af_70_40, af_70_43, af_70_44, af_70_46, af_70_47, af_70_50, af_70_51, af_70_54, am_71, h1, h2, h3, am_72f, ah_70, ah_1_0, ay_cl_v, ay_cl_s, ay_i_add, ay_i_mul, ay_i_eq, ay_i_lt, ay_b0, ay_b1, ay_ni, ay_in, ay_nn, ay_nl, ay_ln, if_true, if_false, ↓reduceIte, Nat.reduceAdd, Nat.reduceMul, Nat.reduceEqDiff, Nat.reduceLT, Nat.not_lt_zero, Bool.true_eq_false, Bool.false_eq_true, reduceCtorEq, Nat.add_zero, Nat.zero_add]
    · cases h1 : ay_w c (ay_i 6) <;> cases h2 : ay_w k (ay_i 4) <;> cases h3 : ay_w w (ay_i 6) <;> simp only [h1, h2, h3, and_self, not_true, Bool.false_eq_true, false_and, and_false, not_false_eq_true] at hv <;> simp (disch := first | omega | assumption | exact ay_z1b _ | exact ay_z10 | exact ay_z11) only [ae_93, af_93_0, af_93_1, af_93_2, af_93_5, af_93_8, af_93_9, af_93_10, af_93_11, af_93_14, af_93_17, af_93_18, af_93_21, af_93_24, af_93_25, af_93_28, af_93_29, af_93_30, af_93_31, af_93_34, af_93_37, af_93_38, af_93_41, af_93_42, af_93_43, af_93_44, af_93_45, af_93_46, af_93_47, af_93_48, af_93_49, af_93_52, af_93_53, af_93_54, af_93_55, af_93_56, af_93_57, af_93_59, af_93_62, af_93_63, af_93_66, af_93_67, af_93_68, af_93_69, af_93_70, af_93_73, am_94, am_95 (show 3 < 100000 by omega), h1, h2, h3, am_96a, ay_u3e, false_and, and_false, true_and, and_true, and_self, ay_cl_v, ay_cl_s, ay_i_add, ay_i_mul, ay_i_eq, ay_i_lt, ay_b0, ay_b1, ay_ni, ay_in, ay_nn, ay_nl, ay_ln, if_true, if_false, ↓reduceIte, Nat.reduceAdd, Nat.reduceMul, Nat.reduceEqDiff, Nat.reduceLT, Nat.not_lt_zero, Bool.true_eq_false, Bool.false_eq_true, reduceCtorEq, Nat.add_zero, Nat.zero_add]
end AmF
