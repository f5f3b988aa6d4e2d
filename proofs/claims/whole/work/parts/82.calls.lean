/-! start, run, state, local, object: the calls -/
theorem ai_m_to {M P : ax_M} {d q t : Nat} (h : ai_m M P d q t) : ai_mc M P d q ∧ ai_mm M M d q ∧ (t = 0 ∨ (2 ≤ t ∧ t ≤ 5)) ∧ M 24 0 32 = ay_i t ∧ M 18 0 7 = ay_i (ab_sr t d) := by
  obtain ⟨a1, a2, a3, a4, a5, a6, a7, a8, a9, a10, a11, a12⟩ := h
  refine ⟨⟨a1, a2, a4, a6, fun k hk => ?_, fun i z hi hz => ((a12 i hi).2 z hz).2⟩, ⟨a5, a7, a10.symm, fun k hk => ?_, fun i hi => ⟨(a12 i hi).1.symm, fun z hz => ((a12 i hi).2 z hz).1.symm⟩⟩, a3, a8, a9⟩
  · obtain ⟨⟨b, b1, b2, b3, b4⟩, b5, b6, b7, b8⟩ := a11 k hk
    exact ⟨⟨b, b1, b2, fun hk1 => by obtain ⟨p, p1, p2, p3, p4⟩ := b4 hk1; exact ⟨p, p1, p2, p3⟩⟩, b7, fun l hl => (b8 l hl).2⟩
  · obtain ⟨⟨b, b1, b2, b3, b4⟩, b5, b6, b7, b8⟩ := a11 k hk
    refine ⟨by rw [b2, b3], ?_, b6.symm, fun l hl => (b8 l hl).1.symm⟩
    by_cases hk1 : k + 1 = d
    · rw [if_pos hk1]; exact (b5 hk1).symm
    · rw [if_neg hk1]
      obtain ⟨p, p1, p2, p3, p4⟩ := b4 (by omega)
      rw [p4, p3, ay_i_add]
theorem ai_m_of {M P : ax_M} {d q t : Nat} (hc : ai_mc M P d q) (hm : ai_mm M M d q) (ht : t = 0 ∨ (2 ≤ t ∧ t ≤ 5)) (h32 : M 24 0 32 = ay_i t) (h7 : M 18 0 7 = ay_i (ab_sr t d)) : ai_m M P d q t := by
  obtain ⟨c1, c2, c3, c4, c5, c6⟩ := hc
  obtain ⟨m1, m2, m3, m4, m5⟩ := hm
  refine ⟨c1, c2, ht, c3, m1, c4, m2, h32, h7, m3.symm, fun k hk => ?_, fun i hi => ⟨(m5 i hi).1.symm, fun z hz => ⟨((m5 i hi).2 z hz).symm, c6 i z hi hz⟩⟩⟩
  obtain ⟨⟨b, b1, b2, b3⟩, b4, b5⟩ := c5 k hk
  obtain ⟨n1, n2, n3, n4⟩ := m4 k hk
  refine ⟨⟨b, b1, b2, by rw [n1, b2], fun hk1 => ?_⟩, fun hk1 => by rw [n2, if_pos hk1], n3.symm, b4, fun l hl => ⟨(n4 l hl).symm, b5 l hl⟩⟩
  obtain ⟨p, p1, p2, p3⟩ := b3 hk1
  refine ⟨p, p1, p2, p3, ?_⟩
  rw [n2, if_neg (by omega), p3, ay_i_add]
/-- the machines have worked, nothing else has changed -/
theorem ai_R_m {M M' : ax_M} (h : ai_R M) (hf : ∀ f i j, ¬ (18 ≤ f ∧ f ≤ 23) → ¬ (f = 24 ∧ (j = 0 ∨ j = 26 ∨ j = 27 ∨ (32 ≤ j ∧ j ≤ 35))) → ¬ (58 ≤ f ∧ f ≤ 61) → ¬ (f = 66 ∨ f = 67) → M' f i j = M f i j) (hr : ai_r M' (ag_pr M)) : ai_R M' := by
  have hP : ag_pr M' = ag_pr M := ag_pr_eq (fun f j h1 h2 => hf f 0 j (by omega) (by omega) (by omega) (by omega))
  obtain ⟨h1, h2, h3, h4⟩ := h
  unfold ai_R
  rw [hP]
  exact ⟨h1, ac_p_fr h2 (fun f i j h => hf f i j (by omega) (by omega) (by omega) (by omega)), ai_c_cg h3 (fun f i j h => hf f i j (by omega) (by omega) (by omega) (by omega)), hr⟩
section AmS
variable {X : Nat × (Nat → Int32)} {e gb : Nat} {M P : ax_M} {o : Int64}
theorem aj_run (hR : ai_R M) (he : e < 700000) {w : Int32} : ai_J (ax_fn 10 0 (ax_entry 10 [.ref (ax_a 0 0), .int w, .ref (ax_a 68 0)]) [] (ax_hp X e gb M o)) (fun e' gb' M1 o1 => ax_fn 125 0 (ax_entry 125 [.ref (ax_a 24 0), .int w]) [] (ax_hp X e' gb' M1 o1)) X e (fun v => some (.int v)) true o := by
  obtain ⟨r1, r2, r3, pr, p1, p2, p3⟩ := id hR
  cases hv : ay_w w (ay_i 1001) with
  | false =>
    refine ⟨1, e + 1, gb, M, ax_u3 M 24 0 0 (ay_i 1), o, ay_i 0, ?_, ?_, by simp [ax_u3], by omega, (fun h => by omega), by omega, ai_R_t hR⟩
    · by_cases h0 : w < ay_i 0
      · simp (disch := first | omega | assumption | exact ay_z1b _ | exact ay_z10 | exact ay_z11) only [ae_10, af_10_0, af_10_1, af_10_2, af_10_3, af_10_4, af_10_7, af_10_8, af_10_9, af_10_12, af_10_13, af_10_14, af_10_15, af_10_16, af_10_17, af_10_18, af_10_19, ae_86, af_86_0, af_86_1, af_86_4, af_86_5, af_86_8, af_86_11, af_86_12, af_86_15, af_86_16, af_86_19, af_86_20, af_86_23, af_86_26, af_86_29, af_86_30, af_86_33, af_86_34, af_86_37, h0, am_78f, ah_86, ah_10_1, ay_cl_v, ay_cl_s, ay_i_add, ay_i_mul, ay_i_eq, ay_i_lt, ay_b0, ay_b1, ay_ni, ay_in, ay_nn, ay_nl, ay_ln, if_true, if_false, ↓reduceIte, Nat.reduceAdd, Nat.reduceMul, Nat.reduceEqDiff, Nat.reduceLT, Nat.not_lt_zero, Bool.true_eq_false, Bool.false_eq_true, reduceCtorEq, Nat.add_zero, Nat.zero_add]
      · have h1 : ay_i 1000 < w := by
          rw [ay_lt_succ (by omega)]
          intro h
          simp [ay_w, h0, h] at hv
        simp (disch := first | omega | assumption | exact ay_z1b _ | exact ay_z10 | exact ay_z11) only [ae_10, af_10_0, af_10_1, af_10_2, af_10_3, af_10_4, af_10_7, af_10_8, af_10_9, af_10_12, af_10_13, af_10_14, af_10_15, af_10_16, af_10_17, af_10_18, af_10_19, ae_86, af_86_0, af_86_1, af_86_4, af_86_5, af_86_8, af_86_11, af_86_12, af_86_15, af_86_16, af_86_19, af_86_20, af_86_23, af_86_26, af_86_29, af_86_30, af_86_33, af_86_34, af_86_37, h0, h1, am_78f, ah_86, ah_10_1, ay_cl_v, ay_cl_s, ay_i_add, ay_i_mul, ay_i_eq, ay_i_lt, ay_b0, ay_b1, ay_ni, ay_in, ay_nn, ay_nl, ay_ln, if_true, if_false, ↓reduceIte, Nat.reduceAdd, Nat.reduceMul, Nat.reduceEqDiff, Nat.reduceLT, Nat.not_lt_zero, Bool.true_eq_false, Bool.false_eq_true, reduceCtorEq, Nat.add_zero, Nat.zero_add]
    · simp (disch := first | omega | assumption | exact ay_z1b _ | exact ay_z10 | exact ay_z11) only [ae_125, af_125_0, af_125_1, af_125_2, af_125_3, af_125_6, af_125_9, af_125_10, af_125_13, af_125_14, af_125_17, af_125_20, af_125_21, af_125_22, af_125_23, af_125_25, af_125_26, af_125_29, af_125_30, af_125_33, af_125_36, af_125_37, af_125_40, af_125_43, af_125_44, af_125_45, af_125_48, af_125_51, af_125_52, af_125_55, af_125_58, af_125_59, af_125_62, af_125_65, af_125_68, af_125_69, af_125_70, af_125_73, af_125_74, af_125_75, af_125_78, af_125_79, hv, ay_bf, p2, am_95 (show 1000 < 100000 by omega), am_96a, ay_cl_v, ay_cl_s, ay_i_add, ay_i_mul, ay_i_eq, ay_i_lt, ay_b0, ay_b1, ay_ni, ay_in, ay_nn, ay_nl, ay_ln, if_true, if_false, ↓reduceIte, Nat.reduceAdd, Nat.reduceMul, Nat.reduceEqDiff, Nat.reduceLT, Nat.not_lt_zero, Bool.true_eq_false, Bool.false_eq_true, reduceCtorEq, Nat.add_zero, Nat.zero_add]
  | true =>
    obtain ⟨N, hN, rfl⟩ := ay_w_iv (by omega) hv
    have hN0 : ¬ ay_i N < ay_i 0 := by rw [ay_i_lt (by omega) (by omega)]; omega
    have hN1 : ¬ ay_i 1000 < ay_i N := by rw [ay_i_lt (by omega) (by omega)]; omega
    cases pr with
    | false =>
      rw [ay_bf] at p1 p2
      refine ⟨2, e + 1, gb, M, ax_u3 M 24 0 0 (ay_i 2), o, ay_i 0, ?_, ?_, by simp [ax_u3], by omega, (fun h => by omega), by omega, ai_R_t hR⟩
      · simp (disch := first | omega | assumption | exact ay_z1b _ | exact ay_z10 | exact ay_z11) only [ae_10, af_10_0, af_10_1, af_10_2, af_10_3, af_10_4, af_10_7, af_10_8, af_10_9, af_10_12, af_10_13, af_10_14, af_10_15, af_10_16, af_10_17, af_10_18, af_10_19, ae_86, af_86_0, af_86_1, af_86_4, af_86_5, af_86_8, af_86_11, af_86_12, af_86_15, af_86_16, af_86_19, af_86_20, af_86_23, af_86_26, af_86_29, af_86_30, af_86_33, af_86_34, af_86_37, hN0, hN1, am_78t, p1, am_75f, ah_86, ah_10_2, ay_cl_v, ay_cl_s, ay_i_add, ay_i_mul, ay_i_eq, ay_i_lt, ay_b0, ay_b1, ay_ni, ay_in, ay_nn, ay_nl, ay_ln, if_true, if_false, ↓reduceIte, Nat.reduceAdd, Nat.reduceMul, Nat.reduceEqDiff, Nat.reduceLT, Nat.not_lt_zero, Bool.true_eq_false, Bool.false_eq_true, reduceCtorEq, Nat.add_zero, Nat.zero_add]
      · simp (disch := first | omega | assumption | exact ay_z1b _ | exact ay_z10 | exact ay_z11) only [ae_125, af_125_0, af_125_1, af_125_2, af_125_3, af_125_6, af_125_9, af_125_10, af_125_13, af_125_14, af_125_17, af_125_20, af_125_21, af_125_22, af_125_23, af_125_25, af_125_26, af_125_29, af_125_30, af_125_33, af_125_36, af_125_37, af_125_40, af_125_43, af_125_44, af_125_45, af_125_48, af_125_51, af_125_52, af_125_55, af_125_58, af_125_59, af_125_62, af_125_65, af_125_68, af_125_69, af_125_70, af_125_73, af_125_74, af_125_75, af_125_78, af_125_79, hv, ay_bt, p2, am_95 (show 1000 < 100000 by omega), am_96b, ay_cl_v, ay_cl_s, ay_i_add, ay_i_mul, ay_i_eq, ay_i_lt, ay_b0, ay_b1, ay_ni, ay_in, ay_nn, ay_nl, ay_ln, if_true, if_false, ↓reduceIte, Nat.reduceAdd, Nat.reduceMul, Nat.reduceEqDiff, Nat.reduceLT, Nat.not_lt_zero, Bool.true_eq_false, Bool.false_eq_true, reduceCtorEq, Nat.add_zero, Nat.zero_add]
    | true =>
      rw [ay_bt] at p1 p2
      obtain ⟨p4, d, q, t, p5⟩ := p3 rfl
      obtain ⟨c1, c2, c3, c4, c5⟩ := ai_m_to p5
      have hcl := al_44 (X := X) (e := e) (gb := gb) (o := o) (N := N) r1 (by omega) N 0 M d q none (by omega) c1 r2 (fun h => by
        rw [c5, ay_i_eq (by have := ab_sr_le (t := t) (d := d) (by omega); omega) (by omega)] at h
        unfold ab_sr at h
        split at h
        · omega
        · split at h <;> omega)
      rw [Nat.zero_add] at hcl
      have mF : ∀ f i j, f < 18 ∨ 23 < f ∨ (f = 18 ∧ i = 0 ∧ j = 2) → (ab_run (ag_pr M) N M).2 f i j = M f i j := by
        obtain ⟨-, -, -, -, -, -, -, -, -, -, -, -, -, h⟩ := al_125 (X := X) (e := e) (gb := gb) (o := o) (N := N) r1 (by omega) N 0 M M d q t (by omega) c1 c2 (ag_pr_m M) c3 c4 c5
        exact h
      generalize hM1 : (ab_run (ag_pr M) N M).2 = M1 at *
      have hmm : ai_mm M (ax_u3 M1 24 0 0 (ay_i 0)) d q := ab_mm_m c2 (fun f i j a1 a2 => by rw [← mF f i j (by omega)]; simp only [ax_u3]; grind)
      have hPm : ac_m (ax_u3 M1 24 0 0 (ay_i 0)) (ag_pr M) := by
        intro f j a1 a2
        rw [← ag_pr_m M f j a1 a2, ← mF f 0 j (by omega)]; simp only [ax_u3]; grind
      obtain ⟨M2, d2, q2, t2, s1, s2, s3, s4, s5, s6, s7, s8, s9, -⟩ := al_125 (X := X) (e := e) (gb := gb) (o := (ay_i (ab_run (ag_pr M) N M).1).toInt64) (N := N) r1 (by omega) N 0 M (ax_u3 M1 24 0 0 (ay_i 0)) d q t (by omega) c1 hmm hPm c3 (by simp only [ax_u3]; simp; rw [mF _ _ _ (by omega)]; exact c4) c5
      rw [hM1] at s4 s5 s8 s9
      rw [Nat.zero_add] at s1
      have m33 : M2 24 0 33 = M 24 0 33 := by rw [s3]; simp only [ax_u3]; simp; exact mF _ _ _ (by omega)
      refine ⟨0, e, gb, M1, ax_u3 M2 24 0 33 (M 24 0 33 + ay_i (ab_run (ag_pr M) N M).1), (ay_i (ab_run (ag_pr M) N M).1).toInt64, ay_i (ab_run (ag_pr M) N M).1, ?_, ?_, ?_, by omega, (fun _ _ => rfl), by omega, ?_⟩
      · simp (disch := first | omega | assumption | exact ay_z1b _ | exact ay_z10 | exact ay_z11) only [ae_10, af_10_0, af_10_1, af_10_2, af_10_3, af_10_4, af_10_7, af_10_8, af_10_9, af_10_12, af_10_13, af_10_14, af_10_15, af_10_16, af_10_17, af_10_18, af_10_19, ae_86, af_86_0, af_86_1, af_86_4, af_86_5, af_86_8, af_86_11, af_86_12, af_86_15, af_86_16, af_86_19, af_86_20, af_86_23, af_86_26, af_86_29, af_86_30, af_86_33, af_86_34, af_86_37, ae_44, af_44_0, af_44_1, af_44_3, af_44_4, af_44_7, af_44_8, af_44_11, af_44_14, af_44_15, af_44_16, af_44_17, af_44_20, af_44_21, af_44_22, af_44_25, af_44_26, af_44_27, af_44_30, af_44_31, af_44_32, af_44_33, af_44_34, af_44_37, af_44_38, af_44_39, af_44_42, af_44_43, af_44_44, af_44_47, af_44_50, af_44_51, af_44_54, af_44_55, af_44_58, af_44_61, af_44_64, af_44_65, hN0, hN1, am_78t, p1, am_75t, hcl, ay_cl_v, ay_cl_s, ay_i_add, ay_i_mul, ay_i_eq, ay_i_lt, ay_b0, ay_b1, ay_ni, ay_in, ay_nn, ay_nl, ay_ln, if_true, if_false, ↓reduceIte, Nat.reduceAdd, Nat.reduceMul, Nat.reduceEqDiff, Nat.reduceLT, Nat.not_lt_zero, Bool.true_eq_false, Bool.false_eq_true, reduceCtorEq, Nat.add_zero, Nat.zero_add]
      · have p2' : M1 24 0 26 = ay_i 1 := by rw [mF _ _ _ (by omega)]; exact p2
        simp (disch := first | omega | assumption | exact ay_z1b _ | exact ay_z10 | exact ay_z11) only [ae_125, af_125_0, af_125_1, af_125_2, af_125_3, af_125_6, af_125_9, af_125_10, af_125_13, af_125_14, af_125_17, af_125_20, af_125_21, af_125_22, af_125_23, af_125_25, af_125_26, af_125_29, af_125_30, af_125_33, af_125_36, af_125_37, af_125_40, af_125_43, af_125_44, af_125_45, af_125_48, af_125_51, af_125_52, af_125_55, af_125_58, af_125_59, af_125_62, af_125_65, af_125_69, af_125_70, af_125_73, af_125_74, af_125_75, af_125_78, af_125_79, hv, ay_bt, p2', am_95 (show 1000 < 100000 by omega), am_96d, s1, ay_cl_v, ay_cl_s, ay_i_add, ay_i_mul, ay_i_eq, ay_i_lt, ay_b0, ay_b1, ay_ni, ay_in, ay_nn, ay_nl, ay_ln, if_true, if_false, ↓reduceIte, Nat.reduceAdd, Nat.reduceMul, Nat.reduceEqDiff, Nat.reduceLT, Nat.not_lt_zero, Bool.true_eq_false, Bool.false_eq_true, reduceCtorEq, Nat.add_zero, Nat.zero_add]
        rw [af_125_68]
        simp (disch := first | omega | assumption | exact ay_z1b _ | exact ay_z10 | exact ay_z11) only [ae_125, af_125_0, af_125_1, af_125_2, af_125_3, af_125_6, af_125_9, af_125_10, af_125_13, af_125_14, af_125_17, af_125_20, af_125_21, af_125_22, af_125_23, af_125_25, af_125_26, af_125_29, af_125_30, af_125_33, af_125_36, af_125_37, af_125_40, af_125_43, af_125_44, af_125_45, af_125_48, af_125_51, af_125_52, af_125_55, af_125_58, af_125_59, af_125_62, af_125_65, af_125_69, af_125_70, af_125_73, af_125_74, af_125_75, af_125_78, af_125_79, m33, ay_cl_v, ay_cl_s, ay_i_add, ay_i_mul, ay_i_eq, ay_i_lt, ay_b0, ay_b1, ay_ni, ay_in, ay_nn, ay_nl, ay_ln, if_true, if_false, ↓reduceIte, Nat.reduceAdd, Nat.reduceMul, Nat.reduceEqDiff, Nat.reduceLT, Nat.not_lt_zero, Bool.true_eq_false, Bool.false_eq_true, reduceCtorEq, Nat.add_zero, Nat.zero_add]
      · have : ax_u3 M2 24 0 33 (M 24 0 33 + ay_i (ab_run (ag_pr M) N M).1) 24 0 0 = M2 24 0 0 := by simp [ax_u3]
        rw [this, s2 _ _ _ (by omega) (by omega) (by omega)]; simp [ax_u3]
      · generalize hM3 : ax_u3 M2 24 0 33 (M 24 0 33 + ay_i (ab_run (ag_pr M) N M).1) = M3
        have f3 : ∀ f i j, ¬ (f = 24 ∧ i = 0 ∧ j = 33) → M3 f i j = M2 f i j := by intro f i j a; rw [← hM3]; simp only [ax_u3]; grind
        have f2 : ∀ f i j, ¬ (58 ≤ f ∧ f ≤ 61) → ¬ (f = 66 ∨ f = 67) → ¬ (f = 24 ∧ (j = 0 ∨ j = 27 ∨ (32 ≤ j ∧ j ≤ 35))) → M3 f i j = M1 f i j := by
          intro f i j a1 a2 a3
          rw [f3 f i j (by omega), s2 f i j a1 a2 (by omega)]; simp only [ax_u3]; grind
        refine ai_R_m hR (fun f i j a1 a2 a3 a4 => ?_) ⟨true, ?_, ?_, fun _ => ⟨?_, d2, q2, t2, ai_m_of (ab_mc_c s4 (fun f i j a1 a2 a3 => f2 f i j (by omega) (by omega) (by omega))) (ab_mm_m (ab_mm_c s5 (fun f i j a1 a2 a3 => f2 f i j (by omega) (by omega) (by omega))) (fun f i j a1 a2 => f3 f i j (by omega))) s6 (by rw [f3 _ _ _ (by omega)]; exact s7) (by rw [f2 _ _ _ (by omega) (by omega) (by omega)]; exact s8)⟩⟩
        · rw [f2 f i j a3 a4 (by omega), mF f i j (by omega)]
        · rw [f2 _ _ _ (by omega) (by omega) (by omega), mF _ _ _ (by omega)]; exact p1
        · rw [f2 _ _ _ (by omega) (by omega) (by omega), mF _ _ _ (by omega)]; exact p2
        · rw [f2 _ _ _ (by omega) (by omega) (by omega), s9, p4, ← hM3]; simp [ax_u3]
theorem aj_start (hR : ai_R M) (he : e < 700000) {c : Int32} : ai_J (ax_fn 9 0 (ax_entry 9 [.ref (ax_a 0 0), .int c]) [] (ax_hp X e gb M o)) (fun e' gb' M1 o1 => ax_fn 123 0 (ax_entry 123 [.ref (ax_a 24 0), .int c]) [] (ax_hp X e' gb' M1 o1)) X e (fun _ => none) false o := by
  obtain ⟨r1, r2, r3, -⟩ := id hR
  cases hv : ay_w c (ay_i 6) with
  | false =>
    refine ⟨1, e + 1, gb, M, ax_u3 M 24 0 0 (ay_i 1), o, 0, ?_, ?_, by simp [ax_u3], by omega, (fun h => by omega), by omega, ai_R_t hR⟩
    · simp (disch := first | omega | assumption | exact ay_z1b _ | exact ay_z10 | exact ay_z11) only [ae_9, af_9_0, af_9_1, af_9_2, af_9_5, af_9_8, af_9_9, af_9_10, af_9_11, af_9_12, af_9_13, af_9_14, af_9_15, ae_85, af_85_0, af_85_1, af_85_3, af_85_6, af_85_9, af_85_10, af_85_13, af_85_14, af_85_17, af_85_20, af_85_23, af_85_24, af_85_27, af_85_28, af_85_31, af_85_32, af_85_35, af_85_36, af_85_39, am_71, hv, ay_bf, am_72f, ah_85, ah_9_0, ay_cl_v, ay_cl_s, ay_i_add, ay_i_mul, ay_i_eq, ay_i_lt, ay_b0, ay_b1, ay_ni, ay_in, ay_nn, ay_nl, ay_ln, if_true, if_false, ↓reduceIte, Nat.reduceAdd, Nat.reduceMul, Nat.reduceEqDiff, Nat.reduceLT, Nat.not_lt_zero, Bool.true_eq_false, Bool.false_eq_true, reduceCtorEq, Nat.add_zero, Nat.zero_add]
    · simp (disch := first | omega | assumption | exact ay_z1b _ | exact ay_z10 | exact ay_z11) only [ae_123, af_123_0, af_123_1, af_123_2, af_123_3, af_123_6, af_123_7, af_123_8, af_123_9, af_123_10, af_123_13, af_123_14, af_123_17, af_123_19, af_123_20, af_123_21, af_123_22, af_123_25, af_123_26, af_123_29, af_123_30, af_123_31, af_123_34, af_123_37, af_123_38, af_123_39, af_123_40, af_123_43, af_123_44, af_123_45, af_123_48, af_123_49, af_123_50, af_123_53, af_123_54, af_123_55, af_123_58, af_123_59, af_123_60, af_123_63, af_123_64, af_123_65, af_123_68, af_123_69, af_123_71, af_123_72, af_123_73, af_123_74, af_123_75, af_123_78, hv, ay_bf, am_95 (show 5 < 100000 by omega), am_96a, ay_cl_v, ay_cl_s, ay_i_add, ay_i_mul, ay_i_eq, ay_i_lt, ay_b0, ay_b1, ay_ni, ay_in, ay_nn, ay_nl, ay_ln, if_true, if_false, ↓reduceIte, Nat.reduceAdd, Nat.reduceMul, Nat.reduceEqDiff, Nat.reduceLT, Nat.not_lt_zero, Bool.true_eq_false, Bool.false_eq_true, reduceCtorEq, Nat.add_zero, Nat.zero_add]
  | true =>
    obtain ⟨c, hc, rfl⟩ := ay_w_iv (by omega) hv
    have hmn := r1.2.1 (6 + c) (by omega)
    have hmn3 := hmn.2
    have h37 : M 3 (6 + c) 7 = ay_i (ap_mn (ag_pr M) (6 + c)) := by rw [(r2.1 (6 + c) (by omega)).2]; exact hmn.1
    have h33 : M 33 0 (6 + c) = ay_i (ap_mn (ag_pr M) (6 + c)) := by rw [← hmn.1, ag_pr_at (by omega) (by omega)]
    by_cases h0 : ap_mn (ag_pr M) (6 + c) = 0
    · rw [h0] at h37 h33
      generalize hM0 : ax_u3 (ax_u3 (ax_u3 (ax_u3 (ax_u3 M 18 0 2 (ay_i 1)) 18 0 7 (ay_i 0)) 18 0 8 (ay_i 0)) 18 0 9 (ay_n 1)) 18 0 4 (ay_i 0) = M0
      have h23 := am_23 (X := X) (e := e) (gb := gb) (o := o) (M := M0) (k := 0) (v := ay_i (6 + c)) (by omega)
      generalize hM1 : ax_u3 (ax_r3 (ax_u3 (ax_u3 (ax_u3 M0 22 0 1 (ay_i (6 + c))) 22 0 2 (ay_i 0)) 22 0 3 (ay_n 1)) 23 0 (fun j => if j < 8 then ay_n 1 else M0 23 0 j)) 18 0 3 (ay_i 1) = M1
      have f1 : ∀ f i j, ¬ (18 ≤ f ∧ f ≤ 23) → M1 f i j = M f i j := by
        intro f i j a
        rw [← hM1, ← hM0]; simp only [ay_r3e, ax_u3]
        repeat rw [if_neg (by omega)]
      generalize hM2 : ax_u3 (ax_u3 (ax_u3 (ax_u3 (ax_u3 (ax_u3 (ax_u3 M1 24 0 0 (ay_i 0)) 24 0 26 (ay_i 1)) 24 0 27 (ay_i 0)) 24 0 32 (ay_i 0)) 24 0 33 (ay_i 0)) 24 0 34 (ay_n 1)) 24 0 35 (ay_i 0) = M2
      have f2 : ∀ f i j, ¬ (f = 24 ∧ (j = 0 ∨ j = 26 ∨ j = 27 ∨ (32 ≤ j ∧ j ≤ 35))) → M2 f i j = M1 f i j := by
        intro f i j a
        rw [← hM2]; simp only [ax_u3]
        repeat rw [if_neg (by omega)]
      have h124 := am_124 (X := X) (e := e) (gb := gb) (o := o) (M := M2) (mk := ay_n 1) (b := 6 + c) (d := 0) (z := 0) (n := 0) (by omega) (by omega) (by omega) (by omega) (by rw [← hM2]; simp [ax_u3]) (by rw [f2 _ _ _ (by omega), f1 _ _ _ (by omega)]; exact h33)
      have h331 : M1 33 0 (6 + c) = ay_i 0 := by rw [f1 _ _ _ (by omega)]; exact h33
      refine ⟨0, e, gb, M1, ab_o2 M2 0 (6 + c) 0 0 (ay_n 1), o, 0, ?_, ?_, ?_, by omega, (fun _ h => by cases h), by omega, ?_⟩
      · simp (disch := first | omega | assumption | exact ay_z1b _ | exact ay_z10 | exact ay_z11) only [ae_9, af_9_0, af_9_1, af_9_2, af_9_5, af_9_8, af_9_9, af_9_10, af_9_11, af_9_12, af_9_13, af_9_14, af_9_15, ae_85, af_85_0, af_85_1, af_85_3, af_85_6, af_85_9, af_85_10, af_85_13, af_85_14, af_85_17, af_85_20, af_85_23, af_85_24, af_85_27, af_85_28, af_85_31, af_85_32, af_85_35, af_85_36, af_85_39, ae_54, af_54_0, af_54_1, af_54_4, af_54_6, af_54_7, af_54_8, af_54_9, ae_43, af_43_0, af_43_1, af_43_2, af_43_5, af_43_6, af_43_7, af_43_10, af_43_11, af_43_12, af_43_15, af_43_16, af_43_17, af_43_20, af_43_21, af_43_22, af_43_25, af_43_26, af_43_29, af_43_30, af_43_31, af_43_33, af_43_34, af_43_35, af_43_38, af_43_39, af_43_40, af_43_43, am_71, hv, ay_bt, am_72t, h37, am_75t, hM0, h23, hM1, ay_cl_v, ay_cl_s, ay_i_add, ay_i_mul, ay_i_eq, ay_i_lt, ay_b0, ay_b1, ay_ni, ay_in, ay_nn, ay_nl, ay_ln, if_true, if_false, ↓reduceIte, Nat.reduceAdd, Nat.reduceMul, Nat.reduceEqDiff, Nat.reduceLT, Nat.not_lt_zero, Bool.true_eq_false, Bool.false_eq_true, reduceCtorEq, Nat.add_zero, Nat.zero_add]
      · simp (disch := first | omega | assumption | exact ay_z1b _ | exact ay_z10 | exact ay_z11) only [ae_123, af_123_0, af_123_1, af_123_2, af_123_3, af_123_6, af_123_7, af_123_8, af_123_9, af_123_10, af_123_13, af_123_14, af_123_17, af_123_19, af_123_20, af_123_21, af_123_22, af_123_25, af_123_26, af_123_29, af_123_30, af_123_31, af_123_34, af_123_37, af_123_38, af_123_39, af_123_40, af_123_43, af_123_44, af_123_45, af_123_48, af_123_49, af_123_50, af_123_53, af_123_54, af_123_55, af_123_58, af_123_59, af_123_60, af_123_63, af_123_64, af_123_65, af_123_68, af_123_69, af_123_71, af_123_72, af_123_73, af_123_74, af_123_75, af_123_78, hv, ay_bt, am_95 (show 5 < 100000 by omega), h331, am_96d, hM2, h124, ay_cl_v, ay_cl_s, ay_i_add, ay_i_mul, ay_i_eq, ay_i_lt, ay_b0, ay_b1, ay_ni, ay_in, ay_nn, ay_nl, ay_ln, if_true, if_false, ↓reduceIte, Nat.reduceAdd, Nat.reduceMul, Nat.reduceEqDiff, Nat.reduceLT, Nat.not_lt_zero, Bool.true_eq_false, Bool.false_eq_true, reduceCtorEq, Nat.add_zero, Nat.zero_add]
      · have : ab_o2 M2 0 (6 + c) 0 0 (ay_n 1) 24 0 0 = M2 24 0 0 := by simp [ab_o2]
        rw [this, ← hM2]; simp [ax_u3]
      · generalize hM3 : ab_o2 M2 0 (6 + c) 0 0 (ay_n 1) = M3
        have f3 : ∀ f i j, ¬ (58 ≤ f ∧ f ≤ 61) → ¬ (f = 24 ∧ i = 0 ∧ j = 27) → M3 f i j = M2 f i j := by
          intro f i j a1 a2
          rw [← hM3]; simp only [ab_o2]
          repeat rw [if_neg (by omega)]
        have g1 : ∀ f i j, 18 ≤ f → f ≤ 23 → M3 f i j = M1 f i j := fun f i j a1 a2 => by rw [f3 f i j (by omega) (by omega), f2 f i j (by omega)]
        have e2 : M3 18 0 2 = ay_i 1 := by rw [g1 _ _ _ (by omega) (by omega), ← hM1, ← hM0]; simp [ay_r3e, ax_u3]
        have e3 : M3 18 0 3 = ay_i 1 := by rw [g1 _ _ _ (by omega) (by omega), ← hM1]; simp [ax_u3]
        have e4 : M3 18 0 4 = ay_i 0 := by rw [g1 _ _ _ (by omega) (by omega), ← hM1, ← hM0]; simp [ay_r3e, ax_u3]
        have e7 : M3 18 0 7 = ay_i 0 := by rw [g1 _ _ _ (by omega) (by omega), ← hM1, ← hM0]; simp [ay_r3e, ax_u3]
        have e8 : M3 18 0 8 = ay_i 0 := by rw [g1 _ _ _ (by omega) (by omega), ← hM1, ← hM0]; simp [ay_r3e, ax_u3]
        have e9 : M3 18 0 9 = ay_n 1 := by rw [g1 _ _ _ (by omega) (by omega), ← hM1, ← hM0]; simp [ay_r3e, ax_u3]
        have k1 : M3 22 0 1 = ay_i (6 + c) := by rw [g1 _ _ _ (by omega) (by omega), ← hM1]; simp [ay_r3e, ax_u3]
        have k2 : M3 22 0 2 = ay_i 0 := by rw [g1 _ _ _ (by omega) (by omega), ← hM1]; simp [ay_r3e, ax_u3]
        have k3 : M3 22 0 3 = ay_n 1 := by rw [g1 _ _ _ (by omega) (by omega), ← hM1]; simp [ay_r3e, ax_u3]
        have kl : ∀ l, l < 8 → M3 23 0 l = ay_n 1 := by intro l hl; rw [g1 _ _ _ (by omega) (by omega), ← hM1]; simp [ay_r3e, ax_u3, hl]
        have u26 : M3 24 0 26 = ay_i 1 := by rw [f3 _ _ _ (by omega) (by omega), ← hM2]; simp [ax_u3]
        have u27 : M3 24 0 27 = ay_i 1 := by rw [← hM3]; simp [ab_o2]
        have u32 : M3 24 0 32 = ay_i 0 := by rw [f3 _ _ _ (by omega) (by omega), ← hM2]; simp [ax_u3]
        have u33 : M3 24 0 33 = ay_i 0 := by rw [f3 _ _ _ (by omega) (by omega), ← hM2]; simp [ax_u3]
        have u34 : M3 24 0 34 = ay_n 1 := by rw [f3 _ _ _ (by omega) (by omega), ← hM2]; simp [ax_u3]
        have u35 : M3 24 0 35 = ay_i 0 := by rw [f3 _ _ _ (by omega) (by omega), ← hM2]; simp [ax_u3]
        have v58 : M3 58 0 0 = ay_i (6 + c) := by rw [← hM3]; simp [ab_o2]
        have v59 : M3 59 0 0 = ay_i 0 := by rw [← hM3]; simp [ab_o2]
        have v61 : M3 61 0 0 = ay_n 1 := by rw [← hM3]; simp [ab_o2]
        have v60 : ∀ l, l < 8 → M3 60 0 (8 * 0 + l) = ay_n 1 := by
          intro l hl
          have h6 : ¬ 6 + c < 6 := by omega
          rw [← hM3]; simp [ab_o2, hl, h6]
        refine ai_R_m hR (fun f i j a1 a2 a3 a4 => by rw [f3 f i j a3 (by omega), f2 f i j a2, f1 f i j a1]) ⟨true, e2, u26, fun _ => ⟨by rw [e8, u33], 1, 0, 0, ai_m_of ⟨by omega, by omega, e3, e4, fun k hk => ?_, fun i z hi => by omega⟩ ⟨u27, u35, by rw [u34, e9], fun k hk => ?_, fun i hi => by omega⟩ (.inl rfl) u32 (by rw [e7]; rfl)⟩⟩
        · have : k = 0 := by omega
          subst this
          exact ⟨⟨6 + c, by omega, k1, fun h => by omega⟩, .inl k3, fun l hl => .inl (kl l hl)⟩
        · have : k = 0 := by omega
          subst this
          exact ⟨by rw [v58, k1], by rw [if_pos rfl, v59, k2], by rw [v61, k3], fun l hl => by rw [v60 l hl, kl l hl]⟩
    · refine ⟨2, e + 1, gb, M, ax_u3 M 24 0 0 (ay_i 2), o, 0, ?_, ?_, by simp [ax_u3], by omega, (fun h => by omega), by omega, ai_R_t hR⟩
      · simp (disch := first | omega | assumption | exact ay_z1b _ | exact ay_z10 | exact ay_z11) only [ae_9, af_9_0, af_9_1, af_9_2, af_9_5, af_9_8, af_9_9, af_9_10, af_9_11, af_9_12, af_9_13, af_9_14, af_9_15, ae_85, af_85_0, af_85_1, af_85_3, af_85_6, af_85_9, af_85_10, af_85_13, af_85_14, af_85_17, af_85_20, af_85_23, af_85_24, af_85_27, af_85_28, af_85_31, af_85_32, af_85_35, af_85_36, af_85_39, ae_54, af_54_0, af_54_1, af_54_4, af_54_6, af_54_7, af_54_8, af_54_9, am_71, hv, ay_bt, am_72t, h37, h0, am_75f, ah_85, ah_9_2, ay_cl_v, ay_cl_s, ay_i_add, ay_i_mul, ay_i_eq, ay_i_lt, ay_b0, ay_b1, ay_ni, ay_in, ay_nn, ay_nl, ay_ln, if_true, if_false, ↓reduceIte, Nat.reduceAdd, Nat.reduceMul, Nat.reduceEqDiff, Nat.reduceLT, Nat.not_lt_zero, Bool.true_eq_false, Bool.false_eq_true, reduceCtorEq, Nat.add_zero, Nat.zero_add]
      · simp (disch := first | omega | assumption | exact ay_z1b _ | exact ay_z10 | exact ay_z11) only [ae_123, af_123_0, af_123_1, af_123_2, af_123_3, af_123_6, af_123_7, af_123_8, af_123_9, af_123_10, af_123_13, af_123_14, af_123_17, af_123_19, af_123_20, af_123_21, af_123_22, af_123_25, af_123_26, af_123_29, af_123_30, af_123_31, af_123_34, af_123_37, af_123_38, af_123_39, af_123_40, af_123_43, af_123_44, af_123_45, af_123_48, af_123_49, af_123_50, af_123_53, af_123_54, af_123_55, af_123_58, af_123_59, af_123_60, af_123_63, af_123_64, af_123_65, af_123_68, af_123_69, af_123_71, af_123_72, af_123_73, af_123_74, af_123_75, af_123_78, hv, ay_bt, am_95 (show 5 < 100000 by omega), h33, h0, am_96b, ay_cl_v, ay_cl_s, ay_i_add, ay_i_mul, ay_i_eq, ay_i_lt, ay_b0, ay_b1, ay_ni, ay_in, ay_nn, ay_nl, ay_ln, if_true, if_false, ↓reduceIte, Nat.reduceAdd, Nat.reduceMul, Nat.reduceEqDiff, Nat.reduceLT, Nat.not_lt_zero, Bool.true_eq_false, Bool.false_eq_true, reduceCtorEq, Nat.add_zero, Nat.zero_add]
end AmS
