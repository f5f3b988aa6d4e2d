/-! returns, parameter, add, clear -/
theorem ac_p_ch {M M' P P' : ax_M} (h : ac_p M P) (c1 : ∀ b, b < 12 → M' 3 b 6 = P' 40 0 b ∧ M' 3 b 7 = P' 33 0 b)
    (c2 : ((∀ f i j, 4 ≤ f → f ≤ 7 → M' f i j = M f i j) ∧ (∀ f j, 41 ≤ f → f ≤ 44 → P' f 0 j = P f 0 j)) ∨ (∀ b p, b < 12 → p < 40 → M' 4 b p = P' 41 0 (40 * b + p) ∧ M' 5 b p = P' 42 0 (40 * b + p) ∧ M' 6 b p = P' 43 0 (40 * b + p) ∧ M' 7 b p = P' 44 0 (40 * b + p)))
    (c3 : (∀ i j, i < 24 → M' 10 i j = M 10 i j) ∧ (∀ f j, 31 ≤ f → f ≤ 32 → P' f 0 j = P f 0 j))
    (c4 : ((∀ i j, 24 ≤ i → i < 60 → M' 10 i j = M 10 i j) ∧ (∀ f j, 33 ≤ f → f ≤ 36 → P' f 0 j = P f 0 j)) ∨ (∀ b k, b < 12 → k < ap_mn P' b → M' 10 (24 + 3 * b + k) 0 = P' 34 0 (3 * b + k) ∧ M' 10 (24 + 3 * b + k) 1 = ay_b (ap_nu P' (3 * b + k)) ∧ M' 10 (24 + 3 * b + k) 2 = P' 36 0 (3 * b + k)))
    (c5 : ((∀ i j, 66 ≤ i → M' 10 i j = M 10 i j) ∧ (∀ f j, 37 ≤ f → f ≤ 39 → P' f 0 j = P f 0 j)) ∨ (∀ f, f < 6 → M' 10 (60 + (6 + f)) 0 = P' 37 0 f ∧ M' 10 (60 + (6 + f)) 1 = ay_b (!ap_rs P' f) ∧ M' 10 (60 + (6 + f)) 2 = P' 39 0 f)) (hmn : ∀ b, b < 12 → ap_mn P b ≤ 3) : ac_p M' P' := by
  obtain ⟨s1, s2, s3, s4, s5⟩ := h
  refine ⟨c1, ?_, ?_, ?_, ?_⟩
  · rcases c2 with ⟨a1, a2⟩ | c
    · intro b p hb hp
      rw [a1 4 b p (by omega) (by omega), a1 5 b p (by omega) (by omega), a1 6 b p (by omega) (by omega), a1 7 b p (by omega) (by omega), a2 41 _ (by omega) (by omega), a2 42 _ (by omega) (by omega), a2 43 _ (by omega) (by omega), a2 44 _ (by omega) (by omega)]
      exact s2 b p hb hp
    · exact c
  · intro f hf
    have := s3 f hf
    unfold ap_su at this ⊢
    rw [c3.1 f 0 hf, c3.1 f 1 hf, c3.1 f 2 hf, c3.2 31 f (by omega) (by omega), c3.2 32 f (by omega) (by omega)]; exact this
  · rcases c4 with ⟨a1, a2⟩ | c
    · intro b k hb hk
      have hk' : k < ap_mn P b := by unfold ap_mn at hk ⊢; rw [a2 33 b (by omega) (by omega)] at hk; exact hk
      have h3 := hmn b hb
      have := s4 b k hb hk'
      unfold ap_nu at this ⊢
      rw [a1 _ 0 (by omega) (by omega), a1 _ 1 (by omega) (by omega), a1 _ 2 (by omega) (by omega), a2 34 _ (by omega) (by omega), a2 35 _ (by omega) (by omega), a2 36 _ (by omega) (by omega)]; exact this
    · exact c
  · rcases c5 with ⟨a1, a2⟩ | c
    · intro f hf
      have := s5 f hf
      unfold ap_rs at this ⊢
      rw [a1 _ 0 (by omega), a1 _ 1 (by omega), a1 _ 2 (by omega), a2 37 _ (by omega) (by omega), a2 38 _ (by omega) (by omega), a2 39 _ (by omega) (by omega)]; exact this
    · exact c
theorem ap_wi_ext {P P' : ax_M} {b p : Nat} (h : ap_wi P b p) (h1 : P' 41 0 (40 * b + p) = P 41 0 (40 * b + p)) (h2 : P' 42 0 (40 * b + p) = P 42 0 (40 * b + p)) (h3 : P' 43 0 (40 * b + p) = P 43 0 (40 * b + p)) (h4 : P' 44 0 (40 * b + p) = P 44 0 (40 * b + p)) : ap_wi P' b p := by
  unfold ap_wi ap_o ap_x ap_y ap_z at h ⊢
  rw [h1, h2, h3, h4]; exact h
section AmF2
variable {X : Nat × (Nat → Int32)} {e gb : Nat} {M : ax_M} {o : Int64} {h : ax_H}
theorem aj_returns (hR : ai_R M) (he : e < 700000) {g c s : Int32} {nb : Bool} : ai_J (ax_fn 3 0 (ax_entry 3 [.ref (ax_a 0 0), .int g, .int c, .int (ay_b nb), .int s]) [] (ax_hp X e gb M o)) (fun e' gb' M1 o1 => ax_fn 100 0 (ax_entry 100 [.ref (ax_a 24 0), .int g, .int c, .int (ay_b nb), .int s]) [] (ax_hp X e' gb' M1 o1)) X e (fun _ => none) false o := by
  by_cases hv : ay_w g (ay_i 6) = true ∧ ay_w c (ay_i 6) = true ∧ ay_w s (ay_i 3) = true
  · obtain ⟨h1, h2, h3⟩ := hv
    obtain ⟨g, hg, rfl, -⟩ := ay_w_inv (by omega) h1
    obtain ⟨c, hc, rfl, -⟩ := ay_w_inv (by omega) h2
    obtain ⟨s, hs, rfl, -⟩ := ay_w_inv (by omega) h3
    have h21 := am_21 (X := X) (e := e) (gb := gb) (M := M) (o := o) (d := 60 + (6 + g)) (a := ay_i c) (s := ay_i s) (c := nb) (by omega)
    generalize hD : ax_u3 (ax_u3 (ax_u3 M 10 (60 + (6 + g)) 0 (ay_i c)) 10 (60 + (6 + g)) 1 (ay_b nb)) 10 (60 + (6 + g)) 2 (ay_i s) = D at h21
    refine ⟨0, e, gb, ai_fo D, ax_u3 (ax_u3 (ax_u3 (ax_u3 (ax_u3 (ai_fo D) 24 0 0 (ay_i 0)) 37 0 g (ay_i c)) 38 0 g (ay_b (!nb))) 39 0 g (ay_i s)) 24 0 26 (ay_i 0), o, 0, ?_, ?_, ?_, by omega, (fun _ h => by cases h), by omega, ?_⟩
    · simp (disch := first | omega | assumption | exact ay_z1b _ | exact ay_z10 | exact ay_z11) only [ae_3, af_3_0, af_3_1, af_3_2, af_3_3, af_3_4, af_3_6, af_3_9, af_3_12, af_3_14, af_3_15, af_3_16, af_3_17, ae_76, af_76_0, af_76_1, af_76_3, af_76_6, af_76_9, af_76_10, af_76_12, af_76_15, af_76_18, af_76_20, af_76_21, af_76_24, af_76_27, af_76_28, af_76_31, af_76_32, af_76_35, af_76_36, af_76_39, af_76_40, af_76_43, af_76_46, af_76_47, af_76_48, af_76_50, af_76_53, af_76_54, af_76_57, am_71, h1, h2, h3, am_72t, am_54 hg, h21, am_73, ay_cl_v, ay_cl_s, ay_i_add, ay_i_mul, ay_i_eq, ay_i_lt, ay_b0, ay_b1, ay_ni, ay_in, ay_nn, ay_nl, ay_ln, if_true, if_false, ↓reduceIte, Nat.reduceAdd, Nat.reduceMul, Nat.reduceEqDiff, Nat.reduceLT, Nat.not_lt_zero, Bool.true_eq_false, Bool.false_eq_true, reduceCtorEq, Nat.add_zero, Nat.zero_add]
    · cases nb <;> simp (disch := first | omega | assumption | exact ay_z1b _ | exact ay_z10 | exact ay_z11) only [ae_100, af_100_0, af_100_1, af_100_2, af_100_3, af_100_4, af_100_7, af_100_10, af_100_11, af_100_14, af_100_17, af_100_19, af_100_22, af_100_25, af_100_26, af_100_29, af_100_30, af_100_31, af_100_32, af_100_35, af_100_38, af_100_39, af_100_42, af_100_43, af_100_44, af_100_45, af_100_46, af_100_49, af_100_50, af_100_51, af_100_54, af_100_55, af_100_58, af_100_59, af_100_60, af_100_61, af_100_64, af_100_65, af_100_67, af_100_68, af_100_69, af_100_70, af_100_73, am_94, am_99, am_95 (show 5 < 100000 by omega), h1, h2, h3, am_96d, ay_u3e, false_and, and_false, true_and, and_true, and_self, Bool.not_true, Bool.not_false, ay_bt, ay_bf, ay_cl_v, ay_cl_s, ay_i_add, ay_i_mul, ay_i_eq, ay_i_lt, ay_b0, ay_b1, ay_ni, ay_in, ay_nn, ay_nl, ay_ln, if_true, if_false, ↓reduceIte, Nat.reduceAdd, Nat.reduceMul, Nat.reduceEqDiff, Nat.reduceLT, Nat.not_lt_zero, Bool.true_eq_false, Bool.false_eq_true, reduceCtorEq, Nat.add_zero, Nat.zero_add]
    · simp [ax_u3]
    · obtain ⟨r1, r2, -, -⟩ := hR
      have hDc : ∀ f i j, ¬ (f = 10 ∧ i = 60 + (6 + g)) → D f i j = M f i j := by
        intro f i j hf; rw [← hD]; simp only [ax_u3]; grind
      have hD0 : D 10 (60 + (6 + g)) 0 = ay_i c := by rw [← hD]; simp [ax_u3]
      have hD1 : D 10 (60 + (6 + g)) 1 = ay_b nb := by rw [← hD]; simp [ax_u3]
      have hD2 : D 10 (60 + (6 + g)) 2 = ay_i s := by rw [← hD]; simp [ax_u3]
      generalize hM2 : ax_u3 (ax_u3 (ax_u3 (ax_u3 (ax_u3 (ai_fo D) 24 0 0 (ay_i 0)) 37 0 g (ay_i c)) 38 0 g (ay_b (!nb))) 39 0 g (ay_i s)) 24 0 26 (ay_i 0) = M2
      have m37 : M2 37 0 g = ay_i c := by rw [← hM2]; simp [ax_u3]
      have m38 : M2 38 0 g = ay_b (!nb) := by rw [← hM2]; simp [ax_u3]
      have m39 : M2 39 0 g = ay_i s := by rw [← hM2]; simp [ax_u3]
      have mF : ∀ f i j, ¬ (37 ≤ f ∧ f ≤ 39 ∧ j = g) → ¬ (f = 24) → M2 f i j = ai_fo D f i j := by
        intro f i j h1 h2; rw [← hM2]; simp only [ax_u3]; grind
      have mO : ∀ f i j, ¬ (37 ≤ f ∧ f ≤ 39 ∧ j = g) → ¬ (f = 24) → ¬ f = 16 → ¬ f = 9 → ¬ f = 18 → ¬ (f = 10 ∧ i = 60 + (6 + g)) → M2 f i j = M f i j := by
        intro f i j q1 q2 q3 q4 q5 q6
        rw [mF f i j q1 q2, ai_fo_ne q3 (by omega) (by omega), hDc f i j q6]
      have mP : ∀ f j, 31 ≤ f → f ≤ 44 → ¬ (37 ≤ f ∧ f ≤ 39 ∧ j = g) → ag_pr M2 f 0 j = ag_pr M f 0 j := by
        intro f j q1 q2 q3
        rw [ag_pr_at q1 q2, ag_pr_at q1 q2]; exact mO f 0 j q3 (by omega) (by omega) (by omega) (by omega) (by omega)
      have p37 : ag_pr M2 37 0 g = ay_i c := by rw [ag_pr_at (by omega) (by omega)]; exact m37
      have p38 : ag_pr M2 38 0 g = ay_b (!nb) := by rw [ag_pr_at (by omega) (by omega)]; exact m38
      have p39 : ag_pr M2 39 0 g = ay_i s := by rw [ag_pr_at (by omega) (by omega)]; exact m39
      have hrs : ap_rs (ag_pr M2) g = !nb := ap_rs_b p38
      refine ai_R0 ?_ ?_ ?_ ?_ ?_ ?_
      · refine ap_wf_ch r1 (.inl (fun b hb => mP _ _ (by omega) (by omega) (by omega))) (.inl (fun b hb => mP _ _ (by omega) (by omega) (by omega))) (.inl (fun f j q1 q2 => mP _ _ (by omega) (by omega) (by omega))) (.inl (fun f j q1 q2 => mP _ _ (by omega) (by omega) (by omega))) (.inl (fun f j q1 q2 => mP _ _ (by omega) (by omega) (by omega))) (.inr (fun f hf => ?_))
        by_cases hq : f = g
        · subst hq; rw [hrs, p37, p38, p39]; exact ⟨⟨c, hc, rfl⟩, rfl, ⟨s, hs, rfl⟩⟩
        · have := r1.2.2.2.2.2 f hf
          unfold ap_rs at this ⊢
          rw [mP 37 f (by omega) (by omega) (by omega), mP 38 f (by omega) (by omega) (by omega), mP 39 f (by omega) (by omega) (by omega)]; exact this
      · refine ac_p_ch r2 (fun b hb => ?_) (.inl ⟨fun f i j q1 q2 => mO _ _ _ (by omega) (by omega) (by omega) (by omega) (by omega) (by omega), fun f j q1 q2 => mP _ _ (by omega) (by omega) (by omega)⟩) ⟨fun i j q1 => mO _ _ _ (by omega) (by omega) (by omega) (by omega) (by omega) (by omega), fun f j q1 q2 => mP _ _ (by omega) (by omega) (by omega)⟩ (.inl ⟨fun i j q1 q2 => mO _ _ _ (by omega) (by omega) (by omega) (by omega) (by omega) (by omega), fun f j q1 q2 => mP _ _ (by omega) (by omega) (by omega)⟩) (.inr (fun f hf => ?_)) (fun b hb => (r1.2.1 b hb).2)
        · rw [mO 3 b 6 (by omega) (by omega) (by omega) (by omega) (by omega) (by omega), mO 3 b 7 (by omega) (by omega) (by omega) (by omega) (by omega) (by omega), mP 40 b (by omega) (by omega) (by omega), mP 33 b (by omega) (by omega) (by omega)]; exact r2.1 b hb
        · by_cases hq : f = g
          · subst hq
            rw [mF 10 _ 0 (by omega) (by omega), mF 10 _ 1 (by omega) (by omega), mF 10 _ 2 (by omega) (by omega), ai_fo_ne (by omega) (by omega) (by omega), ai_fo_ne (by omega) (by omega) (by omega), ai_fo_ne (by omega) (by omega) (by omega), hrs, p37, p39, Bool.not_not]
            exact ⟨hD0, hD1, hD2⟩
          · have := r2.2.2.2.2 f hf
            unfold ap_rs at this ⊢
            rw [mO 10 _ 0 (by omega) (by omega) (by omega) (by omega) (by omega) (by omega), mO 10 _ 1 (by omega) (by omega) (by omega) (by omega) (by omega) (by omega), mO 10 _ 2 (by omega) (by omega) (by omega) (by omega) (by omega) (by omega), mP 37 _ (by omega) (by omega) (by omega), mP 38 _ (by omega) (by omega) (by omega), mP 39 _ (by omega) (by omega) (by omega)]; exact this
      · intro b hb; rw [mF _ _ _ (by omega) (by omega)]; exact ai_fo_16 hb
      · rw [mF _ _ _ (by omega) (by omega)]; exact ai_fo_9
      · rw [mF _ _ _ (by omega) (by omega)]; exact ai_fo_18
      · rw [← hM2]; simp [ax_u3]
  · refine ⟨1, e + 1, gb, M, ax_u3 M 24 0 0 (ay_i 1), o, 0, ?_, ?_, by simp [ax_u3], by omega, (fun h => by omega), by omega, ai_R_t hR⟩
    · cases h1 : ay_w g (ay_i 6) <;> cases h2 : ay_w c (ay_i 6) <;> cases h3 : ay_w s (ay_i 3) <;> simp only [h1, h2, h3, and_self, not_true, Bool.false_eq_true, false_and, and_false, not_false_eq_true] at hv <;> simp (disch := first | omega | assumption | exact ay_z1b _ | exact ay_z10 | exact ay_z11) only [ae_3, af_3_0, af_3_1, af_3_2, af_3_3, af_3_4, af_3_6, af_3_9, af_3_12, af_3_14, af_3_15, af_3_16, af_3_17, ae_76, af_76_0, af_76_1, af_76_3, af_76_6, af_76_9, af_76_10, af_76_12, af_76_15, af_76_18, af_76_20, af_76_21, af_76_24, af_76_27, af_76_28, af_76_31, af_76_32, af_76_35, af_76_36, af_76_39, af_76_40, af_76_43, af_76_46, af_76_47, af_76_48, af_76_50, af_76_53, af_76_54, af_76_57, am_71, h1, h2, h3, am_72f, ah_76, ah_3_0, ay_cl_v, ay_cl_s, ay_i_add, ay_i_mul, ay_i_eq, ay_i_lt, ay_b0, ay_b1, ay_ni, ay_in, ay_nn, ay_nl, ay_ln, if_true, if_false, ↓reduceIte, Nat.reduceAdd, Nat.reduceMul, Nat.reduceEqDiff, Nat.reduceLT, Nat.not_lt_zero, Bool.true_eq_false, Bool.false_eq_true, reduceCtorEq, Nat.add_zero, Nat.zero_add]
    · cases h1 : ay_w g (ay_i 6) <;> cases h2 : ay_w c (ay_i 6) <;> cases h3 : ay_w s (ay_i 3) <;> simp only [h1, h2, h3, and_self, not_true, Bool.false_eq_true, false_and, and_false, not_false_eq_true] at hv <;> simp (disch := first | omega | assumption | exact ay_z1b _ | exact ay_z10 | exact ay_z11) only [ae_100, af_100_0, af_100_1, af_100_2, af_100_3, af_100_4, af_100_7, af_100_10, af_100_11, af_100_14, af_100_17, af_100_19, af_100_22, af_100_25, af_100_26, af_100_29, af_100_30, af_100_31, af_100_32, af_100_35, af_100_38, af_100_39, af_100_42, af_100_43, af_100_44, af_100_45, af_100_46, af_100_49, af_100_50, af_100_51, af_100_54, af_100_55, af_100_58, af_100_59, af_100_60, af_100_61, af_100_64, af_100_65, af_100_67, af_100_68, af_100_69, af_100_70, af_100_73, am_94, am_99, am_95 (show 5 < 100000 by omega), h1, h2, h3, am_96a, ay_u3e, false_and, and_false, true_and, and_true, and_self, ay_cl_v, ay_cl_s, ay_i_add, ay_i_mul, ay_i_eq, ay_i_lt, ay_b0, ay_b1, ay_ni, ay_in, ay_nn, ay_nl, ay_ln, if_true, if_false, ↓reduceIte, Nat.reduceAdd, Nat.reduceMul, Nat.reduceEqDiff, Nat.reduceLT, Nat.not_lt_zero, Bool.true_eq_false, Bool.false_eq_true, reduceCtorEq, Nat.add_zero, Nat.zero_add]
theorem aj_clear (hR : ai_R M) (he : e < 700000) {b : Int32} : ai_J (ax_fn 5 0 (ax_entry 5 [.ref (ax_a 0 0), .int b, .ref (ax_a 68 0)]) [] (ax_hp X e gb M o)) (fun e' gb' M1 o1 => ax_fn 104 0 (ax_entry 104 [.ref (ax_a 24 0), .int b]) [] (ax_hp X e' gb' M1 o1)) X e (fun v => some (.int v)) true o := by
  cases hv : ay_w b (ay_i 12) with
  | true =>
    obtain ⟨b, hb, rfl, -⟩ := ay_w_inv (by omega) hv
    obtain ⟨r1, r2, -, -⟩ := hR
    have hsz := r1.1 b hb
    have hs3 : M 3 b 6 = ay_i (ap_sz (ag_pr M) b) := by rw [(r2.1 b hb).1]; exact hsz.1
    have h21 := am_21 (X := X) (e := e) (gb := gb) (M := ax_u3 (ax_u3 M 3 b 6 (ay_i 0)) 3 b 7 (ay_i 0)) (o := o) (d := 60 + b) (a := ay_i 0) (s := ay_i 0) (c := true) (by omega)
    rw [ay_bt] at h21
    generalize hD : ax_u3 (ax_u3 (ax_u3 (ax_u3 (ax_u3 M 3 b 6 (ay_i 0)) 3 b 7 (ay_i 0)) 10 (60 + b) 0 (ay_i 0)) 10 (60 + b) 1 (ay_i 1)) 10 (60 + b) 2 (ay_i 0) = D at h21
    have hDc : ∀ f i j, ¬ (f = 10 ∧ i = 60 + b) → ¬ (f = 3 ∧ i = b ∧ (j = 6 ∨ j = 7)) → D f i j = M f i j := by
      intro f i j h1 h2; rw [← hD]; simp only [ax_u3]; grind
    have hD0 : D 10 (60 + b) 0 = ay_i 0 := by rw [← hD]; simp [ax_u3]
    have hD1 : D 10 (60 + b) 1 = ay_i 1 := by rw [← hD]; simp [ax_u3]
    have hD2 : D 10 (60 + b) 2 = ay_i 0 := by rw [← hD]; simp [ax_u3]
    have hD6 : D 3 b 6 = ay_i 0 := by rw [← hD]; simp [ax_u3]
    have hD7 : D 3 b 7 = ay_i 0 := by rw [← hD]; simp [ax_u3]
    have hm40 : ai_fo D 40 0 b = ay_i (ap_sz (ag_pr M) b) := by
      rw [ai_fo_ne (by omega) (by omega) (by omega), hDc _ _ _ (by omega) (by omega), ← hsz.1, ag_pr_at (by omega) (by omega)]
    have fin : ∀ M2 : ax_M, (∀ f i j, ¬ (f = 40 ∧ j = b) → ¬ (f = 33 ∧ j = b) → ¬ (37 ≤ f ∧ f ≤ 39 ∧ 6 ≤ b ∧ j = b - 6) → ¬ f = 24 → M2 f i j = ai_fo D f i j) → M2 40 0 b = ay_i 0 → M2 33 0 b = ay_i 0 → (6 ≤ b → M2 37 0 (b - 6) = ay_i 0 ∧ M2 38 0 (b - 6) = ay_i 0 ∧ M2 39 0 (b - 6) = ay_i 0) → M2 24 0 26 = ay_i 0 → ai_R M2 := by
      intro M2 mF m40 m33 m37 m26
      have mO : ∀ f i j, ¬ (f = 40 ∧ j = b) → ¬ (f = 33 ∧ j = b) → ¬ (37 ≤ f ∧ f ≤ 39 ∧ 6 ≤ b ∧ j = b - 6) → ¬ f = 24 → ¬ f = 16 → ¬ f = 9 → ¬ f = 18 → ¬ (f = 10 ∧ i = 60 + b) → ¬ (f = 3 ∧ i = b ∧ (j = 6 ∨ j = 7)) → M2 f i j = M f i j := by
        intro f i j q1 q2 q3 q4 q5 q6 q7 q8 q9
        rw [mF f i j q1 q2 q3 q4, ai_fo_ne q5 (by omega) (by omega), hDc f i j q8 q9]
      have mP : ∀ f j, 31 ≤ f → f ≤ 44 → ¬ (f = 40 ∧ j = b) → ¬ (f = 33 ∧ j = b) → ¬ (37 ≤ f ∧ f ≤ 39 ∧ 6 ≤ b ∧ j = b - 6) → ag_pr M2 f 0 j = ag_pr M f 0 j := by
        intro f j q1 q2 q3 q4 q5
        rw [ag_pr_at q1 q2, ag_pr_at q1 q2]; exact mO f 0 j q3 q4 q5 (by omega) (by omega) (by omega) (by omega) (by omega) (by omega)
      have p40 : ag_pr M2 40 0 b = ay_i 0 := by rw [ag_pr_at (by omega) (by omega)]; exact m40
      have p33 : ag_pr M2 33 0 b = ay_i 0 := by rw [ag_pr_at (by omega) (by omega)]; exact m33
      have sz0 : ap_sz (ag_pr M2) b = 0 := by unfold ap_sz; rw [p40]; exact ay_i_ct (by omega)
      have mn0 : ap_mn (ag_pr M2) b = 0 := by unfold ap_mn; rw [p33]; exact ay_i_ct (by omega)
      have hsz' : ∀ c, c < 12 → c ≠ b → ap_sz (ag_pr M2) c = ap_sz (ag_pr M) c := fun c hc hcb => by unfold ap_sz; rw [mP 40 c (by omega) (by omega) (by omega) (by omega) (by omega)]
      have hmn' : ∀ c, c < 12 → c ≠ b → ap_mn (ag_pr M2) c = ap_mn (ag_pr M) c := fun c hc hcb => by unfold ap_mn; rw [mP 33 c (by omega) (by omega) (by omega) (by omega) (by omega)]
      refine ai_R0 ?_ ?_ ?_ ?_ ?_ m26
      · refine ap_wf_ch r1 (.inr (fun c hc => ?_)) (.inr (fun c hc => ?_)) (.inr (fun c p hc hp => ?_)) (.inl (fun f j q1 q2 => mP _ _ (by omega) (by omega) (by omega) (by omega) (by omega))) (.inl (fun f j q1 q2 => mP _ _ (by omega) (by omega) (by omega) (by omega) (by omega))) (.inr (fun f hf => ?_))
        · by_cases hcb : c = b
          · subst hcb; rw [sz0, p40]; exact ⟨rfl, by omega⟩
          · rw [hsz' c hc hcb, mP 40 c (by omega) (by omega) (by omega) (by omega) (by omega)]; exact r1.1 c hc
        · by_cases hcb : c = b
          · subst hcb; rw [mn0, p33]; exact ⟨rfl, by omega⟩
          · rw [hmn' c hc hcb, mP 33 c (by omega) (by omega) (by omega) (by omega) (by omega)]; exact r1.2.1 c hc
        · by_cases hcb : c = b
          · subst hcb; rw [sz0] at hp; omega
          · rw [hsz' c hc hcb] at hp
            exact ap_wi_ext (r1.2.2.1 c p hc hp) (mP _ _ (by omega) (by omega) (by omega) (by omega) (by omega)) (mP _ _ (by omega) (by omega) (by omega) (by omega) (by omega)) (mP _ _ (by omega) (by omega) (by omega) (by omega) (by omega)) (mP _ _ (by omega) (by omega) (by omega) (by omega) (by omega))
        · by_cases hfb : 6 ≤ b ∧ f = b - 6
          · obtain ⟨x1, x2, x3⟩ := m37 hfb.1
            have x38 : ag_pr M2 38 0 f = ay_b false := by rw [ag_pr_at (by omega) (by omega), hfb.2]; exact x2
            rw [ap_rs_b x38, x38, ag_pr_at (by omega) (by omega), ag_pr_at (by omega) (by omega), hfb.2, x1, x3]
            exact ⟨⟨0, by omega, rfl⟩, rfl, ⟨0, by omega, rfl⟩⟩
          · have := r1.2.2.2.2.2 f hf
            unfold ap_rs at this ⊢
            rw [mP 37 f (by omega) (by omega) (by omega) (by omega) (by omega), mP 38 f (by omega) (by omega) (by omega) (by omega) (by omega), mP 39 f (by omega) (by omega) (by omega) (by omega) (by omega)]; exact this
      · refine ac_p_ch r2 (fun c hc => ?_) (.inl ⟨fun f i j q1 q2 => mO _ _ _ (by omega) (by omega) (by omega) (by omega) (by omega) (by omega) (by omega) (by omega) (by omega), fun f j q1 q2 => mP _ _ (by omega) (by omega) (by omega) (by omega) (by omega)⟩) ⟨fun i j q1 => mO _ _ _ (by omega) (by omega) (by omega) (by omega) (by omega) (by omega) (by omega) (by omega) (by omega), fun f j q1 q2 => mP _ _ (by omega) (by omega) (by omega) (by omega) (by omega)⟩ (.inr (fun c k hc hk => ?_)) (.inr (fun f hf => ?_)) (fun b hb => (r1.2.1 b hb).2)
        · by_cases hcb : c = b
          · subst hcb
            rw [mF 3 c 6 (by omega) (by omega) (by omega) (by omega), mF 3 c 7 (by omega) (by omega) (by omega) (by omega), ai_fo_ne (by omega) (by omega) (by omega), ai_fo_ne (by omega) (by omega) (by omega), p40, p33]
            exact ⟨hD6, hD7⟩
          · rw [mO 3 c 6 (by omega) (by omega) (by omega) (by omega) (by omega) (by omega) (by omega) (by omega) (by omega), mO 3 c 7 (by omega) (by omega) (by omega) (by omega) (by omega) (by omega) (by omega) (by omega) (by omega), mP 40 c (by omega) (by omega) (by omega) (by omega) (by omega), mP 33 c (by omega) (by omega) (by omega) (by omega) (by omega)]; exact r2.1 c hc
        · by_cases hcb : c = b
          · subst hcb; rw [mn0] at hk; omega
          · rw [hmn' c hc hcb] at hk
            have h3 := (r1.2.1 c hc).2
            have := r2.2.2.2.1 c k hc hk
            unfold ap_nu at this ⊢
            rw [mO 10 _ 0 (by omega) (by omega) (by omega) (by omega) (by omega) (by omega) (by omega) (by omega) (by omega), mO 10 _ 1 (by omega) (by omega) (by omega) (by omega) (by omega) (by omega) (by omega) (by omega) (by omega), mO 10 _ 2 (by omega) (by omega) (by omega) (by omega) (by omega) (by omega) (by omega) (by omega) (by omega), mP 34 _ (by omega) (by omega) (by omega) (by omega) (by omega), mP 35 _ (by omega) (by omega) (by omega) (by omega) (by omega), mP 36 _ (by omega) (by omega) (by omega) (by omega) (by omega)]; exact this
        · by_cases hfb : 6 ≤ b ∧ f = b - 6
          · obtain ⟨x1, x2, x3⟩ := m37 hfb.1
            have hbf : 60 + (6 + f) = 60 + b := by omega
            have x38 : ag_pr M2 38 0 f = ay_b false := by rw [ag_pr_at (by omega) (by omega), hfb.2]; exact x2
            rw [ap_rs_b x38, ag_pr_at (by omega) (by omega), ag_pr_at (by omega) (by omega), hbf, hfb.2, x1, x3, mF 10 _ 0 (by omega) (by omega) (by omega) (by omega), mF 10 _ 1 (by omega) (by omega) (by omega) (by omega), mF 10 _ 2 (by omega) (by omega) (by omega) (by omega), ai_fo_ne (by omega) (by omega) (by omega), ai_fo_ne (by omega) (by omega) (by omega), ai_fo_ne (by omega) (by omega) (by omega)]
            exact ⟨hD0, hD1, hD2⟩
          · have := r2.2.2.2.2 f hf
            unfold ap_rs at this ⊢
            rw [mO 10 _ 0 (by omega) (by omega) (by omega) (by omega) (by omega) (by omega) (by omega) (by omega) (by omega), mO 10 _ 1 (by omega) (by omega) (by omega) (by omega) (by omega) (by omega) (by omega) (by omega) (by omega), mO 10 _ 2 (by omega) (by omega) (by omega) (by omega) (by omega) (by omega) (by omega) (by omega) (by omega), mP 37 _ (by omega) (by omega) (by omega) (by omega) (by omega), mP 38 _ (by omega) (by omega) (by omega) (by omega) (by omega), mP 39 _ (by omega) (by omega) (by omega) (by omega) (by omega)]; exact this
      · intro c hc; rw [mF _ _ _ (by omega) (by omega) (by omega) (by omega)]; exact ai_fo_16 hc
      · rw [mF _ _ _ (by omega) (by omega) (by omega) (by omega)]; exact ai_fo_9
      · rw [mF _ _ _ (by omega) (by omega) (by omega) (by omega)]; exact ai_fo_18
    have hcls : ax_fn 5 0 (ax_entry 5 [.ref (ax_a 0 0), .int (ay_i b), .ref (ax_a 68 0)]) [] (ax_hp X e gb M o) = some (.inl (some (.int (ay_i 0))), ax_hp X e gb (ai_fo D) (ay_i (ap_sz (ag_pr M) b)).toInt64) := by
      simp (disch := first | omega | assumption | exact ay_z1b _ | exact ay_z10 | exact ay_z11) only [ae_5, af_5_0, af_5_1, af_5_2, af_5_3, af_5_4, af_5_7, af_5_8, af_5_9, af_5_12, af_5_13, af_5_14, af_5_15, af_5_16, ae_80, af_80_0, af_80_1, af_80_3, af_80_6, af_80_9, af_80_10, af_80_13, af_80_16, af_80_17, af_80_18, af_80_21, af_80_22, af_80_23, af_80_26, af_80_29, af_80_30, af_80_31, af_80_34, af_80_35, af_80_38, af_80_39, ae_18, af_18_0, af_18_1, af_18_2, af_18_5, af_18_6, af_18_7, af_18_10, af_18_11, af_18_14, af_18_15, af_18_16, af_18_17, af_18_20, am_71, hv, am_72t, hs3, h21, am_73, ay_bt, ay_cl_v, ay_cl_s, ay_i_add, ay_i_mul, ay_i_eq, ay_i_lt, ay_b0, ay_b1, ay_ni, ay_in, ay_nn, ay_nl, ay_ln, if_true, if_false, ↓reduceIte, Nat.reduceAdd, Nat.reduceMul, Nat.reduceEqDiff, Nat.reduceLT, Nat.not_lt_zero, Bool.true_eq_false, Bool.false_eq_true, reduceCtorEq, Nat.add_zero, Nat.zero_add]
    by_cases hb6 : b < 6
    · have h5 : ¬ ay_i 5 < ay_i b := by rw [ay_i_lt (by omega) (by omega)]; omega
      refine ⟨0, e, gb, ai_fo D, ax_u3 (ax_u3 (ax_u3 (ax_u3 (ai_fo D) 24 0 0 (ay_i 0)) 40 0 b (ay_i 0)) 33 0 b (ay_i 0)) 24 0 26 (ay_i 0), (ay_i (ap_sz (ag_pr M) b)).toInt64, ay_i (ap_sz (ag_pr M) b), hcls, ?_, by simp [ax_u3], by omega, (fun _ _ => rfl), by omega, fin _ ?_ ?_ ?_ ?_ ?_⟩
      · simp (disch := first | omega | assumption | exact ay_z1b _ | exact ay_z10 | exact ay_z11) only [ae_104, af_104_0, af_104_1, af_104_2, af_104_5, af_104_6, af_104_7, af_104_10, af_104_13, af_104_14, af_104_15, af_104_16, af_104_19, af_104_20, af_104_21, af_104_22, af_104_23, af_104_26, af_104_27, af_104_28, af_104_29, af_104_30, af_104_33, af_104_34, af_104_35, af_104_36, af_104_37, af_104_38, af_104_41, af_104_42, af_104_45, af_104_46, af_104_48, af_104_49, af_104_50, af_104_51, af_104_52, af_104_55, af_104_56, af_104_58, af_104_59, af_104_60, af_104_61, af_104_62, af_104_65, af_104_66, af_104_68, af_104_69, af_104_70, af_104_71, af_104_72, af_104_73, af_104_76, af_104_77, am_98, hv, ay_bt, am_96d, ay_u3e, false_and, and_false, true_and, and_true, and_self, hm40, h5, ay_cl_v, ay_cl_s, ay_i_add, ay_i_mul, ay_i_eq, ay_i_lt, ay_b0, ay_b1, ay_ni, ay_in, ay_nn, ay_nl, ay_ln, if_true, if_false, ↓reduceIte, Nat.reduceAdd, Nat.reduceMul, Nat.reduceEqDiff, Nat.reduceLT, Nat.not_lt_zero, Bool.true_eq_false, Bool.false_eq_true, reduceCtorEq, Nat.add_zero, Nat.zero_add]
      · intro f i j q1 q2 q3 q4; simp only [ax_u3]; grind
      · simp [ax_u3]
      · simp [ax_u3]
      · intro h; omega
      · simp [ax_u3]
    · obtain ⟨f, rfl⟩ : ∃ f, b = 6 + f := ⟨b - 6, by omega⟩
      have h5 : ay_i 5 < ay_i (6 + f) := by rw [ay_i_lt (by omega) (by omega)]; omega
      have hsub : ay_i (6 + f) - ay_i 6 = ay_i f := by rw [ay_i_sub (by omega)]; congr 1; omega
      have hff : 6 + f - 6 = f := by omega
      refine ⟨0, e, gb, ai_fo D, ax_u3 (ax_u3 (ax_u3 (ax_u3 (ax_u3 (ax_u3 (ax_u3 (ai_fo D) 24 0 0 (ay_i 0)) 40 0 (6 + f) (ay_i 0)) 33 0 (6 + f) (ay_i 0)) 37 0 f (ay_i 0)) 38 0 f (ay_i 0)) 39 0 f (ay_i 0)) 24 0 26 (ay_i 0), (ay_i (ap_sz (ag_pr M) (6 + f))).toInt64, ay_i (ap_sz (ag_pr M) (6 + f)), hcls, ?_, by simp [ax_u3], by omega, (fun _ _ => rfl), by omega, fin _ ?_ ?_ ?_ ?_ ?_⟩
      · simp (disch := first | omega | assumption | exact ay_z1b _ | exact ay_z10 | exact ay_z11) only [ae_104, af_104_0, af_104_1, af_104_2, af_104_5, af_104_6, af_104_7, af_104_10, af_104_13, af_104_14, af_104_15, af_104_16, af_104_19, af_104_20, af_104_21, af_104_22, af_104_23, af_104_26, af_104_27, af_104_28, af_104_29, af_104_30, af_104_33, af_104_34, af_104_35, af_104_36, af_104_37, af_104_38, af_104_41, af_104_42, af_104_45, af_104_46, af_104_48, af_104_49, af_104_50, af_104_51, af_104_52, af_104_55, af_104_56, af_104_58, af_104_59, af_104_60, af_104_61, af_104_62, af_104_65, af_104_66, af_104_68, af_104_69, af_104_70, af_104_71, af_104_72, af_104_73, af_104_76, af_104_77, am_98, hv, ay_bt, am_96d, ay_u3e, false_and, and_false, true_and, and_true, and_self, hm40, h5, hsub, ay_cl_v, ay_cl_s, ay_i_add, ay_i_mul, ay_i_eq, ay_i_lt, ay_b0, ay_b1, ay_ni, ay_in, ay_nn, ay_nl, ay_ln, if_true, if_false, ↓reduceIte, Nat.reduceAdd, Nat.reduceMul, Nat.reduceEqDiff, Nat.reduceLT, Nat.not_lt_zero, Bool.true_eq_false, Bool.false_eq_true, reduceCtorEq, Nat.add_zero, Nat.zero_add]
      · intro f i j q1 q2 q3 q4; simp only [ax_u3]; grind
      · simp [ax_u3]
      · simp [ax_u3]
      · intro _; rw [hff]; simp [ax_u3]
      · simp [ax_u3]
  | false =>
    refine ⟨1, e + 1, gb, M, ax_u3 M 24 0 0 (ay_i 1), o, ay_i 0, ?_, ?_, by simp [ax_u3], by omega, (fun h => by omega), by omega, ai_R_t hR⟩
    · simp (disch := first | omega | assumption | exact ay_z1b _ | exact ay_z10 | exact ay_z11) only [ae_5, af_5_0, af_5_1, af_5_2, af_5_3, af_5_4, af_5_7, af_5_8, af_5_9, af_5_12, af_5_13, af_5_14, af_5_15, af_5_16, ae_80, af_80_0, af_80_1, af_80_3, af_80_6, af_80_9, af_80_10, af_80_13, af_80_16, af_80_17, af_80_18, af_80_21, af_80_22, af_80_23, af_80_26, af_80_29, af_80_30, af_80_31, af_80_34, af_80_35, af_80_38, af_80_39, am_71, hv, ay_bf, am_72f, ah_80, ah_5_0, ay_cl_v, ay_cl_s, ay_i_add, ay_i_mul, ay_i_eq, ay_i_lt, ay_b0, ay_b1, ay_ni, ay_in, ay_nn, ay_nl, ay_ln, if_true, if_false, ↓reduceIte, Nat.reduceAdd, Nat.reduceMul, Nat.reduceEqDiff, Nat.reduceLT, Nat.not_lt_zero, Bool.true_eq_false, Bool.false_eq_true, reduceCtorEq, Nat.add_zero, Nat.zero_add]
    · simp (disch := first | omega | assumption | exact ay_z1b _ | exact ay_z10 | exact ay_z11) only [ae_104, af_104_0, af_104_1, af_104_2, af_104_5, af_104_6, af_104_7, af_104_10, af_104_13, af_104_14, af_104_15, af_104_16, af_104_19, af_104_20, af_104_21, af_104_22, af_104_23, af_104_26, af_104_27, af_104_28, af_104_29, af_104_30, af_104_33, af_104_34, af_104_35, af_104_36, af_104_37, af_104_38, af_104_41, af_104_42, af_104_45, af_104_46, af_104_48, af_104_49, af_104_50, af_104_51, af_104_52, af_104_55, af_104_56, af_104_58, af_104_59, af_104_60, af_104_61, af_104_62, af_104_65, af_104_66, af_104_68, af_104_69, af_104_70, af_104_71, af_104_72, af_104_73, af_104_76, af_104_77, am_98, hv, ay_bf, am_96a, ay_u3e, false_and, and_false, true_and, and_true, and_self, ay_cl_v, ay_cl_s, ay_i_add, ay_i_mul, ay_i_eq, ay_i_lt, ay_b0, ay_b1, ay_ni, ay_in, ay_nn, ay_nl, ay_ln, if_true, if_false, ↓reduceIte, Nat.reduceAdd, Nat.reduceMul, Nat.reduceEqDiff, Nat.reduceLT, Nat.not_lt_zero, Bool.true_eq_false, Bool.false_eq_true, reduceCtorEq, Nat.add_zero, Nat.zero_add]
end AmF2
