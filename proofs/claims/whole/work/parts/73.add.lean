/-! parameter, add -/
theorem ai_fo_37 {D : ax_M} {b : Nat} {v : Int32} {j : Nat} : ai_fo (ax_u3 D 3 b j v) 3 b j = v := by
  rw [ai_fo_ne (by omega) (by omega) (by omega)]; simp [ax_u3]
def ai_in (r : Nat) (x y z : Int32) : Bool := (decide (r = 6) || ay_w x (ay_i 8)) && (if r = 0 ∨ r = 3 ∨ r = 4 then ay_w y (ay_i 8) else true) && (if r = 2 ∨ r = 7 then ay_w y (ay_i 6) && ay_w z (ay_i 8) else true) && (if r = 3 ∨ r = 4 then ay_w z (ay_i 4) else true)
section AmF3
variable {X : Nat × (Nat → Int32)} {e gb : Nat} {M : ax_M} {o : Int64} {h : ax_H}
theorem aj_parameter (hR : ai_R M) (he : e < 700000) {b k c s : Int32} {nb : Bool} : ai_J (ax_fn 2 0 (ax_entry 2 [.ref (ax_a 0 0), .int b, .int k, .int c, .int (ay_b nb), .int s, .ref (ax_a 68 0)]) [] (ax_hp X e gb M o)) (fun e' gb' M1 o1 => ax_fn 97 0 (ax_entry 97 [.ref (ax_a 24 0), .int b, .int k, .int c, .int (ay_b nb), .int s]) [] (ax_hp X e' gb' M1 o1)) X e (fun v => some (.int v)) true o := by
  by_cases hv : ay_w b (ay_i 12) = true ∧ ay_w k (ay_i 3) = true ∧ ay_w c (ay_i 6) = true ∧ ay_w s (ay_i 3) = true
  · obtain ⟨h1, h2, h3, h4⟩ := hv
    obtain ⟨b, hb, rfl, -⟩ := ay_w_inv (by omega) h1
    obtain ⟨k, hk, rfl, -⟩ := ay_w_inv (by omega) h2
    obtain ⟨c, hc, rfl, -⟩ := ay_w_inv (by omega) h3
    obtain ⟨s, hs, rfl, -⟩ := ay_w_inv (by omega) h4
    have hR0 := hR
    obtain ⟨r1, r2, -, -⟩ := hR
    obtain ⟨hmn, hm3⟩ := r1.2.1 b hb
    have hc7 : M 3 b 7 = ay_i (ap_mn (ag_pr M) b) := by rw [(r2.1 b hb).2]; exact hmn
    have hm33 : M 33 0 b = ay_i (ap_mn (ag_pr M) b) := by rw [← hmn, ag_pr_at (by omega) (by omega)]
    generalize hmm : ap_mn (ag_pr M) b = m at *
    by_cases hkm : k ≤ m
    · have hle : ¬ m < k := by omega
      have h21 := am_21 (X := X) (e := e) (gb := gb) (M := M) (o := o) (d := 24 + 3 * b + k) (a := ay_i c) (s := ay_i s) (c := nb) (by omega)
      generalize hD : ax_u3 (ax_u3 (ax_u3 M 10 (24 + 3 * b + k) 0 (ay_i c)) 10 (24 + 3 * b + k) 1 (ay_b nb)) 10 (24 + 3 * b + k) 2 (ay_i s) = D at h21
      have hDc : ∀ f i j, ¬ (f = 10 ∧ i = 24 + 3 * b + k) → D f i j = M f i j := by
        intro f i j hf; rw [← hD]; simp only [ax_u3]; grind
      have hD0 : D 10 (24 + 3 * b + k) 0 = ay_i c := by rw [← hD]; simp [ax_u3]
      have hD1 : D 10 (24 + 3 * b + k) 1 = ay_b nb := by rw [← hD]; simp [ax_u3]
      have hD2 : D 10 (24 + 3 * b + k) 2 = ay_i s := by rw [← hD]; simp [ax_u3]
      have hD7 : D 3 b 7 = ay_i m := by rw [hDc _ _ _ (by omega)]; exact hc7
      have hmax : (if k = m then ay_i (k + 1) else ay_i m) = ay_i (max m (k + 1)) := by
        by_cases hq : k = m
        · rw [if_pos hq, Nat.max_eq_right (by omega)]
        · rw [if_neg hq, Nat.max_eq_left (by omega)]
      have hM33 : ai_fo (ax_u3 D 3 b 7 (ay_i (max m (k + 1)))) 33 0 b = ay_i m := by
        rw [ai_fo_ne (by omega) (by omega) (by omega)]
        have : ax_u3 D 3 b 7 (ay_i (max m (k + 1))) 33 0 b = D 33 0 b := by simp [ax_u3]
        rw [this, hDc _ _ _ (by omega)]; exact hm33
      refine ⟨0, e, gb, ai_fo (ax_u3 D 3 b 7 (ay_i (max m (k + 1)))), ax_u3 (ax_u3 (ax_u3 (ax_u3 (ax_u3 (ax_u3 (ai_fo (ax_u3 D 3 b 7 (ay_i (max m (k + 1))))) 24 0 0 (ay_i 0)) 33 0 b (ay_i (max m (k + 1)))) 34 0 (3 * b + k) (ay_i c)) 35 0 (3 * b + k) (ay_b nb)) 36 0 (3 * b + k) (ay_i s)) 24 0 26 (ay_i 0), (ay_i (max m (k + 1))).toInt64, ay_i (max m (k + 1)), ?_, ?_, ?_, by omega, (fun _ _ => rfl), by omega, ?_⟩
      · simp (disch := first | omega | assumption | exact ay_z1b _ | exact ay_z10 | exact ay_z11) only [ae_2, af_2_0, af_2_2, af_2_3, af_2_4, af_2_5, af_2_6, af_2_7, af_2_9, af_2_11, af_2_14, af_2_15, af_2_16, af_2_19, af_2_21, af_2_22, af_2_23, af_2_25, af_2_26, af_2_27, af_2_28, ae_74, af_74_0, af_74_1, af_74_3, af_74_6, af_74_9, af_74_10, af_74_11, af_74_14, af_74_17, af_74_18, af_74_21, af_74_22, af_74_25, af_74_26, af_74_28, af_74_31, af_74_34, af_74_36, af_74_37, af_74_40, af_74_43, af_74_44, af_74_47, af_74_48, af_74_51, af_74_52, af_74_55, af_74_58, af_74_59, af_74_60, af_74_62, af_74_63, af_74_65, af_74_68, af_74_71, af_74_72, af_74_75, af_74_76, af_74_79, af_74_81, af_74_82, af_74_83, af_74_85, af_74_87, af_74_90, af_74_91, af_74_94, af_74_96, af_74_99, ae_16, af_16_0, af_16_1, af_16_4, af_16_5, af_16_6, af_16_7, af_16_8, af_16_10, af_16_13, af_16_14, af_16_15, af_16_18, af_16_19, af_16_20, af_16_21, af_16_24, af_16_27, am_71, h1, h2, h3, h4, am_72t, hc7, hle, am_75t, h21, hD7, am_136, am_73, ai_fo_37, ay_cl_v, ay_cl_s, ay_i_add, ay_i_mul, ay_i_eq, ay_i_lt, ay_b0, ay_b1, ay_ni, ay_in, ay_nn, ay_nl, ay_ln, if_true, if_false, ↓reduceIte, Nat.reduceAdd, Nat.reduceMul, Nat.reduceEqDiff, Nat.reduceLT, Nat.not_lt_zero, Bool.true_eq_false, Bool.false_eq_true, reduceCtorEq, Nat.add_zero, Nat.zero_add]
      · by_cases hq : k = m
        · have hx : max m (k + 1) = k + 1 := Nat.max_eq_right (by omega)
          rw [hx] at hM33 ⊢
          rw [← hq] at hM33 hle
          simp (disch := first | omega | assumption | exact ay_z1b _ | exact ay_z10 | exact ay_z11) only [ae_97, af_97_0, af_97_1, af_97_4, af_97_7, af_97_8, af_97_9, af_97_10, af_97_13, af_97_16, af_97_17, af_97_20, af_97_23, af_97_25, af_97_28, af_97_31, af_97_32, af_97_35, af_97_36, af_97_38, af_97_39, af_97_41, af_97_43, af_97_46, af_97_47, af_97_48, af_97_51, af_97_52, af_97_53, af_97_56, af_97_57, af_97_60, af_97_61, af_97_62, af_97_65, af_97_68, af_97_69, af_97_70, af_97_71, af_97_74, af_97_75, af_97_76, af_97_77, af_97_80, af_97_81, af_97_82, af_97_85, af_97_86, af_97_87, af_97_88, af_97_91, af_97_92, af_97_95, af_97_96, af_97_97, af_97_98, af_97_99, af_97_102, af_97_103, af_97_104, af_97_105, af_97_106, af_97_107, af_97_108, af_97_109, af_97_110, af_97_113, af_97_114, af_97_115, af_97_116, af_97_117, af_97_118, af_97_120, af_97_121, af_97_122, af_97_125, af_97_126, af_97_127, af_97_128, af_97_129, af_97_130, af_97_132, af_97_133, af_97_134, af_97_135, af_97_138, af_97_139, af_97_142, af_97_143, af_97_144, am_98, am_94, am_99, am_95 (show 2 < 100000 by omega), h1, h2, h3, h4, hM33, hle, am_96d, ay_u3e, false_and, and_false, true_and, and_true, and_self, ay_cl_v, ay_cl_s, ay_i_add, ay_i_mul, ay_i_eq, ay_i_lt, ay_b0, ay_b1, ay_ni, ay_in, ay_nn, ay_nl, ay_ln, if_true, if_false, ↓reduceIte, Nat.reduceAdd, Nat.reduceMul, Nat.reduceEqDiff, Nat.reduceLT, Nat.not_lt_zero, Bool.true_eq_false, Bool.false_eq_true, reduceCtorEq, Nat.add_zero, Nat.zero_add]
        · have hx : max m (k + 1) = m := Nat.max_eq_left (by omega)
          rw [hx] at hM33 ⊢
          simp (disch := first | omega | assumption | exact ay_z1b _ | exact ay_z10 | exact ay_z11) only [ae_97, af_97_0, af_97_1, af_97_4, af_97_7, af_97_8, af_97_9, af_97_10, af_97_13, af_97_16, af_97_17, af_97_20, af_97_23, af_97_25, af_97_28, af_97_31, af_97_32, af_97_35, af_97_36, af_97_38, af_97_39, af_97_41, af_97_43, af_97_46, af_97_47, af_97_48, af_97_51, af_97_52, af_97_53, af_97_56, af_97_57, af_97_60, af_97_61, af_97_62, af_97_65, af_97_68, af_97_69, af_97_70, af_97_71, af_97_74, af_97_75, af_97_76, af_97_77, af_97_80, af_97_81, af_97_82, af_97_85, af_97_86, af_97_87, af_97_88, af_97_91, af_97_92, af_97_95, af_97_96, af_97_97, af_97_98, af_97_99, af_97_102, af_97_103, af_97_104, af_97_105, af_97_106, af_97_107, af_97_108, af_97_109, af_97_110, af_97_113, af_97_114, af_97_115, af_97_116, af_97_117, af_97_118, af_97_120, af_97_121, af_97_122, af_97_125, af_97_126, af_97_127, af_97_128, af_97_129, af_97_130, af_97_132, af_97_133, af_97_134, af_97_135, af_97_138, af_97_139, af_97_142, af_97_143, af_97_144, am_98, am_94, am_99, am_95 (show 2 < 100000 by omega), h1, h2, h3, h4, hM33, hle, am_96d, ay_u3e, false_and, and_false, true_and, and_true, and_self, hq, ay_cl_v, ay_cl_s, ay_i_add, ay_i_mul, ay_i_eq, ay_i_lt, ay_b0, ay_b1, ay_ni, ay_in, ay_nn, ay_nl, ay_ln, if_true, if_false, ↓reduceIte, Nat.reduceAdd, Nat.reduceMul, Nat.reduceEqDiff, Nat.reduceLT, Nat.not_lt_zero, Bool.true_eq_false, Bool.false_eq_true, reduceCtorEq, Nat.add_zero, Nat.zero_add]
      · simp [ax_u3]
      · generalize hM2 : ax_u3 (ax_u3 (ax_u3 (ax_u3 (ax_u3 (ax_u3 (ai_fo (ax_u3 D 3 b 7 (ay_i (max m (k + 1))))) 24 0 0 (ay_i 0)) 33 0 b (ay_i (max m (k + 1)))) 34 0 (3 * b + k) (ay_i c)) 35 0 (3 * b + k) (ay_b nb)) 36 0 (3 * b + k) (ay_i s)) 24 0 26 (ay_i 0) = M2
        have m33 : M2 33 0 b = ay_i (max m (k + 1)) := by rw [← hM2]; simp [ax_u3]
        have m34 : M2 34 0 (3 * b + k) = ay_i c := by rw [← hM2]; simp [ax_u3]
        have m35 : M2 35 0 (3 * b + k) = ay_b nb := by rw [← hM2]; simp [ax_u3]
        have m36 : M2 36 0 (3 * b + k) = ay_i s := by rw [← hM2]; simp [ax_u3]
        have mF : ∀ f i j, ¬ (f = 33 ∧ j = b) → ¬ (34 ≤ f ∧ f ≤ 36 ∧ j = 3 * b + k) → ¬ (f = 24) → M2 f i j = ai_fo (ax_u3 D 3 b 7 (ay_i (max m (k + 1)))) f i j := by
          intro f i j h1 h2 h3; rw [← hM2]; simp only [ax_u3]; grind
        have mO : ∀ f i j, ¬ (f = 33 ∧ j = b) → ¬ (34 ≤ f ∧ f ≤ 36 ∧ j = 3 * b + k) → ¬ (f = 24) → ¬ f = 16 → ¬ f = 9 → ¬ f = 18 → ¬ (f = 10 ∧ i = 24 + 3 * b + k) → ¬ (f = 3 ∧ i = b ∧ j = 7) → M2 f i j = M f i j := by
          intro f i j q1 q2 q3 q4 q5 q6 q7 q8
          rw [mF f i j q1 q2 q3, ai_fo_ne q4 (by omega) (by omega), ← hDc f i j q7]
          simp only [ax_u3]; grind
        have mP : ∀ f j, 31 ≤ f → f ≤ 44 → ¬ (f = 33 ∧ j = b) → ¬ (34 ≤ f ∧ f ≤ 36 ∧ j = 3 * b + k) → ag_pr M2 f 0 j = ag_pr M f 0 j := by
          intro f j q1 q2 q3 q4
          rw [ag_pr_at q1 q2, ag_pr_at q1 q2]; exact mO f 0 j q3 q4 (by omega) (by omega) (by omega) (by omega) (by omega) (by omega)
        have p33 : ag_pr M2 33 0 b = ay_i (max m (k + 1)) := by rw [ag_pr_at (by omega) (by omega)]; exact m33
        have p34 : ag_pr M2 34 0 (3 * b + k) = ay_i c := by rw [ag_pr_at (by omega) (by omega)]; exact m34
        have p35 : ag_pr M2 35 0 (3 * b + k) = ay_b nb := by rw [ag_pr_at (by omega) (by omega)]; exact m35
        have p36 : ag_pr M2 36 0 (3 * b + k) = ay_i s := by rw [ag_pr_at (by omega) (by omega)]; exact m36
        have hnu : ap_nu (ag_pr M2) (3 * b + k) = nb := ap_nu_b p35
        have hmx : max m (k + 1) ≤ 3 := by omega
        have mnb : ap_mn (ag_pr M2) b = max m (k + 1) := by unfold ap_mn; rw [p33]; exact ay_i_ct (by omega)
        have hmn' : ∀ c, c < 12 → c ≠ b → ap_mn (ag_pr M2) c = ap_mn (ag_pr M) c := fun c hc hcb => by unfold ap_mn; rw [mP 33 c (by omega) (by omega) (by omega) (by omega)]
        refine ai_R0 ?_ ?_ ?_ ?_ ?_ ?_
        · refine ap_wf_ch r1 (.inl (fun b hb => mP _ _ (by omega) (by omega) (by omega) (by omega))) (.inr (fun d hd => ?_)) (.inl (fun f j q1 q2 => mP _ _ (by omega) (by omega) (by omega) (by omega))) (.inl (fun f j q1 q2 => mP _ _ (by omega) (by omega) (by omega) (by omega))) (.inr (fun q hq => ?_)) (.inl (fun f j q1 q2 => mP _ _ (by omega) (by omega) (by omega) (by omega)))
          · by_cases hdb : d = b
            · subst hdb; rw [mnb, p33]; exact ⟨rfl, hmx⟩
            · rw [hmn' d hd hdb, mP 33 d (by omega) (by omega) (by omega) (by omega)]; exact r1.2.1 d hd
          · by_cases hqk : q = 3 * b + k
            · subst hqk; rw [hnu, p34, p35, p36]; exact ⟨⟨c, hc, rfl⟩, rfl, ⟨s, hs, rfl⟩⟩
            · have := r1.2.2.2.2.1 q hq
              unfold ap_nu at this ⊢
              rw [mP 34 q (by omega) (by omega) (by omega) (by omega), mP 35 q (by omega) (by omega) (by omega) (by omega), mP 36 q (by omega) (by omega) (by omega) (by omega)]; exact this
        · refine ac_p_ch r2 (fun d hd => ?_) (.inl ⟨fun f i j q1 q2 => mO _ _ _ (by omega) (by omega) (by omega) (by omega) (by omega) (by omega) (by omega) (by omega), fun f j q1 q2 => mP _ _ (by omega) (by omega) (by omega) (by omega)⟩) ⟨fun i j q1 => mO _ _ _ (by omega) (by omega) (by omega) (by omega) (by omega) (by omega) (by omega) (by omega), fun f j q1 q2 => mP _ _ (by omega) (by omega) (by omega) (by omega)⟩ (.inr (fun d q hd hq => ?_)) (.inl ⟨fun i j q1 => mO _ _ _ (by omega) (by omega) (by omega) (by omega) (by omega) (by omega) (by omega) (by omega), fun f j q1 q2 => mP _ _ (by omega) (by omega) (by omega) (by omega)⟩) (fun b hb => (r1.2.1 b hb).2)
          · rw [mO 3 d 6 (by omega) (by omega) (by omega) (by omega) (by omega) (by omega) (by omega) (by omega), mP 40 d (by omega) (by omega) (by omega) (by omega)]
            by_cases hdb : d = b
            · subst hdb
              rw [p33, mF 3 d 7 (by omega) (by omega) (by omega), ai_fo_37]; exact ⟨(r2.1 d hd).1, rfl⟩
            · rw [mO 3 d 7 (by omega) (by omega) (by omega) (by omega) (by omega) (by omega) (by omega) (by omega), mP 33 d (by omega) (by omega) (by omega) (by omega)]; exact r2.1 d hd
          · by_cases hdq : d = b ∧ q = k
            · obtain ⟨rfl, rfl⟩ := hdq
              have rd : ∀ j, M2 10 (24 + 3 * d + q) j = D 10 (24 + 3 * d + q) j := by
                intro j; rw [mF 10 _ j (by omega) (by omega) (by omega), ai_fo_ne (by omega) (by omega) (by omega)]; simp [ax_u3]
              rw [rd, rd, rd, hnu, p34, p36]; exact ⟨hD0, hD1, hD2⟩
            · have hq2 : q < ap_mn (ag_pr M) d := by
                by_cases hdb : d = b
                · subst hdb; rw [mnb] at hq; rw [hmm]; omega
                · rw [hmn' d hd hdb] at hq; exact hq
              have h3 := (r1.2.1 d hd).2
              have := r2.2.2.2.1 d q hd hq2
              unfold ap_nu at this ⊢
              rw [mO 10 _ 0 (by omega) (by omega) (by omega) (by omega) (by omega) (by omega) (by omega) (by omega), mO 10 _ 1 (by omega) (by omega) (by omega) (by omega) (by omega) (by omega) (by omega) (by omega), mO 10 _ 2 (by omega) (by omega) (by omega) (by omega) (by omega) (by omega) (by omega) (by omega), mP 34 _ (by omega) (by omega) (by omega) (by omega), mP 35 _ (by omega) (by omega) (by omega) (by omega), mP 36 _ (by omega) (by omega) (by omega) (by omega)]; exact this
        · intro b hb; rw [mF _ _ _ (by omega) (by omega) (by omega)]; exact ai_fo_16 hb
        · rw [mF _ _ _ (by omega) (by omega) (by omega)]; exact ai_fo_9
        · rw [mF _ _ _ (by omega) (by omega) (by omega)]; exact ai_fo_18
        · rw [← hM2]; simp [ax_u3]
    · have hlt : m < k := by omega
      refine ⟨2, e + 1, gb, M, ax_u3 M 24 0 0 (ay_i 2), o, ay_i 0, ?_, ?_, by simp [ax_u3], by omega, (fun h => by omega), by omega, ai_R_t hR0⟩
      · simp (disch := first | omega | assumption | exact ay_z1b _ | exact ay_z10 | exact ay_z11) only [ae_2, af_2_0, af_2_2, af_2_3, af_2_4, af_2_5, af_2_6, af_2_7, af_2_9, af_2_11, af_2_14, af_2_15, af_2_16, af_2_19, af_2_21, af_2_22, af_2_23, af_2_25, af_2_26, af_2_27, af_2_28, ae_74, af_74_0, af_74_1, af_74_3, af_74_6, af_74_9, af_74_10, af_74_11, af_74_14, af_74_17, af_74_18, af_74_21, af_74_22, af_74_25, af_74_26, af_74_28, af_74_31, af_74_34, af_74_36, af_74_37, af_74_40, af_74_43, af_74_44, af_74_47, af_74_48, af_74_51, af_74_52, af_74_55, af_74_58, af_74_59, af_74_60, af_74_62, af_74_63, af_74_65, af_74_68, af_74_71, af_74_72, af_74_75, af_74_76, af_74_79, af_74_81, af_74_82, af_74_83, af_74_85, af_74_87, af_74_90, af_74_91, af_74_94, af_74_96, af_74_99, am_71, h1, h2, h3, h4, am_72t, hc7, hlt, am_75f, ah_74, ah_2_2, ay_cl_v, ay_cl_s, ay_i_add, ay_i_mul, ay_i_eq, ay_i_lt, ay_b0, ay_b1, ay_ni, ay_in, ay_nn, ay_nl, ay_ln, if_true, if_false, ↓reduceIte, Nat.reduceAdd, Nat.reduceMul, Nat.reduceEqDiff, Nat.reduceLT, Nat.not_lt_zero, Bool.true_eq_false, Bool.false_eq_true, reduceCtorEq, Nat.add_zero, Nat.zero_add]
      · simp (disch := first | omega | assumption | exact ay_z1b _ | exact ay_z10 | exact ay_z11) only [ae_97, af_97_0, af_97_1, af_97_4, af_97_7, af_97_8, af_97_9, af_97_10, af_97_13, af_97_16, af_97_17, af_97_20, af_97_23, af_97_25, af_97_28, af_97_31, af_97_32, af_97_35, af_97_36, af_97_38, af_97_39, af_97_41, af_97_43, af_97_46, af_97_47, af_97_48, af_97_51, af_97_52, af_97_53, af_97_56, af_97_57, af_97_60, af_97_61, af_97_62, af_97_65, af_97_68, af_97_69, af_97_70, af_97_71, af_97_74, af_97_75, af_97_76, af_97_77, af_97_80, af_97_81, af_97_82, af_97_85, af_97_86, af_97_87, af_97_88, af_97_91, af_97_92, af_97_95, af_97_96, af_97_97, af_97_98, af_97_99, af_97_102, af_97_103, af_97_104, af_97_105, af_97_106, af_97_107, af_97_108, af_97_109, af_97_110, af_97_113, af_97_114, af_97_115, af_97_116, af_97_117, af_97_118, af_97_120, af_97_121, af_97_122, af_97_125, af_97_126, af_97_127, af_97_128, af_97_129, af_97_130, af_97_132, af_97_133, af_97_134, af_97_135, af_97_138, af_97_139, af_97_142, af_97_143, af_97_144, am_98, am_94, am_99, am_95 (show 2 < 100000 by omega), h1, h2, h3, h4, hm33, hlt, am_96b, ay_u3e, false_and, and_false, true_and, and_true, and_self, ay_cl_v, ay_cl_s, ay_i_add, ay_i_mul, ay_i_eq, ay_i_lt, ay_b0, ay_b1, ay_ni, ay_in, ay_nn, ay_nl, ay_ln, if_true, if_false, ↓reduceIte, Nat.reduceAdd, Nat.reduceMul, Nat.reduceEqDiff, Nat.reduceLT, Nat.not_lt_zero, Bool.true_eq_false, Bool.false_eq_true, reduceCtorEq, Nat.add_zero, Nat.zero_add]
  · refine ⟨1, e + 1, gb, M, ax_u3 M 24 0 0 (ay_i 1), o, ay_i 0, ?_, ?_, by simp [ax_u3], by omega, (fun h => by omega), by omega, ai_R_t hR⟩
    · cases h1 : ay_w b (ay_i 12) <;> cases h2 : ay_w k (ay_i 3) <;> cases h3 : ay_w c (ay_i 6) <;> cases h4 : ay_w s (ay_i 3) <;> simp only [h1, h2, h3, h4, and_self, not_true, Bool.false_eq_true, false_and, and_false, not_false_eq_true] at hv <;> simp (disch := first | omega | assumption | exact ay_z1b _ | exact ay_z10 | exact ay_z11) only [ae_2, af_2_0, af_2_2, af_2_3, af_2_4, af_2_5, af_2_6, af_2_7, af_2_9, af_2_11, af_2_14, af_2_15, af_2_16, af_2_19, af_2_21, af_2_22, af_2_23, af_2_25, af_2_26, af_2_27, af_2_28, ae_74, af_74_0, af_74_1, af_74_3, af_74_6, af_74_9, af_74_10, af_74_11, af_74_14, af_74_17, af_74_18, af_74_21, af_74_22, af_74_25, af_74_26, af_74_28, af_74_31, af_74_34, af_74_36, af_74_37, af_74_40, af_74_43, af_74_44, af_74_47, af_74_48, af_74_51, af_74_52, af_74_55, af_74_58, af_74_59, af_74_60, af_74_62, af_74_63, af_74_65, af_74_68, af_74_71, af_74_72, af_74_75, af_74_76, af_74_79, af_74_81, af_74_82, af_74_83, af_74_85, af_74_87, af_74_90, af_74_91, af_74_94, af_74_96, af_74_99, am_71, h1, h2, h3, h4, am_72t, am_72f, ah_74, ah_2_0, ay_cl_v, ay_cl_s, ay_i_add, ay_i_mul, ay_i_eq, ay_i_lt, ay_b0, ay_b1, ay_ni, ay_in, ay_nn, ay_nl, ay_ln, if_true, if_false, ↓reduceIte, Nat.reduceAdd, Nat.reduceMul, Nat.reduceEqDiff, Nat.reduceLT, Nat.not_lt_zero, Bool.true_eq_false, Bool.false_eq_true, reduceCtorEq, Nat.add_zero, Nat.zero_add]
    · cases h1 : ay_w b (ay_i 12) <;> cases h2 : ay_w k (ay_i 3) <;> cases h3 : ay_w c (ay_i 6) <;> cases h4 : ay_w s (ay_i 3) <;> simp only [h1, h2, h3, h4, and_self, not_true, Bool.false_eq_true, false_and, and_false, not_false_eq_true] at hv <;> simp (disch := first | omega | assumption | exact ay_z1b _ | exact ay_z10 | exact ay_z11) only [ae_97, af_97_0, af_97_1, af_97_4, af_97_7, af_97_8, af_97_9, af_97_10, af_97_13, af_97_16, af_97_17, af_97_20, af_97_23, af_97_25, af_97_28, af_97_31, af_97_32, af_97_35, af_97_36, af_97_38, af_97_39, af_97_41, af_97_43, af_97_46, af_97_47, af_97_48, af_97_51, af_97_52, af_97_53, af_97_56, af_97_57, af_97_60, af_97_61, af_97_62, af_97_65, af_97_68, af_97_69, af_97_70, af_97_71, af_97_74, af_97_75, af_97_76, af_97_77, af_97_80, af_97_81, af_97_82, af_97_85, af_97_86, af_97_87, af_97_88, af_97_91, af_97_92, af_97_95, af_97_96, af_97_97, af_97_98, af_97_99, af_97_102, af_97_103, af_97_104, af_97_105, af_97_106, af_97_107, af_97_108, af_97_109, af_97_110, af_97_113, af_97_114, af_97_115, af_97_116, af_97_117, af_97_118, af_97_120, af_97_121, af_97_122, af_97_125, af_97_126, af_97_127, af_97_128, af_97_129, af_97_130, af_97_132, af_97_133, af_97_134, af_97_135, af_97_138, af_97_139, af_97_142, af_97_143, af_97_144, am_98, am_94, am_99, am_95 (show 2 < 100000 by omega), h1, h2, h3, h4, am_96a, ay_u3e, false_and, and_false, true_and, and_true, and_self, ay_cl_v, ay_cl_s, ay_i_add, ay_i_mul, ay_i_eq, ay_i_lt, ay_b0, ay_b1, ay_ni, ay_in, ay_nn, ay_nl, ay_ln, if_true, if_false, ↓reduceIte, Nat.reduceAdd, Nat.reduceMul, Nat.reduceEqDiff, Nat.reduceLT, Nat.not_lt_zero, Bool.true_eq_false, Bool.false_eq_true, reduceCtorEq, Nat.add_zero, Nat.zero_add]
theorem am_79 {r : Nat} {x y z : Int32} (hr : r ≤ 8) : ax_fn 79 0 (ax_entry 79 [.int (ay_i r), .int x, .int y, .int z]) [] h = some (.inl (some (.int (ay_b (ai_in r x y z)))), h) := by
  have hc : r = 0 ∨ r = 1 ∨ r = 2 ∨ r = 3 ∨ r = 4 ∨ r = 5 ∨ r = 6 ∨ r = 7 ∨ r = 8 := by omega
  rcases hc with rfl | rfl | rfl | rfl | rfl | rfl | rfl | rfl | rfl <;> unfold ai_in <;> cases h1 : ay_w x (ay_i 8) <;> (simp (disch := first | omega | assumption | exact ay_z1b _ | exact ay_z10 | exact ay_z11) only [ae_79, af_79_0, af_79_1, af_79_3, af_79_6, af_79_7, af_79_9, af_79_12, af_79_15, af_79_16, af_79_17, af_79_18_0, af_79_18_1, af_79_18_2, af_79_18_3, af_79_18_4, af_79_18_5, af_79_18_6, af_79_18_7, af_79_18_8, af_79_64, af_79_65, af_79_67, af_79_70, af_79_71, af_79_72, af_79_74, af_79_77, af_79_80, af_79_81, af_79_83, af_79_86, af_79_89, af_79_90, af_79_93, af_79_94, af_79_95, af_79_96, af_79_98, af_79_101, af_79_104, af_79_105, af_79_107, af_79_110, af_79_113, af_79_114, af_79_117, af_79_118, af_79_119, af_79_120, af_79_122, af_79_125, af_79_128, af_79_129, af_79_130, af_79_133, af_79_136, af_79_137, af_79_140, af_79_141, af_79_142, af_79_143, am_71, h1, ay_cl_v, ay_cl_s, ay_i_add, ay_i_mul, ay_i_eq, ay_i_lt, ay_b0, ay_b1, ay_ni, ay_in, ay_nn, ay_nl, ay_ln, if_true, if_false, ↓reduceIte, Nat.reduceAdd, Nat.reduceMul, Nat.reduceEqDiff, Nat.reduceLT, Nat.not_lt_zero, Bool.true_eq_false, Bool.false_eq_true, reduceCtorEq, Nat.add_zero, Nat.zero_add, ay_ite_st, ay_ite_ls, ay_ba, ay_bb, ay_bc, ay_bg, ay_be, ay_bh, Bool.not_eq_true, Bool.not_eq_false, ite_self]) <;> simp <;> (try (cases ay_w y (ay_i 8) <;> cases ay_w y (ay_i 6) <;> cases ay_w z (ay_i 8) <;> cases ay_w z (ay_i 4) <;> rfl))
theorem am_102 {r : Nat} {x y z : Int32} (hr : r ≤ 8) : ax_fn 102 0 (ax_entry 102 [.int (ay_i r), .int x, .int y, .int z]) [] h = some (.inl (some (.int (ay_b (ai_in r x y z)))), h) := by
  have hc : r = 0 ∨ r = 1 ∨ r = 2 ∨ r = 3 ∨ r = 4 ∨ r = 5 ∨ r = 6 ∨ r = 7 ∨ r = 8 := by omega
  rcases hc with rfl | rfl | rfl | rfl | rfl | rfl | rfl | rfl | rfl <;> unfold ai_in <;> cases h1 : ay_w x (ay_i 8) <;> cases h2 : ay_w y (ay_i 8) <;> (simp (disch := first | omega | assumption | exact ay_z1b _ | exact ay_z10 | exact ay_z11) only [ae_102, af_102_0, af_102_1, af_102_3, af_102_6, af_102_7, af_102_10, af_102_13, af_102_14, af_102_17, af_102_18, af_102_20, af_102_22, af_102_25, af_102_26, af_102_29, af_102_30, af_102_31, af_102_34, af_102_35, af_102_36, af_102_39, af_102_40, af_102_43, af_102_46, af_102_47, af_102_50, af_102_51, af_102_53, af_102_55, af_102_58, af_102_59, af_102_60, af_102_63, af_102_64, af_102_66, af_102_69, af_102_70, af_102_73, af_102_76, af_102_77, af_102_80, af_102_83, af_102_84, af_102_87, af_102_88, af_102_90, af_102_92, af_102_95, af_102_96, af_102_97, af_102_100, af_102_101, af_102_102, af_102_105, af_102_106, af_102_107, af_102_108, af_102_111, af_102_114, af_102_115, af_102_118, af_102_119, am_103, am_94, am_95 (show 3 < 100000 by omega), h1, h2, ay_cl_v, ay_cl_s, ay_i_add, ay_i_mul, ay_i_eq, ay_i_lt, ay_b0, ay_b1, ay_ni, ay_in, ay_nn, ay_nl, ay_ln, if_true, if_false, ↓reduceIte, Nat.reduceAdd, Nat.reduceMul, Nat.reduceEqDiff, Nat.reduceLT, Nat.not_lt_zero, Bool.true_eq_false, Bool.false_eq_true, reduceCtorEq, Nat.add_zero, Nat.zero_add, ay_ite_st, ay_ite_ls, ay_ba, ay_bb, ay_bc, ay_bg, ay_be, ay_bh, Bool.not_eq_true, Bool.not_eq_false, ite_self]) <;> simp <;> (try (cases ay_w y (ay_i 6) <;> cases ay_w z (ay_i 8) <;> cases ay_w z (ay_i 4) <;> rfl))
theorem ap_wi_in {P : ax_M} {b p r : Nat} {x y z : Int32} (hr : r ≤ 8) (h1 : P 41 0 (40 * b + p) = ay_i r) (h2 : P 42 0 (40 * b + p) = x) (h3 : P 43 0 (40 * b + p) = y) (h4 : P 44 0 (40 * b + p) = z) (hi : ai_in r x y z = true) : ap_wi P b p := by
  have ho : ap_o P b p = r := by unfold ap_o; rw [h1]; exact ay_i_ct (by omega)
  unfold ai_in at hi
  rw [Bool.and_eq_true, Bool.and_eq_true, Bool.and_eq_true] at hi
  obtain ⟨⟨⟨i1, i2⟩, i3⟩, i4⟩ := hi
  have g : ∀ {v : Int32} {n : Nat}, n ≤ 1000 → ay_w v (ay_i n) = true → v = ay_i v.toNatClampNeg ∧ v.toNatClampNeg < n := by
    intro v n hn hv
    obtain ⟨t, ht, hv1, hv2⟩ := ay_w_inv hn hv
    rw [hv2]; exact ⟨hv1, ht⟩
  refine ⟨by rw [h1, ho], by omega, fun h6 => ?_, fun h => ?_, fun h => ?_, fun h => ?_⟩
  · rw [ho] at h6
    unfold ap_x; rw [h2]
    simp only [h6, decide_false, Bool.false_or] at i1
    exact g (by omega) i1
  · rw [ho] at h
    unfold ap_y; rw [h3]
    rw [if_pos h] at i2
    exact g (by omega) i2
  · rw [ho] at h
    unfold ap_y ap_z; rw [h3, h4]
    rw [if_pos h, Bool.and_eq_true] at i3
    exact ⟨g (by omega) i3.1, g (by omega) i3.2⟩
  · rw [ho] at h
    unfold ap_z; rw [h4]
    rw [if_pos h] at i4
    exact g (by omega) i4
theorem aj_add (hR : ai_R M) (he : e < 700000) {b r x y z : Int32} : ai_J (ax_fn 4 0 (ax_entry 4 [.ref (ax_a 0 0), .int b, .int r, .int x, .int y, .int z, .ref (ax_a 68 0)]) [] (ax_hp X e gb M o)) (fun e' gb' M1 o1 => ax_fn 101 0 (ax_entry 101 [.ref (ax_a 24 0), .int b, .int r, .int x, .int y, .int z]) [] (ax_hp X e' gb' M1 o1)) X e (fun v => some (.int v)) true o := by
  cases h1 : ay_w b (ay_i 12) with
  | false =>
    refine ⟨1, e + 1, gb, M, ax_u3 M 24 0 0 (ay_i 1), o, ay_i 0, ?_, ?_, by simp [ax_u3], by omega, (fun h => by omega), by omega, ai_R_t hR⟩
    · simp (disch := first | omega | assumption | exact ay_z1b _ | exact ay_z10 | exact ay_z11) only [ae_4, af_4_0, af_4_2, af_4_3, af_4_4, af_4_5, af_4_6, af_4_7, af_4_9, af_4_11, af_4_14, af_4_15, af_4_16, af_4_19, af_4_21, af_4_22, af_4_23, af_4_25, af_4_26, af_4_27, af_4_29, af_4_30, af_4_31, af_4_32, ae_77, af_77_0, af_77_1, af_77_3, af_77_6, af_77_9, af_77_10, af_77_12, af_77_15, af_77_18, af_77_19, af_77_20, af_77_22, af_77_24, af_77_27, af_77_30, af_77_31, af_77_34, af_77_37, af_77_38, af_77_39, af_77_41, af_77_43, af_77_46, af_77_48, af_77_51, af_77_52, af_77_55, af_77_56, af_77_59, af_77_61, af_77_62, af_77_63, af_77_65, af_77_67, af_77_70, af_77_71, af_77_74, af_77_76, af_77_79, am_71, h1, ay_bf, am_72f, ah_77, ah_4_0, ay_cl_v, ay_cl_s, ay_i_add, ay_i_mul, ay_i_eq, ay_i_lt, ay_b0, ay_b1, ay_ni, ay_in, ay_nn, ay_nl, ay_ln, if_true, if_false, ↓reduceIte, Nat.reduceAdd, Nat.reduceMul, Nat.reduceEqDiff, Nat.reduceLT, Nat.not_lt_zero, Bool.true_eq_false, Bool.false_eq_true, reduceCtorEq, Nat.add_zero, Nat.zero_add]
    · simp (disch := first | omega | assumption | exact ay_z1b _ | exact ay_z10 | exact ay_z11) only [ae_101, af_101_0, af_101_1, af_101_2, af_101_4, af_101_7, af_101_9, af_101_10, af_101_13, af_101_16, af_101_18, af_101_21, af_101_22, af_101_23, af_101_25, af_101_27, af_101_30, af_101_33, af_101_34, af_101_37, af_101_38, af_101_40, af_101_41, af_101_43, af_101_45, af_101_47, af_101_50, af_101_51, af_101_54, af_101_55, af_101_56, af_101_58, af_101_61, af_101_62, af_101_65, af_101_66, af_101_69, af_101_72, af_101_73, af_101_74, af_101_76, af_101_77, af_101_78, af_101_79, af_101_82, af_101_83, af_101_84, af_101_85, af_101_87, af_101_88, af_101_91, af_101_93, af_101_94, af_101_95, af_101_96, af_101_99, af_101_101, af_101_102, af_101_103, af_101_104, af_101_107, af_101_109, af_101_111, af_101_112, af_101_113, af_101_116, af_101_118, af_101_120, af_101_121, af_101_122, af_101_125, af_101_126, af_101_127, af_101_128, af_101_129, af_101_130, af_101_131, af_101_132, af_101_133, af_101_136, af_101_137, af_101_140, af_101_141, af_101_142, am_98, am_95 (show 8 < 100000 by omega), h1, am_96a, ay_u3e, false_and, and_false, true_and, and_true, and_self, ay_cl_v, ay_cl_s, ay_i_add, ay_i_mul, ay_i_eq, ay_i_lt, ay_b0, ay_b1, ay_ni, ay_in, ay_nn, ay_nl, ay_ln, if_true, if_false, ↓reduceIte, Nat.reduceAdd, Nat.reduceMul, Nat.reduceEqDiff, Nat.reduceLT, Nat.not_lt_zero, Bool.true_eq_false, Bool.false_eq_true, reduceCtorEq, Nat.add_zero, Nat.zero_add]
  | true =>
    obtain ⟨b, hb, rfl, -⟩ := ay_w_inv (by omega) h1
    cases h2 : ay_w r (ay_i 9) with
    | false =>
      refine ⟨2, e + 1, gb, M, ax_u3 M 24 0 0 (ay_i 2), o, ay_i 0, ?_, ?_, by simp [ax_u3], by omega, (fun h => by omega), by omega, ai_R_t hR⟩
      · simp (disch := first | omega | assumption | exact ay_z1b _ | exact ay_z10 | exact ay_z11) only [ae_4, af_4_0, af_4_2, af_4_3, af_4_4, af_4_5, af_4_6, af_4_7, af_4_9, af_4_11, af_4_14, af_4_15, af_4_16, af_4_19, af_4_21, af_4_22, af_4_23, af_4_25, af_4_26, af_4_27, af_4_29, af_4_30, af_4_31, af_4_32, ae_77, af_77_0, af_77_1, af_77_3, af_77_6, af_77_9, af_77_10, af_77_12, af_77_15, af_77_18, af_77_19, af_77_20, af_77_22, af_77_24, af_77_27, af_77_30, af_77_31, af_77_34, af_77_37, af_77_38, af_77_39, af_77_41, af_77_43, af_77_46, af_77_48, af_77_51, af_77_52, af_77_55, af_77_56, af_77_59, af_77_61, af_77_62, af_77_63, af_77_65, af_77_67, af_77_70, af_77_71, af_77_74, af_77_76, af_77_79, am_71, h1, h2, ay_bf, ay_bt, am_72t, am_78f, ah_77, ah_4_1, ay_cl_v, ay_cl_s, ay_i_add, ay_i_mul, ay_i_eq, ay_i_lt, ay_b0, ay_b1, ay_ni, ay_in, ay_nn, ay_nl, ay_ln, if_true, if_false, ↓reduceIte, Nat.reduceAdd, Nat.reduceMul, Nat.reduceEqDiff, Nat.reduceLT, Nat.not_lt_zero, Bool.true_eq_false, Bool.false_eq_true, reduceCtorEq, Nat.add_zero, Nat.zero_add]
      · obtain ⟨r1, r2, -, -⟩ := hR
        have hsz := r1.1 b hb
        have hm40 : M 40 0 b = ay_i (ap_sz (ag_pr M) b) := by rw [← hsz.1, ag_pr_at (by omega) (by omega)]
        by_cases h40 : ap_sz (ag_pr M) b < 40
        · simp (disch := first | omega | assumption | exact ay_z1b _ | exact ay_z10 | exact ay_z11) only [ae_101, af_101_0, af_101_1, af_101_2, af_101_4, af_101_7, af_101_9, af_101_10, af_101_13, af_101_16, af_101_18, af_101_21, af_101_22, af_101_23, af_101_25, af_101_27, af_101_30, af_101_33, af_101_34, af_101_37, af_101_38, af_101_40, af_101_41, af_101_43, af_101_45, af_101_47, af_101_50, af_101_51, af_101_54, af_101_55, af_101_56, af_101_58, af_101_61, af_101_62, af_101_65, af_101_66, af_101_69, af_101_72, af_101_73, af_101_74, af_101_76, af_101_77, af_101_78, af_101_79, af_101_82, af_101_83, af_101_84, af_101_85, af_101_87, af_101_88, af_101_91, af_101_93, af_101_94, af_101_95, af_101_96, af_101_99, af_101_101, af_101_102, af_101_103, af_101_104, af_101_107, af_101_109, af_101_111, af_101_112, af_101_113, af_101_116, af_101_118, af_101_120, af_101_121, af_101_122, af_101_125, af_101_126, af_101_127, af_101_128, af_101_129, af_101_130, af_101_131, af_101_132, af_101_133, af_101_136, af_101_137, af_101_140, af_101_141, af_101_142, am_98, am_95 (show 8 < 100000 by omega), h1, h2, ay_bf, ay_bt, hm40, h40, am_96b, ay_u3e, false_and, and_false, true_and, and_true, and_self, ay_cl_v, ay_cl_s, ay_i_add, ay_i_mul, ay_i_eq, ay_i_lt, ay_b0, ay_b1, ay_ni, ay_in, ay_nn, ay_nl, ay_ln, if_true, if_false, ↓reduceIte, Nat.reduceAdd, Nat.reduceMul, Nat.reduceEqDiff, Nat.reduceLT, Nat.not_lt_zero, Bool.true_eq_false, Bool.false_eq_true, reduceCtorEq, Nat.add_zero, Nat.zero_add]
        · simp (disch := first | omega | assumption | exact ay_z1b _ | exact ay_z10 | exact ay_z11) only [ae_101, af_101_0, af_101_1, af_101_2, af_101_4, af_101_7, af_101_9, af_101_10, af_101_13, af_101_16, af_101_18, af_101_21, af_101_22, af_101_23, af_101_25, af_101_27, af_101_30, af_101_33, af_101_34, af_101_37, af_101_38, af_101_40, af_101_41, af_101_43, af_101_45, af_101_47, af_101_50, af_101_51, af_101_54, af_101_55, af_101_56, af_101_58, af_101_61, af_101_62, af_101_65, af_101_66, af_101_69, af_101_72, af_101_73, af_101_74, af_101_76, af_101_77, af_101_78, af_101_79, af_101_82, af_101_83, af_101_84, af_101_85, af_101_87, af_101_88, af_101_91, af_101_93, af_101_94, af_101_95, af_101_96, af_101_99, af_101_101, af_101_102, af_101_103, af_101_104, af_101_107, af_101_109, af_101_111, af_101_112, af_101_113, af_101_116, af_101_118, af_101_120, af_101_121, af_101_122, af_101_125, af_101_126, af_101_127, af_101_128, af_101_129, af_101_130, af_101_131, af_101_132, af_101_133, af_101_136, af_101_137, af_101_140, af_101_141, af_101_142, am_98, am_95 (show 8 < 100000 by omega), h1, h2, ay_bf, ay_bt, hm40, h40, am_96b, ay_u3e, false_and, and_false, true_and, and_true, and_self, ay_cl_v, ay_cl_s, ay_i_add, ay_i_mul, ay_i_eq, ay_i_lt, ay_b0, ay_b1, ay_ni, ay_in, ay_nn, ay_nl, ay_ln, if_true, if_false, ↓reduceIte, Nat.reduceAdd, Nat.reduceMul, Nat.reduceEqDiff, Nat.reduceLT, Nat.not_lt_zero, Bool.true_eq_false, Bool.false_eq_true, reduceCtorEq, Nat.add_zero, Nat.zero_add]
    | true =>
      obtain ⟨r, hr, rfl, -⟩ := ay_w_inv (by omega) h2
      have h79 := am_79 (h := ax_hp X e gb M o) (r := r) (x := x) (y := y) (z := z) (by omega)
      cases h3 : ai_in r x y z with
      | false =>
        rw [h3] at h79
        refine ⟨1, e + 1, gb, M, ax_u3 M 24 0 0 (ay_i 1), o, ay_i 0, ?_, ?_, by simp [ax_u3], by omega, (fun h => by omega), by omega, ai_R_t hR⟩
        · simp (disch := first | omega | assumption | exact ay_z1b _ | exact ay_z10 | exact ay_z11) only [ae_4, af_4_0, af_4_2, af_4_3, af_4_4, af_4_5, af_4_6, af_4_7, af_4_9, af_4_11, af_4_14, af_4_15, af_4_16, af_4_19, af_4_21, af_4_22, af_4_23, af_4_25, af_4_26, af_4_27, af_4_29, af_4_30, af_4_31, af_4_32, ae_77, af_77_0, af_77_1, af_77_3, af_77_6, af_77_9, af_77_10, af_77_12, af_77_15, af_77_18, af_77_19, af_77_20, af_77_22, af_77_24, af_77_27, af_77_30, af_77_31, af_77_34, af_77_37, af_77_38, af_77_39, af_77_41, af_77_43, af_77_46, af_77_48, af_77_51, af_77_52, af_77_55, af_77_56, af_77_59, af_77_61, af_77_62, af_77_63, af_77_65, af_77_67, af_77_70, af_77_71, af_77_74, af_77_76, af_77_79, am_71, h1, h2, h79, ay_bf, ay_bt, am_72t, am_78t, am_72f, ah_77, ah_4_0, ay_cl_v, ay_cl_s, ay_i_add, ay_i_mul, ay_i_eq, ay_i_lt, ay_b0, ay_b1, ay_ni, ay_in, ay_nn, ay_nl, ay_ln, if_true, if_false, ↓reduceIte, Nat.reduceAdd, Nat.reduceMul, Nat.reduceEqDiff, Nat.reduceLT, Nat.not_lt_zero, Bool.true_eq_false, Bool.false_eq_true, reduceCtorEq, Nat.add_zero, Nat.zero_add]
        · have h102 := am_102 (h := ax_hp X (e + 1) gb M o) (r := r) (x := x) (y := y) (z := z) (by omega)
          rw [h3] at h102
          simp (disch := first | omega | assumption | exact ay_z1b _ | exact ay_z10 | exact ay_z11) only [ae_101, af_101_0, af_101_1, af_101_2, af_101_4, af_101_7, af_101_9, af_101_10, af_101_13, af_101_16, af_101_18, af_101_21, af_101_22, af_101_23, af_101_25, af_101_27, af_101_30, af_101_33, af_101_34, af_101_37, af_101_38, af_101_40, af_101_41, af_101_43, af_101_45, af_101_47, af_101_50, af_101_51, af_101_54, af_101_55, af_101_56, af_101_58, af_101_61, af_101_62, af_101_65, af_101_66, af_101_69, af_101_72, af_101_73, af_101_74, af_101_76, af_101_77, af_101_78, af_101_79, af_101_82, af_101_83, af_101_84, af_101_85, af_101_87, af_101_88, af_101_91, af_101_93, af_101_94, af_101_95, af_101_96, af_101_99, af_101_101, af_101_102, af_101_103, af_101_104, af_101_107, af_101_109, af_101_111, af_101_112, af_101_113, af_101_116, af_101_118, af_101_120, af_101_121, af_101_122, af_101_125, af_101_126, af_101_127, af_101_128, af_101_129, af_101_130, af_101_131, af_101_132, af_101_133, af_101_136, af_101_137, af_101_140, af_101_141, af_101_142, am_98, am_95 (show 8 < 100000 by omega), h1, h2, h102, ay_bf, ay_bt, am_96a, ay_u3e, false_and, and_false, true_and, and_true, and_self, ay_cl_v, ay_cl_s, ay_i_add, ay_i_mul, ay_i_eq, ay_i_lt, ay_b0, ay_b1, ay_ni, ay_in, ay_nn, ay_nl, ay_ln, if_true, if_false, ↓reduceIte, Nat.reduceAdd, Nat.reduceMul, Nat.reduceEqDiff, Nat.reduceLT, Nat.not_lt_zero, Bool.true_eq_false, Bool.false_eq_true, reduceCtorEq, Nat.add_zero, Nat.zero_add]
      | true =>
        rw [h3] at h79
        have hR0 := hR
        obtain ⟨r1, r2, -, -⟩ := hR
        obtain ⟨hsz, hs4⟩ := r1.1 b hb
        have hm40 : M 40 0 b = ay_i (ap_sz (ag_pr M) b) := by rw [← hsz, ag_pr_at (by omega) (by omega)]
        have hc6 : M 3 b 6 = ay_i (ap_sz (ag_pr M) b) := by rw [(r2.1 b hb).1]; exact hsz
        generalize hnn : ap_sz (ag_pr M) b = n at *
        by_cases h40 : n < 40
        · generalize hD : ax_u3 (ax_u3 (ax_u3 (ax_u3 (ax_u3 M 4 b n (ay_i r)) 5 b n x) 6 b n y) 7 b n z) 3 b 6 (ay_i (n + 1)) = D
          have hDc : ∀ f i j, ¬ (4 ≤ f ∧ f ≤ 7 ∧ i = b ∧ j = n) → ¬ (f = 3 ∧ i = b ∧ j = 6) → D f i j = M f i j := by
            intro f i j h1 h2; rw [← hD]; simp only [ax_u3]; grind
          have d4 : D 4 b n = ay_i r := by rw [← hD]; simp [ax_u3]
          have d5 : D 5 b n = x := by rw [← hD]; simp [ax_u3]
          have d6 : D 6 b n = y := by rw [← hD]; simp [ax_u3]
          have d7 : D 7 b n = z := by rw [← hD]; simp [ax_u3]
          have d3 : D 3 b 6 = ay_i (n + 1) := by rw [← hD]; simp [ax_u3]
          have hf36 : ai_fo D 3 b 6 = ay_i (n + 1) := by rw [ai_fo_ne (by omega) (by omega) (by omega)]; exact d3
          have hf40 : ai_fo D 40 0 b = ay_i n := by rw [ai_fo_ne (by omega) (by omega) (by omega), hDc _ _ _ (by omega) (by omega)]; exact hm40
          have h17 : ax_fn 17 0 (ax_entry 17 [.ref (ax_a 3 b), .int (ay_i r), .int x, .int y, .int z]) [] (ax_hp X e gb M o) = some (.inl none, ax_hp X e gb D o) := by
            rw [← hD]
            simp (disch := first | omega | assumption | exact ay_z1b _ | exact ay_z10 | exact ay_z11) only [ae_17, af_17_0, af_17_1, af_17_4, af_17_5, af_17_8, af_17_9, af_17_10, af_17_11, af_17_14, af_17_15, af_17_18, af_17_19, af_17_20, af_17_21, af_17_24, af_17_25, af_17_28, af_17_29, af_17_30, af_17_31, af_17_34, af_17_35, af_17_38, af_17_40, af_17_41, af_17_42, af_17_43, af_17_46, af_17_47, af_17_48, af_17_51, hc6, ay_u3e, false_and, and_false, true_and, and_true, and_self, ay_cl_v, ay_cl_s, ay_i_add, ay_i_mul, ay_i_eq, ay_i_lt, ay_b0, ay_b1, ay_ni, ay_in, ay_nn, ay_nl, ay_ln, if_true, if_false, ↓reduceIte, Nat.reduceAdd, Nat.reduceMul, Nat.reduceEqDiff, Nat.reduceLT, Nat.not_lt_zero, Bool.true_eq_false, Bool.false_eq_true, reduceCtorEq, Nat.add_zero, Nat.zero_add]
          have h102 := am_102 (h := ax_hp X e gb (ai_fo D) (ay_i (n + 1)).toInt64) (r := r) (x := x) (y := y) (z := z) (by omega)
          rw [h3] at h102
          refine ⟨0, e, gb, ai_fo D, ax_u3 (ax_u3 (ax_u3 (ax_u3 (ax_u3 (ax_u3 (ax_u3 (ai_fo D) 24 0 0 (ay_i 0)) 41 0 (40 * b + n) (ay_i r)) 42 0 (40 * b + n) x) 43 0 (40 * b + n) y) 44 0 (40 * b + n) z) 40 0 b (ay_i (n + 1))) 24 0 26 (ay_i 0), (ay_i (n + 1)).toInt64, ay_i (n + 1), ?_, ?_, ?_, by omega, (fun _ _ => rfl), by omega, ?_⟩
          · simp (disch := first | omega | assumption | exact ay_z1b _ | exact ay_z10 | exact ay_z11) only [ae_4, af_4_0, af_4_2, af_4_3, af_4_4, af_4_5, af_4_6, af_4_7, af_4_9, af_4_11, af_4_14, af_4_15, af_4_16, af_4_19, af_4_21, af_4_22, af_4_23, af_4_25, af_4_26, af_4_27, af_4_29, af_4_30, af_4_31, af_4_32, ae_77, af_77_0, af_77_1, af_77_3, af_77_6, af_77_9, af_77_10, af_77_12, af_77_15, af_77_18, af_77_19, af_77_20, af_77_22, af_77_24, af_77_27, af_77_30, af_77_31, af_77_34, af_77_37, af_77_38, af_77_39, af_77_41, af_77_43, af_77_46, af_77_48, af_77_51, af_77_52, af_77_55, af_77_56, af_77_59, af_77_61, af_77_62, af_77_63, af_77_65, af_77_67, af_77_70, af_77_71, af_77_74, af_77_76, af_77_79, am_71, h1, h2, h79, ay_bt, am_72t, am_78t, hc6, h40, am_75t, h17, am_73, hf36, ay_cl_v, ay_cl_s, ay_i_add, ay_i_mul, ay_i_eq, ay_i_lt, ay_b0, ay_b1, ay_ni, ay_in, ay_nn, ay_nl, ay_ln, if_true, if_false, ↓reduceIte, Nat.reduceAdd, Nat.reduceMul, Nat.reduceEqDiff, Nat.reduceLT, Nat.not_lt_zero, Bool.true_eq_false, Bool.false_eq_true, reduceCtorEq, Nat.add_zero, Nat.zero_add]
          · simp (disch := first | omega | assumption | exact ay_z1b _ | exact ay_z10 | exact ay_z11) only [ae_101, af_101_0, af_101_1, af_101_2, af_101_4, af_101_7, af_101_9, af_101_10, af_101_13, af_101_16, af_101_18, af_101_21, af_101_22, af_101_23, af_101_25, af_101_27, af_101_30, af_101_33, af_101_34, af_101_37, af_101_38, af_101_40, af_101_41, af_101_43, af_101_45, af_101_47, af_101_50, af_101_51, af_101_54, af_101_55, af_101_56, af_101_58, af_101_61, af_101_62, af_101_65, af_101_66, af_101_69, af_101_72, af_101_73, af_101_74, af_101_76, af_101_77, af_101_78, af_101_79, af_101_82, af_101_83, af_101_84, af_101_85, af_101_87, af_101_88, af_101_91, af_101_93, af_101_94, af_101_95, af_101_96, af_101_99, af_101_101, af_101_102, af_101_103, af_101_104, af_101_107, af_101_109, af_101_111, af_101_112, af_101_113, af_101_116, af_101_118, af_101_120, af_101_121, af_101_122, af_101_125, af_101_126, af_101_127, af_101_128, af_101_129, af_101_130, af_101_131, af_101_132, af_101_133, af_101_136, af_101_137, af_101_140, af_101_141, af_101_142, am_98, am_95 (show 8 < 100000 by omega), h1, h2, h102, ay_bt, hf40, h40, am_96d, ay_u3e, false_and, and_false, true_and, and_true, and_self, ay_cl_v, ay_cl_s, ay_i_add, ay_i_mul, ay_i_eq, ay_i_lt, ay_b0, ay_b1, ay_ni, ay_in, ay_nn, ay_nl, ay_ln, if_true, if_false, ↓reduceIte, Nat.reduceAdd, Nat.reduceMul, Nat.reduceEqDiff, Nat.reduceLT, Nat.not_lt_zero, Bool.true_eq_false, Bool.false_eq_true, reduceCtorEq, Nat.add_zero, Nat.zero_add]
          · simp [ax_u3]
          · generalize hM2 : ax_u3 (ax_u3 (ax_u3 (ax_u3 (ax_u3 (ax_u3 (ax_u3 (ai_fo D) 24 0 0 (ay_i 0)) 41 0 (40 * b + n) (ay_i r)) 42 0 (40 * b + n) x) 43 0 (40 * b + n) y) 44 0 (40 * b + n) z) 40 0 b (ay_i (n + 1))) 24 0 26 (ay_i 0) = M2
            have m41 : M2 41 0 (40 * b + n) = ay_i r := by rw [← hM2]; simp [ax_u3]
            have m42 : M2 42 0 (40 * b + n) = x := by rw [← hM2]; simp [ax_u3]
            have m43 : M2 43 0 (40 * b + n) = y := by rw [← hM2]; simp [ax_u3]
            have m44 : M2 44 0 (40 * b + n) = z := by rw [← hM2]; simp [ax_u3]
            have m40 : M2 40 0 b = ay_i (n + 1) := by rw [← hM2]; simp [ax_u3]
            have mF : ∀ f i j, ¬ (41 ≤ f ∧ f ≤ 44 ∧ j = 40 * b + n) → ¬ (f = 40 ∧ j = b) → ¬ (f = 24) → M2 f i j = ai_fo D f i j := by
              intro f i j h1 h2 h3; rw [← hM2]; simp only [ax_u3]; grind
            have mO : ∀ f i j, ¬ (41 ≤ f ∧ f ≤ 44 ∧ j = 40 * b + n) → ¬ (f = 40 ∧ j = b) → ¬ (f = 24) → ¬ f = 16 → ¬ f = 9 → ¬ f = 18 → ¬ (4 ≤ f ∧ f ≤ 7 ∧ i = b ∧ j = n) → ¬ (f = 3 ∧ i = b ∧ j = 6) → M2 f i j = M f i j := by
              intro f i j q1 q2 q3 q4 q5 q6 q7 q8
              rw [mF f i j q1 q2 q3, ai_fo_ne q4 (by omega) (by omega), hDc f i j q7 q8]
            have mP : ∀ f j, 31 ≤ f → f ≤ 44 → ¬ (41 ≤ f ∧ f ≤ 44 ∧ j = 40 * b + n) → ¬ (f = 40 ∧ j = b) → ag_pr M2 f 0 j = ag_pr M f 0 j := by
              intro f j q1 q2 q3 q4
              rw [ag_pr_at q1 q2, ag_pr_at q1 q2]; exact mO f 0 j q3 q4 (by omega) (by omega) (by omega) (by omega) (by omega) (by omega)
            have p40 : ag_pr M2 40 0 b = ay_i (n + 1) := by rw [ag_pr_at (by omega) (by omega)]; exact m40
            have p41 : ag_pr M2 41 0 (40 * b + n) = ay_i r := by rw [ag_pr_at (by omega) (by omega)]; exact m41
            have p42 : ag_pr M2 42 0 (40 * b + n) = x := by rw [ag_pr_at (by omega) (by omega)]; exact m42
            have p43 : ag_pr M2 43 0 (40 * b + n) = y := by rw [ag_pr_at (by omega) (by omega)]; exact m43
            have p44 : ag_pr M2 44 0 (40 * b + n) = z := by rw [ag_pr_at (by omega) (by omega)]; exact m44
            have szb : ap_sz (ag_pr M2) b = n + 1 := by unfold ap_sz; rw [p40]; exact ay_i_ct (by omega)
            have hsz' : ∀ c, c < 12 → c ≠ b → ap_sz (ag_pr M2) c = ap_sz (ag_pr M) c := fun c hc hcb => by unfold ap_sz; rw [mP 40 c (by omega) (by omega) (by omega) (by omega)]
            refine ai_R0 ?_ ?_ ?_ ?_ ?_ ?_
            · refine ap_wf_ch r1 (.inr (fun c hc => ?_)) (.inl (fun b hb => mP _ _ (by omega) (by omega) (by omega) (by omega))) (.inr (fun c p hc hp => ?_)) (.inl (fun f j q1 q2 => mP _ _ (by omega) (by omega) (by omega) (by omega))) (.inl (fun f j q1 q2 => mP _ _ (by omega) (by omega) (by omega) (by omega))) (.inl (fun f j q1 q2 => mP _ _ (by omega) (by omega) (by omega) (by omega)))
              · by_cases hcb : c = b
                · subst hcb; rw [szb, p40]; exact ⟨rfl, by omega⟩
                · rw [hsz' c hc hcb, mP 40 c (by omega) (by omega) (by omega) (by omega)]; exact r1.1 c hc
              · by_cases hcp : c = b ∧ p = n
                · obtain ⟨rfl, rfl⟩ := hcp
                  exact ap_wi_in (by omega) p41 p42 p43 p44 h3
                · have hp2 : p < ap_sz (ag_pr M) c := by
                    by_cases hcb : c = b
                    · subst hcb; rw [szb] at hp; rw [hnn]; omega
                    · rw [hsz' c hc hcb] at hp; exact hp
                  have hc40 := (r1.1 c hc).2
                  have hix : 40 * c + p ≠ 40 * b + n := by omega
                  exact ap_wi_ext (r1.2.2.1 c p hc hp2) (mP _ _ (by omega) (by omega) (by omega) (by omega)) (mP _ _ (by omega) (by omega) (by omega) (by omega)) (mP _ _ (by omega) (by omega) (by omega) (by omega)) (mP _ _ (by omega) (by omega) (by omega) (by omega))
            · refine ac_p_ch r2 (fun c hc => ?_) (.inr (fun c p hc hp => ?_)) ⟨fun i j q1 => mO _ _ _ (by omega) (by omega) (by omega) (by omega) (by omega) (by omega) (by omega) (by omega), fun f j q1 q2 => mP _ _ (by omega) (by omega) (by omega) (by omega)⟩ (.inl ⟨fun i j q1 q2 => mO _ _ _ (by omega) (by omega) (by omega) (by omega) (by omega) (by omega) (by omega) (by omega), fun f j q1 q2 => mP _ _ (by omega) (by omega) (by omega) (by omega)⟩) (.inl ⟨fun i j q1 => mO _ _ _ (by omega) (by omega) (by omega) (by omega) (by omega) (by omega) (by omega) (by omega), fun f j q1 q2 => mP _ _ (by omega) (by omega) (by omega) (by omega)⟩) (fun b hb => (r1.2.1 b hb).2)
              · rw [mO 3 c 7 (by omega) (by omega) (by omega) (by omega) (by omega) (by omega) (by omega) (by omega), mP 33 c (by omega) (by omega) (by omega) (by omega)]
                by_cases hcb : c = b
                · subst hcb
                  rw [p40, mF 3 c 6 (by omega) (by omega) (by omega), hf36]; exact ⟨rfl, (r2.1 c hc).2⟩
                · rw [mO 3 c 6 (by omega) (by omega) (by omega) (by omega) (by omega) (by omega) (by omega) (by omega), mP 40 c (by omega) (by omega) (by omega) (by omega)]; exact r2.1 c hc
              · by_cases hcp : c = b ∧ p = n
                · obtain ⟨rfl, rfl⟩ := hcp
                  have rd : ∀ f, 4 ≤ f → f ≤ 7 → M2 f c p = D f c p := by
                    intro f q1 q2; rw [mF f c p (by omega) (by omega) (by omega), ai_fo_ne (by omega) (by omega) (by omega)]
                  rw [rd 4 (by omega) (by omega), rd 5 (by omega) (by omega), rd 6 (by omega) (by omega), rd 7 (by omega) (by omega), p41, p42, p43, p44]
                  exact ⟨d4, d5, d6, d7⟩
                · have hix : 40 * c + p ≠ 40 * b + n := by omega
                  rw [mO 4 c p (by omega) (by omega) (by omega) (by omega) (by omega) (by omega) (by omega) (by omega), mO 5 c p (by omega) (by omega) (by omega) (by omega) (by omega) (by omega) (by omega) (by omega), mO 6 c p (by omega) (by omega) (by omega) (by omega) (by omega) (by omega) (by omega) (by omega), mO 7 c p (by omega) (by omega) (by omega) (by omega) (by omega) (by omega) (by omega) (by omega), mP 41 _ (by omega) (by omega) (by omega) (by omega), mP 42 _ (by omega) (by omega) (by omega) (by omega), mP 43 _ (by omega) (by omega) (by omega) (by omega), mP 44 _ (by omega) (by omega) (by omega) (by omega)]; exact r2.2.1 c p hc hp
            · intro b hb; rw [mF _ _ _ (by omega) (by omega) (by omega)]; exact ai_fo_16 hb
            · rw [mF _ _ _ (by omega) (by omega) (by omega)]; exact ai_fo_9
            · rw [mF _ _ _ (by omega) (by omega) (by omega)]; exact ai_fo_18
            · rw [← hM2]; simp [ax_u3]
        · have h102 := am_102 (h := ax_hp X (e + 1) gb M o) (r := r) (x := x) (y := y) (z := z) (by omega)
          rw [h3] at h102
          refine ⟨3, e + 1, gb, M, ax_u3 M 24 0 0 (ay_i 3), o, ay_i 0, ?_, ?_, by simp [ax_u3], by omega, (fun h => by omega), by omega, ai_R_t hR0⟩
          · simp (disch := first | omega | assumption | exact ay_z1b _ | exact ay_z10 | exact ay_z11) only [ae_4, af_4_0, af_4_2, af_4_3, af_4_4, af_4_5, af_4_6, af_4_7, af_4_9, af_4_11, af_4_14, af_4_15, af_4_16, af_4_19, af_4_21, af_4_22, af_4_23, af_4_25, af_4_26, af_4_27, af_4_29, af_4_30, af_4_31, af_4_32, ae_77, af_77_0, af_77_1, af_77_3, af_77_6, af_77_9, af_77_10, af_77_12, af_77_15, af_77_18, af_77_19, af_77_20, af_77_22, af_77_24, af_77_27, af_77_30, af_77_31, af_77_34, af_77_37, af_77_38, af_77_39, af_77_41, af_77_43, af_77_46, af_77_48, af_77_51, af_77_52, af_77_55, af_77_56, af_77_59, af_77_61, af_77_62, af_77_63, af_77_65, af_77_67, af_77_70, af_77_71, af_77_74, af_77_76, af_77_79, am_71, h1, h2, h79, ay_bt, am_72t, am_78t, hc6, h40, am_75f, ah_77, ah_4_2, ay_cl_v, ay_cl_s, ay_i_add, ay_i_mul, ay_i_eq, ay_i_lt, ay_b0, ay_b1, ay_ni, ay_in, ay_nn, ay_nl, ay_ln, if_true, if_false, ↓reduceIte, Nat.reduceAdd, Nat.reduceMul, Nat.reduceEqDiff, Nat.reduceLT, Nat.not_lt_zero, Bool.true_eq_false, Bool.false_eq_true, reduceCtorEq, Nat.add_zero, Nat.zero_add]
          · simp (disch := first | omega | assumption | exact ay_z1b _ | exact ay_z10 | exact ay_z11) only [ae_101, af_101_0, af_101_1, af_101_2, af_101_4, af_101_7, af_101_9, af_101_10, af_101_13, af_101_16, af_101_18, af_101_21, af_101_22, af_101_23, af_101_25, af_101_27, af_101_30, af_101_33, af_101_34, af_101_37, af_101_38, af_101_40, af_101_41, af_101_43, af_101_45, af_101_47, af_101_50, af_101_51, af_101_54, af_101_55, af_101_56, af_101_58, af_101_61, af_101_62, af_101_65, af_101_66, af_101_69, af_101_72, af_101_73, af_101_74, af_101_76, af_101_77, af_101_78, af_101_79, af_101_82, af_101_83, af_101_84, af_101_85, af_101_87, af_101_88, af_101_91, af_101_93, af_101_94, af_101_95, af_101_96, af_101_99, af_101_101, af_101_102, af_101_103, af_101_104, af_101_107, af_101_109, af_101_111, af_101_112, af_101_113, af_101_116, af_101_118, af_101_120, af_101_121, af_101_122, af_101_125, af_101_126, af_101_127, af_101_128, af_101_129, af_101_130, af_101_131, af_101_132, af_101_133, af_101_136, af_101_137, af_101_140, af_101_141, af_101_142, am_98, am_95 (show 8 < 100000 by omega), h1, h2, h102, ay_bt, hm40, h40, am_96c, ay_u3e, false_and, and_false, true_and, and_true, and_self, ay_cl_v, ay_cl_s, ay_i_add, ay_i_mul, ay_i_eq, ay_i_lt, ay_b0, ay_b1, ay_ni, ay_in, ay_nn, ay_nl, ay_ln, if_true, if_false, ↓reduceIte, Nat.reduceAdd, Nat.reduceMul, Nat.reduceEqDiff, Nat.reduceLT, Nat.not_lt_zero, Bool.true_eq_false, Bool.false_eq_true, reduceCtorEq, Nat.add_zero, Nat.zero_add]
end AmF3
