/-! the reference's machine: step -/
section AmP
variable {X : Nat × (Nat → Int32)} {e gb : Nat} {M C P : ax_M} {o : Int64} {k q b p : Nat}
theorem ab_mmc {D M' : ax_M} {q' : Nat} (hm : ai_mm C M (k + 1) q) (h2 : C 22 k 2 = ay_i p) (d1 : M' 58 0 (k + 1) = D 22 (k + 1) 1) (d2 : M' 59 0 (k + 1) = D 22 (k + 1) 2) (d3 : M' 61 0 (k + 1) = D 22 (k + 1) 3) (d4 : ∀ l, l < 8 → M' 60 0 (8 * (k + 1) + l) = D 23 (k + 1) l)
    (a1 : M' 24 0 27 = ay_i (k + 2)) (a2 : M' 24 0 35 = ay_i q') (a3 : M' 24 0 34 = M 24 0 34) (a4 : D 18 0 9 = C 18 0 9)
    (fC : ∀ f i j, f = 22 ∨ f = 23 → i ≤ k → D f i j = C f i j) (fM : ∀ f j, j ≤ k → f = 58 ∨ f = 61 → M' f 0 j = M f 0 j) (f59 : ∀ j, j < k → M' 59 0 j = M 59 0 j) (f59k : M' 59 0 k = ay_i (p + 1)) (f60 : ∀ j, j < 8 * (k + 1) → M' 60 0 j = M 60 0 j)
    (ob : ∀ i, i < q' → M' 66 0 i = D 19 0 i ∧ ∀ z, z < 4 → M' 67 0 (4 * i + z) = D 20 0 (4 * i + z)) : ai_mm D M' (k + 2) q' := by
  obtain ⟨m1, m2, m3, m4, m5⟩ := hm
  refine ⟨a1, a2, by rw [a3, a4]; exact m3, fun m hmk => ?_, ob⟩
  by_cases h : m = k + 1
  · subst h
    exact ⟨d1, by rw [if_pos rfl]; exact d2, d3, d4⟩
  · obtain ⟨n1, n2, n3, n4⟩ := m4 m (by omega)
    refine ⟨by rw [fM 58 m (by omega) (.inl rfl), fC 22 m 1 (.inl rfl) (by omega)]; exact n1, ?_, by rw [fM 61 m (by omega) (.inr rfl), fC 22 m 3 (.inl rfl) (by omega)]; exact n3, fun l hl => by rw [f60 _ (by omega), fC 23 m l (.inr rfl) (by omega)]; exact n4 l hl⟩
    rw [if_neg (by omega), fC 22 m 2 (.inl rfl) (by omega)]
    by_cases hk : m = k
    · subst hk; rw [f59k, h2, ay_i_add]
    · rw [f59 m (by omega), n2, if_neg (by omega)]
theorem am_129 (hc : ai_mc C P (k + 1) q) (hm : ai_mm C M (k + 1) q) (hP : ac_m M P) (hW : ap_wf P) (hb : b < 12) (h1 : C 22 k 1 = ay_i b) (hpn : p < ap_sz P b) (h2 : C 22 k 2 = ay_i p) (ht : ab_tr P C k q b p = 0) : ∃ M' : ax_M, ax_fn 129 0 (ax_entry 129 [.ref (ax_a 24 0)]) [] (ax_hp X e gb M o) = some (.inl none, ax_hp X e gb M' o) ∧ ab_fm M M' ∧ ai_mm (ab_nx P C k q b p) M' (ab_d (ap_o P b p) k) (ab_q (ap_o P b p) q) := by
  obtain ⟨c1, c2, c3, c4, c5, c6⟩ := id hc
  obtain ⟨m1, m2, m3, m4, m5⟩ := id hm
  have hk : k < 20 := by omega
  obtain ⟨n1, n2, n3, n4⟩ := m4 k (by omega)
  rw [if_pos rfl] at n2
  rw [h1] at n1
  rw [h2] at n2
  have hsz := hW.1 b hb
  have hp4 : p < 40 := by omega
  have ha : 40 * b + p < 480 := by omega
  have h127 := am_127 (X := X) (e := e) (gb := gb) (o := o) m1 n1 n2 hk
  obtain ⟨w1, w2, w3, w4, w5, w6⟩ := hW.2.2.1 b p hb hpn
  have lv := (c5 k (by omega)).2.2
  have h41 : M 41 0 (40 * b + p) = ay_i (ap_o P b p) := by rw [hP _ _ (by omega) (by omega)]; exact w1
  have h42 : M 42 0 (40 * b + p) = P 42 0 (40 * b + p) := hP _ _ (by omega) (by omega)
  have h43 : M 43 0 (40 * b + p) = P 43 0 (40 * b + p) := hP _ _ (by omega) (by omega)
  have h44 : M 44 0 (40 * b + p) = P 44 0 (40 * b + p) := hP _ _ (by omega) (by omega)
  generalize hN : ax_u3 M 59 0 k (ay_i (p + 1)) = N
  have nF : ∀ f i j, ¬ (f = 59 ∧ i = 0 ∧ j = k) → N f i j = M f i j := by intro f i j h; rw [← hN]; simp only [ax_u3]; grind
  have n59 : N 59 0 k = ay_i (p + 1) := by rw [← hN]; simp [ax_u3]
  have n27 : N 24 0 27 = ay_i (k + 1) := by rw [nF _ _ _ (by omega)]; exact m1
  have n35 : N 24 0 35 = ay_i q := by rw [nF _ _ _ (by omega)]; exact m2
  have h128 : ∀ x, x < 8 → ax_fn 128 0 (ax_entry 128 [.ref (ax_a 24 0), .int (ay_i x)]) [] (ax_hp X e gb N o) = some (.inl (some (.int (C 23 k x))), ax_hp X e gb N o) := by
    intro x hx
    have := am_128 (X := X) (e := e) (gb := gb) (o := o) n27 hk hx
    rw [nF _ _ _ (by omega), n4 x hx] at this
    exact this
  have i160 : ∀ x, x < 8 → 8 * k + x < 160 := fun x hx => by omega
  have top : ∀ C' M' : ax_M, (∀ f i j, ¬ (f = 22 ∧ i = k ∧ j = 2) → ¬ (f = 23 ∧ i = k) → ¬ f = 20 → C' f i j = C f i j) → (∀ f i j, ¬ (f = 59 ∧ i = 0 ∧ j = k) → ¬ (f = 60 ∧ i = 0 ∧ 8 * k ≤ j) → ¬ f = 67 → M' f i j = M f i j) → M' 59 0 k = C' 22 k 2 → (∀ l, l < 8 → M' 60 0 (8 * k + l) = C' 23 k l) → (∀ i z, i < q → z < 4 → M' 67 0 (4 * i + z) = C' 20 0 (4 * i + z)) → ai_mm C' M' (k + 1) q := by
    intro C' M' hf hg g1 g2 g3
    refine ⟨by rw [hg _ _ _ (by omega) (by omega) (by omega)]; exact m1, by rw [hg _ _ _ (by omega) (by omega) (by omega)]; exact m2, by rw [hg _ _ _ (by omega) (by omega) (by omega), hf _ _ _ (by omega) (by omega) (by omega)]; exact m3, fun m hmk => ?_, fun i hi => ⟨by rw [hg _ _ _ (by omega) (by omega) (by omega), hf _ _ _ (by omega) (by omega) (by omega)]; exact (m5 i hi).1, fun z hz => g3 i z hi hz⟩⟩
    obtain ⟨s1, s2, s3, s4⟩ := m4 m hmk
    refine ⟨by rw [hg _ _ _ (by omega) (by omega) (by omega), hf _ _ _ (by omega) (by omega) (by omega)]; exact s1, ?_, by rw [hg _ _ _ (by omega) (by omega) (by omega), hf _ _ _ (by omega) (by omega) (by omega)]; exact s3, fun l hl => ?_⟩
    · by_cases hkk : m = k
      · subst hkk; rw [if_pos rfl]; exact g1
      · rw [hg _ _ _ (by omega) (by omega) (by omega), hf _ _ _ (by omega) (by omega) (by omega)]; exact s2
    · by_cases hkk : m = k
      · subst hkk; exact g2 l hl
      · rw [hg _ _ _ (by omega) (by omega) (by omega), hf _ _ _ (by omega) (by omega) (by omega)]; exact s4 l hl
  have g60 : ∀ l, l < 8 → N 60 0 (8 * k + l) = C 23 k l := fun l hl => by rw [nF _ _ _ (by omega)]; exact n4 l hl
  have g67 : ∀ i z, i < q → z < 4 → N 67 0 (4 * i + z) = C 20 0 (4 * i + z) := fun i z hi hz => by rw [nF _ _ _ (by omega)]; exact (m5 i hi).2 z hz
  have : ap_o P b p = 0 ∨ ap_o P b p = 1 ∨ ap_o P b p = 2 ∨ ap_o P b p = 3 ∨ ap_o P b p = 4 ∨ ap_o P b p = 5 ∨ ap_o P b p = 6 ∨ ap_o P b p = 7 ∨ ap_o P b p = 8 := by omega
  rcases this with ho | ho | ho | ho | ho | ho | ho | ho | ho <;> rw [ho] at h41 <;> simp only [ab_nx, ho, ab_d, ab_q]
  · obtain ⟨x1, x2⟩ := w3 (by omega)
    obtain ⟨y1, y2⟩ := w4 (by omega)
    rw [x1] at h42; rw [y1] at h43
    have i1 := i160 _ x2
    have hy := h128 _ y2
    refine ⟨ax_u3 N 60 0 (8 * k + ap_x P b p) (C 23 k (ap_y P b p)), ?_, ?_, ?_⟩
    · simp (disch := first | omega | assumption | exact ay_z1b _ | exact ay_z10 | exact ay_z11) only [ae_129, af_129_0, af_129_1, af_129_4, af_129_5, af_129_8, af_129_9, af_129_10, af_129_11, af_129_14, af_129_15, af_129_18, af_129_19, af_129_20, af_129_21, af_129_24, af_129_25, af_129_28, af_129_29, af_129_30, af_129_31, af_129_34, af_129_35, af_129_38, af_129_39, af_129_41, af_129_43, af_129_44, af_129_47, af_129_48, af_129_50, af_129_51, af_129_53, af_129_54, af_129_57, af_129_58, af_129_61, af_129_62, af_129_63, af_129_64, af_129_65, af_129_66, af_129_67, af_129_68, af_129_69_0, af_129_69_1, af_129_69_2, af_129_69_3, af_129_69_4, af_129_69_5, af_129_69_6, af_129_69_7, af_129_69_8, af_129_116, af_129_117, af_129_120, af_129_122, af_129_123, af_129_124, af_129_125, af_129_126, af_129_129, af_129_130, af_129_133, af_129_134, af_129_137, af_129_139, af_129_140, af_129_141, af_129_142, af_129_143, af_129_146, af_129_147, af_129_148, af_129_150, af_129_151, af_129_152, af_129_155, af_129_158, af_129_161, af_129_162, af_129_165, af_129_167, af_129_168, af_129_169, af_129_170, af_129_173, af_129_174, af_129_175, af_129_176, af_129_179, af_129_180, af_129_182, af_129_183, af_129_184, af_129_185, af_129_188, af_129_189, af_129_192, af_129_193, af_129_194, af_129_195, af_129_198, af_129_199, af_129_201, af_129_202, af_129_203, af_129_204, af_129_207, af_129_208, af_129_211, af_129_212, af_129_215, af_129_216, af_129_219, af_129_220, af_129_221, af_129_222, af_129_223, af_129_226, af_129_227, af_129_230, af_129_231, af_129_234, af_129_235, af_129_238, af_129_239, af_129_242, af_129_243, af_129_244, af_129_245, af_129_246, af_129_249, af_129_250, af_129_253, af_129_254, af_129_257, af_129_258, af_129_259, af_129_260, af_129_261, af_129_264, af_129_265, af_129_267, af_129_268, af_129_269, af_129_271, af_129_272, af_129_275, af_129_278, af_129_279, af_129_280, af_129_283, m1, ay_s1, ay_s8, n2, h127, h41, h42, h43, h44, hN, hy, ay_cl_v, ay_cl_s, ay_i_add, ay_i_mul, ay_i_eq, ay_i_lt, ay_b0, ay_b1, ay_ni, ay_in, ay_nn, ay_nl, ay_ln, if_true, if_false, ↓reduceIte, Nat.reduceAdd, Nat.reduceMul, Nat.reduceEqDiff, Nat.reduceLT, Nat.not_lt_zero, Bool.true_eq_false, Bool.false_eq_true, reduceCtorEq, Nat.add_zero, Nat.zero_add]
    · intro f i j a1 a2 a3
      have := nF f i j (by omega)
      simp only [ax_u3]; grind
    · refine top _ _ (fun f i j a1 a2 a3 => by simp only [ax_u3]; grind) (fun f i j a1 a2 a3 => ?_) ?_ (fun l hl => ?_) (fun i z hi hz => ?_)
      · rw [← nF f i j a1]; simp only [ax_u3]; grind
      · simp only [ax_u3]; simp [n59]
      · have := g60 l hl
        simp only [ax_u3]; grind
      · have := g67 i z hi hz
        simp only [ax_u3]; grind
  · obtain ⟨x1, x2⟩ := w3 (by omega)
    rw [x1] at h42
    have i1 := i160 _ x2
    refine ⟨ax_u3 N 60 0 (8 * k + ap_x P b p) (ay_n 1), ?_, ?_, ?_⟩
    · simp (disch := first | omega | assumption | exact ay_z1b _ | exact ay_z10 | exact ay_z11) only [ae_129, af_129_0, af_129_1, af_129_4, af_129_5, af_129_8, af_129_9, af_129_10, af_129_11, af_129_14, af_129_15, af_129_18, af_129_19, af_129_20, af_129_21, af_129_24, af_129_25, af_129_28, af_129_29, af_129_30, af_129_31, af_129_34, af_129_35, af_129_38, af_129_39, af_129_41, af_129_43, af_129_44, af_129_47, af_129_48, af_129_50, af_129_51, af_129_53, af_129_54, af_129_57, af_129_58, af_129_61, af_129_62, af_129_63, af_129_64, af_129_65, af_129_66, af_129_67, af_129_68, af_129_69_0, af_129_69_1, af_129_69_2, af_129_69_3, af_129_69_4, af_129_69_5, af_129_69_6, af_129_69_7, af_129_69_8, af_129_116, af_129_117, af_129_120, af_129_122, af_129_123, af_129_124, af_129_125, af_129_126, af_129_129, af_129_130, af_129_133, af_129_134, af_129_137, af_129_139, af_129_140, af_129_141, af_129_142, af_129_143, af_129_146, af_129_147, af_129_148, af_129_150, af_129_151, af_129_152, af_129_155, af_129_158, af_129_161, af_129_162, af_129_165, af_129_167, af_129_168, af_129_169, af_129_170, af_129_173, af_129_174, af_129_175, af_129_176, af_129_179, af_129_180, af_129_182, af_129_183, af_129_184, af_129_185, af_129_188, af_129_189, af_129_192, af_129_193, af_129_194, af_129_195, af_129_198, af_129_199, af_129_201, af_129_202, af_129_203, af_129_204, af_129_207, af_129_208, af_129_211, af_129_212, af_129_215, af_129_216, af_129_219, af_129_220, af_129_221, af_129_222, af_129_223, af_129_226, af_129_227, af_129_230, af_129_231, af_129_234, af_129_235, af_129_238, af_129_239, af_129_242, af_129_243, af_129_244, af_129_245, af_129_246, af_129_249, af_129_250, af_129_253, af_129_254, af_129_257, af_129_258, af_129_259, af_129_260, af_129_261, af_129_264, af_129_265, af_129_267, af_129_268, af_129_269, af_129_271, af_129_272, af_129_275, af_129_278, af_129_279, af_129_280, af_129_283, m1, ay_s1, ay_s8, n2, h127, h41, h42, h43, h44, hN, ay_cl_v, ay_cl_s, ay_i_add, ay_i_mul, ay_i_eq, ay_i_lt, ay_b0, ay_b1, ay_ni, ay_in, ay_nn, ay_nl, ay_ln, if_true, if_false, ↓reduceIte, Nat.reduceAdd, Nat.reduceMul, Nat.reduceEqDiff, Nat.reduceLT, Nat.not_lt_zero, Bool.true_eq_false, Bool.false_eq_true, reduceCtorEq, Nat.add_zero, Nat.zero_add]
    · intro f i j a1 a2 a3
      have := nF f i j (by omega)
      simp only [ax_u3]; grind
    · refine top _ _ (fun f i j a1 a2 a3 => by simp only [ax_u3]; grind) (fun f i j a1 a2 a3 => ?_) ?_ (fun l hl => ?_) (fun i z hi hz => ?_)
      · rw [← nF f i j a1]; simp only [ax_u3]; grind
      · simp only [ax_u3]; simp [n59]
      · have := g60 l hl
        simp only [ax_u3]; grind
      · have := g67 i z hi hz
        simp only [ax_u3]; grind
  · obtain ⟨⟨y1, y2⟩, z1, z2⟩ := w5 (by omega)
    rw [y1] at h43; rw [z1] at h44
    have hq60 : q < 60 := by
      simp only [ab_tr, ho] at ht
      split at ht
      · omega
      · omega
    have hk19 : k < 19 := by
      simp only [ab_tr, ho] at ht
      split at ht
      · omega
      · split at ht <;> omega
    have hmn := hW.2.1 (ap_y P b p) (by omega)
    have hmn3 := hmn.2
    have h33 : N 33 0 (ap_y P b p) = ay_i (ap_mn P (ap_y P b p)) := by rw [nF _ _ _ (by omega), hP _ _ (by omega) (by omega)]; exact hmn.1
    have h130 := am_130 (X := X) (e := e) (gb := gb) (o := o) (vc := ay_i (ap_y P b p)) hq60 n35
    generalize hQ : ab_m3 (ax_u3 N 66 0 q (ay_i (ap_y P b p))) q 0 = Q at h130
    have qF : ∀ f i j, ¬ (f = 66 ∧ i = 0 ∧ j = q) → ¬ (f = 67 ∧ i = 0 ∧ 4 * q ≤ j ∧ j < 4 * q + 4) → ¬ (f = 24 ∧ i = 0 ∧ j = 35) → Q f i j = N f i j := by
      intro f i j a1 a2 a3; rw [← hQ]; simp only [ab_m3, ax_u3]; grind
    have q35 : Q 24 0 35 = ay_i (q + 1) := by rw [← hQ]; simp [ab_m3]
    have q66 : Q 66 0 q = ay_i (ap_y P b p) := by rw [← hQ]; simp [ab_m3, ax_u3]
    have q67 : ∀ z, z < 4 → Q 67 0 (4 * q + z) = ay_n 1 := by intro z hz; rw [← hQ]; simp [ab_m3]; omega
    have h124 := am_124 (X := X) (e := e) (gb := gb) (o := o) (M := Q) (mk := ay_i q) (b := ap_y P b p) (d := k + 1) (by omega) z2 (by omega) hmn.2 (by rw [qF _ _ _ (by omega) (by omega) (by omega)]; exact n27) (by rw [qF _ _ _ (by omega) (by omega) (by omega)]; exact h33)
    refine ⟨ab_o2 Q (k + 1) (ap_y P b p) (ap_z P b p) (ap_mn P (ap_y P b p)) (ay_i q), ?_, ?_, ?_⟩
    · simp (disch := first | omega | assumption | exact ay_z1b _ | exact ay_z10 | exact ay_z11) only [ae_129, af_129_0, af_129_1, af_129_4, af_129_5, af_129_8, af_129_9, af_129_10, af_129_11, af_129_14, af_129_15, af_129_18, af_129_19, af_129_20, af_129_21, af_129_24, af_129_25, af_129_28, af_129_29, af_129_30, af_129_31, af_129_34, af_129_35, af_129_38, af_129_39, af_129_41, af_129_43, af_129_44, af_129_47, af_129_48, af_129_50, af_129_51, af_129_53, af_129_54, af_129_57, af_129_58, af_129_61, af_129_62, af_129_63, af_129_64, af_129_65, af_129_66, af_129_67, af_129_68, af_129_69_0, af_129_69_1, af_129_69_2, af_129_69_3, af_129_69_4, af_129_69_5, af_129_69_6, af_129_69_7, af_129_69_8, af_129_116, af_129_117, af_129_120, af_129_122, af_129_123, af_129_124, af_129_125, af_129_126, af_129_129, af_129_130, af_129_133, af_129_134, af_129_137, af_129_139, af_129_140, af_129_141, af_129_142, af_129_143, af_129_146, af_129_147, af_129_148, af_129_150, af_129_151, af_129_152, af_129_155, af_129_158, af_129_161, af_129_162, af_129_165, af_129_167, af_129_168, af_129_169, af_129_170, af_129_173, af_129_174, af_129_175, af_129_176, af_129_179, af_129_180, af_129_182, af_129_183, af_129_184, af_129_185, af_129_188, af_129_189, af_129_192, af_129_193, af_129_194, af_129_195, af_129_198, af_129_199, af_129_201, af_129_202, af_129_203, af_129_204, af_129_207, af_129_208, af_129_211, af_129_212, af_129_215, af_129_216, af_129_219, af_129_220, af_129_221, af_129_222, af_129_223, af_129_226, af_129_227, af_129_230, af_129_231, af_129_234, af_129_235, af_129_238, af_129_239, af_129_242, af_129_243, af_129_244, af_129_245, af_129_246, af_129_249, af_129_250, af_129_253, af_129_254, af_129_257, af_129_258, af_129_259, af_129_260, af_129_261, af_129_264, af_129_265, af_129_267, af_129_268, af_129_269, af_129_271, af_129_272, af_129_275, af_129_278, af_129_279, af_129_280, af_129_283, m1, ay_s1, ay_s8, n2, h127, h41, h42, h43, h44, hN, h130, h124, ay_cl_v, ay_cl_s, ay_i_add, ay_i_mul, ay_i_eq, ay_i_lt, ay_b0, ay_b1, ay_ni, ay_in, ay_nn, ay_nl, ay_ln, if_true, if_false, ↓reduceIte, Nat.reduceAdd, Nat.reduceMul, Nat.reduceEqDiff, Nat.reduceLT, Nat.not_lt_zero, Bool.true_eq_false, Bool.false_eq_true, reduceCtorEq, Nat.add_zero, Nat.zero_add]
    · intro f i j a1 a2 a3
      rw [← nF f i j (by omega), ← qF f i j (by omega) (by omega) (by omega)]
      simp only [ab_o2]
      rw [if_neg (by omega), if_neg (by omega), if_neg (by omega), if_neg (by omega), if_neg (by omega)]
    · refine ab_mmc hm h2 ?_ ?_ ?_ ?_ ?_ ?_ ?_ ?_ ?_ ?_ ?_ ?_ ?_ ?_
      · simp [ab_o2, ab_m2, ab_ca, ax_u3]
      · simp [ab_o2, ab_m2, ab_ca, ax_u3]
      · simp [ab_o2, ab_m2, ab_ca, ax_u3]
      · intro l hl
        have gg : l < ap_mn P (ap_y P b p) ∧ ap_z P b p + l < 8 → Q 60 0 (8 * (k + 1) + l + ap_z P b p - 8) = C 23 k (ap_z P b p + l) := by
          intro hh
          have e1 : 8 * (k + 1) + l + ap_z P b p - 8 = 8 * k + (ap_z P b p + l) := by omega
          rw [qF _ _ _ (by omega) (by omega) (by omega), e1]; exact g60 _ hh.2
        simp only [ab_o2, ab_m2, ab_ca, ax_u3]
        clear qF nF g60 h128 lv n4 i160 top g67 m4 m5 c5 c6 hm hc hP hW q67 hmn h130 h124 w1 w3 w4 w5 w6
        grind (splits := 40)
      · simp [ab_o2]
      · simp only [ab_o2]; simp [q35]
      · simp only [ab_o2]; simp
        rw [qF _ _ _ (by omega) (by omega) (by omega), nF _ _ _ (by omega)]
      · simp [ab_m2, ab_ca, ax_u3]
      · intro f i j a1 a2
        simp only [ab_m2, ab_ca, ax_u3]
        repeat rw [if_neg (by omega)]
      · intro f j a1 a2
        rw [← nF f 0 j (by omega), ← qF f 0 j (by omega) (by omega) (by omega)]
        simp only [ab_o2]
        rw [if_neg (by omega), if_neg (by omega), if_neg (by omega), if_neg (by omega), if_neg (by omega)]
      · intro j a1
        rw [← nF 59 0 j (by omega), ← qF 59 0 j (by omega) (by omega) (by omega)]
        simp only [ab_o2]
        rw [if_neg (by omega), if_neg (by omega), if_neg (by omega), if_neg (by omega), if_neg (by omega)]
      · rw [← n59, ← qF 59 0 k (by omega) (by omega) (by omega)]
        simp only [ab_o2]
        rw [if_neg (by omega), if_neg (by omega), if_neg (by omega), if_neg (by omega), if_neg (by omega)]
      · intro j a1
        rw [← nF 60 0 j (by omega), ← qF 60 0 j (by omega) (by omega) (by omega)]
        simp only [ab_o2]
        rw [if_neg (by omega), if_neg (by omega), if_neg (by omega), if_neg (by omega), if_neg (by omega)]
      · intro i hi
        have o66 : ∀ j, ab_o2 Q (k + 1) (ap_y P b p) (ap_z P b p) (ap_mn P (ap_y P b p)) (ay_i q) 66 0 j = Q 66 0 j := fun j => by simp [ab_o2]
        have o67 : ∀ j, ab_o2 Q (k + 1) (ap_y P b p) (ap_z P b p) (ap_mn P (ap_y P b p)) (ay_i q) 67 0 j = Q 67 0 j := fun j => by simp [ab_o2]
        simp only [o66, o67]
        simp at hi
        by_cases hiq : i = q
        · subst hiq
          refine ⟨by rw [q66]; simp [ab_m2, ab_ca, ax_u3], fun z hz => ?_⟩
          rw [q67 z hz]
          simp [ab_m2]; omega
        · refine ⟨?_, fun z hz => ?_⟩
          · rw [qF _ _ _ (by omega) (by omega) (by omega), nF _ _ _ (by omega), (m5 i (by omega)).1]
            simp only [ab_m2, ab_ca, ax_u3]; grind
          · rw [qF _ _ _ (by omega) (by omega) (by omega), g67 i z (by omega) hz]
            simp only [ab_m2, ab_ca, ax_u3]; grind
  · obtain ⟨x1, x2⟩ := w3 (by omega)
    obtain ⟨y1, y2⟩ := w4 (by omega)
    obtain ⟨z1, z2⟩ := w6 (by omega)
    rw [x1] at h42; rw [y1] at h43; rw [z1] at h44
    have hn : ¬ C 23 k (ap_y P b p) = ay_n 1 := by
      intro h; simp [ab_tr, ho, h] at ht
    obtain ⟨v, hv, hv2⟩ := (lv _ y2).resolve_left hn
    have i1 := i160 _ x2
    have i2 : 4 * v + ap_z P b p < 240 := by omega
    have hy := h128 _ y2
    rw [hv2] at hy
    have gv := g67 v _ hv z2
    simp only [hv2, ay_i_ct (show v < 2147483648 by omega)]
    refine ⟨ax_u3 N 60 0 (8 * k + ap_x P b p) (C 20 0 (4 * v + ap_z P b p)), ?_, ?_, ?_⟩
    · simp (disch := first | omega | assumption | exact ay_z1b _ | exact ay_z10 | exact ay_z11) only [ae_129, af_129_0, af_129_1, af_129_4, af_129_5, af_129_8, af_129_9, af_129_10, af_129_11, af_129_14, af_129_15, af_129_18, af_129_19, af_129_20, af_129_21, af_129_24, af_129_25, af_129_28, af_129_29, af_129_30, af_129_31, af_129_34, af_129_35, af_129_38, af_129_39, af_129_41, af_129_43, af_129_44, af_129_47, af_129_48, af_129_50, af_129_51, af_129_53, af_129_54, af_129_57, af_129_58, af_129_61, af_129_62, af_129_63, af_129_64, af_129_65, af_129_66, af_129_67, af_129_68, af_129_69_0, af_129_69_1, af_129_69_2, af_129_69_3, af_129_69_4, af_129_69_5, af_129_69_6, af_129_69_7, af_129_69_8, af_129_116, af_129_117, af_129_120, af_129_122, af_129_123, af_129_124, af_129_125, af_129_126, af_129_129, af_129_130, af_129_133, af_129_134, af_129_137, af_129_139, af_129_140, af_129_141, af_129_142, af_129_143, af_129_146, af_129_147, af_129_148, af_129_150, af_129_151, af_129_152, af_129_155, af_129_158, af_129_161, af_129_162, af_129_165, af_129_167, af_129_168, af_129_169, af_129_170, af_129_173, af_129_174, af_129_175, af_129_176, af_129_179, af_129_180, af_129_182, af_129_183, af_129_184, af_129_185, af_129_188, af_129_189, af_129_192, af_129_193, af_129_194, af_129_195, af_129_198, af_129_199, af_129_201, af_129_202, af_129_203, af_129_204, af_129_207, af_129_208, af_129_211, af_129_212, af_129_215, af_129_216, af_129_219, af_129_220, af_129_221, af_129_222, af_129_223, af_129_226, af_129_227, af_129_230, af_129_231, af_129_234, af_129_235, af_129_238, af_129_239, af_129_242, af_129_243, af_129_244, af_129_245, af_129_246, af_129_249, af_129_250, af_129_253, af_129_254, af_129_257, af_129_258, af_129_259, af_129_260, af_129_261, af_129_264, af_129_265, af_129_267, af_129_268, af_129_269, af_129_271, af_129_272, af_129_275, af_129_278, af_129_279, af_129_280, af_129_283, m1, ay_s1, ay_s8, n2, h127, h41, h42, h43, h44, hN, hy, gv, ay_cl_v, ay_cl_s, ay_i_add, ay_i_mul, ay_i_eq, ay_i_lt, ay_b0, ay_b1, ay_ni, ay_in, ay_nn, ay_nl, ay_ln, if_true, if_false, ↓reduceIte, Nat.reduceAdd, Nat.reduceMul, Nat.reduceEqDiff, Nat.reduceLT, Nat.not_lt_zero, Bool.true_eq_false, Bool.false_eq_true, reduceCtorEq, Nat.add_zero, Nat.zero_add]
    · intro f i j a1 a2 a3
      have := nF f i j (by omega)
      simp only [ax_u3]; grind
    · refine top _ _ (fun f i j a1 a2 a3 => by simp only [ax_u3]; grind) (fun f i j a1 a2 a3 => ?_) ?_ (fun l hl => ?_) (fun i z hi hz => ?_)
      · rw [← nF f i j a1]; simp only [ax_u3]; grind
      · simp only [ax_u3]; simp [n59]
      · have := g60 l hl
        simp only [ax_u3]; grind
      · have := g67 i z hi hz
        simp only [ax_u3]; grind
  · obtain ⟨x1, x2⟩ := w3 (by omega)
    obtain ⟨y1, y2⟩ := w4 (by omega)
    obtain ⟨z1, z2⟩ := w6 (by omega)
    rw [x1] at h42; rw [y1] at h43; rw [z1] at h44
    have hn : ¬ C 23 k (ap_x P b p) = ay_n 1 := by
      intro h; simp [ab_tr, ho, h] at ht
    obtain ⟨v, hv, hv2⟩ := (lv _ x2).resolve_left hn
    have i2 : 4 * v + ap_z P b p < 240 := by omega
    have hx := h128 _ x2
    have hy := h128 _ y2
    rw [hv2] at hx
    simp only [hv2, ay_i_ct (show v < 2147483648 by omega)]
    refine ⟨ax_u3 N 67 0 (4 * v + ap_z P b p) (C 23 k (ap_y P b p)), ?_, ?_, ?_⟩
    · simp (disch := first | omega | assumption | exact ay_z1b _ | exact ay_z10 | exact ay_z11) only [ae_129, af_129_0, af_129_1, af_129_4, af_129_5, af_129_8, af_129_9, af_129_10, af_129_11, af_129_14, af_129_15, af_129_18, af_129_19, af_129_20, af_129_21, af_129_24, af_129_25, af_129_28, af_129_29, af_129_30, af_129_31, af_129_34, af_129_35, af_129_38, af_129_39, af_129_41, af_129_43, af_129_44, af_129_47, af_129_48, af_129_50, af_129_51, af_129_53, af_129_54, af_129_57, af_129_58, af_129_61, af_129_62, af_129_63, af_129_64, af_129_65, af_129_66, af_129_67, af_129_68, af_129_69_0, af_129_69_1, af_129_69_2, af_129_69_3, af_129_69_4, af_129_69_5, af_129_69_6, af_129_69_7, af_129_69_8, af_129_116, af_129_117, af_129_120, af_129_122, af_129_123, af_129_124, af_129_125, af_129_126, af_129_129, af_129_130, af_129_133, af_129_134, af_129_137, af_129_139, af_129_140, af_129_141, af_129_142, af_129_143, af_129_146, af_129_147, af_129_148, af_129_150, af_129_151, af_129_152, af_129_155, af_129_158, af_129_161, af_129_162, af_129_165, af_129_167, af_129_168, af_129_169, af_129_170, af_129_173, af_129_174, af_129_175, af_129_176, af_129_179, af_129_180, af_129_182, af_129_183, af_129_184, af_129_185, af_129_188, af_129_189, af_129_192, af_129_193, af_129_194, af_129_195, af_129_198, af_129_199, af_129_201, af_129_202, af_129_203, af_129_204, af_129_207, af_129_208, af_129_211, af_129_212, af_129_215, af_129_216, af_129_219, af_129_220, af_129_221, af_129_222, af_129_223, af_129_226, af_129_227, af_129_230, af_129_231, af_129_234, af_129_235, af_129_238, af_129_239, af_129_242, af_129_243, af_129_244, af_129_245, af_129_246, af_129_249, af_129_250, af_129_253, af_129_254, af_129_257, af_129_258, af_129_259, af_129_260, af_129_261, af_129_264, af_129_265, af_129_267, af_129_268, af_129_269, af_129_271, af_129_272, af_129_275, af_129_278, af_129_279, af_129_280, af_129_283, m1, ay_s1, ay_s8, n2, h127, h41, h42, h43, h44, hN, hx, hy, ay_cl_v, ay_cl_s, ay_i_add, ay_i_mul, ay_i_eq, ay_i_lt, ay_b0, ay_b1, ay_ni, ay_in, ay_nn, ay_nl, ay_ln, if_true, if_false, ↓reduceIte, Nat.reduceAdd, Nat.reduceMul, Nat.reduceEqDiff, Nat.reduceLT, Nat.not_lt_zero, Bool.true_eq_false, Bool.false_eq_true, reduceCtorEq, Nat.add_zero, Nat.zero_add]
    · intro f i j a1 a2 a3
      have := nF f i j (by omega)
      simp only [ax_u3]; grind
    · refine top _ _ (fun f i j a1 a2 a3 => by simp only [ax_u3]; grind) (fun f i j a1 a2 a3 => ?_) ?_ (fun l hl => ?_) (fun i z hi hz => ?_)
      · rw [← nF f i j a1]; simp only [ax_u3]; grind
      · simp only [ax_u3]; simp [n59]
      · have := g60 l hl
        simp only [ax_u3]; grind
      · have := g67 i z hi hz
        simp only [ax_u3]; grind
  · obtain ⟨x1, x2⟩ := w3 (by omega)
    rw [x1] at h42
    have hx := h128 _ x2
    refine ⟨ax_u3 N 59 0 k (if C 23 k (ap_x P b p) = ay_n 1 then P 43 0 (40 * b + p) else ay_i (p + 1)), ?_, ?_, ?_⟩
    · by_cases hn : C 23 k (ap_x P b p) = ay_n 1 <;> simp (disch := first | omega | assumption | exact ay_z1b _ | exact ay_z10 | exact ay_z11) only [ae_129, af_129_0, af_129_1, af_129_4, af_129_5, af_129_8, af_129_9, af_129_10, af_129_11, af_129_14, af_129_15, af_129_18, af_129_19, af_129_20, af_129_21, af_129_24, af_129_25, af_129_28, af_129_29, af_129_30, af_129_31, af_129_34, af_129_35, af_129_38, af_129_39, af_129_41, af_129_43, af_129_44, af_129_47, af_129_48, af_129_50, af_129_51, af_129_53, af_129_54, af_129_57, af_129_58, af_129_61, af_129_62, af_129_63, af_129_64, af_129_65, af_129_66, af_129_67, af_129_68, af_129_69_0, af_129_69_1, af_129_69_2, af_129_69_3, af_129_69_4, af_129_69_5, af_129_69_6, af_129_69_7, af_129_69_8, af_129_116, af_129_117, af_129_120, af_129_122, af_129_123, af_129_124, af_129_125, af_129_126, af_129_129, af_129_130, af_129_133, af_129_134, af_129_137, af_129_139, af_129_140, af_129_141, af_129_142, af_129_143, af_129_146, af_129_147, af_129_148, af_129_150, af_129_151, af_129_152, af_129_155, af_129_158, af_129_161, af_129_162, af_129_165, af_129_167, af_129_168, af_129_169, af_129_170, af_129_173, af_129_174, af_129_175, af_129_176, af_129_179, af_129_180, af_129_182, af_129_183, af_129_184, af_129_185, af_129_188, af_129_189, af_129_192, af_129_193, af_129_194, af_129_195, af_129_198, af_129_199, af_129_201, af_129_202, af_129_203, af_129_204, af_129_207, af_129_208, af_129_211, af_129_212, af_129_215, af_129_216, af_129_219, af_129_220, af_129_221, af_129_222, af_129_223, af_129_226, af_129_227, af_129_230, af_129_231, af_129_234, af_129_235, af_129_238, af_129_239, af_129_242, af_129_243, af_129_244, af_129_245, af_129_246, af_129_249, af_129_250, af_129_253, af_129_254, af_129_257, af_129_258, af_129_259, af_129_260, af_129_261, af_129_264, af_129_265, af_129_267, af_129_268, af_129_269, af_129_271, af_129_272, af_129_275, af_129_278, af_129_279, af_129_280, af_129_283, m1, ay_s1, ay_s8, n2, h127, h41, h42, h43, h44, hN, hx, hn, n27, n59, ay_cl_v, ay_cl_s, ay_i_add, ay_i_mul, ay_i_eq, ay_i_lt, ay_b0, ay_b1, ay_ni, ay_in, ay_nn, ay_nl, ay_ln, if_true, if_false, ↓reduceIte, Nat.reduceAdd, Nat.reduceMul, Nat.reduceEqDiff, Nat.reduceLT, Nat.not_lt_zero, Bool.true_eq_false, Bool.false_eq_true, reduceCtorEq, Nat.add_zero, Nat.zero_add]
    · intro f i j a1 a2 a3
      have := nF f i j (by omega)
      simp only [ax_u3]; grind
    · refine top _ _ (fun f i j a1 a2 a3 => by simp only [ax_u3]; grind) (fun f i j a1 a2 a3 => ?_) ?_ (fun l hl => ?_) (fun i z hi hz => ?_)
      · rw [← nF f i j a1]; simp only [ax_u3]; grind
      · simp only [ax_u3]; simp
      · have := g60 l hl
        simp only [ax_u3]; grind
      · have := g67 i z hi hz
        simp only [ax_u3]; grind
  · refine ⟨ax_u3 N 59 0 k (P 43 0 (40 * b + p)), ?_, ?_, ?_⟩
    · simp (disch := first | omega | assumption | exact ay_z1b _ | exact ay_z10 | exact ay_z11) only [ae_129, af_129_0, af_129_1, af_129_4, af_129_5, af_129_8, af_129_9, af_129_10, af_129_11, af_129_14, af_129_15, af_129_18, af_129_19, af_129_20, af_129_21, af_129_24, af_129_25, af_129_28, af_129_29, af_129_30, af_129_31, af_129_34, af_129_35, af_129_38, af_129_39, af_129_41, af_129_43, af_129_44, af_129_47, af_129_48, af_129_50, af_129_51, af_129_53, af_129_54, af_129_57, af_129_58, af_129_61, af_129_62, af_129_63, af_129_64, af_129_65, af_129_66, af_129_67, af_129_68, af_129_69_0, af_129_69_1, af_129_69_2, af_129_69_3, af_129_69_4, af_129_69_5, af_129_69_6, af_129_69_7, af_129_69_8, af_129_116, af_129_117, af_129_120, af_129_122, af_129_123, af_129_124, af_129_125, af_129_126, af_129_129, af_129_130, af_129_133, af_129_134, af_129_137, af_129_139, af_129_140, af_129_141, af_129_142, af_129_143, af_129_146, af_129_147, af_129_148, af_129_150, af_129_151, af_129_152, af_129_155, af_129_158, af_129_161, af_129_162, af_129_165, af_129_167, af_129_168, af_129_169, af_129_170, af_129_173, af_129_174, af_129_175, af_129_176, af_129_179, af_129_180, af_129_182, af_129_183, af_129_184, af_129_185, af_129_188, af_129_189, af_129_192, af_129_193, af_129_194, af_129_195, af_129_198, af_129_199, af_129_201, af_129_202, af_129_203, af_129_204, af_129_207, af_129_208, af_129_211, af_129_212, af_129_215, af_129_216, af_129_219, af_129_220, af_129_221, af_129_222, af_129_223, af_129_226, af_129_227, af_129_230, af_129_231, af_129_234, af_129_235, af_129_238, af_129_239, af_129_242, af_129_243, af_129_244, af_129_245, af_129_246, af_129_249, af_129_250, af_129_253, af_129_254, af_129_257, af_129_258, af_129_259, af_129_260, af_129_261, af_129_264, af_129_265, af_129_267, af_129_268, af_129_269, af_129_271, af_129_272, af_129_275, af_129_278, af_129_279, af_129_280, af_129_283, m1, ay_s1, ay_s8, n2, h127, h41, h42, h43, h44, hN, n27, ay_cl_v, ay_cl_s, ay_i_add, ay_i_mul, ay_i_eq, ay_i_lt, ay_b0, ay_b1, ay_ni, ay_in, ay_nn, ay_nl, ay_ln, if_true, if_false, ↓reduceIte, Nat.reduceAdd, Nat.reduceMul, Nat.reduceEqDiff, Nat.reduceLT, Nat.not_lt_zero, Bool.true_eq_false, Bool.false_eq_true, reduceCtorEq, Nat.add_zero, Nat.zero_add]
    · intro f i j a1 a2 a3
      have := nF f i j (by omega)
      simp only [ax_u3]; grind
    · refine top _ _ (fun f i j a1 a2 a3 => by simp only [ax_u3]; grind) (fun f i j a1 a2 a3 => ?_) ?_ (fun l hl => ?_) (fun i z hi hz => ?_)
      · rw [← nF f i j a1]; simp only [ax_u3]; grind
      · simp only [ax_u3]; simp
      · have := g60 l hl
        simp only [ax_u3]; grind
      · have := g67 i z hi hz
        simp only [ax_u3]; grind
  · obtain ⟨⟨y1, y2⟩, z1, z2⟩ := w5 (by omega)
    rw [y1] at h43; rw [z1] at h44
    have hk19 : k < 19 := by
      simp only [ab_tr, ho] at ht
      split at ht <;> omega
    have hmn := hW.2.1 (6 + ap_y P b p) (by omega)
    have hmn3 := hmn.2
    have h33 : N 33 0 (6 + ap_y P b p) = ay_i (ap_mn P (6 + ap_y P b p)) := by rw [nF _ _ _ (by omega), hP _ _ (by omega) (by omega)]; exact hmn.1
    have h124 := am_124 (X := X) (e := e) (gb := gb) (o := o) (M := N) (mk := ay_n 1) (b := 6 + ap_y P b p) (d := k + 1) (by omega) z2 (by omega) hmn.2 n27 h33
    refine ⟨ab_o2 N (k + 1) (6 + ap_y P b p) (ap_z P b p) (ap_mn P (6 + ap_y P b p)) (ay_n 1), ?_, ?_, ?_⟩
    · simp (disch := first | omega | assumption | exact ay_z1b _ | exact ay_z10 | exact ay_z11) only [ae_129, af_129_0, af_129_1, af_129_4, af_129_5, af_129_8, af_129_9, af_129_10, af_129_11, af_129_14, af_129_15, af_129_18, af_129_19, af_129_20, af_129_21, af_129_24, af_129_25, af_129_28, af_129_29, af_129_30, af_129_31, af_129_34, af_129_35, af_129_38, af_129_39, af_129_41, af_129_43, af_129_44, af_129_47, af_129_48, af_129_50, af_129_51, af_129_53, af_129_54, af_129_57, af_129_58, af_129_61, af_129_62, af_129_63, af_129_64, af_129_65, af_129_66, af_129_67, af_129_68, af_129_69_0, af_129_69_1, af_129_69_2, af_129_69_3, af_129_69_4, af_129_69_5, af_129_69_6, af_129_69_7, af_129_69_8, af_129_116, af_129_117, af_129_120, af_129_122, af_129_123, af_129_124, af_129_125, af_129_126, af_129_129, af_129_130, af_129_133, af_129_134, af_129_137, af_129_139, af_129_140, af_129_141, af_129_142, af_129_143, af_129_146, af_129_147, af_129_148, af_129_150, af_129_151, af_129_152, af_129_155, af_129_158, af_129_161, af_129_162, af_129_165, af_129_167, af_129_168, af_129_169, af_129_170, af_129_173, af_129_174, af_129_175, af_129_176, af_129_179, af_129_180, af_129_182, af_129_183, af_129_184, af_129_185, af_129_188, af_129_189, af_129_192, af_129_193, af_129_194, af_129_195, af_129_198, af_129_199, af_129_201, af_129_202, af_129_203, af_129_204, af_129_207, af_129_208, af_129_211, af_129_212, af_129_215, af_129_216, af_129_219, af_129_220, af_129_221, af_129_222, af_129_223, af_129_226, af_129_227, af_129_230, af_129_231, af_129_234, af_129_235, af_129_238, af_129_239, af_129_242, af_129_243, af_129_244, af_129_245, af_129_246, af_129_249, af_129_250, af_129_253, af_129_254, af_129_257, af_129_258, af_129_259, af_129_260, af_129_261, af_129_264, af_129_265, af_129_267, af_129_268, af_129_269, af_129_271, af_129_272, af_129_275, af_129_278, af_129_279, af_129_280, af_129_283, m1, ay_s1, ay_s8, n2, h127, h41, h42, h43, h44, hN, h124, ay_cl_v, ay_cl_s, ay_i_add, ay_i_mul, ay_i_eq, ay_i_lt, ay_b0, ay_b1, ay_ni, ay_in, ay_nn, ay_nl, ay_ln, if_true, if_false, ↓reduceIte, Nat.reduceAdd, Nat.reduceMul, Nat.reduceEqDiff, Nat.reduceLT, Nat.not_lt_zero, Bool.true_eq_false, Bool.false_eq_true, reduceCtorEq, Nat.add_zero, Nat.zero_add]
    · intro f i j a1 a2 a3
      rw [← nF f i j (by omega)]
      simp only [ab_o2]
      rw [if_neg (by omega), if_neg (by omega), if_neg (by omega), if_neg (by omega), if_neg (by omega)]
    · refine ab_mmc hm h2 ?_ ?_ ?_ ?_ ?_ ?_ ?_ ?_ ?_ ?_ ?_ ?_ ?_ ?_
      · simp [ab_o2, ab_ca]
      · simp [ab_o2, ab_ca]
      · simp [ab_o2, ab_ca]
      · intro l hl
        have gg : l < ap_mn P (6 + ap_y P b p) ∧ ap_z P b p + l < 8 → N 60 0 (8 * (k + 1) + l + ap_z P b p - 8) = C 23 k (ap_z P b p + l) := by
          intro hh
          have e1 : 8 * (k + 1) + l + ap_z P b p - 8 = 8 * k + (ap_z P b p + l) := by omega
          rw [e1]; exact g60 _ hh.2
        simp only [ab_o2, ab_ca]
        grind
      · simp [ab_o2]
      · simp only [ab_o2]; simp [n35]
      · simp only [ab_o2]; simp
        rw [nF _ _ _ (by omega)]
      · simp [ab_ca]
      · intro f i j a1 a2
        simp only [ab_ca]
        repeat rw [if_neg (by omega)]
      · intro f j a1 a2
        rw [← nF f 0 j (by omega)]
        simp only [ab_o2]
        rw [if_neg (by omega), if_neg (by omega), if_neg (by omega), if_neg (by omega), if_neg (by omega)]
      · intro j a1
        rw [← nF 59 0 j (by omega)]
        simp only [ab_o2]
        rw [if_neg (by omega), if_neg (by omega), if_neg (by omega), if_neg (by omega), if_neg (by omega)]
      · rw [← n59]
        simp only [ab_o2]
        rw [if_neg (by omega), if_neg (by omega), if_neg (by omega), if_neg (by omega), if_neg (by omega)]
      · intro j a1
        rw [← nF 60 0 j (by omega)]
        simp only [ab_o2]
        rw [if_neg (by omega), if_neg (by omega), if_neg (by omega), if_neg (by omega), if_neg (by omega)]
      · intro i hi
        have o66 : ∀ j, ab_o2 N (k + 1) (6 + ap_y P b p) (ap_z P b p) (ap_mn P (6 + ap_y P b p)) (ay_n 1) 66 0 j = N 66 0 j := fun j => by simp [ab_o2]
        have o67 : ∀ j, ab_o2 N (k + 1) (6 + ap_y P b p) (ap_z P b p) (ap_mn P (6 + ap_y P b p)) (ay_n 1) 67 0 j = N 67 0 j := fun j => by simp [ab_o2]
        simp only [o66, o67]
        simp at hi
        refine ⟨?_, fun z hz => ?_⟩
        · rw [nF _ _ _ (by omega), (m5 i (by omega)).1]
          simp only [ab_ca]; grind
        · rw [g67 i z (by omega) hz]
          simp only [ab_ca]; grind
  · obtain ⟨x1, x2⟩ := w3 (by omega)
    rw [x1] at h42
    have hlw : ab_lw N k b (ap_x P b p) = ab_lv P C k b p := by
      unfold ab_lw ab_lv
      rw [nF _ _ _ (by omega), nF _ _ _ (by omega), n3, n4 _ x2]
    show ∃ M' : ax_M, ax_fn 129 0 (ax_entry 129 [.ref (ax_a 24 0)]) [] (ax_hp X e gb M o) = some (.inl none, ax_hp X e gb M' o) ∧ ab_fm M M' ∧ ai_mm (ab_le P C k b p) M' k q
    cases k with
    | zero =>
      have h131 := am_131a (X := X) (e := e) (gb := gb) (o := o) (M := N) x2 n27 hb (by rw [nF _ _ _ (by omega)]; exact n1)
      rw [hlw] at h131
      refine ⟨ax_u3 (ax_u3 N 24 0 27 (ay_i 0)) 24 0 34 (ab_lv P C 0 b p), ?_, ?_, ?_⟩
      · simp (disch := first | omega | assumption | exact ay_z1b _ | exact ay_z10 | exact ay_z11) only [ae_129, af_129_0, af_129_1, af_129_4, af_129_5, af_129_8, af_129_9, af_129_10, af_129_11, af_129_14, af_129_15, af_129_18, af_129_19, af_129_20, af_129_21, af_129_24, af_129_25, af_129_28, af_129_29, af_129_30, af_129_31, af_129_34, af_129_35, af_129_38, af_129_39, af_129_41, af_129_43, af_129_44, af_129_47, af_129_48, af_129_50, af_129_51, af_129_53, af_129_54, af_129_57, af_129_58, af_129_61, af_129_62, af_129_63, af_129_64, af_129_65, af_129_66, af_129_67, af_129_68, af_129_69_0, af_129_69_1, af_129_69_2, af_129_69_3, af_129_69_4, af_129_69_5, af_129_69_6, af_129_69_7, af_129_69_8, af_129_116, af_129_117, af_129_120, af_129_122, af_129_123, af_129_124, af_129_125, af_129_126, af_129_129, af_129_130, af_129_133, af_129_134, af_129_137, af_129_139, af_129_140, af_129_141, af_129_142, af_129_143, af_129_146, af_129_147, af_129_148, af_129_150, af_129_151, af_129_152, af_129_155, af_129_158, af_129_161, af_129_162, af_129_165, af_129_167, af_129_168, af_129_169, af_129_170, af_129_173, af_129_174, af_129_175, af_129_176, af_129_179, af_129_180, af_129_182, af_129_183, af_129_184, af_129_185, af_129_188, af_129_189, af_129_192, af_129_193, af_129_194, af_129_195, af_129_198, af_129_199, af_129_201, af_129_202, af_129_203, af_129_204, af_129_207, af_129_208, af_129_211, af_129_212, af_129_215, af_129_216, af_129_219, af_129_220, af_129_221, af_129_222, af_129_223, af_129_226, af_129_227, af_129_230, af_129_231, af_129_234, af_129_235, af_129_238, af_129_239, af_129_242, af_129_243, af_129_244, af_129_245, af_129_246, af_129_249, af_129_250, af_129_253, af_129_254, af_129_257, af_129_258, af_129_259, af_129_260, af_129_261, af_129_264, af_129_265, af_129_267, af_129_268, af_129_269, af_129_271, af_129_272, af_129_275, af_129_278, af_129_279, af_129_280, af_129_283, m1, ay_s1, ay_s8, n2, h127, h41, h42, h43, h44, hN, h131, ay_cl_v, ay_cl_s, ay_i_add, ay_i_mul, ay_i_eq, ay_i_lt, ay_b0, ay_b1, ay_ni, ay_in, ay_nn, ay_nl, ay_ln, if_true, if_false, ↓reduceIte, Nat.reduceAdd, Nat.reduceMul, Nat.reduceEqDiff, Nat.reduceLT, Nat.not_lt_zero, Bool.true_eq_false, Bool.false_eq_true, reduceCtorEq, Nat.add_zero, Nat.zero_add]
      · intro f i j a1 a2 a3
        have := nF f i j (by omega)
        simp only [ax_u3]; grind
      · unfold ab_le
        rw [if_pos rfl]
        refine ⟨by simp [ax_u3], ?_, by simp [ax_u3], fun m hm => by omega, fun i hi => ⟨?_, fun z hz => ?_⟩⟩
        · simp only [ax_u3]; simpa using n35
        · simp only [ax_u3]; simp; rw [nF _ _ _ (by omega)]; exact (m5 i hi).1
        · simp only [ax_u3]; simp; exact g67 i z hi hz
    | succ k =>
      obtain ⟨⟨b', hb', e1, e2⟩, -⟩ := c5 k (by omega)
      obtain ⟨p', hp', ho', e3⟩ := e2 (by omega)
      have hsz' := (hW.1 b' hb').2
      have hwi := hW.2.2.1 b' p' hb' hp'
      obtain ⟨v1, v2⟩ := hwi.2.2.1 (by omega)
      obtain ⟨s1, s2, s3, s4⟩ := m4 k (by omega)
      rw [if_neg (by omega), e3, ay_i_add] at s2
      rw [e1] at s1
      have h131 := am_131b (X := X) (e := e) (gb := gb) (o := o) (M := N) (k := k) (b' := b') (p' := p') (x' := ap_x P b' p') x2 (by omega) n27 hb (by rw [nF _ _ _ (by omega)]; exact n1) hb' (by omega) v2 (by rw [nF _ _ _ (by omega)]; exact s1) (by rw [nF _ _ _ (by omega)]; exact s2) (by rw [nF _ _ _ (by omega), hP _ _ (by omega) (by omega)]; exact v1)
      rw [hlw] at h131
      refine ⟨ax_u3 (ax_u3 N 24 0 27 (ay_i (k + 1))) 60 0 (8 * k + ap_x P b' p') (ab_lv P C (k + 1) b p), ?_, ?_, ?_⟩
      · simp (disch := first | omega | assumption | exact ay_z1b _ | exact ay_z10 | exact ay_z11) only [ae_129, af_129_0, af_129_1, af_129_4, af_129_5, af_129_8, af_129_9, af_129_10, af_129_11, af_129_14, af_129_15, af_129_18, af_129_19, af_129_20, af_129_21, af_129_24, af_129_25, af_129_28, af_129_29, af_129_30, af_129_31, af_129_34, af_129_35, af_129_38, af_129_39, af_129_41, af_129_43, af_129_44, af_129_47, af_129_48, af_129_50, af_129_51, af_129_53, af_129_54, af_129_57, af_129_58, af_129_61, af_129_62, af_129_63, af_129_64, af_129_65, af_129_66, af_129_67, af_129_68, af_129_69_0, af_129_69_1, af_129_69_2, af_129_69_3, af_129_69_4, af_129_69_5, af_129_69_6, af_129_69_7, af_129_69_8, af_129_116, af_129_117, af_129_120, af_129_122, af_129_123, af_129_124, af_129_125, af_129_126, af_129_129, af_129_130, af_129_133, af_129_134, af_129_137, af_129_139, af_129_140, af_129_141, af_129_142, af_129_143, af_129_146, af_129_147, af_129_148, af_129_150, af_129_151, af_129_152, af_129_155, af_129_158, af_129_161, af_129_162, af_129_165, af_129_167, af_129_168, af_129_169, af_129_170, af_129_173, af_129_174, af_129_175, af_129_176, af_129_179, af_129_180, af_129_182, af_129_183, af_129_184, af_129_185, af_129_188, af_129_189, af_129_192, af_129_193, af_129_194, af_129_195, af_129_198, af_129_199, af_129_201, af_129_202, af_129_203, af_129_204, af_129_207, af_129_208, af_129_211, af_129_212, af_129_215, af_129_216, af_129_219, af_129_220, af_129_221, af_129_222, af_129_223, af_129_226, af_129_227, af_129_230, af_129_231, af_129_234, af_129_235, af_129_238, af_129_239, af_129_242, af_129_243, af_129_244, af_129_245, af_129_246, af_129_249, af_129_250, af_129_253, af_129_254, af_129_257, af_129_258, af_129_259, af_129_260, af_129_261, af_129_264, af_129_265, af_129_267, af_129_268, af_129_269, af_129_271, af_129_272, af_129_275, af_129_278, af_129_279, af_129_280, af_129_283, m1, ay_s1, ay_s8, n2, h127, h41, h42, h43, h44, hN, h131, ay_cl_v, ay_cl_s, ay_i_add, ay_i_mul, ay_i_eq, ay_i_lt, ay_b0, ay_b1, ay_ni, ay_in, ay_nn, ay_nl, ay_ln, if_true, if_false, ↓reduceIte, Nat.reduceAdd, Nat.reduceMul, Nat.reduceEqDiff, Nat.reduceLT, Nat.not_lt_zero, Bool.true_eq_false, Bool.false_eq_true, reduceCtorEq, Nat.add_zero, Nat.zero_add]
      · intro f i j a1 a2 a3
        have := nF f i j (by omega)
        simp only [ax_u3]; grind
      · unfold ab_le
        have hk1 : k + 1 - 1 = k := by omega
        rw [if_neg (by omega), hk1, e1, e3, ay_i_ct (by omega), ay_i_ct (by omega)]
        generalize ab_lv P C (k + 1) b p = v
        refine ⟨by simp [ax_u3], ?_, ?_, fun m hmk => ?_, fun i hi => ⟨?_, fun z hz => ?_⟩⟩
        · simp only [ax_u3]; simpa using n35
        · simp only [ax_u3]; simp; rw [nF _ _ _ (by omega)]; exact m3
        · obtain ⟨t1, t2, t3, t4⟩ := m4 m (by omega)
          refine ⟨?_, ?_, ?_, fun l hl => ?_⟩
          · simp only [ax_u3]; simp; rw [nF _ _ _ (by omega)]; exact t1
          · simp only [ax_u3]; simp
            rw [nF _ _ _ (by omega), t2, if_neg (by omega)]
            by_cases hmk2 : m = k
            · subst hmk2; simp [e3]
            · rw [if_neg (by omega), if_neg hmk2]
          · simp only [ax_u3]; simp; rw [nF _ _ _ (by omega)]; exact t3
          · have := t4 l hl
            rw [← nF _ _ _ (by omega)] at this
            simp only [ax_u3]
            grind
        · simp only [ax_u3]; simp; rw [nF _ _ _ (by omega)]; exact (m5 i hi).1
        · simp only [ax_u3]; simp; exact g67 i z hi hz
end AmP
