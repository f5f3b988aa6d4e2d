/-! holds, fields, count -/
def ai_tl (v : ag_L) (w : Nat) : Int32 := if v.1 = ay_n 2 then ay_n 2 else if w = 0 then v.1 else if w = 1 then v.2.1 else v.2.2
def ai_hv (T : ag_T) (p l w : Nat) : Int32 := match T p with
  | none => ay_n 3
  | some s => ai_tl (s.1 l) w
def ai_fv (T : ag_T) (p : Nat) : Int32 := match T p with
  | none => ay_n 1
  | some s => s.2
theorem ai_tl_nl {c n t : Int32} {w : Nat} : ai_tl (ag_nl c n t) w = if c = ay_n 2 then ay_n 2 else if w = 0 then c else if w = 1 then n else t := by
  unfold ag_nl ai_tl
  by_cases h : c = ay_n 2
  · rw [if_pos h, if_pos h]; simp [ag_z]
  · rw [if_neg h, if_neg h]
section AmH
variable {X : Nat × (Nat → Int32)} {e gb : Nat} {M P : ax_M} {o : Int64} {b : Nat}
theorem am_68 {p l w : Nat} (hp : p < 41) (hl : l < 8) (hw : w < 3) : ax_fn 68 0 (ax_entry 68 [.ref (ax_a 12 p), .int (ay_i l), .int (ay_i w)]) [] (ax_hp X e gb M o) = some (.inl (some (.int (ai_tl (ag_nl (M 13 p l) (M 14 p l) (M 15 p l)) w))), ax_hp X e gb M o) := by
  rw [ai_tl_nl]
  by_cases h : M 13 p l = ay_n 2
  · simp (disch := first | omega | assumption | exact ay_z1b _ | exact ay_z10 | exact ay_z11) only [ae_68, af_68_0, af_68_1, af_68_2, af_68_5, af_68_8, af_68_10, af_68_11, af_68_12, af_68_15, af_68_16, af_68_19, af_68_20, af_68_21, af_68_22, af_68_23, af_68_24, af_68_27, af_68_28, af_68_31, af_68_32, af_68_33, af_68_36, af_68_37, af_68_40, af_68_41, af_68_42, ae_63, af_63_0, af_63_1, af_63_4, af_63_5, af_63_6, af_63_8, af_63_11, af_63_12, af_63_15, af_63_16, h, ay_cl_v, ay_cl_s, ay_i_add, ay_i_mul, ay_i_eq, ay_i_lt, ay_b0, ay_b1, ay_ni, ay_in, ay_nn, ay_nl, ay_ln, if_true, if_false, ↓reduceIte, Nat.reduceAdd, Nat.reduceMul, Nat.reduceEqDiff, Nat.reduceLT, Nat.not_lt_zero, Bool.true_eq_false, Bool.false_eq_true, reduceCtorEq, Nat.add_zero, Nat.zero_add]
  · have : w = 0 ∨ w = 1 ∨ w = 2 := by omega
    rcases this with rfl | rfl | rfl <;> simp (disch := first | omega | assumption | exact ay_z1b _ | exact ay_z10 | exact ay_z11) only [ae_68, af_68_0, af_68_1, af_68_2, af_68_5, af_68_8, af_68_10, af_68_11, af_68_12, af_68_15, af_68_16, af_68_19, af_68_20, af_68_21, af_68_22, af_68_23, af_68_24, af_68_27, af_68_28, af_68_31, af_68_32, af_68_33, af_68_36, af_68_37, af_68_40, af_68_41, af_68_42, ae_63, af_63_0, af_63_1, af_63_4, af_63_5, af_63_6, af_63_8, af_63_11, af_63_12, af_63_15, af_63_16, h, ay_cl_v, ay_cl_s, ay_i_add, ay_i_mul, ay_i_eq, ay_i_lt, ay_b0, ay_b1, ay_ni, ay_in, ay_nn, ay_nl, ay_ln, if_true, if_false, ↓reduceIte, Nat.reduceAdd, Nat.reduceMul, Nat.reduceEqDiff, Nat.reduceLT, Nat.not_lt_zero, Bool.true_eq_false, Bool.false_eq_true, reduceCtorEq, Nat.add_zero, Nat.zero_add]
theorem ai_hv_c {n p l w : Nat} {T : ag_T} {r : Bool} (hv : ag_vt M n = T) (hp : p < n) (hr : M 12 p 4 = ay_b r) (hl : l < 8) : ai_hv T p l w = if r = true then ai_tl (ag_nl (M 13 p l) (M 14 p l) (M 15 p l)) w else ay_n 3 := by
  rw [← hv]
  unfold ai_hv ag_vt
  cases r with
  | true => rw [if_pos ⟨hp, hr⟩]; simp [ag_vs, hl]
  | false =>
    rw [if_neg (fun h => by rw [hr, ay_bf, ay_i_eq (by omega) (by omega)] at h; omega)]; simp
theorem ai_hv_m {n p l w : Nat} {T : ag_T} {r : Bool} (hv : ag_vm M n = T) (hp : p < n) (hr : M 45 0 p = ay_b r) (hl : l < 8) : ai_hv T p l w = if r = true then ai_tl (ag_nl (M 46 0 (8 * p + l)) (M 47 0 (8 * p + l)) (M 48 0 (8 * p + l))) w else ay_n 3 := by
  rw [← hv]
  unfold ai_hv ag_vm
  cases r with
  | true => rw [if_pos ⟨hp, hr⟩]; simp [ag_vp, ag_tp, hl]
  | false =>
    rw [if_neg (fun h => by rw [hr, ay_bf, ay_i_eq (by omega) (by omega)] at h; omega)]; simp
theorem ai_fv_c {n p : Nat} {T : ag_T} {r : Bool} (hv : ag_vt M n = T) (hp : p < n) (hr : M 12 p 4 = ay_b r) : ai_fv T p = if r = true then M 12 p 3 else ay_n 1 := by
  rw [← hv]
  unfold ai_fv ag_vt
  cases r with
  | true => rw [if_pos ⟨hp, hr⟩]; simp [ag_vs]
  | false =>
    rw [if_neg (fun h => by rw [hr, ay_bf, ay_i_eq (by omega) (by omega)] at h; omega)]; simp
theorem ai_fv_m {n p : Nat} {T : ag_T} {r : Bool} (hv : ag_vm M n = T) (hp : p < n) (hr : M 45 0 p = ay_b r) : ai_fv T p = if r = true then M 49 0 p else ay_n 1 := by
  rw [← hv]
  unfold ai_fv ag_vm
  cases r with
  | true => rw [if_pos ⟨hp, hr⟩]; simp [ag_vp]
  | false =>
    rw [if_neg (fun h => by rw [hr, ay_bf, ay_i_eq (by omega) (by omega)] at h; omega)]; simp
theorem am_121 {p : Int32} {n : Nat} (hb : b < 12) (h40 : M 40 0 b = ay_i n) : ax_fn 121 0 (ax_entry 121 [.ref (ax_a 24 0), .int (ay_i b), .int p]) [] (ax_hp X e gb M o) = some (.inl (some (.int (ay_b (ay_w p (ay_i n))))), ax_hp X e gb M o) := by
  simp (disch := first | omega | assumption | exact ay_z1b _ | exact ay_z10 | exact ay_z11) only [ae_121, af_121_0, af_121_1, af_121_4, af_121_7, af_121_8, af_121_11, af_121_12, af_121_13, af_121_16, af_121_17, af_121_18, af_121_21, af_121_22, af_121_25, af_121_26, am_98, ay_w_i hb (by omega), ay_bt, h40, ay_cl_v, ay_cl_s, ay_i_add, ay_i_mul, ay_i_eq, ay_i_lt, ay_b0, ay_b1, ay_ni, ay_in, ay_nn, ay_nl, ay_ln, if_true, if_false, ↓reduceIte, Nat.reduceAdd, Nat.reduceMul, Nat.reduceEqDiff, Nat.reduceLT, Nat.not_lt_zero, Bool.true_eq_false, Bool.false_eq_true, reduceCtorEq, Nat.add_zero, Nat.zero_add]
  by_cases h1 : p < ay_i 0 <;> by_cases h2 : p < ay_i n <;> simp [h1, h2, ay_b, ay_w]
theorem am_121f {b p : Int32} (hb : ay_w b (ay_i 12) = false) : ax_fn 121 0 (ax_entry 121 [.ref (ax_a 24 0), .int b, .int p]) [] (ax_hp X e gb M o) = some (.inl (some (.int (ay_i 0))), ax_hp X e gb M o) := by
  simp (disch := first | omega | assumption | exact ay_z1b _ | exact ay_z10 | exact ay_z11) only [ae_121, af_121_0, af_121_1, af_121_4, af_121_7, af_121_8, af_121_11, af_121_12, af_121_13, af_121_16, af_121_17, af_121_18, af_121_21, af_121_22, af_121_25, af_121_26, am_98, hb, ay_bf, ay_cl_v, ay_cl_s, ay_i_add, ay_i_mul, ay_i_eq, ay_i_lt, ay_b0, ay_b1, ay_ni, ay_in, ay_nn, ay_nl, ay_ln, if_true, if_false, ↓reduceIte, Nat.reduceAdd, Nat.reduceMul, Nat.reduceEqDiff, Nat.reduceLT, Nat.not_lt_zero, Bool.true_eq_false, Bool.false_eq_true, reduceCtorEq, Nat.add_zero, Nat.zero_add]
/-- the guards have worked, one after the other -/
theorem ai_R_gg {M1 M1' M2 : ax_M} {t : Nat} (hR : ai_R M) (a2 : ag_fg M M1) (a3 : ai_c M1 (ag_pr M)) (b2 : ag_fm M1 M1') (h2 : M2 = ax_u3 M1' 24 0 0 (ay_i t)) : ai_R M2 := by
  subst h2
  refine ai_R_g hR (fun f i j h1 h2 h3 h4 => ?_) (ai_c_cg a3 (fun f i j h => ?_))
  · rw [← a2 f i j h1 h2, ← b2 f i j h3 (by omega)]; simp only [ax_u3]; grind
  · rw [← b2 f i j (by omega) (by omega)]; simp only [ax_u3]; grind
theorem ac_m_fg {M1 : ax_M} (a2 : ag_fg M M1) : ac_m M1 (ag_pr M) := by
  intro f j h1 h2
  rw [a2 f 0 j (by omega) (by omega)]; exact ag_pr_m M f j h1 h2
theorem aj_holds (hR : ai_R M) (he : e < 700000) {b p l w : Int32} : ai_J (ax_fn 7 0 (ax_entry 7 [.ref (ax_a 0 0), .int b, .int p, .int l, .int w, .ref (ax_a 68 0)]) [] (ax_hp X e gb M o)) (fun e' gb' M1 o1 => ax_fn 120 0 (ax_entry 120 [.ref (ax_a 24 0), .int b, .int p, .int l, .int w]) [] (ax_hp X e' gb' M1 o1)) X e (fun v => some (.int v)) true o := by
  cases hv : ay_w b (ay_i 12) with
  | false =>
    refine ⟨1, e + 1, gb, M, ax_u3 M 24 0 0 (ay_i 1), o, ay_i 0, ?_, ?_, by simp [ax_u3], by omega, (fun h => by omega), by omega, ai_R_t hR⟩
    · simp (disch := first | omega | assumption | exact ay_z1b _ | exact ay_z10 | exact ay_z11) only [ae_7, af_7_0, af_7_2, af_7_3, af_7_4, af_7_5, af_7_6, af_7_7, af_7_9, af_7_12, af_7_13, af_7_14, af_7_17, af_7_19, af_7_20, af_7_21, af_7_23, af_7_24, af_7_25, af_7_27, af_7_28, af_7_29, af_7_30, ae_83, af_83_0, af_83_1, af_83_3, af_83_6, af_83_9, af_83_10, af_83_13, af_83_16, af_83_17, af_83_18, af_83_19, af_83_22, af_83_25, af_83_26, af_83_28, af_83_31, af_83_34, af_83_35, af_83_38, af_83_39, af_83_42, af_83_44, af_83_45, af_83_48, af_83_51, af_83_52, af_83_55, af_83_56, af_83_59, af_83_62, af_83_63, af_83_66, af_83_67, af_83_68, af_83_71, af_83_73, af_83_75, af_83_78, af_83_81, af_83_83, af_83_84, af_83_86, af_83_89, af_83_92, af_83_94, am_71, hv, ay_bf, am_72f, ah_83, ah_7_0, ay_cl_v, ay_cl_s, ay_i_add, ay_i_mul, ay_i_eq, ay_i_lt, ay_b0, ay_b1, ay_ni, ay_in, ay_nn, ay_nl, ay_ln, if_true, if_false, ↓reduceIte, Nat.reduceAdd, Nat.reduceMul, Nat.reduceEqDiff, Nat.reduceLT, Nat.not_lt_zero, Bool.true_eq_false, Bool.false_eq_true, reduceCtorEq, Nat.add_zero, Nat.zero_add]
    · simp (disch := first | omega | assumption | exact ay_z1b _ | exact ay_z10 | exact ay_z11) only [ae_120, af_120_0, af_120_1, af_120_2, af_120_3, af_120_6, af_120_9, af_120_10, af_120_13, af_120_16, af_120_17, af_120_20, af_120_21, af_120_23, af_120_24, af_120_26, af_120_28, af_120_29, af_120_30, af_120_33, af_120_35, af_120_38, af_120_39, af_120_40, af_120_43, af_120_46, af_120_47, af_120_50, af_120_51, af_120_54, af_120_57, af_120_58, af_120_59, af_120_61, af_120_62, af_120_63, af_120_64, af_120_65, af_120_67, af_120_68, af_120_71, af_120_72, af_120_73, af_120_76, af_120_78, af_120_79, af_120_80, af_120_83, af_120_85, af_120_86, af_120_88, af_120_91, af_120_93, af_120_94, af_120_96, af_120_99, af_120_100, af_120_103, af_120_105, af_120_106, af_120_109, af_120_111, af_120_112, af_120_115, af_120_116, af_120_119, af_120_121, af_120_122, af_120_125, af_120_126, af_120_129, af_120_131, af_120_132, am_121f, hv, ay_bf, am_95 (show 2 < 100000 by omega), am_96a, ay_cl_v, ay_cl_s, ay_i_add, ay_i_mul, ay_i_eq, ay_i_lt, ay_b0, ay_b1, ay_ni, ay_in, ay_nn, ay_nl, ay_ln, if_true, if_false, ↓reduceIte, Nat.reduceAdd, Nat.reduceMul, Nat.reduceEqDiff, Nat.reduceLT, Nat.not_lt_zero, Bool.true_eq_false, Bool.false_eq_true, reduceCtorEq, Nat.add_zero, Nat.zero_add]
  | true =>
    obtain ⟨b, hb, rfl, -⟩ := ay_w_inv (by omega) hv
    obtain ⟨r1, r2, r3, r4⟩ := id hR
    have hsz := r1.1 b hb
    have hs3 : M 3 b 6 = ay_i (ap_sz (ag_pr M) b) := by rw [(r2.1 b hb).1]; exact hsz.1
    have hs40 : M 40 0 b = ay_i (ap_sz (ag_pr M) b) := by rw [← hsz.1, ag_pr_at (by omega) (by omega)]
    have hs4 := hsz.2
    generalize hnn : ap_sz (ag_pr M) b = n at *
    by_cases hv2 : ay_w p (ay_i n) = true ∧ ay_w l (ay_i 8) = true
    · obtain ⟨hpv, hlv⟩ := hv2
      obtain ⟨p, hp, rfl, -⟩ := ay_w_inv (by omega) hpv
      obtain ⟨l, hl, rfl, -⟩ := ay_w_inv (by omega) hlv
      cases hwv : ay_w w (ay_i 3) with
      | false =>
        obtain ⟨M2, b1, b2, -⟩ := am_106c (X := X) (e := e + 1) (gb := gb) (o := o) r1 (ag_pr_m M) hb
        refine ⟨2, e + 1, gb, M, ax_u3 M2 24 0 0 (ay_i 2), o, ay_i 0, ?_, ?_, by simp [ax_u3], by omega, (fun h => by omega), by omega, ai_R_gg hR (fun _ _ _ _ _ => rfl) r3 b2 rfl⟩
        · simp (disch := first | omega | assumption | exact ay_z1b _ | exact ay_z10 | exact ay_z11) only [ae_7, af_7_0, af_7_2, af_7_3, af_7_4, af_7_5, af_7_6, af_7_7, af_7_9, af_7_12, af_7_13, af_7_14, af_7_17, af_7_19, af_7_20, af_7_21, af_7_23, af_7_24, af_7_25, af_7_27, af_7_28, af_7_29, af_7_30, ae_83, af_83_0, af_83_1, af_83_3, af_83_6, af_83_9, af_83_10, af_83_13, af_83_16, af_83_17, af_83_18, af_83_19, af_83_22, af_83_25, af_83_26, af_83_28, af_83_31, af_83_34, af_83_35, af_83_38, af_83_39, af_83_42, af_83_44, af_83_45, af_83_48, af_83_51, af_83_52, af_83_55, af_83_56, af_83_59, af_83_62, af_83_63, af_83_66, af_83_67, af_83_68, af_83_71, af_83_73, af_83_75, af_83_78, af_83_81, af_83_83, af_83_84, af_83_86, af_83_89, af_83_92, af_83_94, am_71, hv, hpv, hlv, hwv, am_19, hs3, ay_bt, ay_bf, am_72t, am_78f, ah_83, ah_7_1, ay_cl_v, ay_cl_s, ay_i_add, ay_i_mul, ay_i_eq, ay_i_lt, ay_b0, ay_b1, ay_ni, ay_in, ay_nn, ay_nl, ay_ln, if_true, if_false, ↓reduceIte, Nat.reduceAdd, Nat.reduceMul, Nat.reduceEqDiff, Nat.reduceLT, Nat.not_lt_zero, Bool.true_eq_false, Bool.false_eq_true, reduceCtorEq, Nat.add_zero, Nat.zero_add]
        · cases hg : ai_g (ag_pr M) b <;> rw [hg] at b1 <;> simp (disch := first | omega | assumption | exact ay_z1b _ | exact ay_z10 | exact ay_z11) only [ae_120, af_120_0, af_120_1, af_120_2, af_120_3, af_120_6, af_120_9, af_120_10, af_120_13, af_120_16, af_120_17, af_120_20, af_120_21, af_120_23, af_120_24, af_120_26, af_120_28, af_120_29, af_120_30, af_120_33, af_120_35, af_120_38, af_120_39, af_120_40, af_120_43, af_120_46, af_120_47, af_120_50, af_120_51, af_120_54, af_120_57, af_120_58, af_120_59, af_120_61, af_120_62, af_120_63, af_120_64, af_120_65, af_120_67, af_120_68, af_120_71, af_120_72, af_120_73, af_120_76, af_120_78, af_120_79, af_120_80, af_120_83, af_120_85, af_120_86, af_120_88, af_120_91, af_120_93, af_120_94, af_120_96, af_120_99, af_120_100, af_120_103, af_120_105, af_120_106, af_120_109, af_120_111, af_120_112, af_120_115, af_120_116, af_120_119, af_120_121, af_120_122, af_120_125, af_120_126, af_120_129, af_120_131, af_120_132, am_121 hb hs40, am_103, hpv, hlv, hwv, b1, ay_bt, ay_bf, am_95 (show 2 < 100000 by omega), am_96b, ay_cl_v, ay_cl_s, ay_i_add, ay_i_mul, ay_i_eq, ay_i_lt, ay_b0, ay_b1, ay_ni, ay_in, ay_nn, ay_nl, ay_ln, if_true, if_false, ↓reduceIte, Nat.reduceAdd, Nat.reduceMul, Nat.reduceEqDiff, Nat.reduceLT, Nat.not_lt_zero, Bool.true_eq_false, Bool.false_eq_true, reduceCtorEq, Nat.add_zero, Nat.zero_add]
      | true =>
        obtain ⟨w, hw, rfl, -⟩ := ay_w_inv (by omega) hwv
        obtain ⟨M1, gb', a1, a2, a3⟩ := am_26 (X := X) (e := e) (o := o) (gb := gb) r1 r2 r3 hb
        cases hg : ai_g (ag_pr M) b with
        | false =>
          rw [hg] at a1
          have h40 : M1 40 0 b = ay_i n := by rw [a2 _ _ _ (by omega) (by omega)]; exact hs40
          obtain ⟨M2, b1, b2, -⟩ := am_106c (X := X) (e := e + 1) (gb := gb') (o := o) r1 (ac_m_fg a2) hb
          rw [hg] at b1
          refine ⟨3, e + 1, gb', M1, ax_u3 M2 24 0 0 (ay_i 3), o, ay_i 0, ?_, ?_, by simp [ax_u3], by omega, (fun h => by omega), by omega, ai_R_gg hR a2 a3 b2 rfl⟩
          · simp (disch := first | omega | assumption | exact ay_z1b _ | exact ay_z10 | exact ay_z11) only [ae_7, af_7_0, af_7_2, af_7_3, af_7_4, af_7_5, af_7_6, af_7_7, af_7_9, af_7_12, af_7_13, af_7_14, af_7_17, af_7_19, af_7_20, af_7_21, af_7_23, af_7_24, af_7_25, af_7_27, af_7_28, af_7_29, af_7_30, ae_83, af_83_0, af_83_1, af_83_3, af_83_6, af_83_9, af_83_10, af_83_13, af_83_16, af_83_17, af_83_18, af_83_19, af_83_22, af_83_25, af_83_26, af_83_28, af_83_31, af_83_34, af_83_35, af_83_38, af_83_39, af_83_42, af_83_44, af_83_45, af_83_48, af_83_51, af_83_52, af_83_55, af_83_56, af_83_59, af_83_62, af_83_63, af_83_66, af_83_67, af_83_68, af_83_71, af_83_73, af_83_75, af_83_78, af_83_81, af_83_83, af_83_84, af_83_86, af_83_89, af_83_92, af_83_94, am_71, hv, hpv, hlv, hwv, am_19, hs3, ay_bt, ay_bf, am_72t, am_78t, a1, am_75f, ah_83, ah_7_2, ay_cl_v, ay_cl_s, ay_i_add, ay_i_mul, ay_i_eq, ay_i_lt, ay_b0, ay_b1, ay_ni, ay_in, ay_nn, ay_nl, ay_ln, if_true, if_false, ↓reduceIte, Nat.reduceAdd, Nat.reduceMul, Nat.reduceEqDiff, Nat.reduceLT, Nat.not_lt_zero, Bool.true_eq_false, Bool.false_eq_true, reduceCtorEq, Nat.add_zero, Nat.zero_add]
          · simp (disch := first | omega | assumption | exact ay_z1b _ | exact ay_z10 | exact ay_z11) only [ae_120, af_120_0, af_120_1, af_120_2, af_120_3, af_120_6, af_120_9, af_120_10, af_120_13, af_120_16, af_120_17, af_120_20, af_120_21, af_120_23, af_120_24, af_120_26, af_120_28, af_120_29, af_120_30, af_120_33, af_120_35, af_120_38, af_120_39, af_120_40, af_120_43, af_120_46, af_120_47, af_120_50, af_120_51, af_120_54, af_120_57, af_120_58, af_120_59, af_120_61, af_120_62, af_120_63, af_120_64, af_120_65, af_120_67, af_120_68, af_120_71, af_120_72, af_120_73, af_120_76, af_120_78, af_120_79, af_120_80, af_120_83, af_120_85, af_120_86, af_120_88, af_120_91, af_120_93, af_120_94, af_120_96, af_120_99, af_120_100, af_120_103, af_120_105, af_120_106, af_120_109, af_120_111, af_120_112, af_120_115, af_120_116, af_120_119, af_120_121, af_120_122, af_120_125, af_120_126, af_120_129, af_120_131, af_120_132, am_121 hb h40, am_103, hpv, hlv, hwv, b1, ay_bt, ay_bf, am_95 (show 2 < 100000 by omega), am_96c, ay_cl_v, ay_cl_s, ay_i_add, ay_i_mul, ay_i_eq, ay_i_lt, ay_b0, ay_b1, ay_ni, ay_in, ay_nn, ay_nl, ay_ln, if_true, if_false, ↓reduceIte, Nat.reduceAdd, Nat.reduceMul, Nat.reduceEqDiff, Nat.reduceLT, Nat.not_lt_zero, Bool.true_eq_false, Bool.false_eq_true, reduceCtorEq, Nat.add_zero, Nat.zero_add]
        | true =>
          rw [hg] at a1
          obtain ⟨T, hT⟩ := ai_g_T hg
          obtain ⟨M1', gb1, c1, c2, c3, c4, rr, c5⟩ := am_41 (X := X) (e := e) (o := o) (gb := gb') (p := p) r1 (ac_p_fg r2 a2) a3 hb (by rw [hnn]; exact hp) hT
          rw [hnn] at c4
          have a2' := ag_fg_t a2 c2
          have hcv := ai_hv_c (w := w) c4 hp c5 hl
          have h40 : M1' 40 0 b = ay_i n := by rw [a2' _ _ _ (by omega) (by omega)]; exact hs40
          obtain ⟨M2, b1, b2, b3⟩ := am_106c (X := X) (e := e) (gb := gb1) (o := (ai_hv T p l w).toInt64) r1 (ac_m_fg a2') hb
          rw [hg] at b1
          obtain ⟨b4, b5⟩ := b3 T hT
          rw [hnn] at b4 b5
          obtain ⟨rm, b6⟩ := b5 p hp
          have hmv := ai_hv_m (w := w) b4 hp b6 hl
          refine ⟨0, e, gb1, M1', ax_u3 M2 24 0 0 (ay_i 0), (ai_hv T p l w).toInt64, ai_hv T p l w, ?_, ?_, by simp [ax_u3], by omega, (fun _ _ => rfl), by omega, ai_R_gg hR a2' c3 b2 rfl⟩
          · rw [hcv]
            cases rr <;> simp (disch := first | omega | assumption | exact ay_z1b _ | exact ay_z10 | exact ay_z11) only [ae_7, af_7_0, af_7_2, af_7_3, af_7_4, af_7_5, af_7_6, af_7_7, af_7_9, af_7_12, af_7_13, af_7_14, af_7_17, af_7_19, af_7_20, af_7_21, af_7_23, af_7_24, af_7_25, af_7_27, af_7_28, af_7_29, af_7_30, ae_83, af_83_0, af_83_1, af_83_3, af_83_6, af_83_9, af_83_10, af_83_13, af_83_16, af_83_17, af_83_18, af_83_19, af_83_22, af_83_25, af_83_26, af_83_28, af_83_31, af_83_34, af_83_35, af_83_38, af_83_39, af_83_42, af_83_44, af_83_45, af_83_48, af_83_51, af_83_52, af_83_55, af_83_56, af_83_59, af_83_62, af_83_63, af_83_66, af_83_67, af_83_68, af_83_71, af_83_73, af_83_75, af_83_78, af_83_81, af_83_83, af_83_84, af_83_86, af_83_89, af_83_92, af_83_94, am_71, hv, hpv, hlv, hwv, am_19, hs3, ay_bt, ay_bf, am_72t, am_78t, a1, am_75t, c1, c5, am_68, ay_cl_v, ay_cl_s, ay_i_add, ay_i_mul, ay_i_eq, ay_i_lt, ay_b0, ay_b1, ay_ni, ay_in, ay_nn, ay_nl, ay_ln, if_true, if_false, ↓reduceIte, Nat.reduceAdd, Nat.reduceMul, Nat.reduceEqDiff, Nat.reduceLT, Nat.not_lt_zero, Bool.true_eq_false, Bool.false_eq_true, reduceCtorEq, Nat.add_zero, Nat.zero_add]
          · generalize (ai_hv T p l w).toInt64 = o1 at b1 ⊢
            cases rm with
            | false =>
              rw [ay_bf] at b6
              simp (disch := first | omega | assumption | exact ay_z1b _ | exact ay_z10 | exact ay_z11) only [ae_120, af_120_0, af_120_1, af_120_2, af_120_3, af_120_6, af_120_9, af_120_10, af_120_13, af_120_16, af_120_17, af_120_20, af_120_21, af_120_23, af_120_24, af_120_26, af_120_28, af_120_29, af_120_30, af_120_33, af_120_35, af_120_38, af_120_39, af_120_40, af_120_43, af_120_46, af_120_47, af_120_50, af_120_51, af_120_54, af_120_57, af_120_58, af_120_59, af_120_61, af_120_62, af_120_63, af_120_64, af_120_65, af_120_67, af_120_68, af_120_71, af_120_72, af_120_73, af_120_76, af_120_78, af_120_79, af_120_80, af_120_83, af_120_85, af_120_86, af_120_88, af_120_91, af_120_93, af_120_94, af_120_96, af_120_99, af_120_100, af_120_103, af_120_105, af_120_106, af_120_109, af_120_111, af_120_112, af_120_115, af_120_116, af_120_119, af_120_121, af_120_122, af_120_125, af_120_126, af_120_129, af_120_131, af_120_132, am_121 hb h40, am_103, hpv, hlv, hwv, b1, ay_bt, ay_bf, am_95 (show 2 < 100000 by omega), am_96d, ay_u3e, false_and, and_false, true_and, and_true, and_self, b6, ay_cl_v, ay_cl_s, ay_i_add, ay_i_mul, ay_i_eq, ay_i_lt, ay_b0, ay_b1, ay_ni, ay_in, ay_nn, ay_nl, ay_ln, if_true, if_false, ↓reduceIte, Nat.reduceAdd, Nat.reduceMul, Nat.reduceEqDiff, Nat.reduceLT, Nat.not_lt_zero, Bool.true_eq_false, Bool.false_eq_true, reduceCtorEq, Nat.add_zero, Nat.zero_add]
              rw [hmv]; rfl
            | true =>
              rw [ay_bt] at b6
              rw [if_pos rfl, ai_tl_nl] at hmv
              by_cases hz : M2 46 0 (8 * p + l) = ay_n 2
              · simp (disch := first | omega | assumption | exact ay_z1b _ | exact ay_z10 | exact ay_z11) only [ae_120, af_120_0, af_120_1, af_120_2, af_120_3, af_120_6, af_120_9, af_120_10, af_120_13, af_120_16, af_120_17, af_120_20, af_120_21, af_120_23, af_120_24, af_120_26, af_120_28, af_120_29, af_120_30, af_120_33, af_120_35, af_120_38, af_120_39, af_120_40, af_120_43, af_120_46, af_120_47, af_120_50, af_120_51, af_120_54, af_120_57, af_120_58, af_120_59, af_120_61, af_120_62, af_120_63, af_120_64, af_120_65, af_120_67, af_120_68, af_120_71, af_120_72, af_120_73, af_120_76, af_120_78, af_120_79, af_120_80, af_120_83, af_120_85, af_120_86, af_120_88, af_120_91, af_120_93, af_120_94, af_120_96, af_120_99, af_120_100, af_120_103, af_120_105, af_120_106, af_120_109, af_120_111, af_120_112, af_120_115, af_120_116, af_120_119, af_120_121, af_120_122, af_120_125, af_120_126, af_120_129, af_120_131, af_120_132, am_121 hb h40, am_103, hpv, hlv, hwv, b1, ay_bt, ay_bf, am_95 (show 2 < 100000 by omega), am_96d, ay_u3e, false_and, and_false, true_and, and_true, and_self, b6, hz, ay_cl_v, ay_cl_s, ay_i_add, ay_i_mul, ay_i_eq, ay_i_lt, ay_b0, ay_b1, ay_ni, ay_in, ay_nn, ay_nl, ay_ln, if_true, if_false, ↓reduceIte, Nat.reduceAdd, Nat.reduceMul, Nat.reduceEqDiff, Nat.reduceLT, Nat.not_lt_zero, Bool.true_eq_false, Bool.false_eq_true, reduceCtorEq, Nat.add_zero, Nat.zero_add]
                rw [hmv, if_pos hz]
              · rw [if_neg hz] at hmv
                have : w = 0 ∨ w = 1 ∨ w = 2 := by omega
                rcases this with rfl | rfl | rfl <;> simp (disch := first | omega | assumption | exact ay_z1b _ | exact ay_z10 | exact ay_z11) only [ae_120, af_120_0, af_120_1, af_120_2, af_120_3, af_120_6, af_120_9, af_120_10, af_120_13, af_120_16, af_120_17, af_120_20, af_120_21, af_120_23, af_120_24, af_120_26, af_120_28, af_120_29, af_120_30, af_120_33, af_120_35, af_120_38, af_120_39, af_120_40, af_120_43, af_120_46, af_120_47, af_120_50, af_120_51, af_120_54, af_120_57, af_120_58, af_120_59, af_120_61, af_120_62, af_120_63, af_120_64, af_120_65, af_120_67, af_120_68, af_120_71, af_120_72, af_120_73, af_120_76, af_120_78, af_120_79, af_120_80, af_120_83, af_120_85, af_120_86, af_120_88, af_120_91, af_120_93, af_120_94, af_120_96, af_120_99, af_120_100, af_120_103, af_120_105, af_120_106, af_120_109, af_120_111, af_120_112, af_120_115, af_120_116, af_120_119, af_120_121, af_120_122, af_120_125, af_120_126, af_120_129, af_120_131, af_120_132, am_121 hb h40, am_103, hpv, hlv, hwv, b1, ay_bt, ay_bf, am_95 (show 2 < 100000 by omega), am_96d, ay_u3e, false_and, and_false, true_and, and_true, and_self, b6, hz, hmv, ay_cl_v, ay_cl_s, ay_i_add, ay_i_mul, ay_i_eq, ay_i_lt, ay_b0, ay_b1, ay_ni, ay_in, ay_nn, ay_nl, ay_ln, if_true, if_false, ↓reduceIte, Nat.reduceAdd, Nat.reduceMul, Nat.reduceEqDiff, Nat.reduceLT, Nat.not_lt_zero, Bool.true_eq_false, Bool.false_eq_true, reduceCtorEq, Nat.add_zero, Nat.zero_add]
    · refine ⟨1, e + 1, gb, M, ax_u3 M 24 0 0 (ay_i 1), o, ay_i 0, ?_, ?_, by simp [ax_u3], by omega, (fun h => by omega), by omega, ai_R_t hR⟩
      · cases h1 : ay_w p (ay_i n) <;> cases h2 : ay_w l (ay_i 8) <;> simp only [h1, h2, and_self, not_true, Bool.false_eq_true, false_and, and_false, not_false_eq_true] at hv2 <;> simp (disch := first | omega | assumption | exact ay_z1b _ | exact ay_z10 | exact ay_z11) only [ae_7, af_7_0, af_7_2, af_7_3, af_7_4, af_7_5, af_7_6, af_7_7, af_7_9, af_7_12, af_7_13, af_7_14, af_7_17, af_7_19, af_7_20, af_7_21, af_7_23, af_7_24, af_7_25, af_7_27, af_7_28, af_7_29, af_7_30, ae_83, af_83_0, af_83_1, af_83_3, af_83_6, af_83_9, af_83_10, af_83_13, af_83_16, af_83_17, af_83_18, af_83_19, af_83_22, af_83_25, af_83_26, af_83_28, af_83_31, af_83_34, af_83_35, af_83_38, af_83_39, af_83_42, af_83_44, af_83_45, af_83_48, af_83_51, af_83_52, af_83_55, af_83_56, af_83_59, af_83_62, af_83_63, af_83_66, af_83_67, af_83_68, af_83_71, af_83_73, af_83_75, af_83_78, af_83_81, af_83_83, af_83_84, af_83_86, af_83_89, af_83_92, af_83_94, am_71, hv, h1, h2, am_19, hs3, ay_bt, ay_bf, am_72f, ah_83, ah_7_0, ay_cl_v, ay_cl_s, ay_i_add, ay_i_mul, ay_i_eq, ay_i_lt, ay_b0, ay_b1, ay_ni, ay_in, ay_nn, ay_nl, ay_ln, if_true, if_false, ↓reduceIte, Nat.reduceAdd, Nat.reduceMul, Nat.reduceEqDiff, Nat.reduceLT, Nat.not_lt_zero, Bool.true_eq_false, Bool.false_eq_true, reduceCtorEq, Nat.add_zero, Nat.zero_add]
      · cases h1 : ay_w p (ay_i n) <;> cases h2 : ay_w l (ay_i 8) <;> simp only [h1, h2, and_self, not_true, Bool.false_eq_true, false_and, and_false, not_false_eq_true] at hv2 <;> simp (disch := first | omega | assumption | exact ay_z1b _ | exact ay_z10 | exact ay_z11) only [ae_120, af_120_0, af_120_1, af_120_2, af_120_3, af_120_6, af_120_9, af_120_10, af_120_13, af_120_16, af_120_17, af_120_20, af_120_21, af_120_23, af_120_24, af_120_26, af_120_28, af_120_29, af_120_30, af_120_33, af_120_35, af_120_38, af_120_39, af_120_40, af_120_43, af_120_46, af_120_47, af_120_50, af_120_51, af_120_54, af_120_57, af_120_58, af_120_59, af_120_61, af_120_62, af_120_63, af_120_64, af_120_65, af_120_67, af_120_68, af_120_71, af_120_72, af_120_73, af_120_76, af_120_78, af_120_79, af_120_80, af_120_83, af_120_85, af_120_86, af_120_88, af_120_91, af_120_93, af_120_94, af_120_96, af_120_99, af_120_100, af_120_103, af_120_105, af_120_106, af_120_109, af_120_111, af_120_112, af_120_115, af_120_116, af_120_119, af_120_121, af_120_122, af_120_125, af_120_126, af_120_129, af_120_131, af_120_132, am_121 hb hs40, am_103, h1, h2, ay_bf, ay_bt, am_95 (show 2 < 100000 by omega), am_96a, ay_cl_v, ay_cl_s, ay_i_add, ay_i_mul, ay_i_eq, ay_i_lt, ay_b0, ay_b1, ay_ni, ay_in, ay_nn, ay_nl, ay_ln, if_true, if_false, ↓reduceIte, Nat.reduceAdd, Nat.reduceMul, Nat.reduceEqDiff, Nat.reduceLT, Nat.not_lt_zero, Bool.true_eq_false, Bool.false_eq_true, reduceCtorEq, Nat.add_zero, Nat.zero_add]
theorem aj_fields (hR : ai_R M) (he : e < 700000) {b p : Int32} : ai_J (ax_fn 8 0 (ax_entry 8 [.ref (ax_a 0 0), .int b, .int p, .ref (ax_a 68 0)]) [] (ax_hp X e gb M o)) (fun e' gb' M1 o1 => ax_fn 122 0 (ax_entry 122 [.ref (ax_a 24 0), .int b, .int p]) [] (ax_hp X e' gb' M1 o1)) X e (fun v => some (.int v)) true o := by
  cases hv : ay_w b (ay_i 12) with
  | false =>
    refine ⟨1, e + 1, gb, M, ax_u3 M 24 0 0 (ay_i 1), o, ay_i 0, ?_, ?_, by simp [ax_u3], by omega, (fun h => by omega), by omega, ai_R_t hR⟩
    · simp (disch := first | omega | assumption | exact ay_z1b _ | exact ay_z10 | exact ay_z11) only [ae_8, af_8_0, af_8_1, af_8_2, af_8_3, af_8_4, af_8_5, af_8_8, af_8_9, af_8_10, af_8_13, af_8_15, af_8_16, af_8_17, af_8_19, af_8_20, af_8_21, af_8_22, ae_84, af_84_0, af_84_1, af_84_3, af_84_6, af_84_9, af_84_10, af_84_13, af_84_16, af_84_17, af_84_20, af_84_23, af_84_24, af_84_25, af_84_26, af_84_29, af_84_32, af_84_33, af_84_36, af_84_37, af_84_40, af_84_41, af_84_44, af_84_45, af_84_48, af_84_51, af_84_52, af_84_55, af_84_56, af_84_57, af_84_60, af_84_61, af_84_62, af_84_65, af_84_68, af_84_69, af_84_72, af_84_75, af_84_76, am_71, hv, ay_bf, am_72f, ah_84, ah_8_0, ay_cl_v, ay_cl_s, ay_i_add, ay_i_mul, ay_i_eq, ay_i_lt, ay_b0, ay_b1, ay_ni, ay_in, ay_nn, ay_nl, ay_ln, if_true, if_false, ↓reduceIte, Nat.reduceAdd, Nat.reduceMul, Nat.reduceEqDiff, Nat.reduceLT, Nat.not_lt_zero, Bool.true_eq_false, Bool.false_eq_true, reduceCtorEq, Nat.add_zero, Nat.zero_add]
    · simp (disch := first | omega | assumption | exact ay_z1b _ | exact ay_z10 | exact ay_z11) only [ae_122, af_122_0, af_122_1, af_122_2, af_122_3, af_122_6, af_122_9, af_122_10, af_122_12, af_122_15, af_122_16, af_122_19, af_122_20, af_122_21, af_122_22, af_122_23, af_122_24, af_122_27, af_122_28, af_122_29, af_122_32, af_122_35, af_122_36, af_122_39, af_122_40, af_122_41, af_122_44, af_122_47, af_122_48, af_122_49, af_122_50, af_122_53, af_122_54, af_122_55, af_122_58, af_122_59, af_122_62, af_122_63, af_122_64, af_122_67, af_122_68, am_121f, hv, ay_bf, am_96a, ay_cl_v, ay_cl_s, ay_i_add, ay_i_mul, ay_i_eq, ay_i_lt, ay_b0, ay_b1, ay_ni, ay_in, ay_nn, ay_nl, ay_ln, if_true, if_false, ↓reduceIte, Nat.reduceAdd, Nat.reduceMul, Nat.reduceEqDiff, Nat.reduceLT, Nat.not_lt_zero, Bool.true_eq_false, Bool.false_eq_true, reduceCtorEq, Nat.add_zero, Nat.zero_add]
  | true =>
    obtain ⟨b, hb, rfl, -⟩ := ay_w_inv (by omega) hv
    obtain ⟨r1, r2, r3, r4⟩ := id hR
    have hsz := r1.1 b hb
    have hs3 : M 3 b 6 = ay_i (ap_sz (ag_pr M) b) := by rw [(r2.1 b hb).1]; exact hsz.1
    have hs40 : M 40 0 b = ay_i (ap_sz (ag_pr M) b) := by rw [← hsz.1, ag_pr_at (by omega) (by omega)]
    have hs4 := hsz.2
    generalize hnn : ap_sz (ag_pr M) b = n at *
    by_cases hv2 : ay_w p (ay_i n) = true ∧ b < 6
    · obtain ⟨hpv, hb6⟩ := hv2
      obtain ⟨p, hp, rfl, -⟩ := ay_w_inv (by omega) hpv
      obtain ⟨M1, gb', a1, a2, a3⟩ := am_26 (X := X) (e := e) (o := o) (gb := gb) r1 r2 r3 hb
      cases hg : ai_g (ag_pr M) b with
      | false =>
        rw [hg] at a1
        have h40 : M1 40 0 b = ay_i n := by rw [a2 _ _ _ (by omega) (by omega)]; exact hs40
        obtain ⟨M2, b1, b2, -⟩ := am_106c (X := X) (e := e + 1) (gb := gb') (o := o) r1 (ac_m_fg a2) hb
        rw [hg] at b1
        refine ⟨2, e + 1, gb', M1, ax_u3 M2 24 0 0 (ay_i 2), o, ay_i 0, ?_, ?_, by simp [ax_u3], by omega, (fun h => by omega), by omega, ai_R_gg hR a2 a3 b2 rfl⟩
        · simp (disch := first | omega | assumption | exact ay_z1b _ | exact ay_z10 | exact ay_z11) only [ae_8, af_8_0, af_8_1, af_8_2, af_8_3, af_8_4, af_8_5, af_8_8, af_8_9, af_8_10, af_8_13, af_8_15, af_8_16, af_8_17, af_8_19, af_8_20, af_8_21, af_8_22, ae_84, af_84_0, af_84_1, af_84_3, af_84_6, af_84_9, af_84_10, af_84_13, af_84_16, af_84_17, af_84_20, af_84_23, af_84_24, af_84_25, af_84_26, af_84_29, af_84_32, af_84_33, af_84_36, af_84_37, af_84_40, af_84_41, af_84_44, af_84_45, af_84_48, af_84_51, af_84_52, af_84_55, af_84_56, af_84_57, af_84_60, af_84_61, af_84_62, af_84_65, af_84_68, af_84_69, af_84_72, af_84_75, af_84_76, ae_82, af_82_0, af_82_1, af_82_3, af_82_6, af_82_7, af_82_10, af_82_11, am_71, hv, hpv, hb6, am_19, hs3, ay_bt, ay_bf, am_72t, a1, am_75f, ah_84, ah_8_2, ay_cl_v, ay_cl_s, ay_i_add, ay_i_mul, ay_i_eq, ay_i_lt, ay_b0, ay_b1, ay_ni, ay_in, ay_nn, ay_nl, ay_ln, if_true, if_false, ↓reduceIte, Nat.reduceAdd, Nat.reduceMul, Nat.reduceEqDiff, Nat.reduceLT, Nat.not_lt_zero, Bool.true_eq_false, Bool.false_eq_true, reduceCtorEq, Nat.add_zero, Nat.zero_add]
        · simp (disch := first | omega | assumption | exact ay_z1b _ | exact ay_z10 | exact ay_z11) only [ae_122, af_122_0, af_122_1, af_122_2, af_122_3, af_122_6, af_122_9, af_122_10, af_122_12, af_122_15, af_122_16, af_122_19, af_122_20, af_122_21, af_122_22, af_122_23, af_122_24, af_122_27, af_122_28, af_122_29, af_122_32, af_122_35, af_122_36, af_122_39, af_122_40, af_122_41, af_122_44, af_122_47, af_122_48, af_122_49, af_122_50, af_122_53, af_122_54, af_122_55, af_122_58, af_122_59, af_122_62, af_122_63, af_122_64, af_122_67, af_122_68, am_121 hb h40, hpv, hb6, b1, ay_bt, ay_bf, am_96b, ay_cl_v, ay_cl_s, ay_i_add, ay_i_mul, ay_i_eq, ay_i_lt, ay_b0, ay_b1, ay_ni, ay_in, ay_nn, ay_nl, ay_ln, if_true, if_false, ↓reduceIte, Nat.reduceAdd, Nat.reduceMul, Nat.reduceEqDiff, Nat.reduceLT, Nat.not_lt_zero, Bool.true_eq_false, Bool.false_eq_true, reduceCtorEq, Nat.add_zero, Nat.zero_add]
      | true =>
        rw [hg] at a1
        obtain ⟨T, hT⟩ := ai_g_T hg
        obtain ⟨M1', gb1, c1, c2, c3, c4, rr, c5⟩ := am_41 (X := X) (e := e) (o := o) (gb := gb') (p := p) r1 (ac_p_fg r2 a2) a3 hb (by rw [hnn]; exact hp) hT
        rw [hnn] at c4
        have a2' := ag_fg_t a2 c2
        have hcv := ai_fv_c c4 hp c5
        have h40 : M1' 40 0 b = ay_i n := by rw [a2' _ _ _ (by omega) (by omega)]; exact hs40
        obtain ⟨M2, b1, b2, b3⟩ := am_106c (X := X) (e := e) (gb := gb1) (o := (ai_fv T p).toInt64) r1 (ac_m_fg a2') hb
        rw [hg] at b1
        obtain ⟨b4, b5⟩ := b3 T hT
        rw [hnn] at b4 b5
        obtain ⟨rm, b6⟩ := b5 p hp
        have hmv := ai_fv_m b4 hp b6
        refine ⟨0, e, gb1, M1', ax_u3 M2 24 0 0 (ay_i 0), (ai_fv T p).toInt64, ai_fv T p, ?_, ?_, by simp [ax_u3], by omega, (fun _ _ => rfl), by omega, ai_R_gg hR a2' c3 b2 rfl⟩
        · rw [hcv]
          cases rr <;> simp (disch := first | omega | assumption | exact ay_z1b _ | exact ay_z10 | exact ay_z11) only [ae_8, af_8_0, af_8_1, af_8_2, af_8_3, af_8_4, af_8_5, af_8_8, af_8_9, af_8_10, af_8_13, af_8_15, af_8_16, af_8_17, af_8_19, af_8_20, af_8_21, af_8_22, ae_84, af_84_0, af_84_1, af_84_3, af_84_6, af_84_9, af_84_10, af_84_13, af_84_16, af_84_17, af_84_20, af_84_23, af_84_24, af_84_25, af_84_26, af_84_29, af_84_32, af_84_33, af_84_36, af_84_37, af_84_40, af_84_41, af_84_44, af_84_45, af_84_48, af_84_51, af_84_52, af_84_55, af_84_56, af_84_57, af_84_60, af_84_61, af_84_62, af_84_65, af_84_68, af_84_69, af_84_72, af_84_75, af_84_76, ae_82, af_82_0, af_82_1, af_82_3, af_82_6, af_82_7, af_82_10, af_82_11, am_71, hv, hpv, hb6, am_19, hs3, ay_bt, ay_bf, am_72t, a1, am_75t, c1, c5, ay_cl_v, ay_cl_s, ay_i_add, ay_i_mul, ay_i_eq, ay_i_lt, ay_b0, ay_b1, ay_ni, ay_in, ay_nn, ay_nl, ay_ln, if_true, if_false, ↓reduceIte, Nat.reduceAdd, Nat.reduceMul, Nat.reduceEqDiff, Nat.reduceLT, Nat.not_lt_zero, Bool.true_eq_false, Bool.false_eq_true, reduceCtorEq, Nat.add_zero, Nat.zero_add]
        · generalize (ai_fv T p).toInt64 = o1 at b1 ⊢
          cases rm with
          | false =>
            rw [ay_bf] at b6
            simp (disch := first | omega | assumption | exact ay_z1b _ | exact ay_z10 | exact ay_z11) only [ae_122, af_122_0, af_122_1, af_122_2, af_122_3, af_122_6, af_122_9, af_122_10, af_122_12, af_122_15, af_122_16, af_122_19, af_122_20, af_122_21, af_122_22, af_122_23, af_122_24, af_122_27, af_122_28, af_122_29, af_122_32, af_122_35, af_122_36, af_122_39, af_122_40, af_122_41, af_122_44, af_122_47, af_122_48, af_122_49, af_122_50, af_122_53, af_122_54, af_122_55, af_122_58, af_122_59, af_122_62, af_122_63, af_122_64, af_122_67, af_122_68, am_121 hb h40, hpv, hb6, b1, ay_bt, ay_bf, am_96d, ay_u3e, false_and, and_false, true_and, and_true, and_self, b6, ay_cl_v, ay_cl_s, ay_i_add, ay_i_mul, ay_i_eq, ay_i_lt, ay_b0, ay_b1, ay_ni, ay_in, ay_nn, ay_nl, ay_ln, if_true, if_false, ↓reduceIte, Nat.reduceAdd, Nat.reduceMul, Nat.reduceEqDiff, Nat.reduceLT, Nat.not_lt_zero, Bool.true_eq_false, Bool.false_eq_true, reduceCtorEq, Nat.add_zero, Nat.zero_add]
            rw [hmv]; rfl
          | true =>
            rw [ay_bt] at b6
            rw [if_pos rfl] at hmv
            simp (disch := first | omega | assumption | exact ay_z1b _ | exact ay_z10 | exact ay_z11) only [ae_122, af_122_0, af_122_1, af_122_2, af_122_3, af_122_6, af_122_9, af_122_10, af_122_12, af_122_15, af_122_16, af_122_19, af_122_20, af_122_21, af_122_22, af_122_23, af_122_24, af_122_27, af_122_28, af_122_29, af_122_32, af_122_35, af_122_36, af_122_39, af_122_40, af_122_41, af_122_44, af_122_47, af_122_48, af_122_49, af_122_50, af_122_53, af_122_54, af_122_55, af_122_58, af_122_59, af_122_62, af_122_63, af_122_64, af_122_67, af_122_68, am_121 hb h40, hpv, hb6, b1, ay_bt, ay_bf, am_96d, ay_u3e, false_and, and_false, true_and, and_true, and_self, b6, hmv, ay_cl_v, ay_cl_s, ay_i_add, ay_i_mul, ay_i_eq, ay_i_lt, ay_b0, ay_b1, ay_ni, ay_in, ay_nn, ay_nl, ay_ln, if_true, if_false, ↓reduceIte, Nat.reduceAdd, Nat.reduceMul, Nat.reduceEqDiff, Nat.reduceLT, Nat.not_lt_zero, Bool.true_eq_false, Bool.false_eq_true, reduceCtorEq, Nat.add_zero, Nat.zero_add]
    · refine ⟨1, e + 1, gb, M, ax_u3 M 24 0 0 (ay_i 1), o, ay_i 0, ?_, ?_, by simp [ax_u3], by omega, (fun h => by omega), by omega, ai_R_t hR⟩
      · cases h1 : ay_w p (ay_i n) <;> by_cases h2 : b < 6 <;> simp only [h1, h2, and_self, not_true, Bool.false_eq_true, false_and, and_false, not_false_eq_true] at hv2 <;> simp (disch := first | omega | assumption | exact ay_z1b _ | exact ay_z10 | exact ay_z11) only [ae_8, af_8_0, af_8_1, af_8_2, af_8_3, af_8_4, af_8_5, af_8_8, af_8_9, af_8_10, af_8_13, af_8_15, af_8_16, af_8_17, af_8_19, af_8_20, af_8_21, af_8_22, ae_84, af_84_0, af_84_1, af_84_3, af_84_6, af_84_9, af_84_10, af_84_13, af_84_16, af_84_17, af_84_20, af_84_23, af_84_24, af_84_25, af_84_26, af_84_29, af_84_32, af_84_33, af_84_36, af_84_37, af_84_40, af_84_41, af_84_44, af_84_45, af_84_48, af_84_51, af_84_52, af_84_55, af_84_56, af_84_57, af_84_60, af_84_61, af_84_62, af_84_65, af_84_68, af_84_69, af_84_72, af_84_75, af_84_76, ae_82, af_82_0, af_82_1, af_82_3, af_82_6, af_82_7, af_82_10, af_82_11, am_71, hv, h1, h2, am_19, hs3, ay_bt, ay_bf, am_72f, ah_84, ah_8_0, ay_cl_v, ay_cl_s, ay_i_add, ay_i_mul, ay_i_eq, ay_i_lt, ay_b0, ay_b1, ay_ni, ay_in, ay_nn, ay_nl, ay_ln, if_true, if_false, ↓reduceIte, Nat.reduceAdd, Nat.reduceMul, Nat.reduceEqDiff, Nat.reduceLT, Nat.not_lt_zero, Bool.true_eq_false, Bool.false_eq_true, reduceCtorEq, Nat.add_zero, Nat.zero_add]
      · cases h1 : ay_w p (ay_i n) <;> by_cases h2 : b < 6 <;> simp only [h1, h2, and_self, not_true, Bool.false_eq_true, false_and, and_false, not_false_eq_true] at hv2 <;> simp (disch := first | omega | assumption | exact ay_z1b _ | exact ay_z10 | exact ay_z11) only [ae_122, af_122_0, af_122_1, af_122_2, af_122_3, af_122_6, af_122_9, af_122_10, af_122_12, af_122_15, af_122_16, af_122_19, af_122_20, af_122_21, af_122_22, af_122_23, af_122_24, af_122_27, af_122_28, af_122_29, af_122_32, af_122_35, af_122_36, af_122_39, af_122_40, af_122_41, af_122_44, af_122_47, af_122_48, af_122_49, af_122_50, af_122_53, af_122_54, af_122_55, af_122_58, af_122_59, af_122_62, af_122_63, af_122_64, af_122_67, af_122_68, am_121 hb hs40, h1, h2, ay_bf, ay_bt, am_96a, ay_cl_v, ay_cl_s, ay_i_add, ay_i_mul, ay_i_eq, ay_i_lt, ay_b0, ay_b1, ay_ni, ay_in, ay_nn, ay_nl, ay_ln, if_true, if_false, ↓reduceIte, Nat.reduceAdd, Nat.reduceMul, Nat.reduceEqDiff, Nat.reduceLT, Nat.not_lt_zero, Bool.true_eq_false, Bool.false_eq_true, reduceCtorEq, Nat.add_zero, Nat.zero_add]
end AmH
