/-! the guard's pass: an instruction's ways go on to the places behind -/
theorem ag_wl_i {v : ag_L} (h : ag_wl v) (hn : ¬ v.1 < ay_i 0) : ∃ q, q < 6 ∧ v.1 = ay_i q ∧ v.1.toNatClampNeg = q := by
  rcases h with h | h | ⟨q, hq, h⟩
  · exact absurd (by rw [h, ay_nl (by omega) (by omega) (by omega)]; trivial) hn
  · exact absurd (by rw [h, ay_nl (by omega) (by omega) (by omega)]; trivial) hn
  · exact ⟨q, hq, h, by rw [h]; exact ay_i_ct (by omega)⟩
theorem ag_ob_raw {c n t : Int32} : ag_ob (ag_nl c n t) ↔ (¬ c < ay_i 0 ∧ n = ay_i 0) := by
  unfold ag_ob ag_nl
  by_cases h : c = ay_n 2
  · subst h
    have : ay_n 2 < ay_i 0 := by rw [ay_nl (by omega) (by omega) (by omega)]; trivial
    simp [ag_z, this]
  · simp [h]
theorem ag_ob_id {c n t : Int32} (h : ag_ob (ag_nl c n t)) : ag_nl c n t = (c, n, t) := by
  apply ag_nl_id
  intro h2
  exact h.1 (by rw [h2, ay_nl (by omega) (by omega) (by omega)]; trivial)
theorem ag_vs_u3 {M : ax_M} {x : Nat} {c n t : Int32} (hx : x < 8) : ag_vs (ax_u3 (ax_u3 (ax_u3 M 13 40 x c) 14 40 x n) 15 40 x t) 40 = (ag_st (ag_vs M 40).1 x (ag_nl c n t), (ag_vs M 40).2) := by
  unfold ag_vs ag_st
  refine Prod.ext ?_ ?_
  · funext l
    by_cases hl : l = x
    · subst hl; simp [ax_u3, hx]
    · simp [ax_u3, hl]
  · simp [ax_u3]
theorem ag_rp_40 {M M' : ax_M} {n : Nat} {Q : ag_Q} (hn : n ≤ 40) (h : ag_rp M n Q) (hf : ∀ f i j, i < 40 → M' f i j = M f i j) : ag_rp M' n Q := by
  obtain ⟨h1, h2⟩ := h
  refine ⟨?_, fun p hp => ?_⟩
  · rw [← h1]
    funext p
    unfold ag_vt
    by_cases hp : p < n
    · rw [hf 12 p 4 (by omega), ag_vs_ne (fun f j _ _ => hf f p j (by omega))]
    · simp [hp]
  · rw [hf 12 p 4 (by omega), hf 12 p 5 (by omega)]; exact h2 p hp
def ag_fr (M M' : ax_M) : Prop := ∀ f i j, f < 12 ∨ 15 < f → M' f i j = M f i j
section AmP
variable {X : Nat × (Nat → Int32)} {e : Nat} {M P : ax_M} {o : Int64} {h : ax_H} {b n p : Nat} {Q : ag_Q}
/-- goTo behind a change of what the guard holds -/
theorem ag_goto {M2 : ax_M} {t : Nat} (hb : b < 12) (hn : n ≤ 40) (hs : M 3 b 6 = ay_i n) (hR : ag_rp M n Q) (hf : ∀ f i j, ¬ (12 ≤ f ∧ f ≤ 15 ∧ i = 40) → M2 f i j = M f i j) (ht : t < n) : ∃ M', ax_fn 29 0 (ax_entry 29 [.ref (ax_a 9 0), .int (ay_i t)]) [] (ax_hp X e b M2 o) = some (.inl (some (.int (ay_i 1))), ax_hp X e b M' o) ∧ ag_fr M M' ∧ ag_rp M' n (ag_mc Q (t, ag_vs M2 40)) := by
  have hR2 := ag_rp_40 hn hR (fun f i j hi => hf f i j (by omega))
  obtain ⟨⟨r, hr⟩, c, hc, -⟩ := hR2.2 t ht
  refine ⟨_, am_29b hb (by rw [hf 3 b 6 (by omega)]; exact hs) hn ht hr hc, ?_, ag_mm_rp hn ht hR2⟩
  intro f i j h
  rw [ag_mm_ne (by omega)]
  exact hf f i j (by omega)
theorem ag_goto0 {M2 : ax_M} {t : Nat} (hb : b < 12) (hn : n ≤ 40) (hs : M 3 b 6 = ay_i n) (hf : ∀ f i j, ¬ (12 ≤ f ∧ f ≤ 15 ∧ i = 40) → M2 f i j = M f i j) (ht : ¬ t < n) (ht2 : t < 100) : ax_fn 29 0 (ax_entry 29 [.ref (ax_a 9 0), .int (ay_i t)]) [] (ax_hp X e b M2 o) = some (.inl (some (.int (ay_i 0))), ax_hp X e b M2 o) := by
  refine am_29a hb (by rw [hf 3 b 6 (by omega)]; exact hs) ?_
  unfold ay_w
  have : ¬ ay_i t < ay_i n := by rw [ay_i_lt (by omega) (by omega)]; exact ht
  simp [this]
theorem am_36a {x y z : Nat} (hx : x < 8) (hy : y < 8) (ho : ¬ ag_ob ((ag_vs M 40).1 y)) : ax_fn 36 0 (ax_entry 36 [.ref (ax_a 9 0), .int (ay_i x), .int (ay_i y), .int (ay_i z)]) [] (ax_hp X e b M o) = some (.inl (some (.int (ay_i 0))), ax_hp X e b M o) := by
  rw [ag_vs_lt hy, ag_ob_raw] at ho
  have hd := decide_eq_false ho
  simp (disch := first | omega | assumption | exact ay_z1b _ | exact ay_z10 | exact ay_z11) only [ae_36, af_36_0, af_36_1, af_36_4, af_36_5, af_36_8, af_36_11, af_36_12, af_36_13, af_36_14, af_36_17, af_36_18, af_36_21, af_36_24, af_36_25, af_36_26, af_36_27, af_36_30, af_36_32, af_36_33, af_36_36, af_36_39, af_36_40, af_36_41, af_36_44, af_36_45, af_36_48, af_36_49, af_36_51, af_36_54, af_36_57, af_36_58, af_36_61, af_36_62, af_36_64, af_36_67, af_36_68, af_36_69, af_36_72, af_36_73, am_67 (show 40 < 41 by omega) hy, hd, ay_cl_v, ay_cl_s, ay_i_add, ay_i_mul, ay_i_eq, ay_i_lt, ay_b0, ay_b1, ay_ni, ay_in, ay_nn, ay_nl, ay_ln, if_true, if_false, ↓reduceIte, Nat.reduceAdd, Nat.reduceMul, Nat.reduceEqDiff, Nat.reduceLT, Nat.not_lt_zero, Bool.true_eq_false, Bool.false_eq_true, reduceCtorEq, Nat.add_zero, Nat.zero_add]
theorem am_36b {x y z : Nat} (hW : ap_wf P) (hp : ac_p M P) (hx : x < 8) (hy : y < 8) (hz : z < 4) (hw : ag_wl ((ag_vs M 40).1 y)) (ho : ag_ob ((ag_vs M 40).1 y)) : ax_fn 36 0 (ax_entry 36 [.ref (ax_a 9 0), .int (ay_i x), .int (ay_i y), .int (ay_i z)]) [] (ax_hp X e b M o) = some (.inl (some (.int (ay_i 1))), ax_hp X e b (ax_u3 (ax_u3 (ax_u3 M 13 40 x (P 31 0 (ag_fd ((ag_vs M 40).1 y) z))) 14 40 x (if ((ag_vs M 40).1 y).2.2 = ay_i 0 ∧ ap_su P (ag_fd ((ag_vs M 40).1 y) z) = true then ay_i 0 else ay_i 1)) 15 40 x (if ((ag_vs M 40).1 y).2.2 = ay_i 0 then ay_i 0 else ay_i 2)) o) := by
  obtain ⟨q, hq, hv, hv2⟩ := ag_wl_i hw ho.1
  have hid : (ag_vs M 40).1 y = (M 13 40 y, M 14 40 y, M 15 40 y) := by rw [ag_vs_lt hy] at ho ⊢; exact ag_ob_id ho
  have ho2 := ho
  rw [ag_vs_lt hy, ag_ob_raw] at ho2
  have hd := decide_eq_true ho2
  have hc : M 13 40 y = ay_i q := by rw [hid] at hv; exact hv
  have hfd : ag_fd ((ag_vs M 40).1 y) z = 4 * q + z := by unfold ag_fd; rw [hv2]
  obtain ⟨q1, q2, q3⟩ := hp.2.2.1 (4 * q + z) (by omega)
  rw [hfd, hid]
  have h67 := am_67 (X := X) (e := e) (gb := b) (M := M) (o := o) (show 40 < 41 by omega) hy
  rw [hd] at h67
  by_cases hst : M 15 40 y = ay_i 0
  · simp (disch := first | omega | assumption | exact ay_z1b _ | exact ay_z10 | exact ay_z11) only [ae_36, af_36_0, af_36_1, af_36_4, af_36_5, af_36_8, af_36_11, af_36_12, af_36_13, af_36_14, af_36_17, af_36_18, af_36_21, af_36_24, af_36_25, af_36_26, af_36_27, af_36_30, af_36_32, af_36_33, af_36_36, af_36_39, af_36_40, af_36_41, af_36_44, af_36_45, af_36_48, af_36_49, af_36_51, af_36_54, af_36_57, af_36_58, af_36_61, af_36_62, af_36_64, af_36_67, af_36_68, af_36_69, af_36_72, af_36_73, h67, hc, am_53 hq hz, hst, am_57 (show 40 < 41 by omega) hx (show 4 * q + z < 72 by omega) q2, q1, q3, ay_cl_v, ay_cl_s, ay_i_add, ay_i_mul, ay_i_eq, ay_i_lt, ay_b0, ay_b1, ay_ni, ay_in, ay_nn, ay_nl, ay_ln, if_true, if_false, ↓reduceIte, Nat.reduceAdd, Nat.reduceMul, Nat.reduceEqDiff, Nat.reduceLT, Nat.not_lt_zero, Bool.true_eq_false, Bool.false_eq_true, reduceCtorEq, Nat.add_zero, Nat.zero_add]
    cases ap_su P (4 * q + z) <;> simp [ay_b]
  · simp (disch := first | omega | assumption | exact ay_z1b _ | exact ay_z10 | exact ay_z11) only [ae_36, af_36_0, af_36_1, af_36_4, af_36_5, af_36_8, af_36_11, af_36_12, af_36_13, af_36_14, af_36_17, af_36_18, af_36_21, af_36_24, af_36_25, af_36_26, af_36_27, af_36_30, af_36_32, af_36_33, af_36_36, af_36_39, af_36_40, af_36_41, af_36_44, af_36_45, af_36_48, af_36_49, af_36_51, af_36_54, af_36_57, af_36_58, af_36_61, af_36_62, af_36_64, af_36_67, af_36_68, af_36_69, af_36_72, af_36_73, h67, hc, am_53 hq hz, hst, am_58, q1, false_and, ay_cl_v, ay_cl_s, ay_i_add, ay_i_mul, ay_i_eq, ay_i_lt, ay_b0, ay_b1, ay_ni, ay_in, ay_nn, ay_nl, ay_ln, if_true, if_false, ↓reduceIte, Nat.reduceAdd, Nat.reduceMul, Nat.reduceEqDiff, Nat.reduceLT, Nat.not_lt_zero, Bool.true_eq_false, Bool.false_eq_true, reduceCtorEq, Nat.add_zero, Nat.zero_add]
theorem am_37 {x y z : Nat} (hW : ap_wf P) (hp : ac_p M P) (hb : b < 12) (hwt : M 9 0 4 = ay_i b) (hx : x < 8) (hy : y < 8) (hz : z < 4) (hw : ag_wl ((ag_vs M 40).1 x)) : ax_fn 37 0 (ax_entry 37 [.ref (ax_a 9 0), .int (ay_i x), .int (ay_i y), .int (ay_i z)]) [] (ax_hp X e b M o) =
    @ite _ (¬ ag_ob ((ag_vs M 40).1 x) ∨ ¬ ((((ag_vs M 40).1 y).1 = P 31 0 (ag_fd ((ag_vs M 40).1 x) z) ∨ ((ag_vs M 40).1 y).1 = ay_n 1) ∧ (((ag_vs M 40).1 y).2.1 = ay_i 0 ∨ (!ap_su P (ag_fd ((ag_vs M 40).1 x) z)) = true)) ∨ ¬ (((ag_vs M 40).1 x).2.2 = ay_i 1 ∨ ag_dn ((ag_vs M 40).1 y))) (Classical.propDecidable _)
    (some (.inl (some (.int (ay_i 0))), ax_hp X e b M o)) (some (.inl (some (.int (ay_i 1))), ax_hp X e b (if b < 6 ∧ x = 7 then ax_u3 M 12 40 3 (M 12 40 3 ||| ay_i 1 <<< (ay_i z &&& 31)) else M) o)) := by
  by_cases ho : ag_ob ((ag_vs M 40).1 x)
  · obtain ⟨q, hq, hv, hv2⟩ := ag_wl_i hw ho.1
    have hid : (ag_vs M 40).1 x = (M 13 40 x, M 14 40 x, M 15 40 x) := by rw [ag_vs_lt hx] at ho ⊢; exact ag_ob_id ho
    have ho2 := ho
    rw [ag_vs_lt hx, ag_ob_raw] at ho2
    have hd := decide_eq_true ho2
    have hc : M 13 40 x = ay_i q := by rw [hid] at hv; exact hv
    have hfd : ag_fd ((ag_vs M 40).1 x) z = 4 * q + z := by unfold ag_fd; rw [hv2]
    obtain ⟨q1, q2, q3⟩ := hp.2.2.1 (4 * q + z) (by omega)
    have hcl := (hW.2.2.2.1 (4 * q + z) (by omega)).1
    have h67 := am_67 (X := X) (e := e) (gb := b) (M := M) (o := o) (show 40 < 41 by omega) hx
    rw [hd] at h67
    have h65 := am_65 (X := X) (e := e) (gb := b) (M := M) (o := o) (show 40 < 41 by omega) hy (show 4 * q + z < 72 by omega) q2
    rw [q1] at h65
    have h66 := am_66 (X := X) (e := e) (gb := b) (M := M) (o := o) (show 40 < 41 by omega) hy
    rw [hfd]
    by_cases hft : (((ag_vs M 40).1 y).1 = P 31 0 (4 * q + z) ∨ ((ag_vs M 40).1 y).1 = ay_n 1) ∧ (((ag_vs M 40).1 y).2.1 = ay_i 0 ∨ (!ap_su P (4 * q + z)) = true)
    · have hyc : ¬ ((ag_vs M 40).1 y).1 = ay_n 2 := by
        rcases hft.1 with h | h
        · rw [h]; exact (ag_nb2 hcl (by omega)).1
        · rw [h]; exact fun h => ag_n12 h.symm
      have hidy : (ag_vs M 40).1 y = (M 13 40 y, M 14 40 y, M 15 40 y) := by rw [ag_vs_lt hy] at hyc ⊢; exact ag_nl_id hyc
      have hft2 := hft
      rw [hidy] at hft2
      have hdf := decide_eq_true hft2
      rw [hdf] at h65
      by_cases hst : ((ag_vs M 40).1 x).2.2 = ay_i 1 ∨ ag_dn ((ag_vs M 40).1 y)
      · rw [if_neg (fun h => h.elim (fun h => h ho) (fun h => h.elim (fun h => h hft) (fun h => h hst)))]
        have hst2 := hst
        unfold ag_dn at hst2
        rw [hid, hidy] at hst2
        have hself := @am_31 X e b M o x b hx hb hwt
        by_cases h15 : M 15 40 x = ay_i 1
        · simp (disch := first | omega | assumption | exact ay_z1b _ | exact ay_z10 | exact ay_z11) only [ae_37, af_37_0, af_37_1, af_37_4, af_37_5, af_37_8, af_37_11, af_37_12, af_37_13, af_37_14, af_37_17, af_37_18, af_37_19, af_37_22, af_37_23, af_37_26, af_37_29, af_37_30, af_37_31, af_37_32, af_37_35, af_37_38, af_37_41, af_37_42, af_37_43, af_37_44, af_37_47, af_37_50, af_37_51, af_37_52, af_37_53, af_37_56, af_37_57, af_37_60, af_37_61, af_37_64, af_37_67, af_37_68, af_37_69, af_37_70, af_37_71, af_37_74, af_37_77, af_37_78, af_37_81, af_37_82, af_37_85, af_37_86, af_37_87, af_37_88, af_37_89, af_37_92, af_37_93, h67, hc, am_53 hq hz, h65, h15, hself, ay_cl_v, ay_cl_s, ay_i_add, ay_i_mul, ay_i_eq, ay_i_lt, ay_b0, ay_b1, ay_ni, ay_in, ay_nn, ay_nl, ay_ln, if_true, if_false, ↓reduceIte, Nat.reduceAdd, Nat.reduceMul, Nat.reduceEqDiff, Nat.reduceLT, Nat.not_lt_zero, Bool.true_eq_false, Bool.false_eq_true, reduceCtorEq, Nat.add_zero, Nat.zero_add]
          by_cases hs : b < 6 ∧ x = 7
          · rw [decide_eq_true hs, if_pos hs]; simp
          · rw [decide_eq_false hs, if_neg hs]; simp
        · have hdd : decide (M 15 40 y = ay_i 0 ∨ M 14 40 y = ay_i 2) = true := decide_eq_true (hst2.resolve_left h15)
          rw [hdd] at h66
          simp (disch := first | omega | assumption | exact ay_z1b _ | exact ay_z10 | exact ay_z11) only [ae_37, af_37_0, af_37_1, af_37_4, af_37_5, af_37_8, af_37_11, af_37_12, af_37_13, af_37_14, af_37_17, af_37_18, af_37_19, af_37_22, af_37_23, af_37_26, af_37_29, af_37_30, af_37_31, af_37_32, af_37_35, af_37_38, af_37_41, af_37_42, af_37_43, af_37_44, af_37_47, af_37_50, af_37_51, af_37_52, af_37_53, af_37_56, af_37_57, af_37_60, af_37_61, af_37_64, af_37_67, af_37_68, af_37_69, af_37_70, af_37_71, af_37_74, af_37_77, af_37_78, af_37_81, af_37_82, af_37_85, af_37_86, af_37_87, af_37_88, af_37_89, af_37_92, af_37_93, h67, hc, am_53 hq hz, h65, h15, hself, h66, ay_cl_v, ay_cl_s, ay_i_add, ay_i_mul, ay_i_eq, ay_i_lt, ay_b0, ay_b1, ay_ni, ay_in, ay_nn, ay_nl, ay_ln, if_true, if_false, ↓reduceIte, Nat.reduceAdd, Nat.reduceMul, Nat.reduceEqDiff, Nat.reduceLT, Nat.not_lt_zero, Bool.true_eq_false, Bool.false_eq_true, reduceCtorEq, Nat.add_zero, Nat.zero_add]
          by_cases hs : b < 6 ∧ x = 7
          · rw [decide_eq_true hs, if_pos hs]; simp
          · rw [decide_eq_false hs, if_neg hs]; simp
      · rw [if_pos (by simp [hst])]
        have hst2 := hst
        unfold ag_dn at hst2
        rw [hid, hidy] at hst2
        have h15 : ¬ M 15 40 x = ay_i 1 := fun h => hst2 (.inl h)
        have hdd : decide (M 15 40 y = ay_i 0 ∨ M 14 40 y = ay_i 2) = false := decide_eq_false (fun h => hst2 (.inr h))
        rw [hdd] at h66
        simp (disch := first | omega | assumption | exact ay_z1b _ | exact ay_z10 | exact ay_z11) only [ae_37, af_37_0, af_37_1, af_37_4, af_37_5, af_37_8, af_37_11, af_37_12, af_37_13, af_37_14, af_37_17, af_37_18, af_37_19, af_37_22, af_37_23, af_37_26, af_37_29, af_37_30, af_37_31, af_37_32, af_37_35, af_37_38, af_37_41, af_37_42, af_37_43, af_37_44, af_37_47, af_37_50, af_37_51, af_37_52, af_37_53, af_37_56, af_37_57, af_37_60, af_37_61, af_37_64, af_37_67, af_37_68, af_37_69, af_37_70, af_37_71, af_37_74, af_37_77, af_37_78, af_37_81, af_37_82, af_37_85, af_37_86, af_37_87, af_37_88, af_37_89, af_37_92, af_37_93, h67, hc, am_53 hq hz, h65, h15, h66, ay_cl_v, ay_cl_s, ay_i_add, ay_i_mul, ay_i_eq, ay_i_lt, ay_b0, ay_b1, ay_ni, ay_in, ay_nn, ay_nl, ay_ln, if_true, if_false, ↓reduceIte, Nat.reduceAdd, Nat.reduceMul, Nat.reduceEqDiff, Nat.reduceLT, Nat.not_lt_zero, Bool.true_eq_false, Bool.false_eq_true, reduceCtorEq, Nat.add_zero, Nat.zero_add]
    · rw [if_pos (.inr (.inl hft))]
      have hft2 : ¬ ((M 13 40 y = P 31 0 (4 * q + z) ∨ M 13 40 y = ay_n 1) ∧ (M 14 40 y = ay_i 0 ∨ (!ap_su P (4 * q + z)) = true)) := by
        intro hh
        apply hft
        have hyc : ¬ M 13 40 y = ay_n 2 := by
          rcases hh.1 with h | h
          · rw [h]; exact (ag_nb2 hcl (by omega)).1
          · rw [h]; exact fun h => ag_n12 h.symm
        have hidy : (ag_vs M 40).1 y = (M 13 40 y, M 14 40 y, M 15 40 y) := by rw [ag_vs_lt hy]; exact if_neg hyc
        rw [hidy]; exact hh
      have hdf := decide_eq_false hft2
      rw [hdf] at h65
      simp (disch := first | omega | assumption | exact ay_z1b _ | exact ay_z10 | exact ay_z11) only [ae_37, af_37_0, af_37_1, af_37_4, af_37_5, af_37_8, af_37_11, af_37_12, af_37_13, af_37_14, af_37_17, af_37_18, af_37_19, af_37_22, af_37_23, af_37_26, af_37_29, af_37_30, af_37_31, af_37_32, af_37_35, af_37_38, af_37_41, af_37_42, af_37_43, af_37_44, af_37_47, af_37_50, af_37_51, af_37_52, af_37_53, af_37_56, af_37_57, af_37_60, af_37_61, af_37_64, af_37_67, af_37_68, af_37_69, af_37_70, af_37_71, af_37_74, af_37_77, af_37_78, af_37_81, af_37_82, af_37_85, af_37_86, af_37_87, af_37_88, af_37_89, af_37_92, af_37_93, h67, hc, am_53 hq hz, h65, ay_cl_v, ay_cl_s, ay_i_add, ay_i_mul, ay_i_eq, ay_i_lt, ay_b0, ay_b1, ay_ni, ay_in, ay_nn, ay_nl, ay_ln, if_true, if_false, ↓reduceIte, Nat.reduceAdd, Nat.reduceMul, Nat.reduceEqDiff, Nat.reduceLT, Nat.not_lt_zero, Bool.true_eq_false, Bool.false_eq_true, reduceCtorEq, Nat.add_zero, Nat.zero_add]
  · rw [if_pos (.inl ho)]
    rw [ag_vs_lt hx, ag_ob_raw] at ho
    have hd := decide_eq_false ho
    simp (disch := first | omega | assumption | exact ay_z1b _ | exact ay_z10 | exact ay_z11) only [ae_37, af_37_0, af_37_1, af_37_4, af_37_5, af_37_8, af_37_11, af_37_12, af_37_13, af_37_14, af_37_17, af_37_18, af_37_19, af_37_22, af_37_23, af_37_26, af_37_29, af_37_30, af_37_31, af_37_32, af_37_35, af_37_38, af_37_41, af_37_42, af_37_43, af_37_44, af_37_47, af_37_50, af_37_51, af_37_52, af_37_53, af_37_56, af_37_57, af_37_60, af_37_61, af_37_64, af_37_67, af_37_68, af_37_69, af_37_70, af_37_71, af_37_74, af_37_77, af_37_78, af_37_81, af_37_82, af_37_85, af_37_86, af_37_87, af_37_88, af_37_89, af_37_92, af_37_93, am_67 (show 40 < 41 by omega) hx, hd, ay_cl_v, ay_cl_s, ay_i_add, ay_i_mul, ay_i_eq, ay_i_lt, ay_b0, ay_b1, ay_ni, ay_in, ay_nn, ay_nl, ay_ln, if_true, if_false, ↓reduceIte, Nat.reduceAdd, Nat.reduceMul, Nat.reduceEqDiff, Nat.reduceLT, Nat.not_lt_zero, Bool.true_eq_false, Bool.false_eq_true, reduceCtorEq, Nat.add_zero, Nat.zero_add]
end AmP
