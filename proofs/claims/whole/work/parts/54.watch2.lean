/-! watch: its rounds -/
section AmX
variable {X : Nat × (Nat → Int32)} {e : Nat} {P : ax_M} {o : Int64} {b n : Nat}
theorem al_27a (hW : ap_wf P) (hb : b < 12) (hn : n = ap_sz P b) {r : Nat} : ∀ d p (M : ax_M) (Q : ag_Q) (m : Prop) (mb : Bool), p + d = n → ac_p M P → M 9 0 4 = ay_i b → ag_rp M n Q → ag_J (ag_no P b n) (ag_ou P b) Q → (mb = true ↔ m) →
    (ag_cr (ag_no P b n) (ag_ou P b) d p Q m = none → ∃ (M' : ax_M) (mb' : Bool) (q : Nat), ax_fn 27 37 [some (.ref (ax_a 9 0)), some (.int (ay_i b)), some (.int (ay_i 1)), some (.int (ay_b mb)), some (.int (ay_i r)), some (.int (ay_i p))] [] (ax_hp X e b M o) = ax_fn 27 92 [some (.ref (ax_a 9 0)), some (.int (ay_i b)), some (.int (ay_i 0)), some (.int (ay_b mb')), some (.int (ay_i r)), some (.int (ay_i q))] [] (ax_hp X e b M' o) ∧ ag_fr M M') ∧
    (∀ Q' m', ag_cr (ag_no P b n) (ag_ou P b) d p Q m = some (Q', m') → ∃ (M' : ax_M) (mb' : Bool), ax_fn 27 37 [some (.ref (ax_a 9 0)), some (.int (ay_i b)), some (.int (ay_i 1)), some (.int (ay_b mb)), some (.int (ay_i r)), some (.int (ay_i p))] [] (ax_hp X e b M o) = ax_fn 27 92 [some (.ref (ax_a 9 0)), some (.int (ay_i b)), some (.int (ay_i 1)), some (.int (ay_b mb')), some (.int (ay_i r)), some (.int (ay_i n))] [] (ax_hp X e b M' o) ∧ ag_fr M M' ∧ ag_rp M' n Q' ∧ (mb' = true ↔ m')) := by
  have hsz := hW.1 b hb
  intro d
  induction d with
  | zero =>
    intro p M Q m mb hp hP hw hR hJ hm
    obtain rfl : p = n := by omega
    have hs : M 3 b 6 = ay_i p := by rw [(hP.1 b hb).1, hsz.1, hn]
    refine ⟨(fun h => by cases h), fun Q' m' h => ?_⟩
    cases h
    refine ⟨M, mb, ?_, fun _ _ _ _ => rfl, hR, hm⟩
    rw [af_27_37]
    simp (disch := first | omega | assumption | exact ay_z1b _ | exact ay_z10 | exact ay_z11) only [ae_27, af_27_0, af_27_1, af_27_2, af_27_5, af_27_6, af_27_7, af_27_10, af_27_11, af_27_12, af_27_13, af_27_14, af_27_16, af_27_17, af_27_20, af_27_21, af_27_24, af_27_26, af_27_29, af_27_32, af_27_33, af_27_34, af_27_35, af_27_38, af_27_41, af_27_43, af_27_44, af_27_47, af_27_50, af_27_53, af_27_54, af_27_57, af_27_59, af_27_60, af_27_63, af_27_66, af_27_67, af_27_70, af_27_72, af_27_73, af_27_74, af_27_77, af_27_78, af_27_79, af_27_80, af_27_82, af_27_85, af_27_86, af_27_89, af_27_95, af_27_98, af_27_99, af_27_102, af_27_103, af_27_104, af_27_107, af_27_108, af_27_111, af_27_112, af_27_113, hs, Nat.lt_irrefl, ay_cl_v, ay_cl_s, ay_i_add, ay_i_mul, ay_i_eq, ay_i_lt, ay_b0, ay_b1, ay_ni, ay_in, ay_nn, ay_nl, ay_ln, if_true, if_false, ↓reduceIte, Nat.reduceAdd, Nat.reduceMul, Nat.reduceEqDiff, Nat.reduceLT, Nat.not_lt_zero, Bool.true_eq_false, Bool.false_eq_true, reduceCtorEq, Nat.add_zero, Nat.zero_add]
  | succ d ih =>
    intro p M Q m mb hp hP hw hR hJ hm
    have hlt : p < n := by omega
    have hs : M 3 b 6 = ay_i n := by rw [(hP.1 b hb).1, hsz.1, hn]
    obtain ⟨-, c, hc, hcq⟩ := hR.2 p hlt
    by_cases hf : Q.2 p
    · obtain rfl : c = true := hcq.mpr hf
      obtain ⟨s, hT⟩ := hJ.2.2 p hf
      have e1 : ag_cr (ag_no P b n) (ag_ou P b) (d + 1) p Q m = @ite _ (ag_no P b n p s) (Classical.propDecidable _) none (ag_cr (ag_no P b n) (ag_ou P b) d (p + 1) ((ag_ou P b p s).foldl ag_mc (Q.1, fun u => Q.2 u ∧ u ≠ p)) True) := by
        rw [ag_cr, if_pos hf, hT]
      rw [e1]
      have hfr1 : ag_fr M (ax_u3 M 12 p 5 (ay_i 0)) := by
        intro f i j h; simp only [ax_u3]; grind
      have hv1 : ∀ q, ag_vs (ax_u3 M 12 p 5 (ay_i 0)) q = ag_vs M q := by
        intro q
        unfold ag_vs
        simp [ax_u3]
      have hvs : ag_vs M p = s := by
        have := congrFun hR.1 p
        rw [hT] at this
        unfold ag_vt at this
        split at this
        · exact Option.some.inj this
        · cases this
      have hR1 : ag_rp (ax_u3 M 12 p 5 (ay_i 0)) n (Q.1, fun u => Q.2 u ∧ u ≠ p) := by
        refine ⟨?_, fun q hq => ?_⟩
        · show ag_vt _ n = Q.1
          rw [← hR.1]
          funext q
          unfold ag_vt
          rw [hv1 q]
          simp [ax_u3]
        · obtain ⟨⟨r1, hr1⟩, c1, hc1, hq1⟩ := hR.2 q hq
          by_cases hqp : q = p
          · subst hqp
            exact ⟨⟨r1, by simp [ax_u3]; exact hr1⟩, false, by simp [ax_u3, ay_bf], by simp⟩
          · refine ⟨⟨r1, by simp [ax_u3]; exact hr1⟩, c1, by simp [ax_u3, hqp]; exact hc1, ?_⟩
            show _ ↔ Q.2 q ∧ q ≠ p
            simp [hqp, hq1]
      have hP1 : ac_p (ax_u3 M 12 p 5 (ay_i 0)) P := ac_p_fr hP (fun f i j h => hfr1 f i j (by omega))
      have hw1 : ax_u3 M 12 p 5 (ay_i 0) 9 0 4 = ay_i b := by rw [hfr1 9 0 4 (by omega)]; exact hw
      have hgs := hJ.2.1 p s hT
      have hpass := am_30 (X := X) (e := e) (o := o) hW hP1 hb hw1 hn hlt hR1 (by rw [hv1, hvs]; exact hgs.2.1)
      rw [hv1, hvs] at hpass
      have hs1 : ax_u3 M 12 p 5 (ay_i 0) 3 b 6 = ay_i n := by rw [hfr1 3 b 6 (by omega)]; exact hs
      by_cases hno : ag_no P b n p s
      · rw [if_pos hno]
        refine ⟨fun _ => ?_, fun Q' m' h => by cases h⟩
        obtain ⟨M2, g1, g2⟩ := hpass.1 hno
        refine ⟨M2, true, p + 1, ?_, fun f i j h => (g2 f i j h).trans (hfr1 f i j h)⟩
        rw [af_27_37]
        simp (disch := first | omega | assumption | exact ay_z1b _ | exact ay_z10 | exact ay_z11) only [ae_27, af_27_0, af_27_1, af_27_2, af_27_5, af_27_6, af_27_7, af_27_10, af_27_11, af_27_12, af_27_13, af_27_14, af_27_16, af_27_17, af_27_20, af_27_21, af_27_24, af_27_26, af_27_29, af_27_32, af_27_33, af_27_34, af_27_35, af_27_38, af_27_41, af_27_43, af_27_44, af_27_47, af_27_50, af_27_53, af_27_54, af_27_57, af_27_59, af_27_60, af_27_63, af_27_66, af_27_67, af_27_70, af_27_72, af_27_73, af_27_74, af_27_77, af_27_78, af_27_79, af_27_80, af_27_82, af_27_85, af_27_86, af_27_89, af_27_95, af_27_98, af_27_99, af_27_102, af_27_103, af_27_104, af_27_107, af_27_108, af_27_111, af_27_112, af_27_113, hs, hlt, hc, g1, ay_cl_v, ay_cl_s, ay_i_add, ay_i_mul, ay_i_eq, ay_i_lt, ay_b0, ay_b1, ay_ni, ay_in, ay_nn, ay_nl, ay_ln, if_true, if_false, ↓reduceIte, Nat.reduceAdd, Nat.reduceMul, Nat.reduceEqDiff, Nat.reduceLT, Nat.not_lt_zero, Bool.true_eq_false, Bool.false_eq_true, reduceCtorEq, Nat.add_zero, Nat.zero_add]
        rw [af_27_37]
        simp (disch := first | omega | assumption | exact ay_z1b _ | exact ay_z10 | exact ay_z11) only [ae_27, af_27_0, af_27_1, af_27_2, af_27_5, af_27_6, af_27_7, af_27_10, af_27_11, af_27_12, af_27_13, af_27_14, af_27_16, af_27_17, af_27_20, af_27_21, af_27_24, af_27_26, af_27_29, af_27_32, af_27_33, af_27_34, af_27_35, af_27_38, af_27_41, af_27_43, af_27_44, af_27_47, af_27_50, af_27_53, af_27_54, af_27_57, af_27_59, af_27_60, af_27_63, af_27_66, af_27_67, af_27_70, af_27_72, af_27_73, af_27_74, af_27_77, af_27_78, af_27_79, af_27_80, af_27_82, af_27_85, af_27_86, af_27_89, af_27_95, af_27_98, af_27_99, af_27_102, af_27_103, af_27_104, af_27_107, af_27_108, af_27_111, af_27_112, af_27_113, ay_bt, ay_cl_v, ay_cl_s, ay_i_add, ay_i_mul, ay_i_eq, ay_i_lt, ay_b0, ay_b1, ay_ni, ay_in, ay_nn, ay_nl, ay_ln, if_true, if_false, ↓reduceIte, Nat.reduceAdd, Nat.reduceMul, Nat.reduceEqDiff, Nat.reduceLT, Nat.not_lt_zero, Bool.true_eq_false, Bool.false_eq_true, reduceCtorEq, Nat.add_zero, Nat.zero_add]
      · rw [if_neg hno]
        obtain ⟨M2, g1, g2, g3⟩ := hpass.2 hno
        have hJ2 : ag_J (ag_no P b n) (ag_ou P b) ((ag_ou P b p s).foldl ag_mc (Q.1, fun u => Q.2 u ∧ u ≠ p)) := by
          have hH := ag_Hc hW hb hn p s hlt hgs hno
          refine ⟨ag_iv_step _ _ hJ.1 hT hno (fun w hw' => (hH w hw').2.1), ?_, ?_⟩
          · rw [ag_mc_fst]
            exact (ag_mg_fold (n := n) (G := (Q.1, True)) hJ.2.1 hH).2.1
          · exact ag_mc_re (Q := (Q.1, fun u => Q.2 u ∧ u ≠ p)) (fun u hu => hJ.2.2 u hu.1)
        have hfr2 : ag_fr M M2 := fun f i j h => (g2 f i j h).trans (hfr1 f i j h)
        have hrun : ax_fn 27 37 [some (.ref (ax_a 9 0)), some (.int (ay_i b)), some (.int (ay_i 1)), some (.int (ay_b mb)), some (.int (ay_i r)), some (.int (ay_i p))] [] (ax_hp X e b M o) = ax_fn 27 37 [some (.ref (ax_a 9 0)), some (.int (ay_i b)), some (.int (ay_i 1)), some (.int (ay_b true)), some (.int (ay_i r)), some (.int (ay_i (p + 1)))] [] (ax_hp X e b M2 o) := by
          rw [af_27_37]
          simp (disch := first | omega | assumption | exact ay_z1b _ | exact ay_z10 | exact ay_z11) only [ae_27, af_27_0, af_27_1, af_27_2, af_27_5, af_27_6, af_27_7, af_27_10, af_27_11, af_27_12, af_27_13, af_27_14, af_27_16, af_27_17, af_27_20, af_27_21, af_27_24, af_27_26, af_27_29, af_27_32, af_27_33, af_27_34, af_27_35, af_27_38, af_27_41, af_27_43, af_27_44, af_27_47, af_27_50, af_27_53, af_27_54, af_27_57, af_27_59, af_27_60, af_27_63, af_27_66, af_27_67, af_27_70, af_27_72, af_27_73, af_27_74, af_27_77, af_27_78, af_27_79, af_27_80, af_27_82, af_27_85, af_27_86, af_27_89, af_27_95, af_27_98, af_27_99, af_27_102, af_27_103, af_27_104, af_27_107, af_27_108, af_27_111, af_27_112, af_27_113, hs, hlt, hc, g1, ay_cl_v, ay_cl_s, ay_i_add, ay_i_mul, ay_i_eq, ay_i_lt, ay_b0, ay_b1, ay_ni, ay_in, ay_nn, ay_nl, ay_ln, if_true, if_false, ↓reduceIte, Nat.reduceAdd, Nat.reduceMul, Nat.reduceEqDiff, Nat.reduceLT, Nat.not_lt_zero, Bool.true_eq_false, Bool.false_eq_true, reduceCtorEq, Nat.add_zero, Nat.zero_add]
          rw [ay_bt]
        rw [hrun]
        obtain ⟨k1, k2⟩ := ih (p + 1) M2 _ True true (by omega) (ac_p_fr hP (fun f i j h => hfr2 f i j (by omega))) (by rw [hfr2 9 0 4 (by omega)]; exact hw) g3 hJ2 (by simp)
        refine ⟨fun h => ?_, fun Q' m' h => ?_⟩
        · obtain ⟨M', mb', q, x1, x2⟩ := k1 h
          exact ⟨M', mb', q, x1, fun f i j h => (x2 f i j h).trans (hfr2 f i j h)⟩
        · obtain ⟨M', mb', x1, x2, x3, x4⟩ := k2 Q' m' h
          exact ⟨M', mb', x1, fun f i j h => (x2 f i j h).trans (hfr2 f i j h), x3, x4⟩
    · obtain rfl : c = false := by
        cases c with
        | false => rfl
        | true => exact absurd (hcq.mp rfl) hf
      have e1 : ag_cr (ag_no P b n) (ag_ou P b) (d + 1) p Q m = ag_cr (ag_no P b n) (ag_ou P b) d (p + 1) Q m := if_neg hf
      have hrun : ax_fn 27 37 [some (.ref (ax_a 9 0)), some (.int (ay_i b)), some (.int (ay_i 1)), some (.int (ay_b mb)), some (.int (ay_i r)), some (.int (ay_i p))] [] (ax_hp X e b M o) = ax_fn 27 37 [some (.ref (ax_a 9 0)), some (.int (ay_i b)), some (.int (ay_i 1)), some (.int (ay_b mb)), some (.int (ay_i r)), some (.int (ay_i (p + 1)))] [] (ax_hp X e b M o) := by
        rw [af_27_37]
        simp (disch := first | omega | assumption | exact ay_z1b _ | exact ay_z10 | exact ay_z11) only [ae_27, af_27_0, af_27_1, af_27_2, af_27_5, af_27_6, af_27_7, af_27_10, af_27_11, af_27_12, af_27_13, af_27_14, af_27_16, af_27_17, af_27_20, af_27_21, af_27_24, af_27_26, af_27_29, af_27_32, af_27_33, af_27_34, af_27_35, af_27_38, af_27_41, af_27_43, af_27_44, af_27_47, af_27_50, af_27_53, af_27_54, af_27_57, af_27_59, af_27_60, af_27_63, af_27_66, af_27_67, af_27_70, af_27_72, af_27_73, af_27_74, af_27_77, af_27_78, af_27_79, af_27_80, af_27_82, af_27_85, af_27_86, af_27_89, af_27_95, af_27_98, af_27_99, af_27_102, af_27_103, af_27_104, af_27_107, af_27_108, af_27_111, af_27_112, af_27_113, hs, hlt, hc, ay_cl_v, ay_cl_s, ay_i_add, ay_i_mul, ay_i_eq, ay_i_lt, ay_b0, ay_b1, ay_ni, ay_in, ay_nn, ay_nl, ay_ln, if_true, if_false, ↓reduceIte, Nat.reduceAdd, Nat.reduceMul, Nat.reduceEqDiff, Nat.reduceLT, Nat.not_lt_zero, Bool.true_eq_false, Bool.false_eq_true, reduceCtorEq, Nat.add_zero, Nat.zero_add]
      rw [e1, hrun]
      exact ih (p + 1) M Q m mb (by omega) hP hw hR hJ hm
theorem al_27b (hW : ap_wf P) (hb : b < 12) (hn : n = ap_sz P b) {T0 : ag_T} : ∀ c (M : ax_M) (Q : ag_Q) (k r : Nat) (l5 : Option Value), ag_B n Q ≤ c → r + ag_B n Q ≤ 4000 → ag_it n (ag_no P b n) (ag_ou P b) T0 k = some Q.1 → ag_J (ag_no P b n) (ag_ou P b) Q → ac_p M P → M 9 0 4 = ay_i b → ag_rp M n Q →
    ∃ M', ax_fn 27 16 [some (.ref (ax_a 9 0)), some (.int (ay_i b)), some (.int (ay_i 1)), some (.int (ay_i 1)), some (.int (ay_i r)), l5] [] (ax_hp X e b M o) = some (.inl none, ax_hp X e b M' o) ∧ (∀ f i j, ¬ (12 ≤ f ∧ f ≤ 15) → ¬ (f = 16 ∧ j = b) → M' f i j = M f i j) ∧ ((M' 16 0 b = ay_i 1 ∧ ag_good n (ag_no P b n) (ag_ou P b) T0 (ag_vt M' n) ∧ ∀ p, p < n → ∃ r : Bool, M' 12 p 4 = ay_b r) ∨ (M' 16 0 b = ay_i 2 ∧ ag_bad n (ag_no P b n) (ag_ou P b) T0)) := by
  have hsz := hW.1 b hb
  intro c
  induction c with
  | zero =>
    intro M Q k r l5 hc _ _ _ _ _ _
    exfalso
    have : 1 ≤ ag_B n Q := by unfold ag_B; split <;> omega
    omega
  | succ c ih =>
    intro M Q k r l5 hc hr hit hJ hP hw hR
    have hB1 : 1 ≤ ag_B n Q := by unfold ag_B; split <;> omega
    have hr4 : r < 4000 := by omega
    obtain ⟨a1, a2⟩ := al_27a (X := X) (e := e) (o := o) hW hb hn (r := r) n 0 M Q False false (by omega) hP hw hR hJ (by simp)
    have hstart : ax_fn 27 16 [some (.ref (ax_a 9 0)), some (.int (ay_i b)), some (.int (ay_i 1)), some (.int (ay_i 1)), some (.int (ay_i r)), l5] [] (ax_hp X e b M o) = ax_fn 27 37 [some (.ref (ax_a 9 0)), some (.int (ay_i b)), some (.int (ay_i 1)), some (.int (ay_b false)), some (.int (ay_i r)), some (.int (ay_i 0))] [] (ax_hp X e b M o) := by
      rw [af_27_16]
      simp (disch := first | omega | assumption | exact ay_z1b _ | exact ay_z10 | exact ay_z11) only [ae_27, af_27_0, af_27_1, af_27_2, af_27_5, af_27_6, af_27_7, af_27_10, af_27_11, af_27_12, af_27_13, af_27_14, af_27_17, af_27_20, af_27_21, af_27_24, af_27_26, af_27_29, af_27_32, af_27_33, af_27_34, af_27_35, af_27_38, af_27_41, af_27_43, af_27_44, af_27_47, af_27_50, af_27_53, af_27_54, af_27_57, af_27_59, af_27_60, af_27_63, af_27_66, af_27_67, af_27_70, af_27_72, af_27_73, af_27_74, af_27_77, af_27_78, af_27_79, af_27_80, af_27_82, af_27_85, af_27_86, af_27_89, af_27_95, af_27_98, af_27_99, af_27_102, af_27_103, af_27_104, af_27_107, af_27_108, af_27_111, af_27_112, af_27_113, hr4, ay_cl_v, ay_cl_s, ay_i_add, ay_i_mul, ay_i_eq, ay_i_lt, ay_b0, ay_b1, ay_ni, ay_in, ay_nn, ay_nl, ay_ln, if_true, if_false, ↓reduceIte, Nat.reduceAdd, Nat.reduceMul, Nat.reduceEqDiff, Nat.reduceLT, Nat.not_lt_zero, Bool.true_eq_false, Bool.false_eq_true, reduceCtorEq, Nat.add_zero, Nat.zero_add]
      rw [ay_bf]
    rw [hstart]
    rcases ag_cls n _ _ (ag_Hc hW hb hn) hit hJ with ⟨h1, h2⟩ | ⟨Q', m', h1, hJ', h3⟩
    · obtain ⟨M1, mb', q, x1, x2⟩ := a1 h1
      refine ⟨ax_u3 M1 16 0 b (ay_i 2), ?_, ?_, .inr ⟨by simp [ax_u3], h2⟩⟩
      · rw [x1]
        simp (disch := first | omega | assumption | exact ay_z1b _ | exact ay_z10 | exact ay_z11) only [ae_27, af_27_0, af_27_1, af_27_2, af_27_5, af_27_6, af_27_7, af_27_10, af_27_11, af_27_12, af_27_13, af_27_14, af_27_17, af_27_20, af_27_21, af_27_24, af_27_26, af_27_29, af_27_32, af_27_33, af_27_34, af_27_35, af_27_38, af_27_41, af_27_43, af_27_44, af_27_47, af_27_50, af_27_53, af_27_54, af_27_57, af_27_59, af_27_60, af_27_63, af_27_66, af_27_67, af_27_70, af_27_72, af_27_73, af_27_74, af_27_77, af_27_78, af_27_79, af_27_80, af_27_82, af_27_85, af_27_86, af_27_89, af_27_92, af_27_95, af_27_98, af_27_99, af_27_102, af_27_103, af_27_104, af_27_107, af_27_108, af_27_111, af_27_112, af_27_113, ay_cl_v, ay_cl_s, ay_i_add, ay_i_mul, ay_i_eq, ay_i_lt, ay_b0, ay_b1, ay_ni, ay_in, ay_nn, ay_nl, ay_ln, if_true, if_false, ↓reduceIte, Nat.reduceAdd, Nat.reduceMul, Nat.reduceEqDiff, Nat.reduceLT, Nat.not_lt_zero, Bool.true_eq_false, Bool.false_eq_true, reduceCtorEq, Nat.add_zero, Nat.zero_add]
        rw [af_27_16]
        simp (disch := first | omega | assumption | exact ay_z1b _ | exact ay_z10 | exact ay_z11) only [ae_27, af_27_0, af_27_1, af_27_2, af_27_5, af_27_6, af_27_7, af_27_10, af_27_11, af_27_12, af_27_13, af_27_14, af_27_17, af_27_20, af_27_21, af_27_24, af_27_26, af_27_29, af_27_32, af_27_33, af_27_34, af_27_35, af_27_38, af_27_41, af_27_43, af_27_44, af_27_47, af_27_50, af_27_53, af_27_54, af_27_57, af_27_59, af_27_60, af_27_63, af_27_66, af_27_67, af_27_70, af_27_72, af_27_73, af_27_74, af_27_77, af_27_78, af_27_79, af_27_80, af_27_82, af_27_85, af_27_86, af_27_89, af_27_92, af_27_95, af_27_98, af_27_99, af_27_102, af_27_103, af_27_104, af_27_107, af_27_108, af_27_111, af_27_112, af_27_113, ay_cl_v, ay_cl_s, ay_i_add, ay_i_mul, ay_i_eq, ay_i_lt, ay_b0, ay_b1, ay_ni, ay_in, ay_nn, ay_nl, ay_ln, if_true, if_false, ↓reduceIte, Nat.reduceAdd, Nat.reduceMul, Nat.reduceEqDiff, Nat.reduceLT, Nat.not_lt_zero, Bool.true_eq_false, Bool.false_eq_true, reduceCtorEq, Nat.add_zero, Nat.zero_add]
      · intro f i j h4 h5
        rw [← x2 f i j (by omega)]
        simp only [ax_u3]; grind
    · obtain ⟨M1, mb', x1, x2, x3, x4⟩ := a2 Q' m' h1
      rw [x1]
      rcases h3 with ⟨y1, y2, y3⟩ | ⟨y1, y2, y3⟩
      · obtain rfl : mb' = false := by
          cases mb' with
          | false => rfl
          | true => exact absurd (x4.mp rfl) y1
        refine ⟨ax_u3 M1 16 0 b (ay_i 1), ?_, ?_, .inl ⟨by simp [ax_u3], ?_, fun p hp => by obtain ⟨r, hr⟩ := (x3.2 p hp).1; exact ⟨r, by rw [← hr]; simp [ax_u3]⟩⟩⟩
        · simp (disch := first | omega | assumption | exact ay_z1b _ | exact ay_z10 | exact ay_z11) only [ae_27, af_27_0, af_27_1, af_27_2, af_27_5, af_27_6, af_27_7, af_27_10, af_27_11, af_27_12, af_27_13, af_27_14, af_27_17, af_27_20, af_27_21, af_27_24, af_27_26, af_27_29, af_27_32, af_27_33, af_27_34, af_27_35, af_27_38, af_27_41, af_27_43, af_27_44, af_27_47, af_27_50, af_27_53, af_27_54, af_27_57, af_27_59, af_27_60, af_27_63, af_27_66, af_27_67, af_27_70, af_27_72, af_27_73, af_27_74, af_27_77, af_27_78, af_27_79, af_27_80, af_27_82, af_27_85, af_27_86, af_27_89, af_27_92, af_27_95, af_27_98, af_27_99, af_27_102, af_27_103, af_27_104, af_27_107, af_27_108, af_27_111, af_27_112, af_27_113, ay_cl_v, ay_cl_s, ay_i_add, ay_i_mul, ay_i_eq, ay_i_lt, ay_b0, ay_b1, ay_ni, ay_in, ay_nn, ay_nl, ay_ln, if_true, if_false, ↓reduceIte, Nat.reduceAdd, Nat.reduceMul, Nat.reduceEqDiff, Nat.reduceLT, Nat.not_lt_zero, Bool.true_eq_false, Bool.false_eq_true, reduceCtorEq, Nat.add_zero, Nat.zero_add]
          rw [af_27_16]
          simp (disch := first | omega | assumption | exact ay_z1b _ | exact ay_z10 | exact ay_z11) only [ae_27, af_27_0, af_27_1, af_27_2, af_27_5, af_27_6, af_27_7, af_27_10, af_27_11, af_27_12, af_27_13, af_27_14, af_27_17, af_27_20, af_27_21, af_27_24, af_27_26, af_27_29, af_27_32, af_27_33, af_27_34, af_27_35, af_27_38, af_27_41, af_27_43, af_27_44, af_27_47, af_27_50, af_27_53, af_27_54, af_27_57, af_27_59, af_27_60, af_27_63, af_27_66, af_27_67, af_27_70, af_27_72, af_27_73, af_27_74, af_27_77, af_27_78, af_27_79, af_27_80, af_27_82, af_27_85, af_27_86, af_27_89, af_27_92, af_27_95, af_27_98, af_27_99, af_27_102, af_27_103, af_27_104, af_27_107, af_27_108, af_27_111, af_27_112, af_27_113, ay_cl_v, ay_cl_s, ay_i_add, ay_i_mul, ay_i_eq, ay_i_lt, ay_b0, ay_b1, ay_ni, ay_in, ay_nn, ay_nl, ay_ln, if_true, if_false, ↓reduceIte, Nat.reduceAdd, Nat.reduceMul, Nat.reduceEqDiff, Nat.reduceLT, Nat.not_lt_zero, Bool.true_eq_false, Bool.false_eq_true, reduceCtorEq, Nat.add_zero, Nat.zero_add]
        · intro f i j h4 h5
          rw [← x2 f i j (by omega)]
          simp only [ax_u3]; grind
        · have : ag_vt (ax_u3 M1 16 0 b (ay_i 1)) n = Q.1 := by
            rw [← y2, ← x3.1]
            funext p
            unfold ag_vt
            rw [ag_vs_ne (M := M1) (fun f j h4 h5 => by simp only [ax_u3]; grind)]
            simp [ax_u3]
          rw [this]; exact y3
      · obtain rfl : mb' = true := x4.mpr y1
        obtain ⟨M', z1, z2, z3⟩ := ih M1 Q' (k + 1) (r + 1) (some (.int (ay_i n))) (by omega) (by omega) y2 hJ' (ac_p_fr hP (fun f i j h => x2 f i j (by omega))) (by rw [x2 9 0 4 (by omega)]; exact hw) x3
        refine ⟨M', ?_, fun f i j h4 h5 => (z2 f i j h4 h5).trans (x2 f i j (by omega)), z3⟩
        rw [← z1]
        simp (disch := first | omega | assumption | exact ay_z1b _ | exact ay_z10 | exact ay_z11) only [ae_27, af_27_0, af_27_1, af_27_2, af_27_5, af_27_6, af_27_7, af_27_10, af_27_11, af_27_12, af_27_13, af_27_14, af_27_17, af_27_20, af_27_21, af_27_24, af_27_26, af_27_29, af_27_32, af_27_33, af_27_34, af_27_35, af_27_38, af_27_41, af_27_43, af_27_44, af_27_47, af_27_50, af_27_53, af_27_54, af_27_57, af_27_59, af_27_60, af_27_63, af_27_66, af_27_67, af_27_70, af_27_72, af_27_73, af_27_74, af_27_77, af_27_78, af_27_79, af_27_80, af_27_82, af_27_85, af_27_86, af_27_89, af_27_92, af_27_95, af_27_98, af_27_99, af_27_102, af_27_103, af_27_104, af_27_107, af_27_108, af_27_111, af_27_112, af_27_113, ay_bt, ay_cl_v, ay_cl_s, ay_i_add, ay_i_mul, ay_i_eq, ay_i_lt, ay_b0, ay_b1, ay_ni, ay_in, ay_nn, ay_nl, ay_ln, if_true, if_false, ↓reduceIte, Nat.reduceAdd, Nat.reduceMul, Nat.reduceEqDiff, Nat.reduceLT, Nat.not_lt_zero, Bool.true_eq_false, Bool.false_eq_true, reduceCtorEq, Nat.add_zero, Nat.zero_add]
/-- the sights that a body begins with -/
noncomputable def ag_T0 (P : ax_M) (b : Nat) : ag_T := ag_me (fun _ => none) (0, ag_s0 P b)
/-- the guard approves of body b, and sees T -/
def ag_G (P : ax_M) (b : Nat) (T : ag_T) : Prop := 0 < ap_sz P b ∧ ag_good (ap_sz P b) (ag_no P b (ap_sz P b)) (ag_ou P b) (ag_T0 P b) T
def ag_N (P : ax_M) (b : Nat) : Prop := ap_sz P b = 0 ∨ ag_bad (ap_sz P b) (ag_no P b (ap_sz P b)) (ag_ou P b) (ag_T0 P b)
theorem ag_GN {P : ax_M} {b : Nat} {T : ag_T} (h : ag_G P b T) (h' : ag_N P b) : False := by
  rcases h' with h' | h'
  · have := h.1; omega
  · exact ag_good_bad _ _ _ h.2 h'
theorem ag_GG {P : ax_M} {b : Nat} {T T' : ag_T} (h : ag_G P b T) (h' : ag_G P b T') : T = T' := ag_good_one _ _ _ h.2 h'.2
theorem am_27 {gb : Nat} {M : ax_M} (hW : ap_wf P) (hp : ac_p M P) (hb : b < 12) : ∃ M', ax_fn 27 0 (ax_entry 27 [.ref (ax_a 9 0), .int (ay_i b)]) [] (ax_hp X e gb M o) = some (.inl none, ax_hp X e b M' o) ∧ M' 9 0 4 = ay_i b ∧ (∀ f i j, ¬ (12 ≤ f ∧ f ≤ 15) → ¬ (f = 9 ∧ j = 4) → ¬ (f = 16 ∧ j = b) → M' f i j = M f i j) ∧ ((M' 16 0 b = ay_i 1 ∧ ag_G P b (ag_vt M' (ap_sz P b)) ∧ ∀ p, p < ap_sz P b → ∃ r : Bool, M' 12 p 4 = ay_b r) ∨ (M' 16 0 b = ay_i 2 ∧ ag_N P b)) := by
  have hsz := hW.1 b hb
  obtain ⟨M1, a1, a2, a3, a4, a5⟩ := am_28 (X := X) (e := e) (o := o) (gb := gb) hW hp hb rfl
  have hp1 : ac_p M1 P := by
    obtain ⟨h1, h2, h3, h4, h5⟩ := hp
    refine ⟨fun b hb => ?_, fun b p hb hp => ?_, fun f hf' => ?_, fun b k hb hk => ?_, fun f hf' => ?_⟩
    · rw [a3 _ _ _ (by omega) (by omega), a3 _ _ _ (by omega) (by omega)]; exact h1 b hb
    · rw [a3 _ _ _ (by omega) (by omega), a3 _ _ _ (by omega) (by omega), a3 _ _ _ (by omega) (by omega), a3 _ _ _ (by omega) (by omega)]; exact h2 b p hb hp
    · rw [a3 _ _ _ (by omega) (by omega), a3 _ _ _ (by omega) (by omega), a3 _ _ _ (by omega) (by omega)]; exact h3 f hf'
    · rw [a3 _ _ _ (by omega) (by omega), a3 _ _ _ (by omega) (by omega), a3 _ _ _ (by omega) (by omega)]; exact h4 b k hb hk
    · rw [a3 _ _ _ (by omega) (by omega), a3 _ _ _ (by omega) (by omega), a3 _ _ _ (by omega) (by omega)]; exact h5 f hf'
  have hs1 : M1 3 b 6 = ay_i (ap_sz P b) := by rw [(hp1.1 b hb).1]; exact hsz.1
  by_cases hn0 : ap_sz P b = 0
  · have hg := ag_goto0 (X := X) (e := e) (o := o) (M := M1) (M2 := M1) (t := 0) hb hsz.2 hs1 (fun _ _ _ _ => rfl) (by omega) (by omega)
    refine ⟨ax_u3 M1 16 0 b (ay_i 2), ?_, ?_, ?_, .inr ⟨by simp [ax_u3], .inl hn0⟩⟩
    · simp (disch := first | omega | assumption | exact ay_z1b _ | exact ay_z10 | exact ay_z11) only [ae_27, af_27_0, af_27_1, af_27_2, af_27_5, af_27_6, af_27_7, af_27_10, af_27_11, af_27_12, af_27_13, af_27_14, af_27_17, af_27_20, af_27_21, af_27_24, af_27_26, af_27_29, af_27_32, af_27_33, af_27_34, af_27_35, af_27_37, af_27_38, af_27_41, af_27_43, af_27_44, af_27_47, af_27_50, af_27_53, af_27_54, af_27_57, af_27_59, af_27_60, af_27_63, af_27_66, af_27_67, af_27_70, af_27_72, af_27_73, af_27_74, af_27_77, af_27_78, af_27_79, af_27_80, af_27_82, af_27_85, af_27_86, af_27_89, af_27_92, af_27_95, af_27_98, af_27_99, af_27_102, af_27_103, af_27_104, af_27_107, af_27_108, af_27_111, af_27_112, af_27_113, a1, hg, ay_cl_v, ay_cl_s, ay_i_add, ay_i_mul, ay_i_eq, ay_i_lt, ay_b0, ay_b1, ay_ni, ay_in, ay_nn, ay_nl, ay_ln, if_true, if_false, ↓reduceIte, Nat.reduceAdd, Nat.reduceMul, Nat.reduceEqDiff, Nat.reduceLT, Nat.not_lt_zero, Bool.true_eq_false, Bool.false_eq_true, reduceCtorEq, Nat.add_zero, Nat.zero_add]
      rw [af_27_16]
      simp (disch := first | omega | assumption | exact ay_z1b _ | exact ay_z10 | exact ay_z11) only [ae_27, af_27_0, af_27_1, af_27_2, af_27_5, af_27_6, af_27_7, af_27_10, af_27_11, af_27_12, af_27_13, af_27_14, af_27_17, af_27_20, af_27_21, af_27_24, af_27_26, af_27_29, af_27_32, af_27_33, af_27_34, af_27_35, af_27_37, af_27_38, af_27_41, af_27_43, af_27_44, af_27_47, af_27_50, af_27_53, af_27_54, af_27_57, af_27_59, af_27_60, af_27_63, af_27_66, af_27_67, af_27_70, af_27_72, af_27_73, af_27_74, af_27_77, af_27_78, af_27_79, af_27_80, af_27_82, af_27_85, af_27_86, af_27_89, af_27_92, af_27_95, af_27_98, af_27_99, af_27_102, af_27_103, af_27_104, af_27_107, af_27_108, af_27_111, af_27_112, af_27_113, ay_cl_v, ay_cl_s, ay_i_add, ay_i_mul, ay_i_eq, ay_i_lt, ay_b0, ay_b1, ay_ni, ay_in, ay_nn, ay_nl, ay_ln, if_true, if_false, ↓reduceIte, Nat.reduceAdd, Nat.reduceMul, Nat.reduceEqDiff, Nat.reduceLT, Nat.not_lt_zero, Bool.true_eq_false, Bool.false_eq_true, reduceCtorEq, Nat.add_zero, Nat.zero_add]
    · simp [ax_u3]; exact a2
    · intro f i j h1 h2 h3
      rw [← a3 f i j h1 h2]
      simp only [ax_u3]; grind
  · obtain ⟨M2, g1, g2, g3⟩ := ag_goto (X := X) (e := e) (o := o) (M2 := M1) (t := 0) hb hsz.2 hs1 a5 (fun _ _ _ _ => rfl) (by omega)
    rw [a4] at g3
    have hgs := ag_s0_g hW hb
    have hgT : ag_gt (fun _ => none) := fun p s h => by cases h
    have hJ : ag_J (ag_no P b (ap_sz P b)) (ag_ou P b) (ag_mc (fun _ => none, fun _ => False) (0, ag_s0 P b)) := by
      refine ⟨fun p s h1 h2 => ?_, ag_gt_me hgT hgs, fun p h => ?_⟩
      · exfalso
        apply h2
        by_cases hp0 : p = 0
        · exact .inr ⟨hp0, by simp⟩
        · have : ag_me (fun _ => none) (0, ag_s0 P b) p = none := if_neg hp0
          have h1' : ag_me (fun _ => none) (0, ag_s0 P b) p = some s := h1
          rw [this] at h1'; cases h1'
      · rcases h with h | ⟨h, -⟩
        · exact h.elim
        · exact ⟨_, if_pos h⟩
    have hBF := ag_B_le (ap_sz P b) (ag_mc (fun _ => none, fun _ => False) (0, ag_s0 P b))
    have hFm := ag_F_max (ap_sz P b) (ag_mc (fun _ => none, fun _ => False) (0, ag_s0 P b)).1
    have h2600 : ap_sz P b * 65 ≤ 2600 := by omega
    obtain ⟨M', z1, z2, z3⟩ := al_27b (X := X) (e := e) (o := o) hW hb rfl (T0 := ag_T0 P b) _ M2 _ 0 0 none (Nat.le_refl _) (by omega) rfl hJ (ac_p_fr hp1 (fun f i j h => g2 f i j (by omega))) (by rw [g2 9 0 4 (by omega)]; exact a2) g3
    refine ⟨M', ?_, ?_, ?_, ?_⟩
    · simp (disch := first | omega | assumption | exact ay_z1b _ | exact ay_z10 | exact ay_z11) only [ae_27, af_27_0, af_27_1, af_27_2, af_27_5, af_27_6, af_27_7, af_27_10, af_27_11, af_27_12, af_27_13, af_27_14, af_27_17, af_27_20, af_27_21, af_27_24, af_27_26, af_27_29, af_27_32, af_27_33, af_27_34, af_27_35, af_27_37, af_27_38, af_27_41, af_27_43, af_27_44, af_27_47, af_27_50, af_27_53, af_27_54, af_27_57, af_27_59, af_27_60, af_27_63, af_27_66, af_27_67, af_27_70, af_27_72, af_27_73, af_27_74, af_27_77, af_27_78, af_27_79, af_27_80, af_27_82, af_27_85, af_27_86, af_27_89, af_27_92, af_27_95, af_27_98, af_27_99, af_27_102, af_27_103, af_27_104, af_27_107, af_27_108, af_27_111, af_27_112, af_27_113, a1, g1, ay_cl_v, ay_cl_s, ay_i_add, ay_i_mul, ay_i_eq, ay_i_lt, ay_b0, ay_b1, ay_ni, ay_in, ay_nn, ay_nl, ay_ln, if_true, if_false, ↓reduceIte, Nat.reduceAdd, Nat.reduceMul, Nat.reduceEqDiff, Nat.reduceLT, Nat.not_lt_zero, Bool.true_eq_false, Bool.false_eq_true, reduceCtorEq, Nat.add_zero, Nat.zero_add]
      exact z1
    · rw [z2 9 0 4 (by omega) (by omega), g2 9 0 4 (by omega)]; exact a2
    · intro f i j h1 h2 h3
      rw [z2 f i j h1 h3, g2 f i j (by omega)]; exact a3 f i j h1 h2
    · rcases z3 with ⟨z3, z4⟩ | ⟨z3, z4⟩
      · exact .inl ⟨z3, ⟨by omega, z4.1⟩, z4.2⟩
      · exact .inr ⟨z3, .inr z4⟩
end AmX
