/-! calls that ask the guard: good, holds, fields, count -/
noncomputable def ai_g (P : ax_M) (b : Nat) : Bool := @decide (∃ T, ag_G P b T) (Classical.propDecidable _)
theorem ai_g_t {P : ax_M} {b : Nat} {T : ag_T} (h : ag_G P b T) : ai_g P b = true := @decide_eq_true _ (Classical.propDecidable _) ⟨T, h⟩
theorem ai_g_f {P : ax_M} {b : Nat} (h : ag_N P b) : ai_g P b = false := @decide_eq_false _ (Classical.propDecidable _) (fun ⟨_, hT⟩ => ag_GN hT h)
theorem ai_g_T {P : ax_M} {b : Nat} (h : ai_g P b = true) : ∃ T, ag_G P b T := @of_decide_eq_true _ (Classical.propDecidable _) h
/-- only the guard's own has changed -/
def ag_fg (M M' : ax_M) : Prop := ∀ f i j, ¬ (12 ≤ f ∧ f ≤ 16) → ¬ (f = 9 ∧ j = 4) → M' f i j = M f i j
theorem ag_fg_t {M M' M2 : ax_M} (h : ag_fg M M') (h2 : ag_fg M' M2) : ag_fg M M2 := fun f i j a b => (h2 f i j a b).trans (h f i j a b)
theorem ac_p_fg {M M' P : ax_M} (hp : ac_p M P) (a3 : ag_fg M M') : ac_p M' P := by
  obtain ⟨h1, h2, h3, h4, h5⟩ := hp
  refine ⟨fun b hb => ?_, fun b p hb hp => ?_, fun f hf' => ?_, fun b k hb hk => ?_, fun f hf' => ?_⟩
  · rw [a3 _ _ _ (by omega) (by omega), a3 _ _ _ (by omega) (by omega)]; exact h1 b hb
  · rw [a3 _ _ _ (by omega) (by omega), a3 _ _ _ (by omega) (by omega), a3 _ _ _ (by omega) (by omega), a3 _ _ _ (by omega) (by omega)]; exact h2 b p hb hp
  · rw [a3 _ _ _ (by omega) (by omega), a3 _ _ _ (by omega) (by omega), a3 _ _ _ (by omega) (by omega)]; exact h3 f hf'
  · rw [a3 _ _ _ (by omega) (by omega), a3 _ _ _ (by omega) (by omega), a3 _ _ _ (by omega) (by omega)]; exact h4 b k hb hk
  · rw [a3 _ _ _ (by omega) (by omega), a3 _ _ _ (by omega) (by omega), a3 _ _ _ (by omega) (by omega)]; exact h5 f hf'
theorem ai_c_cg {M M' P : ax_M} (h : ai_c M P) (hf : ∀ f i j, (12 ≤ f ∧ f ≤ 16) ∨ (f = 9 ∧ j = 4) → M' f i j = M f i j) : ai_c M' P := by
  obtain ⟨c1, c2⟩ := h
  refine ⟨fun b hb => by rw [hf 16 0 b (by omega)]; exact c1 b hb, ?_⟩
  rw [hf 9 0 4 (by omega)]
  rcases c2 with c2 | ⟨b, c3, c4, c5⟩
  · exact .inl c2
  · refine .inr ⟨b, c3, c4, fun T hT => ?_⟩
    obtain ⟨c6, c7⟩ := c5 T hT
    refine ⟨?_, fun p hp => by rw [hf 12 p 4 (by omega)]; exact c7 p hp⟩
    rw [← c6]
    funext p
    unfold ag_vt
    rw [hf 12 p 4 (by omega), ag_vs_ne (fun f j h1 h2 => hf f p j (by omega))]
/-- the guards have worked, nothing else has changed -/
theorem ai_R_g {M M' : ax_M} (h : ai_R M) (hf : ∀ f i j, ¬ (12 ≤ f ∧ f ≤ 16) → ¬ (f = 9 ∧ j = 4) → ¬ (45 ≤ f ∧ f ≤ 54) → ¬ (f = 24 ∧ (j = 0 ∨ j = 20 ∨ j = 21 ∨ j = 25)) → M' f i j = M f i j) (hc : ai_c M' (ag_pr M)) : ai_R M' := by
  have hP : ag_pr M' = ag_pr M := ag_pr_eq (fun f j h1 h2 => hf f 0 j (by omega) (by omega) (by omega) (by omega))
  obtain ⟨h1, h2, h3, h4⟩ := h
  unfold ai_R
  rw [hP]
  have hF : ∀ f i j, ¬ (12 ≤ f ∧ f ≤ 16) → ¬ (f = 9 ∧ j = 4) → ¬ (45 ≤ f ∧ f ≤ 54) → ¬ (f = 24 ∧ (j = 0 ∨ j = 20 ∨ j = 21 ∨ j = 25)) → M' f i j = M f i j := hf
  refine ⟨h1, ?_, hc, ?_⟩
  · obtain ⟨s1, s2, s3, s4, s5⟩ := h2
    refine ⟨fun b hb => ?_, fun b p hb hp => ?_, fun f hf' => ?_, fun b k hb hk => ?_, fun f hf' => ?_⟩
    · rw [hf _ _ _ (by omega) (by omega) (by omega) (by omega), hf _ _ _ (by omega) (by omega) (by omega) (by omega)]; exact s1 b hb
    · rw [hf _ _ _ (by omega) (by omega) (by omega) (by omega), hf _ _ _ (by omega) (by omega) (by omega) (by omega), hf _ _ _ (by omega) (by omega) (by omega) (by omega), hf _ _ _ (by omega) (by omega) (by omega) (by omega)]; exact s2 b p hb hp
    · rw [hf _ _ _ (by omega) (by omega) (by omega) (by omega), hf _ _ _ (by omega) (by omega) (by omega) (by omega), hf _ _ _ (by omega) (by omega) (by omega) (by omega)]; exact s3 f hf'
    · rw [hf _ _ _ (by omega) (by omega) (by omega) (by omega), hf _ _ _ (by omega) (by omega) (by omega) (by omega), hf _ _ _ (by omega) (by omega) (by omega) (by omega)]; exact s4 b k hb hk
    · rw [hf _ _ _ (by omega) (by omega) (by omega) (by omega), hf _ _ _ (by omega) (by omega) (by omega) (by omega), hf _ _ _ (by omega) (by omega) (by omega) (by omega)]; exact s5 f hf'
  · obtain ⟨pr, p1, p2, p3⟩ := h4
    refine ⟨pr, by rw [hf 18 0 2 (by omega) (by omega) (by omega) (by omega)]; exact p1, by rw [hf 24 0 26 (by omega) (by omega) (by omega) (by omega)]; exact p2, fun hpr => ?_⟩
    obtain ⟨q1, d, q, t, q2⟩ := p3 hpr
    refine ⟨by rw [hf 18 0 8 (by omega) (by omega) (by omega) (by omega), hf 24 0 33 (by omega) (by omega) (by omega) (by omega)]; exact q1, d, q, t, ?_⟩
    obtain ⟨a1, a2, a3, a4, a5, a6, a7, a8, a9, a10, a11, a12⟩ := q2
    refine ⟨a1, a2, a3, by rw [hf 18 0 3 (by omega) (by omega) (by omega) (by omega)]; exact a4, by rw [hf 24 0 27 (by omega) (by omega) (by omega) (by omega)]; exact a5, by rw [hf 18 0 4 (by omega) (by omega) (by omega) (by omega)]; exact a6, by rw [hf 24 0 35 (by omega) (by omega) (by omega) (by omega)]; exact a7, by rw [hf 24 0 32 (by omega) (by omega) (by omega) (by omega)]; exact a8, by rw [hf 18 0 7 (by omega) (by omega) (by omega) (by omega)]; exact a9, by rw [hf 18 0 9 (by omega) (by omega) (by omega) (by omega), hf 24 0 34 (by omega) (by omega) (by omega) (by omega)]; exact a10, fun k hk => ?_, fun i hi => ?_⟩
    · rw [hf 22 k 1 (by omega) (by omega) (by omega) (by omega), hf 58 0 k (by omega) (by omega) (by omega) (by omega), hf 22 k 2 (by omega) (by omega) (by omega) (by omega), hf 59 0 k (by omega) (by omega) (by omega) (by omega), hf 22 k 3 (by omega) (by omega) (by omega) (by omega), hf 61 0 k (by omega) (by omega) (by omega) (by omega)]
      obtain ⟨b1, b2, b3, b4, b5⟩ := a11 k hk
      refine ⟨b1, b2, b3, b4, fun l hl => ?_⟩
      rw [hf 23 k l (by omega) (by omega) (by omega) (by omega), hf 60 0 _ (by omega) (by omega) (by omega) (by omega)]; exact b5 l hl
    · rw [hf 19 0 i (by omega) (by omega) (by omega) (by omega), hf 66 0 i (by omega) (by omega) (by omega) (by omega)]
      refine ⟨(a12 i hi).1, fun z hz => ?_⟩
      rw [hf 20 0 _ (by omega) (by omega) (by omega) (by omega), hf 67 0 _ (by omega) (by omega) (by omega) (by omega)]; exact (a12 i hi).2 z hz
section AmY
variable {X : Nat × (Nat → Int32)} {e gb : Nat} {M P : ax_M} {o : Int64} {b : Nat}
theorem am_27c (hW : ap_wf P) (hp : ac_p M P) (hc : ai_c M P) (hb : b < 12) : ∃ M' : ax_M, ax_fn 27 0 (ax_entry 27 [.ref (ax_a 9 0), .int (ay_i b)]) [] (ax_hp X e gb M o) = some (.inl none, ax_hp X e b M' o) ∧ ag_fg M M' ∧ ai_c M' P ∧ M' 16 0 b = (if ai_g P b = true then ay_i 1 else ay_i 2) ∧ M' 9 0 4 = ay_i b := by
  obtain ⟨M', a1, a2, a3, a4⟩ := am_27 (X := X) (e := e) (o := o) (gb := gb) hW hp hb
  obtain ⟨c1, c2⟩ := hc
  refine ⟨M', a1, fun f i j h1 h2 => a3 f i j (by omega) h2 (by omega), ⟨fun c hcb => ?_, .inr ⟨b, hb, a2, fun T hT => ?_⟩⟩, ?_, a2⟩
  · by_cases hcb2 : c = b
    · subst hcb2
      rcases a4 with ⟨a4, a5, -⟩ | ⟨a4, a5⟩
      · refine ⟨.inr (.inl a4), fun _ => ⟨_, a5⟩, fun h => ?_⟩
        rw [a4, ay_i_eq (by omega) (by omega)] at h; omega
      · refine ⟨.inr (.inr a4), fun h => ?_, fun _ => a5⟩
        rw [a4, ay_i_eq (by omega) (by omega)] at h; omega
    · rw [a3 16 0 c (by omega) (by omega) (by omega)]; exact c1 c hcb
  · rcases a4 with ⟨-, a5, a6⟩ | ⟨-, a5⟩
    · exact ⟨ag_GG a5 hT, a6⟩
    · exact (ag_GN hT a5).elim
  · rcases a4 with ⟨a4, a5, -⟩ | ⟨a4, a5⟩
    · rw [if_pos (ai_g_t a5)]; exact a4
    · rw [if_neg (by rw [ai_g_f a5]; exact Bool.false_ne_true)]; exact a4
theorem am_26 (hW : ap_wf P) (hp : ac_p M P) (hc : ai_c M P) (hb : b < 12) : ∃ (M' : ax_M) (gb' : Nat), ax_fn 26 0 (ax_entry 26 [.ref (ax_a 9 0), .int (ay_i b)]) [] (ax_hp X e gb M o) = some (.inl (some (.int (ay_b (ai_g P b)))), ax_hp X e gb' M' o) ∧ ag_fg M M' ∧ ai_c M' P := by
  obtain ⟨c1, c2, c3⟩ := hc.1 b hb
  rcases c1 with h0 | h1 | h2
  · obtain ⟨M', a1, a2, a3, a4, -⟩ := am_27c (X := X) (e := e) (o := o) (gb := gb) hW hp hc hb
    refine ⟨M', b, ?_, a2, a3⟩
    cases hg : ai_g P b with
    | true =>
      rw [hg, if_pos rfl] at a4
      simp (disch := first | omega | assumption | exact ay_z1b _ | exact ay_z10 | exact ay_z11) only [ae_26, af_26_0, af_26_1, af_26_4, af_26_5, af_26_6, af_26_9, af_26_10, af_26_11, af_26_14, af_26_15, af_26_18, af_26_19, af_26_20, af_26_21, af_26_24, af_26_25, af_26_28, af_26_29, h0, a1, a4, ay_bt, ay_cl_v, ay_cl_s, ay_i_add, ay_i_mul, ay_i_eq, ay_i_lt, ay_b0, ay_b1, ay_ni, ay_in, ay_nn, ay_nl, ay_ln, if_true, if_false, ↓reduceIte, Nat.reduceAdd, Nat.reduceMul, Nat.reduceEqDiff, Nat.reduceLT, Nat.not_lt_zero, Bool.true_eq_false, Bool.false_eq_true, reduceCtorEq, Nat.add_zero, Nat.zero_add]
    | false =>
      rw [hg, if_neg Bool.false_ne_true] at a4
      simp (disch := first | omega | assumption | exact ay_z1b _ | exact ay_z10 | exact ay_z11) only [ae_26, af_26_0, af_26_1, af_26_4, af_26_5, af_26_6, af_26_9, af_26_10, af_26_11, af_26_14, af_26_15, af_26_18, af_26_19, af_26_20, af_26_21, af_26_24, af_26_25, af_26_28, af_26_29, h0, a1, a4, ay_bf, ay_cl_v, ay_cl_s, ay_i_add, ay_i_mul, ay_i_eq, ay_i_lt, ay_b0, ay_b1, ay_ni, ay_in, ay_nn, ay_nl, ay_ln, if_true, if_false, ↓reduceIte, Nat.reduceAdd, Nat.reduceMul, Nat.reduceEqDiff, Nat.reduceLT, Nat.not_lt_zero, Bool.true_eq_false, Bool.false_eq_true, reduceCtorEq, Nat.add_zero, Nat.zero_add]
  · obtain ⟨T, hT⟩ := c2 h1
    refine ⟨M, gb, ?_, fun _ _ _ _ _ => rfl, hc⟩
    rw [ai_g_t hT]
    simp (disch := first | omega | assumption | exact ay_z1b _ | exact ay_z10 | exact ay_z11) only [ae_26, af_26_0, af_26_1, af_26_4, af_26_5, af_26_6, af_26_9, af_26_10, af_26_11, af_26_14, af_26_15, af_26_18, af_26_19, af_26_20, af_26_21, af_26_24, af_26_25, af_26_28, af_26_29, h1, ay_bt, ay_cl_v, ay_cl_s, ay_i_add, ay_i_mul, ay_i_eq, ay_i_lt, ay_b0, ay_b1, ay_ni, ay_in, ay_nn, ay_nl, ay_ln, if_true, if_false, ↓reduceIte, Nat.reduceAdd, Nat.reduceMul, Nat.reduceEqDiff, Nat.reduceLT, Nat.not_lt_zero, Bool.true_eq_false, Bool.false_eq_true, reduceCtorEq, Nat.add_zero, Nat.zero_add]
  · refine ⟨M, gb, ?_, fun _ _ _ _ _ => rfl, hc⟩
    rw [ai_g_f (c3 h2)]
    simp (disch := first | omega | assumption | exact ay_z1b _ | exact ay_z10 | exact ay_z11) only [ae_26, af_26_0, af_26_1, af_26_4, af_26_5, af_26_6, af_26_9, af_26_10, af_26_11, af_26_14, af_26_15, af_26_18, af_26_19, af_26_20, af_26_21, af_26_24, af_26_25, af_26_28, af_26_29, h2, ay_bf, ay_cl_v, ay_cl_s, ay_i_add, ay_i_mul, ay_i_eq, ay_i_lt, ay_b0, ay_b1, ay_ni, ay_in, ay_nn, ay_nl, ay_ln, if_true, if_false, ↓reduceIte, Nat.reduceAdd, Nat.reduceMul, Nat.reduceEqDiff, Nat.reduceLT, Nat.not_lt_zero, Bool.true_eq_false, Bool.false_eq_true, reduceCtorEq, Nat.add_zero, Nat.zero_add]
theorem am_41 {p : Nat} {T : ag_T} (hW : ap_wf P) (hp : ac_p M P) (hc : ai_c M P) (hb : b < 12) (hpn : p < ap_sz P b) (hT : ag_G P b T) : ∃ (M' : ax_M) (gb' : Nat), ax_fn 41 0 (ax_entry 41 [.ref (ax_a 9 0), .int (ay_i b), .int (ay_i p)]) [] (ax_hp X e gb M o) = some (.inl (some (.ref (ax_a 12 p))), ax_hp X e gb' M' o) ∧ ag_fg M M' ∧ ai_c M' P ∧ ag_vt M' (ap_sz P b) = T ∧ ∃ r : Bool, M' 12 p 4 = ay_b r := by
  have h40 := (hW.1 b hb).2
  by_cases hw : M 9 0 4 = ay_i b
  · refine ⟨M, gb, ?_, fun _ _ _ _ _ => rfl, hc, ?_⟩
    · simp (disch := first | omega | assumption | exact ay_z1b _ | exact ay_z10 | exact ay_z11) only [ae_41, af_41_0, af_41_1, af_41_4, af_41_5, af_41_8, af_41_9, af_41_10, af_41_13, af_41_14, af_41_17, af_41_18, af_41_19, hw, ay_cl_v, ay_cl_s, ay_i_add, ay_i_mul, ay_i_eq, ay_i_lt, ay_b0, ay_b1, ay_ni, ay_in, ay_nn, ay_nl, ay_ln, if_true, if_false, ↓reduceIte, Nat.reduceAdd, Nat.reduceMul, Nat.reduceEqDiff, Nat.reduceLT, Nat.not_lt_zero, Bool.true_eq_false, Bool.false_eq_true, reduceCtorEq, Nat.add_zero, Nat.zero_add]
    · rcases hc.2 with h | ⟨b', hb', h1, h2⟩
      · rw [hw, ay_in (by omega) (by omega) (by omega)] at h; exact h.elim
      · rw [hw, ay_i_eq (by omega) (by omega)] at h1
        subst h1
        obtain ⟨h3, h4⟩ := h2 T hT
        exact ⟨h3, h4 p hpn⟩
  · obtain ⟨M', a1, a2, a3, -, a5⟩ := am_27c (X := X) (e := e) (o := o) (gb := gb) hW hp hc hb
    refine ⟨M', b, ?_, a2, a3, ?_⟩
    · simp (disch := first | omega | assumption | exact ay_z1b _ | exact ay_z10 | exact ay_z11) only [ae_41, af_41_0, af_41_1, af_41_4, af_41_5, af_41_8, af_41_9, af_41_10, af_41_13, af_41_14, af_41_17, af_41_18, af_41_19, hw, a1, ay_cl_v, ay_cl_s, ay_i_add, ay_i_mul, ay_i_eq, ay_i_lt, ay_b0, ay_b1, ay_ni, ay_in, ay_nn, ay_nl, ay_ln, if_true, if_false, ↓reduceIte, Nat.reduceAdd, Nat.reduceMul, Nat.reduceEqDiff, Nat.reduceLT, Nat.not_lt_zero, Bool.true_eq_false, Bool.false_eq_true, reduceCtorEq, Nat.add_zero, Nat.zero_add]
    · rcases a3.2 with h | ⟨b', hb', h1, h2⟩
      · rw [a5, ay_in (by omega) (by omega) (by omega)] at h; exact h.elim
      · rw [a5, ay_i_eq (by omega) (by omega)] at h1
        subst h1
        obtain ⟨h3, h4⟩ := h2 T hT
        exact ⟨h3, h4 p hpn⟩
/-- judge, told by ai_g -/
theorem am_106c (hW : ap_wf P) (hm : ac_m M P) (hb : b < 12) : ∃ M' : ax_M, ax_fn 106 0 (ax_entry 106 [.ref (ax_a 24 0), .int (ay_i b)]) [] (ax_hp X e gb M o) = some (.inl (some (.int (ay_b (ai_g P b)))), ax_hp X e gb M' o) ∧ ag_fm M M' ∧ ∀ T, ag_G P b T → ag_vm M' (ap_sz P b) = T ∧ ∀ p, p < ap_sz P b → ∃ r : Bool, M' 45 0 p = ay_b r := by
  obtain ⟨M', r, a1, a2, a3⟩ := am_106 (X := X) (e := e) (gb := gb) (o := o) hW hm hb
  refine ⟨M', ?_, a2, fun T hT => ?_⟩
  · rcases a3 with ⟨rfl, h, -⟩ | ⟨rfl, h⟩
    · rw [ai_g_t h]; exact a1
    · rw [ai_g_f h]; exact a1
  · rcases a3 with ⟨rfl, h, h2⟩ | ⟨rfl, h⟩
    · exact ⟨ag_GG h hT, h2⟩
    · exact (ag_GN hT h).elim
theorem aj_good (hR : ai_R M) (he : e < 700000) {b : Int32} : ai_J (ax_fn 6 0 (ax_entry 6 [.ref (ax_a 0 0), .int b, .ref (ax_a 68 0)]) [] (ax_hp X e gb M o)) (fun e' gb' M1 o1 => ax_fn 105 0 (ax_entry 105 [.ref (ax_a 24 0), .int b]) [] (ax_hp X e' gb' M1 o1)) X e (fun v => some (.int v)) true o := by
  cases hv : ay_w b (ay_i 12) with
  | true =>
    obtain ⟨b, hb, rfl, -⟩ := ay_w_inv (by omega) hv
    obtain ⟨r1, r2, r3, r4⟩ := id hR
    obtain ⟨M1, gb', a1, a2, a3⟩ := am_26 (X := X) (e := e) (o := o) (gb := gb) r1 r2 r3 hb
    have hm1 : ac_m (ax_u3 M1 24 0 0 (ay_i 0)) (ag_pr M) := by
      intro f j h1 h2
      have : ax_u3 M1 24 0 0 (ay_i 0) f 0 j = M1 f 0 j := by simp only [ax_u3]; grind
      rw [this, a2 f 0 j (by omega) (by omega)]; exact ag_pr_m M f j h1 h2
    obtain ⟨M2, b1, b2, -⟩ := am_106c (X := X) (e := e) (gb := gb') (o := if ai_g (ag_pr M) b = true then Int64.ofNat 1 else Int64.ofNat 0) r1 hm1 hb
    refine ⟨0, e, gb', M1, M2, if ai_g (ag_pr M) b = true then Int64.ofNat 1 else Int64.ofNat 0, ay_b (ai_g (ag_pr M) b), ?_, ?_, ?_, by omega, (fun _ _ => ?_), by omega, ?_⟩
    · cases hg : ai_g (ag_pr M) b <;> rw [hg] at a1 <;> simp (disch := first | omega | assumption | exact ay_z1b _ | exact ay_z10 | exact ay_z11) only [ae_6, af_6_0, af_6_1, af_6_2, af_6_3, af_6_4, af_6_7, af_6_10, af_6_11, af_6_14, af_6_15, af_6_16, af_6_19, af_6_20, af_6_21, af_6_22, af_6_23, ae_81, af_81_0, af_81_1, af_81_3, af_81_6, af_81_9, af_81_10, af_81_13, af_81_14, af_81_17, am_71, hv, ay_bt, am_72t, a1, ay_cl_v, ay_cl_s, ay_i_add, ay_i_mul, ay_i_eq, ay_i_lt, ay_b0, ay_b1, ay_ni, ay_in, ay_nn, ay_nl, ay_ln, if_true, if_false, ↓reduceIte, Nat.reduceAdd, Nat.reduceMul, Nat.reduceEqDiff, Nat.reduceLT, Nat.not_lt_zero, Bool.true_eq_false, Bool.false_eq_true, reduceCtorEq, Nat.add_zero, Nat.zero_add]
    · cases hg : ai_g (ag_pr M) b <;> rw [hg] at b1 <;> simp only [Bool.false_eq_true, if_true, if_false] at b1 ⊢ <;> simp (disch := first | omega | assumption | exact ay_z1b _ | exact ay_z10 | exact ay_z11) only [ae_105, af_105_0, af_105_1, af_105_2, af_105_5, af_105_6, af_105_7, af_105_10, af_105_13, af_105_14, af_105_15, af_105_18, af_105_21, af_105_22, af_105_25, af_105_26, am_98, hv, ay_bt, ay_bf, am_96d, b1, ay_cl_v, ay_cl_s, ay_i_add, ay_i_mul, ay_i_eq, ay_i_lt, ay_b0, ay_b1, ay_ni, ay_in, ay_nn, ay_nl, ay_ln, if_true, if_false, ↓reduceIte, Nat.reduceAdd, Nat.reduceMul, Nat.reduceEqDiff, Nat.reduceLT, Nat.not_lt_zero, Bool.true_eq_false, Bool.false_eq_true, reduceCtorEq, Nat.add_zero, Nat.zero_add]
    · rw [b2 _ _ _ (by omega) (by omega)]; simp [ax_u3]
    · cases ai_g (ag_pr M) b <;> decide
    · refine ai_R_g hR (fun f i j h1 h2 h3 h4 => ?_) (ai_c_cg a3 (fun f i j h => ?_))
      · rw [b2 f i j h3 (by omega), ← a2 f i j h1 h2]; simp only [ax_u3]; grind
      · rw [b2 f i j (by omega) (by omega)]; simp only [ax_u3]; grind
  | false =>
    refine ⟨1, e + 1, gb, M, ax_u3 M 24 0 0 (ay_i 1), o, ay_i 0, ?_, ?_, by simp [ax_u3], by omega, (fun h => by omega), by omega, ai_R_t hR⟩
    · simp (disch := first | omega | assumption | exact ay_z1b _ | exact ay_z10 | exact ay_z11) only [ae_6, af_6_0, af_6_1, af_6_2, af_6_3, af_6_4, af_6_7, af_6_10, af_6_11, af_6_14, af_6_15, af_6_16, af_6_19, af_6_20, af_6_21, af_6_22, af_6_23, ae_81, af_81_0, af_81_1, af_81_3, af_81_6, af_81_9, af_81_10, af_81_13, af_81_14, af_81_17, am_71, hv, ay_bf, am_72f, ah_81, ah_6_0, ay_cl_v, ay_cl_s, ay_i_add, ay_i_mul, ay_i_eq, ay_i_lt, ay_b0, ay_b1, ay_ni, ay_in, ay_nn, ay_nl, ay_ln, if_true, if_false, ↓reduceIte, Nat.reduceAdd, Nat.reduceMul, Nat.reduceEqDiff, Nat.reduceLT, Nat.not_lt_zero, Bool.true_eq_false, Bool.false_eq_true, reduceCtorEq, Nat.add_zero, Nat.zero_add]
    · simp (disch := first | omega | assumption | exact ay_z1b _ | exact ay_z10 | exact ay_z11) only [ae_105, af_105_0, af_105_1, af_105_2, af_105_5, af_105_6, af_105_7, af_105_10, af_105_13, af_105_14, af_105_15, af_105_18, af_105_21, af_105_22, af_105_25, af_105_26, am_98, hv, ay_bf, am_96a, ay_u3e, false_and, and_false, true_and, and_true, and_self, ay_cl_v, ay_cl_s, ay_i_add, ay_i_mul, ay_i_eq, ay_i_lt, ay_b0, ay_b1, ay_ni, ay_in, ay_nn, ay_nl, ay_ln, if_true, if_false, ↓reduceIte, Nat.reduceAdd, Nat.reduceMul, Nat.reduceEqDiff, Nat.reduceLT, Nat.not_lt_zero, Bool.true_eq_false, Bool.false_eq_true, reduceCtorEq, Nat.add_zero, Nat.zero_add]
end AmY
