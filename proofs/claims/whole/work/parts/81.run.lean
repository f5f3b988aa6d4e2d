/-! start, run, state, local, object -/
theorem ay_w_iv {a : Int32} {n : Nat} (hn : n ≤ 100000) (h : ay_w a (ay_i n) = true) : ∃ t, t < n ∧ a = ay_i t := by
  unfold ay_w at h
  have h1 := of_decide_eq_true h
  have h0 : (ay_i 0).toInt = 0 := ay_i_toInt (by omega)
  rw [Int32.lt_iff_toInt_lt, Int32.lt_iff_toInt_lt, h0, ay_i_toInt (by omega)] at h1
  have ha : a = ay_i a.toInt.toNat := by
    apply Int32.toInt_inj.mp
    rw [ay_i_toInt (by omega)]
    omega
  exact ⟨a.toInt.toNat, by omega, ha⟩
def ab_sr (t d : Nat) : Nat := if 0 < t then t else if d = 0 then 1 else 0
theorem ab_sr_le {t d : Nat} (h : t ≤ 5) : ab_sr t d ≤ 5 := by
  unfold ab_sr
  split
  · omega
  · split <;> omega
/-- only the machines' own has changed -/
def ab_fl (M M' : ax_M) : Prop := ∀ f i j, ¬ (58 ≤ f ∧ f ≤ 61) → ¬ (f = 66 ∨ f = 67) → ¬ (f = 24 ∧ (j = 27 ∨ (32 ≤ j ∧ j ≤ 35))) → M' f i j = M f i j
section AmR
variable {X : Nat × (Nat → Int32)} {e gb : Nat} {M C P : ax_M} {o : Int64} {k q b p : Nat}
theorem ab_tr_rg : ab_tr P C k q b p = 0 ∨ (2 ≤ ab_tr P C k q b p ∧ ab_tr P C k q b p ≤ 5) := by
  unfold ab_tr
  split
  all_goals first | omega | (split <;> first | omega | (split <;> omega))
theorem ab_mm_c {C' : ax_M} {d : Nat} (h : ai_mm C M d q) (hf : ∀ f i j, 18 ≤ f → f ≤ 23 → ¬ (f = 18 ∧ (j = 7 ∨ j = 8)) → C' f i j = C f i j) : ai_mm C' M d q := by
  obtain ⟨m1, m2, m3, m4, m5⟩ := h
  refine ⟨m1, m2, by rw [hf _ _ _ (by omega) (by omega) (by omega)]; exact m3, fun k hk => ?_, fun i hi => ?_⟩
  · rw [hf _ _ _ (by omega) (by omega) (by omega), hf _ _ _ (by omega) (by omega) (by omega), hf _ _ _ (by omega) (by omega) (by omega)]
    obtain ⟨a1, a2, a3, a4⟩ := m4 k hk
    exact ⟨a1, a2, a3, fun l hl => by rw [hf _ _ _ (by omega) (by omega) (by omega)]; exact a4 l hl⟩
  · rw [hf _ _ _ (by omega) (by omega) (by omega)]
    exact ⟨(m5 i hi).1, fun z hz => by rw [hf _ _ _ (by omega) (by omega) (by omega)]; exact (m5 i hi).2 z hz⟩
theorem ab_mm_m {M' : ax_M} {d : Nat} (h : ai_mm C M d q) (hf : ∀ f i j, 24 ≤ f → ¬ (f = 24 ∧ (j = 0 ∨ j = 26 ∨ j = 32 ∨ j = 33)) → M' f i j = M f i j) : ai_mm C M' d q := by
  obtain ⟨m1, m2, m3, m4, m5⟩ := h
  refine ⟨by rw [hf _ _ _ (by omega) (by omega)]; exact m1, by rw [hf _ _ _ (by omega) (by omega)]; exact m2, by rw [hf _ _ _ (by omega) (by omega)]; exact m3, fun k hk => ?_, fun i hi => ?_⟩
  · rw [hf _ _ _ (by omega) (by omega), hf _ _ _ (by omega) (by omega), hf _ _ _ (by omega) (by omega)]
    obtain ⟨a1, a2, a3, a4⟩ := m4 k hk
    exact ⟨a1, a2, a3, fun l hl => by rw [hf _ _ _ (by omega) (by omega)]; exact a4 l hl⟩
  · rw [hf _ _ _ (by omega) (by omega)]
    exact ⟨(m5 i hi).1, fun z hz => by rw [hf _ _ _ (by omega) (by omega)]; exact (m5 i hi).2 z hz⟩
theorem ab_mc_c {C' : ax_M} {d : Nat} (h : ai_mc C P d q) (hf : ∀ f i j, 18 ≤ f → f ≤ 23 → ¬ (f = 18 ∧ (j = 7 ∨ j = 8)) → C' f i j = C f i j) : ai_mc C' P d q := by
  obtain ⟨c1, c2, c3, c4, c5, c6⟩ := h
  refine ⟨c1, c2, by rw [hf _ _ _ (by omega) (by omega) (by omega)]; exact c3, by rw [hf _ _ _ (by omega) (by omega) (by omega)]; exact c4, fun k hk => ?_, fun i z hi hz => by rw [hf _ _ _ (by omega) (by omega) (by omega)]; exact c6 i z hi hz⟩
  rw [hf _ _ _ (by omega) (by omega) (by omega), hf _ _ _ (by omega) (by omega) (by omega), hf _ _ _ (by omega) (by omega) (by omega)]
  obtain ⟨a1, a2, a3⟩ := c5 k hk
  exact ⟨a1, a2, fun l hl => by rw [hf _ _ _ (by omega) (by omega) (by omega)]; exact a3 l hl⟩
theorem al_125x {N i t d : Nat} (hN : N ≤ 1000) (hi : i ≤ N) (hd : d ≤ 20) (ht : t ≤ 5) (h27 : M 24 0 27 = ay_i d) (h32 : M 24 0 32 = ay_i t) (hx : i = N ∨ d = 0 ∨ 0 < t) : ax_fn 125 24 [some (.ref (ax_a 24 0)), some (.int (ay_i N)), some (.int (ay_i i))] [] (ax_hp X e gb M o) = ax_fn 125 68 [some (.ref (ax_a 24 0)), some (.int (ay_i N)), some (.int (ay_i i))] [] (ax_hp X e gb M o) := by
  rw [af_125_24]
  by_cases h1 : i < N
  · by_cases h2 : 0 < d
    · have h3 : ¬ t = 0 := by omega
      simp (disch := first | omega | assumption | exact ay_z1b _ | exact ay_z10 | exact ay_z11) only [ae_125, af_125_0, af_125_1, af_125_2, af_125_3, af_125_6, af_125_9, af_125_10, af_125_13, af_125_14, af_125_17, af_125_20, af_125_21, af_125_22, af_125_23, af_125_25, af_125_26, af_125_29, af_125_30, af_125_33, af_125_36, af_125_37, af_125_40, af_125_43, af_125_44, af_125_45, af_125_48, af_125_51, af_125_52, af_125_55, af_125_58, af_125_59, af_125_62, af_125_65, af_125_69, af_125_70, af_125_73, af_125_74, af_125_75, af_125_78, af_125_79, h1, h2, h27, h32, h3, not_true, ay_cl_v, ay_cl_s, ay_i_add, ay_i_mul, ay_i_eq, ay_i_lt, ay_b0, ay_b1, ay_ni, ay_in, ay_nn, ay_nl, ay_ln, if_true, if_false, ↓reduceIte, Nat.reduceAdd, Nat.reduceMul, Nat.reduceEqDiff, Nat.reduceLT, Nat.not_lt_zero, Bool.true_eq_false, Bool.false_eq_true, reduceCtorEq, Nat.add_zero, Nat.zero_add]
    · simp (disch := first | omega | assumption | exact ay_z1b _ | exact ay_z10 | exact ay_z11) only [ae_125, af_125_0, af_125_1, af_125_2, af_125_3, af_125_6, af_125_9, af_125_10, af_125_13, af_125_14, af_125_17, af_125_20, af_125_21, af_125_22, af_125_23, af_125_25, af_125_26, af_125_29, af_125_30, af_125_33, af_125_36, af_125_37, af_125_40, af_125_43, af_125_44, af_125_45, af_125_48, af_125_51, af_125_52, af_125_55, af_125_58, af_125_59, af_125_62, af_125_65, af_125_69, af_125_70, af_125_73, af_125_74, af_125_75, af_125_78, af_125_79, h1, h2, h27, not_true, not_false_eq_true, ay_cl_v, ay_cl_s, ay_i_add, ay_i_mul, ay_i_eq, ay_i_lt, ay_b0, ay_b1, ay_ni, ay_in, ay_nn, ay_nl, ay_ln, if_true, if_false, ↓reduceIte, Nat.reduceAdd, Nat.reduceMul, Nat.reduceEqDiff, Nat.reduceLT, Nat.not_lt_zero, Bool.true_eq_false, Bool.false_eq_true, reduceCtorEq, Nat.add_zero, Nat.zero_add]
  · simp (disch := first | omega | assumption | exact ay_z1b _ | exact ay_z10 | exact ay_z11) only [ae_125, af_125_0, af_125_1, af_125_2, af_125_3, af_125_6, af_125_9, af_125_10, af_125_13, af_125_14, af_125_17, af_125_20, af_125_21, af_125_22, af_125_23, af_125_25, af_125_26, af_125_29, af_125_30, af_125_33, af_125_36, af_125_37, af_125_40, af_125_43, af_125_44, af_125_45, af_125_48, af_125_51, af_125_52, af_125_55, af_125_58, af_125_59, af_125_62, af_125_65, af_125_69, af_125_70, af_125_73, af_125_74, af_125_75, af_125_78, af_125_79, h1, not_false_eq_true, ay_cl_v, ay_cl_s, ay_i_add, ay_i_mul, ay_i_eq, ay_i_lt, ay_b0, ay_b1, ay_ni, ay_in, ay_nn, ay_nl, ay_ln, if_true, if_false, ↓reduceIte, Nat.reduceAdd, Nat.reduceMul, Nat.reduceEqDiff, Nat.reduceLT, Nat.not_lt_zero, Bool.true_eq_false, Bool.false_eq_true, reduceCtorEq, Nat.add_zero, Nat.zero_add]
theorem al_125 {N : Nat} (hW : ap_wf P) (hN : N ≤ 1000) : ∀ c i (C M : ax_M) d q t, i + c = N → ai_mc C P d q → ai_mm C M d q → ac_m M P → (t = 0 ∨ (2 ≤ t ∧ t ≤ 5)) → M 24 0 32 = ay_i t → C 18 0 7 = ay_i (ab_sr t d) →
    ∃ (M' : ax_M) (d' q' t' : Nat), ax_fn 125 24 [some (.ref (ax_a 24 0)), some (.int (ay_i N)), some (.int (ay_i i))] [] (ax_hp X e gb M o) = ax_fn 125 68 [some (.ref (ax_a 24 0)), some (.int (ay_i N)), some (.int (ay_i (i + (ab_run P c C).1)))] [] (ax_hp X e gb M' o) ∧ ab_fl M M' ∧ M' 24 0 33 = M 24 0 33 ∧ ai_mc (ab_run P c C).2 P d' q' ∧ ai_mm (ab_run P c C).2 M' d' q' ∧ (t' = 0 ∨ (2 ≤ t' ∧ t' ≤ 5)) ∧ M' 24 0 32 = ay_i t' ∧ (ab_run P c C).2 18 0 7 = ay_i (ab_sr t' d') ∧ (ab_run P c C).2 18 0 8 = C 18 0 8 + ay_i (ab_run P c C).1 ∧ (∀ f i j, f < 18 ∨ 23 < f ∨ (f = 18 ∧ i = 0 ∧ j = 2) → (ab_run P c C).2 f i j = C f i j) := by
  intro c
  induction c with
  | zero =>
    intro i C M d q t hi hc hm hP ht h32 h7
    refine ⟨M, d, q, t, ?_, fun _ _ _ _ _ _ => rfl, rfl, hc, hm, ht, h32, h7, ?_, fun _ _ _ _ => rfl⟩
    · have := hc.1
      exact al_125x hN (by omega) hc.1 (by omega) hm.1 h32 (.inl (by omega))
    · show C 18 0 8 = C 18 0 8 + ay_i 0
      simp [ay_i]
  | succ c ih =>
    intro i C M d q t hi hc hm hP ht h32 h7
    have hlt : i < N := by omega
    have hd20 := hc.1
    by_cases hex : d = 0 ∨ 0 < t
    · have h7n : ¬ C 18 0 7 = ay_i 0 := by
        rw [h7, ay_i_eq (by have := ab_sr_le (t := t) (d := d) (by omega); omega) (by omega)]
        unfold ab_sr
        split
        · omega
        · rw [if_pos (by omega)]; omega
      have hr : ab_run P (c + 1) C = (0, C) := by rw [ab_run, if_neg h7n]
      rw [hr]
      refine ⟨M, d, q, t, ?_, fun _ _ _ _ _ _ => rfl, rfl, hc, hm, ht, h32, h7, ?_, fun _ _ _ _ => rfl⟩
      · exact al_125x hN (by omega) hc.1 (by omega) hm.1 h32 (.inr hex)
      · show C 18 0 8 = C 18 0 8 + ay_i 0
        simp [ay_i]
    · have ht0 : t = 0 := by omega
      subst ht0
      obtain ⟨k, rfl⟩ : ∃ k, d = k + 1 := ⟨d - 1, by omega⟩
      have h70 : C 18 0 7 = ay_i 0 := by rw [h7]; simp [ab_sr]
      obtain ⟨b, hb, h1, -⟩ := (hc.2.2.2.2.1 k (by omega)).1
      obtain ⟨m1, m2, m3, m4, m5⟩ := id hm
      obtain ⟨n1, n2, n3, n4⟩ := m4 k (by omega)
      rw [if_pos rfl] at n2
      rw [h1] at n1
      have hsz := hW.1 b hb
      have h40 : M 40 0 b = ay_i (ap_sz P b) := by rw [hP _ _ (by omega) (by omega)]; exact hsz.1
      have hk1 : 0 < k + 1 := by omega
      have stuck : ∀ T, 2 ≤ T → T ≤ 5 → ab_T P C = T → ax_fn 126 0 (ax_entry 126 [.ref (ax_a 24 0)]) [] (ax_hp X e gb M o) = some (.inl (some (.int (ay_i T))), ax_hp X e gb M o) → ∃ (M' : ax_M) (d' q' t' : Nat), ax_fn 125 24 [some (.ref (ax_a 24 0)), some (.int (ay_i N)), some (.int (ay_i i))] [] (ax_hp X e gb M o) = ax_fn 125 68 [some (.ref (ax_a 24 0)), some (.int (ay_i N)), some (.int (ay_i (i + (ab_run P (c + 1) C).1)))] [] (ax_hp X e gb M' o) ∧ ab_fl M M' ∧ M' 24 0 33 = M 24 0 33 ∧ ai_mc (ab_run P (c + 1) C).2 P d' q' ∧ ai_mm (ab_run P (c + 1) C).2 M' d' q' ∧ (t' = 0 ∨ (2 ≤ t' ∧ t' ≤ 5)) ∧ M' 24 0 32 = ay_i t' ∧ (ab_run P (c + 1) C).2 18 0 7 = ay_i (ab_sr t' d') ∧ (ab_run P (c + 1) C).2 18 0 8 = C 18 0 8 + ay_i (ab_run P (c + 1) C).1 ∧ (∀ f i j, f < 18 ∨ 23 < f ∨ (f = 18 ∧ i = 0 ∧ j = 2) → (ab_run P (c + 1) C).2 f i j = C f i j) := by
        intro T hT2 hT5 hT h126
        have hr : ab_run P (c + 1) C = (0, ax_u3 C 18 0 7 (ay_i T)) := by rw [ab_run, if_pos h70, if_neg (by omega), hT]
        rw [hr]
        have hTz : ¬ T = 0 := by omega
        refine ⟨ax_u3 M 24 0 32 (ay_i T), k + 1, q, T, ?_, fun f i j a1 a2 a3 => ?_, by simp [ax_u3], ab_mc_c hc (fun f i j a1 a2 a3 => ?_), ab_mm_c (ab_mm_m hm (fun f i j a1 a2 => ?_)) (fun f i j a1 a2 a3 => ?_), .inr ⟨hT2, hT5⟩, by simp [ax_u3], ?_, ?_, fun f i j a => ?_⟩
        · have hx := al_125x (X := X) (e := e) (gb := gb) (o := o) (M := ax_u3 M 24 0 32 (ay_i T)) (i := i) (t := T) (d := k + 1) hN (by omega) hc.1 (by omega) (by simp only [ax_u3]; simp [m1]) (by simp [ax_u3]) (.inr (.inr (by omega)))
          simp only [Nat.add_zero]
          rw [← hx, af_125_24]
          simp (disch := first | omega | assumption | exact ay_z1b _ | exact ay_z10 | exact ay_z11) only [ae_125, af_125_0, af_125_1, af_125_2, af_125_3, af_125_6, af_125_9, af_125_10, af_125_13, af_125_14, af_125_17, af_125_20, af_125_21, af_125_22, af_125_23, af_125_25, af_125_26, af_125_29, af_125_30, af_125_33, af_125_36, af_125_37, af_125_40, af_125_43, af_125_44, af_125_45, af_125_48, af_125_51, af_125_52, af_125_55, af_125_58, af_125_59, af_125_62, af_125_65, af_125_69, af_125_70, af_125_73, af_125_74, af_125_75, af_125_78, af_125_79, hlt, m1, hk1, h32, not_true, h126, ay_u3e, false_and, and_false, true_and, and_true, and_self, hTz, ay_cl_v, ay_cl_s, ay_i_add, ay_i_mul, ay_i_eq, ay_i_lt, ay_b0, ay_b1, ay_ni, ay_in, ay_nn, ay_nl, ay_ln, if_true, if_false, ↓reduceIte, Nat.reduceAdd, Nat.reduceMul, Nat.reduceEqDiff, Nat.reduceLT, Nat.not_lt_zero, Bool.true_eq_false, Bool.false_eq_true, reduceCtorEq, Nat.add_zero, Nat.zero_add]
        · simp only [ax_u3]; grind
        · simp only [ax_u3]; grind
        · simp only [ax_u3]; grind
        · simp only [ax_u3]; grind
        · have : ab_sr T (k + 1) = T := by unfold ab_sr; rw [if_pos (by omega)]
          rw [this]; simp [ax_u3]
        · simp [ax_u3, ay_i]
        · simp only [ax_u3]; grind
      rcases ab_TN hc hW hb h1 with ⟨hw, hT⟩ | ⟨p, hpn, h2, hT, hN2⟩
      · exact stuck 5 (by omega) (by omega) hT (am_126a hsz.2 m1 n1 (by omega) hb h40 (by rw [n2]; exact hw))
      · have h126 := am_126b (X := X) (e := e) (gb := gb) (o := o) hc hm hP hW hb h1 hpn h2
        by_cases ht : ab_tr P C k q b p = 0
        · rw [ht] at h126
          have hm1 : ai_mm C (ax_u3 M 24 0 32 (ay_i 0)) (k + 1) q := ab_mm_m hm (fun f i j a1 a2 => by simp only [ax_u3]; grind)
          have hP1 : ac_m (ax_u3 M 24 0 32 (ay_i 0)) P := by
            intro f j a1 a2
            rw [← hP f j a1 a2]; simp only [ax_u3]; grind
          obtain ⟨M2, s1, s2, s3⟩ := am_129 (X := X) (e := e) (gb := gb) (o := o) hc hm1 hP1 hW hb h1 hpn h2 ht
          have hk := ab_keep hc hW hb h1 hpn h2 ht
          rw [← hN2] at hk s3
          obtain ⟨u1, u2⟩ := ab_U_mc hk
          have hP2 : ac_m M2 P := fun f j a1 a2 => by rw [s2 f 0 j (by omega) (by omega) (by omega)]; exact hP1 f j a1 a2
          have hmU : ai_mm (ab_U (ab_N P C)) M2 (ab_d (ap_o P b p) k) (ab_q (ap_o P b p) q) := ab_mm_c s3 (fun f i j a1 a2 a3 => by unfold ab_U; simp only [ax_u3]; grind)
          have h322 : M2 24 0 32 = ay_i 0 := by rw [s2 _ _ _ (by omega) (by omega) (by omega)]; simp [ax_u3]
          have hr : ab_run P (c + 1) C = ((ab_run P c (ab_U (ab_N P C))).1 + 1, (ab_run P c (ab_U (ab_N P C))).2) := by
            rw [ab_run, if_pos h70, if_pos (by rw [hT]; exact ht)]
          obtain ⟨M3, d3, q3, t3, r1, r2, r3, r4, r5, r6, r7, r8, r9, r10⟩ := ih (i + 1) _ M2 _ _ 0 (by omega) u1 hmU hP2 (.inl rfl) h322 (by rw [u2]; simp [ab_sr])
          rw [hr]
          have hsum : i + ((ab_run P c (ab_U (ab_N P C))).1 + 1) = i + 1 + (ab_run P c (ab_U (ab_N P C))).1 := by omega
          refine ⟨M3, d3, q3, t3, ?_, fun f i j a1 a2 a3 => ?_, ?_, r4, r5, r6, r7, r8, ?_, fun f i j a => ?_⟩
          · simp only []
            rw [hsum, ← r1, af_125_24]
            simp (disch := first | omega | assumption | exact ay_z1b _ | exact ay_z10 | exact ay_z11) only [ae_125, af_125_0, af_125_1, af_125_2, af_125_3, af_125_6, af_125_9, af_125_10, af_125_13, af_125_14, af_125_17, af_125_20, af_125_21, af_125_22, af_125_23, af_125_25, af_125_26, af_125_29, af_125_30, af_125_33, af_125_36, af_125_37, af_125_40, af_125_43, af_125_44, af_125_45, af_125_48, af_125_51, af_125_52, af_125_55, af_125_58, af_125_59, af_125_62, af_125_65, af_125_69, af_125_70, af_125_73, af_125_74, af_125_75, af_125_78, af_125_79, hlt, m1, hk1, h32, not_true, h126, ay_u3e, false_and, and_false, true_and, and_true, and_self, s1, ay_cl_v, ay_cl_s, ay_i_add, ay_i_mul, ay_i_eq, ay_i_lt, ay_b0, ay_b1, ay_ni, ay_in, ay_nn, ay_nl, ay_ln, if_true, if_false, ↓reduceIte, Nat.reduceAdd, Nat.reduceMul, Nat.reduceEqDiff, Nat.reduceLT, Nat.not_lt_zero, Bool.true_eq_false, Bool.false_eq_true, reduceCtorEq, Nat.add_zero, Nat.zero_add]
          · rw [r2 f i j a1 a2 a3, s2 f i j a1 a2 (by omega)]; simp only [ax_u3]; grind
          · rw [r3, s2 _ _ _ (by omega) (by omega) (by omega)]; simp [ax_u3]
          · show (ab_run P c (ab_U (ab_N P C))).2 18 0 8 = C 18 0 8 + ay_i ((ab_run P c (ab_U (ab_N P C))).1 + 1)
            rw [r9]
            have : ab_U (ab_N P C) 18 0 8 = C 18 0 8 + ay_i 1 := by
              rw [← ab_N_8 (P := P) (C := C) (j := 8) (by omega)]; unfold ab_U; simp [ax_u3]
            rw [this, Int32.add_assoc, ay_i_add, Nat.add_comm 1]
          · show (ab_run P c (ab_U (ab_N P C))).2 f i j = C f i j
            rw [r10 f i j a]
            have : ab_U (ab_N P C) f i j = ab_N P C f i j := by unfold ab_U; simp only [ax_u3]; grind
            rw [this]; exact ab_nx_fr (by omega)
        · rcases ab_tr_rg (P := P) (C := C) (k := k) (q := q) (b := b) (p := p) with h | ⟨h, h'⟩
          · exact absurd h ht
          · exact stuck _ h h' hT h126
end AmR
