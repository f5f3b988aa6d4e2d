/-! WHAT HOLDS BETWEEN CALLS -/
/-- the program that the reference holds -/
def ag_pr (M : ax_M) : ax_M := fun f i j => if 31 ≤ f ∧ f ≤ 44 ∧ i = 0 then M f 0 j else 0
theorem ag_pr_m (M : ax_M) : ac_m M (ag_pr M) := by
  intro f j h1 h2
  unfold ag_pr
  rw [if_pos ⟨h1, h2, rfl⟩]
theorem ag_pr_eq {M M' : ax_M} (h : ∀ f j, 31 ≤ f → f ≤ 44 → M' f 0 j = M f 0 j) : ag_pr M' = ag_pr M := by
  funext f i j
  unfold ag_pr
  by_cases hf : 31 ≤ f ∧ f ≤ 44 ∧ i = 0
  · rw [if_pos hf, if_pos hf, h f j hf.1 hf.2.1]
  · rw [if_neg hf, if_neg hf]
theorem ag_pr_at {M : ax_M} {f j : Nat} (h1 : 31 ≤ f) (h2 : f ≤ 44) : ag_pr M f 0 j = M f 0 j := (ag_pr_m M f j h1 h2).symm
/-- what the guard has kept is true -/
def ai_c (M P : ax_M) : Prop := (∀ b, b < 12 → (M 16 0 b = ay_i 0 ∨ M 16 0 b = ay_i 1 ∨ M 16 0 b = ay_i 2) ∧ (M 16 0 b = ay_i 1 → ∃ T, ag_G P b T) ∧ (M 16 0 b = ay_i 2 → ag_N P b)) ∧ (M 9 0 4 = ay_n 1 ∨ ∃ b, b < 12 ∧ M 9 0 4 = ay_i b ∧ ∀ T, ag_G P b T → ag_vt M (ap_sz P b) = T ∧ ∀ p, p < ap_sz P b → ∃ r : Bool, M 12 p 4 = ay_b r)
def ai_v (v : Int32) (q : Nat) : Prop := v = ay_n 1 ∨ ap_nb v q
/-- the two machines stand alike: d frames, q objects, trouble t -/
def ai_m (M P : ax_M) (d q t : Nat) : Prop := d ≤ 20 ∧ q ≤ 60 ∧ (t = 0 ∨ (2 ≤ t ∧ t ≤ 5)) ∧ M 18 0 3 = ay_i d ∧ M 24 0 27 = ay_i d ∧ M 18 0 4 = ay_i q ∧ M 24 0 35 = ay_i q ∧ M 24 0 32 = ay_i t ∧ M 18 0 7 = ay_i (if 0 < t then t else if d = 0 then 1 else 0) ∧ M 18 0 9 = M 24 0 34
  ∧ (∀ k, k < d → (∃ b, b < 12 ∧ M 22 k 1 = ay_i b ∧ M 58 0 k = ay_i b ∧ (k + 1 < d → ∃ p, p < ap_sz P b ∧ (ap_o P b p = 2 ∨ ap_o P b p = 7) ∧ M 22 k 2 = ay_i p ∧ M 59 0 k = ay_i (p + 1))) ∧ (k + 1 = d → M 22 k 2 = M 59 0 k) ∧ M 22 k 3 = M 61 0 k ∧ ai_v (M 22 k 3) q ∧ ∀ l, l < 8 → M 23 k l = M 60 0 (8 * k + l) ∧ ai_v (M 23 k l) q)
  ∧ (∀ i, i < q → M 19 0 i = M 66 0 i ∧ ∀ z, z < 4 → M 20 0 (4 * i + z) = M 67 0 (4 * i + z) ∧ ai_v (M 20 0 (4 * i + z)) q)
def ai_r (M P : ax_M) : Prop := ∃ pr : Bool, M 18 0 2 = ay_b pr ∧ M 24 0 26 = ay_b pr ∧ (pr = true → M 18 0 8 = M 24 0 33 ∧ ∃ d q t, ai_m M P d q t)
def ai_R (M : ax_M) : Prop := ap_wf (ag_pr M) ∧ ac_p M (ag_pr M) ∧ ai_c M (ag_pr M) ∧ ai_r M (ag_pr M)
/-- behind a change of the program -/
theorem ai_R0 {M : ax_M} (h1 : ap_wf (ag_pr M)) (h2 : ac_p M (ag_pr M)) (h3 : ∀ b, b < 12 → M 16 0 b = ay_i 0) (h4 : M 9 0 4 = ay_n 1) (h5 : M 18 0 2 = ay_i 0) (h6 : M 24 0 26 = ay_i 0) : ai_R M := by
  refine ⟨h1, h2, ⟨fun b hb => ⟨.inl (h3 b hb), fun h => ?_, fun h => ?_⟩, .inl h4⟩, false, h5, h6, fun h => by cases h⟩
  · rw [h3 b hb, ay_i_eq (by omega) (by omega)] at h; omega
  · rw [h3 b hb, ay_i_eq (by omega) (by omega)] at h; omega
/-- nothing that is compared has changed -/
theorem ai_R_same {M M' : ax_M} (h : ai_R M) (hf : ∀ f i j, ¬ (f = 24 ∧ j = 0) → M' f i j = M f i j) : ai_R M' := by
  have hP : ag_pr M' = ag_pr M := ag_pr_eq (fun f j h1 h2 => hf f 0 j (by omega))
  obtain ⟨h1, h2, h3, h4⟩ := h
  unfold ai_R
  rw [hP]
  refine ⟨h1, ac_p_fr h2 (fun f i j h => hf f i j (by omega)), ?_, ?_⟩
  · obtain ⟨c1, c2⟩ := h3
    refine ⟨fun b hb => by rw [hf 16 0 b (by omega)]; exact c1 b hb, ?_⟩
    rw [hf 9 0 4 (by omega)]
    rcases c2 with c2 | ⟨b, c3, c4, c5⟩
    · exact .inl c2
    · refine .inr ⟨b, c3, c4, fun T hT => ?_⟩
      obtain ⟨c6, c7⟩ := c5 T hT
      refine ⟨?_, fun p hp => by rw [hf 12 p 4 (by omega)]; exact c7 p hp⟩
      rw [← c6]
      funext p
      unfold ag_vt
      rw [hf 12 p 4 (by omega), ag_vs_ne (fun f j h1 h2 => hf f p j (by omega))]
  · obtain ⟨pr, p1, p2, p3⟩ := h4
    refine ⟨pr, by rw [hf 18 0 2 (by omega)]; exact p1, by rw [hf 24 0 26 (by omega)]; exact p2, fun hpr => ?_⟩
    obtain ⟨q1, d, q, t, q2⟩ := p3 hpr
    refine ⟨by rw [hf 18 0 8 (by omega), hf 24 0 33 (by omega)]; exact q1, d, q, t, ?_⟩
    obtain ⟨a1, a2, a3, a4, a5, a6, a7, a8, a9, a10, a11, a12⟩ := q2
    refine ⟨a1, a2, a3, by rw [hf 18 0 3 (by omega)]; exact a4, by rw [hf 24 0 27 (by omega)]; exact a5, by rw [hf 18 0 4 (by omega)]; exact a6, by rw [hf 24 0 35 (by omega)]; exact a7, by rw [hf 24 0 32 (by omega)]; exact a8, by rw [hf 18 0 7 (by omega)]; exact a9, by rw [hf 18 0 9 (by omega), hf 24 0 34 (by omega)]; exact a10, fun k hk => ?_, fun i hi => ?_⟩
    · rw [hf 22 k 1 (by omega), hf 58 0 k (by omega), hf 22 k 2 (by omega), hf 59 0 k (by omega), hf 22 k 3 (by omega), hf 61 0 k (by omega)]
      obtain ⟨b1, b2, b3, b4, b5⟩ := a11 k hk
      refine ⟨b1, b2, b3, b4, fun l hl => ?_⟩
      rw [hf 23 k l (by omega), hf 60 0 _ (by omega)]; exact b5 l hl
    · rw [hf 19 0 i (by omega), hf 66 0 i (by omega)]
      refine ⟨(a12 i hi).1, fun z hz => ?_⟩
      rw [hf 20 0 _ (by omega), hf 67 0 _ (by omega)]; exact (a12 i hi).2 z hz
theorem ap_wf_ch {P P' : ax_M} (hW : ap_wf P) (c1 : (∀ b, b < 12 → P' 40 0 b = P 40 0 b) ∨ (∀ b, b < 12 → P' 40 0 b = ay_i (ap_sz P' b) ∧ ap_sz P' b ≤ 40))
    (c2 : (∀ b, b < 12 → P' 33 0 b = P 33 0 b) ∨ (∀ b, b < 12 → P' 33 0 b = ay_i (ap_mn P' b) ∧ ap_mn P' b ≤ 3))
    (c3 : (∀ f j, 40 ≤ f → f ≤ 44 → P' f 0 j = P f 0 j) ∨ (∀ b p, b < 12 → p < ap_sz P' b → ap_wi P' b p))
    (c4 : (∀ f j, 31 ≤ f → f ≤ 32 → P' f 0 j = P f 0 j) ∨ (∀ f, f < 24 → ap_nb (P' 31 0 f) 6 ∧ P' 32 0 f = ay_b (ap_su P' f)))
    (c5 : (∀ f j, 34 ≤ f → f ≤ 36 → P' f 0 j = P f 0 j) ∨ (∀ q, q < 36 → ap_nb (P' 34 0 q) 6 ∧ P' 35 0 q = ay_b (ap_nu P' q) ∧ ap_nb (P' 36 0 q) 3))
    (c6 : (∀ f j, 37 ≤ f → f ≤ 39 → P' f 0 j = P f 0 j) ∨ (∀ f, f < 6 → ap_nb (P' 37 0 f) 6 ∧ P' 38 0 f = ay_b (ap_rs P' f) ∧ ap_nb (P' 39 0 f) 3)) : ap_wf P' := by
  obtain ⟨h1, h2, h3, h4, h5, h6⟩ := hW
  refine ⟨?_, ?_, ?_, ?_, ?_, ?_⟩
  · rcases c1 with c | c
    · intro b hb; unfold ap_sz; rw [c b hb]; exact h1 b hb
    · exact c
  · rcases c2 with c | c
    · intro b hb; unfold ap_mn; rw [c b hb]; exact h2 b hb
    · exact c
  · rcases c3 with c | c
    · intro b p hb hp
      have hp' : p < ap_sz P b := by unfold ap_sz at hp ⊢; rw [c 40 b (by omega) (by omega)] at hp; exact hp
      have := h3 b p hb hp'
      unfold ap_wi ap_o ap_x ap_y ap_z at this ⊢
      rw [c 41 _ (by omega) (by omega), c 42 _ (by omega) (by omega), c 43 _ (by omega) (by omega), c 44 _ (by omega) (by omega)]
      exact this
    · exact c
  · rcases c4 with c | c
    · intro f hf; unfold ap_su; rw [c 31 f (by omega) (by omega), c 32 f (by omega) (by omega)]; exact h4 f hf
    · exact c
  · rcases c5 with c | c
    · intro q hq; unfold ap_nu; rw [c 34 q (by omega) (by omega), c 35 q (by omega) (by omega), c 36 q (by omega) (by omega)]; exact h5 q hq
    · exact c
  · rcases c6 with c | c
    · intro f hf; unfold ap_rs; rw [c 37 f (by omega) (by omega), c 38 f (by omega) (by omega), c 39 f (by omega) (by omega)]; exact h6 f hf
    · exact c
/-- the class forgets what it knew, and the run -/
def ai_fo (M : ax_M) : ax_M := ax_u3 (ax_u3 (ax_r3 M 16 0 (fun j => if j < 12 then ay_i 0 else M 16 0 j)) 9 0 4 (ay_n 1)) 18 0 2 (ay_i 0)
theorem ai_fo_ne {M : ax_M} {f i j : Nat} (h : ¬ f = 16) (h2 : ¬ (f = 9 ∧ j = 4)) (h3 : ¬ (f = 18 ∧ j = 2)) : ai_fo M f i j = M f i j := by
  unfold ai_fo; simp only [ax_u3, ax_r3]; grind
theorem ai_fo_16 {M : ax_M} {b : Nat} (h : b < 12) : ai_fo M 16 0 b = ay_i 0 := by
  unfold ai_fo; simp [ax_u3, ax_r3, h]
theorem ai_fo_9 {M : ax_M} : ai_fo M 9 0 4 = ay_n 1 := by
  unfold ai_fo; simp [ax_u3]
theorem ai_fo_18 {M : ax_M} : ai_fo M 18 0 2 = ay_i 0 := by
  unfold ai_fo; simp [ax_u3]
section AmZ
variable {X : Nat × (Nat → Int32)} {e gb : Nat} {M : ax_M} {o : Int64} {h : ax_H}
theorem am_25 : ax_fn 25 0 (ax_entry 25 [.ref (ax_a 9 0)]) [] (ax_hp X e gb M o) = some (.inl none, ax_hp X e gb (ax_u3 (ax_r3 M 16 0 (fun j => if j < 12 then ay_i 0 else M 16 0 j)) 9 0 4 (ay_n 1)) o) := by
  simp (disch := first | omega | assumption | exact ay_z1b _ | exact ay_z10 | exact ay_z11) only [ae_25, af_25_0, af_25_1, af_25_4, af_25_5, af_25_8, af_25_9, af_25_10, af_25_13, am_137 ay_k16 (by decide) (show 0 < ax_ct 16 by decide), ay_cl_v, ay_cl_s, ay_i_add, ay_i_mul, ay_i_eq, ay_i_lt, ay_b0, ay_b1, ay_ni, ay_in, ay_nn, ay_nl, ay_ln, if_true, if_false, ↓reduceIte, Nat.reduceAdd, Nat.reduceMul, Nat.reduceEqDiff, Nat.reduceLT, Nat.not_lt_zero, Bool.true_eq_false, Bool.false_eq_true, reduceCtorEq, Nat.add_zero, Nat.zero_add]
theorem am_73 : ax_fn 73 0 (ax_entry 73 [.ref (ax_a 0 0)]) [] (ax_hp X e gb M o) = some (.inl none, ax_hp X e gb (ai_fo M) o) := by
  simp (disch := first | omega | assumption | exact ay_z1b _ | exact ay_z10 | exact ay_z11) only [ae_73, af_73_0, af_73_1, af_73_4, af_73_7, af_73_8, af_73_11, af_73_12, af_73_15, am_25, ay_cl_v, ay_cl_s, ay_i_add, ay_i_mul, ay_i_eq, ay_i_lt, ay_b0, ay_b1, ay_ni, ay_in, ay_nn, ay_nl, ay_ln, if_true, if_false, ↓reduceIte, Nat.reduceAdd, Nat.reduceMul, Nat.reduceEqDiff, Nat.reduceLT, Nat.not_lt_zero, Bool.true_eq_false, Bool.false_eq_true, reduceCtorEq, Nat.add_zero, Nat.zero_add]
  rfl
theorem am_72t : ax_fn 72 0 (ax_entry 72 [.int (ay_i 1)]) [] (ax_hp X e gb M o) = some (.inl none, ax_hp X e gb M o) := by
  simp (disch := first | omega | assumption | exact ay_z1b _ | exact ay_z10 | exact ay_z11) only [ae_72, af_72_0, af_72_1, af_72_4, af_72_14, ay_cl_v, ay_cl_s, ay_i_add, ay_i_mul, ay_i_eq, ay_i_lt, ay_b0, ay_b1, ay_ni, ay_in, ay_nn, ay_nl, ay_ln, if_true, if_false, ↓reduceIte, Nat.reduceAdd, Nat.reduceMul, Nat.reduceEqDiff, Nat.reduceLT, Nat.not_lt_zero, Bool.true_eq_false, Bool.false_eq_true, reduceCtorEq, Nat.add_zero, Nat.zero_add]
theorem am_72f (he : e < 800000) : ax_fn 72 0 (ax_entry 72 [.int (ay_i 0)]) [] (ax_hp X e gb M o) = some (.inr (389 + e, 0), ax_hp X (e + 1) gb M o) := by
  simp (disch := first | omega | assumption | exact ay_z1b _ | exact ay_z10 | exact ay_z11) only [ae_72, af_72_0, af_72_1, af_72_4, af_72_14, ay_cl_v, ay_cl_s, ay_i_add, ay_i_mul, ay_i_eq, ay_i_lt, ay_b0, ay_b1, ay_ni, ay_in, ay_nn, ay_nl, ay_ln, if_true, if_false, ↓reduceIte, Nat.reduceAdd, Nat.reduceMul, Nat.reduceEqDiff, Nat.reduceLT, Nat.not_lt_zero, Bool.true_eq_false, Bool.false_eq_true, reduceCtorEq, Nat.add_zero, Nat.zero_add]
theorem am_78t : ax_fn 78 0 (ax_entry 78 [.int (ay_i 1)]) [] (ax_hp X e gb M o) = some (.inl none, ax_hp X e gb M o) := by
  simp (disch := first | omega | assumption | exact ay_z1b _ | exact ay_z10 | exact ay_z11) only [ae_78, af_78_0, af_78_1, af_78_4, af_78_14, ay_cl_v, ay_cl_s, ay_i_add, ay_i_mul, ay_i_eq, ay_i_lt, ay_b0, ay_b1, ay_ni, ay_in, ay_nn, ay_nl, ay_ln, if_true, if_false, ↓reduceIte, Nat.reduceAdd, Nat.reduceMul, Nat.reduceEqDiff, Nat.reduceLT, Nat.not_lt_zero, Bool.true_eq_false, Bool.false_eq_true, reduceCtorEq, Nat.add_zero, Nat.zero_add]
theorem am_78f (he : e < 800000) : ax_fn 78 0 (ax_entry 78 [.int (ay_i 0)]) [] (ax_hp X e gb M o) = some (.inr (389 + e, 1), ax_hp X (e + 1) gb M o) := by
  simp (disch := first | omega | assumption | exact ay_z1b _ | exact ay_z10 | exact ay_z11) only [ae_78, af_78_0, af_78_1, af_78_4, af_78_14, ay_cl_v, ay_cl_s, ay_i_add, ay_i_mul, ay_i_eq, ay_i_lt, ay_b0, ay_b1, ay_ni, ay_in, ay_nn, ay_nl, ay_ln, if_true, if_false, ↓reduceIte, Nat.reduceAdd, Nat.reduceMul, Nat.reduceEqDiff, Nat.reduceLT, Nat.not_lt_zero, Bool.true_eq_false, Bool.false_eq_true, reduceCtorEq, Nat.add_zero, Nat.zero_add]
theorem am_75t : ax_fn 75 0 (ax_entry 75 [.int (ay_i 1)]) [] (ax_hp X e gb M o) = some (.inl none, ax_hp X e gb M o) := by
  simp (disch := first | omega | assumption | exact ay_z1b _ | exact ay_z10 | exact ay_z11) only [ae_75, af_75_0, af_75_1, af_75_4, af_75_14, ay_cl_v, ay_cl_s, ay_i_add, ay_i_mul, ay_i_eq, ay_i_lt, ay_b0, ay_b1, ay_ni, ay_in, ay_nn, ay_nl, ay_ln, if_true, if_false, ↓reduceIte, Nat.reduceAdd, Nat.reduceMul, Nat.reduceEqDiff, Nat.reduceLT, Nat.not_lt_zero, Bool.true_eq_false, Bool.false_eq_true, reduceCtorEq, Nat.add_zero, Nat.zero_add]
theorem am_75f (he : e < 800000) : ax_fn 75 0 (ax_entry 75 [.int (ay_i 0)]) [] (ax_hp X e gb M o) = some (.inr (389 + e, 2), ax_hp X (e + 1) gb M o) := by
  simp (disch := first | omega | assumption | exact ay_z1b _ | exact ay_z10 | exact ay_z11) only [ae_75, af_75_0, af_75_1, af_75_4, af_75_14, ay_cl_v, ay_cl_s, ay_i_add, ay_i_mul, ay_i_eq, ay_i_lt, ay_b0, ay_b1, ay_ni, ay_in, ay_nn, ay_nl, ay_ln, if_true, if_false, ↓reduceIte, Nat.reduceAdd, Nat.reduceMul, Nat.reduceEqDiff, Nat.reduceLT, Nat.not_lt_zero, Bool.true_eq_false, Bool.false_eq_true, reduceCtorEq, Nat.add_zero, Nat.zero_add]
theorem am_94 {a : Int32} : ax_fn 94 0 (ax_entry 94 [.int a]) [] h = some (.inl (some (.int (ay_b (ay_w a (ay_i 6))))), h) := by
  simp (disch := first | omega | assumption | exact ay_z1b _ | exact ay_z10 | exact ay_z11) only [ae_94, af_94_0, af_94_1, af_94_4, af_94_5, af_94_7, af_94_10, af_94_11, af_94_14, af_94_15, ay_cl_v, ay_cl_s, ay_i_add, ay_i_mul, ay_i_eq, ay_i_lt, ay_b0, ay_b1, ay_ni, ay_in, ay_nn, ay_nl, ay_ln, if_true, if_false, ↓reduceIte, Nat.reduceAdd, Nat.reduceMul, Nat.reduceEqDiff, Nat.reduceLT, Nat.not_lt_zero, Bool.true_eq_false, Bool.false_eq_true, reduceCtorEq, Nat.add_zero, Nat.zero_add]
  by_cases h1 : a < ay_i 0 <;> by_cases h2 : a < ay_i 6 <;> simp [h1, h2, ay_b, ay_w]
theorem am_98 {a : Int32} : ax_fn 98 0 (ax_entry 98 [.int a]) [] h = some (.inl (some (.int (ay_b (ay_w a (ay_i 12))))), h) := by
  simp (disch := first | omega | assumption | exact ay_z1b _ | exact ay_z10 | exact ay_z11) only [ae_98, af_98_0, af_98_1, af_98_4, af_98_5, af_98_7, af_98_10, af_98_11, af_98_14, af_98_15, ay_cl_v, ay_cl_s, ay_i_add, ay_i_mul, ay_i_eq, ay_i_lt, ay_b0, ay_b1, ay_ni, ay_in, ay_nn, ay_nl, ay_ln, if_true, if_false, ↓reduceIte, Nat.reduceAdd, Nat.reduceMul, Nat.reduceEqDiff, Nat.reduceLT, Nat.not_lt_zero, Bool.true_eq_false, Bool.false_eq_true, reduceCtorEq, Nat.add_zero, Nat.zero_add]
  by_cases h1 : a < ay_i 0 <;> by_cases h2 : a < ay_i 12 <;> simp [h1, h2, ay_b, ay_w]
theorem am_99 {a : Int32} : ax_fn 99 0 (ax_entry 99 [.int a]) [] h = some (.inl (some (.int (ay_b (ay_w a (ay_i 3))))), h) := by
  simp (disch := first | omega | assumption | exact ay_z1b _ | exact ay_z10 | exact ay_z11) only [ae_99, af_99_0, af_99_1, af_99_4, af_99_5, af_99_6, af_99_9, af_99_10, af_99_13, af_99_14, ay_cl_v, ay_cl_s, ay_i_add, ay_i_mul, ay_i_eq, ay_i_lt, ay_b0, ay_b1, ay_ni, ay_in, ay_nn, ay_nl, ay_ln, if_true, if_false, ↓reduceIte, Nat.reduceAdd, Nat.reduceMul, Nat.reduceEqDiff, Nat.reduceLT, Nat.not_lt_zero, Bool.true_eq_false, Bool.false_eq_true, reduceCtorEq, Nat.add_zero, Nat.zero_add]
  by_cases h1 : a < ay_i 0 <;> by_cases h2 : a < ay_i 3 <;> simp [h1, h2, ay_b, ay_w]
theorem am_103 {a : Int32} : ax_fn 103 0 (ax_entry 103 [.int a]) [] h = some (.inl (some (.int (ay_b (ay_w a (ay_i 8))))), h) := by
  simp (disch := first | omega | assumption | exact ay_z1b _ | exact ay_z10 | exact ay_z11) only [ae_103, af_103_0, af_103_1, af_103_4, af_103_5, af_103_7, af_103_10, af_103_11, af_103_14, af_103_15, ay_cl_v, ay_cl_s, ay_i_add, ay_i_mul, ay_i_eq, ay_i_lt, ay_b0, ay_b1, ay_ni, ay_in, ay_nn, ay_nl, ay_ln, if_true, if_false, ↓reduceIte, Nat.reduceAdd, Nat.reduceMul, Nat.reduceEqDiff, Nat.reduceLT, Nat.not_lt_zero, Bool.true_eq_false, Bool.false_eq_true, reduceCtorEq, Nat.add_zero, Nat.zero_add]
  by_cases h1 : a < ay_i 0 <;> by_cases h2 : a < ay_i 8 <;> simp [h1, h2, ay_b, ay_w]
theorem ay_lt_succ {a : Int32} {n : Nat} (hn : n < 100000) : (ay_i n < a) = ¬ a < ay_i (n + 1) := by
  apply propext
  rw [Int32.lt_iff_toInt_lt, Int32.lt_iff_toInt_lt, ay_i_toInt (by omega), ay_i_toInt (by omega)]
  omega
theorem am_95 {a : Int32} {n : Nat} (hn : n < 100000) : ax_fn 95 0 (ax_entry 95 [.int a, .int (ay_i 0), .int (ay_i n)]) [] h = some (.inl (some (.int (ay_b (ay_w a (ay_i (n + 1)))))), h) := by
  simp (disch := first | omega | assumption | exact ay_z1b _ | exact ay_z10 | exact ay_z11) only [ae_95, af_95_0, af_95_1, af_95_2, af_95_5, af_95_6, af_95_7, af_95_10, af_95_11, af_95_14, af_95_15, ay_lt_succ hn, ay_cl_v, ay_cl_s, ay_i_add, ay_i_mul, ay_i_eq, ay_i_lt, ay_b0, ay_b1, ay_ni, ay_in, ay_nn, ay_nl, ay_ln, if_true, if_false, ↓reduceIte, Nat.reduceAdd, Nat.reduceMul, Nat.reduceEqDiff, Nat.reduceLT, Nat.not_lt_zero, Bool.true_eq_false, Bool.false_eq_true, reduceCtorEq, Nat.add_zero, Nat.zero_add]
  by_cases h1 : a < ay_i 0 <;> by_cases h2 : a < ay_i (n + 1) <;> simp [h1, h2, ay_b, ay_w]
def ai_t (a b c : Bool) : Nat := if a = false then 1 else if b = false then 2 else if c = false then 3 else 0
theorem am_96 {a b c : Bool} : ax_fn 96 0 (ax_entry 96 [.ref (ax_a 24 0), .int (ay_b a), .int (ay_b b), .int (ay_b c)]) [] (ax_hp X e gb M o) = some (.inl (some (.int (ay_b (a && b && c)))), ax_hp X e gb (ax_u3 M 24 0 0 (ay_i (ai_t a b c))) o) := by
  cases a <;> cases b <;> cases c <;> simp (disch := first | omega | assumption | exact ay_z1b _ | exact ay_z10 | exact ay_z11) only [ae_96, af_96_0, af_96_1, af_96_2, af_96_5, af_96_6, af_96_9, af_96_10, af_96_13, af_96_14, af_96_17, af_96_18, af_96_21, af_96_22, af_96_25, af_96_26, af_96_29, af_96_30, af_96_33, af_96_36, af_96_37, af_96_40, af_96_41, ay_u3e, false_and, and_false, true_and, and_true, and_self, ai_t, Bool.and_true, Bool.and_false, Bool.and_self, ay_bt, ay_bf, ay_cl_v, ay_cl_s, ay_i_add, ay_i_mul, ay_i_eq, ay_i_lt, ay_b0, ay_b1, ay_ni, ay_in, ay_nn, ay_nl, ay_ln, if_true, if_false, ↓reduceIte, Nat.reduceAdd, Nat.reduceMul, Nat.reduceEqDiff, Nat.reduceLT, Nat.not_lt_zero, Bool.true_eq_false, Bool.false_eq_true, reduceCtorEq, Nat.add_zero, Nat.zero_add]
theorem am_92 : ax_fn 92 0 (ax_entry 92 [.ref (ax_a 24 0)]) [] (ax_hp X e gb M o) = some (.inl (some (.int (M 24 0 0))), ax_hp X e gb M o) := by
  simp (disch := first | omega | assumption | exact ay_z1b _ | exact ay_z10 | exact ay_z11) only [ae_92, af_92_0, af_92_1, af_92_4, ay_cl_v, ay_cl_s, ay_i_add, ay_i_mul, ay_i_eq, ay_i_lt, ay_b0, ay_b1, ay_ni, ay_in, ay_nn, ay_nl, ay_ln, if_true, if_false, ↓reduceIte, Nat.reduceAdd, Nat.reduceMul, Nat.reduceEqDiff, Nat.reduceLT, Nat.not_lt_zero, Bool.true_eq_false, Bool.false_eq_true, reduceCtorEq, Nat.add_zero, Nat.zero_add]
end AmZ
