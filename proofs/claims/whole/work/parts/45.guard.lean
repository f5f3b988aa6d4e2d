/-! the guard's methods on what it holds after an instruction (sight 40) -/
theorem ag_vs_lt {M : ax_M} {s l : Nat} (hl : l < 8) : (ag_vs M s).1 l = ag_nl (M 13 s l) (M 14 s l) (M 15 s l) := if_pos hl
theorem ag_nb2 {v : Int32} {n : Nat} (h : ap_nb v n) (hn : n ≤ 1000) : ¬ v = ay_n 2 ∧ ¬ v = ay_n 1 := by
  obtain ⟨q, hq, rfl⟩ := h
  exact ⟨by rw [ay_in (by omega) (by omega) (by omega)]; exact id, by rw [ay_in (by omega) (by omega) (by omega)]; exact id⟩
theorem ag_n12 : ¬ (ay_n 2 = ay_n 1) := by rw [ay_nn (by omega) (by omega)]; omega
theorem ag_fit_raw {c n t dc ds : Int32} {nb : Bool} (hd : ap_nb dc 6) : ag_fit (ag_nl c n t) dc nb ds ↔ (((c = dc ∨ c = ay_n 1) ∧ (n = ay_i 0 ∨ nb = true)) ∧ (t = ds ∨ ds = ay_i 2 ∨ n = ay_i 2)) := by
  have h1 := ag_nb2 hd (by omega)
  have h2 := ag_n12
  unfold ag_fit ag_nl
  by_cases hc : c = ay_n 2
  · subst hc
    simp only [if_true, ag_z]
    constructor
    · rintro ⟨⟨h | h, -⟩, -⟩
      · exact absurd h.symm h1.1
      · exact absurd h h2
    · rintro ⟨⟨h | h, -⟩, -⟩
      · exact absurd h.symm h1.1
      · exact absurd h h2
  · simp only [hc, if_false]
theorem ag_fit_c {v : ag_L} {dc ds : Int32} {nb : Bool} (hd : ap_nb dc 6) (h : ag_fit v dc nb ds) : ¬ v.1 = ay_n 2 := by
  have h1 := ag_nb2 hd (by omega)
  have h2 := ag_n12
  rcases h.1.1 with h | h
  · rw [h]; exact h1.1
  · rw [h]; exact fun h => h2 h.symm
section AmG
variable {X : Nat × (Nat → Int32)} {e gb : Nat} {M P : ax_M} {o : Int64} {h : ax_H}
theorem am_31 {x b : Nat} (hx : x < 8) (hb : b < 12) (hw : M 9 0 4 = ay_i b) : ax_fn 31 0 (ax_entry 31 [.ref (ax_a 9 0), .int (ay_i x)]) [] (ax_hp X e gb M o) = some (.inl (some (.int (ay_b (decide (b < 6 ∧ x = 7))))), ax_hp X e gb M o) := by
  simp (disch := first | omega | assumption | exact ay_z1b _ | exact ay_z10 | exact ay_z11) only [ae_31, af_31_0, af_31_1, af_31_3, af_31_6, af_31_7, af_31_10, af_31_13, af_31_16, af_31_17, af_31_20, af_31_21, hw, am_82, ay_cl_v, ay_cl_s, ay_i_add, ay_i_mul, ay_i_eq, ay_i_lt, ay_b0, ay_b1, ay_ni, ay_in, ay_nn, ay_nl, ay_ln, if_true, if_false, ↓reduceIte, Nat.reduceAdd, Nat.reduceMul, Nat.reduceEqDiff, Nat.reduceLT, Nat.not_lt_zero, Bool.true_eq_false, Bool.false_eq_true, reduceCtorEq, Nat.add_zero, Nat.zero_add]
  by_cases h1 : x = 7 <;> by_cases h2 : b < 6 <;> simp [h1, h2, ay_b]
theorem am_53 {c z : Nat} (hc : c < 6) (hz : z < 4) : ax_fn 53 0 (ax_entry 53 [.ref (ax_a 1 0), .int (ay_i c), .int (ay_i z)]) [] (ax_hp X e gb M o) = some (.inl (some (.ref (ax_a 10 (4 * c + z)))), ax_hp X e gb M o) := by
  simp (disch := first | omega | assumption | exact ay_z1b _ | exact ay_z10 | exact ay_z11) only [ae_53, af_53_0, af_53_1, af_53_4, af_53_5, af_53_6, af_53_7, af_53_8, af_53_9, af_53_10, ay_cl_v, ay_cl_s, ay_i_add, ay_i_mul, ay_i_eq, ay_i_lt, ay_b0, ay_b1, ay_ni, ay_in, ay_nn, ay_nl, ay_ln, if_true, if_false, ↓reduceIte, Nat.reduceAdd, Nat.reduceMul, Nat.reduceEqDiff, Nat.reduceLT, Nat.not_lt_zero, Bool.true_eq_false, Bool.false_eq_true, reduceCtorEq, Nat.add_zero, Nat.zero_add]
  rw [Nat.mul_comm]
theorem am_54 {f : Nat} (hf : f < 6) : ax_fn 54 0 (ax_entry 54 [.ref (ax_a 1 0), .int (ay_i f)]) [] (ax_hp X e gb M o) = some (.inl (some (.ref (ax_a 3 (6 + f)))), ax_hp X e gb M o) := by
  simp (disch := first | omega | assumption | exact ay_z1b _ | exact ay_z10 | exact ay_z11) only [ae_54, af_54_0, af_54_1, af_54_4, af_54_6, af_54_7, af_54_8, af_54_9, ay_cl_v, ay_cl_s, ay_i_add, ay_i_mul, ay_i_eq, ay_i_lt, ay_b0, ay_b1, ay_ni, ay_in, ay_nn, ay_nl, ay_ln, if_true, if_false, ↓reduceIte, Nat.reduceAdd, Nat.reduceMul, Nat.reduceEqDiff, Nat.reduceLT, Nat.not_lt_zero, Bool.true_eq_false, Bool.false_eq_true, reduceCtorEq, Nat.add_zero, Nat.zero_add]
theorem am_32 {x y : Nat} (hx : x < 8) (hy : y < 8) : ax_fn 32 0 (ax_entry 32 [.ref (ax_a 9 0), .int (ay_i x), .int (ay_i y)]) [] (ax_hp X e gb M o) = some (.inl (some (.int (ay_b (decide (¬ M 13 40 y = ay_n 2))))), ax_hp X e gb (ax_u3 (ax_u3 (ax_u3 M 13 40 x (M 13 40 y)) 14 40 x (M 14 40 y)) 15 40 x (M 15 40 y)) o) := by
  simp (disch := first | omega | assumption | exact ay_z1b _ | exact ay_z10 | exact ay_z11) only [ae_32, af_32_0, af_32_1, af_32_4, af_32_5, af_32_6, af_32_9, af_32_12, af_32_13, af_32_14, af_32_15, af_32_18, af_32_21, af_32_22, af_32_23, af_32_24, af_32_27, af_32_30, af_32_31, af_32_32, af_32_35, af_32_36, af_32_39, af_32_40, af_32_43, am_58, am_63, ay_cl_v, ay_cl_s, ay_i_add, ay_i_mul, ay_i_eq, ay_i_lt, ay_b0, ay_b1, ay_ni, ay_in, ay_nn, ay_nl, ay_ln, if_true, if_false, ↓reduceIte, Nat.reduceAdd, Nat.reduceMul, Nat.reduceEqDiff, Nat.reduceLT, Nat.not_lt_zero, Bool.true_eq_false, Bool.false_eq_true, reduceCtorEq, Nat.add_zero, Nat.zero_add]
  have : ax_u3 (ax_u3 (ax_u3 M 13 40 x (M 13 40 y)) 14 40 x (M 14 40 y)) 15 40 x (M 15 40 y) 13 40 y = M 13 40 y := by
    simp only [ax_u3]; grind
  simp only [this]
theorem al_34 {c z : Nat} (hW : ap_wf P) (hp : ac_p M P) (hc : c < 12) (hz : z < 8) {d0 : Decidable (ag_af P c z (ag_vs M 40).1)} : ∀ d k, k + d = ap_mn P c → (∀ j, j < k → z + j < 8 ∧ ag_fit ((ag_vs M 40).1 (z + j)) (P 34 0 (3 * c + j)) (ap_nu P (3 * c + j)) (P 36 0 (3 * c + j))) → ax_fn 34 2 [some (.ref (ax_a 9 0)), some (.ref (ax_a 3 c)), some (.int (ay_i z)), some (.int (ay_i k))] [] (ax_hp X e gb M o) = some (.inl (some (.int (ay_b (decide (ag_af P c z (ag_vs M 40).1))))), ax_hp X e gb M o) := by
  have hm : M 3 c 7 = ay_i (ap_mn P c) := by rw [(hp.1 c hc).2]; exact (hW.2.1 c hc).1
  have hm3 := (hW.2.1 c hc).2
  intro d
  induction d with
  | zero =>
    intro k hk hall
    obtain rfl : k = ap_mn P c := by omega
    rw [af_34_2]
    simp (disch := first | omega | assumption | exact ay_z1b _ | exact ay_z10 | exact ay_z11) only [ae_34, af_34_0, af_34_1, af_34_3, af_34_4, af_34_7, af_34_10, af_34_11, af_34_12, af_34_13, af_34_15, af_34_18, af_34_19, af_34_22, af_34_23, af_34_24, af_34_25, af_34_26, af_34_29, af_34_30, af_34_31, af_34_34, af_34_37, af_34_38, af_34_39, af_34_42, af_34_45, af_34_46, hm, Nat.lt_irrefl, ay_cl_v, ay_cl_s, ay_i_add, ay_i_mul, ay_i_eq, ay_i_lt, ay_b0, ay_b1, ay_ni, ay_in, ay_nn, ay_nl, ay_ln, if_true, if_false, ↓reduceIte, Nat.reduceAdd, Nat.reduceMul, Nat.reduceEqDiff, Nat.reduceLT, Nat.not_lt_zero, Bool.true_eq_false, Bool.false_eq_true, reduceCtorEq, Nat.add_zero, Nat.zero_add]
    rw [ay_bd (show ag_af P c z (ag_vs M 40).1 from hall)]
  | succ d ih =>
    intro k hk hall
    have hlt : k < ap_mn P c := by omega
    obtain ⟨q1, q2, q3⟩ := hp.2.2.2.1 c k hc hlt
    have hq := (hW.2.2.2.2.1 (3 * c + k) (by omega)).1
    rw [af_34_2]
    by_cases h8 : z + k < 8
    · simp (disch := first | omega | assumption | exact ay_z1b _ | exact ay_z10 | exact ay_z11) only [ae_34, af_34_0, af_34_1, af_34_3, af_34_4, af_34_7, af_34_10, af_34_11, af_34_12, af_34_13, af_34_15, af_34_18, af_34_19, af_34_22, af_34_23, af_34_24, af_34_25, af_34_26, af_34_29, af_34_30, af_34_31, af_34_34, af_34_37, af_34_38, af_34_39, af_34_42, af_34_45, af_34_46, hm, hlt, h8, am_64 (s := 40) (by omega) h8 (show 24 + 3 * c + k < 72 by omega) q2, q1, q3, ay_cl_v, ay_cl_s, ay_i_add, ay_i_mul, ay_i_eq, ay_i_lt, ay_b0, ay_b1, ay_ni, ay_in, ay_nn, ay_nl, ay_ln, if_true, if_false, ↓reduceIte, Nat.reduceAdd, Nat.reduceMul, Nat.reduceEqDiff, Nat.reduceLT, Nat.not_lt_zero, Bool.true_eq_false, Bool.false_eq_true, reduceCtorEq, Nat.add_zero, Nat.zero_add]
      have hf := ag_fit_raw (c := M 13 40 (z + k)) (n := M 14 40 (z + k)) (t := M 15 40 (z + k)) (nb := ap_nu P (3 * c + k)) (ds := P 36 0 (3 * c + k)) hq
      rw [← ag_vs_lt h8] at hf
      by_cases hfit : ag_fit ((ag_vs M 40).1 (z + k)) (P 34 0 (3 * c + k)) (ap_nu P (3 * c + k)) (P 36 0 (3 * c + k))
      · have := hf.mp hfit
        simp only [this, decide_true, Bool.true_eq_false, if_false, and_self]
        exact ih (k + 1) (by omega) (fun j hj => if hjk : j = k then hjk ▸ ⟨h8, hfit⟩ else hall j (by omega))
      · have hn := fun hh => hfit (hf.mpr hh)
        rw [decide_eq_false hn, ay_bn (show ¬ ag_af P c z (ag_vs M 40).1 from fun hh => hfit (hh k hlt).2)]
        simp only [if_true]
    · simp (disch := first | omega | assumption | exact ay_z1b _ | exact ay_z10 | exact ay_z11) only [ae_34, af_34_0, af_34_1, af_34_3, af_34_4, af_34_7, af_34_10, af_34_11, af_34_12, af_34_13, af_34_15, af_34_18, af_34_19, af_34_22, af_34_23, af_34_24, af_34_25, af_34_26, af_34_29, af_34_30, af_34_31, af_34_34, af_34_37, af_34_38, af_34_39, af_34_42, af_34_45, af_34_46, hm, hlt, h8, ay_cl_v, ay_cl_s, ay_i_add, ay_i_mul, ay_i_eq, ay_i_lt, ay_b0, ay_b1, ay_ni, ay_in, ay_nn, ay_nl, ay_ln, if_true, if_false, ↓reduceIte, Nat.reduceAdd, Nat.reduceMul, Nat.reduceEqDiff, Nat.reduceLT, Nat.not_lt_zero, Bool.true_eq_false, Bool.false_eq_true, reduceCtorEq, Nat.add_zero, Nat.zero_add]
      rw [ay_bn (show ¬ ag_af P c z (ag_vs M 40).1 from fun hh => h8 (hh k hlt).1)]
theorem am_34 {c z : Nat} (hW : ap_wf P) (hp : ac_p M P) (hc : c < 12) (hz : z < 8) {d0 : Decidable (ag_af P c z (ag_vs M 40).1)} : ax_fn 34 0 (ax_entry 34 [.ref (ax_a 9 0), .ref (ax_a 3 c), .int (ay_i z)]) [] (ax_hp X e gb M o) = some (.inl (some (.int (ay_b (decide (ag_af P c z (ag_vs M 40).1))))), ax_hp X e gb M o) := by
  simp (disch := first | omega | assumption | exact ay_z1b _ | exact ay_z10 | exact ay_z11) only [ae_34, af_34_0, af_34_1, af_34_3, af_34_4, af_34_7, af_34_10, af_34_11, af_34_12, af_34_13, af_34_15, af_34_18, af_34_19, af_34_22, af_34_23, af_34_24, af_34_25, af_34_26, af_34_29, af_34_30, af_34_31, af_34_34, af_34_37, af_34_38, af_34_39, af_34_42, af_34_45, af_34_46, ay_cl_v, ay_cl_s, ay_i_add, ay_i_mul, ay_i_eq, ay_i_lt, ay_b0, ay_b1, ay_ni, ay_in, ay_nn, ay_nl, ay_ln, if_true, if_false, ↓reduceIte, Nat.reduceAdd, Nat.reduceMul, Nat.reduceEqDiff, Nat.reduceLT, Nat.not_lt_zero, Bool.true_eq_false, Bool.false_eq_true, reduceCtorEq, Nat.add_zero, Nat.zero_add]
  exact al_34 hW hp hc hz (ap_mn P c) 0 (by omega) (fun j hj => absurd hj (by omega))
theorem ag_nl_id {c n t : Int32} (h : ¬ (ag_nl c n t).1 = ay_n 2) : ag_nl c n t = (c, n, t) := by
  unfold ag_nl at h ⊢
  split
  · rename_i hc; rw [if_pos hc] at h; exact absurd rfl h
  · rfl
theorem al_35 {n z : Nat} (hn : n ≤ 3) (hz : z < 8) (ho : ∀ k, k < n → z + k < 8 ∧ ¬ ((ag_vs M 40).1 (z + k)).1 = ay_n 2) : ∀ d k, k + d = n → (∀ j, j < k → ¬ ag_fe ((ag_vs M 40).1 (z + j))) → ∀ st : Int32, ((∀ j, j < k → ag_dn ((ag_vs M 40).1 (z + j))) → st = ay_i 0) → ((¬ ∀ j, j < k → ag_dn ((ag_vs M 40).1 (z + j))) → st = ay_i 2) → ax_fn 35 5 [some (.ref (ax_a 9 0)), some (.int (ay_i n)), some (.int (ay_i z)), some (.int st), some (.int (ay_i (z + k)))] [] (ax_hp X e gb M o) = some (.inl (some (.int (ag_so (ag_vs M 40).1 z n))), ax_hp X e gb M o) := by
  intro d
  induction d with
  | zero =>
    intro k hk hfe st h0 h2
    obtain rfl : k = n := by omega
    rw [af_35_5]
    simp (disch := first | omega | assumption | exact ay_z1b _ | exact ay_z10 | exact ay_z11) only [ae_35, af_35_0, af_35_1, af_35_2, af_35_3, af_35_7, af_35_8, af_35_9, af_35_10, af_35_13, af_35_15, af_35_17, af_35_20, af_35_21, af_35_24, af_35_27, af_35_29, af_35_30, af_35_31, af_35_34, af_35_35, af_35_38, af_35_41, af_35_43, af_35_44, af_35_47, af_35_48, af_35_49, af_35_50, af_35_53, af_35_55, af_35_58, af_35_61, af_35_62, af_35_63, af_35_66, af_35_69, af_35_70, Nat.lt_irrefl, ay_cl_v, ay_cl_s, ay_i_add, ay_i_mul, ay_i_eq, ay_i_lt, ay_b0, ay_b1, ay_ni, ay_in, ay_nn, ay_nl, ay_ln, if_true, if_false, ↓reduceIte, Nat.reduceAdd, Nat.reduceMul, Nat.reduceEqDiff, Nat.reduceLT, Nat.not_lt_zero, Bool.true_eq_false, Bool.false_eq_true, reduceCtorEq, Nat.add_zero, Nat.zero_add]
    congr 4
    unfold ag_so
    by_cases hd : ∀ j, j < k → ag_dn ((ag_vs M 40).1 (z + j))
    · rw [if_pos hd, h0 hd]
    · rw [if_neg hd, if_neg (by rintro ⟨j, hj, hf⟩; exact hfe j hj hf), h2 hd]
  | succ d ih =>
    intro k hk hfe st h0 h2
    have hlt : z + k < z + n := by omega
    obtain ⟨h8, hc⟩ := ho k (by omega)
    have hv := ag_vs_lt (M := M) (s := 40) h8
    have hv2 : (ag_vs M 40).1 (z + k) = (M 13 40 (z + k), M 14 40 (z + k), M 15 40 (z + k)) := by
      rw [hv]; rw [hv] at hc; exact ag_nl_id hc
    have e1 : M 15 40 (z + k) = ((ag_vs M 40).1 (z + k)).2.2 := by rw [hv2]
    have e2 : M 14 40 (z + k) = ((ag_vs M 40).1 (z + k)).2.1 := by rw [hv2]
    have step : ∀ st' : Int32, ((∀ j, j < k + 1 → ag_dn ((ag_vs M 40).1 (z + j))) → st' = ay_i 0) → ((¬ ∀ j, j < k + 1 → ag_dn ((ag_vs M 40).1 (z + j))) → st' = ay_i 2) → ¬ ag_fe ((ag_vs M 40).1 (z + k)) → ax_fn 35 5 [some (.ref (ax_a 9 0)), some (.int (ay_i n)), some (.int (ay_i z)), some (.int st'), some (.int (ay_i (z + k + 1)))] [] (ax_hp X e gb M o) = some (.inl (some (.int (ag_so (ag_vs M 40).1 z n))), ax_hp X e gb M o) := by
      intro st' a1 a2 a3
      exact ih (k + 1) (by omega) (fun j hj => if hjk : j = k then hjk ▸ a3 else hfe j (by omega)) st' a1 a2
    rw [af_35_5]
    by_cases hfe1 : ag_fe ((ag_vs M 40).1 (z + k))
    · simp (disch := first | omega | assumption | exact ay_z1b _ | exact ay_z10 | exact ay_z11) only [ae_35, af_35_0, af_35_1, af_35_2, af_35_3, af_35_7, af_35_8, af_35_9, af_35_10, af_35_13, af_35_15, af_35_17, af_35_20, af_35_21, af_35_24, af_35_27, af_35_29, af_35_30, af_35_31, af_35_34, af_35_35, af_35_38, af_35_41, af_35_43, af_35_44, af_35_47, af_35_48, af_35_49, af_35_50, af_35_53, af_35_55, af_35_58, af_35_61, af_35_62, af_35_63, af_35_66, af_35_69, af_35_70, hlt, h8, e1, e2, hfe1.1, hfe1.2, ay_cl_v, ay_cl_s, ay_i_add, ay_i_mul, ay_i_eq, ay_i_lt, ay_b0, ay_b1, ay_ni, ay_in, ay_nn, ay_nl, ay_ln, if_true, if_false, ↓reduceIte, Nat.reduceAdd, Nat.reduceMul, Nat.reduceEqDiff, Nat.reduceLT, Nat.not_lt_zero, Bool.true_eq_false, Bool.false_eq_true, reduceCtorEq, Nat.add_zero, Nat.zero_add]
      congr 4
      unfold ag_so
      rw [if_neg, if_pos ⟨k, by omega, hfe1⟩]
      intro hd
      have := hd k (by omega)
      unfold ag_dn at this
      rw [hfe1.1, hfe1.2, ay_i_eq (by omega) (by omega), ay_i_eq (by omega) (by omega)] at this
      omega
    · by_cases hdn : ag_dn ((ag_vs M 40).1 (z + k))
      · have hdd : decide (((ag_vs M 40).1 (z + k)).2.2 = ay_i 0 ∨ ((ag_vs M 40).1 (z + k)).2.1 = ay_i 2) = true := decide_eq_true hdn
        have hn : ¬ (((ag_vs M 40).1 (z + k)).2.2 = ay_i 1 ∧ ((ag_vs M 40).1 (z + k)).2.1 = ay_i 0) := hfe1
        simp (disch := first | omega | assumption | exact ay_z1b _ | exact ay_z10 | exact ay_z11) only [ae_35, af_35_0, af_35_1, af_35_2, af_35_3, af_35_7, af_35_8, af_35_9, af_35_10, af_35_13, af_35_15, af_35_17, af_35_20, af_35_21, af_35_24, af_35_27, af_35_29, af_35_30, af_35_31, af_35_34, af_35_35, af_35_38, af_35_41, af_35_43, af_35_44, af_35_47, af_35_48, af_35_49, af_35_50, af_35_53, af_35_55, af_35_58, af_35_61, af_35_62, af_35_63, af_35_66, af_35_69, af_35_70, hlt, h8, e1, e2, am_66 (show 40 < 41 by omega) h8, hdd, ay_cl_v, ay_cl_s, ay_i_add, ay_i_mul, ay_i_eq, ay_i_lt, ay_b0, ay_b1, ay_ni, ay_in, ay_nn, ay_nl, ay_ln, if_true, if_false, ↓reduceIte, Nat.reduceAdd, Nat.reduceMul, Nat.reduceEqDiff, Nat.reduceLT, Nat.not_lt_zero, Bool.true_eq_false, Bool.false_eq_true, reduceCtorEq, Nat.add_zero, Nat.zero_add]
        have fin := step st (fun hh => h0 (fun j hj => hh j (by omega))) (fun hh => h2 (fun h3 => hh (fun j hj => if hjk : j = k then hjk ▸ hdn else h3 j (by omega)))) hfe1
        rw [fin]
        grind
      · have hdd : decide (((ag_vs M 40).1 (z + k)).2.2 = ay_i 0 ∨ ((ag_vs M 40).1 (z + k)).2.1 = ay_i 2) = false := decide_eq_false hdn
        have hn : ¬ (((ag_vs M 40).1 (z + k)).2.2 = ay_i 1 ∧ ((ag_vs M 40).1 (z + k)).2.1 = ay_i 0) := hfe1
        simp (disch := first | omega | assumption | exact ay_z1b _ | exact ay_z10 | exact ay_z11) only [ae_35, af_35_0, af_35_1, af_35_2, af_35_3, af_35_7, af_35_8, af_35_9, af_35_10, af_35_13, af_35_15, af_35_17, af_35_20, af_35_21, af_35_24, af_35_27, af_35_29, af_35_30, af_35_31, af_35_34, af_35_35, af_35_38, af_35_41, af_35_43, af_35_44, af_35_47, af_35_48, af_35_49, af_35_50, af_35_53, af_35_55, af_35_58, af_35_61, af_35_62, af_35_63, af_35_66, af_35_69, af_35_70, hlt, h8, e1, e2, am_66 (show 40 < 41 by omega) h8, hdd, ay_cl_v, ay_cl_s, ay_i_add, ay_i_mul, ay_i_eq, ay_i_lt, ay_b0, ay_b1, ay_ni, ay_in, ay_nn, ay_nl, ay_ln, if_true, if_false, ↓reduceIte, Nat.reduceAdd, Nat.reduceMul, Nat.reduceEqDiff, Nat.reduceLT, Nat.not_lt_zero, Bool.true_eq_false, Bool.false_eq_true, reduceCtorEq, Nat.add_zero, Nat.zero_add]
        have fin := step (ay_i 2) (fun hh => absurd (hh k (by omega)) hdn) (fun _ => rfl) hfe1
        rw [fin]
        grind
theorem am_35 {n z : Nat} (hn : n ≤ 3) (hz : z < 8) (ho : ∀ k, k < n → z + k < 8 ∧ ¬ ((ag_vs M 40).1 (z + k)).1 = ay_n 2) : ax_fn 35 0 (ax_entry 35 [.ref (ax_a 9 0), .int (ay_i n), .int (ay_i z)]) [] (ax_hp X e gb M o) = some (.inl (some (.int (ag_so (ag_vs M 40).1 z n))), ax_hp X e gb M o) := by
  simp (disch := first | omega | assumption | exact ay_z1b _ | exact ay_z10 | exact ay_z11) only [ae_35, af_35_0, af_35_1, af_35_2, af_35_3, af_35_7, af_35_8, af_35_9, af_35_10, af_35_13, af_35_15, af_35_17, af_35_20, af_35_21, af_35_24, af_35_27, af_35_29, af_35_30, af_35_31, af_35_34, af_35_35, af_35_38, af_35_41, af_35_43, af_35_44, af_35_47, af_35_48, af_35_49, af_35_50, af_35_53, af_35_55, af_35_58, af_35_61, af_35_62, af_35_63, af_35_66, af_35_69, af_35_70, ay_cl_v, ay_cl_s, ay_i_add, ay_i_mul, ay_i_eq, ay_i_lt, ay_b0, ay_b1, ay_ni, ay_in, ay_nn, ay_nl, ay_ln, if_true, if_false, ↓reduceIte, Nat.reduceAdd, Nat.reduceMul, Nat.reduceEqDiff, Nat.reduceLT, Nat.not_lt_zero, Bool.true_eq_false, Bool.false_eq_true, reduceCtorEq, Nat.add_zero, Nat.zero_add]
  exact al_35 hn hz ho n 0 (by omega) (fun j hj => absurd hj (by omega)) _ (fun _ => rfl) (fun h => absurd (fun j hj => absurd hj (by omega)) h)
theorem am_33a {x c z : Nat} (hW : ap_wf P) (hp : ac_p M P) (hx : x < 8) (hc : c < 6) (hz : z < 8) (ha : ¬ ag_af P c z (ag_vs M 40).1) : ax_fn 33 0 (ax_entry 33 [.ref (ax_a 9 0), .int (ay_i x), .int (ay_i c), .int (ay_i z)]) [] (ax_hp X e gb M o) = some (.inl (some (.int (ay_i 0))), ax_hp X e gb M o) := by
  have hd := @decide_eq_false _ (Classical.propDecidable _) ha
  simp (disch := first | omega | assumption | exact ay_z1b _ | exact ay_z10 | exact ay_z11) only [ae_33, af_33_0, af_33_1, af_33_4, af_33_7, af_33_8, af_33_9, af_33_11, af_33_12, af_33_14, af_33_15, af_33_18, af_33_21, af_33_22, af_33_23, af_33_24, af_33_27, af_33_28, af_33_29, af_33_30, af_33_31, af_33_33, af_33_36, af_33_37, af_33_40, af_33_43, af_33_44, am_34 hW hp (show c < 12 by omega) hz (d0 := Classical.propDecidable _), hd, ay_cl_v, ay_cl_s, ay_i_add, ay_i_mul, ay_i_eq, ay_i_lt, ay_b0, ay_b1, ay_ni, ay_in, ay_nn, ay_nl, ay_ln, if_true, if_false, ↓reduceIte, Nat.reduceAdd, Nat.reduceMul, Nat.reduceEqDiff, Nat.reduceLT, Nat.not_lt_zero, Bool.true_eq_false, Bool.false_eq_true, reduceCtorEq, Nat.add_zero, Nat.zero_add]
theorem am_33b {x c z : Nat} (hW : ap_wf P) (hp : ac_p M P) (hx : x < 8) (hc : c < 6) (hz : z < 8) (ha : ag_af P c z (ag_vs M 40).1) : ax_fn 33 0 (ax_entry 33 [.ref (ax_a 9 0), .int (ay_i x), .int (ay_i c), .int (ay_i z)]) [] (ax_hp X e gb M o) = some (.inl (some (.int (ay_i 1))), ax_hp X e gb (ax_u3 (ax_u3 (ax_u3 M 13 40 x (ay_i c)) 14 40 x (ay_i 0)) 15 40 x (ag_so (ag_vs M 40).1 z (ap_mn P c))) o) := by
  have hd := @decide_eq_true _ (Classical.propDecidable _) ha
  have hm : M 3 c 7 = ay_i (ap_mn P c) := by rw [(hp.1 c (by omega)).2]; exact (hW.2.1 c (by omega)).1
  have hm3 := (hW.2.1 c (by omega)).2
  have ho : ∀ k, k < ap_mn P c → z + k < 8 ∧ ¬ ((ag_vs M 40).1 (z + k)).1 = ay_n 2 := fun k hk => ⟨(ha k hk).1, ag_fit_c (hW.2.2.2.2.1 (3 * c + k) (by omega)).1 (ha k hk).2⟩
  simp (disch := first | omega | assumption | exact ay_z1b _ | exact ay_z10 | exact ay_z11) only [ae_33, af_33_0, af_33_1, af_33_4, af_33_7, af_33_8, af_33_9, af_33_11, af_33_12, af_33_14, af_33_15, af_33_18, af_33_21, af_33_22, af_33_23, af_33_24, af_33_27, af_33_28, af_33_29, af_33_30, af_33_31, af_33_33, af_33_36, af_33_37, af_33_40, af_33_43, af_33_44, am_34 hW hp (show c < 12 by omega) hz (d0 := Classical.propDecidable _), hd, hm, am_35 hm3 hz ho, am_58, ay_cl_v, ay_cl_s, ay_i_add, ay_i_mul, ay_i_eq, ay_i_lt, ay_b0, ay_b1, ay_ni, ay_in, ay_nn, ay_nl, ay_ln, if_true, if_false, ↓reduceIte, Nat.reduceAdd, Nat.reduceMul, Nat.reduceEqDiff, Nat.reduceLT, Nat.not_lt_zero, Bool.true_eq_false, Bool.false_eq_true, reduceCtorEq, Nat.add_zero, Nat.zero_add]
theorem am_39a {x c z : Nat} (hW : ap_wf P) (hp : ac_p M P) (hx : x < 8) (hc : c < 6) (hz : z < 8) (ha : ¬ ag_af P (6 + c) z (ag_vs M 40).1) : ax_fn 39 0 (ax_entry 39 [.ref (ax_a 9 0), .int (ay_i x), .int (ay_i c), .int (ay_i z)]) [] (ax_hp X e gb M o) = some (.inl (some (.int (ay_i 0))), ax_hp X e gb M o) := by
  have hd := @decide_eq_false _ (Classical.propDecidable _) ha
  simp (disch := first | omega | assumption | exact ay_z1b _ | exact ay_z10 | exact ay_z11) only [ae_39, af_39_0, af_39_1, af_39_4, af_39_5, af_39_8, af_39_10, af_39_11, af_39_13, af_39_14, af_39_17, af_39_20, af_39_21, af_39_22, af_39_23, af_39_26, af_39_27, af_39_29, af_39_32, af_39_35, af_39_36, am_54 hc, am_34 hW hp (show 6 + c < 12 by omega) hz (d0 := Classical.propDecidable _), hd, ay_cl_v, ay_cl_s, ay_i_add, ay_i_mul, ay_i_eq, ay_i_lt, ay_b0, ay_b1, ay_ni, ay_in, ay_nn, ay_nl, ay_ln, if_true, if_false, ↓reduceIte, Nat.reduceAdd, Nat.reduceMul, Nat.reduceEqDiff, Nat.reduceLT, Nat.not_lt_zero, Bool.true_eq_false, Bool.false_eq_true, reduceCtorEq, Nat.add_zero, Nat.zero_add]
theorem am_39b {x c z : Nat} (hW : ap_wf P) (hp : ac_p M P) (hx : x < 8) (hc : c < 6) (hz : z < 8) (ha : ag_af P (6 + c) z (ag_vs M 40).1) : ax_fn 39 0 (ax_entry 39 [.ref (ax_a 9 0), .int (ay_i x), .int (ay_i c), .int (ay_i z)]) [] (ax_hp X e gb M o) = some (.inl (some (.int (ay_i 1))), ax_hp X e gb (ax_u3 (ax_u3 (ax_u3 M 13 40 x (P 37 0 c)) 14 40 x (ay_b (!ap_rs P c))) 15 40 x (P 39 0 c)) o) := by
  have hd := @decide_eq_true _ (Classical.propDecidable _) ha
  obtain ⟨q1, q2, q3⟩ := hp.2.2.2.2 c hc
  simp (disch := first | omega | assumption | exact ay_z1b _ | exact ay_z10 | exact ay_z11) only [ae_39, af_39_0, af_39_1, af_39_4, af_39_5, af_39_8, af_39_10, af_39_11, af_39_13, af_39_14, af_39_17, af_39_20, af_39_21, af_39_22, af_39_23, af_39_26, af_39_27, af_39_29, af_39_32, af_39_35, af_39_36, am_54 hc, am_34 hW hp (show 6 + c < 12 by omega) hz (d0 := Classical.propDecidable _), hd, am_57 (show 40 < 41 by omega) hx (show 60 + (6 + c) < 72 by omega) q2, q1, q3, ay_cl_v, ay_cl_s, ay_i_add, ay_i_mul, ay_i_eq, ay_i_lt, ay_b0, ay_b1, ay_ni, ay_in, ay_nn, ay_nl, ay_ln, if_true, if_false, ↓reduceIte, Nat.reduceAdd, Nat.reduceMul, Nat.reduceEqDiff, Nat.reduceLT, Nat.not_lt_zero, Bool.true_eq_false, Bool.false_eq_true, reduceCtorEq, Nat.add_zero, Nat.zero_add]
end AmG
