/-! THE CLASS'S MACHINE: one step -/
/-- the class's machine is in order: d frames, q objects -/
def ai_mc (C P : ax_M) (d q : Nat) : Prop := d ≤ 20 ∧ q ≤ 60 ∧ C 18 0 3 = ay_i d ∧ C 18 0 4 = ay_i q
  ∧ (∀ k, k < d → (∃ b, b < 12 ∧ C 22 k 1 = ay_i b ∧ (k + 1 < d → ∃ p, p < ap_sz P b ∧ (ap_o P b p = 2 ∨ ap_o P b p = 7) ∧ C 22 k 2 = ay_i p)) ∧ ai_v (C 22 k 3) q ∧ ∀ l, l < 8 → ai_v (C 23 k l) q)
  ∧ (∀ i z, i < q → z < 4 → ai_v (C 20 0 (4 * i + z)) q)
/-- what a step runs into -/
def ab_tr (P C : ax_M) (k q b p : Nat) : Nat := match ap_o P b p with
  | 2 => if q = 60 then 3 else if k = 19 then 4 else 0
  | 3 => if C 23 k (ap_y P b p) = ay_n 1 then 2 else 0
  | 4 => if C 23 k (ap_x P b p) = ay_n 1 then 2 else 0
  | 7 => if k = 19 then 4 else 0
  | _ => 0
def ab_cp (M : ax_M) (k z n j : Nat) : ax_M := fun f i l => if f = 23 ∧ i = k + 1 ∧ j ≤ l ∧ l < n ∧ z + l < 8 then M 23 k (z + l) else M f i l
def ab_ca (C : ax_M) (k b z n : Nat) : ax_M := fun f i j => if f = 18 ∧ i = 0 ∧ j = 3 then ay_i (k + 2) else if f = 22 ∧ i = k + 1 ∧ j = 1 then ay_i b else if f = 22 ∧ i = k + 1 ∧ j = 2 then ay_i 0 else if f = 22 ∧ i = k + 1 ∧ j = 3 then ay_n 1 else
  if f = 23 ∧ i = k + 1 ∧ j < 8 then (if j < n ∧ z + j < 8 then C 23 k (z + j) else ay_n 1) else C f i j
def ab_m2 (M : ax_M) (k q j : Nat) : ax_M := fun f i l => if f = 20 ∧ i = 0 ∧ 4 * q + j ≤ l ∧ l < 4 * q + 4 then ay_n 1 else if f = 22 ∧ i = k + 1 ∧ l = 3 then ay_i q else if f = 23 ∧ i = k + 1 ∧ l = 7 then ay_i q else if f = 18 ∧ i = 0 ∧ l = 4 then ay_i (q + 1) else M f i l
def ab_lv (P C : ax_M) (k b p : Nat) : Int32 := if b < 6 then C 22 k 3 else C 23 k (ap_x P b p)
def ab_le (P C : ax_M) (k b p : Nat) : ax_M := if k = 0 then ax_u3 (ax_u3 C 18 0 3 (ay_i 0)) 18 0 9 (ab_lv P C k b p) else
  ax_u3 (ax_u3 (ax_u3 C 18 0 3 (ay_i k)) 23 (k - 1) (ap_x P (C 22 (k - 1) 1).toNatClampNeg (C 22 (k - 1) 2).toNatClampNeg) (ab_lv P C k b p)) 22 (k - 1) 2 (C 22 (k - 1) 2 + ay_i 1)
/-- the class's memory behind the step -/
def ab_nx (P C : ax_M) (k q b p : Nat) : ax_M := match ap_o P b p with
  | 0 => ax_u3 (ax_u3 C 23 k (ap_x P b p) (C 23 k (ap_y P b p))) 22 k 2 (ay_i (p + 1))
  | 1 => ax_u3 (ax_u3 C 23 k (ap_x P b p) (ay_n 1)) 22 k 2 (ay_i (p + 1))
  | 2 => ab_m2 (ax_u3 (ab_ca C k (ap_y P b p) (ap_z P b p) (ap_mn P (ap_y P b p))) 19 0 q (ay_i (ap_y P b p))) k q 0
  | 3 => ax_u3 (ax_u3 C 23 k (ap_x P b p) (C 20 0 (4 * (C 23 k (ap_y P b p)).toNatClampNeg + ap_z P b p))) 22 k 2 (ay_i (p + 1))
  | 4 => ax_u3 (ax_u3 C 20 0 (4 * (C 23 k (ap_x P b p)).toNatClampNeg + ap_z P b p) (C 23 k (ap_y P b p))) 22 k 2 (ay_i (p + 1))
  | 5 => ax_u3 C 22 k 2 (if C 23 k (ap_x P b p) = ay_n 1 then P 43 0 (40 * b + p) else ay_i (p + 1))
  | 6 => ax_u3 C 22 k 2 (P 43 0 (40 * b + p))
  | 7 => ab_ca C k (6 + ap_y P b p) (ap_z P b p) (ap_mn P (6 + ap_y P b p))
  | _ => ab_le P C k b p
theorem ay_r3e (M : ax_M) (f i : Nat) (g : Nat → Int32) (f' i' j' : Nat) : ax_r3 M f i g f' i' j' = if f' = f ∧ i' = i then g j' else M f' i' j' := by
  unfold ax_r3; split <;> rfl
section AmA
variable {X : Nat × (Nat → Int32)} {e gb : Nat} {M C P : ax_M} {o : Int64} {k q b p : Nat}
theorem am_46 (h : M 18 0 3 = ay_i (k + 1)) (hk : k < 20) : ax_fn 46 0 (ax_entry 46 [.ref (ax_a 18 0)]) [] (ax_hp X e gb M o) = some (.inl (some (.ref (ax_a 22 k))), ax_hp X e gb M o) := by
  have h1 : max (k + 1) 1 = k + 1 := by omega
  have h2 : ay_i (k + 1) - ay_i 1 = ay_i k := by rw [ay_i_sub (by omega)]; rfl
  simp (disch := first | omega | assumption | exact ay_z1b _ | exact ay_z10 | exact ay_z11) only [ae_46, af_46_0, af_46_1, af_46_4, af_46_5, af_46_8, af_46_9, af_46_12, af_46_13, af_46_14, af_46_15, h, am_136, h1, h2, ay_cl_v, ay_cl_s, ay_i_add, ay_i_mul, ay_i_eq, ay_i_lt, ay_b0, ay_b1, ay_ni, ay_in, ay_nn, ay_nl, ay_ln, if_true, if_false, ↓reduceIte, Nat.reduceAdd, Nat.reduceMul, Nat.reduceEqDiff, Nat.reduceLT, Nat.not_lt_zero, Bool.true_eq_false, Bool.false_eq_true, reduceCtorEq, Nat.add_zero, Nat.zero_add]
theorem am_23 {v : Int32} (hk : k < 20) : ax_fn 23 0 (ax_entry 23 [.ref (ax_a 22 k), .int v]) [] (ax_hp X e gb M o) = some (.inl none, ax_hp X e gb (ax_r3 (ax_u3 (ax_u3 (ax_u3 M 22 k 1 v) 22 k 2 (ay_i 0)) 22 k 3 (ay_n 1)) 23 k (fun j => if j < 8 then ay_n 1 else M 23 k j)) o) := by
  simp (disch := first | omega | assumption | exact ay_z1b _ | exact ay_z10 | exact ay_z11) only [ae_23, af_23_0, af_23_1, af_23_2, af_23_5, af_23_6, af_23_7, af_23_10, af_23_11, af_23_12, af_23_15, af_23_16, af_23_19, af_23_20, af_23_23, am_137 ay_k23 (by decide) (show k < ax_ct 23 by rw [ay_c23]; exact hk), ay_u3e, false_and, and_false, true_and, and_true, and_self, ay_cl_v, ay_cl_s, ay_i_add, ay_i_mul, ay_i_eq, ay_i_lt, ay_b0, ay_b1, ay_ni, ay_in, ay_nn, ay_nl, ay_ln, if_true, if_false, ↓reduceIte, Nat.reduceAdd, Nat.reduceMul, Nat.reduceEqDiff, Nat.reduceLT, Nat.not_lt_zero, Bool.true_eq_false, Bool.false_eq_true, reduceCtorEq, Nat.add_zero, Nat.zero_add]
theorem al_48 {z n : Nat} {vb : Int32} (hk : k < 19) (hz : z < 8) (hn : n ≤ 3) : ∀ c j (M : ax_M), j + c = n → M 18 0 3 = ay_i (k + 1 + 1) → ax_fn 48 46 [some (.ref (ax_a 18 0)), some (.ref (ax_a 22 k)), some (.int vb), some (.int (ay_i z)), some (.int (ay_i n)), some (.int (ay_i j))] [] (ax_hp X e gb M o) = some (.inl (some (.int (ay_i 0))), ax_hp X e gb (ab_cp M k z n j) o) := by
  intro c
  induction c with
  | zero =>
    intro j M hj h3
    have : j = n := by omega
    subst this
    have hcp : ab_cp M k z j j = M := by funext f i l; unfold ab_cp; rw [if_neg (by omega)]
    have hlt : ¬ j < j := by omega
    rw [af_48_46, hcp]
    simp (disch := first | omega | assumption | exact ay_z1b _ | exact ay_z10 | exact ay_z11) only [ae_48, af_48_0, af_48_1, af_48_4, af_48_6, af_48_9, af_48_10, af_48_11, af_48_12, af_48_13, af_48_16, af_48_17, af_48_18, af_48_21, af_48_22, af_48_25, af_48_26, af_48_29, af_48_30, af_48_33, af_48_36, af_48_37, af_48_38, af_48_41, af_48_43, af_48_44, af_48_48, af_48_50, af_48_53, af_48_54, af_48_56, af_48_57, af_48_59, af_48_62, af_48_63, af_48_66, af_48_69, af_48_71, af_48_72, af_48_75, af_48_76, af_48_78, af_48_79, af_48_80, af_48_81, af_48_84, af_48_87, af_48_88, hlt, not_false_eq_true, ay_cl_v, ay_cl_s, ay_i_add, ay_i_mul, ay_i_eq, ay_i_lt, ay_b0, ay_b1, ay_ni, ay_in, ay_nn, ay_nl, ay_ln, if_true, if_false, ↓reduceIte, Nat.reduceAdd, Nat.reduceMul, Nat.reduceEqDiff, Nat.reduceLT, Nat.not_lt_zero, Bool.true_eq_false, Bool.false_eq_true, reduceCtorEq, Nat.add_zero, Nat.zero_add]
  | succ c ih =>
    intro j M hj h3
    have hlt : j < n := by omega
    have h46 := am_46 (X := X) (e := e) (gb := gb) (o := o) h3 (by omega)
    rw [af_48_46]
    by_cases hz8 : z + j < 8
    · simp (disch := first | omega | assumption | exact ay_z1b _ | exact ay_z10 | exact ay_z11) only [ae_48, af_48_0, af_48_1, af_48_4, af_48_6, af_48_9, af_48_10, af_48_11, af_48_12, af_48_13, af_48_16, af_48_17, af_48_18, af_48_21, af_48_22, af_48_25, af_48_26, af_48_29, af_48_30, af_48_33, af_48_36, af_48_37, af_48_38, af_48_41, af_48_43, af_48_44, af_48_48, af_48_50, af_48_53, af_48_54, af_48_56, af_48_57, af_48_59, af_48_62, af_48_63, af_48_66, af_48_69, af_48_71, af_48_72, af_48_75, af_48_76, af_48_78, af_48_79, af_48_80, af_48_81, af_48_84, af_48_87, af_48_88, hlt, hz8, not_true, h46, ay_cl_v, ay_cl_s, ay_i_add, ay_i_mul, ay_i_eq, ay_i_lt, ay_b0, ay_b1, ay_ni, ay_in, ay_nn, ay_nl, ay_ln, if_true, if_false, ↓reduceIte, Nat.reduceAdd, Nat.reduceMul, Nat.reduceEqDiff, Nat.reduceLT, Nat.not_lt_zero, Bool.true_eq_false, Bool.false_eq_true, reduceCtorEq, Nat.add_zero, Nat.zero_add]
      rw [ih _ _ (by omega) (by simp only [ax_u3]; simp [h3])]
      congr 3
      funext f i l
      simp only [ab_cp, ax_u3]
      grind
    · have hcp : ab_cp M k z n j = M := by funext f i l; unfold ab_cp; rw [if_neg (by omega)]
      rw [hcp]
      simp (disch := first | omega | assumption | exact ay_z1b _ | exact ay_z10 | exact ay_z11) only [ae_48, af_48_0, af_48_1, af_48_4, af_48_6, af_48_9, af_48_10, af_48_11, af_48_12, af_48_13, af_48_16, af_48_17, af_48_18, af_48_21, af_48_22, af_48_25, af_48_26, af_48_29, af_48_30, af_48_33, af_48_36, af_48_37, af_48_38, af_48_41, af_48_43, af_48_44, af_48_48, af_48_50, af_48_53, af_48_54, af_48_56, af_48_57, af_48_59, af_48_62, af_48_63, af_48_66, af_48_69, af_48_71, af_48_72, af_48_75, af_48_76, af_48_78, af_48_79, af_48_80, af_48_81, af_48_84, af_48_87, af_48_88, hlt, hz8, not_true, not_false_eq_true, ay_cl_v, ay_cl_s, ay_i_add, ay_i_mul, ay_i_eq, ay_i_lt, ay_b0, ay_b1, ay_ni, ay_in, ay_nn, ay_nl, ay_ln, if_true, if_false, ↓reduceIte, Nat.reduceAdd, Nat.reduceMul, Nat.reduceEqDiff, Nat.reduceLT, Nat.not_lt_zero, Bool.true_eq_false, Bool.false_eq_true, reduceCtorEq, Nat.add_zero, Nat.zero_add]
theorem am_48 {z : Nat} (hW : ap_wf P) (hp : ac_p C P) (h3 : C 18 0 3 = ay_i (k + 1)) (hk : k < 19) (hb : b < 12) (hz : z < 8) : ax_fn 48 0 (ax_entry 48 [.ref (ax_a 18 0), .ref (ax_a 22 k), .int (ay_i b), .int (ay_i z)]) [] (ax_hp X e gb C o) = some (.inl (some (.int (ay_i 0))), ax_hp X e gb (ab_ca C k b z (ap_mn P b)) o) := by
  have hmn := hW.2.1 b hb
  have hc7 : C 3 b 7 = ay_i (ap_mn P b) := by rw [(hp.1 b hb).2]; exact hmn.1
  have h46 := am_46 (X := X) (e := e) (gb := gb) (o := o) (M := ax_u3 C 18 0 3 (ay_i (k + 1 + 1))) (k := k + 1) (by simp [ax_u3]) (by omega)
  have h20 : ¬ k + 1 = 20 := by omega
  have hk1 : k + 1 < 20 := by omega
  have hlp := fun M => al_48 (X := X) (e := e) (gb := gb) (o := o) (vb := ay_i b) (z := z) hk hz hmn.2 (ap_mn P b) 0 M (by omega)
  have h7 : ∀ v w g, (ax_r3 (ax_u3 (ax_u3 (ax_u3 (ax_u3 C 18 0 3 v) 22 (k + 1) 1 w) 22 (k + 1) 2 (ay_i 0)) 22 (k + 1) 3 (ay_n 1)) 23 (k + 1) g) 3 b 7 = ay_i (ap_mn P b) := by
    intro v w g; simp only [ay_r3e, ax_u3]; simp [hc7]
  simp (disch := first | omega | assumption | exact ay_z1b _ | exact ay_z10 | exact ay_z11) only [ae_48, af_48_0, af_48_1, af_48_4, af_48_6, af_48_9, af_48_10, af_48_11, af_48_12, af_48_13, af_48_16, af_48_17, af_48_18, af_48_21, af_48_22, af_48_25, af_48_26, af_48_29, af_48_30, af_48_33, af_48_36, af_48_37, af_48_38, af_48_41, af_48_43, af_48_44, af_48_48, af_48_50, af_48_53, af_48_54, af_48_56, af_48_57, af_48_59, af_48_62, af_48_63, af_48_66, af_48_69, af_48_71, af_48_72, af_48_75, af_48_76, af_48_78, af_48_79, af_48_80, af_48_81, af_48_84, af_48_87, af_48_88, h3, h20, h46, am_23, h7, ay_cl_v, ay_cl_s, ay_i_add, ay_i_mul, ay_i_eq, ay_i_lt, ay_b0, ay_b1, ay_ni, ay_in, ay_nn, ay_nl, ay_ln, if_true, if_false, ↓reduceIte, Nat.reduceAdd, Nat.reduceMul, Nat.reduceEqDiff, Nat.reduceLT, Nat.not_lt_zero, Bool.true_eq_false, Bool.false_eq_true, reduceCtorEq, Nat.add_zero, Nat.zero_add]
  rw [hlp _ (by simp [ay_r3e, ax_u3])]
  congr 3
  funext f i l
  simp only [ab_cp, ab_ca, ay_r3e, ax_u3]
  have h33 := hmn.2
  clear hlp h46 h7 hp hW hmn
  grind
theorem am_48x {z vb : Int32} (h3 : C 18 0 3 = ay_i 20) : ax_fn 48 0 (ax_entry 48 [.ref (ax_a 18 0), .ref (ax_a 22 k), .int vb, .int z]) [] (ax_hp X e gb C o) = some (.inl (some (.int (ay_i 4))), ax_hp X e gb C o) := by
  simp (disch := first | omega | assumption | exact ay_z1b _ | exact ay_z10 | exact ay_z11) only [ae_48, af_48_0, af_48_1, af_48_4, af_48_6, af_48_9, af_48_10, af_48_11, af_48_12, af_48_13, af_48_16, af_48_17, af_48_18, af_48_21, af_48_22, af_48_25, af_48_26, af_48_29, af_48_30, af_48_33, af_48_36, af_48_37, af_48_38, af_48_41, af_48_43, af_48_44, af_48_48, af_48_50, af_48_53, af_48_54, af_48_56, af_48_57, af_48_59, af_48_62, af_48_63, af_48_66, af_48_69, af_48_71, af_48_72, af_48_75, af_48_76, af_48_78, af_48_79, af_48_80, af_48_81, af_48_84, af_48_87, af_48_88, h3, ay_cl_v, ay_cl_s, ay_i_add, ay_i_mul, ay_i_eq, ay_i_lt, ay_b0, ay_b1, ay_ni, ay_in, ay_nn, ay_nl, ay_ln, if_true, if_false, ↓reduceIte, Nat.reduceAdd, Nat.reduceMul, Nat.reduceEqDiff, Nat.reduceLT, Nat.not_lt_zero, Bool.true_eq_false, Bool.false_eq_true, reduceCtorEq, Nat.add_zero, Nat.zero_add]
theorem al_47 {vc vz : Int32} {v1 : Option Value} (hk : k < 19) (hq : q < 60) : ∀ c j (M : ax_M), j + c = 4 → M 18 0 3 = ay_i (k + 1 + 1) → M 18 0 4 = ay_i q → ax_fn 47 38 [some (.ref (ax_a 18 0)), v1, some (.int vc), some (.int vz), some (.int (ay_i 0)), some (.int (ay_i j))] [] (ax_hp X e gb M o) = some (.inl (some (.int (ay_i 0))), ax_hp X e gb (ab_m2 M k q j) o) := by
  intro c
  induction c with
  | zero =>
    intro j M hj h3 h4
    have : j = 4 := by omega
    subst this
    have h46 := am_46 (X := X) (e := e) (gb := gb) (o := o) h3 (by omega)
    have h46b := am_46 (X := X) (e := e) (gb := gb) (o := o) (M := ax_u3 M 22 (k + 1) 3 (ay_i q)) (k := k + 1) (by simp only [ax_u3]; simp [h3]) (by omega)
    rw [af_47_38]
    simp (disch := first | omega | assumption | exact ay_z1b _ | exact ay_z10 | exact ay_z11) only [ae_47, af_47_0, af_47_1, af_47_4, af_47_6, af_47_9, af_47_10, af_47_11, af_47_12, af_47_13, af_47_14, af_47_15, af_47_18, af_47_20, af_47_22, af_47_25, af_47_26, af_47_29, af_47_30, af_47_33, af_47_34, af_47_35, af_47_36, af_47_40, af_47_41, af_47_44, af_47_45, af_47_48, af_47_49, af_47_52, af_47_53, af_47_54, af_47_56, af_47_57, af_47_58, af_47_59, af_47_62, af_47_65, af_47_66, af_47_69, af_47_70, af_47_73, af_47_76, af_47_77, af_47_80, af_47_83, af_47_85, af_47_86, af_47_89, af_47_90, af_47_91, af_47_92, af_47_95, af_47_96, af_47_97, af_47_100, af_47_102, h46, h4, h46b, ay_u3e, false_and, and_false, true_and, and_true, and_self, ay_cl_v, ay_cl_s, ay_i_add, ay_i_mul, ay_i_eq, ay_i_lt, ay_b0, ay_b1, ay_ni, ay_in, ay_nn, ay_nl, ay_ln, if_true, if_false, ↓reduceIte, Nat.reduceAdd, Nat.reduceMul, Nat.reduceEqDiff, Nat.reduceLT, Nat.not_lt_zero, Bool.true_eq_false, Bool.false_eq_true, reduceCtorEq, Nat.add_zero, Nat.zero_add]
    congr 3
    funext f i l
    simp only [ab_m2, ax_u3]
    grind
  | succ c ih =>
    intro j M hj h3 h4
    have hlt : j < 4 := by omega
    have hs : q * 4 + j < 240 := by omega
    rw [af_47_38]
    simp (disch := first | omega | assumption | exact ay_z1b _ | exact ay_z10 | exact ay_z11) only [ae_47, af_47_0, af_47_1, af_47_4, af_47_6, af_47_9, af_47_10, af_47_11, af_47_12, af_47_13, af_47_14, af_47_15, af_47_18, af_47_20, af_47_22, af_47_25, af_47_26, af_47_29, af_47_30, af_47_33, af_47_34, af_47_35, af_47_36, af_47_40, af_47_41, af_47_44, af_47_45, af_47_48, af_47_49, af_47_52, af_47_53, af_47_54, af_47_56, af_47_57, af_47_58, af_47_59, af_47_62, af_47_65, af_47_66, af_47_69, af_47_70, af_47_73, af_47_76, af_47_77, af_47_80, af_47_83, af_47_85, af_47_86, af_47_89, af_47_90, af_47_91, af_47_92, af_47_95, af_47_96, af_47_97, af_47_100, af_47_102, hlt, not_true, h4, ay_cl_v, ay_cl_s, ay_i_add, ay_i_mul, ay_i_eq, ay_i_lt, ay_b0, ay_b1, ay_ni, ay_in, ay_nn, ay_nl, ay_ln, if_true, if_false, ↓reduceIte, Nat.reduceAdd, Nat.reduceMul, Nat.reduceEqDiff, Nat.reduceLT, Nat.not_lt_zero, Bool.true_eq_false, Bool.false_eq_true, reduceCtorEq, Nat.add_zero, Nat.zero_add]
    rw [ih _ _ (by omega) (by simp only [ax_u3]; simp [h3]) (by simp only [ax_u3]; simp [h4])]
    congr 3
    funext f i l
    simp only [ab_m2, ax_u3]
    grind
theorem am_47 {z : Nat} (hW : ap_wf P) (hp : ac_p C P) (h3 : C 18 0 3 = ay_i (k + 1)) (h4 : C 18 0 4 = ay_i q) (hq : q < 60) (hk : k < 19) (hb : b < 6) (hz : z < 8) : ax_fn 47 0 (ax_entry 47 [.ref (ax_a 18 0), .ref (ax_a 22 k), .int (ay_i b), .int (ay_i z)]) [] (ax_hp X e gb C o) = some (.inl (some (.int (ay_i 0))), ax_hp X e gb (ab_m2 (ax_u3 (ab_ca C k b z (ap_mn P b)) 19 0 q (ay_i b)) k q 0) o) := by
  have h48 := am_48 (X := X) (e := e) (gb := gb) (o := o) (b := b) (z := z) hW hp h3 hk (by omega) hz
  have h60 : ¬ q = 60 := by omega
  have c4 : ab_ca C k b z (ap_mn P b) 18 0 4 = ay_i q := by unfold ab_ca; simp [h4]
  have hlp := fun M => al_47 (X := X) (e := e) (gb := gb) (o := o) (vc := ay_i b) (vz := ay_i z) (v1 := some (.ref (ax_a 22 k))) hk hq 4 0 M (by omega)
  simp (disch := first | omega | assumption | exact ay_z1b _ | exact ay_z10 | exact ay_z11) only [ae_47, af_47_0, af_47_1, af_47_4, af_47_6, af_47_9, af_47_10, af_47_11, af_47_12, af_47_13, af_47_14, af_47_15, af_47_18, af_47_20, af_47_22, af_47_25, af_47_26, af_47_29, af_47_30, af_47_33, af_47_34, af_47_35, af_47_36, af_47_40, af_47_41, af_47_44, af_47_45, af_47_48, af_47_49, af_47_52, af_47_53, af_47_54, af_47_56, af_47_57, af_47_58, af_47_59, af_47_62, af_47_65, af_47_66, af_47_69, af_47_70, af_47_73, af_47_76, af_47_77, af_47_80, af_47_83, af_47_85, af_47_86, af_47_89, af_47_90, af_47_91, af_47_92, af_47_95, af_47_96, af_47_97, af_47_100, af_47_102, h4, h60, h48, c4, ay_cl_v, ay_cl_s, ay_i_add, ay_i_mul, ay_i_eq, ay_i_lt, ay_b0, ay_b1, ay_ni, ay_in, ay_nn, ay_nl, ay_ln, if_true, if_false, ↓reduceIte, Nat.reduceAdd, Nat.reduceMul, Nat.reduceEqDiff, Nat.reduceLT, Nat.not_lt_zero, Bool.true_eq_false, Bool.false_eq_true, reduceCtorEq, Nat.add_zero, Nat.zero_add]
  rw [hlp _ (by simp only [ax_u3]; simp [ab_ca]) (by simp only [ax_u3]; simp [c4])]
theorem am_47x {vb z : Int32} (h4 : C 18 0 4 = ay_i 60) : ax_fn 47 0 (ax_entry 47 [.ref (ax_a 18 0), .ref (ax_a 22 k), .int vb, .int z]) [] (ax_hp X e gb C o) = some (.inl (some (.int (ay_i 3))), ax_hp X e gb C o) := by
  simp (disch := first | omega | assumption | exact ay_z1b _ | exact ay_z10 | exact ay_z11) only [ae_47, af_47_0, af_47_1, af_47_4, af_47_6, af_47_9, af_47_10, af_47_11, af_47_12, af_47_13, af_47_14, af_47_15, af_47_18, af_47_20, af_47_22, af_47_25, af_47_26, af_47_29, af_47_30, af_47_33, af_47_34, af_47_35, af_47_36, af_47_40, af_47_41, af_47_44, af_47_45, af_47_48, af_47_49, af_47_52, af_47_53, af_47_54, af_47_56, af_47_57, af_47_58, af_47_59, af_47_62, af_47_65, af_47_66, af_47_69, af_47_70, af_47_73, af_47_76, af_47_77, af_47_80, af_47_83, af_47_85, af_47_86, af_47_89, af_47_90, af_47_91, af_47_92, af_47_95, af_47_96, af_47_97, af_47_100, af_47_102, h4, ay_cl_v, ay_cl_s, ay_i_add, ay_i_mul, ay_i_eq, ay_i_lt, ay_b0, ay_b1, ay_ni, ay_in, ay_nn, ay_nl, ay_ln, if_true, if_false, ↓reduceIte, Nat.reduceAdd, Nat.reduceMul, Nat.reduceEqDiff, Nat.reduceLT, Nat.not_lt_zero, Bool.true_eq_false, Bool.false_eq_true, reduceCtorEq, Nat.add_zero, Nat.zero_add]
theorem am_47y {vb z : Int32} (h4 : C 18 0 4 = ay_i q) (hq : q < 60) (h3 : C 18 0 3 = ay_i 20) : ax_fn 47 0 (ax_entry 47 [.ref (ax_a 18 0), .ref (ax_a 22 k), .int vb, .int z]) [] (ax_hp X e gb C o) = some (.inl (some (.int (ay_i 4))), ax_hp X e gb C o) := by
  have h60 : ¬ q = 60 := by omega
  simp (disch := first | omega | assumption | exact ay_z1b _ | exact ay_z10 | exact ay_z11) only [ae_47, af_47_0, af_47_1, af_47_4, af_47_6, af_47_9, af_47_10, af_47_11, af_47_12, af_47_13, af_47_14, af_47_15, af_47_18, af_47_20, af_47_22, af_47_25, af_47_26, af_47_29, af_47_30, af_47_33, af_47_34, af_47_35, af_47_36, af_47_40, af_47_41, af_47_44, af_47_45, af_47_48, af_47_49, af_47_52, af_47_53, af_47_54, af_47_56, af_47_57, af_47_58, af_47_59, af_47_62, af_47_65, af_47_66, af_47_69, af_47_70, af_47_73, af_47_76, af_47_77, af_47_80, af_47_83, af_47_85, af_47_86, af_47_89, af_47_90, af_47_91, af_47_92, af_47_95, af_47_96, af_47_97, af_47_100, af_47_102, h4, h60, am_48x h3, ay_cl_v, ay_cl_s, ay_i_add, ay_i_mul, ay_i_eq, ay_i_lt, ay_b0, ay_b1, ay_ni, ay_in, ay_nn, ay_nl, ay_ln, if_true, if_false, ↓reduceIte, Nat.reduceAdd, Nat.reduceMul, Nat.reduceEqDiff, Nat.reduceLT, Nat.not_lt_zero, Bool.true_eq_false, Bool.false_eq_true, reduceCtorEq, Nat.add_zero, Nat.zero_add]
theorem am_49 (hW : ap_wf P) (hp : ac_p C P) (hc : ai_mc C P (k + 1) q) (hb : b < 12) (h1 : C 22 k 1 = ay_i b) (hx : ap_x P b p < 8) : ax_fn 49 0 (ax_entry 49 [.ref (ax_a 18 0), .ref (ax_a 22 k), .int (ay_i (ap_x P b p))]) [] (ax_hp X e gb C o) = some (.inl none, ax_hp X e gb (ab_le P C k b p) o) := by
  obtain ⟨c1, c2, c3, c4, c5, c6⟩ := hc
  have hk : k < 20 := by omega
  have hs1 : ay_i (k + 1) - ay_i 1 = ay_i k := by rw [ay_i_sub (by omega)]; rfl
  cases k with
  | zero =>
    by_cases h6 : b < 6 <;> simp (disch := first | omega | assumption | exact ay_z1b _ | exact ay_z10 | exact ay_z11) only [ae_49, af_49_0, af_49_1, af_49_4, af_49_7, af_49_10, af_49_11, af_49_14, af_49_17, af_49_18, af_49_21, af_49_22, af_49_23, af_49_24, af_49_25, af_49_26, af_49_29, af_49_30, af_49_31, af_49_34, af_49_35, af_49_38, af_49_41, af_49_42, af_49_43, af_49_46, af_49_47, af_49_48, af_49_51, af_49_53, af_49_55, af_49_58, af_49_59, af_49_62, af_49_65, af_49_67, af_49_70, af_49_71, af_49_74, af_49_76, af_49_79, af_49_80, af_49_81, af_49_82, af_49_84, af_49_85, af_49_88, af_49_89, af_49_90, af_49_93, ae_82, af_82_0, af_82_1, af_82_3, af_82_6, af_82_7, af_82_10, af_82_11, h1, h6, c3, hs1, ay_u3e, false_and, and_false, true_and, and_true, and_self, ab_le, ab_lv, ay_cl_v, ay_cl_s, ay_i_add, ay_i_mul, ay_i_eq, ay_i_lt, ay_b0, ay_b1, ay_ni, ay_in, ay_nn, ay_nl, ay_ln, if_true, if_false, ↓reduceIte, Nat.reduceAdd, Nat.reduceMul, Nat.reduceEqDiff, Nat.reduceLT, Nat.not_lt_zero, Bool.true_eq_false, Bool.false_eq_true, reduceCtorEq, Nat.add_zero, Nat.zero_add]
  | succ k =>
    obtain ⟨⟨b', hb', e1, e2⟩, -⟩ := c5 k (by omega)
    obtain ⟨p', hp', ho', e3⟩ := e2 (by omega)
    have hsz := (hW.1 b' hb').2
    have hwi := hW.2.2.1 b' p' hb' hp'
    obtain ⟨w1, w2⟩ := hwi.2.2.1 (by omega)
    have h5 : C 5 b' p' = ay_i (ap_x P b' p') := by rw [(hp.2.1 b' p' hb' (by omega)).2.1]; exact w1
    have h46 := am_46 (X := X) (e := e) (gb := gb) (o := o) (M := ax_u3 C 18 0 3 (ay_i (k + 1))) (k := k) (by simp [ax_u3]) (by omega)
    have hk0 : ¬ k + 1 = 0 := by omega
    have hk1 : k + 1 - 1 = k := by omega
    have hp40 : p' < 40 := by omega
    by_cases h6 : b < 6 <;> simp (disch := first | omega | assumption | exact ay_z1b _ | exact ay_z10 | exact ay_z11) only [ae_49, af_49_0, af_49_1, af_49_4, af_49_7, af_49_10, af_49_11, af_49_14, af_49_17, af_49_18, af_49_21, af_49_22, af_49_23, af_49_24, af_49_25, af_49_26, af_49_29, af_49_30, af_49_31, af_49_34, af_49_35, af_49_38, af_49_41, af_49_42, af_49_43, af_49_46, af_49_47, af_49_48, af_49_51, af_49_53, af_49_55, af_49_58, af_49_59, af_49_62, af_49_65, af_49_67, af_49_70, af_49_71, af_49_74, af_49_76, af_49_79, af_49_80, af_49_81, af_49_82, af_49_84, af_49_85, af_49_88, af_49_89, af_49_90, af_49_93, ae_82, af_82_0, af_82_1, af_82_3, af_82_6, af_82_7, af_82_10, af_82_11, h1, h6, c3, hs1, h46, ay_u3e, false_and, and_false, true_and, and_true, and_self, hk0, e1, e3, h5, ab_le, ab_lv, hk1, ay_i_ct, ay_cl_v, ay_cl_s, ay_i_add, ay_i_mul, ay_i_eq, ay_i_lt, ay_b0, ay_b1, ay_ni, ay_in, ay_nn, ay_nl, ay_ln, if_true, if_false, ↓reduceIte, Nat.reduceAdd, Nat.reduceMul, Nat.reduceEqDiff, Nat.reduceLT, Nat.not_lt_zero, Bool.true_eq_false, Bool.false_eq_true, reduceCtorEq, Nat.add_zero, Nat.zero_add]
end AmA
