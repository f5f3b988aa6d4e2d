/-! loops of a sight: Arrays.fill, forget, meet -/
theorem ax_r3u (M : ax_M) (f i k : Nat) (g : Nat → Int32) (v : Int32) : ax_u3 (ax_r3 M f i g) f i k v = ax_r3 M f i (fun j => if j = k then v else g j) := by
  funext f' i' j'
  unfold ax_u3 ax_r3
  by_cases hq : f' = f ∧ i' = i
  · obtain ⟨rfl, rfl⟩ := hq; simp only [true_and, and_self, if_true]
  · have : ¬ (f' = f ∧ i' = i ∧ j' = k) := fun h => hq ⟨h.1, h.2.1⟩
    simp only [hq, this, if_false]
def ag_jn (a b : Int32) : Int32 := if a = b then a else ay_i 1
def ag_js (a b : Int32) : Int32 := if a = b then a else ay_i 2
/-- does local l of sight s change when w meets it -/
def ag_c1 (M : ax_M) (s w l : Nat) : Bool := if ag_cc (M 13 s l) (M 13 w l) = ay_n 2 then decide (¬ M 13 s l = ay_n 2) else decide (¬ (ag_cc (M 13 s l) (M 13 w l) = M 13 s l ∧ ag_jn (M 14 s l) (M 14 w l) = M 14 s l ∧ ag_js (M 15 s l) (M 15 w l) = M 15 s l))
def ag_ch (M : ax_M) (s w : Nat) : Nat → Bool
  | 0 => false
  | k + 1 => ag_ch M s w k || ag_c1 M s w k
/-- sight s when its first k locals have met w's -/
def ag_mk (M : ax_M) (s w k : Nat) (fl : Bool) : ax_M := fun f i j =>
  if i = s ∧ f = 13 ∧ j < k then ag_cc (M 13 s j) (M 13 w j)
  else if i = s ∧ f = 14 ∧ j < k then (if ag_cc (M 13 s j) (M 13 w j) = ay_n 2 then M 14 s j else ag_jn (M 14 s j) (M 14 w j))
  else if i = s ∧ f = 15 ∧ j < k then (if ag_cc (M 13 s j) (M 13 w j) = ay_n 2 then M 15 s j else ag_js (M 15 s j) (M 15 w j))
  else if i = s ∧ f = 12 ∧ j = 5 then ay_b (fl || ag_ch M s w k) else M f i j
theorem ag_mk0 {M : ax_M} {s w : Nat} {fl : Bool} (hf : M 12 s 5 = ay_b fl) : ag_mk M s w 0 fl = M := by
  funext f i j
  unfold ag_mk ag_ch
  grind
section AmU
variable {X : Nat × (Nat → Int32)} {e gb : Nat} {M : ax_M} {o : Int64} {h : ax_H}
theorem al_137 {f i m : Nat} {v : Int32} (hk : ax_kd f = (20, m)) (hm : m ≤ 480) (hi : i < ax_ct f) : ∀ d k, k + d = m → ax_fn 137 5 [some (.ref (ax_a f i)), some (.int v), some (.int (ay_i k)), some (.int (ay_i m))] [] (ax_hp X e gb (ax_r3 M f i (fun j => if j < k then v else M f i j)) o) = some (.inl none, ax_hp X e gb (ax_r3 M f i (fun j => if j < m then v else M f i j)) o) := by
  intro d
  induction d with
  | zero =>
    intro k hkm
    obtain rfl : k = m := by omega
    rw [af_137_5]
    simp (disch := first | omega | assumption | exact ay_z1b _ | exact ay_z10 | exact ay_z11) only [ae_137, af_137_0, af_137_1, af_137_2, af_137_3, af_137_4, af_137_6, af_137_7, af_137_10, af_137_11, af_137_12, af_137_13, af_137_14, af_137_17, af_137_20, Nat.lt_irrefl, ay_cl_v, ay_cl_s, ay_i_add, ay_i_mul, ay_i_eq, ay_i_lt, ay_b0, ay_b1, ay_ni, ay_in, ay_nn, ay_nl, ay_ln, if_true, if_false, ↓reduceIte, Nat.reduceAdd, Nat.reduceMul, Nat.reduceEqDiff, Nat.reduceLT, Nat.not_lt_zero, Bool.true_eq_false, Bool.false_eq_true, reduceCtorEq, Nat.add_zero, Nat.zero_add]
  | succ d ih =>
    intro k hkm
    have hlt : k < m := by omega
    rw [af_137_5]
    simp (disch := first | omega | assumption | exact ay_z1b _ | exact ay_z10 | exact ay_z11) only [ae_137, af_137_0, af_137_1, af_137_2, af_137_3, af_137_4, af_137_6, af_137_7, af_137_10, af_137_11, af_137_12, af_137_14, af_137_17, af_137_20, af_137_13 hk hm hi hlt, hlt, ay_cl_v, ay_cl_s, ay_i_add, ay_i_mul, ay_i_eq, ay_i_lt, ay_b0, ay_b1, ay_ni, ay_in, ay_nn, ay_nl, ay_ln, if_true, if_false, ↓reduceIte, Nat.reduceAdd, Nat.reduceMul, Nat.reduceEqDiff, Nat.reduceLT, Nat.not_lt_zero, Bool.true_eq_false, Bool.false_eq_true, reduceCtorEq, Nat.add_zero, Nat.zero_add]
    rw [ax_r3u, show (fun j => if j = k then v else if j < k then v else M f i j) = (fun j => if j < k + 1 then v else M f i j) by funext j; grind]
    exact ih (k + 1) (by omega)
theorem am_137 {f i m : Nat} {v : Int32} (hk : ax_kd f = (20, m)) (hm : m ≤ 480) (hi : i < ax_ct f) : ax_fn 137 0 (ax_entry 137 [.ref (ax_a f i), .int v]) [] (ax_hp X e gb M o) = some (.inl none, ax_hp X e gb (ax_r3 M f i (fun j => if j < m then v else M f i j)) o) := by
  simp (disch := first | omega | assumption | exact ay_z1b _ | exact ay_z10 | exact ay_z11) only [ae_137, af_137_0, af_137_1, af_137_2, af_137_4, af_137_6, af_137_7, af_137_10, af_137_11, af_137_12, af_137_13, af_137_14, af_137_17, af_137_20, af_137_3 hk hi, ay_cl_v, ay_cl_s, ay_i_add, ay_i_mul, ay_i_eq, ay_i_lt, ay_b0, ay_b1, ay_ni, ay_in, ay_nn, ay_nl, ay_ln, if_true, if_false, ↓reduceIte, Nat.reduceAdd, Nat.reduceMul, Nat.reduceEqDiff, Nat.reduceLT, Nat.not_lt_zero, Bool.true_eq_false, Bool.false_eq_true, reduceCtorEq, Nat.add_zero, Nat.zero_add]
  have := al_137 (X := X) (e := e) (gb := gb) (M := M) (o := o) (v := v) hk hm hi m 0 (by omega)
  rw [← this]
  congr 2
  funext f' i' j'
  unfold ax_r3
  grind
theorem am_56 {s : Nat} (hs : s < 41) : ax_fn 56 0 (ax_entry 56 [.ref (ax_a 12 s)]) [] (ax_hp X e gb M o) = some (.inl none, ax_hp X e gb (ax_u3 (ax_u3 (ax_u3 (ax_r3 M 13 s (fun j => if j < 8 then ay_n 2 else M 13 s j)) 12 s 3 (ay_i 0)) 12 s 4 (ay_i 0)) 12 s 5 (ay_i 0)) o) := by
  simp (disch := first | omega | assumption | exact ay_z1b _ | exact ay_z10 | exact ay_z11) only [ae_56, af_56_0, af_56_1, af_56_4, af_56_6, af_56_9, af_56_10, af_56_11, af_56_14, af_56_15, af_56_16, af_56_19, af_56_20, af_56_21, af_56_24, am_137 ay_k13 (by decide) (show s < ax_ct 13 by rw [ay_c13]; exact hs), ay_cl_v, ay_cl_s, ay_i_add, ay_i_mul, ay_i_eq, ay_i_lt, ay_b0, ay_b1, ay_ni, ay_in, ay_nn, ay_nl, ay_ln, if_true, if_false, ↓reduceIte, Nat.reduceAdd, Nat.reduceMul, Nat.reduceEqDiff, Nat.reduceLT, Nat.not_lt_zero, Bool.true_eq_false, Bool.false_eq_true, reduceCtorEq, Nat.add_zero, Nat.zero_add]
def ag_ml (M : ax_M) (s w l : Nat) (fl : Bool) : ax_M := fun f i j =>
  if i = s ∧ f = 13 ∧ j = l then ag_cc (M 13 s l) (M 13 w l)
  else if i = s ∧ f = 14 ∧ j = l then (if ag_cc (M 13 s l) (M 13 w l) = ay_n 2 then M 14 s l else ag_jn (M 14 s l) (M 14 w l))
  else if i = s ∧ f = 15 ∧ j = l then (if ag_cc (M 13 s l) (M 13 w l) = ay_n 2 then M 15 s l else ag_js (M 15 s l) (M 15 w l))
  else if i = s ∧ f = 12 ∧ j = 5 then ay_b (fl || ag_c1 M s w l) else M f i j
theorem am_61 {s w l : Nat} {fl : Bool} (hs : s < 41) (hw : w < 41) (hl : l < 8) (hf : M 12 s 5 = ay_b fl) : ax_fn 61 0 (ax_entry 61 [.ref (ax_a 12 s), .int (ay_i l), .ref (ax_a 12 w)]) [] (ax_hp X e gb M o) = some (.inl none, ax_hp X e gb (ag_ml M s w l fl) o) := by
  have key : (if ag_cc (M 13 s l) (M 13 w l) = ay_n 2 then ax_u3 (ax_u3 M 12 s 5 (ay_b (fl || decide (¬ M 13 s l = ay_n 2)))) 13 s l (ay_n 2)
    else if ag_cc (M 13 s l) (M 13 w l) = M 13 s l ∧ (if M 14 s l = M 14 w l then M 14 s l else ay_i 1) = M 14 s l ∧ (if M 15 s l = M 15 w l then M 15 s l else ay_i 2) = M 15 s l then M
    else ax_u3 (ax_u3 (ax_u3 (ax_u3 M 13 s l (ag_cc (M 13 s l) (M 13 w l))) 14 s l (if M 14 s l = M 14 w l then M 14 s l else ay_i 1)) 15 s l (if M 15 s l = M 15 w l then M 15 s l else ay_i 2)) 12 s 5 (ay_i 1)) = ag_ml M s w l fl := by
    funext f i j
    by_cases h1 : ag_cc (M 13 s l) (M 13 w l) = ay_n 2
    · rw [if_pos h1]
      simp only [ag_ml, ax_u3, ag_c1, h1, if_true]
      grind (splits := 30)
    · rw [if_neg h1]
      by_cases h2 : ag_cc (M 13 s l) (M 13 w l) = M 13 s l ∧ ag_jn (M 14 s l) (M 14 w l) = M 14 s l ∧ ag_js (M 15 s l) (M 15 w l) = M 15 s l
      · rw [if_pos (by simpa only [ag_jn, ag_js] using h2)]
        simp only [ag_ml, ag_c1, h1, if_false, h2, and_self, not_true, decide_false, Bool.or_false]
        grind (splits := 30)
      · rw [if_neg (by simpa only [ag_jn, ag_js] using h2)]
        have h3 : decide (¬ (ag_cc (M 13 s l) (M 13 w l) = M 13 s l ∧ ag_jn (M 14 s l) (M 14 w l) = M 14 s l ∧ ag_js (M 15 s l) (M 15 w l) = M 15 s l)) = true := decide_eq_true h2
        simp only [ag_ml, ag_c1, h1, if_false, h3, ax_u3, Bool.or_true, ay_bt]
        clear h2 h3
        simp only [ag_jn, ag_js]
        grind (splits := 30)
  rw [← key]
  clear key
  simp (disch := first | omega | assumption | exact ay_z1b _ | exact ay_z10 | exact ay_z11) only [ae_61, af_61_0, af_61_1, af_61_4, af_61_5, af_61_6, af_61_7, af_61_10, af_61_11, af_61_12, af_61_15, af_61_16, af_61_17, af_61_19, af_61_22, af_61_23, af_61_24, af_61_27, af_61_30, af_61_31, af_61_32, af_61_35, af_61_38, af_61_39, af_61_42, af_61_43, af_61_46, af_61_47, af_61_50, af_61_51, af_61_53, af_61_54, af_61_55, af_61_56, af_61_59, af_61_60, af_61_61, af_61_62, af_61_65, af_61_66, af_61_67, af_61_70, af_61_71, af_61_74, af_61_75, af_61_76, af_61_79, af_61_80, af_61_82, af_61_83, af_61_86, af_61_87, af_61_88, af_61_89, af_61_92, af_61_93, af_61_94, af_61_97, af_61_98, af_61_101, af_61_102, af_61_103, af_61_106, af_61_107, af_61_109, af_61_110, af_61_111, af_61_114, af_61_115, af_61_116, af_61_119, af_61_121, af_61_122, af_61_125, af_61_126, af_61_127, af_61_130, af_61_132, af_61_133, af_61_136, af_61_137, af_61_138, af_61_141, af_61_142, af_61_143, af_61_144, af_61_146, af_61_148, af_61_151, af_61_152, af_61_153, af_61_156, hf, am_62, am_63, am_58, ay_cl_v, ay_cl_s, ay_i_add, ay_i_mul, ay_i_eq, ay_i_lt, ay_b0, ay_b1, ay_ni, ay_in, ay_nn, ay_nl, ay_ln, if_true, if_false, ↓reduceIte, Nat.reduceAdd, Nat.reduceMul, Nat.reduceEqDiff, Nat.reduceLT, Nat.not_lt_zero, Bool.true_eq_false, Bool.false_eq_true, reduceCtorEq, Nat.add_zero, Nat.zero_add]
  grind [ay_b, ax_u3s]
theorem ag_mk_succ {s w k : Nat} {fl : Bool} (hne : w ≠ s) : ag_ml (ag_mk M s w k fl) s w k (fl || ag_ch M s w k) = ag_mk M s w (k + 1) fl := by
  have h1 : ag_mk M s w k fl 13 s k = M 13 s k := by simp [ag_mk]
  have h2 : ag_mk M s w k fl 14 s k = M 14 s k := by simp [ag_mk]
  have h3 : ag_mk M s w k fl 15 s k = M 15 s k := by simp [ag_mk]
  have h4 : ag_mk M s w k fl 13 w k = M 13 w k := by simp [ag_mk, hne]
  have h5 : ag_mk M s w k fl 14 w k = M 14 w k := by simp [ag_mk, hne]
  have h6 : ag_mk M s w k fl 15 w k = M 15 w k := by simp [ag_mk, hne]
  have hc : ag_ch M s w (k + 1) = (ag_ch M s w k || ag_c1 M s w k) := rfl
  have hd : ag_c1 (ag_mk M s w k fl) s w k = ag_c1 M s w k := by
    unfold ag_c1; rw [h1, h2, h3, h4, h5, h6]
  funext f i j
  unfold ag_ml
  rw [h1, h2, h3, h4, h5, h6, hd]
  simp only [ag_mk, hc]
  grind (splits := 30)
theorem al_59 {s w : Nat} {fl : Bool} (hs : s < 41) (hw : w < 41) (hne : w ≠ s) : ∀ d k, k + d = 8 → ax_fn 59 25 [some (.ref (ax_a 12 s)), some (.ref (ax_a 12 w)), some (.int (ay_i k))] [] (ax_hp X e gb (ag_mk M s w k fl) o) = ax_fn 59 43 [some (.ref (ax_a 12 s)), some (.ref (ax_a 12 w)), some (.int (ay_i 8))] [] (ax_hp X e gb (ag_mk M s w 8 fl) o) := by
  intro d
  induction d with
  | zero =>
    intro k hk
    obtain rfl : k = 8 := by omega
    rw [af_59_25]
    simp (disch := first | omega | assumption | exact ay_z1b _ | exact ay_z10 | exact ay_z11) only [ae_59, af_59_0, af_59_1, af_59_4, af_59_7, af_59_8, af_59_9, af_59_12, af_59_13, af_59_14, af_59_17, af_59_18, af_59_19, af_59_22, af_59_23, af_59_24, af_59_26, af_59_28, af_59_31, af_59_32, af_59_33, af_59_34, af_59_37, af_59_40, af_59_44, af_59_47, af_59_48, af_59_51, af_59_52, af_59_53, af_59_54, af_59_55, af_59_58, af_59_61, af_59_62, af_59_63, af_59_66, af_59_67, af_59_68, af_59_71, ay_cl_v, ay_cl_s, ay_i_add, ay_i_mul, ay_i_eq, ay_i_lt, ay_b0, ay_b1, ay_ni, ay_in, ay_nn, ay_nl, ay_ln, if_true, if_false, ↓reduceIte, Nat.reduceAdd, Nat.reduceMul, Nat.reduceEqDiff, Nat.reduceLT, Nat.not_lt_zero, Bool.true_eq_false, Bool.false_eq_true, reduceCtorEq, Nat.add_zero, Nat.zero_add]
  | succ d ih =>
    intro k hk
    have hlt : k < 8 := by omega
    have hf : ag_mk M s w k fl 12 s 5 = ay_b (fl || ag_ch M s w k) := by simp [ag_mk]
    rw [af_59_25]
    simp (disch := first | omega | assumption | exact ay_z1b _ | exact ay_z10 | exact ay_z11) only [ae_59, af_59_0, af_59_1, af_59_4, af_59_7, af_59_8, af_59_9, af_59_12, af_59_13, af_59_14, af_59_17, af_59_18, af_59_19, af_59_22, af_59_23, af_59_24, af_59_26, af_59_28, af_59_31, af_59_32, af_59_33, af_59_34, af_59_37, af_59_40, af_59_44, af_59_47, af_59_48, af_59_51, af_59_52, af_59_53, af_59_54, af_59_55, af_59_58, af_59_61, af_59_62, af_59_63, af_59_66, af_59_67, af_59_68, af_59_71, hlt, am_61 hs hw hlt hf, ay_cl_v, ay_cl_s, ay_i_add, ay_i_mul, ay_i_eq, ay_i_lt, ay_b0, ay_b1, ay_ni, ay_in, ay_nn, ay_nl, ay_ln, if_true, if_false, ↓reduceIte, Nat.reduceAdd, Nat.reduceMul, Nat.reduceEqDiff, Nat.reduceLT, Nat.not_lt_zero, Bool.true_eq_false, Bool.false_eq_true, reduceCtorEq, Nat.add_zero, Nat.zero_add]
    rw [ag_mk_succ hne]
    exact ih (k + 1) (by omega)
/-- sight s behind a meeting with w, where it was reached -/
def ag_mt (M : ax_M) (s w : Nat) (fl : Bool) : ax_M := fun f i j =>
  if i = s ∧ f = 12 ∧ j = 3 then M 12 s 3 &&& M 12 w 3
  else if i = s ∧ f = 12 ∧ j = 5 then ay_b ((fl || ag_ch M s w 8) || decide (¬ M 12 s 3 &&& M 12 w 3 = M 12 s 3))
  else ag_mk M s w 8 fl f i j
theorem am_59a {s w : Nat} {fl : Bool} (hs : s < 41) (hw : w < 41) (hne : w ≠ s) (hf : M 12 s 5 = ay_b fl) (hr : M 12 s 4 = ay_i 1) : ax_fn 59 0 (ax_entry 59 [.ref (ax_a 12 s), .ref (ax_a 12 w)]) [] (ax_hp X e gb M o) = some (.inl none, ax_hp X e gb (ag_mt M s w fl) o) := by
  have hl := al_59 (X := X) (e := e) (gb := gb) (M := M) (o := o) (fl := fl) hs hw hne 8 0 (by omega)
  rw [ag_mk0 hf] at hl
  simp (disch := first | omega | assumption | exact ay_z1b _ | exact ay_z10 | exact ay_z11) only [ae_59, af_59_0, af_59_1, af_59_4, af_59_7, af_59_8, af_59_9, af_59_12, af_59_13, af_59_14, af_59_17, af_59_18, af_59_19, af_59_22, af_59_23, af_59_24, af_59_26, af_59_28, af_59_31, af_59_32, af_59_33, af_59_34, af_59_37, af_59_40, af_59_44, af_59_47, af_59_48, af_59_51, af_59_52, af_59_53, af_59_54, af_59_55, af_59_58, af_59_61, af_59_62, af_59_63, af_59_66, af_59_67, af_59_68, af_59_71, hr, ay_cl_v, ay_cl_s, ay_i_add, ay_i_mul, ay_i_eq, ay_i_lt, ay_b0, ay_b1, ay_ni, ay_in, ay_nn, ay_nl, ay_ln, if_true, if_false, ↓reduceIte, Nat.reduceAdd, Nat.reduceMul, Nat.reduceEqDiff, Nat.reduceLT, Nat.not_lt_zero, Bool.true_eq_false, Bool.false_eq_true, reduceCtorEq, Nat.add_zero, Nat.zero_add]
  rw [hl]
  simp (disch := first | omega | assumption | exact ay_z1b _ | exact ay_z10 | exact ay_z11) only [ae_59, af_59_0, af_59_1, af_59_4, af_59_7, af_59_8, af_59_9, af_59_12, af_59_13, af_59_14, af_59_17, af_59_18, af_59_19, af_59_22, af_59_23, af_59_24, af_59_26, af_59_28, af_59_31, af_59_32, af_59_33, af_59_34, af_59_37, af_59_40, af_59_43, af_59_44, af_59_47, af_59_48, af_59_51, af_59_52, af_59_53, af_59_54, af_59_55, af_59_58, af_59_61, af_59_62, af_59_63, af_59_66, af_59_67, af_59_68, af_59_71, ay_cl_v, ay_cl_s, ay_i_add, ay_i_mul, ay_i_eq, ay_i_lt, ay_b0, ay_b1, ay_ni, ay_in, ay_nn, ay_nl, ay_ln, if_true, if_false, ↓reduceIte, Nat.reduceAdd, Nat.reduceMul, Nat.reduceEqDiff, Nat.reduceLT, Nat.not_lt_zero, Bool.true_eq_false, Bool.false_eq_true, reduceCtorEq, Nat.add_zero, Nat.zero_add]
  have h1 : ag_mk M s w 8 fl 12 s 3 = M 12 s 3 := by simp [ag_mk]
  have h2 : ag_mk M s w 8 fl 12 w 3 = M 12 w 3 := by simp [ag_mk]
  have h5 : ag_mk M s w 8 fl 12 s 5 = ay_b (fl || ag_ch M s w 8) := by simp [ag_mk]
  rw [h1, h2]
  split
  · rename_i hq
    congr 3
    funext f i j
    unfold ag_mt
    grind [ay_b]
  · rename_i hq
    congr 3
    funext f i j
    unfold ag_mt ax_u3
    grind [ay_b]
theorem am_59b {s w : Nat} (hs : s < 41) (hw : w < 41) (hne : w ≠ s) (hr : M 12 s 4 = ay_i 0) : ax_fn 59 0 (ax_entry 59 [.ref (ax_a 12 s), .ref (ax_a 12 w)]) [] (ax_hp X e gb M o) = some (.inl none, ax_hp X e gb (ax_u3 (ax_u3 (ax_u3 (ax_r3 (ax_r3 (ax_r3 M 13 s (fun j => if j < 8 then M 13 w j else M 13 s j)) 14 s (fun j => if j < 8 then M 14 w j else M 14 s j)) 15 s (fun j => if j < 8 then M 15 w j else M 15 s j)) 12 s 3 (M 12 w 3)) 12 s 4 (ay_i 1)) 12 s 5 (ay_i 1)) o) := by
  simp (disch := first | omega | assumption | exact ay_z1b _ | exact ay_z10 | exact ay_z11) only [ae_59, af_59_0, af_59_1, af_59_4, af_59_7, af_59_8, af_59_9, af_59_12, af_59_13, af_59_14, af_59_17, af_59_18, af_59_19, af_59_22, af_59_23, af_59_24, af_59_26, af_59_28, af_59_31, af_59_32, af_59_33, af_59_34, af_59_37, af_59_40, af_59_44, af_59_47, af_59_48, af_59_51, af_59_52, af_59_53, af_59_54, af_59_55, af_59_58, af_59_61, af_59_62, af_59_63, af_59_66, af_59_67, af_59_68, af_59_71, hr, am_60 hs hw hne, ay_cl_v, ay_cl_s, ay_i_add, ay_i_mul, ay_i_eq, ay_i_lt, ay_b0, ay_b1, ay_ni, ay_in, ay_nn, ay_nl, ay_ln, if_true, if_false, ↓reduceIte, Nat.reduceAdd, Nat.reduceMul, Nat.reduceEqDiff, Nat.reduceLT, Nat.not_lt_zero, Bool.true_eq_false, Bool.false_eq_true, reduceCtorEq, Nat.add_zero, Nat.zero_add]
end AmU
