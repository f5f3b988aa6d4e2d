/-! A PROGRAM as plain numbers (P: families 31 to 44 of a memory, as the reference lays them), and what an instruction does to a sight -/
def ap_sz (P : ax_M) (b : Nat) : Nat := (P 40 0 b).toNatClampNeg
def ap_mn (P : ax_M) (b : Nat) : Nat := (P 33 0 b).toNatClampNeg
def ap_o (P : ax_M) (b p : Nat) : Nat := (P 41 0 (40 * b + p)).toNatClampNeg
def ap_x (P : ax_M) (b p : Nat) : Nat := (P 42 0 (40 * b + p)).toNatClampNeg
def ap_y (P : ax_M) (b p : Nat) : Nat := (P 43 0 (40 * b + p)).toNatClampNeg
def ap_z (P : ax_M) (b p : Nat) : Nat := (P 44 0 (40 * b + p)).toNatClampNeg
def ap_su (P : ax_M) (f : Nat) : Bool := decide (P 32 0 f = ay_i 1)
def ap_nu (P : ax_M) (q : Nat) : Bool := decide (P 35 0 q = ay_i 1)
def ap_rs (P : ax_M) (f : Nat) : Bool := decide (P 38 0 f = ay_i 1)
/-- a number below n -/
def ap_nb (v : Int32) (n : Nat) : Prop := ∃ q, q < n ∧ v = ay_i q
def ap_wi (P : ax_M) (b p : Nat) : Prop := P 41 0 (40 * b + p) = ay_i (ap_o P b p) ∧ ap_o P b p ≤ 8 ∧ (ap_o P b p ≠ 6 → P 42 0 (40 * b + p) = ay_i (ap_x P b p) ∧ ap_x P b p < 8)
  ∧ (ap_o P b p = 0 ∨ ap_o P b p = 3 ∨ ap_o P b p = 4 → P 43 0 (40 * b + p) = ay_i (ap_y P b p) ∧ ap_y P b p < 8)
  ∧ (ap_o P b p = 2 ∨ ap_o P b p = 7 → (P 43 0 (40 * b + p) = ay_i (ap_y P b p) ∧ ap_y P b p < 6) ∧ P 44 0 (40 * b + p) = ay_i (ap_z P b p) ∧ ap_z P b p < 8)
  ∧ (ap_o P b p = 3 ∨ ap_o P b p = 4 → P 44 0 (40 * b + p) = ay_i (ap_z P b p) ∧ ap_z P b p < 4)
def ap_wf (P : ax_M) : Prop := (∀ b, b < 12 → P 40 0 b = ay_i (ap_sz P b) ∧ ap_sz P b ≤ 40) ∧ (∀ b, b < 12 → P 33 0 b = ay_i (ap_mn P b) ∧ ap_mn P b ≤ 3)
  ∧ (∀ b p, b < 12 → p < ap_sz P b → ap_wi P b p)
  ∧ (∀ f, f < 24 → ap_nb (P 31 0 f) 6 ∧ P 32 0 f = ay_b (ap_su P f))
  ∧ (∀ q, q < 36 → ap_nb (P 34 0 q) 6 ∧ P 35 0 q = ay_b (ap_nu P q) ∧ ap_nb (P 36 0 q) 3)
  ∧ (∀ f, f < 6 → ap_nb (P 37 0 f) 6 ∧ P 38 0 f = ay_b (ap_rs P f) ∧ ap_nb (P 39 0 f) 3)
/-- the class's memory holds the program -/
def ac_p (M P : ax_M) : Prop := (∀ b, b < 12 → M 3 b 6 = P 40 0 b ∧ M 3 b 7 = P 33 0 b)
  ∧ (∀ b p, b < 12 → p < 40 → M 4 b p = P 41 0 (40 * b + p) ∧ M 5 b p = P 42 0 (40 * b + p) ∧ M 6 b p = P 43 0 (40 * b + p) ∧ M 7 b p = P 44 0 (40 * b + p))
  ∧ (∀ f, f < 24 → M 10 f 0 = P 31 0 f ∧ M 10 f 1 = ay_b (!ap_su P f) ∧ M 10 f 2 = ay_i 0)
  ∧ (∀ b k, b < 12 → k < ap_mn P b → M 10 (24 + 3 * b + k) 0 = P 34 0 (3 * b + k) ∧ M 10 (24 + 3 * b + k) 1 = ay_b (ap_nu P (3 * b + k)) ∧ M 10 (24 + 3 * b + k) 2 = P 36 0 (3 * b + k))
  ∧ (∀ f, f < 6 → M 10 (60 + (6 + f)) 0 = P 37 0 f ∧ M 10 (60 + (6 + f)) 1 = ay_b (!ap_rs P f) ∧ M 10 (60 + (6 + f)) 2 = P 39 0 f)
/-- the reference's memory holds the program -/
def ac_m (M P : ax_M) : Prop := ∀ f j, 31 ≤ f → f ≤ 44 → M f 0 j = P f 0 j
theorem ac_p_fr {M M' P : ax_M} (h : ac_p M P) (hf : ∀ f i j, f < 11 → M' f i j = M f i j) : ac_p M' P := by
  obtain ⟨h1, h2, h3, h4, h5⟩ := h
  refine ⟨fun b hb => ?_, fun b p hb hp => ?_, fun f hf' => ?_, fun b k hb hk => ?_, fun f hf' => ?_⟩
  · rw [hf 3 b 6 (by omega), hf 3 b 7 (by omega)]; exact h1 b hb
  · rw [hf 4 b p (by omega), hf 5 b p (by omega), hf 6 b p (by omega), hf 7 b p (by omega)]; exact h2 b p hb hp
  · rw [hf 10 f 0 (by omega), hf 10 f 1 (by omega), hf 10 f 2 (by omega)]; exact h3 f hf'
  · rw [hf 10 _ 0 (by omega), hf 10 _ 1 (by omega), hf 10 _ 2 (by omega)]; exact h4 b k hb hk
  · rw [hf 10 _ 0 (by omega), hf 10 _ 1 (by omega), hf 10 _ 2 (by omega)]; exact h5 f hf'
def ag_fit (v : ag_L) (dc : Int32) (nb : Bool) (ds : Int32) : Prop := ((v.1 = dc ∨ v.1 = ay_n 1) ∧ (v.2.1 = ay_i 0 ∨ nb = true)) ∧ (v.2.2 = ds ∨ ds = ay_i 2 ∨ v.2.1 = ay_i 2)
def ag_st (σ : Nat → ag_L) (x : Nat) (v : ag_L) : Nat → ag_L := fun l => if l = x then v else σ l
/-- all parameters of body c fit the locals from z on -/
def ag_af (P : ax_M) (c z : Nat) (σ : Nat → ag_L) : Prop := ∀ k, k < ap_mn P c → z + k < 8 ∧ ag_fit (σ (z + k)) (P 34 0 (3 * c + k)) (ap_nu P (3 * c + k)) (P 36 0 (3 * c + k))
def ag_dn (v : ag_L) : Prop := v.2.2 = ay_i 0 ∨ v.2.1 = ay_i 2
def ag_fe (v : ag_L) : Prop := v.2.2 = ay_i 1 ∧ v.2.1 = ay_i 0
noncomputable def ag_so (σ : Nat → ag_L) (z n : Nat) : Int32 := @ite _ (∀ k, k < n → ag_dn (σ (z + k))) (Classical.propDecidable _) (ay_i 0) (@ite _ (∃ k, k < n ∧ ag_fe (σ (z + k))) (Classical.propDecidable _) (ay_i 1) (ay_i 2))
def ag_ob (v : ag_L) : Prop := ¬ v.1 < ay_i 0 ∧ v.2.1 = ay_i 0
/-- the field's number that local v's class and z name -/
def ag_fd (v : ag_L) (z : Nat) : Nat := 4 * v.1.toNatClampNeg + z
def ag_ro (P : ax_M) (b : Nat) (w : Int32) : Prop := ∀ k, k < 4 → ap_su P (4 * b + k) = true → ¬ (w >>> (ay_i k &&& 31)) &&& ay_i 1 = ay_i 0
/-- the instruction at place p of body b cannot be done -/
def ag_no (P : ax_M) (b n p : Nat) (s : ag_S) : Prop := match ap_o P b p with
  | 0 => (b < 6 ∧ ap_x P b p = 7) ∨ (s.1 (ap_y P b p)).1 = ay_n 2 ∨ ¬ p + 1 < n
  | 1 => (b < 6 ∧ ap_x P b p = 7) ∨ ¬ p + 1 < n
  | 2 => (b < 6 ∧ ap_x P b p = 7) ∨ ¬ ag_af P (ap_y P b p) (ap_z P b p) s.1 ∨ ¬ p + 1 < n
  | 3 => (b < 6 ∧ ap_x P b p = 7) ∨ ¬ ag_ob (s.1 (ap_y P b p)) ∨ ¬ p + 1 < n
  | 4 => ¬ ag_ob (s.1 (ap_x P b p)) ∨ ¬ (((s.1 (ap_y P b p)).1 = P 31 0 (ag_fd (s.1 (ap_x P b p)) (ap_z P b p)) ∨ (s.1 (ap_y P b p)).1 = ay_n 1) ∧ ((s.1 (ap_y P b p)).2.1 = ay_i 0 ∨ (!ap_su P (ag_fd (s.1 (ap_x P b p)) (ap_z P b p))) = true)) ∨ ¬ ((s.1 (ap_x P b p)).2.2 = ay_i 1 ∨ ag_dn (s.1 (ap_y P b p))) ∨ ¬ p + 1 < n
  | 5 => (s.1 (ap_x P b p)).1 = ay_n 2 ∨ ay_w (P 43 0 (40 * b + p)) (ay_i n) = false ∨ ¬ p + 1 < n
  | 6 => ay_w (P 43 0 (40 * b + p)) (ay_i n) = false
  | 7 => (b < 6 ∧ ap_x P b p = 7) ∨ ¬ ag_af P (6 + ap_y P b p) (ap_z P b p) s.1 ∨ ¬ p + 1 < n
  | _ => if b < 6 then ¬ ag_ro P b s.2 else ¬ ag_fit (s.1 (ap_x P b p)) (P 37 0 (b - 6)) (!ap_rs P (b - 6)) (P 39 0 (b - 6))
/-- where it goes on, with what -/
noncomputable def ag_ou (P : ax_M) (b p : Nat) (s : ag_S) : List (Nat × ag_S) := match ap_o P b p with
  | 0 => [(p + 1, (ag_st s.1 (ap_x P b p) (s.1 (ap_y P b p)), s.2))]
  | 1 => [(p + 1, (ag_st s.1 (ap_x P b p) (ay_n 1, ay_i 2, ay_i 0), s.2))]
  | 2 => [(p + 1, (ag_st s.1 (ap_x P b p) (ay_i (ap_y P b p), ay_i 0, ag_so s.1 (ap_z P b p) (ap_mn P (ap_y P b p))), s.2))]
  | 3 => [(p + 1, (ag_st s.1 (ap_x P b p) (P 31 0 (ag_fd (s.1 (ap_y P b p)) (ap_z P b p)), (if (s.1 (ap_y P b p)).2.2 = ay_i 0 ∧ ap_su P (ag_fd (s.1 (ap_y P b p)) (ap_z P b p)) = true then ay_i 0 else ay_i 1), (if (s.1 (ap_y P b p)).2.2 = ay_i 0 then ay_i 0 else ay_i 2)), s.2))]
  | 4 => [(p + 1, (s.1, if b < 6 ∧ ap_x P b p = 7 then s.2 ||| ay_i 1 <<< (ay_i (ap_z P b p) &&& 31) else s.2))]
  | 5 => (if (s.1 (ap_x P b p)).2.1 = ay_i 0 then [] else [((P 43 0 (40 * b + p)).toNatClampNeg, (ag_st s.1 (ap_x P b p) ((s.1 (ap_x P b p)).1, ay_i 2, (s.1 (ap_x P b p)).2.2), s.2))]) ++ (if (s.1 (ap_x P b p)).2.1 = ay_i 2 then [] else [(p + 1, (ag_st s.1 (ap_x P b p) ((s.1 (ap_x P b p)).1, ay_i 0, (s.1 (ap_x P b p)).2.2), s.2))])
  | 6 => [((P 43 0 (40 * b + p)).toNatClampNeg, s)]
  | 7 => [(p + 1, (ag_st s.1 (ap_x P b p) (P 37 0 (ap_y P b p), ay_b (!ap_rs P (ap_y P b p)), P 39 0 (ap_y P b p)), s.2))]
  | _ => []
/-- classes are none, nothing, or one of the six -/
def ag_wl (v : ag_L) : Prop := v.1 = ay_n 2 ∨ v.1 = ay_n 1 ∨ ap_nb v.1 6
def ag_ws (s : ag_S) : Prop := ∀ l, ag_wl (s.1 l)
