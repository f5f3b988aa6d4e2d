/-! THE CONSTRUCTORS: a heap of lists, on which the kernel can count; and that its run is the machine's -/
abbrev al_C : Type := (Nat × Nat) × List (Nat × Int32) × List (Nat × Nat)
abbrev al_H : Type := Nat × Nat × List al_C
def al_lk : List (Nat × Int32) → Nat → Int32
  | [], _ => 0
  | q :: t, j => if j = q.1 then q.2 else al_lk t j
def al_lr : List (Nat × Nat) → Nat → Option Nat
  | [], _ => none
  | q :: t, j => if j = q.1 then some q.2 else al_lr t j
def al_nt : List al_C → Nat → al_C
  | [], _ => ((0, 0), [], [])
  | c :: _, 0 => c
  | _ :: t, p + 1 => al_nt t p
def al_md : List al_C → Nat → (al_C → al_C) → List al_C
  | [], _, _ => []
  | c :: t, 0, f => f c :: t
  | c :: t, p + 1, f => c :: al_md t p f
def al_ce (H : al_H) (a : Nat) : al_C := al_nt H.2.2 (H.1 - 1 - a)
def al_up (H : al_H) (a : Nat) (f : al_C → al_C) : al_H := (H.1, H.2.1, al_md H.2.2 (H.1 - 1 - a) f)
def al_nw (H : al_H) (kd n : Nat) : al_H := (H.1 + 1, H.2.1 + n, ((kd, n), [], []) :: H.2.2)
def al_pi (y : Nat) (v : Int32) (c : al_C) : al_C := (c.1, (y, v) :: c.2.1, c.2.2)
def al_pr (y v : Nat) (c : al_C) : al_C := (c.1, c.2.1, (y, v) :: c.2.2)
def al_to (X : Nat × (Nat → Int32)) (H : al_H) : ax_H := ((H.1, H.2.1), (fun a => if a < H.1 then (al_ce H a).1 else if a = 1000000000 then (99, X.1) else (0, 0)), (fun a => if a < H.1 then al_lk (al_ce H a).2.1 else if a = 1000000000 then X.2 else fun _ => 0), (fun a => if a < H.1 then al_lr (al_ce H a).2.2 else fun _ => none), fun _ _ => 0)
def al_iv (H : al_H) : Prop := H.1 = H.2.2.length ∧ H.1 ≤ 900000000
def al_hd : ax_H := ((0, 0), (fun _ => (0, 0)), (fun _ _ => 0), (fun _ _ => none), (fun _ _ => 0))
abbrev al_G : Type := Option (Nat × ax_L × List Value × al_H)
def al_15 (pc : Nat) (ls : ax_L) (st : List Value) (H : al_H) (x y : Nat) : al_G := match st with
  | .ref a :: r => if a < H.1 ∧ (al_ce H a).1.1 = x + 1 ∧ x < 9 ∧ y < ax_nf x ∧ ax_ft x y = 2 then (al_lr (al_ce H a).2.2 y).map fun v => (pc, ls, .ref v :: r, H) else none
  | _ => none
def al_17 (pc : Nat) (ls : ax_L) (st : List Value) (H : al_H) (x y : Nat) : al_G := match st with
  | .int v :: .ref a :: r => if a < H.1 ∧ (al_ce H a).1.1 = x + 1 ∧ x < 9 ∧ y < ax_nf x ∧ (ax_ft x y = 0 ∨ (ax_ft x y = 1 ∧ (v = 0 ∨ v = 1))) then some (pc, ls, r, al_up H a (al_pi y v)) else none
  | .ref v :: .ref a :: r => if a < H.1 ∧ (al_ce H a).1.1 = x + 1 ∧ x < 9 ∧ y < ax_nf x ∧ ax_ft x y = 2 then some (pc, ls, r, al_up H a (al_pr y v)) else none
  | _ => none
def al_25 (pc : Nat) (ls : ax_L) (st : List Value) (H : al_H) : al_G := match st with
  | .int i :: .ref a :: r => if a < H.1 ∧ ax_ra (al_ce H a).1.1 = true ∧ ax_out i (al_ce H a).1.2 = false then (al_lr (al_ce H a).2.2 i.toNatClampNeg).map fun v => (pc, ls, .ref v :: r, H) else none
  | _ => none
def al_26 (pc : Nat) (ls : ax_L) (st : List Value) (H : al_H) : al_G := match st with
  | .ref v :: .int i :: .ref a :: r => if a < H.1 ∧ v < H.1 ∧ ax_ra (al_ce H a).1.1 = true ∧ (al_ce H v).1.1 + 29 = (al_ce H a).1.1 ∧ ax_out i (al_ce H a).1.2 = false then some (pc, ls, r, al_up H a (al_pr i.toNatClampNeg v)) else none
  | _ => none
def al_28 (pc : Nat) (ls : ax_L) (st : List Value) (H : al_H) (x : Nat) : al_G := if x < 9 ∧ H.1 < 900000000 then some (pc, ls, .ref H.1 :: st, al_nw H (x + 1) (ax_nf x)) else none
def al_29 (pc : Nat) (ls : ax_L) (st : List Value) (H : al_H) (x : Nat) : al_G := match st with
  | .int n :: r => if H.1 < 900000000 ∧ ¬ n < 0 ∧ n.toNatClampNeg ≤ 10000 ∧ (x = 20 ∨ x = 21 ∨ x = 22) then some (pc, ls, .ref H.1 :: r, al_nw H x n.toNatClampNeg) else none
  | _ => none
def al_30 (pc : Nat) (ls : ax_L) (st : List Value) (H : al_H) (x : Nat) : al_G := match st with
  | .int n :: r => if H.1 < 900000000 ∧ ¬ n < 0 ∧ n.toNatClampNeg ≤ 10000 ∧ (x = 0 ∨ x = 1 ∨ x = 2 ∨ x = 6) then some (pc, ls, .ref H.1 :: r, al_nw H (x + 30) n.toNatClampNeg) else none
  | _ => none
def al_step (k pc : Nat) (r : ax_R) (ls : ax_L) (st : List Value) (H : al_H) : al_G :=
  if r.1 ≤ 5 ∨ r.1 = 10 ∨ r.1 = 13 ∨ r.1 = 14 ∨ r.1 = 31 then (ax_step k pc r ls st al_hd).map fun z => (z.1, z.2.1, z.2.2.1, H)
  else if r.1 = 15 ∨ r.1 = 16 then al_15 (pc + r.2.1) ls st H r.2.2.1 r.2.2.2.1
  else if r.1 = 17 ∨ r.1 = 18 then al_17 (pc + r.2.1) ls st H r.2.2.1 r.2.2.2.1
  else if r.1 = 25 then al_25 (pc + r.2.1) ls st H
  else if r.1 = 26 then al_26 (pc + r.2.1) ls st H
  else if r.1 = 28 then al_28 (pc + r.2.1) ls st H r.2.2.1
  else if r.1 = 29 then al_29 (pc + r.2.1) ls st H r.2.2.1
  else if r.1 = 30 then al_30 (pc + r.2.1) ls st H r.2.2.1
  else none
def al_exec : Nat → Nat → Nat → ax_L → List Value → al_H → Option al_H
  | 0, _, _, _, _, _ => none
  | n + 1, k, pc, ls, st, H => match ax_code k pc with
    | none => none
    | some r => if r.1 < 40 then (match al_step k pc r ls st H with
        | some z => al_exec n k z.1 z.2.1 z.2.2.1 z.2.2.2
        | none => none)
      else if r.1 = 43 ∨ r.1 = 44 then (if r.2.2.2.1 ≤ st.length ∧ ax_ca r.1 r.2.2.1 (st.take r.2.2.2.1).reverse (st.drop r.2.2.2.1) al_hd = true then (match al_exec n r.2.2.1 0 (ax_entry r.2.2.1 (st.take r.2.2.2.1).reverse) [] H with
          | some H1 => al_exec n k (pc + 3) ls (st.drop r.2.2.2.1) H1
          | none => none)
        else none)
      else if r.1 = 51 ∧ st.isEmpty = true then some H else none
/-- the law up to its loop -/
def al_pre : Nat → Nat → ax_L → List Value → al_H → Option (ax_L × List Value × al_H)
  | 0, _, _, _, _ => none
  | n + 1, pc, ls, st, H => if pc = 23 then some (ls, st, H) else match ax_code 0 pc with
    | none => none
    | some r => if r.1 < 40 then (match al_step 0 pc r ls st H with
        | some z => al_pre n z.1 z.2.1 z.2.2.1 z.2.2.2
        | none => none)
      else if r.1 = 43 ∨ r.1 = 44 then (if r.2.2.2.1 ≤ st.length ∧ ax_ca r.1 r.2.2.1 (st.take r.2.2.2.1).reverse (st.drop r.2.2.2.1) al_hd = true then (match al_exec 1000 r.2.2.1 0 (ax_entry r.2.2.1 (st.take r.2.2.2.1).reverse) [] H with
          | some H1 => al_pre n (pc + 3) ls (st.drop r.2.2.2.1) H1
          | none => none)
        else none)
      else none
theorem al_md_len (l : List al_C) (f : al_C → al_C) : ∀ p, (al_md l p f).length = l.length := by
  induction l with
  | nil => intro p; rfl
  | cons c t ih =>
    intro p
    cases p with
    | zero => rfl
    | succ p => simp only [al_md, List.length_cons, ih p]
theorem al_nt_md (l : List al_C) (f : al_C → al_C) : ∀ p q, p < l.length → al_nt (al_md l p f) q = if q = p then f (al_nt l p) else al_nt l q := by
  induction l with
  | nil => intro p q h; cases h
  | cons c t ih =>
    intro p q h
    cases p with
    | zero =>
      cases q with
      | zero => rfl
      | succ q => rfl
    | succ p =>
      cases q with
      | zero => simp [al_md, al_nt]
      | succ q =>
        simp only [al_md, al_nt, List.length_cons] at h ⊢
        rw [ih p q (by omega)]
        simp
section AlS
variable {X : Nat × (Nat → Int32)} {H H' : al_H} {k pc x y a : Nat} {ls : ax_L} {st : List Value}
theorem al_iv_up {f : al_C → al_C} (h : al_iv H) : al_iv (al_up H a f) := ⟨by show H.1 = (al_md _ _ _).length; rw [al_md_len]; exact h.1, h.2⟩
theorem al_iv_nw {kd n : Nat} (h : al_iv H) (hlt : H.1 < 900000000) : al_iv (al_nw H kd n) := ⟨by show H.1 + 1 = (_ :: _).length; rw [List.length_cons, h.1], by show H.1 + 1 ≤ _; omega⟩
theorem al_ce_up {f : al_C → al_C} (h : al_iv H) (ha : a < H.1) {b : Nat} (hb : b < H.1) : al_ce (al_up H a f) b = if b = a then f (al_ce H a) else al_ce H b := by
  have h1 := h.1
  show al_nt (al_md H.2.2 (H.1 - 1 - a) f) (H.1 - 1 - b) = _
  rw [al_nt_md _ _ _ _ (by omega)]
  by_cases hab : b = a
  · subst hab; rw [if_pos rfl, if_pos rfl]; rfl
  · rw [if_neg (by omega), if_neg hab]; rfl
theorem al_ce_nw {kd n b : Nat} (hb : b < H.1 + 1) : al_ce (al_nw H kd n) b = if b = H.1 then ((kd, n), [], []) else al_ce H b := by
  show al_nt (((kd, n), [], []) :: H.2.2) (H.1 + 1 - 1 - b) = _
  by_cases hab : b = H.1
  · subst hab
    have : H.1 + 1 - 1 - H.1 = 0 := by omega
    rw [this, if_pos rfl]; rfl
  · have : H.1 + 1 - 1 - b = (H.1 - 1 - b) + 1 := by omega
    rw [this, if_neg hab]; rfl
theorem al_to_sp (ha : a < H.1) : (al_to X H).2.1 a = (al_ce H a).1 := by
  show (if a < H.1 then _ else _) = _
  rw [if_pos ha]
theorem al_to_rf (ha : a < H.1) : (al_to X H).2.2.2.1 a = al_lr (al_ce H a).2.2 := by
  show (if a < H.1 then _ else _) = _
  rw [if_pos ha]
theorem al_to_pi {v : Int32} (h : al_iv H) (ha : a < H.1) : al_to X (al_up H a (al_pi y v)) = ((al_to X H).1, (al_to X H).2.1, ax_up (al_to X H).2.2.1 a y v, (al_to X H).2.2.2) := by
  unfold al_to
  have e1 : (al_up H a (al_pi y v)).1 = H.1 := rfl
  have e2 : (al_up H a (al_pi y v)).2.1 = H.2.1 := rfl
  rw [e1, e2]
  refine Prod.ext rfl (Prod.ext ?_ (Prod.ext ?_ (Prod.ext ?_ rfl)))
  · funext b
    by_cases hb : b < H.1
    · simp only [hb, if_true, al_ce_up h ha hb]
      by_cases hab : b = a
      · subst hab; simp [al_pi]
      · simp [hab]
    · simp [hb]
  · funext b j
    by_cases hb : b < H.1
    · simp only [hb, if_true, al_ce_up h ha hb, ax_up]
      by_cases hab : b = a
      · subst hab; simp [al_pi, al_lk]
      · simp [hab]
    · have hab : ¬ b = a := by omega
      simp [hb, ax_up, hab]
  · funext b
    by_cases hb : b < H.1
    · simp only [hb, if_true, al_ce_up h ha hb]
      by_cases hab : b = a
      · subst hab; simp [al_pi]
      · simp [hab]
    · simp [hb]
theorem al_to_pr {v : Nat} (h : al_iv H) (ha : a < H.1) : al_to X (al_up H a (al_pr y v)) = ((al_to X H).1, (al_to X H).2.1, (al_to X H).2.2.1, ax_up (al_to X H).2.2.2.1 a y (some v), (al_to X H).2.2.2.2) := by
  unfold al_to
  have e1 : (al_up H a (al_pr y v)).1 = H.1 := rfl
  have e2 : (al_up H a (al_pr y v)).2.1 = H.2.1 := rfl
  rw [e1, e2]
  refine Prod.ext rfl (Prod.ext ?_ (Prod.ext ?_ (Prod.ext ?_ rfl)))
  · funext b
    by_cases hb : b < H.1
    · simp only [hb, if_true, al_ce_up h ha hb]
      by_cases hab : b = a
      · subst hab; simp [al_pr]
      · simp [hab]
    · simp [hb]
  · funext b
    by_cases hb : b < H.1
    · simp only [hb, if_true, al_ce_up h ha hb]
      by_cases hab : b = a
      · subst hab; simp [al_pr]
      · simp [hab]
    · simp [hb]
  · funext b j
    by_cases hb : b < H.1
    · simp only [hb, if_true, al_ce_up h ha hb, ax_up]
      by_cases hab : b = a
      · subst hab; simp [al_pr, al_lr]
      · simp [hab]
    · have hab : ¬ b = a := by omega
      simp [hb, ax_up, hab]
theorem al_to_nw {kd n : Nat} (hlt : H.1 < 900000000) : al_to X (al_nw H kd n) = ax_new (al_to X H) kd n := by
  unfold al_to ax_new
  have e1 : (al_nw H kd n).1 = H.1 + 1 := rfl
  have e2 : (al_nw H kd n).2.1 = H.2.1 + n := rfl
  rw [e1, e2]
  refine Prod.ext rfl (Prod.ext ?_ (Prod.ext ?_ (Prod.ext ?_ ?_)))
  · funext b
    simp only [ax_sh]
    by_cases hb : b < H.1 + 1
    · simp only [hb, if_true, al_ce_nw hb]
      by_cases hab : b = H.1
      · simp [hab]
      · have : b < H.1 := by omega
        simp [hab, this]
    · have h1 : ¬ b < H.1 := by omega
      have h2 : ¬ b = H.1 := by omega
      simp [hb, h1, h2]
  · funext b
    simp only [ax_rw]
    by_cases hb : b < H.1 + 1
    · simp only [hb, if_true, al_ce_nw hb]
      by_cases hab : b = H.1
      · simp only [hab, if_true]; funext j; rfl
      · have : b < H.1 := by omega
        simp [hab, this]
    · have h1 : ¬ b < H.1 := by omega
      have h2 : ¬ b = H.1 := by omega
      simp [hb, h1, h2]
  · funext b
    simp only [ax_rw]
    by_cases hb : b < H.1 + 1
    · simp only [hb, if_true, al_ce_nw hb]
      by_cases hab : b = H.1
      · simp only [hab, if_true]; funext j; rfl
      · have : b < H.1 := by omega
        simp [hab, this]
    · have h1 : ¬ b < H.1 := by omega
      have h2 : ¬ b = H.1 := by omega
      simp [hb, h1, h2]
  · funext b j
    simp only [ax_rw]
    split <;> rfl
theorem al_ag {r : ax_R} {h : ax_H} (ho : r.1 ≤ 5 ∨ r.1 = 10 ∨ r.1 = 13 ∨ r.1 = 14 ∨ r.1 = 31) : ax_step k pc r ls st h = (ax_step k pc r ls st al_hd).map fun z => (z.1, z.2.1, z.2.2.1, h) := by
  obtain ⟨op, ln, x, y, v⟩ := r
  simp only at ho
  have : op = 0 ∨ op = 1 ∨ op = 2 ∨ op = 3 ∨ op = 4 ∨ op = 5 ∨ op = 10 ∨ op = 13 ∨ op = 14 ∨ op = 31 := by omega
  rcases this with rfl | rfl | rfl | rfl | rfl | rfl | rfl | rfl | rfl | rfl
  · rfl
  · show ax_s1 _ _ _ _ _ = (ax_s1 _ _ _ _ _).map _
    unfold ax_s1; split <;> rfl
  · show ax_s2 _ _ _ _ _ = (ax_s2 _ _ _ _ _).map _
    unfold ax_s2; split <;> rfl
  · show ax_s3 _ _ _ _ _ = (ax_s3 _ _ _ _ _).map _
    unfold ax_s3; split
    · split <;> rfl
    · rfl
  · show ax_s4 _ _ _ _ _ = (ax_s4 _ _ _ _ _).map _
    unfold ax_s4; split
    · split <;> rfl
    · rfl
  · show ax_s5 _ _ _ _ _ _ = (ax_s5 _ _ _ _ _ _).map _
    unfold ax_s5; split <;> rfl
  · show ax_s10 _ _ _ _ = (ax_s10 _ _ _ _).map _
    unfold ax_s10; split <;> rfl
  · show ax_s13 _ _ _ _ _ _ = (ax_s13 _ _ _ _ _ _).map _
    unfold ax_s13; split <;> rfl
  · rfl
  · show ax_s31 _ _ _ _ = (ax_s31 _ _ _ _).map _
    unfold ax_s31; split
    · split <;> rfl
    · rfl
theorem al_sim {r : ax_R} {z : Nat × ax_L × List Value × al_H} (h : al_iv H) (hs : al_step k pc r ls st H = some z) : ax_step k pc r ls st (al_to X H) = some (z.1, z.2.1, z.2.2.1, al_to X z.2.2.2) ∧ al_iv z.2.2.2 := by
  unfold al_step at hs
  split at hs
  · rename_i ho
    rw [al_ag ho]
    rw [Option.map_eq_some_iff] at hs
    obtain ⟨w, hw, rfl⟩ := hs
    rw [hw]
    exact ⟨rfl, h⟩
  obtain ⟨op, ln, x, y, v⟩ := r
  split at hs
  · rename_i ho
    have : ax_step k pc (op, ln, x, y, v) ls st (al_to X H) = ax_s15 (pc + ln) ls st (al_to X H) x y := by
      rcases ho with ho | ho <;> (simp only at ho; subst ho; rfl)
    rw [this]
    unfold al_15 at hs
    split at hs
    · rename_i a r' 
      split at hs
      · rename_i hc
        obtain ⟨c1, c2, c3, c4, c5⟩ := hc
        rw [Option.map_eq_some_iff] at hs
        obtain ⟨w, hw, rfl⟩ := hs
        refine ⟨?_, h⟩
        unfold ax_s15
        simp only
        rw [if_pos ⟨c1, by rw [al_to_sp c1]; exact c2, c3, c4⟩]
        unfold ax_fv
        rw [if_pos c5, al_to_rf c1, hw]
        rfl
      · cases hs
    · cases hs
  split at hs
  · rename_i ho
    have : ax_step k pc (op, ln, x, y, v) ls st (al_to X H) = ax_s17 (pc + ln) ls st (al_to X H) x y := by
      rcases ho with ho | ho <;> (simp only at ho; subst ho; rfl)
    rw [this]
    unfold al_17 at hs
    split at hs
    · split at hs
      · rename_i hc
        obtain ⟨c1, c2, c3, c4, c5⟩ := hc
        cases hs
        refine ⟨?_, al_iv_up h⟩
        unfold ax_s17
        simp only
        rw [if_pos ⟨c1, by rw [al_to_sp c1]; exact c2, c3, c4, c5⟩, al_to_pi h c1]
      · cases hs
    · split at hs
      · rename_i hc
        obtain ⟨c1, c2, c3, c4, c5⟩ := hc
        cases hs
        refine ⟨?_, al_iv_up h⟩
        unfold ax_s17
        simp only
        rw [if_pos ⟨c1, by rw [al_to_sp c1]; exact c2, c3, c4, c5⟩, al_to_pr h c1]
      · cases hs
    · cases hs
  split at hs
  · rename_i ho
    simp only at ho; subst ho
    show ax_s25 (pc + ln) ls st (al_to X H) = _ ∧ _
    unfold al_25 at hs
    split at hs
    · split at hs
      · rename_i hc
        obtain ⟨c1, c2, c3⟩ := hc
        rw [Option.map_eq_some_iff] at hs
        obtain ⟨w, hw, rfl⟩ := hs
        refine ⟨?_, h⟩
        unfold ax_s25
        simp only
        rw [if_pos ⟨c1, by rw [al_to_sp c1]; exact c2, by rw [al_to_sp c1]; exact c3⟩, al_to_rf c1, hw]
        rfl
      · cases hs
    · cases hs
  split at hs
  · rename_i ho
    simp only at ho; subst ho
    show ax_s26 (pc + ln) ls st (al_to X H) = _ ∧ _
    unfold al_26 at hs
    split at hs
    · split at hs
      · rename_i hc
        obtain ⟨c1, c2, c3, c4, c5⟩ := hc
        cases hs
        refine ⟨?_, al_iv_up h⟩
        unfold ax_s26
        simp only
        rw [if_pos ⟨c1, c2, by rw [al_to_sp c1]; exact c3, by rw [al_to_sp c1, al_to_sp c2]; exact c4, by rw [al_to_sp c1]; exact c5⟩, al_to_pr h c1]
      · cases hs
    · cases hs
  split at hs
  · rename_i ho
    simp only at ho; subst ho
    show ax_s28 (pc + ln) ls st (al_to X H) x = _ ∧ _
    unfold al_28 at hs
    split at hs
    · rename_i hc
      obtain ⟨c1, c2⟩ := hc
      cases hs
      refine ⟨?_, al_iv_nw h c2⟩
      unfold ax_s28
      rw [if_pos ⟨c1, c2⟩, al_to_nw c2]
      rfl
    · cases hs
  split at hs
  · rename_i ho
    simp only at ho; subst ho
    show ax_s29 (pc + ln) ls st (al_to X H) x = _ ∧ _
    unfold al_29 at hs
    split at hs
    · split at hs
      · rename_i hc
        obtain ⟨c1, c2⟩ := hc
        cases hs
        refine ⟨?_, al_iv_nw h c1⟩
        unfold ax_s29
        simp only
        rw [if_pos ⟨c1, c2⟩, al_to_nw c1]
        rfl
      · cases hs
    · cases hs
  split at hs
  · rename_i ho
    simp only at ho; subst ho
    show ax_s30 (pc + ln) ls st (al_to X H) x = _ ∧ _
    unfold al_30 at hs
    split at hs
    · split at hs
      · rename_i hc
        obtain ⟨c1, c2⟩ := hc
        cases hs
        refine ⟨?_, al_iv_nw h c1⟩
        unfold ax_s30
        simp only
        rw [if_pos ⟨c1, c2⟩, al_to_nw c1]
        rfl
      · cases hs
    · cases hs
  cases hs
theorem al_ca {op x : Nat} {as rest : List Value} {h h' : ax_H} (ho : op = 43 ∨ op = 44) (hc : ax_ca op x as rest h = true) : ax_ca op x as rest h' = true := by
  unfold ax_ca at hc ⊢
  rw [Bool.and_eq_true] at hc ⊢
  refine ⟨hc.1, ?_⟩
  have h2 := hc.2
  rw [if_neg (by omega)] at h2 ⊢
  split at h2
  · exact decide_eq_true (.inl (by omega))
  · cases h2
theorem al_snd : ∀ n k pc ls st (H H' : al_H), al_iv H → al_exec n k pc ls st H = some H' → ax_fn k pc ls st (al_to X H) = some (.inl none, al_to X H') ∧ al_iv H' := by
  intro n
  induction n with
  | zero => intro k pc ls st H H' _ h; cases h
  | succ n ih =>
    intro k pc ls st H H' hi h
    rw [al_exec] at h
    split at h
    · cases h
    · rename_i r hr
      rw [ax_fn_row hr]
      unfold ax_un
      split at h
      · rename_i h40
        rw [if_pos h40]
        split at h
        · rename_i z hz
          obtain ⟨s1, s2⟩ := al_sim (X := X) hi hz
          rw [s1]
          exact ih _ _ _ _ _ _ s2 h
        · cases h
      · rename_i h40
        rw [if_neg h40]
        split at h
        · rename_i ho
          rw [if_pos (by omega)]
          split at h
          · rename_i hc
            rw [if_pos ⟨hc.1, al_ca ho hc.2⟩]
            split at h
            · rename_i H1 h1
              obtain ⟨s1, s2⟩ := ih _ _ _ _ _ _ hi h1
              rw [s1]
              exact ih _ _ _ _ _ _ s2 h
            · cases h
          · cases h
        · split at h
          · rename_i ho
            rw [if_neg (by omega)]
            cases h
            obtain ⟨h1, h2⟩ := ho
            rw [List.isEmpty_iff] at h2
            subst h2
            rw [h1]
            exact ⟨rfl, hi⟩
          · cases h
theorem al_psnd : ∀ n pc ls st (H : al_H) z, al_iv H → al_pre n pc ls st H = some z → ax_fn 0 pc ls st (al_to X H) = ax_fn 0 23 z.1 z.2.1 (al_to X z.2.2) := by
  intro n
  induction n with
  | zero => intro pc ls st H z _ h; cases h
  | succ n ih =>
    intro pc ls st H z hi h
    rw [al_pre] at h
    split at h
    · rename_i hp
      cases h
      rw [hp]
    · split at h
      · cases h
      · rename_i r hr
        rw [ax_fn_row hr]
        unfold ax_un
        split at h
        · rename_i h40
          rw [if_pos h40]
          split at h
          · rename_i w hz
            obtain ⟨s1, s2⟩ := al_sim (X := X) hi hz
            rw [s1]
            exact ih _ _ _ _ _ s2 h
          · cases h
        · rename_i h40
          rw [if_neg h40]
          split at h
          · rename_i ho
            rw [if_pos (by omega)]
            split at h
            · rename_i hc
              rw [if_pos ⟨hc.1, al_ca ho hc.2⟩]
              split at h
              · rename_i H1 h1
                obtain ⟨s1, s2⟩ := al_snd (X := X) _ _ _ _ _ _ _ hi h1
                rw [s1]
                exact ih _ _ _ _ _ s2 h
              · cases h
            · cases h
          · cases h
end AlS
