/-! WHAT THE GUARD SEES, as plain values: a local (class, nullness, stage), garbage behind 'nothing' taken out; a sight; the sights of all places -/
abbrev ag_L : Type := Int32 × Int32 × Int32
abbrev ag_S : Type := (Nat → ag_L) × Int32
abbrev ag_T : Type := Nat → Option ag_S
abbrev ag_Q : Type := ag_T × (Nat → Prop)
def ag_z : ag_L := (ay_n 2, ay_i 0, ay_i 0)
def ag_nl (c n t : Int32) : ag_L := if c = ay_n 2 then ag_z else (c, n, t)
def ag_jl (a b : ag_L) : ag_L := if ag_cc a.1 b.1 = ay_n 2 then ag_z else (ag_cc a.1 b.1, ag_jn a.2.1 b.2.1, ag_js a.2.2 b.2.2)
def ag_jo (q s : ag_S) : ag_S := (fun l => ag_jl (q.1 l) (s.1 l), q.2 &&& s.2)
def ag_in (T : ag_T) (t : Nat) (s : ag_S) : ag_S := match T t with
  | none => s
  | some q => ag_jo q s
def ag_me (T : ag_T) (w : Nat × ag_S) : ag_T := fun u => if u = w.1 then some (ag_in T w.1 w.2) else T u
def ag_mc (Q : ag_Q) (w : Nat × ag_S) : ag_Q := (ag_me Q.1 w, fun p => Q.2 p ∨ (p = w.1 ∧ some (ag_in Q.1 w.1 w.2) ≠ Q.1 w.1))
def ag_vs (M : ax_M) (s : Nat) : ag_S := (fun l => if l < 8 then ag_nl (M 13 s l) (M 14 s l) (M 15 s l) else ag_z, M 12 s 3)
def ag_vt (M : ax_M) (n : Nat) : ag_T := fun p => if p < n ∧ M 12 p 4 = ay_i 1 then some (ag_vs M p) else none
def ag_rp (M : ax_M) (n : Nat) (Q : ag_Q) : Prop := ag_vt M n = Q.1 ∧ ∀ p, p < n → (∃ r : Bool, M 12 p 4 = ay_b r) ∧ ∃ c : Bool, M 12 p 5 = ay_b c ∧ (c = true ↔ Q.2 p)
theorem ag_cc2 {a b : Int32} (h : a = ay_n 2 ∨ b = ay_n 2) : ag_cc a b = ay_n 2 := by
  have : ¬ (ay_n 2 = ay_n 1) := by rw [ay_nn (by omega) (by omega)]; omega
  unfold ag_cc
  grind
theorem ag_nl_jl (c n t c' n' t' : Int32) : ag_jl (ag_nl c n t) (ag_nl c' n' t') = ag_nl (ag_cc c c') (if ag_cc c c' = ay_n 2 then n else ag_jn n n') (if ag_cc c c' = ay_n 2 then t else ag_js t t') := by
  by_cases h1 : c = ay_n 2
  · have h2 := ag_cc2 (a := c) (b := c') (.inl h1)
    have h3 := ag_cc2 (a := (ag_nl c n t).1) (b := (ag_nl c' n' t').1) (.inl (by simp [ag_nl, h1, ag_z]))
    unfold ag_jl
    rw [h2, h3]
    simp [ag_nl]
  · by_cases h1' : c' = ay_n 2
    · have h2 := ag_cc2 (a := c) (b := c') (.inr h1')
      have h3 := ag_cc2 (a := (ag_nl c n t).1) (b := (ag_nl c' n' t').1) (.inr (by simp [ag_nl, h1', ag_z]))
      unfold ag_jl
      rw [h2, h3]
      simp [ag_nl]
    · unfold ag_jl ag_nl
      simp only [h1, h1', if_false]
      split <;> rfl
theorem ag_c1_iff (M : ax_M) (s w l : Nat) : ag_c1 M s w l = true ↔ ag_jl (ag_nl (M 13 s l) (M 14 s l) (M 15 s l)) (ag_nl (M 13 w l) (M 14 w l) (M 15 w l)) ≠ ag_nl (M 13 s l) (M 14 s l) (M 15 s l) := by
  rw [ag_nl_jl]
  unfold ag_c1
  by_cases h1 : ag_cc (M 13 s l) (M 13 w l) = ay_n 2
  · simp only [h1, if_true]
    unfold ag_nl
    by_cases h2 : M 13 s l = ay_n 2
    · simp [h2]
    · simp only [h2, if_true, if_false]
      simp only [not_false_eq_true, decide_true, true_iff, ne_eq]
      intro h
      exact h2 (congrArg Prod.fst h).symm
  · have h2 : ¬ M 13 s l = ay_n 2 := fun h => h1 (ag_cc2 (.inl h))
    simp only [h1, if_false, ag_nl, h2, decide_eq_true_eq, ne_eq, Prod.mk.injEq]
theorem ag_ch_iff (M : ax_M) (s w : Nat) : ∀ k, (ag_ch M s w k = true ↔ ∃ l, l < k ∧ ag_c1 M s w l = true) := by
  intro k
  induction k with
  | zero => simp [ag_ch]
  | succ k ih =>
    rw [ag_ch, Bool.or_eq_true, ih]
    constructor
    · rintro (⟨l, h1, h2⟩ | h)
      · exact ⟨l, by omega, h2⟩
      · exact ⟨k, by omega, h⟩
    · rintro ⟨l, h1, h2⟩
      by_cases h : l = k
      · subst h; exact .inr h2
      · exact .inl ⟨l, by omega, h2⟩
theorem ag_jz : ag_jl ag_z ag_z = ag_z := by
  unfold ag_jl
  exact if_pos (ag_cc2 (.inl rfl))
theorem ag_vs_jo (M : ax_M) (s w : Nat) (fl : Bool) (hne : w ≠ s) : ag_vs (ag_mt M s w fl) s = ag_jo (ag_vs M s) (ag_vs M w) := by
  unfold ag_vs ag_jo
  refine Prod.ext ?_ ?_
  · funext l
    by_cases hl : l < 8
    · simp only [hl, if_true]
      rw [ag_nl_jl]
      simp [ag_mt, ag_mk, hl]
    · simp only [hl, if_false]
      exact ag_jz.symm
  · simp [ag_mt]
theorem ag_ch_jo (M : ax_M) (s w : Nat) : ((ag_ch M s w 8 || decide (¬ M 12 s 3 &&& M 12 w 3 = M 12 s 3)) = true) ↔ ag_jo (ag_vs M s) (ag_vs M w) ≠ ag_vs M s := by
  rw [Bool.or_eq_true, ag_ch_iff, decide_eq_true_eq]
  unfold ag_jo ag_vs
  rw [ne_eq, Prod.mk.injEq]
  constructor
  · rintro (⟨l, h1, h2⟩ | h) ⟨h3, h4⟩
    · have := congrFun h3 l
      simp only [h1, if_true] at this
      exact (ag_c1_iff M s w l).mp h2 this
    · exact h h4
  · intro h
    by_cases h4 : M 12 s 3 &&& M 12 w 3 = M 12 s 3
    · left
      apply Classical.byContradiction
      intro hn
      apply h
      refine ⟨?_, h4⟩
      funext l
      by_cases hl : l < 8
      · simp only [hl, if_true]
        apply Classical.byContradiction
        intro hm
        exact hn ⟨l, hl, (ag_c1_iff M s w l).mpr hm⟩
      · simp only [hl, if_false]; exact ag_jz
    · exact .inr h4
/-- sight t behind a meeting with what the guard holds after an instruction -/
def ag_mm (M : ax_M) (t : Nat) : ax_M := if M 12 t 4 = ay_i 1 then ag_mt M t 40 (decide (M 12 t 5 = ay_i 1)) else
  (ax_u3 (ax_u3 (ax_u3 (ax_r3 (ax_r3 (ax_r3 M 13 t (fun j => if j < 8 then M 13 40 j else M 13 t j)) 14 t (fun j => if j < 8 then M 14 40 j else M 14 t j)) 15 t (fun j => if j < 8 then M 15 40 j else M 15 t j)) 12 t 3 (M 12 40 3)) 12 t 4 (ay_i 1)) 12 t 5 (ay_i 1))
theorem ag_mm_ne {M : ax_M} {t f i j : Nat} (h : i ≠ t ∨ f < 12 ∨ 15 < f) : ag_mm M t f i j = M f i j := by
  unfold ag_mm
  split
  · simp only [ag_mt, ag_mk]; grind (splits := 30)
  · simp only [ax_u3, ax_r3]; grind (splits := 30)
theorem ag_vs_ne {M M' : ax_M} {s : Nat} (h : ∀ f j, 12 ≤ f → f ≤ 15 → M' f s j = M f s j) : ag_vs M' s = ag_vs M s := by
  unfold ag_vs
  rw [h 12 3 (by omega) (by omega)]
  refine Prod.ext ?_ rfl
  funext l
  simp only [h 13 l (by omega) (by omega), h 14 l (by omega) (by omega), h 15 l (by omega) (by omega)]
theorem ag_b1n {r : Bool} {v : Int32} (h : v = ay_b r) : decide (v = ay_i 1) = r := by
  subst h; simp only [ay_b1]; cases r <;> rfl
theorem ag_mm_rp {M : ax_M} {n t : Nat} {Q : ag_Q} (hn : n ≤ 40) (ht : t < n) (h : ag_rp M n Q) : ag_rp (ag_mm M t) n (ag_mc Q (t, ag_vs M 40)) := by
  obtain ⟨hv, hf⟩ := h
  obtain ⟨⟨r, hr⟩, c, hc, hq⟩ := hf t ht
  have hne : 40 ≠ t := by omega
  by_cases h1 : r = true
  · subst h1
    have hr1 : M 12 t 4 = ay_i 1 := hr
    have hm : ag_mm M t = ag_mt M t 40 c := by unfold ag_mm; rw [if_pos hr1, ag_b1n hc]
    have hT : Q.1 t = some (ag_vs M t) := by rw [← hv]; simp [ag_vt, ht, hr1]
    have hin : ag_in Q.1 t (ag_vs M 40) = ag_jo (ag_vs M t) (ag_vs M 40) := by unfold ag_in; rw [hT]
    refine ⟨?_, ?_⟩
    · funext p
      show _ = if p = t then some (ag_in Q.1 t (ag_vs M 40)) else Q.1 p
      by_cases hp : p = t
      · subst hp
        rw [if_pos rfl, hin, ← ag_vs_jo M p 40 c hne, ← hm]
        unfold ag_vt
        rw [if_pos ⟨ht, by rw [hm]; simp [ag_mt, ag_mk, hr1]⟩]
      · rw [if_neg hp, ← hv]
        unfold ag_vt
        rw [ag_mm_ne (.inl hp), ag_vs_ne (fun f j _ _ => ag_mm_ne (.inl hp))]
    · intro p hp
      by_cases hpt : p = t
      · subst hpt
        refine ⟨⟨true, by rw [hm]; simp [ag_mt, ag_mk, hr1, ay_bt]⟩, (c || ag_ch M p 40 8) || decide (¬ M 12 p 3 &&& M 12 40 3 = M 12 p 3), by rw [hm]; simp [ag_mt], ?_⟩
        rw [Bool.or_assoc, Bool.or_eq_true, ag_ch_jo]
        show _ ↔ Q.2 p ∨ (p = p ∧ some (ag_in Q.1 p (ag_vs M 40)) ≠ Q.1 p)
        rw [hin, hT, hq]
        simp
      · obtain ⟨⟨r', hr'⟩, c', hc', hq'⟩ := hf p hp
        refine ⟨⟨r', by rw [ag_mm_ne (.inl hpt)]; exact hr'⟩, c', by rw [ag_mm_ne (.inl hpt)]; exact hc', ?_⟩
        show _ ↔ Q.2 p ∨ (p = t ∧ _)
        simp [hpt, hq']
  · have h1 : r = false := by simpa using h1
    subst h1
    have hr0 : M 12 t 4 = ay_i 0 := hr
    have hr1 : ¬ M 12 t 4 = ay_i 1 := by rw [hr0, ay_i_eq (by omega) (by omega)]; omega
    have hT : Q.1 t = none := by rw [← hv]; simp [ag_vt, hr1]
    have hin : ag_in Q.1 t (ag_vs M 40) = ag_vs M 40 := by unfold ag_in; rw [hT]
    have hm4 : ag_mm M t 12 t 4 = ay_i 1 := by unfold ag_mm; rw [if_neg hr1]; simp [ax_u3]
    have hm5 : ag_mm M t 12 t 5 = ay_i 1 := by unfold ag_mm; rw [if_neg hr1]; simp [ax_u3]
    refine ⟨?_, ?_⟩
    · funext p
      show _ = if p = t then some (ag_in Q.1 t (ag_vs M 40)) else Q.1 p
      by_cases hp : p = t
      · subst hp
        rw [if_pos rfl, hin]
        unfold ag_vt
        rw [if_pos ⟨ht, hm4⟩]
        congr 1
        unfold ag_mm
        rw [if_neg hr1]
        unfold ag_vs
        refine Prod.ext ?_ ?_
        · funext l
          by_cases hl : l < 8
          · simp [hl, ax_u3, ax_r3]
          · simp [hl]
        · simp [ax_u3, ax_r3]
      · rw [if_neg hp, ← hv]
        unfold ag_vt
        rw [ag_mm_ne (.inl hp), ag_vs_ne (fun f j _ _ => ag_mm_ne (.inl hp))]
    · intro p hp
      by_cases hpt : p = t
      · subst hpt
        refine ⟨⟨true, hm4⟩, true, hm5, ?_⟩
        show _ ↔ Q.2 p ∨ (p = p ∧ some (ag_in Q.1 p (ag_vs M 40)) ≠ Q.1 p)
        rw [hT]
        simp
      · obtain ⟨⟨r', hr'⟩, c', hc', hq'⟩ := hf p hp
        refine ⟨⟨r', by rw [ag_mm_ne (.inl hpt)]; exact hr'⟩, c', by rw [ag_mm_ne (.inl hpt)]; exact hc', ?_⟩
        show _ ↔ Q.2 p ∨ (p = t ∧ _)
        simp [hpt, hq']
section AmV
variable {X : Nat × (Nat → Int32)} {e gb : Nat} {M : ax_M} {o : Int64} {h : ax_H}
theorem am_59 {t : Nat} {r c : Bool} (ht : t < 40) (hr : M 12 t 4 = ay_b r) (hc : M 12 t 5 = ay_b c) : ax_fn 59 0 (ax_entry 59 [.ref (ax_a 12 t), .ref (ax_a 12 40)]) [] (ax_hp X e gb M o) = some (.inl none, ax_hp X e gb (ag_mm M t) o) := by
  cases r with
  | true =>
    rw [ay_bt] at hr
    rw [am_59a (by omega) (by omega) (by omega) hc hr]
    unfold ag_mm
    rw [if_pos hr, ag_b1n hc]
  | false =>
    rw [am_59b (by omega) (by omega) (by omega) hr]
    unfold ag_mm
    rw [if_neg]
    rw [hr, ay_b1]; simp
theorem am_29a {n : Nat} {a : Int32} (hb : gb < 12) (hn : M 3 gb 6 = ay_i n) (ha : ay_w a (ay_i n) = false) : ax_fn 29 0 (ax_entry 29 [.ref (ax_a 9 0), .int a]) [] (ax_hp X e gb M o) = some (.inl (some (.int (ay_i 0))), ax_hp X e gb M o) := by
  simp (disch := first | omega | assumption | exact ay_z1b _ | exact ay_z10 | exact ay_z11) only [ae_29, af_29_0, af_29_1, af_29_4, af_29_5, af_29_8, af_29_11, af_29_12, af_29_13, af_29_14, af_29_17, af_29_18, af_29_19, af_29_20, af_29_23, af_29_26, af_29_27, am_19, hn, ha, ay_cl_v, ay_cl_s, ay_i_add, ay_i_mul, ay_i_eq, ay_i_lt, ay_b0, ay_b1, ay_ni, ay_in, ay_nn, ay_nl, ay_ln, if_true, if_false, ↓reduceIte, Nat.reduceAdd, Nat.reduceMul, Nat.reduceEqDiff, Nat.reduceLT, Nat.not_lt_zero, Bool.true_eq_false, Bool.false_eq_true, reduceCtorEq, Nat.add_zero, Nat.zero_add]
theorem ay_w_i {t n : Nat} (ht : t < n) (hn : n ≤ 1000) : ay_w (ay_i t) (ay_i n) = true := by
  unfold ay_w
  have h1 : ¬ ay_i t < ay_i 0 := by rw [ay_i_lt (by omega) (by omega)]; omega
  have h2 : ay_i t < ay_i n := by rw [ay_i_lt (by omega) (by omega)]; exact ht
  simp [h1, h2]
theorem am_29b {n t : Nat} {r c : Bool} (hb : gb < 12) (hn : M 3 gb 6 = ay_i n) (hn4 : n ≤ 40) (ht : t < n) (hr : M 12 t 4 = ay_b r) (hc : M 12 t 5 = ay_b c) : ax_fn 29 0 (ax_entry 29 [.ref (ax_a 9 0), .int (ay_i t)]) [] (ax_hp X e gb M o) = some (.inl (some (.int (ay_i 1))), ax_hp X e gb (ag_mm M t) o) := by
  simp (disch := first | omega | assumption | exact ay_z1b _ | exact ay_z10 | exact ay_z11) only [ae_29, af_29_0, af_29_1, af_29_4, af_29_5, af_29_8, af_29_11, af_29_12, af_29_13, af_29_14, af_29_17, af_29_18, af_29_19, af_29_20, af_29_23, af_29_26, af_29_27, am_19, hn, ay_w_i ht (show n ≤ 1000 by omega), am_59 (show t < 40 by omega) hr hc, ay_cl_v, ay_cl_s, ay_i_add, ay_i_mul, ay_i_eq, ay_i_lt, ay_b0, ay_b1, ay_ni, ay_in, ay_nn, ay_nl, ay_ln, if_true, if_false, ↓reduceIte, Nat.reduceAdd, Nat.reduceMul, Nat.reduceEqDiff, Nat.reduceLT, Nat.not_lt_zero, Bool.true_eq_false, Bool.false_eq_true, reduceCtorEq, Nat.add_zero, Nat.zero_add]
end AmV
