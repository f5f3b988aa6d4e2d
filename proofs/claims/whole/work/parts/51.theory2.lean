/-! how far sights can fall -/
def ag_sum (f : Nat → Nat) : Nat → Nat
  | 0 => 0
  | k + 1 => ag_sum f k + f k
theorem ag_sum_le {f g : Nat → Nat} : ∀ k, (∀ i, i < k → f i ≤ g i) → ag_sum f k ≤ ag_sum g k := by
  intro k
  induction k with
  | zero => intro _; exact Nat.le_refl _
  | succ k ih =>
    intro h
    have h1 := ih (fun i hi => h i (by omega))
    have h2 := h k (by omega)
    show ag_sum f k + f k ≤ ag_sum g k + g k
    omega
theorem ag_sum_lt {f g : Nat → Nat} : ∀ k, (∀ i, i < k → f i ≤ g i) → (∃ i, i < k ∧ f i < g i) → ag_sum f k < ag_sum g k := by
  intro k
  induction k with
  | zero => rintro _ ⟨i, hi, -⟩; omega
  | succ k ih =>
    rintro h ⟨i, hi, hl⟩
    have h1 := ag_sum_le k (fun i hi => h i (by omega))
    have h2 := h k (by omega)
    show ag_sum f k + f k < ag_sum g k + g k
    by_cases hik : i = k
    · subst hik; omega
    · have := ih (fun i hi => h i (by omega)) ⟨i, by omega, hl⟩
      omega
theorem ag_sum_const {f : Nat → Nat} {c : Nat} : ∀ k, (∀ i, i < k → f i ≤ c) → ag_sum f k ≤ k * c := by
  intro k
  induction k with
  | zero => intro _; simp [ag_sum]
  | succ k ih =>
    intro h
    have h1 := ih (fun i hi => h i (by omega))
    have h2 := h k (by omega)
    show ag_sum f k + f k ≤ (k + 1) * c
    rw [Nat.succ_mul]; omega
def ag_h1 (a : ag_L) : Nat := if a.1 = ay_n 2 then 0 else 1 + (if a.1 = ay_n 1 then 1 else 0) + (if a.2.1 = ay_i 1 then 0 else 1) + (if a.2.2 = ay_i 2 then 0 else 1)
def ag_hp (w : Int32) (i : Nat) : Nat := if w.toBitVec.getLsbD i = true then 1 else 0
def ag_h (s : ag_S) : Nat := ag_sum (fun l => ag_h1 (s.1 l)) 8 + ag_sum (ag_hp s.2) 32
def ag_e8 (s : ag_S) : Prop := ∀ l, 8 ≤ l → s.1 l = ag_z
theorem ag_h1_le {a b : ag_L} (hp : ag_pl a) : ag_h1 (ag_jl a b) ≤ ag_h1 a ∧ (ag_jl a b ≠ a → ag_h1 (ag_jl a b) < ag_h1 a) := by
  have h12 := ag_n12
  by_cases hc : ag_cc a.1 b.1 = ay_n 2
  · have h2 : ag_jl a b = ag_z := if_pos hc
    have h3 : ag_h1 ag_z = 0 := if_pos rfl
    rw [h2, h3]
    refine ⟨Nat.zero_le _, fun hne => ?_⟩
    unfold ag_h1
    rw [if_neg (fun h => hne (hp h).symm)]
    omega
  · have h2 : ag_jl a b = (ag_cc a.1 b.1, ag_jn a.2.1 b.2.1, ag_js a.2.2 b.2.2) := if_neg hc
    have ha : ¬ a.1 = ay_n 2 := fun h => hc (ag_cc2 (.inl h))
    rw [h2]
    have hcl : ag_cc a.1 b.1 = a.1 ∨ (a.1 = ay_n 1 ∧ ¬ ag_cc a.1 b.1 = ay_n 1) := by
      unfold ag_cc at hc ⊢
      by_cases x1 : a.1 = b.1
      · left; rw [if_pos x1]
      · rw [if_neg x1] at hc ⊢
        by_cases x2 : b.1 = ay_n 1
        · left; rw [if_pos x2]
        · rw [if_neg x2] at hc ⊢
          by_cases x3 : a.1 = ay_n 1
          · right; rw [if_pos x3]; exact ⟨x3, x2⟩
          · rw [if_neg x3] at hc; exact absurd rfl hc
    have hnl : ag_jn a.2.1 b.2.1 = a.2.1 ∨ (¬ a.2.1 = ay_i 1 ∧ ag_jn a.2.1 b.2.1 = ay_i 1) := by
      unfold ag_jn
      by_cases x : a.2.1 = b.2.1
      · left; rw [if_pos x]
      · rw [if_neg x]
        by_cases y : a.2.1 = ay_i 1
        · left; exact y.symm
        · right; exact ⟨y, rfl⟩
    have hsl : ag_js a.2.2 b.2.2 = a.2.2 ∨ (¬ a.2.2 = ay_i 2 ∧ ag_js a.2.2 b.2.2 = ay_i 2) := by
      unfold ag_js
      by_cases x : a.2.2 = b.2.2
      · left; rw [if_pos x]
      · rw [if_neg x]
        by_cases y : a.2.2 = ay_i 2
        · left; exact y.symm
        · right; exact ⟨y, rfl⟩
    have key : ∀ c n t, (c = a.1 ∨ (a.1 = ay_n 1 ∧ ¬ c = ay_n 1)) → (n = a.2.1 ∨ (¬ a.2.1 = ay_i 1 ∧ n = ay_i 1)) → (t = a.2.2 ∨ (¬ a.2.2 = ay_i 2 ∧ t = ay_i 2)) → ¬ c = ay_n 2 → ag_h1 (c, n, t) ≤ ag_h1 a ∧ ((c, n, t) ≠ a → ag_h1 (c, n, t) < ag_h1 a) := by
      obtain ⟨ac, an, at'⟩ := a
      intro c n t q1 q2 q3 q4
      unfold ag_h1
      simp only [] at q1 q2 q3 ha ⊢
      rw [if_neg q4, if_neg ha]
      rcases q1 with rfl | ⟨q1, q1'⟩ <;> rcases q2 with rfl | ⟨q2, rfl⟩ <;> rcases q3 with rfl | ⟨q3, rfl⟩ <;> simp_all <;> omega
    exact key _ _ _ hcl hnl hsl hc
theorem ag_and_bit (p q : Int32) (i : Nat) : ag_hp (p &&& q) i ≤ ag_hp p i := by
  unfold ag_hp
  rw [show (p &&& q).toBitVec = p.toBitVec &&& q.toBitVec from rfl, BitVec.getLsbD_and]
  cases p.toBitVec.getLsbD i <;> cases q.toBitVec.getLsbD i <;> simp
theorem ag_and_lt {p q : Int32} (h : p &&& q ≠ p) : ∃ i, i < 32 ∧ ag_hp (p &&& q) i < ag_hp p i := by
  apply Classical.byContradiction
  intro hn
  apply h
  apply Int32.toBitVec_inj.mp
  apply BitVec.eq_of_getLsbD_eq
  intro i hi
  have h1 : ¬ ag_hp (p &&& q) i < ag_hp p i := fun hh => hn ⟨i, hi, hh⟩
  unfold ag_hp at h1
  rw [show (p &&& q).toBitVec = p.toBitVec &&& q.toBitVec from rfl, BitVec.getLsbD_and] at h1 ⊢
  cases h2 : p.toBitVec.getLsbD i <;> cases h3 : q.toBitVec.getLsbD i <;> simp_all
theorem ag_h_le {q s : ag_S} (hp : ag_ps q) (h8 : ag_e8 q) (h8s : ag_e8 s) : ag_h (ag_jo q s) ≤ ag_h q ∧ (ag_jo q s ≠ q → ag_h (ag_jo q s) < ag_h q) := by
  have a1 := ag_sum_le (f := fun l => ag_h1 ((ag_jo q s).1 l)) (g := fun l => ag_h1 (q.1 l)) 8 (fun l _ => (ag_h1_le (hp l)).1)
  have a2 := ag_sum_le (f := ag_hp (ag_jo q s).2) (g := ag_hp q.2) 32 (fun i _ => ag_and_bit _ _ i)
  refine ⟨by unfold ag_h; omega, fun hne => ?_⟩
  by_cases h2 : q.2 &&& s.2 = q.2
  · have : ∃ l, l < 8 ∧ ag_jl (q.1 l) (s.1 l) ≠ q.1 l := by
      apply Classical.byContradiction
      intro hn
      apply hne
      refine Prod.ext ?_ h2
      funext l
      by_cases hl : l < 8
      · apply Classical.byContradiction
        intro hh; exact hn ⟨l, hl, hh⟩
      · show ag_jl (q.1 l) (s.1 l) = q.1 l
        rw [h8 l (by omega), h8s l (by omega)]; exact ag_jz
    obtain ⟨l, hl, hh⟩ := this
    have := ag_sum_lt (f := fun l => ag_h1 ((ag_jo q s).1 l)) (g := fun l => ag_h1 (q.1 l)) 8 (fun l _ => (ag_h1_le (hp l)).1) ⟨l, hl, (ag_h1_le (hp l)).2 hh⟩
    unfold ag_h; omega
  · have := ag_sum_lt (f := ag_hp (ag_jo q s).2) (g := ag_hp q.2) 32 (fun i _ => ag_and_bit _ _ i) (ag_and_lt h2)
    unfold ag_h; omega
theorem ag_h_max (s : ag_S) : ag_h s ≤ 64 := by
  have a1 := ag_sum_const (f := fun l => ag_h1 (s.1 l)) (c := 4) 8 (by intro l _; simp only [ag_h1]; (repeat' split) <;> omega)
  have a2 := ag_sum_const (f := ag_hp s.2) (c := 1) 32 (by intro l _; simp only [ag_hp]; split <;> omega)
  unfold ag_h; omega
def ag_hq (x : Option ag_S) : Nat := match x with
  | none => 65
  | some s => ag_h s
def ag_F (n : Nat) (T : ag_T) : Nat := ag_sum (fun p => ag_hq (T p)) n
theorem ag_F_max (n : Nat) (T : ag_T) : ag_F n T ≤ n * 65 := by
  refine ag_sum_const n (fun p _ => ?_)
  unfold ag_hq
  split
  · omega
  · have := ag_h_max ‹_›; omega
/-- good sights -/
def ag_gs (s : ag_S) : Prop := ag_ps s ∧ ag_ws s ∧ ag_e8 s
def ag_gt (T : ag_T) : Prop := ∀ p s, T p = some s → ag_gs s
theorem ag_gs_jo {q s : ag_S} (hq : ag_gs q) (hs : ag_gs s) : ag_gs (ag_jo q s) := by
  refine ⟨ag_jo_p q s, fun l => ?_, fun l hl => ?_⟩
  · show ag_wl (ag_jl (q.1 l) (s.1 l))
    unfold ag_jl
    split
    · exact .inl rfl
    · show ag_cc (q.1 l).1 (s.1 l).1 = ay_n 2 ∨ ag_cc (q.1 l).1 (s.1 l).1 = ay_n 1 ∨ ap_nb (ag_cc (q.1 l).1 (s.1 l).1) 6
      have h1 := hq.2.1 l
      have h2 := hs.2.1 l
      unfold ag_wl at h1 h2
      unfold ag_cc
      split
      · exact h1
      · split
        · exact h1
        · split
          · exact h2
          · exact .inl rfl
  · show ag_jl (q.1 l) (s.1 l) = ag_z
    rw [hq.2.2 l hl, hs.2.2 l hl]; exact ag_jz
theorem ag_gt_me {T : ag_T} {w : Nat × ag_S} (hT : ag_gt T) (hw : ag_gs w.2) : ag_gt (ag_me T w) := by
  intro p s hs
  unfold ag_me at hs
  split at hs
  · cases hs
    unfold ag_in
    split
    · exact hw
    · rename_i q hq; exact ag_gs_jo (hT _ _ hq) hw
  · exact hT p s hs
theorem ag_F_me {n : Nat} {T : ag_T} {w : Nat × ag_S} (hT : ag_gt T) (hw : ag_gs w.2) (hn : w.1 < n) : ag_F n (ag_me T w) ≤ ag_F n T ∧ (some (ag_in T w.1 w.2) ≠ T w.1 → ag_F n (ag_me T w) < ag_F n T) := by
  have key : ∀ p, ag_hq (ag_me T w p) ≤ ag_hq (T p) := by
    intro p
    unfold ag_me
    split
    · rename_i hp; subst hp
      unfold ag_in
      cases hq : T w.1 with
      | none => have := ag_h_max w.2; show ag_h w.2 ≤ 65; omega
      | some q => exact (ag_h_le (hT _ _ hq).1 (hT _ _ hq).2.2 hw.2.2).1
    · exact Nat.le_refl _
  refine ⟨ag_sum_le n (fun p _ => key p), fun hne => ag_sum_lt n (fun p _ => key p) ⟨w.1, hn, ?_⟩⟩
  show ag_hq (ag_me T w w.1) < ag_hq (T w.1)
  have : ag_me T w w.1 = some (ag_in T w.1 w.2) := if_pos rfl
  rw [this]
  unfold ag_in at hne ⊢
  cases hq : T w.1 with
  | none => have := ag_h_max w.2; show ag_h w.2 < 65; omega
  | some q =>
    rw [hq] at hne
    exact (ag_h_le (hT _ _ hq).1 (hT _ _ hq).2.2 hw.2.2).2 (fun h => hne (congrArg some h))
/-- the reference's meetings: sights, and whether anything changed -/
def ag_mg (G : ag_T × Prop) (w : Nat × ag_S) : ag_T × Prop := (ag_me G.1 w, G.2 ∨ some (ag_in G.1 w.1 w.2) ≠ G.1 w.1)
theorem ag_mg_fold {n : Nat} {l : List (Nat × ag_S)} : ∀ {G : ag_T × Prop}, ag_gt G.1 → (∀ w, w ∈ l → w.1 < n ∧ ag_gs w.2) → (l.foldl ag_mg G).1 = l.foldl ag_me G.1 ∧ ag_gt (l.foldl ag_me G.1) ∧ ag_F n (l.foldl ag_me G.1) ≤ ag_F n G.1 ∧ ((l.foldl ag_mg G).2 → G.2 ∨ ag_F n (l.foldl ag_me G.1) < ag_F n G.1) ∧ (¬ (l.foldl ag_mg G).2 → ¬ G.2 ∧ l.foldl ag_me G.1 = G.1 ∧ ∀ w, w ∈ l → some (ag_in G.1 w.1 w.2) = G.1 w.1) := by
  induction l with
  | nil => intro G hG _; exact ⟨rfl, hG, Nat.le_refl _, fun h => .inl h, fun h => ⟨h, rfl, fun w hw => by cases hw⟩⟩
  | cons v l ih =>
    intro G hG hl
    obtain ⟨hv1, hv2⟩ := hl v List.mem_cons_self
    have hme := ag_gt_me hG hv2
    obtain ⟨f1, f2⟩ := ag_F_me hG hv2 hv1
    obtain ⟨i1, i2, i3, i4, i5⟩ := ih (G := ag_mg G v) hme (fun w hw => hl w (List.mem_cons_of_mem _ hw))
    refine ⟨i1, i2, Nat.le_trans i3 f1, fun h => ?_, fun h => ?_⟩
    · rcases i4 h with (h | h) | h
      · exact .inl h
      · exact .inr (Nat.lt_of_le_of_lt i3 (f2 h))
      · exact .inr (Nat.lt_of_lt_of_le h f1)
    · obtain ⟨j1, j2, j3⟩ := i5 h
      have h1 : ¬ G.2 := fun hh => j1 (.inl hh)
      have h2 : some (ag_in G.1 v.1 v.2) = G.1 v.1 := Classical.byContradiction fun hh => j1 (.inr hh)
      have h3 : ag_me G.1 v = G.1 := by
        funext u
        unfold ag_me
        split
        · rename_i hu; rw [hu]; exact h2
        · rfl
      have h4 : (ag_mg G v).1 = G.1 := h3
      rw [h4] at j2 j3
      refine ⟨h1, ?_, fun w hw => ?_⟩
      · show l.foldl ag_me (ag_me G.1 v) = G.1
        rw [h3]; exact j2
      · rcases List.mem_cons.mp hw with rfl | hw
        · exact h2
        · exact j3 w hw
