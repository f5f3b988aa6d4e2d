/-! THE ROUNDS OF THE GUARD, as plain mathematics: the class goes on from changed places alone, the reference from all reached ones; both come to the same sights -/
theorem ag_cc_i (a : Int32) : ag_cc a a = a := if_pos rfl
theorem ag_cc_r (a b c : Int32) : ag_cc (ag_cc a b) c = ag_cc (ag_cc a c) b := by
  have h12 := ag_n12
  have e1 : ∀ x y : Int32, x = y → ag_cc x y = x := fun x y h => if_pos h
  have e2 : ∀ x y : Int32, y = ay_n 1 → ag_cc x y = x := by intro x y h; unfold ag_cc; rw [if_pos h, ite_self]
  have e3 : ∀ x y : Int32, x = ay_n 1 → ag_cc x y = y := by intro x y h; unfold ag_cc; grind
  have e4 : ∀ x y : Int32, ¬ x = y → ¬ y = ay_n 1 → ¬ x = ay_n 1 → ag_cc x y = ay_n 2 := by intro x y h1 h2 h3; unfold ag_cc; rw [if_neg h1, if_neg h2, if_neg h3]
  have e5 : ∀ y : Int32, ag_cc (ay_n 2) y = ay_n 2 := fun y => ag_cc2 (.inl rfl)
  by_cases x4 : a = ay_n 1
  · rw [e3 a b x4, e3 a c x4]
    by_cases x5 : b = ay_n 1
    · rw [e3 b c x5, e2 c b x5]
    · by_cases x6 : c = ay_n 1
      · rw [e2 b c x6, e3 c b x6]
      · by_cases x3 : b = c
        · rw [x3]
        · rw [e4 b c x3 x6 x5, e4 c b (fun h => x3 h.symm) x5 x6]
  · by_cases x5 : b = ay_n 1
    · rw [e2 a b x5, e2 _ b x5]
    · by_cases x6 : c = ay_n 1
      · rw [e2 a c x6, e2 _ c x6]
      · by_cases x1 : a = b
        · rw [e1 a b x1]
          by_cases x2 : a = c
          · rw [e1 a c x2, e1 a b x1]
          · rw [e4 a c x2 x6 x4, e5]
        · rw [e4 a b x1 x5 x4, e5]
          by_cases x2 : a = c
          · rw [e1 a c x2, e4 a b x1 x5 x4]
          · rw [e4 a c x2 x6 x4, e5]
theorem ag_jn_r (a b c : Int32) : ag_jn (ag_jn a b) c = ag_jn (ag_jn a c) b := by
  unfold ag_jn; grind
theorem ag_js_r (a b c : Int32) : ag_js (ag_js a b) c = ag_js (ag_js a c) b := by
  unfold ag_js; grind
theorem ag_jl_r (a b c : ag_L) : ag_jl (ag_jl a b) c = ag_jl (ag_jl a c) b := by
  have hr := ag_cc_r a.1 b.1 c.1
  by_cases h1 : ag_cc a.1 b.1 = ay_n 2
  · have h2 : ag_jl a b = ag_z := if_pos h1
    have h3 : ag_jl ag_z c = ag_z := if_pos (ag_cc2 (.inl rfl))
    rw [h2, h3]
    rw [h1, ag_cc2 (.inl rfl)] at hr
    by_cases h4 : ag_cc a.1 c.1 = ay_n 2
    · have h5 : ag_jl a c = ag_z := if_pos h4
      rw [h5]; exact (if_pos (ag_cc2 (.inl rfl))).symm
    · have h5 : ag_jl a c = (ag_cc a.1 c.1, ag_jn a.2.1 c.2.1, ag_js a.2.2 c.2.2) := if_neg h4
      rw [h5]; exact (if_pos hr.symm).symm
  · have h2 : ag_jl a b = (ag_cc a.1 b.1, ag_jn a.2.1 b.2.1, ag_js a.2.2 b.2.2) := if_neg h1
    rw [h2]
    by_cases h4 : ag_cc a.1 c.1 = ay_n 2
    · have h5 : ag_jl a c = ag_z := if_pos h4
      rw [h5]
      rw [h4, ag_cc2 (.inl rfl)] at hr
      have h6 : ag_jl ag_z b = ag_z := if_pos (ag_cc2 (.inl rfl))
      rw [h6]; exact if_pos hr
    · have h5 : ag_jl a c = (ag_cc a.1 c.1, ag_jn a.2.1 c.2.1, ag_js a.2.2 c.2.2) := if_neg h4
      rw [h5]
      unfold ag_jl
      simp only [hr, ag_jn_r a.2.1 b.2.1 c.2.1, ag_js_r a.2.2 b.2.2 c.2.2]
theorem ag_jl_a (a b : ag_L) : ag_jl (ag_jl a b) b = ag_jl a b := by
  unfold ag_jl
  by_cases h1 : ag_cc a.1 b.1 = ay_n 2
  · simp only [h1, if_true]
    exact if_pos (ag_cc2 (.inl rfl))
  · simp only [h1, if_false]
    have e1 : ag_cc (ag_cc a.1 b.1) b.1 = ag_cc a.1 b.1 := by
      have h12 := ag_n12
      unfold ag_cc at h1 ⊢
      by_cases x1 : a.1 = b.1 <;> by_cases x2 : b.1 = ay_n 1 <;> by_cases x3 : a.1 = ay_n 1 <;> simp_all
    have e2 : ag_jn (ag_jn a.2.1 b.2.1) b.2.1 = ag_jn a.2.1 b.2.1 := by unfold ag_jn; grind
    have e3 : ag_js (ag_js a.2.2 b.2.2) b.2.2 = ag_js a.2.2 b.2.2 := by unfold ag_js; grind
    rw [e1, e2, e3, if_neg h1]
/-- a local without garbage -/
def ag_pl (a : ag_L) : Prop := a.1 = ay_n 2 → a = ag_z
def ag_ps (s : ag_S) : Prop := ∀ l, ag_pl (s.1 l)
theorem ag_jl_i {a : ag_L} (h : ag_pl a) : ag_jl a a = a := by
  unfold ag_jl
  rw [ag_cc_i]
  split
  · rename_i h1; exact (h h1).symm
  · unfold ag_jn ag_js; simp
theorem ag_jl_p (a b : ag_L) : ag_pl (ag_jl a b) := by
  unfold ag_jl ag_pl
  split
  · exact fun _ => rfl
  · rename_i h; exact fun h2 => absurd h2 h
theorem ag_and_r (a b c : Int32) : (a &&& b) &&& c = (a &&& c) &&& b := by
  rw [Int32.and_assoc, Int32.and_comm b c, ← Int32.and_assoc]
theorem ag_jo_r (q s t : ag_S) : ag_jo (ag_jo q s) t = ag_jo (ag_jo q t) s := by
  unfold ag_jo
  refine Prod.ext ?_ ?_
  · funext l; exact ag_jl_r _ _ _
  · exact ag_and_r _ _ _
theorem ag_jo_a (q s : ag_S) : ag_jo (ag_jo q s) s = ag_jo q s := by
  unfold ag_jo
  refine Prod.ext ?_ ?_
  · funext l; exact ag_jl_a _ _
  · show (q.2 &&& s.2) &&& s.2 = q.2 &&& s.2
    rw [Int32.and_assoc, Int32.and_self]
theorem ag_jo_i {s : ag_S} (h : ag_ps s) : ag_jo s s = s := by
  unfold ag_jo
  refine Prod.ext ?_ ?_
  · funext l; exact ag_jl_i (h l)
  · exact Int32.and_self
theorem ag_jo_p (q s : ag_S) : ag_ps (ag_jo q s) := fun l => ag_jl_p _ _
/-- w has met its place: meeting it again changes nothing -/
def ag_ab (T : ag_T) (w : Nat × ag_S) : Prop := ∃ q, T w.1 = some q ∧ ag_jo q w.2 = q
theorem ag_ab_me {T : ag_T} {w : Nat × ag_S} (h : ag_ab T w) : ag_me T w = T := by
  obtain ⟨q, h1, h2⟩ := h
  funext u
  unfold ag_me ag_in
  rw [h1]
  by_cases hu : u = w.1
  · rw [if_pos hu, hu, h1]; simp only [h2]
  · rw [if_neg hu]
theorem ag_ab_new {T : ag_T} {w : Nat × ag_S} (hw : ag_ps w.2) : ag_ab (ag_me T w) w := by
  refine ⟨ag_in T w.1 w.2, if_pos rfl, ?_⟩
  unfold ag_in
  split
  · exact ag_jo_i hw
  · exact ag_jo_a _ _
theorem ag_ab_old {T : ag_T} {w v : Nat × ag_S} (h : ag_ab T w) : ag_ab (ag_me T v) w := by
  obtain ⟨q, h1, h2⟩ := h
  by_cases hu : w.1 = v.1
  · refine ⟨ag_in T v.1 v.2, if_pos hu, ?_⟩
    unfold ag_in
    rw [← hu, h1]
    show ag_jo (ag_jo q v.2) w.2 = ag_jo q v.2
    rw [ag_jo_r, h2]
  · exact ⟨q, by unfold ag_me; rw [if_neg hu]; exact h1, h2⟩
theorem ag_ab_fold {l : List (Nat × ag_S)} : ∀ {T : ag_T} {w : Nat × ag_S}, ag_ab T w → ag_ab (l.foldl ag_me T) w := by
  induction l with
  | nil => exact fun h => h
  | cons v l ih => intro T w h; exact ih (ag_ab_old h)
theorem ag_ab_all {l : List (Nat × ag_S)} : ∀ {T : ag_T}, (∀ w, w ∈ l → ag_ps w.2) → ∀ w, w ∈ l → ag_ab (l.foldl ag_me T) w := by
  induction l with
  | nil => intro T _ w hw; cases hw
  | cons v l ih =>
    intro T hp w hw
    rcases List.mem_cons.mp hw with rfl | hw
    · show ag_ab (l.foldl ag_me (ag_me T w)) w
      exact ag_ab_fold (ag_ab_new (hp _ List.mem_cons_self))
    · exact ih (fun x hx => hp x (List.mem_cons_of_mem _ hx)) w hw
theorem ag_ab_id {l : List (Nat × ag_S)} : ∀ {T : ag_T}, (∀ w, w ∈ l → ag_ab T w) → l.foldl ag_me T = T := by
  induction l with
  | nil => intro T _; rfl
  | cons v l ih =>
    intro T h
    show l.foldl ag_me (ag_me T v) = T
    rw [ag_ab_me (h v List.mem_cons_self)]
    exact ih (fun w hw => h w (List.mem_cons_of_mem _ hw))
/-! steps, over any transfer: no (it cannot be done) and ou (its ways on) -/
section AgT
variable (no : Nat → ag_S → Prop) (ou : Nat → ag_S → List (Nat × ag_S))
/-- the class's: what is not changed since it was last seen has met all its ways on -/
def ag_iv (Q : ag_Q) : Prop := ∀ p s, Q.1 p = some s → ¬ Q.2 p → ¬ no p s ∧ ∀ w, w ∈ ou p s → ag_ab Q.1 w
/-- all sights are plain, and of the six classes -/
def ag_gd (T : ag_T) : Prop := ∀ p s, T p = some s → ag_ps s ∧ ag_ws s
theorem ag_mc_fst {l : List (Nat × ag_S)} : ∀ Q : ag_Q, (l.foldl ag_mc Q).1 = l.foldl ag_me Q.1 := by
  induction l with
  | nil => exact fun _ => rfl
  | cons v l ih => intro Q; exact ih (ag_mc Q v)
/-- what is not marked behind meetings was not marked, and stands as it was -/
theorem ag_mc_un {l : List (Nat × ag_S)} : ∀ {Q : ag_Q} {p : Nat}, ¬ (l.foldl ag_mc Q).2 p → ¬ Q.2 p ∧ (l.foldl ag_me Q.1) p = Q.1 p := by
  induction l with
  | nil => exact fun h => ⟨h, rfl⟩
  | cons v l ih =>
    intro Q p h
    obtain ⟨h1, h2⟩ := ih (Q := ag_mc Q v) h
    have h3 : ¬ Q.2 p := fun hh => h1 (.inl hh)
    refine ⟨h3, h2.trans ?_⟩
    show ag_me Q.1 v p = Q.1 p
    unfold ag_me
    by_cases hp : p = v.1
    · rw [if_pos hp]
      apply Classical.byContradiction
      intro hne
      exact h1 (.inr ⟨hp, by rw [hp] at hne; exact hne⟩)
    · rw [if_neg hp]
theorem ag_iv_step {Q : ag_Q} {p : Nat} {s : ag_S} (hi : ag_iv no ou Q) (hs : Q.1 p = some s) (hn : ¬ no p s) (hp : ∀ w, w ∈ ou p s → ag_ps w.2) : ag_iv no ou ((ou p s).foldl ag_mc (Q.1, fun u => Q.2 u ∧ u ≠ p)) := by
  intro u t hu hm
  obtain ⟨h1, h2⟩ := ag_mc_un hm
  rw [ag_mc_fst] at hu ⊢
  have hu2 : Q.1 u = some t := by rw [← hu]; exact h2.symm
  by_cases hup : u = p
  · subst hup
    cases hs.symm.trans hu2
    exact ⟨hn, ag_ab_all hp⟩
  · have h3 : ¬ Q.2 u := fun hh => h1 ⟨hh, hup⟩
    obtain ⟨h4, h5⟩ := hi u t hu2 h3
    exact ⟨h4, fun w hw => ag_ab_fold (h5 w hw)⟩
/-- one place seen by the reference -/
def ag_sr (T : ag_T) (p : Nat) (T' : ag_T) : Prop := match T p with
  | none => T' = T
  | some s => ¬ no p s ∧ T' = (ou p s).foldl ag_me T
end AgT
