/-! the rounds themselves -/
theorem ag_mg_ab {l : List (Nat × ag_S)} : ∀ {G : ag_T × Prop}, (∀ w, w ∈ l → ag_ab G.1 w) → l.foldl ag_mg G = G := by
  induction l with
  | nil => intro G _; rfl
  | cons v l ih =>
    intro G h
    have hv := h v List.mem_cons_self
    have h1 : ag_mg G v = G := by
      refine Prod.ext (ag_ab_me hv) ?_
      show (G.2 ∨ some (ag_in G.1 v.1 v.2) ≠ G.1 v.1) = G.2
      obtain ⟨q, h1, h2⟩ := hv
      have : some (ag_in G.1 v.1 v.2) = G.1 v.1 := by unfold ag_in; rw [h1]; simp only [h2]
      rw [this]; simp
    show l.foldl ag_mg (ag_mg G v) = G
    rw [h1]
    exact ih (fun w hw => h w (List.mem_cons_of_mem _ hw))
theorem ag_mc_id {l : List (Nat × ag_S)} : ∀ {Q : ag_Q}, (∀ w, w ∈ l → some (ag_in Q.1 w.1 w.2) = Q.1 w.1) → l.foldl ag_mc Q = Q := by
  induction l with
  | nil => intro Q _; rfl
  | cons v l ih =>
    intro Q h
    have hv := h v List.mem_cons_self
    have h1 : ag_mc Q v = Q := by
      refine Prod.ext ?_ ?_
      · funext u
        show ag_me Q.1 v u = Q.1 u
        unfold ag_me
        split
        · rename_i hu; rw [hu]; exact hv
        · rfl
      · funext u
        show (Q.2 u ∨ (u = v.1 ∧ some (ag_in Q.1 v.1 v.2) ≠ Q.1 v.1)) = Q.2 u
        rw [hv]; simp
    show l.foldl ag_mc (ag_mc Q v) = Q
    rw [h1]
    exact ih (fun w hw => h w (List.mem_cons_of_mem _ hw))
theorem ag_mc_re {l : List (Nat × ag_S)} : ∀ {Q : ag_Q}, (∀ p, Q.2 p → ∃ s, Q.1 p = some s) → ∀ p, (l.foldl ag_mc Q).2 p → ∃ s, (l.foldl ag_mc Q).1 p = some s := by
  induction l with
  | nil => intro Q h; exact h
  | cons v l ih =>
    intro Q h
    refine ih (Q := ag_mc Q v) ?_
    intro p hp
    show ∃ s, ag_me Q.1 v p = some s
    unfold ag_me
    split
    · exact ⟨_, rfl⟩
    · rename_i hpv
      rcases hp with hp | ⟨hp, -⟩
      · exact h p hp
      · exact absurd hp hpv
section AgR
variable (n : Nat) (no : Nat → ag_S → Prop) (ou : Nat → ag_S → List (Nat × ag_S))
noncomputable def ag_cr : Nat → Nat → ag_Q → Prop → Option (ag_Q × Prop)
  | 0, _, Q, m => some (Q, m)
  | d + 1, p, Q, m => @ite _ (Q.2 p) (Classical.propDecidable _) (match Q.1 p with
      | none => none
      | some s => @ite _ (no p s) (Classical.propDecidable _) none (ag_cr d (p + 1) ((ou p s).foldl ag_mc (Q.1, fun u => Q.2 u ∧ u ≠ p)) True)) (ag_cr d (p + 1) Q m)
noncomputable def ag_mr : Nat → Nat → ag_T × Prop → Option (ag_T × Prop)
  | 0, _, G => some G
  | d + 1, p, G => match G.1 p with
    | none => ag_mr d (p + 1) G
    | some s => @ite _ (no p s) (Classical.propDecidable _) none (ag_mr d (p + 1) ((ou p s).foldl ag_mg G))
def ag_J (Q : ag_Q) : Prop := ag_iv no ou Q ∧ ag_gt Q.1 ∧ ∀ p, Q.2 p → ∃ s, Q.1 p = some s
def ag_H : Prop := ∀ p s, p < n → ag_gs s → ¬ no p s → ∀ w, w ∈ ou p s → w.1 < n ∧ ag_gs w.2
theorem ag_cr_id : ∀ d p Q m, p + d = n → (∀ u, u < n → ¬ Q.2 u) → ag_cr no ou d p Q m = some (Q, m) := by
  intro d
  induction d with
  | zero => intro p Q m _ _; rfl
  | succ d ih =>
    intro p Q m hp hu
    have e1 : ag_cr no ou (d + 1) p Q m = ag_cr no ou d (p + 1) Q m := if_neg (hu p (by omega))
    rw [e1]
    exact ih (p + 1) Q m (by omega) hu
theorem ag_lock (H : ag_H n no ou) : ∀ d p Q m (G : ag_T × Prop), p + d = n → ag_J no ou Q → G.1 = Q.1 →
    (ag_cr no ou d p Q m = none ∧ ag_mr no ou d p G = none) ∨ ∃ Q' m' G', ag_cr no ou d p Q m = some (Q', m') ∧ ag_mr no ou d p G = some G' ∧ G'.1 = Q'.1 ∧ ag_J no ou Q' ∧ ag_F n Q'.1 ≤ ag_F n Q.1 ∧ (G'.2 → G.2 ∨ ag_F n Q'.1 < ag_F n Q.1) ∧ (¬ G'.2 → ¬ G.2 ∧ Q'.1 = Q.1 ∧ ∀ u, Q'.2 u → Q.2 u ∧ (u < p ∨ n ≤ u)) ∧ (¬ m' → ¬ m ∧ Q' = Q) := by
  intro d
  induction d with
  | zero =>
    intro p Q m G hp hJ hG
    exact .inr ⟨Q, m, G, rfl, rfl, hG, hJ, Nat.le_refl _, fun h => .inl h, fun h => ⟨h, rfl, fun u hu => ⟨hu, by omega⟩⟩, fun h => ⟨h, rfl⟩⟩
  | succ d ih =>
    intro p Q m G hp hJ hG
    obtain ⟨hI, hgt, hre⟩ := hJ
    cases hT : Q.1 p with
    | none =>
      have hf : ¬ Q.2 p := fun h => by obtain ⟨s, hs⟩ := hre p h; rw [hT] at hs; cases hs
      have e1 : ag_cr no ou (d + 1) p Q m = ag_cr no ou d (p + 1) Q m := if_neg hf
      have e2 : ag_mr no ou (d + 1) p G = ag_mr no ou d (p + 1) G := by
        show (match G.1 p with | none => _ | some s => _) = _
        rw [hG, hT]
      rw [e1, e2]
      rcases ih (p + 1) Q m G (by omega) ⟨hI, hgt, hre⟩ hG with h | ⟨Q', m', G', a1, a2, a3, a4, a5, a6, a7, a8⟩
      · exact .inl h
      · refine .inr ⟨Q', m', G', a1, a2, a3, a4, a5, a6, fun h => ?_, a8⟩
        obtain ⟨b1, b2, b3⟩ := a7 h
        refine ⟨b1, b2, fun u hu => ?_⟩
        obtain ⟨c1, c2⟩ := b3 u hu
        refine ⟨c1, ?_⟩
        by_cases hup : u = p
        · exact absurd (hup ▸ c1) hf
        · omega
    | some s =>
      have hs := hgt p s hT
      by_cases hf : Q.2 p
      · have e1 : ag_cr no ou (d + 1) p Q m = @ite _ (no p s) (Classical.propDecidable _) none (ag_cr no ou d (p + 1) ((ou p s).foldl ag_mc (Q.1, fun u => Q.2 u ∧ u ≠ p)) True) := by
          rw [ag_cr, if_pos hf, hT]
        have e2 : ag_mr no ou (d + 1) p G = @ite _ (no p s) (Classical.propDecidable _) none (ag_mr no ou d (p + 1) ((ou p s).foldl ag_mg G)) := by
          show (match G.1 p with | none => _ | some s => _) = _
          rw [hG, hT]
        rw [e1, e2]
        by_cases hn : no p s
        · left; exact ⟨if_pos hn, if_pos hn⟩
        · rw [if_neg hn, if_neg hn]
          have hw := H p s (by omega) hs hn
          have hgG : ag_gt G.1 := by rw [hG]; exact hgt
          obtain ⟨i1, i2, i3, i4, i5⟩ := ag_mg_fold (n := n) (G := G) hgG hw
          have hfst : ((ou p s).foldl ag_mc (Q.1, fun u => Q.2 u ∧ u ≠ p)).1 = (ou p s).foldl ag_me Q.1 := ag_mc_fst _
          have hJ2 : ag_J no ou ((ou p s).foldl ag_mc (Q.1, fun u => Q.2 u ∧ u ≠ p)) := by
            refine ⟨ag_iv_step no ou hI hT hn (fun w hw' => (hw w hw').2.1), ?_, ?_⟩
            · rw [hfst, ← hG]; exact i2
            · exact ag_mc_re (Q := (Q.1, fun u => Q.2 u ∧ u ≠ p)) (fun u hu => hre u hu.1)
          rcases ih (p + 1) _ True ((ou p s).foldl ag_mg G) (by omega) hJ2 (by rw [i1, hfst, hG]) with h | ⟨Q', m', G', a1, a2, a3, a4, a5, a6, a7, a8⟩
          · exact .inl h
          · rw [hfst] at a5 a6 a7
            rw [hG] at i3 i4 i5
            refine .inr ⟨Q', m', G', a1, a2, a3, a4, Nat.le_trans a5 i3, fun h => ?_, fun h => ?_, fun h => absurd trivial (a8 h).1⟩
            · rcases a6 h with h | h
              · rcases i4 h with h | h
                · exact .inl h
                · exact .inr (Nat.lt_of_le_of_lt a5 h)
              · exact .inr (Nat.lt_of_lt_of_le h i3)
            · obtain ⟨b1, b2, b3⟩ := a7 h
              obtain ⟨c1, c2, c3⟩ := i5 b1
              refine ⟨c1, b2.trans c2, fun u hu => ?_⟩
              obtain ⟨d1, d2⟩ := b3 u hu
              have hid := ag_mc_id (l := ou p s) (Q := (Q.1, fun u => Q.2 u ∧ u ≠ p)) c3
              rw [hid] at d1
              have d3 : Q.2 u ∧ u ≠ p := d1
              exact ⟨d3.1, by omega⟩
      · obtain ⟨hn, hab⟩ := hI p s hT hf
        have e1 : ag_cr no ou (d + 1) p Q m = ag_cr no ou d (p + 1) Q m := if_neg hf
        have e2 : ag_mr no ou (d + 1) p G = ag_mr no ou d (p + 1) G := by
          show (match G.1 p with | none => _ | some s => _) = _
          rw [hG, hT]
          exact (if_neg hn).trans (by rw [ag_mg_ab (by rw [hG]; exact hab)])
        rw [e1, e2]
        rcases ih (p + 1) Q m G (by omega) ⟨hI, hgt, hre⟩ hG with h | ⟨Q', m', G', a1, a2, a3, a4, a5, a6, a7, a8⟩
        · exact .inl h
        · refine .inr ⟨Q', m', G', a1, a2, a3, a4, a5, a6, fun h => ?_, a8⟩
          obtain ⟨b1, b2, b3⟩ := a7 h
          refine ⟨b1, b2, fun u hu => ?_⟩
          obtain ⟨c1, c2⟩ := b3 u hu
          refine ⟨c1, ?_⟩
          by_cases hup : u = p
          · exact absurd (hup ▸ c1) hf
          · omega
/-- the reference's round alone -/
theorem ag_mr_g (H : ag_H n no ou) : ∀ d p (G : ag_T × Prop), p + d = n → ag_gt G.1 → ∀ G', ag_mr no ou d p G = some G' → ag_gt G'.1 ∧ ag_F n G'.1 ≤ ag_F n G.1 ∧ (G'.2 → G.2 ∨ ag_F n G'.1 < ag_F n G.1) ∧ (¬ G'.2 → ¬ G.2 ∧ G'.1 = G.1) := by
  intro d
  induction d with
  | zero =>
    intro p G hp hg G' h
    cases h
    exact ⟨hg, Nat.le_refl _, fun h => .inl h, fun h => ⟨h, rfl⟩⟩
  | succ d ih =>
    intro p G hp hg G' h
    cases hT : G.1 p with
    | none =>
      have e2 : ag_mr no ou (d + 1) p G = ag_mr no ou d (p + 1) G := by
        show (match G.1 p with | none => _ | some s => _) = _
        rw [hT]
      rw [e2] at h
      exact ih (p + 1) G (by omega) hg G' h
    | some s =>
      have e2 : ag_mr no ou (d + 1) p G = @ite _ (no p s) (Classical.propDecidable _) none (ag_mr no ou d (p + 1) ((ou p s).foldl ag_mg G)) := by
        show (match G.1 p with | none => _ | some s => _) = _
        rw [hT]
      rw [e2] at h
      by_cases hn : no p s
      · rw [if_pos hn] at h; cases h
      · rw [if_neg hn] at h
        obtain ⟨i1, i2, i3, i4, i5⟩ := ag_mg_fold (n := n) (G := G) hg (H p s (by omega) (hg p s hT) hn)
        obtain ⟨a1, a2, a3, a4⟩ := ih (p + 1) _ (by omega) (by rw [i1]; exact i2) G' h
        rw [i1] at a2 a3 a4
        refine ⟨a1, Nat.le_trans a2 i3, fun h => ?_, fun h => ?_⟩
        · rcases a3 h with h | h
          · rcases i4 h with h | h
            · exact .inl h
            · exact .inr (Nat.lt_of_le_of_lt a2 h)
          · exact .inr (Nat.lt_of_lt_of_le h i3)
        · obtain ⟨b1, b2⟩ := a4 h
          obtain ⟨c1, c2, -⟩ := i5 b1
          exact ⟨c1, b2.trans c2⟩
noncomputable def ag_rd (T : ag_T) : Option ag_T := (ag_mr no ou n 0 (T, False)).map (fun G => G.1)
noncomputable def ag_it (T0 : ag_T) : Nat → Option ag_T
  | 0 => some T0
  | k + 1 => (ag_it T0 k).bind (ag_rd n no ou)
def ag_good (T0 T : ag_T) : Prop := (∃ k, ag_it n no ou T0 k = some T) ∧ ag_rd n no ou T = some T
def ag_bad (T0 : ag_T) : Prop := ∃ k, ag_it n no ou T0 k = none
theorem ag_it_stay {T0 T : ag_T} {k : Nat} (h : ag_it n no ou T0 k = some T) (hr : ag_rd n no ou T = some T) : ∀ j, ag_it n no ou T0 (k + j) = some T := by
  intro j
  induction j with
  | zero => exact h
  | succ j ih =>
    show (ag_it n no ou T0 (k + j)).bind _ = _
    rw [ih]; exact hr
theorem ag_it_none {T0 : ag_T} {k : Nat} (h : ag_it n no ou T0 k = none) : ∀ j, ag_it n no ou T0 (k + j) = none := by
  intro j
  induction j with
  | zero => exact h
  | succ j ih =>
    show (ag_it n no ou T0 (k + j)).bind _ = _
    rw [ih]; rfl
theorem ag_good_one {T0 T T' : ag_T} (h : ag_good n no ou T0 T) (h' : ag_good n no ou T0 T') : T = T' := by
  obtain ⟨⟨k, hk⟩, hr⟩ := h
  obtain ⟨⟨k', hk'⟩, hr'⟩ := h'
  have h1 := ag_it_stay n no ou hk hr k'
  have h2 := ag_it_stay n no ou hk' hr' k
  rw [Nat.add_comm] at h2
  exact Option.some.inj (h1.symm.trans h2)
theorem ag_good_bad {T0 T : ag_T} (h : ag_good n no ou T0 T) (h' : ag_bad n no ou T0) : False := by
  obtain ⟨⟨k, hk⟩, hr⟩ := h
  obtain ⟨k', hk'⟩ := h'
  have h1 := ag_it_stay n no ou hk hr k'
  have h2 := ag_it_none n no ou hk' k
  rw [Nat.add_comm] at h2
  cases h1.symm.trans h2
noncomputable def ag_B (Q : ag_Q) : Nat := @ite _ (∀ u, u < n → ¬ Q.2 u) (Classical.propDecidable _) 1 (ag_F n Q.1 + 2)
theorem ag_B_le (Q : ag_Q) : ag_B n Q ≤ ag_F n Q.1 + 2 := by
  unfold ag_B; split <;> omega
/-- a round of the class -/
theorem ag_cls (H : ag_H n no ou) {T0 : ag_T} {k : Nat} {Q : ag_Q} (hit : ag_it n no ou T0 k = some Q.1) (hJ : ag_J no ou Q) : (ag_cr no ou n 0 Q False = none ∧ ag_bad n no ou T0) ∨ ∃ Q' m', ag_cr no ou n 0 Q False = some (Q', m') ∧ ag_J no ou Q' ∧ ((¬ m' ∧ Q' = Q ∧ ag_good n no ou T0 Q.1) ∨ (m' ∧ ag_it n no ou T0 (k + 1) = some Q'.1 ∧ ag_B n Q' < ag_B n Q)) := by
  have hnext : ag_it n no ou T0 (k + 1) = ag_rd n no ou Q.1 := by
    show (ag_it n no ou T0 k).bind _ = _
    rw [hit]; rfl
  rcases ag_lock n no ou H n 0 Q False (Q.1, False) (by omega) hJ rfl with ⟨h1, h2⟩ | ⟨Q', m', G', a1, a2, a3, a4, a5, a6, a7, a8⟩
  · refine .inl ⟨h1, k + 1, ?_⟩
    rw [hnext]; unfold ag_rd; rw [h2]; rfl
  · have hrd : ag_rd n no ou Q.1 = some Q'.1 := by
      unfold ag_rd; rw [a2, ← a3]; rfl
    refine .inr ⟨Q', m', a1, a4, ?_⟩
    by_cases hm : m'
    · refine .inr ⟨hm, hnext.trans hrd, ?_⟩
      have hfl : ¬ ∀ u, u < n → ¬ Q.2 u := by
        intro hu
        have := ag_cr_id n no ou n 0 Q False (by omega) hu
        rw [a1] at this
        have h2 : m' = False := congrArg Prod.snd (Option.some.inj this)
        rw [h2] at hm; exact hm
      have hB : ag_B n Q = ag_F n Q.1 + 2 := if_neg hfl
      rw [hB]
      by_cases hg : G'.2
      · rcases a6 hg with h | h
        · exact absurd h id
        · have := ag_B_le n Q'; omega
      · obtain ⟨-, -, b3⟩ := a7 hg
        have : ag_B n Q' = 1 := if_pos (fun u hu hq => by have := (b3 u hq).2; omega)
        omega
    · obtain ⟨-, b2⟩ := a8 hm
      refine .inl ⟨hm, b2, ⟨k, hit⟩, ?_⟩
      rw [hrd, b2]
/-- a round of the reference -/
theorem ag_mod (H : ag_H n no ou) {T0 T : ag_T} {k : Nat} (hit : ag_it n no ou T0 k = some T) (hg : ag_gt T) : (ag_mr no ou n 0 (T, False) = none ∧ ag_bad n no ou T0) ∨ ∃ G', ag_mr no ou n 0 (T, False) = some G' ∧ ag_gt G'.1 ∧ ag_it n no ou T0 (k + 1) = some G'.1 ∧ ((¬ G'.2 ∧ ag_good n no ou T0 G'.1) ∨ (G'.2 ∧ ag_F n G'.1 < ag_F n T)) := by
  have hnext : ag_it n no ou T0 (k + 1) = ag_rd n no ou T := by
    show (ag_it n no ou T0 k).bind _ = _
    rw [hit]; rfl
  cases hr : ag_mr no ou n 0 (T, False) with
  | none =>
    refine .inl ⟨rfl, k + 1, ?_⟩
    rw [hnext]; unfold ag_rd; rw [hr]; rfl
  | some G' =>
    obtain ⟨a1, a2, a3, a4⟩ := ag_mr_g n no ou H n 0 (T, False) (by omega) hg G' hr
    have hrd : ag_rd n no ou T = some G'.1 := by unfold ag_rd; rw [hr]; rfl
    refine .inr ⟨G', rfl, a1, hnext.trans hrd, ?_⟩
    by_cases h : G'.2
    · refine .inr ⟨h, ?_⟩
      rcases a3 h with h | h
      · exact absurd h id
      · exact h
    · obtain ⟨-, b⟩ := a4 h
      refine .inl ⟨h, ⟨k + 1, hnext.trans hrd⟩, ?_⟩
      have b' : G'.1 = T := b
      rw [b']; rw [b'] at hrd; exact hrd
end AgR
