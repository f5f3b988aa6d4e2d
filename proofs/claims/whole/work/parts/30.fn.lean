/-! THE ABSTRACT RUN AS A FUNCTION: ax_fn k pc ls st h, what the run from there comes to (none: it never ends well); it obeys one equation an instruction, by which it is computed with unknown numbers inside -/
theorem ax_exec_succ : ∀ (n k pc : Nat) (ls : ax_L) (st : List Value) (h : ax_H) (z : ax_O × ax_H), ax_exec n k pc ls st h = some z → ax_exec (n + 1) k pc ls st h = some z := by
  intro n
  induction n with
  | zero => intro k pc ls st h z he; cases he
  | succ n ih =>
    intro k pc ls st h z he
    rw [ax_exec] at he ⊢
    split at he
    · cases he
    · rename_i r hr
      split at he
      · rename_i h40
        simp only [h40, if_true] at he ⊢
        split at he
        · rename_i w hw
          exact ih _ _ _ _ _ _ he
        · cases he
      · rename_i h40
        simp only [h40, if_false] at he ⊢
        split at he
        · rename_i h50
          simp only [h50, if_true] at he ⊢
          split at he
          · rename_i hca
            simp only [hca, if_true] at he ⊢
            split at he
            · rename_i w h1 hw
              rw [ih _ _ _ _ _ _ hw]
              exact ih _ _ _ _ _ _ he
            · rename_i q h1 hw
              rw [ih _ _ _ _ _ _ hw]
              simp only
              split at he
              · rename_i t ht
                exact ih _ _ _ _ _ _ he
              · exact he
            · cases he
          · cases he
        · rename_i h50
          simp only [h50, if_false] at he ⊢
          exact he
theorem ax_exec_le {n m k pc : Nat} {ls : ax_L} {st : List Value} {h : ax_H} {z : ax_O × ax_H} (hnm : n ≤ m) (he : ax_exec n k pc ls st h = some z) : ax_exec m k pc ls st h = some z := by
  induction hnm with
  | refl => exact he
  | step _ ih => exact ax_exec_succ _ _ _ _ _ _ _ ih
noncomputable def ax_fn (k pc : Nat) (ls : ax_L) (st : List Value) (h : ax_H) : Option (ax_O × ax_H) :=
  @dite _ (∃ (n : Nat) (z : ax_O × ax_H), ax_exec n k pc ls st h = some z) (Classical.propDecidable _) (fun H => some (Classical.choose (Classical.choose_spec H))) (fun _ => none)
theorem ax_fn_iff {k pc : Nat} {ls : ax_L} {st : List Value} {h : ax_H} {z : ax_O × ax_H} : ax_fn k pc ls st h = some z ↔ ∃ n, ax_exec n k pc ls st h = some z := by
  unfold ax_fn
  constructor
  · intro hf
    split at hf
    · rename_i H
      have := Classical.choose_spec (Classical.choose_spec H)
      cases hf
      exact ⟨_, this⟩
    · cases hf
  · rintro ⟨n, hn⟩
    have H : ∃ (n : Nat) (z : ax_O × ax_H), ax_exec n k pc ls st h = some z := ⟨n, z, hn⟩
    rw [dif_pos H]
    have h2 := Classical.choose_spec (Classical.choose_spec H)
    have h3 := ax_exec_le (Nat.le_max_left n (Classical.choose H)) hn
    have h4 := ax_exec_le (Nat.le_max_right n (Classical.choose H)) h2
    exact congrArg some (Option.some.inj (h4.symm.trans h3))
/-- one instruction's unrolling -/
noncomputable def ax_un (r : ax_R) (k pc : Nat) (ls : ax_L) (st : List Value) (h : ax_H) : Option (ax_O × ax_H) :=
  if r.1 < 40 then (match ax_step k pc r ls st h with
    | some z => ax_fn k z.1 z.2.1 z.2.2.1 z.2.2.2
    | none => none)
  else if r.1 < 50 then (if r.2.2.2.1 ≤ st.length ∧ ax_ca r.1 r.2.2.1 (st.take r.2.2.2.1).reverse (st.drop r.2.2.2.1) h = true then (match ax_fn r.2.2.1 0 (ax_entry r.2.2.1 (st.take r.2.2.2.1).reverse) [] h with
      | some (.inl w, h1) => ax_fn k (pc + 3) ls (w.toList ++ st.drop r.2.2.2.1) h1
      | some (.inr q, h1) => (match ax_hn (ax_hd k) pc q.2 with
        | some t => ax_fn k t ls [.ref q.1] h1
        | none => if ax_hx k = [] then some (.inr q, h1) else none)
      | none => none)
    else none)
  else ax_end k r.1 r.2.2.1 st h
theorem ax_opt {α : Type} {a b : Option α} (h : ∀ z, a = some z ↔ b = some z) : a = b := by
  cases a with
  | none =>
    cases b with
    | none => rfl
    | some z => exact absurd ((h z).mpr rfl) (by simp)
  | some z => exact ((h z).mp rfl).symm
theorem ax_fn_row {k pc : Nat} {r : ax_R} (hr : ax_code k pc = some r) (ls : ax_L) (st : List Value) (h : ax_H) : ax_fn k pc ls st h = ax_un r k pc ls st h := by
  apply ax_opt
  intro z
  rw [ax_fn_iff]
  constructor
  · rintro ⟨n, hn⟩
    cases n with
    | zero => cases hn
    | succ n =>
      rw [ax_exec, hr] at hn
      simp only at hn
      unfold ax_un
      split at hn
      · rename_i h40
        rw [if_pos h40]
        split at hn
        · rename_i w hw
          rw [hw]
          exact ax_fn_iff.mpr ⟨n, hn⟩
        · cases hn
      · rename_i h40
        rw [if_neg h40]
        split at hn
        · rename_i h50
          rw [if_pos h50]
          split at hn
          · rename_i hca
            rw [if_pos hca]
            split at hn
            · rename_i w h1 hw
              rw [ax_fn_iff.mpr ⟨n, hw⟩]
              exact ax_fn_iff.mpr ⟨n, hn⟩
            · rename_i q h1 hw
              rw [ax_fn_iff.mpr ⟨n, hw⟩]
              simp only
              split at hn
              · rename_i t ht
                rw [ht]
                exact ax_fn_iff.mpr ⟨n, hn⟩
              · rename_i ht
                rw [ht]
                exact hn
            · cases hn
          · cases hn
        · rename_i h50
          rw [if_neg h50]
          exact hn
  · intro hz
    unfold ax_un at hz
    split at hz
    · rename_i h40
      split at hz
      · rename_i w hw
        obtain ⟨n, hn⟩ := ax_fn_iff.mp hz
        refine ⟨n + 1, ?_⟩
        rw [ax_exec, hr]
        simp only [h40, if_true, hw]
        exact hn
      · cases hz
    · rename_i h40
      split at hz
      · rename_i h50
        split at hz
        · rename_i hca
          split at hz
          · rename_i w h1 hw
            obtain ⟨n1, hn1⟩ := ax_fn_iff.mp hw
            obtain ⟨n2, hn2⟩ := ax_fn_iff.mp hz
            refine ⟨max n1 n2 + 1, ?_⟩
            rw [ax_exec, hr]
            simp only [h40, h50, hca, if_true, if_false, ax_exec_le (Nat.le_max_left n1 n2) hn1]
            exact ax_exec_le (Nat.le_max_right n1 n2) hn2
          · rename_i q h1 hw
            obtain ⟨n1, hn1⟩ := ax_fn_iff.mp hw
            split at hz
            · rename_i t ht
              obtain ⟨n2, hn2⟩ := ax_fn_iff.mp hz
              refine ⟨max n1 n2 + 1, ?_⟩
              rw [ax_exec, hr]
              simp only [h40, h50, hca, if_true, if_false, ax_exec_le (Nat.le_max_left n1 n2) hn1, ht]
              exact ax_exec_le (Nat.le_max_right n1 n2) hn2
            · rename_i ht
              refine ⟨n1 + 1, ?_⟩
              rw [ax_exec, hr]
              simp only [h40, h50, hca, if_true, if_false, hn1, ht]
              exact hz
          · cases hz
        · cases hz
      · rename_i h50
        refine ⟨1, ?_⟩
        rw [ax_exec, hr]
        simp only [h40, h50, if_false]
        exact hz
