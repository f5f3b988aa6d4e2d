/-! the heap behind the constructors is one of those on which the calls are told -/
def al_M0 : ax_M := fun f i j => if i < ax_ct f then al_lk (al_ce al_lit (ax_a f i)).2.1 j else 0
theorem al_c1 : (List.range 389).all (fun a => decide ((al_ce al_lit a).1 = ax_kd (ax_fa a))) = true := by decide +kernel
theorem al_c2 : (List.range 389).all (fun a => (List.range 64).all (fun j => decide (al_lr (al_ce al_lit a).2.2 j = ax_rf 0 (ax_fa a) (ax_ix a) j)) && (al_ce al_lit a).2.2.all (fun q => decide (q.1 < 64))) = true := by decide +kernel
def al_sx (f j : Nat) : Bool := decide ((f = 10 ∧ j = 1) ∨ (f = 9 ∧ j = 4) ∨ (f = 18 ∧ j = 9) ∨ (f = 22 ∧ j = 3))
theorem al_c3 : (List.range 389).all (fun a => (al_ce al_lit a).2.1.all (fun q => decide (q.2 = 0) || al_sx (ax_fa a) q.1)) = true := by decide +kernel
theorem al_c4 : (List.range 72).all (fun i => decide (al_lk (al_ce al_lit (ax_a 10 i)).2.1 1 = ay_i 1)) = true := by decide +kernel
theorem al_c5 : al_lk (al_ce al_lit (ax_a 9 0)).2.1 4 = ay_n 1 := by decide +kernel
theorem al_lr_no : ∀ (l : List (Nat × Nat)) (j : Nat), l.all (fun q => decide (q.1 < 64)) = true → 64 ≤ j → al_lr l j = none := by
  intro l j h hj
  induction l with
  | nil => rfl
  | cons q t ih =>
    rw [List.all_cons, Bool.and_eq_true] at h
    have := of_decide_eq_true h.1
    rw [al_lr, if_neg (by omega)]
    exact ih h.2
theorem al_lk_z {f : Nat} : ∀ (l : List (Nat × Int32)) (j : Nat), l.all (fun q => decide (q.2 = 0) || al_sx f q.1) = true → al_sx f j = false → al_lk l j = 0 := by
  intro l j h hj
  induction l with
  | nil => rfl
  | cons q t ih =>
    rw [List.all_cons, Bool.and_eq_true, Bool.or_eq_true] at h
    rw [al_lk]
    split
    · rename_i hq
      rcases h.1 with h1 | h1
      · exact of_decide_eq_true h1
      · rw [← hq, hj] at h1; cases h1
    · exact ih h.2
theorem ax_rq_no {f i j : Nat} (hj : 64 ≤ j) : ax_rq f i j = none := by
  unfold ax_rq
  split <;> first | omega | rfl | (rw [if_neg (by omega)])
theorem al_M0_z {f i j : Nat} (h : al_sx f j = false) : al_M0 f i j = 0 := by
  unfold al_M0
  split
  · rename_i hi
    obtain ⟨h1, h2, h3⟩ := ax_dc hi
    have h4 := List.all_eq_true.mp al_c3 (ax_a f i) (List.mem_range.mpr h1)
    rw [h2] at h4
    exact al_lk_z _ _ h4 h
  · rfl
theorem al_hp {X : Nat × (Nat → Int32)} : al_to X al_lit = ax_hp X 0 0 al_M0 0 := by
  unfold al_to ax_hp
  have e1 : al_lit.1 = 389 := rfl
  have e2 : al_lit.2.1 = 7908 := rfl
  rw [e1, e2]
  refine Prod.ext rfl (Prod.ext ?_ (Prod.ext ?_ (Prod.ext ?_ ?_)))
  · funext a
    by_cases ha : a < 389
    · simp only [ha, if_true]
      exact of_decide_eq_true (List.all_eq_true.mp al_c1 a (List.mem_range.mpr ha))
    · simp only [ha, if_false]
  · funext a
    by_cases ha : a < 389
    · simp only [ha, if_true]
      funext j
      obtain ⟨h1, h2, h3⟩ := ax_dd ha
      unfold al_M0
      rw [if_pos h2, h3]
    · simp only [ha, if_false]
  · funext a
    by_cases ha : a < 389
    · simp only [ha, if_true]
      funext j
      have h1 := List.all_eq_true.mp al_c2 a (List.mem_range.mpr ha)
      rw [Bool.and_eq_true] at h1
      by_cases hj : j < 64
      · exact of_decide_eq_true (List.all_eq_true.mp h1.1 j (List.mem_range.mpr hj))
      · rw [al_lr_no _ _ h1.2 (by omega)]
        unfold ax_rf
        rw [if_neg (by omega), ax_rq_no (by omega)]
    · simp only [ha, if_false]
  · funext a j
    simp
theorem ay_i0 : ay_i 0 = 0 := by decide
theorem al_pr0 (f i j : Nat) : ag_pr al_M0 f i j = ay_i 0 := by
  unfold ag_pr
  split
  · rename_i h
    rw [ay_i0]
    exact al_M0_z (decide_eq_false (by omega))
  · exact ay_i0.symm
theorem al_R : ai_R al_M0 := by
  have z : ∀ f i j, al_sx f j = false → al_M0 f i j = ay_i 0 := fun f i j h => by rw [ay_i0]; exact al_M0_z h
  have n1 : ∀ i, i < 72 → al_M0 10 i 1 = ay_i 1 := by
    intro i hi
    have hct : i < ax_ct 10 := by rw [ay_c10]; exact hi
    unfold al_M0
    rw [if_pos hct]
    exact of_decide_eq_true (List.all_eq_true.mp al_c4 i (List.mem_range.mpr hi))
  have sz : ∀ b, ap_sz (ag_pr al_M0) b = 0 := fun b => by unfold ap_sz; rw [al_pr0]; exact ay_i_ct (by omega)
  have mn : ∀ b, ap_mn (ag_pr al_M0) b = 0 := fun b => by unfold ap_mn; rw [al_pr0]; exact ay_i_ct (by omega)
  have su : ∀ b, ap_su (ag_pr al_M0) b = false := fun b => by unfold ap_su; rw [al_pr0]; decide
  have nu : ∀ b, ap_nu (ag_pr al_M0) b = false := fun b => by unfold ap_nu; rw [al_pr0]; decide
  have rs : ∀ b, ap_rs (ag_pr al_M0) b = false := fun b => by unfold ap_rs; rw [al_pr0]; decide
  refine ai_R0 ?_ ?_ ?_ ?_ ?_ ?_
  · refine ⟨fun b hb => ?_, fun b hb => ?_, fun b p hb hp => ?_, fun f hf => ?_, fun f hf => ?_, fun f hf => ?_⟩
    · rw [sz, al_pr0]; exact ⟨rfl, by omega⟩
    · rw [mn, al_pr0]; exact ⟨rfl, by omega⟩
    · rw [sz] at hp; omega
    · rw [su, al_pr0, al_pr0]; exact ⟨⟨0, by omega, rfl⟩, rfl⟩
    · rw [nu, al_pr0, al_pr0, al_pr0]; exact ⟨⟨0, by omega, rfl⟩, rfl, ⟨0, by omega, rfl⟩⟩
    · rw [rs, al_pr0, al_pr0, al_pr0]; exact ⟨⟨0, by omega, rfl⟩, rfl, ⟨0, by omega, rfl⟩⟩
  · refine ⟨fun b hb => ?_, fun b p hb hp => ?_, fun f hf => ?_, fun b k hb hk => ?_, fun f hf => ?_⟩
    · rw [al_pr0, al_pr0]; exact ⟨z _ _ _ (by decide), z _ _ _ (by decide)⟩
    · rw [al_pr0, al_pr0, al_pr0, al_pr0]
      exact ⟨z _ _ _ (decide_eq_false (by omega)), z _ _ _ (decide_eq_false (by omega)), z _ _ _ (decide_eq_false (by omega)), z _ _ _ (decide_eq_false (by omega))⟩
    · rw [al_pr0, su]; exact ⟨z _ _ _ (by decide), n1 _ (by omega), z _ _ _ (by decide)⟩
    · rw [mn] at hk; omega
    · rw [al_pr0, al_pr0, rs]; exact ⟨z _ _ _ (by decide), n1 _ (by omega), z _ _ _ (by decide)⟩
  · intro b hb; exact z _ _ _ (decide_eq_false (by omega))
  · have hct : 0 < ax_ct 9 := by rw [ay_c9]; omega
    unfold al_M0
    rw [if_pos hct]
    exact al_c5
  · exact z _ _ _ (by decide)
  · exact z _ _ _ (by decide)
theorem al_lc_eq {ls : ax_L} {a b c d : Nat} {i : Int32} (h : al_lc ls = some (a, b, c, d, i)) : ls = [some (.ref a), some (.ref b), some (.ref c), some (.ref d), some (.int i), none, none] := by
  unfold al_lc at h
  split at h
  · cases h; rfl
  · cases h
theorem al_done {X : Nat × (Nat → Int32)} : ax_fn 0 0 (ax_entry 0 [.ref 1000000000]) [] (al_to X (0, 0, [])) = ax_fn 0 23 [some (.ref 1000000000), some (.ref (ax_a 0 0)), some (.ref (ax_a 24 0)), some (.ref (ax_a 68 0)), some (.int (ay_i 0)), none, none] [] (ax_hp X 0 0 al_M0 0) := by
  have h := al_run
  cases hp : al_pre 30 0 (ax_entry 0 [.ref 1000000000]) [] (0, 0, []) with
  | none => rw [hp] at h; cases h
  | some z =>
    obtain ⟨ls, st, H⟩ := z
    rw [hp] at h
    cases st with
    | cons v t => cases h
    | nil =>
      rw [al_ck, Bool.and_eq_true, Bool.and_eq_true, Bool.and_eq_true] at h
      obtain ⟨h1, h2, h3, h4⟩ := h
      have g1 := al_lc_eq (of_decide_eq_true h1)
      have g2 := of_decide_eq_true h2
      have g3 := of_decide_eq_true h3
      have g4 := al_le_eq _ _ h4
      have hH : H = al_lit := Prod.ext g2 (Prod.ext g3 g4)
      have := al_psnd (X := X) _ _ _ _ _ _ ⟨rfl, by show 0 ≤ _; omega⟩ hp
      rw [this, g1, hH, al_hp]
      rfl
theorem ax_pure : ∀ (L : Nat) (xs : Nat → Int32), L ≤ 3072 → ∃ (n : Nat) (h' : ax_H), ax_exec n 0 0 (ax_entry 0 [.ref 1000000000]) [] ((0, 0), (fun a => if a = 1000000000 then (99, L) else (0, 0)), (fun a => if a = 1000000000 then xs else fun _ => 0), (fun _ _ => none), (fun _ _ => 0)) = some (.inl (some (.int 1)), h') ∧ h'.1.1 ≤ 601024 ∧ h'.1.2 ≤ 7293034 := by
  intro L xs hL
  have h0 : (((0, 0), (fun a => if a = 1000000000 then (99, L) else (0, 0)), (fun a => if a = 1000000000 then xs else fun _ => 0), (fun _ _ => none), (fun _ _ => 0)) : ax_H) = al_to (L, xs) (0, 0, []) := by
    unfold al_to
    refine Prod.ext rfl (Prod.ext ?_ (Prod.ext ?_ (Prod.ext ?_ rfl)))
    · funext a; simp
    · funext a; simp
    · funext a; simp
  obtain ⟨e', gb', M', o', he, hr⟩ := ak_law (X := (L, xs)) hL 512 0 0 0 al_M0 0 none none (by show L ≤ _; omega) (by omega) (by omega) al_R
  rw [← al_done, ← h0] at hr
  obtain ⟨n, hn⟩ := ax_fn_iff.mp hr
  refine ⟨n, _, hn, ?_, ?_⟩
  · show 389 + e' ≤ _; omega
  · show 7908 + 6 * e' ≤ _; omega
