/-! the class's watch -/
theorem ag_gs_st {s : ag_S} {x : Nat} {v : ag_L} {w : Int32} (hs : ag_gs s) (hx : x < 8) (hp : ag_pl v) (hw : ag_wl v) : ag_gs (ag_st s.1 x v, w) := by
  refine ⟨fun l => ?_, fun l => ?_, fun l hl => ?_⟩
  · show ag_pl (ag_st s.1 x v l)
    unfold ag_st; split
    · exact hp
    · exact hs.1 l
  · show ag_wl (ag_st s.1 x v l)
    unfold ag_st; split
    · exact hw
    · exact hs.2.1 l
  · show ag_st s.1 x v l = ag_z
    unfold ag_st; rw [if_neg (by omega)]; exact hs.2.2 l hl
theorem ag_pl_n {c n t : Int32} (h : ¬ c = ay_n 2) : ag_pl (c, n, t) := fun h2 => absurd h2 h
theorem ag_Hc {P : ax_M} {b n : Nat} (hW : ap_wf P) (hb : b < 12) (hn : n = ap_sz P b) : ag_H n (ag_no P b n) (ag_ou P b) := by
  intro p s hp hs hno w hw
  have hn4 := (hW.1 b hb).2
  obtain ⟨w1, w0, w2, w3, w4, w5⟩ := hW.2.2.1 b p hb (by omega)
  have hi6 : ∀ {v : Int32}, ap_nb v 6 → ¬ v = ay_n 2 := fun h => (ag_nb2 h (by omega)).1
  have hc : ap_o P b p = 0 ∨ ap_o P b p = 1 ∨ ap_o P b p = 2 ∨ ap_o P b p = 3 ∨ ap_o P b p = 4 ∨ ap_o P b p = 5 ∨ ap_o P b p = 6 ∨ ap_o P b p = 7 ∨ ap_o P b p = 8 := by omega
  unfold ag_no at hno
  unfold ag_ou at hw
  rcases hc with ho | ho | ho | ho | ho | ho | ho | ho | ho <;> simp only [ho] at hno hw
  · have hx := (w2 (by omega)).2
    obtain rfl := List.mem_singleton.mp hw
    exact ⟨Classical.byContradiction fun h => hno (.inr (.inr h)), ag_gs_st hs hx (hs.1 _) (hs.2.1 _)⟩
  · have hx := (w2 (by omega)).2
    obtain rfl := List.mem_singleton.mp hw
    exact ⟨Classical.byContradiction fun h => hno (.inr h), ag_gs_st hs hx (ag_pl_n (fun h => ag_n12 h.symm)) (.inr (.inl rfl))⟩
  · have hx := (w2 (by omega)).2
    have hy := (w4 (by omega)).1.2
    obtain rfl := List.mem_singleton.mp hw
    have hq : ap_nb (ay_i (ap_y P b p)) 6 := ⟨_, hy, rfl⟩
    exact ⟨Classical.byContradiction fun h => hno (.inr (.inr h)), ag_gs_st hs hx (ag_pl_n (hi6 hq)) (.inr (.inr hq))⟩
  · have hx := (w2 (by omega)).2
    have hz := (w5 (by omega)).2
    obtain rfl := List.mem_singleton.mp hw
    have hob : ag_ob (s.1 (ap_y P b p)) := Classical.byContradiction fun h => hno (.inr (.inl h))
    obtain ⟨q, hq, -, hv2⟩ := ag_wl_i (hs.2.1 _) hob.1
    have hq : ap_nb (P 31 0 (ag_fd (s.1 (ap_y P b p)) (ap_z P b p))) 6 := (hW.2.2.2.1 _ (by unfold ag_fd; rw [hv2]; omega)).1
    exact ⟨Classical.byContradiction fun h => hno (.inr (.inr h)), ag_gs_st hs hx (ag_pl_n (hi6 hq)) (.inr (.inr hq))⟩
  · obtain rfl := List.mem_singleton.mp hw
    exact ⟨Classical.byContradiction fun h => hno (.inr (.inr (.inr h))), hs.1, hs.2.1, hs.2.2⟩
  · have hx := (w2 (by omega)).2
    have hc : ¬ (s.1 (ap_x P b p)).1 = ay_n 2 := fun h => hno (.inl h)
    have hy : ay_w (P 43 0 (40 * b + p)) (ay_i n) = true := by
      cases h : ay_w (P 43 0 (40 * b + p)) (ay_i n)
      · exact absurd (.inr (.inl h)) hno
      · rfl
    obtain ⟨t, ht, -, hy2⟩ := ay_w_inv (by omega) hy
    rcases List.mem_append.mp hw with hw | hw
    · split at hw
      · cases hw
      · obtain rfl := List.mem_singleton.mp hw
        exact ⟨by rw [hy2]; exact ht, ag_gs_st hs hx (ag_pl_n hc) (hs.2.1 _)⟩
    · split at hw
      · cases hw
      · obtain rfl := List.mem_singleton.mp hw
        exact ⟨Classical.byContradiction fun h => hno (.inr (.inr h)), ag_gs_st hs hx (ag_pl_n hc) (hs.2.1 _)⟩
  · obtain rfl := List.mem_singleton.mp hw
    have hy : ay_w (P 43 0 (40 * b + p)) (ay_i n) = true := by
      cases h : ay_w (P 43 0 (40 * b + p)) (ay_i n)
      · exact absurd h hno
      · rfl
    obtain ⟨t, ht, -, hy2⟩ := ay_w_inv (by omega) hy
    exact ⟨by rw [hy2]; exact ht, hs⟩
  · have hx := (w2 (by omega)).2
    have hy := (w4 (by omega)).1.2
    obtain rfl := List.mem_singleton.mp hw
    have hq := (hW.2.2.2.2.2 _ hy).1
    exact ⟨Classical.byContradiction fun h => hno (.inr (.inr h)), ag_gs_st hs hx (ag_pl_n (hi6 hq)) (.inr (.inr hq))⟩
  · cases hw
/-- what a body begins with -/
def ag_s0 (P : ax_M) (b : Nat) : ag_S := (fun l => if l = 7 ∧ b < 6 then (ay_i b, ay_i 0, ay_i 1) else if l < ap_mn P b then (P 34 0 (3 * b + l), ay_b (ap_nu P (3 * b + l)), P 36 0 (3 * b + l)) else ag_z, ay_i 0)
theorem ag_s0_g {P : ax_M} {b : Nat} (hW : ap_wf P) (hb : b < 12) : ag_gs (ag_s0 P b) := by
  have hm := (hW.2.1 b hb).2
  have key : ∀ l, ag_pl ((ag_s0 P b).1 l) ∧ ag_wl ((ag_s0 P b).1 l) := by
    intro l
    show ag_pl (if l = 7 ∧ b < 6 then _ else _) ∧ ag_wl (if l = 7 ∧ b < 6 then _ else _)
    split
    · rename_i h
      have hq : ap_nb (ay_i b) 6 := ⟨_, h.2, rfl⟩
      exact ⟨ag_pl_n (ag_nb2 hq (by omega)).1, .inr (.inr hq)⟩
    · split
      · have hq := (hW.2.2.2.2.1 (3 * b + l) (by omega)).1
        exact ⟨ag_pl_n (ag_nb2 hq (by omega)).1, .inr (.inr hq)⟩
      · exact ⟨fun _ => rfl, .inl rfl⟩
  refine ⟨fun l => (key l).1, fun l => (key l).2, fun l hl => ?_⟩
  show (if l = 7 ∧ b < 6 then _ else _) = _
  rw [if_neg (by omega), if_neg (by omega)]
section AmW
variable {X : Nat × (Nat → Int32)} {e : Nat} {P : ax_M} {o : Int64} {b n : Nat}
theorem al_28a (hb : b < 12) (hn4 : n ≤ 40) : ∀ d k (M : ax_M), k + d = n → M 3 b 6 = ay_i n → (∀ p, p < k → M 12 p 4 = ay_i 0 ∧ M 12 p 5 = ay_i 0) → ∃ M', ax_fn 28 20 [some (.ref (ax_a 9 0)), some (.int (ay_i b)), some (.int (ay_i k))] [] (ax_hp X e b M o) = ax_fn 28 46 [some (.ref (ax_a 9 0)), some (.int (ay_i b)), some (.int (ay_i n))] [] (ax_hp X e b M' o) ∧ ag_fr M M' ∧ ∀ p, p < n → M' 12 p 4 = ay_i 0 ∧ M' 12 p 5 = ay_i 0 := by
  intro d
  induction d with
  | zero =>
    intro k M hk hs hall
    obtain rfl : k = n := by omega
    refine ⟨M, ?_, fun _ _ _ _ => rfl, hall⟩
    rw [af_28_20]
    simp (disch := first | omega | assumption | exact ay_z1b _ | exact ay_z10 | exact ay_z11) only [ae_28, af_28_0, af_28_1, af_28_2, af_28_5, af_28_6, af_28_7, af_28_10, af_28_13, af_28_14, af_28_15, af_28_18, af_28_19, af_28_21, af_28_22, af_28_25, af_28_28, af_28_31, af_28_32, af_28_35, af_28_36, af_28_37, af_28_40, af_28_43, af_28_47, af_28_50, af_28_53, af_28_54, af_28_55, af_28_56, af_28_57, af_28_60, af_28_63, af_28_66, af_28_67, af_28_70, af_28_71, af_28_72, af_28_75, af_28_78, af_28_79, af_28_80, af_28_83, af_28_86, af_28_89, af_28_90, af_28_93, af_28_96, af_28_97, af_28_100, af_28_102, af_28_103, af_28_104, af_28_105, af_28_108, hs, Nat.lt_irrefl, ay_cl_v, ay_cl_s, ay_i_add, ay_i_mul, ay_i_eq, ay_i_lt, ay_b0, ay_b1, ay_ni, ay_in, ay_nn, ay_nl, ay_ln, if_true, if_false, ↓reduceIte, Nat.reduceAdd, Nat.reduceMul, Nat.reduceEqDiff, Nat.reduceLT, Nat.not_lt_zero, Bool.true_eq_false, Bool.false_eq_true, reduceCtorEq, Nat.add_zero, Nat.zero_add]
  | succ d ih =>
    intro k M hk hs hall
    have hlt : k < n := by omega
    have h56 := am_56 (X := X) (e := e) (gb := b) (M := M) (o := o) (s := k) (by omega)
    generalize hM1 : ax_u3 (ax_u3 (ax_u3 (ax_r3 M 13 k (fun j => if j < 8 then ay_n 2 else M 13 k j)) 12 k 3 (ay_i 0)) 12 k 4 (ay_i 0)) 12 k 5 (ay_i 0) = M1 at h56
    have hfr : ag_fr M M1 := by
      intro f i j hf
      rw [← hM1]; simp only [ax_u3, ax_r3]; grind
    obtain ⟨M', e1, e2, e3⟩ := ih (k + 1) M1 (by omega) (by rw [hfr 3 b 6 (by omega)]; exact hs) (by
      intro p hp
      by_cases hpk : p = k
      · subst hpk; rw [← hM1]; simp [ax_u3]
      · rw [← hM1]; simp [ax_u3, ax_r3, hpk]; exact hall p (by omega))
    refine ⟨M', ?_, fun f i j hf => (e2 f i j hf).trans (hfr f i j hf), e3⟩
    rw [← e1, af_28_20]
    simp (disch := first | omega | assumption | exact ay_z1b _ | exact ay_z10 | exact ay_z11) only [ae_28, af_28_0, af_28_1, af_28_2, af_28_5, af_28_6, af_28_7, af_28_10, af_28_13, af_28_14, af_28_15, af_28_18, af_28_19, af_28_21, af_28_22, af_28_25, af_28_28, af_28_31, af_28_32, af_28_35, af_28_36, af_28_37, af_28_40, af_28_43, af_28_47, af_28_50, af_28_53, af_28_54, af_28_55, af_28_56, af_28_57, af_28_60, af_28_63, af_28_66, af_28_67, af_28_70, af_28_71, af_28_72, af_28_75, af_28_78, af_28_79, af_28_80, af_28_83, af_28_86, af_28_89, af_28_90, af_28_93, af_28_96, af_28_97, af_28_100, af_28_102, af_28_103, af_28_104, af_28_105, af_28_108, hs, hlt, h56, ay_cl_v, ay_cl_s, ay_i_add, ay_i_mul, ay_i_eq, ay_i_lt, ay_b0, ay_b1, ay_ni, ay_in, ay_nn, ay_nl, ay_ln, if_true, if_false, ↓reduceIte, Nat.reduceAdd, Nat.reduceMul, Nat.reduceEqDiff, Nat.reduceLT, Nat.not_lt_zero, Bool.true_eq_false, Bool.false_eq_true, reduceCtorEq, Nat.add_zero, Nat.zero_add]
theorem al_28b (hW : ap_wf P) (hb : b < 12) : ∀ d k (M : ax_M), k + d = ap_mn P b → ac_p M P → (∀ l, l < 8 → (ag_vs M 40).1 l = if l < k then (P 34 0 (3 * b + l), ay_b (ap_nu P (3 * b + l)), P 36 0 (3 * b + l)) else ag_z) → M 12 40 3 = ay_i 0 → ∃ M', ax_fn 28 55 [some (.ref (ax_a 9 0)), some (.int (ay_i b)), some (.int (ay_i k))] [] (ax_hp X e b M o) = ax_fn 28 89 [some (.ref (ax_a 9 0)), some (.int (ay_i b)), some (.int (ay_i (ap_mn P b)))] [] (ax_hp X e b M' o) ∧ (∀ f i j, ¬ (12 ≤ f ∧ f ≤ 15 ∧ i = 40) → M' f i j = M f i j) ∧ (∀ l, l < 8 → (ag_vs M' 40).1 l = if l < ap_mn P b then (P 34 0 (3 * b + l), ay_b (ap_nu P (3 * b + l)), P 36 0 (3 * b + l)) else ag_z) ∧ M' 12 40 3 = ay_i 0 := by
  have hm3 := (hW.2.1 b hb).2
  intro d
  induction d with
  | zero =>
    intro k M hk hp hall h0
    obtain rfl : k = ap_mn P b := by omega
    have hm : M 3 b 7 = ay_i (ap_mn P b) := by rw [(hp.1 b hb).2]; exact (hW.2.1 b hb).1
    refine ⟨M, ?_, fun _ _ _ _ => rfl, hall, h0⟩
    rw [af_28_55]
    simp (disch := first | omega | assumption | exact ay_z1b _ | exact ay_z10 | exact ay_z11) only [ae_28, af_28_0, af_28_1, af_28_2, af_28_5, af_28_6, af_28_7, af_28_10, af_28_13, af_28_14, af_28_15, af_28_18, af_28_19, af_28_20, af_28_21, af_28_22, af_28_25, af_28_28, af_28_31, af_28_32, af_28_35, af_28_36, af_28_37, af_28_40, af_28_43, af_28_46, af_28_47, af_28_50, af_28_53, af_28_54, af_28_56, af_28_57, af_28_60, af_28_63, af_28_66, af_28_67, af_28_70, af_28_71, af_28_72, af_28_75, af_28_78, af_28_79, af_28_80, af_28_83, af_28_86, af_28_90, af_28_93, af_28_96, af_28_97, af_28_100, af_28_102, af_28_103, af_28_104, af_28_105, af_28_108, hm, Nat.lt_irrefl, ay_cl_v, ay_cl_s, ay_i_add, ay_i_mul, ay_i_eq, ay_i_lt, ay_b0, ay_b1, ay_ni, ay_in, ay_nn, ay_nl, ay_ln, if_true, if_false, ↓reduceIte, Nat.reduceAdd, Nat.reduceMul, Nat.reduceEqDiff, Nat.reduceLT, Nat.not_lt_zero, Bool.true_eq_false, Bool.false_eq_true, reduceCtorEq, Nat.add_zero, Nat.zero_add]
  | succ d ih =>
    intro k M hk hp hall h0
    have hlt : k < ap_mn P b := by omega
    have hm : M 3 b 7 = ay_i (ap_mn P b) := by rw [(hp.1 b hb).2]; exact (hW.2.1 b hb).1
    obtain ⟨q1, q2, q3⟩ := hp.2.2.2.1 b k hb hlt
    have hq := (hW.2.2.2.2.1 (3 * b + k) (by omega)).1
    have h57 := am_57 (X := X) (e := e) (gb := b) (M := M) (o := o) (s := 40) (l := k) (by omega) (by omega) (show 24 + 3 * b + k < 72 by omega) q2
    rw [q1, q3] at h57
    obtain ⟨M', e1, e2, e3, e4⟩ := ih (k + 1) _ (by omega) (ac_p_fr hp (fun f i j h => ag_f3 (x := k) (c := P 34 0 (3 * b + k)) (n := ay_b (ap_nu P (3 * b + k))) (t := P 36 0 (3 * b + k)) f i j (by omega))) (by
      intro l hl
      rw [ag_vs_u3 (by omega)]
      show ag_st _ _ _ l = _
      unfold ag_st
      by_cases hlk : l = k
      · subst hlk
        rw [if_pos rfl, if_pos (by omega)]
        exact if_neg (ag_nb2 hq (by omega)).1
      · rw [if_neg hlk, hall l hl]
        by_cases h : l < k
        · rw [if_pos h, if_pos (by omega)]
        · rw [if_neg h, if_neg (by omega)]) (by simp [ax_u3]; exact h0)
    refine ⟨M', ?_, fun f i j hf => (e2 f i j hf).trans (ag_f3 f i j hf), e3, e4⟩
    rw [← e1, af_28_55]
    simp (disch := first | omega | assumption | exact ay_z1b _ | exact ay_z10 | exact ay_z11) only [ae_28, af_28_0, af_28_1, af_28_2, af_28_5, af_28_6, af_28_7, af_28_10, af_28_13, af_28_14, af_28_15, af_28_18, af_28_19, af_28_20, af_28_21, af_28_22, af_28_25, af_28_28, af_28_31, af_28_32, af_28_35, af_28_36, af_28_37, af_28_40, af_28_43, af_28_46, af_28_47, af_28_50, af_28_53, af_28_54, af_28_56, af_28_57, af_28_60, af_28_63, af_28_66, af_28_67, af_28_70, af_28_71, af_28_72, af_28_75, af_28_78, af_28_79, af_28_80, af_28_83, af_28_86, af_28_90, af_28_93, af_28_96, af_28_97, af_28_100, af_28_102, af_28_103, af_28_104, af_28_105, af_28_108, hm, hlt, h57, ay_cl_v, ay_cl_s, ay_i_add, ay_i_mul, ay_i_eq, ay_i_lt, ay_b0, ay_b1, ay_ni, ay_in, ay_nn, ay_nl, ay_ln, if_true, if_false, ↓reduceIte, Nat.reduceAdd, Nat.reduceMul, Nat.reduceEqDiff, Nat.reduceLT, Nat.not_lt_zero, Bool.true_eq_false, Bool.false_eq_true, reduceCtorEq, Nat.add_zero, Nat.zero_add]
theorem am_28 {gb : Nat} {M : ax_M} (hW : ap_wf P) (hp : ac_p M P) (hb : b < 12) (hn : n = ap_sz P b) : ∃ M', ax_fn 28 0 (ax_entry 28 [.ref (ax_a 9 0), .int (ay_i b)]) [] (ax_hp X e gb M o) = some (.inl none, ax_hp X e b M' o) ∧ M' 9 0 4 = ay_i b ∧ (∀ f i j, ¬ (12 ≤ f ∧ f ≤ 15) → ¬ (f = 9 ∧ j = 4) → M' f i j = M f i j) ∧ ag_vs M' 40 = ag_s0 P b ∧ ag_rp M' n (fun _ => none, fun _ => False) := by
  have hsz := hW.1 b hb
  have hm3 := (hW.2.1 b hb).2
  have hs : M 3 b 6 = ay_i n := by rw [(hp.1 b hb).1, hsz.1, hn]
  have hM0 : ∀ f i j, ¬ (f = 9 ∧ j = 4) → ax_u3 M 9 0 4 (ay_i b) f i j = M f i j := by
    intro f i j h; simp only [ax_u3]; grind
  obtain ⟨M1, a1, a2, a3⟩ := al_28a (X := X) (e := e) (o := o) hb (show n ≤ 40 by omega) n 0 (ax_u3 M 9 0 4 (ay_i b)) (by omega) (by rw [hM0 _ _ _ (by omega)]; exact hs) (fun p hp => absurd hp (by omega))
  have h56 := am_56 (X := X) (e := e) (gb := b) (M := M1) (o := o) (s := 40) (by omega)
  generalize hM2 : ax_u3 (ax_u3 (ax_u3 (ax_r3 M1 13 40 (fun j => if j < 8 then ay_n 2 else M1 13 40 j)) 12 40 3 (ay_i 0)) 12 40 4 (ay_i 0)) 12 40 5 (ay_i 0) = M2 at h56
  have hf2 : ∀ f i j, ¬ (12 ≤ f ∧ f ≤ 15 ∧ i = 40) → M2 f i j = M1 f i j := by
    intro f i j h; rw [← hM2]; simp only [ax_u3, ax_r3]; grind
  have hp2 : ac_p M2 P := by
    have h0 : ac_p (ax_u3 M 9 0 4 (ay_i b)) P := by
      obtain ⟨h1, h2, h3, h4, h5⟩ := hp
      refine ⟨fun b hb => ?_, fun b p hb hp => ?_, fun f hf' => ?_, fun b k hb hk => ?_, fun f hf' => ?_⟩
      · rw [hM0 _ _ _ (by omega), hM0 _ _ _ (by omega)]; exact h1 b hb
      · rw [hM0 _ _ _ (by omega), hM0 _ _ _ (by omega), hM0 _ _ _ (by omega), hM0 _ _ _ (by omega)]; exact h2 b p hb hp
      · rw [hM0 _ _ _ (by omega), hM0 _ _ _ (by omega), hM0 _ _ _ (by omega)]; exact h3 f hf'
      · rw [hM0 _ _ _ (by omega), hM0 _ _ _ (by omega), hM0 _ _ _ (by omega)]; exact h4 b k hb hk
      · rw [hM0 _ _ _ (by omega), hM0 _ _ _ (by omega), hM0 _ _ _ (by omega)]; exact h5 f hf'
    exact ac_p_fr h0 (fun f i j h => (hf2 f i j (by omega)).trans (a2 f i j (by omega)))
  obtain ⟨M3, b1, b2, b3, b4⟩ := al_28b (X := X) (e := e) (o := o) hW hb (ap_mn P b) 0 M2 (by omega) hp2 (by
    intro l hl
    rw [ag_vs_lt hl, if_neg (by omega), ← hM2]
    refine if_pos ?_
    simp [ax_u3, ax_r3, hl]) (by rw [← hM2]; simp [ax_u3])
  have hs1 : M1 3 b 6 = ay_i n := by rw [a2 3 b 6 (by omega), hM0 _ _ _ (by omega)]; exact hs
  have h82 := am_82 (h := ax_hp X e b M3 o) (a := ay_i b)
  have hz : ∀ p, p < n → M3 12 p 4 = ay_i 0 ∧ M3 12 p 5 = ay_i 0 := by
    intro p hpn
    rw [b2 _ _ _ (by omega), b2 _ _ _ (by omega), hf2 _ _ _ (by omega), hf2 _ _ _ (by omega)]; exact a3 p hpn
  have hw3 : M3 9 0 4 = ay_i b := by
    rw [b2 _ _ _ (by omega), hf2 _ _ _ (by omega), a2 _ _ _ (by omega)]; simp [ax_u3]
  have hfr3 : ∀ f i j, ¬ (12 ≤ f ∧ f ≤ 15) → ¬ (f = 9 ∧ j = 4) → M3 f i j = M f i j := by
    intro f i j h1 h2
    rw [b2 _ _ _ (by omega), hf2 _ _ _ (by omega), a2 _ _ _ (by omega), hM0 _ _ _ h2]
  have rpz : ∀ M4 : ax_M, (∀ p, p < n → M4 12 p 4 = ay_i 0 ∧ M4 12 p 5 = ay_i 0) → ag_rp M4 n (fun _ => none, fun _ => False) := by
    intro M4 h4
    refine ⟨?_, fun p hpn => ⟨⟨false, (h4 p hpn).1⟩, false, (h4 p hpn).2, by simp⟩⟩
    funext p
    unfold ag_vt
    refine if_neg ?_
    rintro ⟨h1, h2⟩
    rw [(h4 p h1).1, ay_i_eq (by omega) (by omega)] at h2
    omega
  by_cases hb6 : b < 6
  · have hd : decide (ay_i b < ay_i 6) = true := decide_eq_true (by rw [ay_i_lt (by omega) (by omega)]; exact hb6)
    rw [hd] at h82
    have h58 := am_58 (X := X) (e := e) (gb := b) (M := M3) (o := o) (s := 40) (l := 7) (c := ay_i b) (n := ay_i 0) (t := ay_i 1) (by omega) (by omega)
    refine ⟨ax_u3 (ax_u3 (ax_u3 M3 13 40 7 (ay_i b)) 14 40 7 (ay_i 0)) 15 40 7 (ay_i 1), ?_, ?_, ?_, ?_, rpz _ ?_⟩
    · simp (disch := first | omega | assumption | exact ay_z1b _ | exact ay_z10 | exact ay_z11) only [ae_28, af_28_0, af_28_1, af_28_2, af_28_5, af_28_6, af_28_7, af_28_10, af_28_13, af_28_14, af_28_15, af_28_18, af_28_19, af_28_21, af_28_22, af_28_25, af_28_28, af_28_31, af_28_32, af_28_35, af_28_36, af_28_37, af_28_40, af_28_43, af_28_47, af_28_50, af_28_53, af_28_54, af_28_56, af_28_57, af_28_60, af_28_63, af_28_66, af_28_67, af_28_70, af_28_71, af_28_72, af_28_75, af_28_78, af_28_79, af_28_80, af_28_83, af_28_86, af_28_90, af_28_93, af_28_96, af_28_97, af_28_100, af_28_102, af_28_103, af_28_104, af_28_105, af_28_108, ay_cl_v, ay_cl_s, ay_i_add, ay_i_mul, ay_i_eq, ay_i_lt, ay_b0, ay_b1, ay_ni, ay_in, ay_nn, ay_nl, ay_ln, if_true, if_false, ↓reduceIte, Nat.reduceAdd, Nat.reduceMul, Nat.reduceEqDiff, Nat.reduceLT, Nat.not_lt_zero, Bool.true_eq_false, Bool.false_eq_true, reduceCtorEq, Nat.add_zero, Nat.zero_add]
      rw [a1]
      simp (disch := first | omega | assumption | exact ay_z1b _ | exact ay_z10 | exact ay_z11) only [ae_28, af_28_0, af_28_1, af_28_2, af_28_5, af_28_6, af_28_7, af_28_10, af_28_13, af_28_14, af_28_15, af_28_18, af_28_19, af_28_21, af_28_22, af_28_25, af_28_28, af_28_31, af_28_32, af_28_35, af_28_36, af_28_37, af_28_40, af_28_43, af_28_46, af_28_47, af_28_50, af_28_53, af_28_54, af_28_56, af_28_57, af_28_60, af_28_63, af_28_66, af_28_67, af_28_70, af_28_71, af_28_72, af_28_75, af_28_78, af_28_79, af_28_80, af_28_83, af_28_86, af_28_90, af_28_93, af_28_96, af_28_97, af_28_100, af_28_102, af_28_103, af_28_104, af_28_105, af_28_108, h56, ay_cl_v, ay_cl_s, ay_i_add, ay_i_mul, ay_i_eq, ay_i_lt, ay_b0, ay_b1, ay_ni, ay_in, ay_nn, ay_nl, ay_ln, if_true, if_false, ↓reduceIte, Nat.reduceAdd, Nat.reduceMul, Nat.reduceEqDiff, Nat.reduceLT, Nat.not_lt_zero, Bool.true_eq_false, Bool.false_eq_true, reduceCtorEq, Nat.add_zero, Nat.zero_add]
      rw [b1]
      simp (disch := first | omega | assumption | exact ay_z1b _ | exact ay_z10 | exact ay_z11) only [ae_28, af_28_0, af_28_1, af_28_2, af_28_5, af_28_6, af_28_7, af_28_10, af_28_13, af_28_14, af_28_15, af_28_18, af_28_19, af_28_21, af_28_22, af_28_25, af_28_28, af_28_31, af_28_32, af_28_35, af_28_36, af_28_37, af_28_40, af_28_43, af_28_47, af_28_50, af_28_53, af_28_54, af_28_56, af_28_57, af_28_60, af_28_63, af_28_66, af_28_67, af_28_70, af_28_71, af_28_72, af_28_75, af_28_78, af_28_79, af_28_80, af_28_83, af_28_86, af_28_89, af_28_90, af_28_93, af_28_96, af_28_97, af_28_100, af_28_102, af_28_103, af_28_104, af_28_105, af_28_108, h82, h58, ay_cl_v, ay_cl_s, ay_i_add, ay_i_mul, ay_i_eq, ay_i_lt, ay_b0, ay_b1, ay_ni, ay_in, ay_nn, ay_nl, ay_ln, if_true, if_false, ↓reduceIte, Nat.reduceAdd, Nat.reduceMul, Nat.reduceEqDiff, Nat.reduceLT, Nat.not_lt_zero, Bool.true_eq_false, Bool.false_eq_true, reduceCtorEq, Nat.add_zero, Nat.zero_add]
    · rw [ag_f3 _ _ _ (by omega)]; exact hw3
    · intro f i j h1 h2
      rw [ag_f3 _ _ _ (by omega)]; exact hfr3 f i j h1 h2
    · rw [ag_vs_u3 (by omega)]
      refine Prod.ext ?_ b4
      funext l
      show ag_st _ _ _ l = if l = 7 ∧ b < 6 then _ else _
      unfold ag_st
      by_cases h7 : l = 7
      · rw [if_pos h7, if_pos ⟨h7, hb6⟩]
        exact if_neg (ag_nb2 (n := 6) ⟨b, hb6, rfl⟩ (by omega)).1
      · rw [if_neg h7, if_neg (by omega)]
        by_cases hl : l < 8
        · exact b3 l hl
        · rw [if_neg (by omega)]; exact if_neg hl
    · intro p hpn
      rw [ag_f3 _ _ _ (by omega), ag_f3 _ _ _ (by omega)]; exact hz p hpn
  · have hd : decide (ay_i b < ay_i 6) = false := decide_eq_false (by rw [ay_i_lt (by omega) (by omega)]; exact hb6)
    rw [hd] at h82
    refine ⟨M3, ?_, hw3, hfr3, ?_, rpz _ hz⟩
    · simp (disch := first | omega | assumption | exact ay_z1b _ | exact ay_z10 | exact ay_z11) only [ae_28, af_28_0, af_28_1, af_28_2, af_28_5, af_28_6, af_28_7, af_28_10, af_28_13, af_28_14, af_28_15, af_28_18, af_28_19, af_28_21, af_28_22, af_28_25, af_28_28, af_28_31, af_28_32, af_28_35, af_28_36, af_28_37, af_28_40, af_28_43, af_28_47, af_28_50, af_28_53, af_28_54, af_28_56, af_28_57, af_28_60, af_28_63, af_28_66, af_28_67, af_28_70, af_28_71, af_28_72, af_28_75, af_28_78, af_28_79, af_28_80, af_28_83, af_28_86, af_28_90, af_28_93, af_28_96, af_28_97, af_28_100, af_28_102, af_28_103, af_28_104, af_28_105, af_28_108, ay_cl_v, ay_cl_s, ay_i_add, ay_i_mul, ay_i_eq, ay_i_lt, ay_b0, ay_b1, ay_ni, ay_in, ay_nn, ay_nl, ay_ln, if_true, if_false, ↓reduceIte, Nat.reduceAdd, Nat.reduceMul, Nat.reduceEqDiff, Nat.reduceLT, Nat.not_lt_zero, Bool.true_eq_false, Bool.false_eq_true, reduceCtorEq, Nat.add_zero, Nat.zero_add]
      rw [a1]
      simp (disch := first | omega | assumption | exact ay_z1b _ | exact ay_z10 | exact ay_z11) only [ae_28, af_28_0, af_28_1, af_28_2, af_28_5, af_28_6, af_28_7, af_28_10, af_28_13, af_28_14, af_28_15, af_28_18, af_28_19, af_28_21, af_28_22, af_28_25, af_28_28, af_28_31, af_28_32, af_28_35, af_28_36, af_28_37, af_28_40, af_28_43, af_28_46, af_28_47, af_28_50, af_28_53, af_28_54, af_28_56, af_28_57, af_28_60, af_28_63, af_28_66, af_28_67, af_28_70, af_28_71, af_28_72, af_28_75, af_28_78, af_28_79, af_28_80, af_28_83, af_28_86, af_28_90, af_28_93, af_28_96, af_28_97, af_28_100, af_28_102, af_28_103, af_28_104, af_28_105, af_28_108, h56, ay_cl_v, ay_cl_s, ay_i_add, ay_i_mul, ay_i_eq, ay_i_lt, ay_b0, ay_b1, ay_ni, ay_in, ay_nn, ay_nl, ay_ln, if_true, if_false, ↓reduceIte, Nat.reduceAdd, Nat.reduceMul, Nat.reduceEqDiff, Nat.reduceLT, Nat.not_lt_zero, Bool.true_eq_false, Bool.false_eq_true, reduceCtorEq, Nat.add_zero, Nat.zero_add]
      rw [b1]
      simp (disch := first | omega | assumption | exact ay_z1b _ | exact ay_z10 | exact ay_z11) only [ae_28, af_28_0, af_28_1, af_28_2, af_28_5, af_28_6, af_28_7, af_28_10, af_28_13, af_28_14, af_28_15, af_28_18, af_28_19, af_28_21, af_28_22, af_28_25, af_28_28, af_28_31, af_28_32, af_28_35, af_28_36, af_28_37, af_28_40, af_28_43, af_28_47, af_28_50, af_28_53, af_28_54, af_28_56, af_28_57, af_28_60, af_28_63, af_28_66, af_28_67, af_28_70, af_28_71, af_28_72, af_28_75, af_28_78, af_28_79, af_28_80, af_28_83, af_28_86, af_28_89, af_28_90, af_28_93, af_28_96, af_28_97, af_28_100, af_28_102, af_28_103, af_28_104, af_28_105, af_28_108, h82, ay_cl_v, ay_cl_s, ay_i_add, ay_i_mul, ay_i_eq, ay_i_lt, ay_b0, ay_b1, ay_ni, ay_in, ay_nn, ay_nl, ay_ln, if_true, if_false, ↓reduceIte, Nat.reduceAdd, Nat.reduceMul, Nat.reduceEqDiff, Nat.reduceLT, Nat.not_lt_zero, Bool.true_eq_false, Bool.false_eq_true, reduceCtorEq, Nat.add_zero, Nat.zero_add]
    · refine Prod.ext ?_ b4
      funext l
      show _ = if l = 7 ∧ b < 6 then _ else _
      rw [if_neg (by omega)]
      by_cases hl : l < 8
      · exact b3 l hl
      · rw [if_neg (by omega)]; exact if_neg hl
end AmW
