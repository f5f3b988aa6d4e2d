/-! what an abstract heap says of the machine's heap H: cell a lies at b0 + a; the script at b -/
def ax_g (b b0 a : Nat) : Nat := if a = 1000000000 then b else b0 + a
def ax_cv (b b0 : Nat) (v : Value) : Value := match v with
  | .ref a => .ref (ax_g b b0 a)
  | v => v
def ax_fw (b b0 : Nat) (h : ax_H) (ci a i : Nat) : Value := if ax_ft ci i = 2 then va_rf ((h.2.2.2.1 a i).map (ax_g b b0)) else .int (h.2.2.1 a i)
def ax_cell (D : va_G) (cA : Nat → ClassId) (b b0 : Nat) (h : ax_H) (a : Nat) (H : Heap) : Prop :=
  (∀ ci, ci < 9 → (h.2.1 a).1 = ci + 1 → t_OB (b0 + a) (D.1 ci) (ax_nf ci) (D.2 ci) H (ax_fw b b0 h ci a)) ∧
  ((h.2.1 a).1 = 20 ∨ (h.2.1 a).1 = 21 → H[b0 + a]? = some (arrV (cA (h.2.1 a).1) (h.2.1 a).2 (fun j => .int (h.2.2.1 a j)))) ∧
  ((h.2.1 a).1 = 22 → H[b0 + a]? = some (arrV (cA 22) (h.2.1 a).2 (fun j => .long (h.2.2.2.2 a j)))) ∧
  (ax_ra (h.2.1 a).1 = true → H[b0 + a]? = some (arrV (cA (h.2.1 a).1) (h.2.1 a).2 (fun j => va_rf ((h.2.2.2.1 a j).map (ax_g b b0)))))
def ax_rel (D : va_G) (cA : Nat → ClassId) (b b0 : Nat) (S : (Nat × Nat) × (Nat → Int32)) (h : ax_H) (H : Heap) : Prop := H.size = b0 + h.1.1 ∧ h.1.1 < 1000000000 ∧ (∀ a, a < h.1.1 → ax_cell D cA b b0 h a H) ∧ h.2.1 1000000000 = S.1 ∧ h.2.2.1 1000000000 = S.2
theorem ax_g_lt {b b0 a : Nat} (h : a < 1000000000) : ax_g b b0 a = b0 + a := by
  unfold ax_g; rw [if_neg (by omega)]
theorem ax_cv_int (b b0 : Nat) (x : Int32) : ax_cv b b0 (.int x) = .int x := rfl
theorem ax_cv_long (b b0 : Nat) (x : Int64) : ax_cv b b0 (.long x) = .long x := rfl
theorem ax_cv_ref (b b0 : Nat) (a : Nat) : ax_cv b b0 (.ref a) = .ref (ax_g b b0 a) := rfl
theorem ax_cv_cat (b b0 : Nat) (v : Value) : (ax_cv b b0 v).category = v.category := by cases v <;> rfl
theorem ax_cell_congr {D : va_G} {cA : Nat → ClassId} {b b0 : Nat} {h h' : ax_H} {a : Nat} {H H' : Heap} (e1 : h'.2.1 a = h.2.1 a) (e2 : h'.2.2.1 a = h.2.2.1 a) (e3 : h'.2.2.2.1 a = h.2.2.2.1 a) (e4 : h'.2.2.2.2 a = h.2.2.2.2 a) (eH : H'[b0 + a]? = H[b0 + a]?) (hc : ax_cell D cA b b0 h a H) : ax_cell D cA b b0 h' a H' := by
  obtain ⟨c1, c2, c3, c4⟩ := hc
  unfold ax_cell
  rw [e1, e2, e3, e4, eH]
  refine ⟨fun ci h9 hk => ?_, c2, c3, c4⟩
  refine ((c1 ci h9 hk).kept eH).to (fun i hi => ?_)
  unfold ax_fw
  rw [e2, e3]
theorem ax_up_other {α : Type} (f : Nat → Nat → α) {a a' i : Nat} (x : α) (h : a' ≠ a) : ax_up f a i x a' = f a' := by
  funext j
  simp [ax_up, h]
theorem ax_up_self {α : Type} (f : Nat → Nat → α) (a i : Nat) (x : α) : ax_up f a i x a = fun j => if j = i then x else f a j := by
  funext j
  simp [ax_up]
theorem ax_rw_other {α : Type} (f : Nat → Nat → α) {a a' : Nat} (g : Nat → α) (h : a' ≠ a) : ax_rw f a g a' = f a' := by
  simp [ax_rw, h]
theorem ax_rw_self {α : Type} (f : Nat → Nat → α) (a : Nat) (g : Nat → α) : ax_rw f a g a = g := by
  simp [ax_rw]
theorem ax_sh_other (f : Nat → Nat × Nat) {a a' : Nat} (x : Nat × Nat) (h : a' ≠ a) : ax_sh f a x a' = f a' := by
  simp [ax_sh, h]
theorem ax_sh_self (f : Nat → Nat × Nat) (a : Nat) (x : Nat × Nat) : ax_sh f a x a = x := by
  simp [ax_sh]
/-- a cell is pushed: the rest stays -/
theorem ax_rel_new {D : va_G} {cA : Nat → ClassId} {b b0 : Nat} {S : (Nat × Nat) × (Nat → Int32)} {h : ax_H} {H H' : Heap} {kd n : Nat} (hr : ax_rel D cA b b0 S h H) (hs : h.1.1 < 900000000) (hz : H'.size = b0 + h.1.1 + 1) (ho : ∀ q : Nat, q < b0 + h.1.1 → H'[q]? = H[q]?) (hc : ax_cell D cA b b0 (ax_new h kd n) h.1.1 H') : ax_rel D cA b b0 S (ax_new h kd n) H' := by
  obtain ⟨r1, r2, r3, r4, r5⟩ := hr
  have hns : (1000000000 : Nat) ≠ h.1.1 := by omega
  refine ⟨by rw [hz]; show _ = b0 + (h.1.1 + 1); omega, by show h.1.1 + 1 < _; omega, fun a ha => ?_, (ax_sh_other _ _ hns).trans r4, (ax_rw_other _ _ hns).trans r5⟩
  have ha : a < h.1.1 + 1 := ha
  rcases Nat.lt_or_ge a h.1.1 with hl | hl
  · have hne : a ≠ h.1.1 := Nat.ne_of_lt hl
    exact ax_cell_congr (ax_sh_other _ _ hne) (ax_rw_other _ _ hne) (ax_rw_other _ _ hne) (ax_rw_other _ _ hne) (ho _ (by omega)) (r3 a hl)
  · have : a = h.1.1 := by omega
    subst this
    exact hc
/-- one cell is written: the rest stays -/
theorem ax_rel_set {D : va_G} {cA : Nat → ClassId} {b b0 : Nat} {S : (Nat × Nat) × (Nat → Int32)} {h h' : ax_H} {H H' : Heap} {a : Nat} (hr : ax_rel D cA b b0 S h H) (hns : (1000000000 : Nat) ≠ a) (ez : h'.1 = h.1) (hz : H'.size = H.size) (ho : ∀ q : Nat, q ≠ b0 + a → H'[q]? = H[q]?) (hk : ∀ a', a' ≠ a → h'.2.1 a' = h.2.1 a' ∧ h'.2.2.1 a' = h.2.2.1 a' ∧ h'.2.2.2.1 a' = h.2.2.2.1 a' ∧ h'.2.2.2.2 a' = h.2.2.2.2 a') (hc : ax_cell D cA b b0 h' a H') : ax_rel D cA b b0 S h' H' := by
  obtain ⟨r1, r2, r3, r4, r5⟩ := hr
  refine ⟨by rw [hz, r1, ez], by rw [ez]; exact r2, fun a' ha' => ?_, (hk _ hns).1.trans r4, (hk _ hns).2.1.trans r5⟩
  rw [ez] at ha'
  by_cases e : a' = a
  · subst e; exact hc
  · obtain ⟨k1, k2, k3, k4⟩ := hk a' e
    exact ax_cell_congr k1 k2 k3 k4 (ho _ (by omega)) (r3 a' ha')
/-! the locals -/
def ax_lv (b b0 : Nat) (ls : ax_L) (C : Array Slot) : Prop := C.size = ls.length ∧ lv_wf C ∧ ∀ (i : Nat) (v : Value), ls[i]? = some (some v) → v.category = 1 ∧ C[i]? = some (.val (ax_cv b b0 v))
def ax_al (b b0 : Nat) (ls : ax_L) : List (Nat × Value) := (List.range ls.length).filterMap (fun i => (ls[i]?.join).map (fun v => (i, ax_cv b b0 v)))
theorem ax_al_mem {b b0 : Nat} {ls : ax_L} {i : Nat} {v : Value} : (i, v) ∈ ax_al b b0 ls ↔ ∃ w, ls[i]? = some (some w) ∧ v = ax_cv b b0 w := by
  unfold ax_al
  rw [List.mem_filterMap]
  constructor
  · rintro ⟨j, hj, he⟩
    cases hl : ls[j]? with
    | none => rw [hl] at he; simp at he
    | some o =>
      rw [hl] at he
      cases o with
      | none => simp at he
      | some w =>
        simp at he
        obtain ⟨rfl, rfl⟩ := he
        exact ⟨w, hl, rfl⟩
  · rintro ⟨w, hw, rfl⟩
    have hi : i < ls.length := (List.getElem?_eq_some_iff.mp hw).1
    exact ⟨i, List.mem_range.mpr hi, by rw [hw]; rfl⟩
theorem ax_lv_has {b b0 : Nat} {ls : ax_L} {C : Array Slot} (h : ax_lv b b0 ls C) : lv_has C ls.length (ax_al b b0 ls) := by
  obtain ⟨h1, h2, h3⟩ := h
  refine ⟨h1, h2, fun q hq => ?_⟩
  obtain ⟨i, v⟩ := q
  obtain ⟨w, hw, rfl⟩ := ax_al_mem.mp hq
  exact (h3 i w hw).2
theorem ax_lv_put {b b0 : Nat} {ls : ax_L} {C C' : Array Slot} {x : Nat} {v : Value} (h : ax_lv b b0 ls C) (hx : x < ls.length) (hc : v.category = 1) (h' : lv_has C' ls.length ((x, ax_cv b b0 v) :: (ax_al b b0 ls).filter (fun q => !(q.1 == x) && !(q.1 + 1 == x && q.2.category == 2)))) : ax_lv b b0 (ls.set x (some v)) C' := by
  obtain ⟨h1, h2, h3⟩ := h'
  refine ⟨by rw [h1]; simp, h2, fun i w hw => ?_⟩
  by_cases e : i = x
  · subst e
    rw [List.getElem?_set_self hx] at hw
    cases hw
    exact ⟨hc, h3 (i, ax_cv b b0 v) List.mem_cons_self⟩
  · rw [List.getElem?_set_ne (fun q => e q.symm)] at hw
    obtain ⟨k1, k2⟩ := h.2.2 i w hw
    refine ⟨k1, h3 (i, ax_cv b b0 w) (List.mem_cons_of_mem _ (List.mem_filter.mpr ⟨ax_al_mem.mpr ⟨w, hw, rfl⟩, ?_⟩))⟩
    have k3 : (ax_cv b b0 w).category = 1 := by rw [ax_cv_cat]; exact k1
    simp [e, k3]
