/-! rows that read and write cells -/
def ax_aty (x : Nat) : Option FieldType := match x with
  | 20 => some .int
  | 21 => some .boolean
  | 22 => some .long
  | 30 => some (.object "MakerGuard$Body")
  | 31 => some (.object "MakerGuard$Declaration")
  | 32 => some (.object "MakerGuard$Frame")
  | 36 => some (.object "MakerGuard$Sight")
  | _ => none
/-- what the tables say of classes and array classes at a state -/
def ax_K (D : va_G) (cA : Nat → ClassId) (U : State) : Prop := (∀ ci, ci < 9 → u_Kn U (ax_cn ci) (ax_Tf ci) (ax_nf ci) (D.1 ci) (D.2 ci)) ∧ ∀ x ty, ax_aty x = some ty → ArrOfT U (cA x) ty ∧ va_RA U (cA x) ty
theorem ax_K_va {D : va_G} {cA : Nat → ClassId} {U : State} (h : ax_K D cA U) : va_K D ax_cl [] U := ⟨fun ci q hq => by
  obtain ⟨h9, rfl⟩ := ax_cl_of hq
  exact h.1 ci h9, fun k q hk => by simp at hk⟩
theorem ax_ra_aty {x : Nat} (h : ax_ra x = true) : ∃ ci, ci < 9 ∧ x = ci + 30 ∧ ax_aty x = some (.object (ax_cn ci)) := by
  unfold ax_ra at h
  simp only [Bool.or_eq_true, beq_iff_eq] at h
  rcases h with ((rfl | rfl) | rfl) | rfl
  · exact ⟨0, by omega, rfl, rfl⟩
  · exact ⟨1, by omega, rfl, rfl⟩
  · exact ⟨2, by omega, rfl, rfl⟩
  · exact ⟨6, by omega, rfl, rfl⟩
theorem ax_out_in {i : Int32} {n : Nat} (h : ax_out i n = false) : ¬ (i < 0 ∨ n ≤ i.toNatClampNeg) := by
  unfold ax_out at h
  exact of_decide_eq_false h
theorem ax_onws {ci : Nat} {w : Cond} (h : w ∈ u_ws (ax_cn ci) (ax_Tf ci) (ax_nf ci)) : w.onTables = true := by
  unfold u_ws at h
  obtain ⟨k, -, rfl⟩ := List.mem_map.mp h
  unfold u_lay
  split <;> rfl
section AxH
variable {p : Program} {l : Launch} {e : Env} {R : Room} {s : State} {m : MethodId} {args : Array Value} {below : List Frame} {meth : Method} {c : Code} {H : Heap} {locs : List Loc} {cells slots : Nat} {Q : State → Prop}
variable {cc : ByteArray} {pc q : Nat} {C : Array Slot} {b b0 : Nat} {ls ls' : ax_L} {st st' : List Value} {h h' : ax_H} {D : va_G} {cA : Nat → ClassId} {S : (Nat × Nat) × (Nat → Int32)}
theorem ax_hU (hts : ∀ w ∈ lw_tbl, w.onTables = true → w.before args s = true) {ci : Nat} (h9 : ci < 9) : ∀ w ∈ u_ws (ax_cn ci) (ax_Tf ci) (ax_nf ci), w.before args s = true := fun w hw => hts w (ax_in ci h9 w hw) (ax_onws hw)
theorem ax_P1 {ci a : Nat} (h9 : ci < 9) {V : Nat → Value} (ho : t_OB a (D.1 ci) (ax_nf ci) (D.2 ci) H V) : va_P D ax_cl [(a, .inr (ci, (List.range (ax_nf ci)).map V))] H := by
  intro k q hk
  have hz : k < 1 := (List.getElem?_eq_some_iff.mp hk).1
  have hz : k = 0 := by omega
  subst hz
  cases hk
  refine ⟨_, ax_cl_at ci h9, ho.to (fun j hj => ?_)⟩
  have hj : j < ax_nf ci := hj
  simp [vp_V, hj]
theorem ax_fv_fw {h : ax_H} {ci a i : Nat} {v : Value} (hv : ax_fv h ci a i = some v) : ax_fw b b0 h ci a i = ax_cv b b0 v := by
  unfold ax_fv at hv
  unfold ax_fw
  split at hv
  · rename_i e
    rw [if_pos e]
    cases hm : h.2.2.2.1 a i with
    | none => rw [hm] at hv; cases hv
    | some r => rw [hm] at hv; cases hv; rfl
  · rename_i e
    rw [if_neg e]
    cases hv
    rfl
theorem ax_o15 (hx : p.tables.exec = Jvm.exec) (hb : c.code = cc) {own : String} (hown : s.vm.findClass own = some m.cls) (hts : ∀ w ∈ lw_tbl, w.onTables = true → w.before args s = true) (hK : ax_K D cA s) (hr : ax_rel D cA b b0 S h H) {x y idx : Nat} (hd : decode cc pc = .ok (.getfield idx, 3)) (hlk : (Cond.fieldLink own idx (ax_cn x) (ax_Tf x y).2.1 (ax_Tf x y).2.2.1).before args s = true) (hs : ax_s15 (pc + 3) ls st h x y = some (q, ls', st', h'))
    (kk : ls' = ls → h' = h → W p l e R s m args below meth c H locs cells slots Q (F0 m q C (st'.map (ax_cv b b0)))) : W p l e R s m args below meth c H locs cells slots Q (F0 m pc C (st.map (ax_cv b b0))) := by
  unfold ax_s15 at hs
  split at hs
  · rename_i a r
    split at hs
    · rename_i hc
      obtain ⟨h1, h2, h9, hy⟩ := hc
      cases hv : ax_fv h x a y with
      | none => rw [hv] at hs; cases hs
      | some v =>
        rw [hv] at hs
        cases hs
        have kk := kk rfl rfl
        have ho := (hr.2.2.1 a h1).1 x h9 h2
        have hP := ax_P1 h9 ho
        have hg : ax_g b b0 a = b0 + a := ax_g_lt (Nat.lt_trans h1 hr.2.1)
        have := va_get (rest := r.map (ax_cv b b0)) (ls := C) (Q := Q) hx hb (ax_hU hts h9) (fun w hw => hw) hown (ax_K_va hK) hP 0 rfl (ax_cl_at x h9) y hy hlk (fun z hz => by rw [ax_ownok x h9 y hy] at hz; exact hz) (v := ax_cv b b0 v) (by rw [List.getElem?_map, List.getElem?_range hy, ← ax_fv_fw hv]; rfl) hd kk
        simpa only [List.map_cons, ax_cv_ref, hg] using this
    · cases hs
  · cases hs
theorem ax_o16 (hx : p.tables.exec = Jvm.exec) (hb : c.code = cc) {own host : String} (hown : s.vm.findClass own = some m.cls) (hts : ∀ w ∈ lw_tbl, w.onTables = true → w.before args s = true) (hK : ax_K D cA s) (hr : ax_rel D cA b b0 S h H) {x y idx : Nat} (hd : decode cc pc = .ok (.getfield idx, 3)) (hlk : (Cond.fieldLinkNest own idx (ax_cn x) (ax_Tf x y).2.1 (ax_Tf x y).2.2.1 host).before args s = true) (hs : ax_s15 (pc + 3) ls st h x y = some (q, ls', st', h'))
    (kk : ls' = ls → h' = h → W p l e R s m args below meth c H locs cells slots Q (F0 m q C (st'.map (ax_cv b b0)))) : W p l e R s m args below meth c H locs cells slots Q (F0 m pc C (st.map (ax_cv b b0))) := by
  unfold ax_s15 at hs
  split at hs
  · rename_i a r
    split at hs
    · rename_i hc
      obtain ⟨h1, h2, h9, hy⟩ := hc
      cases hv : ax_fv h x a y with
      | none => rw [hv] at hs; cases hs
      | some v =>
        rw [hv] at hs
        cases hs
        have kk := kk rfl rfl
        have ho := (hr.2.2.1 a h1).1 x h9 h2
        have hP := ax_P1 h9 ho
        have hg : ax_g b b0 a = b0 + a := ax_g_lt (Nat.lt_trans h1 hr.2.1)
        have := va_getN (rest := r.map (ax_cv b b0)) (ls := C) (Q := Q) hx hb (ax_hU hts h9) (fun w hw => hw) hown (ax_K_va hK) hP 0 rfl (ax_cl_at x h9) y hy hlk (fun z hz => by rw [ax_ownok x h9 y hy] at hz; exact hz) (v := ax_cv b b0 v) (by rw [List.getElem?_map, List.getElem?_range hy, ← ax_fv_fw hv]; rfl) hd kk
        simpa only [List.map_cons, ax_cv_ref, hg] using this
    · cases hs
  · cases hs
end AxH
