section AxP
variable {p : Program} {l : Launch} {e : Env} {R : Room} {s : State} {m : MethodId} {args : Array Value} {below : List Frame} {meth : Method} {c : Code} {H : Heap} {locs : List Loc} {cells slots : Nat} {Q : State → Prop}
variable {cc : ByteArray} {pc q : Nat} {C : Array Slot} {b b0 : Nat} {ls ls' : ax_L} {st st' : List Value} {h h' : ax_H} {D : va_G} {cA : Nat → ClassId} {S : (Nat × Nat) × (Nat → Int32)}
theorem ax_obj_only {h : ax_H} {a x : Nat} (h9 : x < 9) (h2 : (h.2.1 a).1 = x + 1) {H' : Heap} (ho : t_OB (b0 + a) (D.1 x) (ax_nf x) (D.2 x) H' (ax_fw b b0 h x a)) : ax_cell D cA b b0 h a H' := by
  refine ⟨fun ci hc hk => ?_, fun hk => ?_, fun hk => ?_, fun hk => ?_⟩
  · have : ci = x := by omega
    subst this
    exact ho
  · omega
  · omega
  · obtain ⟨ci, -, e1, -⟩ := ax_ra_aty hk
    omega
theorem ax_fw_int {h : ax_H} {x a y : Nat} {v : Int32} (hf : ax_ft x y ≠ 2) (i : Nat) : updV (ax_fw b b0 h x a) y (.int v) i = ax_fw b b0 (h.1, h.2.1, ax_up h.2.2.1 a y v, h.2.2.2) x a i := by
  unfold updV ax_fw
  by_cases e : i = y
  · subst e
    simp [hf, ax_up]
  · simp [e, ax_up]
theorem ax_fw_ref {h : ax_H} {x a y v : Nat} (hf : ax_ft x y = 2) (i : Nat) : updV (ax_fw b b0 h x a) y (.ref (ax_g b b0 v)) i = ax_fw b b0 (h.1, h.2.1, h.2.2.1, ax_up h.2.2.2.1 a y (some v), h.2.2.2.2) x a i := by
  unfold updV ax_fw
  by_cases e : i = y
  · subst e
    simp [hf, ax_up, va_rf]
  · simp [e, ax_up]
/-- a field is written: the machine's step -/
theorem ax_putW (hx : p.tables.exec = Jvm.exec) (hb : c.code = cc) {own : String} (hown : s.vm.findClass own = some m.cls) (hts : ∀ w ∈ lw_tbl, w.onTables = true → w.before args s = true) (hK : ax_K D cA s) {a x y idx : Nat} (h9 : x < 9) (hy : y < ax_nf x) {V : Nat → Value} (ho : t_OB a (D.1 x) (ax_nf x) (D.2 x) H V) (hfin : (ax_Tf x y).2.2.2 = false ∨ ((ax_Tf x y).2.2.2 = true ∧ meth.name = "<init>" ∧ ax_cn x = own)) {v : Value} (hn : narrow (ax_ty x y) v = v) (hfit : fits (ax_ty x y) v = true) {rest : List Value} (hd : decode cc pc = .ok (.putfield idx, 3)) (hlk : (Cond.fieldLink own idx (ax_cn x) (ax_Tf x y).2.1 (ax_Tf x y).2.2.1).before args s = true)
    (kk : ∀ (H1 : Heap) (n : Nat), t_OB a (D.1 x) (ax_nf x) (D.2 x) H1 (updV V y v) → H1.size = H.size → (∀ q, q ≠ a → H1[q]? = H[q]?) → W p l e R s m args below meth c H1 (locs ++ [⟨a, n⟩]) cells slots Q (F0 m (pc + 3) C rest)) : W p l e R s m args below meth c H locs cells slots Q (F0 m pc C (v :: .ref a :: rest)) := by
  have hU := ax_hU hts h9
  have hc := ax_cl_at x h9
  have hKv := ax_K_va hK
  have hap := va_apart (own := own) hU (fun w hw => hw) (ax_ty x) (ax_tyok x h9) (ax_nmok x h9) hKv hc
  obtain ⟨cell, q1, q2, q3, q4⟩ := ho
  obtain ⟨hS, hfc, kC, hkC, hkind⟩ := hK.1 x h9
  obtain ⟨cf, kf, fi, f, hi, hsl⟩ := hS y hy
  have hdc := ax_tyok x h9 y hy
  have hsame : s.fieldFound? (ax_cn x) (ax_Tf x y).2.1 (ax_Tf x y).2.2.1 = some (cf, kf, fi, f) := by rw [← ax_ownok x h9 y hy]; exact hi
  have hst := (u_facts hfc hkC (u_lays hU (fun w hw => hw) hy) hi).1
  have hlay := hU _ (u_in_lay hy)
  unfold u_lay at hlay
  rcases hfin with hf0 | ⟨hf1, hin2, hdecl⟩
  · rw [if_neg (by rw [hf0]; decide)] at hlay
    have h6 := u_store hfc hkC hkind hlay hi hdc hn hfit
    refine W.putK hx hb (f := f) ⟨hown, hlk, ⟨_, _, _, hsame⟩, hst⟩ (by rw [q2]; exact h6) q1 q3 (by rw [hsl]; exact k2_hasslot (q4 y hy)) rfl rfl hd fun H' e1 e2 e3 => ?_
    rw [hsl] at e1 ⊢
    exact kk H' _ ⟨_, e1, q2, q3, t_set q4 hap hy v⟩ e2 e3
  · rw [if_pos hf1] at hlay
    have hcf : m.cls = cf := by
      obtain ⟨_, _, c', _, _, _, -, -, hf', -, -, -, hown2, -⟩ := Cond.laysFinal_spec hlay
      have e1 : c' = cf := by have := hi.symm.trans hf'; simp at this; exact this.1.symm
      rw [ax_ownok x h9 y hy, hdecl] at hown2
      rw [← e1]; exact Option.some.inj (hown.symm.trans hown2)
    have h6 := u_fits hfc hkC hkind (Or.inr hlay) hi hdc hn hfit
    refine W.putFinK hx hb hown hlk hsame hst hcf hin2 (by rw [q2]; exact h6) q1 q3 (by rw [hsl]; exact k2_hasslot (q4 y hy)) rfl rfl hd fun H' e1 e2 e3 => ?_
    rw [hsl] at e1 ⊢
    exact kk H' _ ⟨_, e1, q2, q3, t_set q4 hap hy v⟩ e2 e3
theorem ax_o17 (hx : p.tables.exec = Jvm.exec) (hb : c.code = cc) {own : String} (hown : s.vm.findClass own = some m.cls) (hts : ∀ w ∈ lw_tbl, w.onTables = true → w.before args s = true) (hK : ax_K D cA s) (hr : ax_rel D cA b b0 S h H) (hS : va_S (fun q => b0 ≤ q) s.heap H locs) {x y idx : Nat} (hfin : (ax_Tf x y).2.2.2 = false ∨ ((ax_Tf x y).2.2.2 = true ∧ meth.name = "<init>" ∧ ax_cn x = own)) (hd : decode cc pc = .ok (.putfield idx, 3)) (hlk : (Cond.fieldLink own idx (ax_cn x) (ax_Tf x y).2.1 (ax_Tf x y).2.2.1).before args s = true) (hs : ax_s17 (pc + 3) ls st h x y = some (q, ls', st', h'))
    (kk : ∀ (H1 : Heap) (locs1 : List Loc), ls' = ls → h'.1 = h.1 → ax_rel D cA b b0 S h' H1 → va_S (fun q => b0 ≤ q) s.heap H1 locs1 → W p l e R s m args below meth c H1 locs1 cells slots Q (F0 m q C (st'.map (ax_cv b b0)))) : W p l e R s m args below meth c H locs cells slots Q (F0 m pc C (st.map (ax_cv b b0))) := by
  unfold ax_s17 at hs
  split at hs
  · rename_i v a r
    split at hs
    · rename_i hc
      obtain ⟨h1, h2, h9, hy, hty⟩ := hc
      cases hs
      have hg : ax_g b b0 a = b0 + a := ax_g_lt (Nat.lt_trans h1 hr.2.1)
      have ho := (hr.2.2.1 a h1).1 x h9 h2
      have hft := ax_ftok x h9 y hy
      have hne : ax_ft x y ≠ 2 := by omega
      have hnf : narrow (ax_ty x y) (.int v) = .int v ∧ fits (ax_ty x y) (.int v) = true := by
        rcases hft with ⟨f0, t0⟩ | ⟨f1, t1⟩ | ⟨f2, -⟩
        · rw [t0]; exact ⟨rfl, rfl⟩
        · rw [t1]
          rcases hty with z | ⟨-, z⟩
          · omega
          · rcases z with rfl | rfl <;> exact ⟨rfl, rfl⟩
        · omega
      have := ax_putW (rest := st'.map (ax_cv b b0)) (C := C) (Q := Q) (locs := locs) (cells := cells) (slots := slots) hx hb hown hts hK h9 hy ho hfin hnf.1 hnf.2 hd hlk (fun H1 n o1 z1 n1 => kk H1 _ rfl rfl (ax_rel_set (a := a) hr (Nat.ne_of_gt (Nat.lt_trans h1 hr.2.1)) rfl z1 n1 (fun a' ha' => ⟨rfl, ax_up_other _ _ ha', rfl, rfl⟩) (ax_obj_only (h := (h.1, h.2.1, ax_up h.2.2.1 a y v, h.2.2.2)) h9 h2 (o1.to (fun i _ => ax_fw_int hne i)))) (hS.put z1 n1 (Nat.le_add_right _ _)))
      simpa only [List.map_cons, ax_cv_ref, ax_cv_int, hg] using this
    · cases hs
  · rename_i v a r
    split at hs
    · rename_i hc
      obtain ⟨h1, h2, h9, hy, hty⟩ := hc
      cases hs
      have hg : ax_g b b0 a = b0 + a := ax_g_lt (Nat.lt_trans h1 hr.2.1)
      have ho := (hr.2.2.1 a h1).1 x h9 h2
      have hft := ax_ftok x h9 y hy
      have hnf : narrow (ax_ty x y) (.ref (ax_g b b0 v)) = .ref (ax_g b b0 v) ∧ fits (ax_ty x y) (.ref (ax_g b b0 v)) = true := by
        rcases hft with ⟨f0, t0⟩ | ⟨f1, t1⟩ | ⟨f2, t2⟩
        · omega
        · omega
        · cases ht : ax_ty x y <;> rw [ht] at t2 <;> first | exact ⟨rfl, rfl⟩ | cases t2
      have := ax_putW (rest := st'.map (ax_cv b b0)) (C := C) (Q := Q) (locs := locs) (cells := cells) (slots := slots) hx hb hown hts hK h9 hy ho hfin hnf.1 hnf.2 hd hlk (fun H1 n o1 z1 n1 => kk H1 _ rfl rfl (ax_rel_set (a := a) hr (Nat.ne_of_gt (Nat.lt_trans h1 hr.2.1)) rfl z1 n1 (fun a' ha' => ⟨rfl, rfl, ax_up_other _ _ ha', rfl⟩) (ax_obj_only (h := (h.1, h.2.1, h.2.2.1, ax_up h.2.2.2.1 a y (some v), h.2.2.2.2)) h9 h2 (o1.to (fun i _ => ax_fw_ref hty i)))) (hS.put z1 n1 (Nat.le_add_right _ _)))
      simpa only [List.map_cons, ax_cv_ref, ax_cv_int, hg] using this
    · cases hs
  · cases hs
end AxP
