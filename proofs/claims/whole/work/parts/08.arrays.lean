section AxA
variable {p : Program} {l : Launch} {e : Env} {R : Room} {s : State} {m : MethodId} {args : Array Value} {below : List Frame} {meth : Method} {c : Code} {H : Heap} {locs : List Loc} {cells slots : Nat} {Q : State → Prop}
variable {cc : ByteArray} {pc q : Nat} {C : Array Slot} {b b0 : Nat} {ls ls' : ax_L} {st st' : List Value} {h h' : ax_H} {D : va_G} {cA : Nat → ClassId} {S : (Nat × Nat) × (Nat → Int32)}
theorem ax_arri_only {h : ax_H} {a : Nat} (hk : (h.2.1 a).1 = 20 ∨ (h.2.1 a).1 = 21) {H' : Heap} (ho : H'[b0 + a]? = some (arrV (cA (h.2.1 a).1) (h.2.1 a).2 (fun j => .int (h.2.2.1 a j)))) : ax_cell D cA b b0 h a H' := by
  refine ⟨fun ci hc hk => by omega, fun _ => ho, fun hk => by omega, fun hk => ?_⟩
  obtain ⟨ci, -, e1, -⟩ := ax_ra_aty hk
  omega
theorem ax_arrl_only {h : ax_H} {a : Nat} (hk : (h.2.1 a).1 = 22) {H' : Heap} (ho : H'[b0 + a]? = some (arrV (cA 22) (h.2.1 a).2 (fun j => .long (h.2.2.2.2 a j)))) : ax_cell D cA b b0 h a H' := by
  refine ⟨fun ci hc hk => by omega, fun hk => by omega, fun _ => ho, fun hk => ?_⟩
  obtain ⟨ci, -, e1, -⟩ := ax_ra_aty hk
  omega
theorem ax_arrr_only {h : ax_H} {a : Nat} (hk : ax_ra (h.2.1 a).1 = true) {H' : Heap} (ho : H'[b0 + a]? = some (arrV (cA (h.2.1 a).1) (h.2.1 a).2 (fun j => va_rf ((h.2.2.2.1 a j).map (ax_g b b0))))) : ax_cell D cA b b0 h a H' := by
  obtain ⟨ci, -, e1, -⟩ := ax_ra_aty hk
  exact ⟨fun ci hc hk => by omega, fun hk => by omega, fun hk => by omega, fun _ => ho⟩
theorem ax_o19 (hx : p.tables.exec = Jvm.exec) (hb : c.code = cc) (hK : ax_K D cA s) (hr : ax_rel D cA b b0 S h H) {kd : Nat} (hd : (kd = 20 ∧ decode cc pc = .ok (.iaload, 1)) ∨ (kd = 21 ∧ decode cc pc = .ok (.baload, 1))) (hs : ax_s19 kd (pc + 1) ls st h = some (q, ls', st', h'))
    (kk : ls' = ls → h' = h → W p l e R s m args below meth c H locs cells slots Q (F0 m q C (st'.map (ax_cv b b0)))) : W p l e R s m args below meth c H locs cells slots Q (F0 m pc C (st.map (ax_cv b b0))) := by
  unfold ax_s19 at hs
  split at hs
  · rename_i i a r
    split at hs
    · rename_i hc
      obtain ⟨h1, h2, h3⟩ := hc
      cases hs
      have kk := kk rfl rfl
      have hin := ax_out_in h3
      have hlt : i.toNatClampNeg < (h.2.1 a).2 := Nat.not_le.mp fun z => hin (Or.inr z)
      have hg : ax_g b b0 a = b0 + a := ax_g_lt (Nat.lt_trans h1 hr.2.1)
      rcases hd with ⟨rfl, d⟩ | ⟨rfl, d⟩
      · have ho := (hr.2.2.1 a h1).2.1 (Or.inl h2)
        rw [h2] at ho
        have := W.iald (v := .int (h.2.2.1 a i.toNatClampNeg)) (Q := Q) (g := F0 m pc C (.int i :: .ref (b0 + a) :: r.map (ax_cv b b0))) hx hb ho ((hK.2 20 .int rfl).1 _ _) (fun z => by cases z) (by rw [arrV_size]; exact hin) (by rw [arrV_read _ _ hlt]) rfl rfl d kk
        simpa only [List.map_cons, ax_cv_ref, ax_cv_int, hg] using this
      · have ho := (hr.2.2.1 a h1).2.1 (Or.inr h2)
        rw [h2] at ho
        have := W.zald (v := .int (h.2.2.1 a i.toNatClampNeg)) (Q := Q) (g := F0 m pc C (.int i :: .ref (b0 + a) :: r.map (ax_cv b b0))) hx hb ho ((hK.2 21 .boolean rfl).1 _ _) (fun z => by cases z) (by rw [arrV_size]; exact hin) (by rw [arrV_read _ _ hlt]) rfl rfl d kk
        simpa only [List.map_cons, ax_cv_ref, ax_cv_int, hg] using this
    · cases hs
  · cases hs
theorem ax_upi {h : ax_H} {a i : Nat} {v : Int32} : updV (fun j => Value.int (h.2.2.1 a j)) i (.int v) = fun j => Value.int (ax_up h.2.2.1 a i v a j) := by
  funext j
  unfold updV ax_up
  by_cases e : j = i <;> simp [e]
theorem ax_upl {h : ax_H} {a i : Nat} {v : Int64} : updV (fun j => Value.long (h.2.2.2.2 a j)) i (.long v) = fun j => Value.long (ax_up h.2.2.2.2 a i v a j) := by
  funext j
  unfold updV ax_up
  by_cases e : j = i <;> simp [e]
theorem ax_upr {h : ax_H} {a i v : Nat} : updV (fun j => va_rf ((h.2.2.2.1 a j).map (ax_g b b0))) i (.ref (ax_g b b0 v)) = fun j => va_rf ((ax_up h.2.2.2.1 a i (some v) a j).map (ax_g b b0)) := by
  funext j
  unfold updV ax_up
  by_cases e : j = i <;> simp [e, va_rf]
theorem ax_o20 (hx : p.tables.exec = Jvm.exec) (hb : c.code = cc) (hK : ax_K D cA s) (hr : ax_rel D cA b b0 S h H) (hS : va_S (fun q => b0 ≤ q) s.heap H locs) {kd : Nat} (hd : (kd = 20 ∧ decode cc pc = .ok (.iastore, 1)) ∨ (kd = 21 ∧ decode cc pc = .ok (.bastore, 1))) (hs : ax_s20 kd (pc + 1) ls st h = some (q, ls', st', h'))
    (kk : ∀ (H1 : Heap) (locs1 : List Loc), ls' = ls → h'.1 = h.1 → ax_rel D cA b b0 S h' H1 → va_S (fun q => b0 ≤ q) s.heap H1 locs1 → W p l e R s m args below meth c H1 locs1 cells slots Q (F0 m q C (st'.map (ax_cv b b0)))) : W p l e R s m args below meth c H locs cells slots Q (F0 m pc C (st.map (ax_cv b b0))) := by
  unfold ax_s20 at hs
  split at hs
  · rename_i v i a r
    split at hs
    · rename_i hc
      obtain ⟨h1, h2, h3, h4⟩ := hc
      cases hs
      have hin := ax_out_in h3
      have hlt : i.toNatClampNeg < (h.2.1 a).2 := Nat.not_le.mp fun z => hin (Or.inr z)
      have hg : ax_g b b0 a = b0 + a := ax_g_lt (Nat.lt_trans h1 hr.2.1)
      have hk : (h.2.1 a).1 = 20 ∨ (h.2.1 a).1 = 21 := by omega
      have ho := (hr.2.2.1 a h1).2.1 hk
      have fin : ∀ H1 : Heap, H1[b0 + a]? = some ((arrV (cA (h.2.1 a).1) (h.2.1 a).2 (fun j => .int (h.2.2.1 a j))).setSlot i.toNatClampNeg (.int v)) → H1.size = H.size → (∀ q, q ≠ b0 + a → H1[q]? = H[q]?) → W p l e R s m args below meth c H1 (locs ++ [⟨b0 + a, i.toNatClampNeg⟩]) cells slots Q (F0 m (pc + 1) C (st'.map (ax_cv b b0))) := by
        intro H1 e1 z1 n1
        rw [arrV_store, ax_upi] at e1
        exact kk H1 _ rfl rfl (ax_rel_set (a := a) hr (Nat.ne_of_gt (Nat.lt_trans h1 hr.2.1)) rfl z1 n1 (fun a' ha' => ⟨rfl, ax_up_other _ _ ha', rfl, rfl⟩) (ax_arri_only (h := (h.1, h.2.1, ax_up h.2.2.1 a i.toNatClampNeg v, h.2.2.2)) hk e1)) (hS.put z1 n1 (Nat.le_add_right _ _))
      rcases hd with ⟨rfl, d⟩ | ⟨rfl, d⟩
      · rw [h2] at ho fin
        have := W.iast (Q := Q) (g := F0 m pc C (.int v :: .int i :: .ref (b0 + a) :: st'.map (ax_cv b b0))) hx hb ho ((hK.2 20 .int rfl).1 _ _) (fun z => by cases z) (by rw [arrV_size]; exact hin) rfl rfl d fin
        simpa only [List.map_cons, ax_cv_ref, ax_cv_int, hg] using this
      · rw [h2] at ho fin
        have hn : narrow .boolean (.int v) = .int v := by
          rcases h4 with z | ⟨-, rfl | rfl⟩
          · omega
          · rfl
          · rfl
        have := W.zast (Q := Q) (g := F0 m pc C (.int v :: .int i :: .ref (b0 + a) :: st'.map (ax_cv b b0))) hx hb ho ((hK.2 21 .boolean rfl).1 _ _) (fun z => by cases z) (by rw [arrV_size]; exact hin) rfl rfl d (by rw [hn]; exact fin)
        simpa only [List.map_cons, ax_cv_ref, ax_cv_int, hg] using this
    · cases hs
  · cases hs
theorem ax_o23 (hx : p.tables.exec = Jvm.exec) (hb : c.code = cc) (hK : ax_K D cA s) (hr : ax_rel D cA b b0 S h H) (hd : decode cc pc = .ok (.laload, 1)) (hs : ax_s23 (pc + 1) ls st h = some (q, ls', st', h'))
    (kk : ls' = ls → h' = h → W p l e R s m args below meth c H locs cells slots Q (F0 m q C (st'.map (ax_cv b b0)))) : W p l e R s m args below meth c H locs cells slots Q (F0 m pc C (st.map (ax_cv b b0))) := by
  unfold ax_s23 at hs
  split at hs
  · rename_i i a r
    split at hs
    · rename_i hc
      obtain ⟨h1, h2, h3⟩ := hc
      cases hs
      have kk := kk rfl rfl
      have hin := ax_out_in h3
      have hlt : i.toNatClampNeg < (h.2.1 a).2 := Nat.not_le.mp fun z => hin (Or.inr z)
      have hg : ax_g b b0 a = b0 + a := ax_g_lt (Nat.lt_trans h1 hr.2.1)
      have ho := (hr.2.2.1 a h1).2.2.1 h2
      have := W.lald (v := .long (h.2.2.2.2 a i.toNatClampNeg)) (Q := Q) (g := F0 m pc C (.int i :: .ref (b0 + a) :: r.map (ax_cv b b0))) hx hb ho ((hK.2 22 .long rfl).1 _ _) (fun z => by cases z) (by rw [arrV_size]; exact hin) (by rw [arrV_read _ _ hlt]) rfl rfl hd kk
      simpa only [List.map_cons, ax_cv_ref, ax_cv_int, hg] using this
    · cases hs
  · cases hs
theorem ax_o24 (hx : p.tables.exec = Jvm.exec) (hb : c.code = cc) (hK : ax_K D cA s) (hr : ax_rel D cA b b0 S h H) (hS : va_S (fun q => b0 ≤ q) s.heap H locs) (hd : decode cc pc = .ok (.lastore, 1)) (hs : ax_s24 (pc + 1) ls st h = some (q, ls', st', h'))
    (kk : ∀ (H1 : Heap) (locs1 : List Loc), ls' = ls → h'.1 = h.1 → ax_rel D cA b b0 S h' H1 → va_S (fun q => b0 ≤ q) s.heap H1 locs1 → W p l e R s m args below meth c H1 locs1 cells slots Q (F0 m q C (st'.map (ax_cv b b0)))) : W p l e R s m args below meth c H locs cells slots Q (F0 m pc C (st.map (ax_cv b b0))) := by
  unfold ax_s24 at hs
  split at hs
  · rename_i v i a r
    split at hs
    · rename_i hc
      obtain ⟨h1, h2, h3⟩ := hc
      cases hs
      have hin := ax_out_in h3
      have hg : ax_g b b0 a = b0 + a := ax_g_lt (Nat.lt_trans h1 hr.2.1)
      have ho := (hr.2.2.1 a h1).2.2.1 h2
      have := W.last (Q := Q) (g := F0 m pc C (.long v :: .int i :: .ref (b0 + a) :: st'.map (ax_cv b b0))) hx hb ho ((hK.2 22 .long rfl).1 _ _) (fun z => by cases z) (by rw [arrV_size]; exact hin) rfl rfl hd (fun H1 e1 z1 n1 => by
        rw [arrV_store, ax_upl] at e1
        exact kk H1 _ rfl rfl (ax_rel_set (a := a) hr (Nat.ne_of_gt (Nat.lt_trans h1 hr.2.1)) rfl z1 n1 (fun a' ha' => ⟨rfl, rfl, rfl, ax_up_other _ _ ha'⟩) (ax_arrl_only (h := (h.1, h.2.1, h.2.2.1, h.2.2.2.1, ax_up h.2.2.2.2 a i.toNatClampNeg v)) h2 e1)) (hS.put z1 n1 (Nat.le_add_right _ _)))
      simpa only [List.map_cons, ax_cv_ref, ax_cv_int, ax_cv_long, hg] using this
    · cases hs
  · cases hs
theorem ax_o25 (hx : p.tables.exec = Jvm.exec) (hb : c.code = cc) (hK : ax_K D cA s) (hr : ax_rel D cA b b0 S h H) (hd : decode cc pc = .ok (.aaload, 1)) (hs : ax_s25 (pc + 1) ls st h = some (q, ls', st', h'))
    (kk : ls' = ls → h' = h → W p l e R s m args below meth c H locs cells slots Q (F0 m q C (st'.map (ax_cv b b0)))) : W p l e R s m args below meth c H locs cells slots Q (F0 m pc C (st.map (ax_cv b b0))) := by
  unfold ax_s25 at hs
  split at hs
  · rename_i i a r
    split at hs
    · rename_i hc
      obtain ⟨h1, h2, h3⟩ := hc
      cases hv : h.2.2.2.1 a i.toNatClampNeg with
      | none => rw [hv] at hs; cases hs
      | some v =>
        rw [hv] at hs
        cases hs
        have kk := kk rfl rfl
        have hin := ax_out_in h3
        have hlt : i.toNatClampNeg < (h.2.1 a).2 := Nat.not_le.mp fun z => hin (Or.inr z)
        have hg : ax_g b b0 a = b0 + a := ax_g_lt (Nat.lt_trans h1 hr.2.1)
        have ho := (hr.2.2.1 a h1).2.2.2 h2
        obtain ⟨ci, h9, -, hty⟩ := ax_ra_aty h2
        have := W.aald (v := .ref (ax_g b b0 v)) (ty := .object (ax_cn ci)) (Q := Q) (g := F0 m pc C (.int i :: .ref (b0 + a) :: r.map (ax_cv b b0))) hx hb ho ((hK.2 _ _ hty).1 _ _) rfl (fun z => by cases z) (by rw [arrV_size]; exact hin) (by rw [arrV_read _ _ hlt, hv]; rfl) rfl rfl hd kk
        simpa only [List.map_cons, ax_cv_ref, ax_cv_int, hg] using this
    · cases hs
  · cases hs
theorem ax_o26 (hx : p.tables.exec = Jvm.exec) (hb : c.code = cc) (hK : ax_K D cA s) (hr : ax_rel D cA b b0 S h H) (hS : va_S (fun q => b0 ≤ q) s.heap H locs) (hd : decode cc pc = .ok (.aastore, 1)) (hs : ax_s26 (pc + 1) ls st h = some (q, ls', st', h'))
    (kk : ∀ (H1 : Heap) (locs1 : List Loc), ls' = ls → h'.1 = h.1 → ax_rel D cA b b0 S h' H1 → va_S (fun q => b0 ≤ q) s.heap H1 locs1 → W p l e R s m args below meth c H1 locs1 cells slots Q (F0 m q C (st'.map (ax_cv b b0)))) : W p l e R s m args below meth c H locs cells slots Q (F0 m pc C (st.map (ax_cv b b0))) := by
  unfold ax_s26 at hs
  split at hs
  · rename_i v i a r
    split at hs
    · rename_i hc
      obtain ⟨h1, hv1, h2, hv2, h3⟩ := hc
      cases hs
      have hin := ax_out_in h3
      have hlt : i.toNatClampNeg < (h.2.1 a).2 := Nat.not_le.mp fun z => hin (Or.inr z)
      have h0 : ¬ i < 0 := fun z => hin (Or.inl z)
      have hg : ax_g b b0 a = b0 + a := ax_g_lt (Nat.lt_trans h1 hr.2.1)
      have hgv : ax_g b b0 v = b0 + v := ax_g_lt (Nat.lt_trans hv1 hr.2.1)
      have ho := (hr.2.2.1 a h1).2.2.2 h2
      obtain ⟨ci, h9, e1, hty⟩ := ax_ra_aty h2
      obtain ⟨cellV, g1, g2, g3, -⟩ := (hr.2.2.1 v hv1).1 ci h9 (by omega)
      have hcls := (hK.1 ci h9).2
      obtain ⟨kA, comp, k1, k2, k3, -⟩ := (hK.2 _ _ hty).2
      have hcomp : comp = D.1 ci := Option.some.inj (k3.symm.trans hcls.1)
      subst hcomp
      obtain ⟨kC, hkC, -⟩ := id hcls.2
      have := W.aast (Q := Q) (g := F0 m pc C (.ref (b0 + v) :: .int i :: .ref (b0 + a) :: st'.map (ax_cv b b0))) hx hb ho (fun q h => by cases h) (fun h => by cases h) k1 k2 rfl hkC ⟨h0, by rw [arrV_size]; exact hlt⟩ g1 (fun q h => by rw [g3] at h; cases h) (by rw [g2]; exact hkC) (by rw [g2]; exact va_assign hcls) rfl rfl hd (fun H1 e1 z1 n1 => by
        rw [arrV_store, ← hgv, ax_upr] at e1
        exact kk H1 _ rfl rfl (ax_rel_set (a := a) hr (Nat.ne_of_gt (Nat.lt_trans h1 hr.2.1)) rfl z1 n1 (fun a' ha' => ⟨rfl, rfl, ax_up_other _ _ ha', rfl⟩) (ax_arrr_only (h := (h.1, h.2.1, h.2.2.1, ax_up h.2.2.2.1 a i.toNatClampNeg (some v), h.2.2.2.2)) h2 e1)) (hS.put z1 n1 (Nat.le_add_right _ _)))
      simpa only [List.map_cons, ax_cv_ref, ax_cv_int, hg, hgv] using this
    · cases hs
  · cases hs
end AxA
