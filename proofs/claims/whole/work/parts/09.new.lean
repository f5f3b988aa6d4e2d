section AxN
variable {p : Program} {l : Launch} {e : Env} {R : Room} {s : State} {m : MethodId} {args : Array Value} {below : List Frame} {meth : Method} {c : Code} {H : Heap} {locs : List Loc} {cells slots : Nat} {Q : State → Prop}
variable {cc : ByteArray} {pc q : Nat} {C : Array Slot} {b b0 : Nat} {ls ls' : ax_L} {st st' : List Value} {h h' : ax_H} {D : va_G} {cA : Nat → ClassId} {S : (Nat × Nat) × (Nat → Int32)}
/-- what is known of the script where the law itself runs -/
def ax_scr (b b0 : Nat) (S : (Nat × Nat) × (Nat → Int32)) (s : State) : Prop := va_X b S.1.2 S.2 s s.heap ∧ b < s.heap.size ∧ b < b0
theorem ax_o34 (hx : p.tables.exec = Jvm.exec) (hb : c.code = cc) {k : Nat} (hsc : k = 0 → ax_scr b b0 S s) (hr : ax_rel D cA b b0 S h H) (hS : va_S (fun q => b0 ≤ q) s.heap H locs) (hd : decode cc pc = .ok (.iaload, 1)) (hs : ax_s19s k (pc + 1) ls st h = some (q, ls', st', h'))
    (kk : ls' = ls → h' = h → W p l e R s m args below meth c H locs cells slots Q (F0 m q C (st'.map (ax_cv b b0)))) : W p l e R s m args below meth c H locs cells slots Q (F0 m pc C (st.map (ax_cv b b0))) := by
  unfold ax_s19s at hs
  split at hs
  · rename_i i a r
    split at hs
    · rename_i hc
      obtain ⟨h1, rfl, h3⟩ := hc
      cases hs
      have kk := kk rfl rfl
      obtain ⟨sx, sb, sl⟩ := hsc h1
      have hin := ax_out_in h3
      rw [hr.2.2.2.1] at hin
      rw [hr.2.2.2.2] at kk
      exact va_sld (b := b) hx hb sx sb (Nat.not_le.mpr sl) hS hin hd kk
    · cases hs
  · cases hs
theorem ax_o27 (hx : p.tables.exec = Jvm.exec) (hb : c.code = cc) {k : Nat} (hsc : k = 0 → ax_scr b b0 S s) (hK : ax_K D cA s) (hr : ax_rel D cA b b0 S h H) (hS : va_S (fun q => b0 ≤ q) s.heap H locs) (hd : decode cc pc = .ok (.arraylength, 1)) (hs : ax_s27 k (pc + 1) ls st h = some (q, ls', st', h'))
    (kk : ls' = ls → h' = h → W p l e R s m args below meth c H locs cells slots Q (F0 m q C (st'.map (ax_cv b b0)))) : W p l e R s m args below meth c H locs cells slots Q (F0 m pc C (st.map (ax_cv b b0))) := by
  unfold ax_s27 at hs
  split at hs
  · rename_i a r
    split at hs
    · rename_i hc
      cases hs
      have kk := kk rfl rfl
      rcases hc with ⟨h1, h2⟩ | ⟨h1, rfl⟩
      · have hg : ax_g b b0 a = b0 + a := ax_g_lt (Nat.lt_trans h1 hr.2.1)
        have ho := (hr.2.2.1 a h1).2.1 (Or.inl h2)
        rw [h2] at ho
        have := W.alen (n := Int32.ofNat (h.2.1 a).2) (ty := .int) (Q := Q) (g := F0 m pc C (.ref (b0 + a) :: r.map (ax_cv b b0))) hx hb ho ((hK.2 20 .int rfl).1 _ _) (by rw [arrV_size]) rfl rfl hd kk
        simpa only [List.map_cons, ax_cv_ref, ax_cv_int, hg] using this
      · obtain ⟨sx, sb, sl⟩ := hsc h1
        rw [hr.2.2.2.1] at kk
        exact va_slen (b := b) hx hb sx sb (Nat.not_le.mpr sl) hS hd kk
    · cases hs
  · cases hs
theorem ax_S_push (hS : va_S (fun q => b0 ≤ q) s.heap H locs) {H1 : Heap} (hz : H1.size = H.size + 1) (ho : ∀ q : Nat, q < H.size → H1[q]? = H[q]?) : va_S (fun q => b0 ≤ q) s.heap H1 locs :=
  ⟨Nat.le_trans hS.1 (by omega), fun x h1 h2 => (ho x (Nat.lt_of_lt_of_le h1 hS.1)).trans (hS.2.1 x h1 h2), hS.2.2⟩
theorem ax_fw_new {x n : Nat} (h : ax_H) (i : Nat) : ax_fw b b0 (ax_new h (x + 1) n) x h.1.1 i = if ax_ft x i = 2 then .null else .int 0 := by
  unfold ax_fw ax_new
  simp only [ax_rw_self]
  split <;> rfl
theorem ax_o28 (hx : p.tables.exec = Jvm.exec) (hb : c.code = cc) {own : String} (hown : s.vm.findClass own = some m.cls) (hts : ∀ w ∈ lw_tbl, w.onTables = true → w.before args s = true) (hK : ax_K D cA s) (hr : ax_rel D cA b b0 S h H) (hS : va_S (fun q => b0 ≤ q) s.heap H locs) {x idx : Nat} (hd : decode cc pc = .ok (.new idx, 3)) (hlk : (Cond.classLink own idx (ax_cn x)).before args s = true) (hs : ax_s28 (pc + 3) ls st h x = some (q, ls', st', h'))
    (hcl : cells + (h'.1.1 - h.1.1) ≤ R.cells) (hsl : slots + (h'.1.2 - h.1.2) ≤ R.slots)
    (kk : ∀ (H1 : Heap), ls' = ls → ax_rel D cA b b0 S h' H1 → va_S (fun q => b0 ≤ q) s.heap H1 locs → W p l e R s m args below meth c H1 locs (cells + (h'.1.1 - h.1.1)) (slots + (h'.1.2 - h.1.2)) Q (F0 m q C (st'.map (ax_cv b b0)))) : W p l e R s m args below meth c H locs cells slots Q (F0 m pc C (st.map (ax_cv b b0))) := by
  unfold ax_s28 at hs
  split at hs
  · rename_i hc
    obtain ⟨h9, hlim⟩ := hc
    cases hs
    have e1 : (ax_new h (x + 1) (ax_nf x)).1.1 - h.1.1 = 1 := by show h.1.1 + 1 - h.1.1 = 1; omega
    have e2 : (ax_new h (x + 1) (ax_nf x)).1.2 - h.1.2 = ax_nf x := by show h.1.2 + ax_nf x - h.1.2 = ax_nf x; omega
    rw [e1] at hcl
    rw [e2] at hsl
    rw [e1, e2] at kk
    have hKn := hK.1 x h9
    have hU := ax_hU hts h9
    have hi := hts _ (ax_inst x h9) rfl
    have hini := hts _ (ax_init x h9) rfl
    have hsz := hr.1
    have hg : ax_g b b0 h.1.1 = b0 + h.1.1 := ax_g_lt hr.2.1
    refine W.newcK hx hb hown hlk hi hini rfl hd hcl hsl hKn.2.1 rfl fun H1 kC hkC p1 z1 o1 => ?_
    rw [hsz] at p1 z1 o1
    have ob : t_OB (b0 + h.1.1) (D.1 x) (ax_nf x) (D.2 x) H1 (fun j => defaultValue (ax_ty x j)) := u_born (ax_ty x) hU (fun w hw => hw) hKn hkC p1 (ax_tyok x h9)
    have cell : ax_cell D cA b b0 (ax_new h (x + 1) (ax_nf x)) h.1.1 H1 := by
      refine ax_obj_only h9 (by show (ax_sh _ _ _ _).1 = _; rw [ax_sh_self]) (ob.to (fun i hi => ?_))
      rw [ax_fw_new]
      rcases ax_ftok x h9 i hi with ⟨f0, t0⟩ | ⟨f1, t1⟩ | ⟨f2, t2⟩
      · rw [if_neg (by omega), t0]; rfl
      · rw [if_neg (by omega), t1]; rfl
      · rw [if_pos f2]
        cases ht : ax_ty x i <;> rw [ht] at t2 <;> first | rfl | cases t2
    have := kk H1 rfl (ax_rel_new hr hlim z1 o1 cell) (ax_S_push hS (by omega) (by rw [hsz]; exact o1))
    simpa only [List.map_cons, ax_cv_ref, hg, hsz] using this
  · cases hs
theorem ax_o29 (hx : p.tables.exec = Jvm.exec) (hb : c.code = cc) (hta : ∀ ty, ty = .int ∨ ty = .boolean ∨ ty = .long → (Cond.arrayClass ty).before args s = true) (hK : ax_K D cA s) (hr : ax_rel D cA b b0 S h H) (hS : va_S (fun q => b0 ≤ q) s.heap H locs) {x : Nat} (hd : decode cc pc = .ok (.newarray (ax_at x), 2)) (hs : ax_s29 (pc + 2) ls st h x = some (q, ls', st', h'))
    (hcl : cells + (h'.1.1 - h.1.1) ≤ R.cells) (hsl : slots + (h'.1.2 - h.1.2) ≤ R.slots)
    (kk : ∀ (H1 : Heap), ls' = ls → ax_rel D cA b b0 S h' H1 → va_S (fun q => b0 ≤ q) s.heap H1 locs → W p l e R s m args below meth c H1 locs (cells + (h'.1.1 - h.1.1)) (slots + (h'.1.2 - h.1.2)) Q (F0 m q C (st'.map (ax_cv b b0)))) : W p l e R s m args below meth c H locs cells slots Q (F0 m pc C (st.map (ax_cv b b0))) := by
  unfold ax_s29 at hs
  split at hs
  · rename_i n r
    split at hs
    · rename_i hc
      obtain ⟨hlim, hn, hn2, hx3⟩ := hc
      cases hs
      have e1 : (ax_new h x n.toNatClampNeg).1.1 - h.1.1 = 1 := by show h.1.1 + 1 - h.1.1 = 1; omega
      have e2 : (ax_new h x n.toNatClampNeg).1.2 - h.1.2 = n.toNatClampNeg := by show h.1.2 + n.toNatClampNeg - h.1.2 = _; omega
      rw [e1] at hcl
      rw [e2] at hsl
      rw [e1, e2] at kk
      have hsz := hr.1
      have hg : ax_g b b0 h.1.1 = b0 + h.1.1 := ax_g_lt hr.2.1
      have fin : ∀ (H1 : Heap) (ty : FieldType) (cN : ClassId), ax_aty x = some ty → H1[b0 + h.1.1]? = some (arrV cN n.toNatClampNeg (fun _ => defaultValue ty)) → H1.size = b0 + h.1.1 + 1 → (∀ q, q < b0 + h.1.1 → H1[q]? = H[q]?) → s.vm.findClass ("[" ++ ty.toString) = some cN → (ty = .int ∨ ty = .boolean ∨ ty = .long) → W p l e R s m args below meth c H1 locs (cells + 1) (slots + n.toNatClampNeg) Q (F0 m (pc + 2) C (.ref (b0 + h.1.1) :: r.map (ax_cv b b0))) := by
        intro H1 ty cN hty p1 z1 o1 hcn hty3
        have hra := (hK.2 x ty hty).2
        have hcA : cN = cA x := by
          rcases hty3 with rfl | rfl | rfl <;> exact Option.some.inj (hcn.symm.trans hra)
        subst hcA
        have hsh : (ax_new h x n.toNatClampNeg).2.1 h.1.1 = (x, n.toNatClampNeg) := ax_sh_self _ _ _
        have cell : ax_cell D cA b b0 (ax_new h x n.toNatClampNeg) h.1.1 H1 := by
          rcases hx3 with rfl | rfl | rfl
          · cases hty
            refine ax_arri_only (Or.inl (by rw [hsh])) ?_
            rw [hsh, p1]
            show _ = some (arrV (cA 20) _ (fun j => .int (ax_rw _ _ _ _ j)))
            rw [ax_rw_self]; rfl
          · cases hty
            refine ax_arri_only (Or.inr (by rw [hsh])) ?_
            rw [hsh, p1]
            show _ = some (arrV (cA 21) _ (fun j => .int (ax_rw _ _ _ _ j)))
            rw [ax_rw_self]; rfl
          · cases hty
            refine ax_arrl_only (by rw [hsh]) ?_
            rw [hsh, p1]
            show _ = some (arrV (cA 22) _ (fun j => .long (ax_rw _ _ _ _ j)))
            rw [ax_rw_self]; rfl
        have := kk H1 rfl (ax_rel_new hr hlim z1 o1 cell) (ax_S_push hS (by omega) (by rw [hsz]; exact o1))
        simpa only [List.map_cons, ax_cv_ref, hg] using this
      have bytes : ∀ ty, ty = .int ∨ ty = .boolean ∨ ty = .long → n.toNatClampNeg * componentBytes ty ≤ 536870912 := by
        intro ty h3
        rcases h3 with rfl | rfl | rfl
        · show n.toNatClampNeg * 4 ≤ _; omega
        · show n.toNatClampNeg * 1 ≤ _; omega
        · show n.toNatClampNeg * 8 ≤ _; omega
      rcases hx3 with rfl | rfl | rfl
      · exact va_newaK (atype := .int) hx hb (hta _ (Or.inl rfl)) rfl hd rfl hn rfl (bytes _ (Or.inl rfl)) hcl hsl hsz fun H1 cN p1 z1 o1 _ hN => fin H1 .int cN rfl p1 z1 o1 hN (Or.inl rfl)
      · exact va_newaK (atype := .boolean) hx hb (hta _ (Or.inr (Or.inl rfl))) rfl hd rfl hn rfl (bytes _ (Or.inr (Or.inl rfl))) hcl hsl hsz fun H1 cN p1 z1 o1 _ hN => fin H1 .boolean cN rfl p1 z1 o1 hN (Or.inr (Or.inl rfl))
      · exact va_newaK (atype := .long) hx hb (hta _ (Or.inr (Or.inr rfl))) rfl hd rfl hn rfl (bytes _ (Or.inr (Or.inr rfl))) hcl hsl hsz fun H1 cN p1 z1 o1 _ hN => fin H1 .long cN rfl p1 z1 o1 hN (Or.inr (Or.inr rfl))
    · cases hs
  · cases hs
end AxN
