section AxN2
variable {p : Program} {l : Launch} {e : Env} {R : Room} {s : State} {m : MethodId} {args : Array Value} {below : List Frame} {meth : Method} {c : Code} {H : Heap} {locs : List Loc} {cells slots : Nat} {Q : State → Prop}
variable {cc : ByteArray} {pc q : Nat} {C : Array Slot} {b b0 : Nat} {ls ls' : ax_L} {st st' : List Value} {h h' : ax_H} {D : va_G} {cA : Nat → ClassId} {S : (Nat × Nat) × (Nat → Int32)}
theorem ax_o30 (hx : p.tables.exec = Jvm.exec) (hb : c.code = cc) {own : String} (hown : s.vm.findClass own = some m.cls) (hta : ∀ x ty, ax_ra x = true → ax_aty x = some ty → (Cond.arrayOver ty).before args s = true) (hK : ax_K D cA s) (hr : ax_rel D cA b b0 S h H) (hS : va_S (fun q => b0 ≤ q) s.heap H locs) {x idx : Nat} (hd : decode cc pc = .ok (.anewarray idx, 3)) (hlk : (Cond.classLink own idx (ax_cn x)).before args s = true) (hs : ax_s30 (pc + 3) ls st h x = some (q, ls', st', h'))
    (hcl : cells + (h'.1.1 - h.1.1) ≤ R.cells) (hsl : slots + (h'.1.2 - h.1.2) ≤ R.slots)
    (kk : ∀ (H1 : Heap), ls' = ls → ax_rel D cA b b0 S h' H1 → va_S (fun q => b0 ≤ q) s.heap H1 locs → W p l e R s m args below meth c H1 locs (cells + (h'.1.1 - h.1.1)) (slots + (h'.1.2 - h.1.2)) Q (F0 m q C (st'.map (ax_cv b b0)))) : W p l e R s m args below meth c H locs cells slots Q (F0 m pc C (st.map (ax_cv b b0))) := by
  unfold ax_s30 at hs
  split at hs
  · rename_i n r
    split at hs
    · rename_i hc
      obtain ⟨hlim, hn, hn2, hx3⟩ := hc
      cases hs
      have e1 : (ax_new h (x + 30) n.toNatClampNeg).1.1 - h.1.1 = 1 := by show h.1.1 + 1 - h.1.1 = 1; omega
      have e2 : (ax_new h (x + 30) n.toNatClampNeg).1.2 - h.1.2 = n.toNatClampNeg := by show h.1.2 + n.toNatClampNeg - h.1.2 = _; omega
      rw [e1] at hcl
      rw [e2] at hsl
      rw [e1, e2] at kk
      have hsz := hr.1
      have hg : ax_g b b0 h.1.1 = b0 + h.1.1 := ax_g_lt hr.2.1
      have hra : ax_ra (x + 30) = true := by rcases hx3 with rfl | rfl | rfl | rfl <;> rfl
      obtain ⟨ci, h9, ec, hty⟩ := ax_ra_aty hra
      have ec : ci = x := by omega
      subst ec
      refine W.anew (g := F0 m pc C (.int n :: r.map (ax_cv b b0))) hx hb hown hlk (hta _ _ hra hty) rfl hd rfl hn (by omega) hcl hsl fun cN kA comp f1 f2 f3 f4 => ?_
      generalize hH1 : H.push ({ cls := cN, slots := Array.replicate n.toNatClampNeg .null, vm := .none } : Cell) = H1
      have z1 : H1.size = b0 + h.1.1 + 1 := by rw [← hH1, Array.size_push, hsz]
      have p1 : H1[b0 + h.1.1]? = some (arrV cN n.toNatClampNeg (fun _ => .null)) := by rw [← hH1, ← hsz, Array.getElem?_push_size, ← arrV_new]
      have o1 : ∀ q : Nat, q < b0 + h.1.1 → H1[q]? = H[q]? := fun q hq => by rw [← hH1, Array.getElem?_push, if_neg (by omega)]
      have hcA : cN = cA (ci + 30) := by
        obtain ⟨kA', comp', k1, k2, k3, k4⟩ := (hK.2 _ _ hty).2
        exact Option.some.inj (f1.symm.trans k4)
      subst hcA
      have hsh : (ax_new h (ci + 30) n.toNatClampNeg).2.1 h.1.1 = (ci + 30, n.toNatClampNeg) := ax_sh_self _ _ _
      have cell : ax_cell D cA b b0 (ax_new h (ci + 30) n.toNatClampNeg) h.1.1 H1 := by
        refine ax_arrr_only (by rw [hsh]; exact hra) ?_
        rw [hsh, p1]
        show _ = some (arrV (cA (ci + 30)) _ (fun j => va_rf (Option.map (ax_g b b0) (ax_rw h.2.2.2.1 h.1.1 (fun _ => none) h.1.1 j))))
        rw [ax_rw_self]; rfl
      have := kk H1 rfl (ax_rel_new hr hlim z1 o1 cell) (ax_S_push hS (by omega) (by rw [hsz]; exact o1))
      simpa only [List.map_cons, ax_cv_ref, hg, hsz] using this
    · cases hs
  · cases hs
theorem ax_o31 (hx : p.tables.exec = Jvm.exec) (hb : c.code = cc) {own : String} (hown : s.vm.findClass own = some m.cls) (hml : C.size = c.maxLocals) {idx : Nat} (hd : decode cc pc = .ok (.invokespecial idx, 3)) (hlk : (Cond.methodLink own idx Lib.objectInit).before args s = true) (hin : (Cond.instanceMethod Lib.objectInit).before args s = true) (hco : (Cond.code Lib.objectInit ⟨#[0xb1]⟩ 1 none).before args s = true) (hfr : 1 ≤ R.frames) (hlo : 20 ≤ R.locals) (hs : ax_s31 (pc + 3) ls st h = some (q, ls', st', h'))
    (kk : ls' = ls → h' = h → W p l e R s m args below meth c H locs cells slots Q (F0 m q C (st'.map (ax_cv b b0)))) : W p l e R s m args below meth c H locs cells slots Q (F0 m pc C (st.map (ax_cv b b0))) := by
  unfold ax_s31 at hs
  split at hs
  · rename_i a r
    split at hs
    · rename_i hw
      cases hs
      have kk := kk rfl rfl
      have hw2 : ((st'.map (ax_cv b b0)).map fun v => v.category).sum ≤ 8 := by
        rw [List.map_map]
        have : ((fun v => v.category) ∘ ax_cv b b0) = (fun v : Value => v.category) := by funext v; exact ax_cv_cat b b0 v
        rw [this]; exact hw
      exact W.objInit (g := F0 m pc C (.ref (ax_g b b0 a) :: st'.map (ax_cv b b0))) hx hb hown hlk hin hco rfl hml rfl hd hfr (by show 2 * 0 + _ + 12 ≤ _; omega) kk
    · cases hs
  · cases hs
theorem ax_o32 (hx : p.tables.exec = Jvm.exec) (hb : c.code = cc) {own : String} (hown : s.vm.findClass own = some m.cls) (hml : c.maxLocals = C.size) (hK : ax_K D cA s) (hr : ax_rel D cA b b0 S h H) (hS : va_S (fun q => b0 ≤ q) s.heap H locs) {idx : Nat} (hd : decode cc pc = .ok (.invokestatic idx, 3)) (hlk : (Cond.methodLink own idx arraycopyName).before args s = true) (hnat : (Cond.native arraycopyName).before args s = true) (hstat : (Cond.static arraycopyName).before args s = true) (hini : (Cond.initialized "java/lang/System").before args s = true) (hfr : 1 ≤ R.frames) (hlo : nativeFrameWords "java/lang/System" "arraycopy" 5 + 11 ≤ R.locals) (hs : ax_s32 (pc + 3) ls st h = some (q, ls', st', h'))
    (kk : ∀ (H1 : Heap) (locs1 : List Loc), ls' = ls → h'.1 = h.1 → ax_rel D cA b b0 S h' H1 → va_S (fun q => b0 ≤ q) s.heap H1 locs1 → W p l e R s m args below meth c H1 locs1 cells slots Q (F0 m q C (st'.map (ax_cv b b0)))) : W p l e R s m args below meth c H locs cells slots Q (F0 m pc C (st.map (ax_cv b b0))) := by
  unfold ax_s32 at hs
  split at hs
  · rename_i n d t c1 a r
    split at hs
    · rename_i hc
      obtain ⟨h1, h2, hne, hka, hkb, rfl, rfl, rfl, rfl⟩ := hc
      cases hs
      have hga : ax_g b b0 a = b0 + a := ax_g_lt (Nat.lt_trans h1 hr.2.1)
      have hgb : ax_g b b0 t = b0 + t := ax_g_lt (Nat.lt_trans h2 hr.2.1)
      have oa := (hr.2.2.1 a h1).2.1 (by rw [hka]; exact Or.inl rfl)
      have ob := (hr.2.2.1 t h2).2.1 (by rw [hkb]; exact Or.inl rfl)
      rw [hka] at oa
      rw [hkb] at ob
      intro T hT X
      obtain ⟨-, k0, hk0, cm0, hkk0⟩ := (hK.2 20 .int rfl).1 8 (fun j => .int (h.2.2.1 a j))
      have z0 : ¬ (0 : Int32) < 0 := by decide
      obtain ⟨vm', X', step⟩ := X.arraycopy hx hown hlk hnat hstat hini (src := b0 + a) (dst := b0 + t) (cs := arrV (cA 20) 8 (fun j => .int (h.2.2.1 a j))) (cd := arrV (cA 20) 8 (fun j => .int (h.2.2.1 t j))) (srcPos := 0) (destPos := 0) (n := 8) (by rw [hT]; exact oa) (by rw [hT]; exact ob)
        (fun _ h => by cases h) (fun _ h => by cases h) (fun h => by cases h) (fun h => by cases h) hk0 hk0 hkk0 hkk0 (by decide) z0 z0 (by decide)
        (by rw [arrV_size]; decide) (by rw [arrV_size]; decide)
        (fun vm₁ _ i hi => by
          have hi : i < 8 := hi
          have e : (arrV (cA 20) 8 (fun j => .int (h.2.2.1 a j))).slots.getD ((0 : Int32).toNatClampNeg + i) .null = .int (h.2.2.1 a ((0 : Int32).toNatClampNeg + i)) := by
            rw [Array.getD_eq_getD_getElem?, arrV_read _ _ (by show 0 + i < 8; omega)]
            rfl
          refine ⟨?_, ?_⟩
          · rw [e]; rfl
          · rw [e]; exact trivial)
        (g := F0 m pc C (.int 8 :: .int 0 :: .ref (b0 + t) :: .int 0 :: .ref (b0 + a) :: [])) rfl (by rw [hml]) (rest := []) rfl (by rw [hb]; exact hd) hfr (by show 2 * 0 + 0 + _ ≤ _; omega)
      have e1 : copied (arrV (cA 20) 8 (fun j => .int (h.2.2.1 a j))) (arrV (cA 20) 8 (fun j => .int (h.2.2.1 t j))) 0 0 8 = arrV (cA 20) 8 (fun j => .int (va_cpy (h.2.2.1 a) (h.2.2.1 t) 0 0 8 j)) := va_copied (n := 8) (sp := 0) (dp := 0) (fun z => .int z) (cA 20) (cA 20) (h.2.2.1 a) (h.2.2.1 t) (by decide)
      rw [e1] at X' step
      have hl : b0 + t < H.size := by rw [hr.1]; exact Nat.add_lt_add_left h2 b0
      have oq : ∀ q : Nat, q ≠ b0 + t → (H.setIfInBounds (b0 + t) (arrV (cA 20) 8 (fun j => .int (va_cpy (h.2.2.1 a) (h.2.2.1 t) 0 0 8 j))))[q]? = H[q]? := fun q hq => by simp [Array.getElem?_setIfInBounds, Ne.symm hq]
      have ec : (fun j => Value.int (va_cpy (h.2.2.1 a) (h.2.2.1 t) 0 0 8 j)) = fun j => Value.int (if j < 8 then h.2.2.1 a j else h.2.2.1 t j) := by
        funext j
        unfold va_cpy
        by_cases z : j < 8 <;> simp [z]
      obtain ⟨t2, a1, b1⟩ := kk (H.setIfInBounds (b0 + t) (arrV (cA 20) 8 (fun j => .int (va_cpy (h.2.2.1 a) (h.2.2.1 t) 0 0 8 j)))) _ rfl rfl (ax_rel_set (a := t) hr (Nat.ne_of_gt (Nat.lt_trans h2 hr.2.1)) rfl (by simp) oq (fun a' ha' => ⟨rfl, ax_rw_other _ _ ha', rfl, rfl⟩) (ax_arri_only (Or.inl (by show (h.2.1 t).1 = 20; rw [hkb])) (by
          show _ = some (arrV (cA (h.2.1 t).1) (h.2.1 t).2 (fun j => .int (ax_rw _ _ _ _ j)))
          rw [ax_rw_self, hkb, ec]
          simp [Array.getElem?_setIfInBounds, hl])))
        ⟨by simp; exact hS.1, fun q g1 g2 => by
          rw [oq q (fun e => g2 (by rw [e]; exact Nat.le_add_right _ _))]
          exact hS.2.1 q g1 g2, fun q hq => by
          rcases List.mem_append.mp hq with h | h
          · exact hS.2.2 q h
          · obtain ⟨z, -, hz⟩ := List.mem_map.mp h
            rw [← hz]
            exact Nat.le_add_right _ _⟩ ((T.setVm vm').setCell (b0 + t) (arrV (cA 20) 8 (fun j => .int (va_cpy (h.2.2.1 a) (h.2.2.1 t) 0 0 8 j)))) (by rw [← hT]; rfl) X'
      refine ⟨t2, ?_, b1⟩
      have := step t2 a1
      simpa only [List.map_cons, List.map_nil, ax_cv_ref, ax_cv_int, hga, hgb] using this
    · cases hs
  · cases hs
end AxN2
