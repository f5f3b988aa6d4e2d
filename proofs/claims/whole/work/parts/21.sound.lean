theorem ax_lookup_mem {pc : Nat} {r : ax_R} : ∀ {l : List (Nat × ax_R)}, l.lookup pc = some r → (pc, r) ∈ l := by
  intro l
  induction l with
  | nil => intro h; cases h
  | cons a t ih =>
    intro h
    obtain ⟨a1, a2⟩ := a
    rw [List.lookup_cons] at h
    split at h
    · rename_i he
      have he : pc = a1 := by simpa using he
      cases h
      subst he
      exact List.mem_cons_self
    · exact List.mem_cons_of_mem _ (ih h)
theorem ax_row_ok {k pc : Nat} {r : ax_R} (hk : k < 138) (h : ax_code k pc = some r) : ax_rc k pc r.1 r.2.1 r.2.2.1 r.2.2.2.1 r.2.2.2.2 = true :=
  List.all_eq_true.mp (ax_ck k hk) _ (ax_lookup_mem h)
section AxS
variable {p : Program} {l : Launch} {e : Env} {R : Room} {s : State} {m : MethodId} {args : Array Value} {below : List Frame} {meth : Method} {c : Code} {H : Heap} {locs : List Loc} {cells slots : Nat}
variable {b b0 pc : Nat} {st : List Value} {h h' : ax_H} {D : va_G} {cA : Nat → ClassId} {S : (Nat × Nat) × (Nat → Int32)} {C : Array Slot}
theorem ax_mono {Q Q' : State → Prop} {g : JFrame} (hq : ∀ t, Q t → Q' t) (h : W p l e R s m args below meth c H locs cells slots Q g) : W p l e R s m args below meth c H locs cells slots Q' g := fun T hT X => by
  obtain ⟨t, a, z⟩ := h T hT X
  exact ⟨t, a, hq t z⟩
theorem ax_S_old (hS : va_S (fun q => b0 ≤ q) s.heap H locs) : ∀ q : Nat, q < s.heap.size → q < b0 → H[q]? = s.heap[q]? := fun q h1 h2 => hS.2.1 q h1 (Nat.not_le.mpr h2)
/-- a return's end -/
theorem ax_retZ {w : Option Value} (hr : ax_rel D cA b b0 S h H) (hS : va_S (fun q => b0 ≤ q) s.heap H locs) (t : State) (hM : MQ below (fun _ _ o t => o = .returned (w.map (ax_cv b b0)) ∧ t.heap = H) args s cells slots (fun q => b0 ≤ q) t) : ax_Z D cA b b0 S below s (.inl w) h cells slots t := by
  obtain ⟨o, hrun, hend, ⟨ho, hh⟩, L, hF, hL⟩ := hM
  obtain ⟨-, hW, hsame⟩ := hF
  exact ⟨o, hrun, hend, hW, ⟨L, hsame, hL⟩, by rw [hh]; exact hr, by rw [hh]; exact ax_S_old hS, ho⟩
theorem ax_endW {k op n x y : Nat} {v : Int} {r : ax_O} (htr : e.platform.stackTraces = false) (G : ax_cx D cA b b0 S k p R s m meth c) (hxt : ax_tabl k c) (hrow : ax_rc k pc op n x y v = true) (he : ax_end k op x st h = some (r, h')) (hCs : C.size = c.maxLocals) (hr : ax_rel D cA b b0 S h H) (hS : va_S (fun q => b0 ≤ q) s.heap H locs) (hcl : cells + (h'.1.1 - h.1.1) ≤ R.cells) (hsl : slots + (h'.1.2 - h.1.2) ≤ R.slots) :
    W p l e R s m args below meth c H locs cells slots (ax_Z D cA b b0 S below s r h' (cells + (h'.1.1 - h.1.1)) (slots + (h'.1.2 - h.1.2))) (F0 m pc C (st.map (ax_cv b b0))) := by
  obtain ⟨hx, hb, hml, hown, hnm, hrt, hlocks, htb, hK, hsz, hsc, hfr, hlo, hb0⟩ := G
  have hts : ∀ w ∈ lw_tbl, w.onTables = true → w.before args s = true := fun w hw ho => va_tabs ho rfl (htb.1 w hw ho)
  match op, hrow, he with
  | 50, hrow, he =>
    have hrow : (ax_d1 (ax_by k) pc n .ireturn 1 && decide (ax_rt k = some .int ∨ ax_rt k = some .boolean)) = true := hrow
    rw [Bool.and_eq_true, decide_eq_true_eq] at hrow
    obtain ⟨d, -⟩ := ax_d1_of hrow.1
    replace he : ax_e50 k st h = some (r, h') := he
    unfold ax_e50 at he
    split at he
    · rename_i a hz9
      split at he
      · rename_i hcond
        cases he
        rw [Nat.sub_self, Nat.sub_self, Nat.add_zero, Nat.add_zero]
        refine ax_mono (fun t => ax_retZ (args := args) (w := some (.int a)) hr hS t) ?_
        rcases hrow.2 with h1 | h1
        · exact W.iret hx hb (hrt.trans h1) (fun t ht _ => ⟨rfl, ht⟩) hS.2.2 d hlocks
        · refine W.zret (ty := .boolean) hx hb (hrt.trans h1) ?_ (fun t ht _ => ⟨rfl, ht⟩) hS.2.2 d hlocks
          rcases hcond with h2 | rfl | rfl
          · rw [h1] at h2; cases h2
          · rfl
          · rfl
      · cases he
    · cases he
  | 51, hrow, he =>
    have hrow : (ax_d1 (ax_by k) pc n .return_ 1 && decide (ax_rt k = none)) = true := hrow
    rw [Bool.and_eq_true, decide_eq_true_eq] at hrow
    obtain ⟨d, -⟩ := ax_d1_of hrow.1
    replace he : ax_e51 st h = some (r, h') := he
    unfold ax_e51 at he
    split at he
    · cases he
      rw [Nat.sub_self, Nat.sub_self, Nat.add_zero, Nat.add_zero]
      refine ax_mono (fun t => ax_retZ (args := args) (w := none) hr hS t) ?_
      exact W.vret hx hb (hrt.trans hrow.2) (fun t ht _ => ⟨rfl, ht⟩) hS.2.2 d hlocks
    · cases he
  | 52, hrow, he =>
    have hrow : (ax_d1 (ax_by k) pc n .areturn 1 && (match ax_rt k with | some (.object _) => true | _ => false)) = true := hrow
    rw [Bool.and_eq_true] at hrow
    obtain ⟨d, -⟩ := ax_d1_of hrow.1
    have hob : ∃ nm, ax_rt k = some (.object nm) := by
      have h2 := hrow.2
      split at h2
      · rename_i nm hnm
        exact ⟨nm, hnm⟩
      · cases h2
    obtain ⟨nm, hob⟩ := hob
    replace he : ax_e52 st h = some (r, h') := he
    unfold ax_e52 at he
    split at he
    · rename_i a hz9
      cases he
      rw [Nat.sub_self, Nat.sub_self, Nat.add_zero, Nat.add_zero]
      refine ax_mono (fun t => ax_retZ (args := args) (w := some (.ref a)) hr hS t) ?_
      exact W.aret (rt := .object nm) (v := .ref (ax_g b b0 a)) hx hb (hrt.trans hob) (Or.inl ⟨nm, rfl⟩) (Or.inr ⟨_, rfl⟩) (fun t ht _ => ⟨rfl, ht⟩) hS.2.2 d hlocks
    · cases he
  | 53, hrow, he =>
    have hrow : (ax_d1 (ax_by k) pc n (.new v.toNat) 3 && decide (decode (ax_by k) (pc + 3) = .ok (.dup, 1) ∧ decode (ax_by k) (pc + 4) = .ok (.ldc (ax_tx x).2.1, 2) ∧ decode (ax_by k) (pc + 6) = .ok (.invokespecial (ax_tx x).2.2, 3) ∧ decode (ax_by k) (pc + 9) = .ok (.athrow, 1)) && decide (ax_wn k = 7 ∧ x < 3 ∧ v.toNat = (ax_tx x).1 ∧ 6 ≤ ax_fr k ∧ 100 ≤ ax_lo k ∧ ax_hx k = [])) = true := hrow
    rw [Bool.and_eq_true, Bool.and_eq_true, decide_eq_true_eq, decide_eq_true_eq] at hrow
    obtain ⟨⟨hd0, d3, d4, d6, d9⟩, hw7, hx3, hvx, hf6, hl100, hnoh⟩ := hrow
    obtain ⟨d0, -⟩ := ax_d1_of hd0
    rw [hvx] at d0
    replace he : ax_e53 x st h = some (r, h') := he
    unfold ax_e53 at he
    split at he
    · split at he
      · rename_i hlim
        cases he
        have e1 : (h.1.1 + 1) - h.1.1 = 1 := by omega
        have e2 : (h.1.2 + 6) - h.1.2 = 6 := by omega
        rw [e1] at hcl
        rw [e2] at hsl
        rw [e1, e2]
        have howM : s.vm.findClass "MakerGuard" = some m.cls := by
          have e7 : ax_ow k = "MakerGuard" := by unfold ax_ow; rw [hw7]; rfl
          rw [← e7]; exact hown
        have hE : ∀ w ∈ ax_eA x, w.before args s = true := fun w hw => hts w (ax_eA_in hx3 w hw).1 (ax_eA_in hx3 w hw).2
        obtain ⟨c1, kX, hc1, hkX, -, -, -, hn6⟩ := Cond.instantiable_spec (hE (.instantiable (ax_en x) 6) (by simp [ax_eA]))
        obtain ⟨sa, hsa⟩ := htb.2.2.2.1 x hx3
        have htab : c.exceptionTable.toList = [] := by
          have := hxt
          unfold ax_tabl at this
          rw [hnoh] at this
          exact List.map_eq_nil_iff.mp this
        have hhs := hr.1
        refine W.newcK hx hb howM (hE (.classLink "MakerGuard" (ax_tx x).1 (ax_en x)) (by simp [ax_eA])) (hE (.instantiable (ax_en x) 6) (by simp [ax_eA])) (hE (.initialized (ax_en x)) (by simp [ax_eA])) (g := F0 m pc C []) rfl d0 hcl hsl hc1 rfl fun H1 kC hkC p1 z1 o1 => ?_
        cases hkX.symm.trans hkC
        refine lv_dup (pc := pc + 3) hx hb d3 rfl ?_
        refine va_ldcS (pc := pc + 4) hx hb howM hsa d4 ?_
        have hS1 := ax_S_push hS z1 o1
        rw [hhs] at z1
        refine ax_thrW (pc := pc + 6) (j := x) (q := H.size) hx hb htr howM htb hsz hlocks htab hCs (Nat.le_trans hf6 hfr) (Nat.le_trans hl100 hlo) hx3 hc1 hkX p1 hS.1 hS1 d6 d9 ?_
        intro t L t1 t2 t3 t4 t5 t6 t7 t8 t9
        have hq : H.size = b0 + h.1.1 := hhs
        refine ⟨.threw H.size, t1, t2, t3, ⟨locs ++ L, t4, fun x hx => ?_⟩, ?_, fun q g1 g2 => ?_, ?_⟩
        · rcases List.mem_append.mp hx with hx | hx
          · exact hS.2.2 x hx
          · rw [t5 x hx, hq]; omega
        · obtain ⟨r1, r2, r3, r4, r5⟩ := hr
          refine ⟨by rw [t6, z1]; show _ = b0 + (h.1.1 + 1); omega, by show h.1.1 + 1 < _; omega, fun a ha => ?_, (ax_sh_other _ _ (by omega)).trans r4, r5⟩
          have ha : a < h.1.1 + 1 := ha
          rcases Nat.lt_or_ge a h.1.1 with hl | hl
          · refine ax_cell_congr (ax_sh_other _ _ (Nat.ne_of_lt hl)) rfl rfl rfl ?_ (r3 a hl)
            rw [t7 _ (by omega), o1 _ (by omega)]
          · have : a = h.1.1 := by omega
            subst this
            have hk0 : (ax_sh h.2.1 h.1.1 (0, 0) h.1.1) = (0, 0) := ax_sh_self _ _ _
            refine ⟨fun ci _ hk => ?_, fun hk => ?_, fun hk => ?_, fun hk => ?_⟩
            · exact absurd (hk.symm.trans (congrArg Prod.fst hk0)) (by omega)
            · rcases hk with hk | hk
              · exact absurd (hk.symm.trans (congrArg Prod.fst hk0)) (by omega)
              · exact absurd (hk.symm.trans (congrArg Prod.fst hk0)) (by omega)
            · exact absurd (hk.symm.trans (congrArg Prod.fst hk0)) (by omega)
            · have hk : ax_ra (ax_sh h.2.1 h.1.1 (0, 0) h.1.1).1 = true := hk
              rw [hk0] at hk
              cases hk
        · rw [t7 q (by omega), o1 q (by omega)]
          exact ax_S_old hS q g1 g2
        · obtain ⟨ce, u1, u2, u3⟩ := t8
          refine ⟨by rw [hq], by show h.1.1 < 1000000000; omega, hx3, ce, by rw [← hq]; exact u1, u2, ?_, ?_⟩
          · rw [t3.alike.findClass, u3]; exact hc1
          · rw [t3.alike.assignable, u3]; exact t9
      · cases he
    · cases he
  | 0, _, he => cases he
  | op + 54, _, he => cases he
  | 1, _, he | 2, _, he | 3, _, he | 4, _, he | 5, _, he | 6, _, he | 7, _, he | 8, _, he | 9, _, he | 10, _, he | 11, _, he | 12, _, he | 13, _, he | 14, _, he | 15, _, he | 16, _, he | 17, _, he | 18, _, he | 19, _, he | 20, _, he | 21, _, he | 22, _, he | 23, _, he | 24, _, he | 25, _, he | 26, _, he | 27, _, he | 28, _, he | 29, _, he | 30, _, he | 31, _, he | 32, _, he | 33, _, he | 34, _, he | 35, _, he | 36, _, he | 37, _, he | 38, _, he | 39, _, he | 40, _, he | 41, _, he | 42, _, he | 43, _, he | 44, _, he | 45, _, he | 46, _, he | 47, _, he | 48, _, he | 49, _, he => cases he
end AxS
