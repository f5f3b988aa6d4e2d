/-! EVERY ABSTRACT RUN IS A RUN OF THE MACHINE -/
set_option maxHeartbeats 1000000 in
theorem ax_sound : ∀ n, ax_P n := by
  intro n
  induction n with
  | zero => intro k pc ls st h r h' hk he; cases he
  | succ n IH =>
    intro k pc ls st h r h' hk he p l e R s m args below meth c H locs cells slots C D cA b b0 S htr G hxt hln hr hS hl hcl hsl
    have hmono := ax_exec_mono _ _ _ _ _ _ _ _ he
    unfold ax_exec at he
    split at he
    · cases he
    · rename_i r0 hcode
      have hrow := ax_row_ok hk hcode
      have hCs : C.size = c.maxLocals := by rw [hl.1, hln, G.2.2.1]
      obtain ⟨op, ln, x, y, v⟩ := r0
      simp only at he hrow
      split at he
      · -- a step
        split at he
        · rename_i z hz
          obtain ⟨q, ls1, st1, h1⟩ := z
          simp only at he
          obtain ⟨m0, m1, m2⟩ := ax_step_mono hz
          obtain ⟨m3, m4⟩ := ax_exec_mono _ _ _ _ _ _ _ _ he
          refine ax_go G hrow hz hln hr hS hl (by omega) (by omega) (fun H1 locs1 C1 a1 a2 a3 => ?_)
          have := IH k q ls1 st1 h1 r h' hk he p l e R s m args below meth c H1 locs1 (cells + (h1.1.1 - h.1.1)) (slots + (h1.1.2 - h.1.2)) C1 D cA b b0 S htr G hxt (m0.trans hln) a1 a2 a3 (by omega) (by omega)
          rw [show cells + (h1.1.1 - h.1.1) + (h'.1.1 - h1.1.1) = cells + (h'.1.1 - h.1.1) by omega, show slots + (h1.1.2 - h.1.2) + (h'.1.2 - h1.1.2) = slots + (h'.1.2 - h.1.2) by omega] at this
          exact this
        · cases he
      · rename_i h40
        split at he
        · -- a call
          rename_i h50
          split at he
          · rename_i hca
            obtain ⟨hy, hca⟩ := hca
            intro T hT X
            have hrT : ax_rel D cA b b0 S h T.heap := by rw [hT]; exact hr
            obtain ⟨⟨hx0, hx1, hfr2, hlo2, hyml⟩, ⟨ig, d⟩, vm₁, mk, hn, X₁, hstep⟩ := ax_inv (C := C) X G hrow (Nat.not_lt.mp h40) h50 hy hca hrT
            obtain ⟨hx, hb, hml, hown, hnm, hrt, hlocks, htb, hK, hsz, hsc, hfr, hlo, hb0⟩ := id G
            have hcat : ((st.take y).reverse).all (fun v => v.category == 1) = true ∧ ((st.drop y).map fun v => v.category).sum ≤ 8 := by
              unfold ax_ca at hca
              rw [Bool.and_eq_true, decide_eq_true_eq] at hca
              exact hca.1
            have hS1 : va_S (fun q => b0 ≤ q) s.heap (T.setVm vm₁).heap locs := by
              show va_S _ _ T.heap _
              rw [hT]; exact hS
            have hw8 : (((st.drop y).map (ax_cv b b0)).map fun v => v.category).sum ≤ 8 := by
              rw [List.map_map]
              have : ((fun v => v.category) ∘ ax_cv b b0) = (fun v : Value => v.category) := by funext v; exact ax_cv_cat b b0 v
              rw [this]; exact hcat.2
            have hlenA : ((st.take y).reverse).length ≤ ax_ml x := by rw [List.length_reverse, List.length_take, Nat.min_eq_left hy]; exact hyml
            have main : ∀ (r1 : ax_O) (h1 : ax_H), ax_exec n x 0 (ax_entry x (st.take y).reverse) [] h = some (r1, h1) → h1.1.1 ≤ h'.1.1 → h1.1.2 ≤ h'.1.2 →
                ∃ t : State, (∀ acts, Steps p.tables e below (doInvoke e ((T.setVm vm₁).setTop (F0 m pc C ((st.drop y).map (ax_cv b b0)))) acts mk (((st.take y).reverse).map (ax_cv b b0)).toArray).1 t) ∧ ax_Z D cA b b0 S (.java (F0 m pc C ((st.drop y).map (ax_cv b b0))) :: below) ((T.setVm vm₁).calling (F0 m pc C ((st.drop y).map (ax_cv b b0))) mk (((st.take y).reverse).map (ax_cv b b0)).toArray) r1 h1 (h1.1.1 - h.1.1) (h1.1.2 - h.1.2) t := by
              intro r1 h1 he1 q1 q2
              obtain ⟨q3, q4⟩ := ax_exec_mono _ _ _ _ _ _ _ _ he1
              exact ax_enter IH hx0 hx1 X₁ htr hx htb hK hsz hS1 hb0 (g := F0 m pc C ((st.drop y).map (ax_cv b b0))) rfl hCs (by rw [hb]; exact d) hn hcat.1 hlenA hrT he1 (by omega) (by show 2 * 0 + (((st.drop y).map (ax_cv b b0)).map fun v => v.category).sum + (ax_ml x + 11) + ax_lo x ≤ R.locals; omega) (by omega) (by omega)
            have hold1 : ∀ {t : State}, (∀ q : Nat, q < T.heap.size → q < b0 → t.heap[q]? = T.heap[q]?) → ∀ q : Nat, q < s.heap.size → q < b0 → t.heap[q]? = s.heap[q]? := by
              intro t ht q g1 g2
              rw [ht q (Nat.lt_of_lt_of_le g1 (by rw [hT]; exact hS.1)) g2, hT]
              exact ax_S_old hS q g1 g2
            split at he
            · -- it came back
              rename_i w h1 he1
              obtain ⟨q3, q4⟩ := ax_exec_mono _ _ _ _ _ _ _ _ he
              obtain ⟨t, hst, o, hrun, hend, hW, ⟨L, hsame, hLb⟩, hrel, hold, hoc⟩ := main _ _ he1 q3 q4
              have hoc : o = .returned (w.map (ax_cv b b0)) := hoc
              subst hoc
              obtain ⟨T', X', hW', -, ht⟩ := X₁.outOf (g := F0 m pc C ((st.drop y).map (ax_cv b b0))) rfl (by rw [hb]; exact d) hend hW hsame
              have hheap : t.heap = T'.heap := by rw [ht]; rfl
              obtain ⟨q5, q6⟩ := ax_exec_mono _ _ _ _ _ _ _ _ he1
              have hS2 : va_S (fun q => b0 ≤ q) s.heap T'.heap (locs ++ L) := by
                refine ⟨?_, fun q g1 g2 => ?_, fun q hq => ?_⟩
                · have g1 := hS.1
                  rw [← hheap, hrel.1]
                  rw [hr.1] at g1
                  omega
                · rw [← hheap]
                  exact hold1 hold q g1 (Nat.not_le.mp g2)
                · rcases List.mem_append.mp hq with hq | hq
                  · exact hS.2.2 q hq
                  · exact hLb q hq
              have := IH k (pc + 3) ls (w.toList ++ st.drop y) h1 r h' hk he p l e R s m args below meth c T'.heap (locs ++ L) (cells + (h1.1.1 - h.1.1)) (slots + (h1.1.2 - h.1.2)) C D cA b b0 S htr G hxt hln (by rw [← hheap]; exact hrel) hS2 hl (by omega) (by omega)
              rw [show cells + (h1.1.1 - h.1.1) + (h'.1.1 - h1.1.1) = cells + (h'.1.1 - h.1.1) by omega, show slots + (h1.1.2 - h.1.2) + (h'.1.2 - h1.1.2) = slots + (h'.1.2 - h.1.2) by omega] at this
              obtain ⟨t2, a1, b1⟩ := this T' rfl X'
              refine ⟨t2, hstep _ (fun acts => (hst acts).trans ?_), b1⟩
              rw [ht]
              have e3 : (w.toList ++ st.drop y).map (ax_cv b b0) = (w.map (ax_cv b b0)).toList ++ (st.drop y).map (ax_cv b b0) := by
                rw [List.map_append]
                cases w <;> rfl
              rw [e3] at a1
              exact a1
            · -- it threw
              rename_i ex h1 he1
              obtain ⟨ea, ej⟩ := ex
              obtain ⟨q5, q6⟩ := ax_exec_mono _ _ _ _ _ _ _ _ he1
              have q34 : h1.1.1 ≤ h'.1.1 ∧ h1.1.2 ≤ h'.1.2 := by
                split at he
                · exact ax_exec_mono _ _ _ _ _ _ _ _ he
                · split at he
                  · cases he
                    exact ⟨Nat.le_refl _, Nat.le_refl _⟩
                  · cases he
              obtain ⟨q3, q4⟩ := q34
              obtain ⟨t, hst, o, hrun, hend, hW, ⟨L, hsame, hLb⟩, hrel, hold, hoc⟩ := main _ _ he1 q3 q4
              obtain ⟨ho, hlim, hj3, ce, hce, hcev, hcec, hceS⟩ := hoc
              subst ho
              obtain ⟨T', X', hW', -, ht⟩ := X₁.outOfThrown (g := F0 m pc C ((st.drop y).map (ax_cv b b0))) rfl hend hW hsame
              have hheap : t.heap = T'.heap := by rw [ht]; rfl
              have hvm : t.vm = T'.vm := by rw [ht]; rfl
              have hS2 : va_S (fun q => b0 ≤ q) s.heap T'.heap (locs ++ L) := by
                refine ⟨?_, fun q g1 g2 => ?_, fun q hq => ?_⟩
                · have g1 := hS.1
                  rw [← hheap, hrel.1]
                  rw [hr.1] at g1
                  omega
                · rw [← hheap]
                  exact hold1 hold q g1 (Nat.not_le.mp g2)
                · rcases List.mem_append.mp hq with hq | hq
                  · exact hS.2.2 q hq
                  · exact hLb q hq
              obtain ⟨hd1, hd2, hd3⟩ := ax_hd_hx k hk
              split at he
              · -- caught here
                rename_i tgt hfound
                have hne : ax_hx k ≠ [] := by
                  intro z
                  rw [hd1, z] at hfound
                  cases hfound
                have howL : ax_ow k = "MakerGuardLaw" := by
                  rcases hd3 with z | z
                  · exact absurd z hne
                  · exact z
                have hal : s.vm.Alike T'.vm := X'.warmed.alike
                have hpl : e.platform.magicAccessors = ({} : Platform).magicAccessors := by rw [X.admits.platform]
                have hmap : c.exceptionTable.toList.map ax_hq = ax_hd k := by
                  rw [hd1, ← hxt, List.map_map]
                  rfl
                have hcat2 : ∀ y ∈ c.exceptionTable.toList, y.catchType = 13 ∨ y.catchType = 29 ∨ y.catchType = 19 := by
                  intro y hy
                  rw [← hxt] at hd2
                  have := List.all_eq_true.mp hd2 _ (List.mem_map.mpr ⟨y, hy, rfl⟩)
                  simp only [Bool.or_eq_true, beq_iff_eq] at this
                  rcases this with (z | z) | z
                  · exact Or.inl z
                  · exact Or.inr (Or.inl z)
                  · exact Or.inr (Or.inr z)
                obtain ⟨vm', hV, hf⟩ := ax_find (e := e) (f := F0 m pc C ((st.drop y).map (ax_cv b b0))) (a := b0 + ea) (cell := ce) (j := ej) hpl (by rw [← howL]; exact hown) htb hj3 (fun z hz => by rw [hcev] at hz; cases hz) (by rw [← hal.findClass, ← hvm]; exact hcec) (by rw [← hal.assignable, ← hvm]; exact hceS) c.exceptionTable.toList ((T'.setTop (F0 m pc C ((st.drop y).map (ax_cv b b0)))).pushFrame (.throwing (b0 + ea))) X'.warmed (by show T'.heap[b0 + ea]? = _; rw [← hheap]; exact hce) hcat2 tgt (by rw [hmap]; exact hfound)
                have := IH k tgt ls [.ref ea] h1 r h' hk he p l e R s m args below meth c T'.heap (locs ++ L) (cells + (h1.1.1 - h.1.1)) (slots + (h1.1.2 - h.1.2)) C D cA b b0 S htr G hxt hln (by rw [← hheap]; exact hrel) hS2 hl (by omega) (by omega)
                rw [show cells + (h1.1.1 - h.1.1) + (h'.1.1 - h1.1.1) = cells + (h'.1.1 - h.1.1) by omega, show slots + (h1.1.2 - h.1.2) + (h'.1.2 - h1.1.2) = slots + (h'.1.2 - h.1.2) by omega] at this
                obtain ⟨t2, a1, b1⟩ := this (T'.setVm vm') rfl (X'.noted hV)
                refine ⟨t2, hstep _ (fun acts => (hst acts).trans ?_), b1⟩
                rw [ht]
                refine ax_caughtTo (g := F0 m pc C ((st.drop y).map (ax_cv b b0))) (pc := tgt) (vm' := vm') X'.here (fun Q E d acts => ?_) ?_
                · rw [W.findHandler_eq (meth := meth) (code := c) X'.method' X'.code]
                  exact hf Q E d acts
                · have hg : ax_g b b0 ea = b0 + ea := ax_g_lt hlim
                  simpa only [List.map_cons, List.map_nil, ax_cv_ref, hg] using a1
              · -- it goes through
                split at he
                · rename_i hnil
                  cases he
                  have htab : c.exceptionTable.toList = [] := by
                    have := hxt
                    unfold ax_tabl at this
                    rw [hnil] at this
                    exact List.map_eq_nil_iff.mp this
                  obtain ⟨hwalk, g1, g2, g3, g4⟩ := X'.leaveThrown (b0 + ea) (g := F0 m pc C ((st.drop y).map (ax_cv b b0))) rfl rfl rfl (fun x hx => by rw [htab] at hx; cases hx) hlocks
                  refine ⟨_, hstep _ (fun acts => (hst acts).trans (by rw [ht]; exact hwalk)), .threw (b0 + ea), g1, g2, g3, ⟨locs ++ L, g4, hS2.2.2⟩, ?_, ?_, rfl, hlim, hj3, ce, ?_, hcev, ?_, ?_⟩
                  · show ax_rel D cA b b0 S h' T'.heap
                    rw [← hheap]; exact hrel
                  · show ∀ q : Nat, q < s.heap.size → q < b0 → T'.heap[q]? = s.heap[q]?
                    rw [← hheap]
                    exact hold1 hold
                  · show T'.heap[b0 + ea]? = some ce
                    rw [← hheap]; exact hce
                  · show T'.vm.findClass (ax_en ej) = some ce.cls
                    rw [← hvm]; exact hcec
                  · show T'.vm.assignable ce.cls ce.cls = true
                    rw [← hvm]; exact hceS
                · cases he
            · cases he
          · cases he
        · exact ax_endW htr G hxt hrow he hCs hr hS hcl hsl
