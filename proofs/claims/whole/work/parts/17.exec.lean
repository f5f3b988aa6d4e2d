/-! THE ABSTRACT RUN: a method's answer (.inl: what it returns; .inr (a, j): the exception a of kind j that it throws) and the heap behind it -/
abbrev ax_O : Type := Option Value ⊕ (Nat × Nat)
def ax_hn (hs : List (Nat × Nat × Nat × Nat)) (pc j : Nat) : Option Nat := match hs with
  | [] => none
  | q :: r => if q.1 ≤ pc ∧ pc < q.2.1 ∧ q.2.2.2 = j then some q.2.2.1 else ax_hn r pc j
def ax_entry (x : Nat) (As : List Value) : ax_L := As.map some ++ List.replicate (ax_ml x - As.length) none
/-- may these be the arguments of a call: the receiver's class, and the weight of what stays on the stack -/
def ax_ca (op x : Nat) (As rest : List Value) (h : ax_H) : Bool := decide (As.all (fun v => v.category == 1) = true ∧ (rest.map fun v => v.category).sum ≤ 8) && (if op < 42 then true else match As with
  | .ref a :: _ => decide (op ≠ 42 ∨ (a < h.1.1 ∧ (h.2.1 a).1 = ax_wn x + 1 ∧ ax_wn x < 9 ∧ ax_nm x ≠ "<init>"))
  | _ => false)
def ax_e50 (k : Nat) (st : List Value) (h : ax_H) : Option (ax_O × ax_H) := match st with
  | [.int a] => if ax_rt k = some .int ∨ a = 0 ∨ a = 1 then some (.inl (some (.int a)), h) else none
  | _ => none
def ax_e51 (st : List Value) (h : ax_H) : Option (ax_O × ax_H) := match st with
  | [] => some (.inl none, h)
  | _ => none
def ax_e52 (st : List Value) (h : ax_H) : Option (ax_O × ax_H) := match st with
  | [.ref a] => some (.inl (some (.ref a)), h)
  | _ => none
def ax_e53 (x : Nat) (st : List Value) (h : ax_H) : Option (ax_O × ax_H) := match st with
  | [] => if h.1.1 < 900000000 then some (.inr (h.1.1, x), ((h.1.1 + 1, h.1.2 + 6), ax_sh h.2.1 h.1.1 (0, 0), h.2.2)) else none
  | _ => none
def ax_end (k op x : Nat) (st : List Value) (h : ax_H) : Option (ax_O × ax_H) := match op with
  | 50 => ax_e50 k st h
  | 51 => ax_e51 st h
  | 52 => ax_e52 st h
  | 53 => ax_e53 x st h
  | _ => none
def ax_exec : Nat → Nat → Nat → ax_L → List Value → ax_H → Option (ax_O × ax_H)
  | 0, _, _, _, _, _ => none
  | n + 1, k, pc, ls, st, h => match ax_code k pc with
    | none => none
    | some r => if r.1 < 40 then match ax_step k pc r ls st h with
        | some z => ax_exec n k z.1 z.2.1 z.2.2.1 z.2.2.2
        | none => none
      else if r.1 < 50 then (if r.2.2.2.1 ≤ st.length ∧ ax_ca r.1 r.2.2.1 (st.take r.2.2.2.1).reverse (st.drop r.2.2.2.1) h = true then match ax_exec n r.2.2.1 0 (ax_entry r.2.2.1 (st.take r.2.2.2.1).reverse) [] h with
          | some (.inl w, h1) => ax_exec n k (pc + 3) ls (w.toList ++ st.drop r.2.2.2.1) h1
          | some (.inr q, h1) => match ax_hn (ax_hd k) pc q.2 with
            | some t => ax_exec n k t ls [.ref q.1] h1
            | none => if ax_hx k = [] then some (.inr q, h1) else none
          | none => none
        else none)
      else ax_end k r.1 r.2.2.1 st h
theorem ax_end_mono {k op x : Nat} {st : List Value} {h h' : ax_H} {r : ax_O} (he : ax_end k op x st h = some (r, h')) : h.1.1 ≤ h'.1.1 ∧ h.1.2 ≤ h'.1.2 := by
  unfold ax_end at he
  split at he
  all_goals (try unfold ax_e50 at he) <;> (try unfold ax_e51 at he) <;> (try unfold ax_e52 at he) <;> (try unfold ax_e53 at he)
  all_goals (repeat' split at he)
  all_goals first
    | (cases he; done)
    | (cases he; exact ⟨Nat.le_refl _, Nat.le_refl _⟩)
    | (cases he; exact ⟨Nat.le_succ _, Nat.le_add_right _ _⟩)
theorem ax_exec_mono : ∀ (n k pc : Nat) (ls : ax_L) (st : List Value) (h h' : ax_H) (r : ax_O), ax_exec n k pc ls st h = some (r, h') → h.1.1 ≤ h'.1.1 ∧ h.1.2 ≤ h'.1.2 := by
  intro n
  induction n with
  | zero => intro k pc ls st h h' r he; cases he
  | succ n ih =>
    intro k pc ls st h h' r he
    unfold ax_exec at he
    split at he
    · cases he
    · split at he
      · split at he
        · rename_i z hz
          obtain ⟨z1, z2, z3, z4⟩ := z
          obtain ⟨-, a1, a2⟩ := ax_step_mono hz
          obtain ⟨b1, b2⟩ := ih _ _ _ _ _ _ _ he
          exact ⟨Nat.le_trans a1 b1, Nat.le_trans a2 b2⟩
        · cases he
      · split at he
        · split at he
          · split at he
            · rename_i hc
              obtain ⟨a1, a2⟩ := ih _ _ _ _ _ _ _ hc
              obtain ⟨b1, b2⟩ := ih _ _ _ _ _ _ _ he
              exact ⟨Nat.le_trans a1 b1, Nat.le_trans a2 b2⟩
            · rename_i hc
              obtain ⟨a1, a2⟩ := ih _ _ _ _ _ _ _ hc
              split at he
              · obtain ⟨b1, b2⟩ := ih _ _ _ _ _ _ _ he
                exact ⟨Nat.le_trans a1 b1, Nat.le_trans a2 b2⟩
              · split at he
                · cases he
                  exact ⟨a1, a2⟩
                · cases he
            · cases he
          · cases he
        · exact ax_end_mono he
/-- how a run ends, as the machine has it -/
def ax_oc (b b0 : Nat) (r : ax_O) (o : Outcome) (t : State) : Prop := match r with
  | .inl w => o = .returned (w.map (ax_cv b b0))
  | .inr q => o = .threw (b0 + q.1) ∧ q.1 < 1000000000 ∧ q.2 < 3 ∧ ∃ ce : Cell, t.heap[b0 + q.1]? = some ce ∧ ce.vm = .none ∧ t.vm.findClass (ax_en q.2) = some ce.cls ∧ t.vm.assignable ce.cls ce.cls = true
def ax_Z (D : va_G) (cA : Nat → ClassId) (b b0 : Nat) (S : (Nat × Nat) × (Nat → Int32)) (below : List Frame) (s : State) (r : ax_O) (h' : ax_H) (kc ks : Nat) : State → Prop := fun t =>
  ∃ o, t.status = .running ∧ Ended t below o ∧ s.WarmedH t.vm ∧ (∃ L, s.sameButNew ({ t with vm := s.vm } : State) L kc ks ∧ ∀ q ∈ L, b0 ≤ q.base) ∧ ax_rel D cA b b0 S h' t.heap ∧ (∀ q : Nat, q < s.heap.size → q < b0 → t.heap[q]? = s.heap[q]?) ∧ ax_oc b b0 r o t
/-- the table of handlers that the machine has -/
def ax_tabl (k : Nat) (c : Code) : Prop := c.exceptionTable.toList.map (fun h => (h.startPc, h.endPc, h.handlerPc, h.catchType)) = ax_hx k
/-- every abstract run of n steps is a run of the machine -/
def ax_P (n : Nat) : Prop := ∀ (k pc : Nat) (ls : ax_L) (st : List Value) (h : ax_H) (r : ax_O) (h' : ax_H), k < 138 → ax_exec n k pc ls st h = some (r, h') →
  ∀ (p : Program) (l : Launch) (e : Env) (R : Room) (s : State) (m : MethodId) (args : Array Value) (below : List Frame) (meth : Method) (c : Code) (H : Heap) (locs : List Loc) (cells slots : Nat) (C : Array Slot) (D : va_G) (cA : Nat → ClassId) (b b0 : Nat) (S : (Nat × Nat) × (Nat → Int32)),
    e.platform.stackTraces = false → ax_cx D cA b b0 S k p R s m meth c → ax_tabl k c → ls.length = ax_ml k → ax_rel D cA b b0 S h H → va_S (fun q => b0 ≤ q) s.heap H locs → ax_lv b b0 ls C →
    cells + (h'.1.1 - h.1.1) ≤ R.cells → slots + (h'.1.2 - h.1.2) ≤ R.slots →
    W p l e R s m args below meth c H locs cells slots (ax_Z D cA b b0 S below s r h' (cells + (h'.1.1 - h.1.1)) (slots + (h'.1.2 - h.1.2))) (F0 m pc C (st.map (ax_cv b b0)))
theorem ax_cw_on (k : Nat) : (ax_cw k).onTables = true := by
  unfold ax_cw
  split <;> rfl
theorem ax_cw_spec {k : Nat} {s : State} {A : Array Value} {mk : MethodId} (hn : s.methodNamed? (ax_md k) = some mk) (hw : (ax_cw k).before A s = true) : ∃ (meth : Method) (c : Code), s.vm.method? mk = some meth ∧ meth.code = some c ∧ c.code = ax_by k ∧ c.maxLocals = ax_ml k ∧ meth.sig.returnType = ax_rt k ∧ meth.locks = false ∧ ax_tabl k c ∧ parseMethodDescriptor (ax_ds k) = some meth.sig := by
  unfold ax_cw at hw
  split at hw
  · rename_i e
    obtain ⟨meth, c, h1, h2, h3, h4, h5, h6, h7, h8⟩ := Cond.code_spec hn hw
    refine ⟨meth, c, h1, h2, h3, h4, h5, h6, ?_, h8⟩
    unfold ax_tabl
    have h0 : c.exceptionTable.size = 0 := by simpa [Array.isEmpty] using h7
    have h9 : c.exceptionTable.toList = [] := List.eq_nil_of_length_eq_zero (by simpa using h0)
    rw [h9, e]; rfl
  · obtain ⟨m9, meth, c, hn9, h1, h2, h3, h4, h5, h6, h7, h8⟩ := Cond.codeWith_spec hw
    cases hn.symm.trans hn9
    exact ⟨meth, c, h1, h2, h3, h4, h6, h7, h5, h8⟩
theorem ax_cw_named {k : Nat} {s : State} {A : Array Value} (hw : (ax_cw k).before A s = true) : ∃ mk, s.methodNamed? (ax_md k) = some mk := by
  unfold ax_cw at hw
  split at hw
  · exact Cond.code_named hw
  · obtain ⟨m9, meth, c, hn9, -⟩ := Cond.codeWith_spec hw
    exact ⟨m9, hn9⟩
theorem ax_sl_one {As : List Value} (h : As.all (fun v => v.category == 1) = true) : lg_sl As = As.map Slot.val := by
  induction As with
  | nil => rfl
  | cons v r ih =>
    rw [List.all_cons, Bool.and_eq_true, beq_iff_eq] at h
    have ih := ih h.2
    unfold lg_sl at ih ⊢
    rw [List.flatMap_cons, ih, if_neg (by omega)]
    rfl
theorem ax_lv_entry {b b0 x : Nat} {As : List Value} (hc : As.all (fun v => v.category == 1) = true) (hlen : As.length ≤ ax_ml x) : ax_lv b b0 (ax_entry x As) ((lg_sl (As.map (ax_cv b b0)) ++ List.replicate (ax_ml x - (lg_sl (As.map (ax_cv b b0))).length) Slot.unset).toArray) := by
  have hc2 : (As.map (ax_cv b b0)).all (fun v => v.category == 1) = true := by
    rw [List.all_map]
    have : ((fun v : Value => v.category == 1) ∘ ax_cv b b0) = (fun v : Value => v.category == 1) := by funext v; simp [ax_cv_cat]
    rw [this]; exact hc
  have hsl := ax_sl_one hc2
  have hE := lv_entry (As.map (ax_cv b b0)) (n := ax_ml x) (by rw [hsl]; simpa using hlen)
  refine ⟨?_, hE.2.1, fun i v hi => ?_⟩
  · rw [hE.1]; simp [ax_entry]; omega
  · unfold ax_entry at hi
    by_cases hl : i < As.length
    · rw [List.getElem?_append_left (by simpa using hl), List.getElem?_map, List.getElem?_eq_getElem hl] at hi
      have hv : As[i] = v := by simpa using hi
      have hcat : v.category = 1 := by
        have := List.all_eq_true.mp hc v (by rw [← hv]; exact List.getElem_mem hl)
        simpa using this
      refine ⟨hcat, ?_⟩
      rw [hsl]
      simp only [List.getElem?_toArray]
      rw [List.getElem?_append_left (by simpa using hl), List.getElem?_map, List.getElem?_map, List.getElem?_eq_getElem hl, hv]
      rfl
    · rw [List.getElem?_append_right (by simpa using Nat.not_lt.mp hl)] at hi
      have := List.eq_of_mem_replicate (List.mem_of_getElem? hi)
      cases this
section AxE
variable {p : Program} {l : Launch} {e : Env} {R : Room} {s : State} {m : MethodId} {args : Array Value} {below : List Frame} {meth : Method} {c : Code} {locs : List Loc} {cells slots : Nat}
variable {b b0 : Nat} {h h' : ax_H} {D : va_G} {cA : Nat → ClassId} {S : (Nat × Nat) × (Nat → Int32)}
theorem ax_enter {n x : Nat} (IH : ax_P n) (hx0 : 0 < x) (hx1 : x < 138) {T : State} (X : Stand p l e R s m args below meth c T locs cells slots) (htr : e.platform.stackTraces = false) (hexec : p.tables.exec = Jvm.exec) (htb : ax_tb s) (hK : ax_K D cA s) (hsz : ax_sz b0 s) (hS : va_S (fun q => b0 ≤ q) s.heap T.heap locs) (hb0 : b0 ≤ s.heap.size)
    {g : JFrame} (hg : g.method = m) (hsize : g.locals.size = c.maxLocals) {ig : Instr} (hdg : decode c.code g.pc = .ok (ig, 3)) {mk : MethodId} (hn : s.methodNamed? (ax_md x) = some mk) {As : List Value} (hcat : As.all (fun v => v.category == 1) = true) (hlen : As.length ≤ ax_ml x) (hr : ax_rel D cA b b0 S h T.heap) {r : ax_O} (he : ax_exec n x 0 (ax_entry x As) [] h = some (r, h'))
    (hfr : ax_fr x + 1 ≤ R.frames) (hlo : 2 * g.monitorRoom + (g.stack.map fun v => v.category).sum + (ax_ml x + 11) + ax_lo x ≤ R.locals) (hcl : cells + (h'.1.1 - h.1.1) ≤ R.cells) (hsl : slots + (h'.1.2 - h.1.2) ≤ R.slots) :
    ∃ t : State, (∀ acts, Steps p.tables e below (doInvoke e (T.setTop g) acts mk (As.map (ax_cv b b0)).toArray).1 t) ∧ ax_Z D cA b b0 S (.java g :: below) (T.calling g mk (As.map (ax_cv b b0)).toArray) r h' (h'.1.1 - h.1.1) (h'.1.2 - h.1.2) t := by
  obtain ⟨methk, ck, k1, k2, k3, k4, k5, k6, k7, k8⟩ := ax_cw_spec hn (htb.1 _ (ax_cw_in x hx0 hx1) (ax_cw_on x))
  obtain ⟨-, -, -, dp, -, -⟩ := ax_dn x hx0 hx1
  have hal : s.vm.Alike T.vm := X.warmed.alike
  have hmk : T.vm.method? mk = some methk := by rw [hal.method?]; exact k1
  have hnT : T.methodNamed? (ax_md x) = some mk := X.named hn
  have hpk : T.plainMethod mk := State.plainMethod.of_named dp hnT hmk
  obtain ⟨Y, hin⟩ := X.into hg hsize hdg (As.map (ax_cv b b0)).toArray (R' := { frames := ax_fr x, cells := h'.1.1 - h.1.1, slots := h'.1.2 - h.1.2, locals := ax_lo x }) hmk k2 k6 hpk hfr (by rw [k4]; exact hlo) hcl hsl
  have hW : s.WarmedH (T.calling g mk (As.map (ax_cv b b0)).toArray).vm := X.warmed
  have hheap : (T.calling g mk (As.map (ax_cv b b0)).toArray).heap = T.heap := rfl
  have hvm : (T.calling g mk (As.map (ax_cv b b0)).toArray).vm = T.vm := rfl
  have ctx : ax_cx D cA b b0 S x p { frames := ax_fr x, cells := h'.1.1 - h.1.1, slots := h'.1.2 - h.1.2, locals := ax_lo x } (T.calling g mk (As.map (ax_cv b b0)).toArray) mk methk ck := by
    exact ⟨hexec, k3, k4, findClass_of_methodNamed hnT, fun z => (name_of_methodNamed hnT hmk).1.trans z, k5, k6, ax_tb_warm hW htb, ax_K_moved hW.alike hK, ax_sz_kept hW.alike (fun q h1 h2 => hS.2.1 q h1 (Nat.not_le.mpr h2)) hsz, fun z => absurd z (by omega), Nat.le_refl _, Nat.le_refl _, Nat.le_trans hb0 hS.1⟩
  have hWk := IH x 0 (ax_entry x As) [] h r h' hx1 he p l e _ (T.calling g mk (As.map (ax_cv b b0)).toArray) mk (As.map (ax_cv b b0)).toArray (.java g :: below) methk ck T.heap [] 0 0 _ D cA b b0 S htr ctx k7 (by simp [ax_entry]; omega) hr va_S.rf (ax_lv_entry (x := x) hcat hlen) (by show 0 + _ ≤ h'.1.1 - h.1.1; omega) (by show 0 + _ ≤ h'.1.2 - h.1.2; omega)
  obtain ⟨t, st, hz⟩ := hWk ((T.setTop g).pushFrame (.java (entryFrame mk (As.map (ax_cv b b0)).toArray ck.maxLocals))) rfl Y
  refine ⟨t, fun acts => ?_, by simpa only [Nat.zero_add] using hz⟩
  rw [hin acts, k4]
  refine Steps.weaken (mid := [.java g]) ?_
  rw [lg_entry_eq]
  rw [k4, lg_entry_eq] at st
  exact st
end AxE
