/-! an exception that a callee threw, and the handlers of the caller -/
def ax_ci (x : Nat) : Nat := match x with
  | 13 => 0
  | 29 => 1
  | _ => 2
def ax_hq (y : ExceptionTableEntry) : Nat × Nat × Nat × Nat := (y.startPc, y.endPc, y.handlerPc, ax_ci y.catchType)
theorem ax_hd_hx : ∀ k, k < 138 → ax_hd k = (ax_hx k).map (fun q => (q.1, q.2.1, q.2.2.1, ax_ci q.2.2.2)) ∧ (ax_hx k).all (fun q => q.2.2.2 == 13 || q.2.2.2 == 29 || q.2.2.2 == 19) = true ∧ (ax_hx k = [] ∨ ax_ow k = "MakerGuardLaw") := by decide +kernel
theorem ax_catchw : ∀ x, (x = 13 ∨ x = 29 ∨ x = 19) → Cond.classLink "MakerGuardLaw" x (ax_en (ax_ci x)) ∈ lw_tbl ∧ x ≠ 0 ∧ ax_ci x < 3 := by
  intro x hx
  rcases hx with rfl | rfl | rfl
  · exact ⟨List.mem_of_getElem? (i := 299) (by decide +kernel), by decide, by decide⟩
  · exact ⟨List.mem_of_getElem? (i := 446) (by decide +kernel), by decide, by decide⟩
  · exact ⟨List.mem_of_getElem? (i := 400) (by decide +kernel), by decide, by decide⟩
section AxC
variable {E : CtlPost} {e : Env} {d : Bool} {acts : List Action} {s : State} {f : JFrame} {a : Addr} {Q : Handler → Pre}
theorem ax_go_link {S : State} {x : ExceptionTableEntry} {t : List ExceptionTableEntry} {c : ClassId} {cell : Cell} (hx : covers x f.pc = true) (h0 : x.catchType ≠ 0)
    (hl : S.vm.ClassLinks e.platform f.method.cls x.catchType c) (hcell : S.heap[a]? = some cell) (hobj : ∀ k, cell.vm ≠ .statics k) (hk : ∃ k, S.vm.classes[cell.cls]? = some k) (hc : ∃ k, S.vm.classes[c]? = some k) :
    wp (findHandler.go f a (x :: t)) Q E e d acts S ↔ (if S.vm.assignable cell.cls c = true then Q (.found x.handlerPc) d acts (S.setVm (S.vm.noted f.method.cls x.catchType (.cls c))) else wp (findHandler.go f a t) Q E e d acts (S.setVm (S.vm.noted f.method.cls x.catchType (.cls c)))) := by
  simp only [covers] at hx
  obtain ⟨ha, ht⟩ := (resolveClass_links e.toSetting hl).op (op := VmOp.resolveClass f.method.cls x.catchType) rfl
  have hal : S.vm.Alike (S.vm.noted f.method.cls x.catchType (.cls c)) := (Vm.Alike.refl S.vm).noted _ _ _
  obtain ⟨k1, hk1⟩ := hk
  obtain ⟨k2, hk2⟩ := hc
  obtain ⟨k1', hk1', -⟩ := hal.2.2 _ _ hk1
  obtain ⟨k2', hk2', -⟩ := hal.2.2 _ _ hk2
  have hsame : (S.vm.noted f.method.cls x.catchType (.cls c)).assignable cell.cls c = S.vm.assignable cell.cls c := hal.assignable ..
  cases hfit : S.vm.assignable cell.cls c <;> rw [hfit] at hsame <;> simp [findHandler.go, hx, h0, ha, ht, hcell, hobj, hk1', hk2', hsame, VmOp.dirties, VmOp.acts]
theorem ax_find (hpl : e.platform.magicAccessors = ({} : Platform).magicAccessors) (hown : s.vm.findClass "MakerGuardLaw" = some f.method.cls) (htb : ax_tb s) {cell : Cell} {j : Nat} (hj : j < 3) (hobj : ∀ k, cell.vm ≠ .statics k) (hfj : s.vm.findClass (ax_en j) = some cell.cls) (hself : s.vm.assignable cell.cls cell.cls = true) :
    ∀ (hs : List ExceptionTableEntry) (S : State), s.WarmedH S.vm → S.heap[a]? = some cell → (∀ y ∈ hs, y.catchType = 13 ∨ y.catchType = 29 ∨ y.catchType = 19) → ∀ t, ax_hn (hs.map ax_hq) f.pc j = some t →
      ∃ vm', s.WarmedH vm' ∧ ∀ (Q : Handler → Pre) (E : CtlPost) (d : Bool) (acts : List Action), wp (findHandler.go f a hs) Q E e d acts S ↔ Q (.found t) d acts (S.setVm vm') := by
  intro hs
  induction hs with
  | nil => intro S hW hcell hy t ht; cases ht
  | cons y ys ih =>
    intro S hW hcell hy t ht
    rw [List.map_cons] at ht
    unfold ax_hn at ht
    by_cases hcv : covers y f.pc = true
    · obtain ⟨hwd, h0, h3⟩ := ax_catchw y.catchType (hy y List.mem_cons_self)
      have hlk : (Cond.classLink "MakerGuardLaw" y.catchType (ax_en (ax_ci y.catchType))).before #[] s = true := htb.1 _ hwd rfl
      obtain ⟨c', hc', hcl⟩ := Cond.classLink_spec hown hlk e.platform hpl
      obtain ⟨dk, _, _, kt, hd, _, _, _, _, hkt, _, hopen⟩ := hcl.here
      have hclS := hW.classLinks hcl
      have hW' : s.WarmedH (S.vm.noted f.method.cls y.catchType (.cls c')) := hW.noted hd hopen (State.rightAt_cls hcl)
      have hal := hW.alike
      obtain ⟨kt', hkt', -⟩ := hal.2.2 _ _ hkt
      obtain ⟨k0, hk0⟩ := Vm.classAt_of_findClass hfj
      obtain ⟨k0', hk0', -⟩ := hal.2.2 _ _ hk0
      have hcov : y.startPc ≤ f.pc ∧ f.pc < y.endPc := by simpa [covers] using hcv
      by_cases hji : ax_ci y.catchType = j
      · rw [if_pos ⟨hcov.1, hcov.2, hji⟩] at ht
        have ht : y.handlerPc = t := Option.some.inj ht
        have hfit : S.vm.assignable cell.cls c' = true := by
          rw [hji] at hc'
          cases hfj.symm.trans hc'
          rw [hal.assignable]; exact hself
        refine ⟨_, hW', fun Q E d acts => ?_⟩
        rw [ax_go_link hcv h0 hclS hcell hobj ⟨_, hk0'⟩ ⟨_, hkt'⟩, if_pos hfit, ht]
      · rw [if_neg (fun z => hji z.2.2)] at ht
        have hno : S.vm.assignable cell.cls c' = false := by
          obtain ⟨c1, c2, n1, n2, n3⟩ := htb.2.2.2.2 j (ax_ci y.catchType) hj h3 (fun z => hji z.symm)
          cases n1.symm.trans hfj
          cases n2.symm.trans hc'
          rw [hal.assignable]; exact n3
        obtain ⟨vm', hV, hf⟩ := ih (S.setVm (S.vm.noted f.method.cls y.catchType (.cls c'))) hW' hcell (fun z hz => hy z (List.mem_cons_of_mem _ hz)) t ht
        refine ⟨vm', hV, fun Q E d acts => ?_⟩
        rw [ax_go_link hcv h0 hclS hcell hobj ⟨_, hk0'⟩ ⟨_, hkt'⟩, if_neg (by rw [hno]; decide), hf]
        rfl
    · have hcv : covers y f.pc = false := by simpa using hcv
      have hcov : ¬ (y.startPc ≤ f.pc ∧ f.pc < y.endPc) := by
        intro z
        simp [covers, z.1, z.2] at hcv
      rw [if_neg (fun z => hcov ⟨z.1, z.2.1⟩)] at ht
      obtain ⟨vm', hV, hf⟩ := ih S hW hcell (fun z hz => hy z (List.mem_cons_of_mem _ hz)) t ht
      refine ⟨vm', hV, fun Q E d acts => ?_⟩
      rw [W.findHandler_go_skip hcv]
      exact hf Q E d acts
theorem ax_caughtTo {tb : Tables} {S target : State} {g : JFrame} {c : Code} {below : List Frame} (h : At S g.method c below) {pc : Nat} {vm' : Vm}
    (hfind : ∀ (Q : Handler → Pre) (E : CtlPost) (d : Bool) (acts : List Action), wp (findHandler g a) Q E e d acts ((S.setTop g).pushFrame (.throwing a)) ↔ Q (.found pc) d acts (((S.setTop g).pushFrame (.throwing a)).setVm vm')) (hrest : Steps tb e below ((S.setVm vm').setTop { g with pc := pc, stack := [.ref a] }) target) :
    Steps tb e below ((S.setTop g).pushFrame (.throwing a)) target := by
  obtain ⟨hgo, hw⟩ := h.throwing a
  refine Steps.head hgo hw ?_
  have hst : (stepThrowing e ((S.setTop g).pushFrame (.throwing a)) a (.java g :: S.frames.tail)).Is ((((S.setTop g).pushFrame (.throwing a)).setVm vm').setFrames (.java { g with pc := pc, stack := [.ref a] } :: S.frames.tail)) [] := by
    simp only [stepThrowing, searchFrame, vmDo]
    generalize hr : Sem.go _ e false [] ((S.setTop g).pushFrame (.throwing a)) = res
    obtain ⟨as, rfl, ha⟩ := Sem.eq_ok_of hr (a := Handler.found pc) (s' := ((S.setTop g).pushFrame (.throwing a)).setVm vm') (acts' := []) (by simp [hfind _ _ _ _])
    exact ⟨rfl, ha⟩
  rw [stepThread_throwing (frames_entered h.top _), hst.1]
  obtain ⟨g₀, hg⟩ := Option.isSome_iff_exists.mp h.top
  obtain ⟨r, hr⟩ := State.topJava?_eq_some.mp hg
  have hr' : (S.setVm vm').frames = .java g₀ :: r := hr
  have e1 : ∀ (u : State) (F G : List Frame), ((u.setFrames F).setVm vm').setFrames G = (u.setVm vm').setFrames G := fun u F G => by
    have h1 : (u.setFrames F).setVm vm' = (u.setVm vm').setFrames F := rfl
    rw [h1, State.setFrames_setFrames]
  rw [State.setTop_of_frames _ hr'] at hrest
  rw [hr, List.tail_cons, State.pushFrame, e1, State.setTop_of_frames _ hr, e1]
  exact hrest
end AxC
