/-! a new exception with a written text, thrown where no handler is -/
def ax_tA : List Cond := Bundle.throwableAtoms ++ (Bundle.throwableSAtoms ++ Bundle.chainSAtoms "java/lang/RuntimeException" ["java/lang/Exception"])
theorem ax_tA_on : ax_tA.filter (fun w => w.onTables) = [55, 332, 341, 345, 348, 350, 333, 334, 70, 71, 335, 340, 346, 366, 322, 367, 324, 368, 326, 336, 338, 328, 362, 363, 365, 328, 356, 357, 358, 359, 316, 359, 360, 361, 362, 318].filterMap (fun i => lw_tbl[i]?) := by decide +kernel
theorem ax_tA_off : ax_tA.filter (fun w => !w.onTables) = [.laysStatic "java/lang/Throwable" "UNASSIGNED_STACK" "[Ljava/lang/StackTraceElement;", .laysStatic "java/lang/Throwable" "SUPPRESSED_SENTINEL" "Ljava/util/List;"] := by decide +kernel
/-- the entry and the bytes of the exception's own constructor -/
def ax_ex (j : Nat) : Nat := match j with
  | 0 => 13
  | _ => 7
def ax_eb (j : Nat) : ByteArray := match j with
  | 0 => prog_20_method_4_code
  | 1 => prog_12_method_2_code
  | _ => prog_13_method_2_code
def ax_eA (j : Nat) : List Cond := Bundle.passSAtoms (ax_en j) "java/lang/RuntimeException" (ax_ex j) (ax_eb j) ++ [.methodLink "MakerGuard" (ax_tx j).2.2 (Bundle.initS (ax_en j)), .instantiable (ax_en j) 6, .castable (ax_en j) (ax_en j), .selects (ax_en j) Bundle.tFill0 Bundle.tFill0, .selects (ax_en j) Bundle.tFill Bundle.tFill,
   .lays (ax_en j) Bundle.tN "cause" "Ljava/lang/Throwable;", .lays (ax_en j) Bundle.tN "stackTrace" Bundle.steD, .lays (ax_en j) Bundle.tN "suppressedExceptions" Bundle.listD, .lays (ax_en j) Bundle.tN "detailMessage" "Ljava/lang/String;",
   .fieldLink Bundle.tN 198 Bundle.tN "backtrace" "Ljava/lang/Object;", .lays Bundle.tN Bundle.tN "backtrace" "Ljava/lang/Object;", .lays (ax_en j) Bundle.tN "backtrace" "Ljava/lang/Object;", .initialized (ax_en j), .classLink "MakerGuard" (ax_tx j).1 (ax_en j)]
theorem ax_eA_0 : ax_eA 0 = [353, 354, 355, 356, 314, 352, 311, 312, 319, 320, 321, 323, 325, 327, 331, 330, 329, 58, 310].filterMap (fun i => lw_tbl[i]?) := by decide +kernel
theorem ax_eA_1 : ax_eA 1 = [465, 466, 467, 356, 314, 464, 455, 456, 457, 343, 458, 459, 460, 461, 331, 330, 462, 62, 454].filterMap (fun i => lw_tbl[i]?) := by decide +kernel
theorem ax_eA_2 : ax_eA 2 = [419, 420, 421, 356, 314, 418, 409, 410, 411, 344, 412, 413, 414, 415, 331, 330, 416, 60, 408].filterMap (fun i => lw_tbl[i]?) := by decide +kernel
theorem ax_eA_in {j : Nat} (hj : j < 3) : ∀ w ∈ ax_eA j, w ∈ lw_tbl ∧ w.onTables = true := by
  intro w hw
  refine ⟨?_, ?_⟩
  · match j, hj with
    | 0, _ => exact ax_mem_r _ _ ax_eA_0 w hw
    | 1, _ => exact ax_mem_r _ _ ax_eA_1 w hw
    | 2, _ => exact ax_mem_r _ _ ax_eA_2 w hw
    | n + 3, h => exact absurd h (by omega)
  · have : (ax_eA j).all (fun w => w.onTables) = true := rfl
    exact List.all_eq_true.mp this w hw
theorem ax_eb_d : ∀ j, j < 3 → decode (ax_eb j) 0 = .ok (.aload_n 0, 1) ∧ decode (ax_eb j) 1 = .ok (.aload_n 1, 1) ∧ decode (ax_eb j) 2 = .ok (.invokespecial (ax_ex j), 3) ∧ decode (ax_eb j) 5 = .ok (.return_, 1) ∧ Bundle.fit (ax_en j) = true := by decide +kernel
section AxT
variable {p : Program} {l : Launch} {e : Env} {R : Room} {s : State} {m : MethodId} {args : Array Value} {below : List Frame} {meth : Method} {c : Code} {H : Heap} {locs : List Loc} {cells slots : Nat} {Q : State → Prop}
variable {cc : ByteArray} {pc b0 : Nat} {C : Array Slot}
theorem ax_tA_all (htb : ax_tb s) (hsz : ax_sz b0 s) : ∀ w ∈ ax_tA, w.before args s = true := by
  intro w hw
  by_cases ho : w.onTables = true
  · have h1 : w ∈ ax_tA.filter (fun w => w.onTables) := List.mem_filter.mpr ⟨hw, ho⟩
    exact va_tabs ho rfl (htb.1 w (ax_mem_r _ _ ax_tA_on w h1) ho)
  · have h1 : w ∈ ax_tA.filter (fun w => !w.onTables) := List.mem_filter.mpr ⟨hw, by simpa using ho⟩
    rw [ax_tA_off] at h1
    simp only [List.mem_cons, List.not_mem_nil, or_false] at h1
    rcases h1 with rfl | rfl
    · exact hsz.1.2
    · exact hsz.2.2
set_option maxHeartbeats 1000000 in
theorem ax_thrW (hexec : p.tables.exec = Jvm.exec) (hb : c.code = cc) (htr : e.platform.stackTraces = false) (hown : s.vm.findClass "MakerGuard" = some m.cls) (htb : ax_tb s) (hsz : ax_sz b0 s) (hlocks : meth.locks = false) (hnoh : c.exceptionTable.toList = []) (hml : C.size = c.maxLocals) (hfr : 6 ≤ R.frames) (hlo : 100 ≤ R.locals) {j : Nat} (hj : j < 3) {q sa : Nat} {cX : ClassId} {kX : Class} (hfX : s.vm.findClass (ax_en j) = some cX) (hkX : s.vm.classes[cX]? = some kX) (hcell : H[q]? = some (freshCell cX kX)) (hnew : s.heap.size ≤ q) (hS : va_S (fun q => b0 ≤ q) s.heap H locs)
    (d6 : decode cc pc = .ok (.invokespecial (ax_tx j).2.2, 3)) (d9 : decode cc (pc + 3) = .ok (.athrow, 1))
    (fin : ∀ (t : State) (L : List Loc), t.status = .running → Ended t below (.threw q) → s.WarmedH t.vm → s.sameButNew ({ t with vm := s.vm } : State) (locs ++ L) cells slots → (∀ x ∈ L, x.base = q) → t.heap.size = H.size → (∀ a : Nat, a ≠ q → t.heap[a]? = H[a]?) → (∃ ce : Cell, t.heap[q]? = some ce ∧ ce.vm = .none ∧ ce.cls = cX) → s.vm.assignable cX cX = true → Q t) :
    W p l e R s m args below meth c H locs cells slots Q (F0 m pc C [.ref sa, .ref q, .ref q]) := by
  intro T0 hT X
  have hA := ax_tA_all (args := args) htb hsz
  have hE : ∀ w ∈ ax_eA j, w.before args s = true := fun w hw => va_tabs (ax_eA_in hj w hw).2 rfl (htb.1 w (ax_eA_in hj w hw).1 (ax_eA_in hj w hw).2)
  obtain ⟨e0, e1, e2, e5, efit⟩ := ax_eb_d j hj
  have howns : e.platform.frameOwnsMonitors = true := by rw [X.admits.platform]
  have hfin : e.platform.finalization = false := by rw [X.admits.platform]
  have hpl : e.platform.magicAccessors = ({} : Platform).magicAccessors := by rw [X.admits.platform]
  obtain ⟨T, Z0, L, -, Y⟩ := ThrowableC.of_atoms (args := args) howns hfin hpl (fun x hx => hA x (by simp [ax_tA, hx]))
  obtain ⟨Z, M, LZ, LM, hnZ⟩ := Init0T.ofS_atoms (args := args) hpl L Y (fun x hx => hA x (by simp [ax_tA, hx]))
  obtain ⟨P1, L1, hP1m, hP1s⟩ := PassC.ofS_atoms (args := args) (s := s) hpl (X := ax_en j) (Y := "java/lang/RuntimeException") (Bundle.fit_spec efit).1 (by decide) e0 e1 e2 e5 (fun x hx => hE x (by simp [ax_eA, hx]))
  obtain ⟨P2, Ps, hlen, L2, hL, hP2m, hlink2, hlink⟩ := Bundle.chainS (args := args) hpl hnZ ["java/lang/Exception"] "java/lang/RuntimeException" (by decide) (by decide) (fun x hx => hA x (by simp [ax_tA, hx]))
  have h12 : P1.sup = P2.m := Option.some.inj (hP1s.symm.trans hP2m)
  have hfound : s.vm.findClass (ax_en j) = some P1.m.cls := findClass_of_methodNamed hP1m
  cases Option.some.inj (hfX.symm.trans hfound)
  obtain ⟨c1, kX', hc1, hk, hord, -, -, hn6⟩ := Cond.instantiable_spec (hE (.instantiable (ax_en j) 6) (by simp [ax_eA]))
  cases Option.some.inj (hc1.symm.trans hfound)
  cases Option.some.inj (hkX.symm.trans hk)
  have hsel0 : selectMethod e.platform s.vm P1.m.cls T.fill0 = .method T.fill0 := by
    obtain ⟨c2, r2, m2, q1, q2, q3, q4, -⟩ := Cond.selects_spec (hE (.selects (ax_en j) Bundle.tFill0 Bundle.tFill0) (by simp [ax_eA]))
    cases Option.some.inj (q1.symm.trans hfound)
    cases Option.some.inj (q2.symm.trans (State.methodFound?_of_named Y.fill0 (by decide)))
    cases Option.some.inj (q3.symm.trans Y.fill0)
    rw [Launch.admits_selectMethod X.admits]; exact q4
  have hselF : selectMethod e.platform s.vm P1.m.cls T.fill = .method T.fill := by
    obtain ⟨c2, r2, m2, q1, q2, q3, q4, -⟩ := Cond.selects_spec (hE (.selects (ax_en j) Bundle.tFill Bundle.tFill) (by simp [ax_eA]))
    cases Option.some.inj (q1.symm.trans hfound)
    cases Option.some.inj (q2.symm.trans (State.methodFound?_of_named Y.fill (by decide)))
    cases Option.some.inj (q3.symm.trans Y.fill)
    rw [Launch.admits_selectMethod X.admits]; exact q4
  obtain ⟨cellS, hcS, hiss⟩ := Y.statics
  obtain ⟨u0, hu0⟩ := Cond.staticRefV Y.unassigned L.unassignedStatic L.statics hcS hiss (ax_s1z_ref (A := args) hsz.1)
  obtain ⟨sen, hsen⟩ := Cond.staticRefV Y.sentinel L.sentinelStatic L.statics hcS hiss (ax_s1z_ref (A := args) hsz.2)
  have haS : T.aS < b0 := by
    have hz : ∃ v, va_Z Bundle.tN "UNASSIGNED_STACK" Bundle.steD v (fun q => b0 ≤ q) s s.heap := by
      rcases hsz.1.1 with z | ⟨t, z⟩
      · exact ⟨_, z⟩
      · exact ⟨_, z⟩
    obtain ⟨v, cf, kf, fi, f, a, cell, z1, z2, z3, z4, z5, z6, z7, z8⟩ := hz
    cases z1.symm.trans Y.unassigned
    cases z4.symm.trans L.statics
    exact Nat.not_le.mp z8
  have hlS : T.aS < s.heap.size := (Array.getElem?_eq_some_iff.mp hcS).1
  have hcellS : T0.heap[T.aS]? = some cellS := by rw [hT, hS.2.1 _ hlS (Nat.not_le.mpr haS)]; exact hcS
  have hknownS : cellS.vm ≠ .unknown := by
    intro hu
    rw [hu] at hiss
    cases hiss
  have hneS : T.aS ≠ q := Nat.ne_of_lt (Nat.lt_of_lt_of_le hlS hnew)
  obtain ⟨ci198, i198, fB, hk198, hg198, ha198, hsB, -, hnB, htB, hffB⟩ := Cond.ownField (t := .object "java/lang/Object") Y.found L.cls (by decide +kernel) (hE (.fieldLink Bundle.tN 198 Bundle.tN "backtrace" "Ljava/lang/Object;") (by simp [ax_eA])) (hE (.lays Bundle.tN Bundle.tN "backtrace" "Ljava/lang/Object;") (by simp [ax_eA])) e.platform hpl
  obtain ⟨iM, hffM⟩ := Y.msg
  obtain ⟨tyC, dC, hdC, hdnC⟩ := Cond.laysAt hfound hk Y.cause (hE (.lays (ax_en j) Bundle.tN "cause" "Ljava/lang/Throwable;") (by simp [ax_eA]))
  obtain ⟨tyS, dS, hdS, hdnS⟩ := Cond.laysAt hfound hk Y.stack (hE (.lays (ax_en j) Bundle.tN "stackTrace" Bundle.steD) (by simp [ax_eA]))
  obtain ⟨tyP, dP, hdP, hdnP⟩ := Cond.laysAt hfound hk Y.supp (hE (.lays (ax_en j) Bundle.tN "suppressedExceptions" Bundle.listD) (by simp [ax_eA]))
  obtain ⟨tyM, dM, hdM, hdnM⟩ := Cond.laysAt hfound hk hffM (hE (.lays (ax_en j) Bundle.tN "detailMessage" "Ljava/lang/String;") (by simp [ax_eA]))
  obtain ⟨tyB, dB, hdB, hdnB⟩ := Cond.laysAt hfound hk hffB (hE (.lays (ax_en j) Bundle.tN "backtrace" "Ljava/lang/Object;") (by simp [ax_eA]))
  have bC := Cond.laysApart hdB hdC hdnB hdnC (by rw [hnB, Y.causeName]; decide)
  have bS := Cond.laysApart hdB hdS hdnB hdnS (by rw [hnB, Y.stackName]; decide)
  have bP := Cond.laysApart hdB hdP hdnB hdnP (by rw [hnB, Y.suppName]; decide)
  have hskip : SkipFacts T e.platform s (fun u => u) u0 ((preparedCellV T.toThrowableT (freshCell P1.m.cls kX) q u0 sen).withEntry T0.cur) :=
    ⟨{ ci198 := ci198, i198 := i198, fBack := fB }, ⟨hk198, hg198, ha198, hsB⟩, by
      have := fresh_default (c := P1.m.cls) tyB
      rw [htB] at this
      simpa [preparedCellV, Cell.setSlot, Cell.withEntry, Array.getElem?_setIfInBounds, bC, bS, bP, bC.symm, bS.symm, bP.symm, defaultValue] using this, fun _ _ => rfl⟩
  have hcellT : T0.heap[q]? = some (freshCell P1.m.cls kX) := by rw [hT]; exact hcell
  obtain ⟨tm, methC, cdC, kC, vm₁, hnC, -, -, -, -, -, -, -, hW₁, st1⟩ := Steps.initColdS (tb := p.tables) (e := e) (below := below) (s := s) (U := T0) X.here hexec X.warmed hpl hown (t := Bundle.initS (ax_en j)) rfl rfl (Bundle.fit_spec efit).2
    (hE (.methodLink "MakerGuard" (ax_tx j).2.2 (Bundle.initS (ax_en j))) (by simp [ax_eA])) (hE (.instanceMethod (Bundle.initS (ax_en j))) (by simp [ax_eA, Bundle.passSAtoms])) (bytes := ax_eb j) (maxL := 2) (hE (.code (Bundle.initS (ax_en j)) (ax_eb j) 2 none) (by simp [ax_eA, Bundle.passSAtoms]))
    (f := F0 m pc C [.ref sa, .ref q, .ref q]) rfl (a := q) (msg := .ref sa) (rest := [.ref q]) rfl (by rw [hb]; exact d6)
  cases Option.some.inj (hnC.symm.trans hP1m)
  have X₁ := X.noted hW₁
  obtain ⟨vm₂, X₂, st2⟩ := X₁.ctorMessageOffV hexec (g := F0 m pc C [.ref q]) rfl hml T L Z LZ M LM (P1 :: P2 :: Ps)
    (fun P hP => by
      rcases List.mem_cons.mp hP with rfl | hP
      · exact L1
      · rcases List.mem_cons.mp hP with rfl | hP
        · exact L2
        · exact hL P hP) ⟨h12, hlink2, hlink⟩ (u0 := u0) (sen := sen) (self := q) (msg := .ref sa) rfl (cell := freshCell P1.m.cls kX) (cellS := cellS)
    hcellT (fun _ => by simp) (by simp) rfl rfl hsel0 hselF hcellS hneS hknownS hu0 hsen
    (Takes.of_laid hk hord tyC (by rw [Y.causeType]; rfl)) (Takes.of_laid hk hord tyS (by rw [Y.stackType]; exact fits_refV_array _ u0)) (Takes.of_laid hk hord tyP (by rw [Y.suppType]; exact fits_refV_object _ sen))
    (Takes.of_laid hk hord tyM (by rw [Y.msgType]; rfl)) Y.objLocals hskip htr [] (by rw [hb]; exact d6)
    (by simp only [List.length_cons, hlen, List.length_nil]; omega) (by
      simp only [List.length_cons, hlen, List.length_nil]
      show 2 * 0 + 1 + _ ≤ _
      omega)
  obtain ⟨hwalk, hrun, hended, hWU, hsame⟩ := X₂.athrowLeaves hexec (g := F0 m (pc + 3) C [.ref q]) rfl rfl rfl (fun x hx => by rw [hnoh] at hx; cases hx) (a := q) (rest := []) rfl (by rw [hb]; exact d9) hlocks
  obtain ⟨c3, c4, hc3, hc4, hasg⟩ := Cond.castable_spec (hE (.castable (ax_en j) (ax_en j)) (by simp [ax_eA]))
  cases Option.some.inj (hc3.symm.trans hfound)
  cases Option.some.inj (hc4.symm.trans hfound)
  have hlt : q < T0.heap.size := (Array.getElem?_eq_some_iff.mp hcellT).1
  refine ⟨_, st1 _ (fun acts => ?_), fin _ _ hrun hended hWU hsame (fun x hx => ?_) ?_ (fun a ha => ?_) ⟨_, heapAt_setCell_self (s := (T0.setVm vm₁).setVm vm₂) _ hlt, rfl, rfl⟩ hasg⟩
  · rw [doInvoke_state]
    exact st2 _ hwalk
  · simp only [List.mem_cons, List.not_mem_nil, or_false] at hx
    rcases hx with rfl | rfl | rfl | rfl | rfl <;> rfl
  · rw [← hT]
    exact size_setCell ((T0.setVm vm₁).setVm vm₂) q _
  · rw [← hT]
    exact heapAt_setCell_ne (s := (T0.setVm vm₁).setVm vm₂) _ (Ne.symm ha)
end AxT
