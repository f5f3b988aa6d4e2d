/-! THE CLAIM OUT OF ONE WALK OF THE LAW'S BODY. Your part is whole_start (and what it stands on); all else here is the same for every law, but numbers. -/
def R_law : String := "MakerGuardLaw"
def lw_P (b : Addr) (xs : List Int32) (args : Array Value) (s : State) : Prop := args = #[.ref b] ∧ s.IntsAt b xs ∧ xs.length ≤ 3072 ∧ (Jvm.Cond.and given_1 narrow_1).before args s = true
def lw_Q (_ : Array Value) (s : State) (o : Outcome) (t : State) : Prop := o = .returned (some (.int 1)) ∧ Framed s o t [] 601024 7293034
def lw_Z (below : List Frame) (a : Array Value) (s : State) : State → Prop := fun t => ∃ o, t.status = .running ∧ Ended t below o ∧ lw_Q a s o t
/-- the law's own end, with 1 on the stack, nothing written that was there before, its room as the claim has it -/
theorem lw_ret {p : Program} {l : Launch} {e : Env} {s : State} {m : MethodId} {below : List Frame} {meth : Method} {c : Code} {b : Nat} (hx : p.tables.exec = Jvm.exec) (hb : c.code = code) (hr : meth.sig.returnType = ret) (hlocks : meth.locks = false) {pc : Nat} {H : Heap} {ls : Array Slot} (hdg : decode code pc = .ok (.ireturn, 1)) : W p l e room_1 s m #[Value.ref b] below meth c H [] 601024 7293034 (lw_Z below #[Value.ref b] s) (F0 m pc ls [.int 1]) := by
  intro T hT X
  obtain ⟨fs, hret, hrun, hended, hW, hframe⟩ := X.leave (v := some (.int 1)) (hlocks := hlocks) (fun h => by rw [hr] at h; cases h)
  have hmeth' : T.vm.method? m = some meth := X.method'
  refine ⟨T.setFrames fs, ?_, .returned (some (.int 1)), hrun, hended, rfl, ⟨_, rfl⟩, hW, hframe⟩
  jvm_step X.here [X.here.top, hx, hb, hdg, hmeth', hr, ret, narrow_b1]
  (try refine ⟨rfl, ?_⟩); (try refine ⟨rfl, ?_⟩)
  first | (intro acts; rw [hret _ acts rfl rfl rfl]) | rw [hret _ _ rfl rfl rfl]
  exact Steps.refl _
/-- what holds at the law's entry: the machine, the code, the tables' words (any of lw_tbl by 'hts w (by decide +kernel)'), the script of L ints xs at the cell b, what the Statement gives of the start (any of its parts by flat_of_before) -/
def lw_At (p : Program) (s : State) (m : MethodId) (meth : Method) (c : Code) (b L : Nat) (xs : Nat → Int32) : Prop :=
  p.tables.exec = Jvm.exec ∧ c.code = code ∧ meth.sig.returnType = ret ∧ c.maxLocals = 7 ∧ s.vm.findClass R_law = some m.cls ∧ (∀ w ∈ lw_tbl, w.before #[Value.ref b] s = true) ∧ va_X b L xs s s.heap ∧ b < s.heap.size ∧ meth.locks = false ∧ (Jvm.Cond.and given_1 narrow_1).before #[Value.ref b] s = true ∧ c.exceptionTable.toList = []
-- ===== YOUR PART BEGINS =====
/-- the abstract heap at the law's start: the script alone -/
def ax_h0 (L : Nat) (xs : Nat → Int32) : ax_H := ((0, 0), (fun a => if a = 1000000000 then (99, L) else (0, 0)), (fun a => if a = 1000000000 then xs else fun _ => 0), (fun _ _ => none), (fun _ _ => 0))
theorem ax_lit : ("[" ++ (FieldType.int).toString = "[I") := by decide
theorem ax_prim {s : State} {A : Array Value} {ty : FieldType} (hty : ty = .int ∨ ty = .boolean ∨ ty = .long) (h : (Cond.arrayClass ty).before A s = true) : ∃ c : ClassId, ArrOfT s c ty ∧ va_RA s c ty := by
  obtain ⟨cA, kA, comp, h1, h2, h3⟩ := Cond.arrayClass_spec h
  refine ⟨cA, fun n z => ⟨fun k h => (by cases h), kA, h2, comp, h3⟩, ?_⟩
  rcases hty with rfl | rfl | rfl <;> exact h1
set_option maxHeartbeats 1000000 in
theorem ax_tb_start {s : State} {b : Nat} (hts : ∀ w ∈ lw_tbl, w.before #[Value.ref b] s = true) (hgv : (Jvm.Cond.and given_1 narrow_1).before #[Value.ref b] s = true) : ax_tb s := by
  have hs := flat_of_before _ hgv
  refine ⟨fun w hw ho => va_tabs ho rfl (hts w hw), fun ty hty => ?_, fun x ty hx hty => ?_, fun j hj => ?_, fun i j hi hj hn => ?_⟩
  · rcases hty with rfl | rfl | rfl
    · exact hts (.arrayClass .int) (List.mem_of_getElem? (i := 108) (by decide +kernel))
    · exact hts (.arrayClass .boolean) (List.mem_of_getElem? (i := 852) (by decide +kernel))
    · exact hts (.arrayClass .long) (List.mem_of_getElem? (i := 1023) (by decide +kernel))
  · unfold ax_ra at hx
    simp only [Bool.or_eq_true, beq_iff_eq] at hx
    rcases hx with ((rfl | rfl) | rfl) | rfl
    · cases hty
      exact hts (.arrayOver (.object "MakerGuard$Body")) (List.mem_of_getElem? (i := 79) (by decide +kernel))
    · cases hty
      exact hts (.arrayOver (.object "MakerGuard$Declaration")) (List.mem_of_getElem? (i := 81) (by decide +kernel))
    · cases hty
      exact hts (.arrayOver (.object "MakerGuard$Frame")) (List.mem_of_getElem? (i := 226) (by decide +kernel))
    · cases hty
      exact hts (.arrayOver (.object "MakerGuard$Sight")) (List.mem_of_getElem? (i := 168) (by decide +kernel))
  · have key : ∀ (k : Nat) (tx : String), (Cond.stringRef "MakerGuard" k tx).before #[Value.ref b] s = true → (Cond.exactly (.string "MakerGuard" k) "java/lang/String").before #[Value.ref b] s = true → ∃ a, vk_R "MakerGuard" k tx a s := by
      intro k tx h1 h2
      cases hv : (Term.string "MakerGuard" k).eval #[Value.ref b] s none [] s with
      | none => simp [Cond.before, Cond.holds, Cond.value, hv] at h2
      | some v =>
        cases v with
        | ref a => exact ⟨a, vk_R.of h1 hv⟩
        | null => cases hf : s.vm.findClass "java/lang/String" <;> simp [Cond.before, Cond.holds, Cond.value, hv, hf] at h2
        | _ => simp [Cond.before, Cond.holds, Cond.value, hv] at h2
    match j, hj with
    | 0, _ => exact key 162 _ (hts (.stringRef "MakerGuard" 162 "there is no such thing") (List.mem_of_getElem? (i := 351) (by decide +kernel))) (hs _ (by decide +kernel))
    | 1, _ => exact key 169 _ (hts (.stringRef "MakerGuard" 169 "the number is none of those that the call knows") (List.mem_of_getElem? (i := 463) (by decide +kernel))) (hs _ (by decide +kernel))
    | 2, _ => exact key 174 _ (hts (.stringRef "MakerGuard" 174 "not in this state") (List.mem_of_getElem? (i := 417) (by decide +kernel))) (hs _ (by decide +kernel))
    | n + 3, h => exact absurd h (by omega)
  · match i, j, hi, hj, hn with
    | 0, 1, _, _, _ => exact va_Nc.of (hs (.not (.castable "java/util/NoSuchElementException" "java/lang/IllegalArgumentException")) (by decide +kernel))
    | 0, 2, _, _, _ => exact va_Nc.of (hs (.not (.castable "java/util/NoSuchElementException" "java/lang/IllegalStateException")) (by decide +kernel))
    | 1, 0, _, _, _ => exact va_Nc.of (hs (.not (.castable "java/lang/IllegalArgumentException" "java/util/NoSuchElementException")) (by decide +kernel))
    | 1, 2, _, _, _ => exact va_Nc.of (hs (.not (.castable "java/lang/IllegalArgumentException" "java/lang/IllegalStateException")) (by decide +kernel))
    | 2, 0, _, _, _ => exact va_Nc.of (hs (.not (.castable "java/lang/IllegalStateException" "java/util/NoSuchElementException")) (by decide +kernel))
    | 2, 1, _, _, _ => exact va_Nc.of (hs (.not (.castable "java/lang/IllegalStateException" "java/lang/IllegalArgumentException")) (by decide +kernel))
    | 0, 0, _, _, hn => exact absurd rfl hn
    | 1, 1, _, _, hn => exact absurd rfl hn
    | 2, 2, _, _, hn => exact absurd rfl hn
    | n + 3, _, h, _, _ => exact absurd h (by omega)
    | _, n + 3, _, h, _ => exact absurd h (by omega)
theorem ax_K_start {s : State} {b : Nat} (hts : ∀ w ∈ lw_tbl, w.before #[Value.ref b] s = true) (htb : ax_tb s) : ∃ (D : va_G) (cA : Nat → ClassId), ax_K D cA s := by
  have h1 : ∀ ci : Nat, ∃ (c : ClassId) (iS : Nat → Nat), ci < 9 → u_Kn s (ax_cn ci) (ax_Tf ci) (ax_nf ci) c iS := by
    intro ci
    by_cases h9 : ci < 9
    · obtain ⟨c, iS, h⟩ := u_known (C := ax_cn ci) (T := ax_Tf ci) (N := ax_nf ci) (n := ax_nf ci) hts (ax_in ci h9) (hts _ (ax_inst ci h9))
      exact ⟨c, iS, fun _ => h⟩
    · exact ⟨0, fun _ => 0, fun h => absurd h h9⟩
  have h2 : ∀ x : Nat, ∃ c : ClassId, ∀ ty, ax_aty x = some ty → ArrOfT s c ty ∧ va_RA s c ty := by
    intro x
    cases hty : ax_aty x with
    | none => exact ⟨0, fun ty h => by cases h⟩
    | some ty =>
      have hsome : ∃ c : ClassId, ArrOfT s c ty ∧ va_RA s c ty := by
        by_cases hra : ax_ra x = true
        · obtain ⟨ci, h9, -, e⟩ := ax_ra_aty hra
          cases e.symm.trans hty
          obtain ⟨comp, c, k, g1, g2, g3, g4, g5⟩ := Cond.arrayOver_spec (htb.2.2.1 x _ hra hty)
          exact ⟨c, fun n z => ⟨(fun k h => by cases h), k, g3, comp, g4⟩, k, comp, g3, g4, g1, g5⟩
        · have hp : ty = .int ∨ ty = .boolean ∨ ty = .long := by
            unfold ax_aty at hty
            split at hty
            · cases hty; exact Or.inl rfl
            · cases hty; exact Or.inr (Or.inl rfl)
            · cases hty; exact Or.inr (Or.inr rfl)
            · exact absurd rfl hra
            · exact absurd rfl hra
            · exact absurd rfl hra
            · exact absurd rfl hra
            · cases hty
          exact ax_prim hp (htb.2.1 ty hp)
      obtain ⟨c, hc⟩ := hsome
      exact ⟨c, fun ty' h => by cases h; exact hc⟩
  exact ⟨(fun ci => Classical.choose (h1 ci), fun ci => Classical.choose (Classical.choose_spec (h1 ci))), fun x => Classical.choose (h2 x), fun ci h9 => Classical.choose_spec (Classical.choose_spec (h1 ci)) h9, fun x ty hx => Classical.choose_spec (h2 x) ty hx⟩
theorem ax_sz_start {s : State} {b : Nat} (hts : ∀ w ∈ lw_tbl, w.before #[Value.ref b] s = true) (hgv : (Jvm.Cond.and given_1 narrow_1).before #[Value.ref b] s = true) : ax_sz s.heap.size s := by
  have hs := flat_of_before _ hgv
  have hi := hts (.initialized "java/lang/Throwable") (List.mem_of_getElem? (i := 55) (by decide +kernel))
  have hl1 := hts (.laysStatic "java/lang/Throwable" "UNASSIGNED_STACK" "[Ljava/lang/StackTraceElement;") (List.mem_of_getElem? (i := 337) (by decide +kernel))
  have hl2 := hts (.laysStatic "java/lang/Throwable" "SUPPRESSED_SENTINEL" "Ljava/util/List;") (List.mem_of_getElem? (i := 339) (by decide +kernel))
  exact ⟨⟨va_Zqof hl1 hi (hs _ (by decide +kernel)) (fun a h => Nat.not_le.mpr h), hl1⟩, ⟨va_Zqof hl2 hi (hs _ (by decide +kernel)) (fun a h => Nat.not_le.mpr h), hl2⟩⟩
/-- from the entry, for every script of at most 3072 ints, the law comes to its end with true: out of the abstract run -/
theorem whole_start {p : Program} {e : Env} {s : State} {m : MethodId} {below : List Frame} {meth : Method} {c : Code} (l : Launch) (hfl : l.flags = flags0) {b L : Nat} {xs : Nat → Int32} (hL : L ≤ 3072) (C0 : lw_At p s m meth c b L xs) : W p l e room_1 s m #[Value.ref b] below meth c s.heap [] 0 0 (lw_Z below #[Value.ref b] s) (entryFrame m ([Value.ref b] : List Value).toArray 7) := by
  obtain ⟨hx, hb, hr, hml, hown, hts, hX, hbl, hlocks, hgv, htab⟩ := C0
  obtain ⟨n, h', he, hc1, hc2⟩ := ax_pure L xs hL
  intro T hT X
  have htr : e.platform.stackTraces = false := by
    rw [X.admits.2.2.2.2.1]
    show l.stackTraces = false
    unfold Launch.stackTraces
    rw [hfl]
    decide +kernel
  have htb := ax_tb_start hts hgv
  obtain ⟨D, cA, hK⟩ := ax_K_start hts htb
  have G : ax_cx D cA b s.heap.size ((99, L), xs) 0 p room_1 s m meth c := ⟨hx, hb, hml, hown, fun z => absurd z (by decide), hr, hlocks, htb, hK, ax_sz_start hts hgv, fun _ => ⟨hX, hbl, hbl⟩, by decide, by decide, Nat.le_refl _⟩
  have hrel : ax_rel D cA b s.heap.size ((99, L), xs) (ax_h0 L xs) s.heap := ⟨rfl, by show (0 : Nat) < 1000000000; decide, fun a ha => absurd ha (Nat.not_lt_zero _), rfl, rfl⟩
  have hentry := ax_lv_entry (b := b) (b0 := s.heap.size) (x := 0) (As := [.ref 1000000000]) rfl (by decide)
  have hW := ax_sound n 0 0 (ax_entry 0 [.ref 1000000000]) [] (ax_h0 L xs) (.inl (some (.int 1))) h' (by decide) he p l e room_1 s m #[Value.ref b] below meth c s.heap [] 0 0 _ D cA b s.heap.size ((99, L), xs) htr G (by unfold ax_tabl; rw [htab]; rfl) rfl hrel va_S.rf hentry (by show 0 + (h'.1.1 - 0) ≤ 601024; omega) (by show 0 + (h'.1.2 - 0) ≤ 7293034; omega)
  obtain ⟨t, st, o, hrun, hend, hWm, ⟨Ls, hsame, hLb⟩, -, -, hoc⟩ := hW T hT X
  refine ⟨t, ?_, o, hrun, hend, hoc, ⟨_, hoc⟩, hWm, ?_⟩
  · rw [lg_entry_eq]
    exact st
  · exact hsame.weaken (fun y hy hlt => absurd (hLb y hy) (Nat.not_le.mpr hlt)) (by show 0 + (h'.1.1 - 0) ≤ 601024; omega) (by show 0 + (h'.1.2 - 0) ≤ 7293034; omega)
-- ===== YOUR PART ENDS =====
set_option maxHeartbeats 4000000 in
theorem lw_walk (l : Launch) (hfl : l.flags = flags0) (b : Addr) (xs : List Int32) : MetFree l x (headSpec (Jvm.Cond.code x code maxLocals ret :: tables_1) room_1) (lw_P b xs) (fun _ _ _ _ _ => True) lw_Q := by
  refine MetFree.of_bodyS (code := code) (maxLocals := maxLocals) (ret := ret) (by decide) ?_ ?_
  · intro args s m h hn
    obtain ⟨meth, c, h1, h2, h3, h4, h5, h6, -, -⟩ := Cond.code_spec hn (atoms_spec (ws := Jvm.Cond.code x code maxLocals ret :: tables_1) h _ List.mem_cons_self)
    exact ⟨meth, c, h1, h2, h3, h4, h5, h6⟩
  · intro p e s m args below meth c s₁ B hml0 hP _
    obtain ⟨rfl, hx, hbd, hgv⟩ := hP
    obtain ⟨scr, harrAt, hlist, hof, hsmall⟩ := hx
    obtain ⟨hcb, hkn, -, -⟩ := State.arrayAt?_spec harrAt
    have hown : s.vm.findClass R_law = some m.cls := findClass_of_methodNamed B.named
    have hts0 : ∀ c ∈ (Jvm.Cond.code x code maxLocals ret :: tables_1), c.before #[Value.ref b] s = true := atoms_spec (ws := Jvm.Cond.code x code maxLocals ret :: tables_1) B.pre
    have hts : ∀ w ∈ lw_tbl, w.before #[Value.ref b] s = true := k2_hts_sels lw_privs (fun w hw => hts0 w (List.mem_cons_of_mem _ hw)) lw_privs_ok
    have hml : c.maxLocals = 7 := B.maxLocals_eq (hts0 _ List.mem_cons_self)
    have htab : c.exceptionTable.toList = [] := by
      have h7 := B.noHandlers (hts0 _ List.mem_cons_self)
      have h0 : c.exceptionTable.size = 0 := by simpa [Array.isEmpty] using h7
      exact List.eq_nil_of_length_eq_zero (by simpa using h0)
    have X₀ : Stand p l e room_1 s m #[Value.ref b] below meth c s₁ [] 0 0 := Stand.of_body B
    have hh0 : s₁.heap = s.heap := by rw [B.state]; rfl
    have hsz : scr.slots.size = xs.length := by rw [← Array.length_toList, hlist, List.length_map]
    have hval : ∀ j : Nat, j < xs.length → scr.slots[j]? = some (.int (xs.getD j 0)) := fun j hj => by
      rw [← Array.getElem?_toList, hlist]
      simp [hj]
    have hbl : b < s.heap.size := (Array.getElem?_eq_some_iff.mp hcb).1
    have hX : va_X b xs.length (fun j => xs.getD j 0) s s.heap := ⟨scr, hcb, hof, hkn, hsz, hval⟩
    have K : W p l e room_1 s m #[Value.ref b] below meth c s₁.heap [] 0 0 (lw_Z below #[Value.ref b] s) (entryFrame m ([Value.ref b] : List Value).toArray 7) := by
      rw [hh0]
      exact whole_start l hfl hbd ⟨B.exec, B.bytes, B.returns, hml, hown, hts, hX, hbl, B.notSynchronized, hgv, htab⟩
    obtain ⟨t, a1, o, b1, b2, b3⟩ := K s₁ rfl X₀
    exact ⟨t, o, a1, b1, b2, b3⟩
theorem lw_pre_spec {args : Array Value} {s : State} (h : (Jvm.Cond.and given_1 narrow_1).before args s = true) (hr : rest_1_c.before args s = true) : ∃ (b : Addr) (xs : List Int32), lw_P b xs args s := by
  have hs := flat_of_before _ h
  have hq := flat_of_before _ hr
  have hc : (Cond.count 1).before args s = true := hs _ (by decide +kernel)
  have harr : (Cond.arrayOf (.arg 0) .int).before args s = true := hs _ (by decide +kernel)
  have hle : (Cond.le (.length (.arg 0)) (.int 3072)).before args s = true := hs _ (by decide +kernel)
  have hlen : (Cond.isInt (.length (.arg 0))).before args s = true := hq _ (by decide +kernel)
  have hall : (Cond.all (.arg 0) (.isInt (.elem (.arg 0) (.index 0)))).before args s = true := hq _ (by decide +kernel)
  obtain ⟨b, xs, hb, hx⟩ := State.ints_of_pre rfl harr hlen hall
  have hsm : xs.length < 2 ^ 31 := hx.choose_spec.2.2.2
  have hev : (Term.length (.arg 0)).eval args s none [] s = some (.int xs.length.toInt32) := hx.length_eval hb
  have hv := Cond.le_ints hev (show (Term.int 3072).eval args s none [] s = some (.int 3072) from rfl)
  have hd : xs.length.toInt32 ≤ 3072 := by
    simpa [Cond.before, Cond.holds, hv] using hle
  have hN : xs.length ≤ 3072 := (Int32.ofNat_le_ofNat hsm (by decide)).mp (show Int32.ofNat xs.length ≤ Int32.ofNat 3072 from hd)
  exact ⟨b, xs, Cond.one_arg hc (show args[0]? = some (.ref b) from hb), hx, hN, h⟩
theorem lw_comes (l : Launch) (hfl : l.flags = flags0) : Comes l x (Jvm.Cond.code x code maxLocals ret :: tables_1) room_1 (fun tb e args s => Calls_1 tb e args s ∧ rest_1 tb e args s ∧ Pre_1 tb e args s)
    (fun _ _ args s o t => lw_Q args s o t) := by
  intro p e ha hc hk s m args below hf hfit hheap happ hpre
  obtain ⟨b, xs, hP⟩ := lw_pre_spec hpre.2.2 hpre.2.1
  obtain ⟨k, o, h1, h2, h3, hQ⟩   := lw_walk l hfl b xs p e ha hc hk s m args below hf ((Spec.applies_iff_loose hf).mp happ).1 hP trivial
  exact ⟨k, o, h1, h2, h3, hQ⟩
theorem lw_frame {s t : State} {o : Outcome} {args : Array Value} (h : Framed s o t [] 601024 7293034) :
    Framed s o t (fieldLocs frame_1_writes args s ++ arrayLocs frame_1_arrays args s ++ staticLocs frame_1_statics s) 601024 7293034 := h
theorem lw_limb (L : Cond) (hL : ∀ (args : Array Value) (s t : State), L.after args s (.returned (some (.int 1))) t = true) :
    ArmFor flags0 classFile x code maxLocals ret World_1 tables_1 room_1 Calls_1 rest_1 Pre_1
      (fun tb e a s o t => postC L tb e a s o t ∧ Framed s o t (fieldLocs frame_1_writes a s ++ arrayLocs frame_1_arrays a s ++ staticLocs frame_1_statics s) 601024 7293034) := by
  intro l hfl _ _ p e ha hc hk s m args below hf hfit hheap happ hpre
  obtain ⟨k, o, h1, h2, h3, rfl, hF⟩ := lw_comes l hfl p e ha hc hk s m args below hf hfit hheap happ hpre
  exact ⟨k, _, h1, h2, h3, hL args s _, lw_frame hF⟩
theorem i_vc : Claimed_1_1 ∧ Claimed_1_2 := ⟨lw_limb limb_1_1 (fun args s t => by simp [limb_1_1, Cond.after, Cond.holds, Cond.value]), lw_limb limb_1_2 (fun args s t => Cond.after_iff.mpr (by
  first | (rw [show limb_1_2 = Cond.eq .result (.int 1) from rfl, Cond.eq_ints (x := 1) (y := 1) rfl rfl]; simp; done) | (simp [limb_1_2, Cond.value, Term.eval]; done)))⟩
