theorem ax_inits : ∀ x, x < 138 → ax_nm x = "<init>" → ax_hx x = [] ∧ ax_rt x = none ∧ ax_st x = false := by decide +kernel
theorem ax_kw_on (k : Nat) : (ax_kw k).onTables = true := by
  unfold ax_kw
  split <;> rfl
section AxI
variable {p : Program} {l : Launch} {e : Env} {R : Room} {s : State} {m : MethodId} {args : Array Value} {below : List Frame} {meth : Method} {c : Code} {locs : List Loc} {cells slots : Nat}
variable {b b0 pc : Nat} {st : List Value} {h : ax_H} {D : va_G} {cA : Nat → ClassId} {S : (Nat × Nat) × (Nat → Int32)} {C : Array Slot}
theorem ax_split (y : Nat) (st : List Value) : st.map (ax_cv b b0) = (((st.take y).reverse).map (ax_cv b b0)).reverse ++ (st.drop y).map (ax_cv b b0) := by
  rw [← List.map_reverse, List.reverse_reverse, ← List.map_append, List.take_append_drop]
/-- a call's own step: what it enters -/
theorem ax_inv {k op n x y : Nat} {v : Int} {T : State} (X : Stand p l e R s m args below meth c T locs cells slots) (G : ax_cx D cA b b0 S k p R s m meth c) (hrow : ax_rc k pc op n x y v = true) (h40 : 40 ≤ op) (h50 : op < 50) (hy : y ≤ st.length) (hca : ax_ca op x (st.take y).reverse (st.drop y) h = true) (hr : ax_rel D cA b b0 S h T.heap) :
    (0 < x ∧ x < 138 ∧ ax_fr x + 1 ≤ ax_fr k ∧ 8 + (ax_ml x + 11) + ax_lo x ≤ ax_lo k ∧ y ≤ ax_ml x) ∧ (∃ ig, decode (ax_by k) pc = .ok (ig, 3)) ∧
    ∃ (vm₁ : Vm) (mk : MethodId), s.methodNamed? (ax_md x) = some mk ∧ Stand p l e R s m args below meth c (T.setVm vm₁) locs cells slots ∧
      ∀ target, (∀ acts, Steps p.tables e below (doInvoke e ((T.setVm vm₁).setTop (F0 m pc C ((st.drop y).map (ax_cv b b0)))) acts mk (((st.take y).reverse).map (ax_cv b b0)).toArray).1 target) → Steps p.tables e below (T.setTop (F0 m pc C (st.map (ax_cv b b0)))) target := by
  obtain ⟨hx, hb, hml, hown, hnm, -, -, htb, hK, -, hsc, hfr, hlo, -⟩ := G
  have hts : ∀ w ∈ lw_tbl, w.onTables = true → w.before args s = true := fun w hw ho => va_tabs ho rfl (htb.1 w hw ho)
  have okc : ∀ {z : Bool}, ax_callok k x y (ax_np x) = true → (x < 138 ∧ 0 < x ∧ y = ax_np x ∧ ax_fr x + 1 ≤ ax_fr k ∧ 8 + (ax_ml x + 11) + ax_lo x ≤ ax_lo k) := fun h => of_decide_eq_true h
  have lenOf : ∀ N, (parseMethodDescriptor (ax_ds x)).map (fun d => d.parameters.length) = some N → ∀ sig, parseMethodDescriptor (ax_md x).desc = some sig → N = sig.parameters.length := by
    intro N hN sig hs
    have hs : parseMethodDescriptor (ax_ds x) = some sig := hs
    rw [hs] at hN
    exact (Option.some.inj hN).symm
  match op, h40, h50, hrow, hca with
  | 40, _, _, hrow, hca =>
    have hrow : (ax_d1 (ax_by k) pc n (.invokestatic v.toNat) 3 && ax_lk ax_Lm (ax_wn k) v x 0 && ax_callok k x y (ax_np x) && ax_st x) = true := hrow
    simp only [Bool.and_eq_true] at hrow
    obtain ⟨⟨⟨hd, hlk⟩, hok⟩, hst⟩ := hrow
    obtain ⟨d, -⟩ := ax_d1_of hd
    obtain ⟨w, hw, e1, e2, e3, -⟩ := ax_lk_of hlk
    have hw := ax_Lm_in hw
    rw [e1, e2, e3] at hw
    obtain ⟨hx1, hx0, hnp, hfr2, hlo2⟩ := okc (z := true) hok
    obtain ⟨dn, -, dml, -, dy⟩ := ax_dn x hx0 hx1
    rw [if_pos hst] at dn
    refine ⟨⟨hx0, hx1, hfr2, hlo2, by omega⟩, ⟨_, d⟩, ?_⟩
    have hcw := htb.1 _ (ax_cw_in x hx0 hx1) (ax_cw_on x)
    obtain ⟨mk, hn⟩ := ax_cw_named hcw
    obtain ⟨methM, cM, hmethM, -, -, -, -, -, -, hsigM⟩ := ax_cw_spec hn hcw
    have hkw := hts _ (ax_kw_in x hx0 hx1) (ax_kw_on x)
    unfold ax_kw at hkw
    rw [if_pos hst] at hkw
    have hstatic : methM.isStatic = true := Cond.static_spec hn hmethM hkw
    obtain ⟨kP, hkP, -⟩ := className_of_methodNamed hn
    have hinitP : kP.init = .initialized := Cond.initialized_spec (findClass_of_methodNamed hn) hkP (hts _ (ax_iw_in x hx0 hx1) rfl)
    obtain ⟨vm₁, X₁, hstep⟩ := X.invokestatic hx hown (hts _ hw rfl) hn hmethM hstatic hkP hinitP dy (g := F0 m pc C (st.map (ax_cv b b0))) rfl (argsL := ((st.take y).reverse).map (ax_cv b b0)) (rest := (st.drop y).map (ax_cv b b0)) (by rw [List.length_map, List.length_reverse, List.length_take, Nat.min_eq_left hy, hnp]; exact lenOf _ dn _ hsigM) (ax_split y st) (by rw [hb]; exact d)
    exact ⟨vm₁, mk, hn, X₁, fun target ht => hstep target fun acts => ht acts⟩
  | 41, _, _, hrow, hca =>
    have hrow : (ax_d1 (ax_by k) pc n (.invokestatic v.toNat) 3 && ax_lk ax_Ln (ax_wn k) v x 0 && ax_callok k x y (ax_np x) && ax_st x) = true := hrow
    simp only [Bool.and_eq_true] at hrow
    obtain ⟨⟨⟨hd, hlk⟩, hok⟩, hst⟩ := hrow
    obtain ⟨d, -⟩ := ax_d1_of hd
    obtain ⟨w, hw, e1, e2, e3, -⟩ := ax_lk_of hlk
    have hw := ax_Ln_in hw
    rw [e1, e2, e3] at hw
    obtain ⟨hx1, hx0, hnp, hfr2, hlo2⟩ := okc (z := true) hok
    obtain ⟨dn, -, dml, -, dy⟩ := ax_dn x hx0 hx1
    rw [if_pos hst] at dn
    refine ⟨⟨hx0, hx1, hfr2, hlo2, by omega⟩, ⟨_, d⟩, ?_⟩
    have hcw := htb.1 _ (ax_cw_in x hx0 hx1) (ax_cw_on x)
    obtain ⟨mk, hn⟩ := ax_cw_named hcw
    obtain ⟨methM, cM, hmethM, -, -, -, -, -, -, hsigM⟩ := ax_cw_spec hn hcw
    have hkw := hts _ (ax_kw_in x hx0 hx1) (ax_kw_on x)
    unfold ax_kw at hkw
    rw [if_pos hst] at hkw
    have hstatic : methM.isStatic = true := Cond.static_spec hn hmethM hkw
    obtain ⟨kP, hkP, -⟩ := className_of_methodNamed hn
    have hinitP : kP.init = .initialized := Cond.initialized_spec (findClass_of_methodNamed hn) hkP (hts _ (ax_iw_in x hx0 hx1) rfl)
    obtain ⟨vm₁, X₁, hstep⟩ := X.invokestaticNest hx hown (hts _ hw rfl) hn hmethM hstatic hkP hinitP dy (g := F0 m pc C (st.map (ax_cv b b0))) rfl (argsL := ((st.take y).reverse).map (ax_cv b b0)) (rest := (st.drop y).map (ax_cv b b0)) (by rw [List.length_map, List.length_reverse, List.length_take, Nat.min_eq_left hy, hnp]; exact lenOf _ dn _ hsigM) (ax_split y st) (by rw [hb]; exact d)
    exact ⟨vm₁, mk, hn, X₁, fun target ht => hstep target fun acts => ht acts⟩
  | 42, _, _, hrow, hca =>
    have hrow : (ax_d1 (ax_by k) pc n (.invokevirtual v.toNat) 3 && ax_lk ax_Lm (ax_wn k) v x 0 && ax_callok k x y (ax_np x) && !ax_st x) = true := hrow
    simp only [Bool.and_eq_true, Bool.not_eq_true'] at hrow
    obtain ⟨⟨⟨hd, hlk⟩, hok⟩, hst⟩ := hrow
    obtain ⟨d, -⟩ := ax_d1_of hd
    obtain ⟨w, hw, e1, e2, e3, -⟩ := ax_lk_of hlk
    have hw := ax_Lm_in hw
    rw [e1, e2, e3] at hw
    obtain ⟨hx1, hx0, hnp, hfr2, hlo2⟩ := okc (z := true) hok
    obtain ⟨dn, d0, dml, -, dy⟩ := ax_dn x hx0 hx1
    rw [if_neg (by rw [hst]; decide)] at dn
    have d0 := d0 hst
    refine ⟨⟨hx0, hx1, hfr2, hlo2, by omega⟩, ⟨_, d⟩, ?_⟩
    unfold ax_ca at hca
    rw [Bool.and_eq_true, if_neg (by omega)] at hca
    have hca2 := hca.2
    cases hA : (st.take y).reverse with
    | nil => rw [hA] at hca2; cases hca2
    | cons a0 As' =>
      rw [hA] at hca2
      cases a0 with
      | ref a =>
        have hca3 : (42 ≠ 42 ∨ (a < h.1.1 ∧ (h.2.1 a).1 = ax_wn x + 1 ∧ ax_wn x < 9 ∧ ax_nm x ≠ "<init>")) := of_decide_eq_true hca2
        rcases hca3 with z | ⟨ha, hka, h9, hni⟩
        · exact absurd rfl z
        · have hg : ax_g b b0 a = b0 + a := ax_g_lt (Nat.lt_trans ha hr.2.1)
          obtain ⟨cellB, c1, c2, c3, -⟩ := (hr.2.2.1 a ha).1 (ax_wn x) h9 hka
          have hfc : s.vm.findClass (ax_ow x) = some cellB.cls := by
            have e9 : ax_ow x = ax_cn (ax_wn x) := by
              unfold ax_ow
              revert h9
              generalize ax_wn x = z
              intro h9
              match z, h9 with
              | 0, _ => rfl
              | 1, _ => rfl
              | 2, _ => rfl
              | 3, _ => rfl
              | 4, _ => rfl
              | 5, _ => rfl
              | 6, _ => rfl
              | 7, _ => rfl
              | 8, _ => rfl
              | n + 9, h => exact absurd h (by omega)
            rw [e9, c2]
            exact (hK.1 (ax_wn x) h9).2.1
          have hkw := hts _ (ax_kw_in x hx0 hx1) (ax_kw_on x)
          unfold ax_kw at hkw
          rw [if_neg (by rw [hst]; decide)] at hkw
          obtain ⟨mk, methM, hn, hmethM, hstM, habM⟩ := Cond.instanceMethod_spec hkw
          have hcw := htb.1 _ (ax_cw_in x hx0 hx1) (ax_cw_on x)
          obtain ⟨methM', cM, hmethM', -, -, -, -, -, -, hsigM⟩ := ax_cw_spec hn hcw
          cases hmethM.symm.trans hmethM'
          obtain ⟨q0, r2, m2, q1, q2, q3, q4, kP, hkP, hkPi⟩ := Cond.selects_spec (hts _ (ax_sw_in x hx0 hx1 ⟨hst, hni⟩) rfl)
          cases hfc.symm.trans q1
          cases (State.methodFound?_of_named hn dy).symm.trans q2
          cases hn.symm.trans q3
          have hselP : selectMethod e.platform s.vm cellB.cls mk = .method mk := by rw [Launch.admits_selectMethod X.admits]; exact q4
          have hsp := ax_split (b := b) (b0 := b0) y st
          rw [hA, List.map_cons, ax_cv_ref, hg, List.reverse_cons, List.append_assoc] at hsp
          have hl' : (As'.map (ax_cv b b0)).length = ax_np x - 1 := by
            have : (st.take y).reverse.length = y := by rw [List.length_reverse, List.length_take, Nat.min_eq_left hy]
            rw [hA] at this
            simp only [List.length_cons] at this
            rw [List.length_map]; omega
          obtain ⟨vm₁, X₁, hstep⟩ := X.invokevirtual hx hown (hts _ hw rfl) hn hmethM hstM hkP hkPi dy (a := b0 + a) (cell := cellB) c1 (fun z hz => by rw [c3] at hz; cases hz) hselP hmethM habM hkP hkPi (g := F0 m pc C (st.map (ax_cv b b0))) rfl (argsL := As'.map (ax_cv b b0)) (rest := (st.drop y).map (ax_cv b b0)) (hl'.trans (lenOf _ dn _ hsigM)) hsp (by rw [hb]; exact d)
          refine ⟨vm₁, mk, hn, X₁, fun target ht => hstep target fun acts => ?_⟩
          have := ht acts
          rw [List.map_cons, ax_cv_ref, hg] at this
          exact this
      | _ => cases hca2
  | 43, _, _, hrow, hca =>
    have hrow : (ax_d1 (ax_by k) pc n (.invokespecial v.toNat) 3 && ax_lk ax_Lm (ax_wn k) v x 0 && ax_callok k x y (ax_np x) && !ax_st x && decide (ax_nm x = "<init>")) = true := hrow
    simp only [Bool.and_eq_true, Bool.not_eq_true', decide_eq_true_eq] at hrow
    obtain ⟨⟨⟨⟨hd, hlk⟩, hok⟩, hst⟩, hini⟩ := hrow
    obtain ⟨d, -⟩ := ax_d1_of hd
    obtain ⟨w, hw, e1, e2, e3, -⟩ := ax_lk_of hlk
    have hw := ax_Lm_in hw
    rw [e1, e2, e3] at hw
    obtain ⟨hx1, hx0, hnp, hfr2, hlo2⟩ := okc (z := true) hok
    obtain ⟨dn, d0, dml, -, dy⟩ := ax_dn x hx0 hx1
    rw [if_neg (by rw [hst]; decide)] at dn
    have d0 := d0 hst
    refine ⟨⟨hx0, hx1, hfr2, hlo2, by omega⟩, ⟨_, d⟩, ?_⟩
    unfold ax_ca at hca
    rw [Bool.and_eq_true, if_neg (by omega)] at hca
    have hca2 := hca.2
    cases hA : (st.take y).reverse with
    | nil => rw [hA] at hca2; cases hca2
    | cons a0 As' =>
      rw [hA] at hca2
      cases a0 with
      | ref a =>
        have hkw := hts _ (ax_kw_in x hx0 hx1) (ax_kw_on x)
        unfold ax_kw at hkw
        rw [if_neg (by rw [hst]; decide)] at hkw
        obtain ⟨i1, i2, -⟩ := ax_inits x hx1 hini
        have hcw := hts _ (ax_cw_in x hx0 hx1) (ax_cw_on x)
        unfold ax_cw at hcw
        rw [if_pos i1, i2] at hcw
        have hsp := ax_split (b := b) (b0 := b0) y st
        rw [hA, List.map_cons, ax_cv_ref, List.reverse_cons, List.append_assoc] at hsp
        have hl' : (As'.map (ax_cv b b0)).length = ax_np x - 1 := by
          have : (st.take y).reverse.length = y := by rw [List.length_reverse, List.length_take, Nat.min_eq_left hy]
          rw [hA] at this
          simp only [List.length_cons] at this
          rw [List.length_map]; omega
        have hpl : e.platform.magicAccessors = ({} : Platform).magicAccessors := by rw [X.admits.platform]
        obtain ⟨mk, methM, cM, kP, vm₁, hn, hmethM, hcodeM, -, hlocalsM, -, hkP, -, hW₁, hstep⟩ := Steps.initColdArgs (e := e) X.here hx X.warmed hpl hown hini dy (hts _ hw rfl) hkw hcw (f := F0 m pc C (st.map (ax_cv b b0))) rfl (argsL := As'.map (ax_cv b b0)) (rest := (st.drop y).map (ax_cv b b0)) (fun sig hs => hl'.trans (lenOf _ dn sig hs)) hsp (by rw [hb]; exact d)
        refine ⟨vm₁, mk, hn, X.noted hW₁, fun target ht => hstep target fun acts => ?_⟩
        have := ht acts
        rw [List.map_cons, ax_cv_ref] at this
        exact this
      | _ => cases hca2
  | 44, _, _, hrow, hca =>
    have hrow : (ax_d1 (ax_by k) pc n (.invokespecial v.toNat) 3 && ax_lk ax_Ln (ax_wn k) v x 0 && ax_callok k x y (ax_np x) && !ax_st x && decide (ax_nm x = "<init>")) = true := hrow
    simp only [Bool.and_eq_true, Bool.not_eq_true', decide_eq_true_eq] at hrow
    obtain ⟨⟨⟨⟨hd, hlk⟩, hok⟩, hst⟩, hini⟩ := hrow
    obtain ⟨d, -⟩ := ax_d1_of hd
    obtain ⟨w, hw, e1, e2, e3, -⟩ := ax_lk_of hlk
    have hw := ax_Ln_in hw
    rw [e1, e2, e3] at hw
    obtain ⟨hx1, hx0, hnp, hfr2, hlo2⟩ := okc (z := true) hok
    obtain ⟨dn, d0, dml, -, dy⟩ := ax_dn x hx0 hx1
    rw [if_neg (by rw [hst]; decide)] at dn
    have d0 := d0 hst
    refine ⟨⟨hx0, hx1, hfr2, hlo2, by omega⟩, ⟨_, d⟩, ?_⟩
    unfold ax_ca at hca
    rw [Bool.and_eq_true, if_neg (by omega)] at hca
    have hca2 := hca.2
    cases hA : (st.take y).reverse with
    | nil => rw [hA] at hca2; cases hca2
    | cons a0 As' =>
      rw [hA] at hca2
      cases a0 with
      | ref a =>
        have hkw := hts _ (ax_kw_in x hx0 hx1) (ax_kw_on x)
        unfold ax_kw at hkw
        rw [if_neg (by rw [hst]; decide)] at hkw
        obtain ⟨i1, i2, -⟩ := ax_inits x hx1 hini
        have hcw := hts _ (ax_cw_in x hx0 hx1) (ax_cw_on x)
        unfold ax_cw at hcw
        rw [if_pos i1, i2] at hcw
        have hsp := ax_split (b := b) (b0 := b0) y st
        rw [hA, List.map_cons, ax_cv_ref, List.reverse_cons, List.append_assoc] at hsp
        have hl' : (As'.map (ax_cv b b0)).length = ax_np x - 1 := by
          have : (st.take y).reverse.length = y := by rw [List.length_reverse, List.length_take, Nat.min_eq_left hy]
          rw [hA] at this
          simp only [List.length_cons] at this
          rw [List.length_map]; omega
        have hpl : e.platform.magicAccessors = ({} : Platform).magicAccessors := by rw [X.admits.platform]
        obtain ⟨mk, methM, cM, kP, vm₁, hn, hmethM, hcodeM, -, hlocalsM, -, hkP, -, hW₁, hstep⟩ := Steps.initColdArgsNest (e := e) X.here hx X.warmed hpl hown hini dy (hts _ hw rfl) hkw hcw (f := F0 m pc C (st.map (ax_cv b b0))) rfl (argsL := As'.map (ax_cv b b0)) (rest := (st.drop y).map (ax_cv b b0)) (fun sig hs => hl'.trans (lenOf _ dn sig hs)) hsp (by rw [hb]; exact d)
        refine ⟨vm₁, mk, hn, X.noted hW₁, fun target ht => hstep target fun acts => ?_⟩
        have := ht acts
        rw [List.map_cons, ax_cv_ref] at this
        exact this
      | _ => cases hca2
  | 45, _, _, hrow, _ => cases hrow
  | 46, _, _, hrow, _ => cases hrow
  | 47, _, _, hrow, _ => cases hrow
  | 48, _, _, hrow, _ => cases hrow
  | 49, _, _, hrow, _ => cases hrow
  | op + 50, _, h50, _, _ => exact absurd h50 (by omega)
end AxI
