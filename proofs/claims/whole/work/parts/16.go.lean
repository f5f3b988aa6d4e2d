/-! the tables' words at a state, in a form that every later state keeps -/
def ax_tt (x : Nat) : String := match x with
  | 0 => "there is no such thing"
  | 1 => "the number is none of those that the call knows"
  | _ => "not in this state"
def ax_tb (U : State) : Prop := (∀ w ∈ lw_tbl, w.onTables = true → w.before #[] U = true) ∧ (∀ ty : FieldType, ty = .int ∨ ty = .boolean ∨ ty = .long → (Cond.arrayClass ty).before #[] U = true) ∧ (∀ x ty, ax_ra x = true → ax_aty x = some ty → (Cond.arrayOver ty).before #[] U = true) ∧ (∀ j, j < 3 → ∃ a, vk_R "MakerGuard" (ax_tx j).2.1 (ax_tt j) a U) ∧ (∀ i j, i < 3 → j < 3 → i ≠ j → va_Nc (ax_en i) (ax_en j) U)
def ax_wk (w : Cond) : Bool := w.keeps || (w.faceAtom || (match w with | .fieldLinkNest .. => true | .methodLinkNest .. => true | _ => false))
theorem ax_warm {w : Cond} (ho : w.onTables = true) (hk : ax_wk w = true) {s U : State} (hW : s.WarmedH U.vm) (h : w.before #[] s = true) : w.before #[] U = true := by
  unfold ax_wk at hk
  rw [Bool.or_eq_true, Bool.or_eq_true] at hk
  rcases hk with hk | hk | hk
  · exact word_at hW (Or.inl (by rw [ho, hk]; rfl)) h
  · exact va_tabs ho (rfl : (s.setVm U.vm).vm = U.vm) (Cond.faceAtom_setVm (args := #[]) hW.alike w hk h)
  · cases w with
    | fieldLinkNest a i b n d g => exact va_Nw.warmF hW h
    | methodLinkNest a i x g => exact va_Nw.warmM hW h
    | _ => cases hk
theorem ax_wk_all_1 : (lw_tbl.take 400).all (fun w => !w.onTables || ax_wk w) = true := by decide +kernel
theorem ax_wk_all_2 : (lw_tbl.drop 400).all (fun w => !w.onTables || ax_wk w) = true := by decide +kernel
theorem ax_wk_of {w : Cond} (h : w ∈ lw_tbl) (ho : w.onTables = true) : ax_wk w = true := by
  have h1 := List.all_eq_true.mp (ax_take_drop 400 lw_tbl ax_wk_all_1 ax_wk_all_2) w h
  rw [ho] at h1
  exact h1
theorem ax_tb_warm {s U : State} (hW : s.WarmedH U.vm) (h : ax_tb s) : ax_tb U := by
  obtain ⟨h1, h2, h3, h4, h5⟩ := h
  refine ⟨fun w hw ho => ax_warm ho (ax_wk_of hw ho) hW (h1 w hw ho), fun ty ht => word_at hW (Or.inr ⟨ty, rfl⟩) (h2 ty ht), fun x ty hx ht => ?_, fun j hj => ?_, fun i j hi hj hn => (h5 i j hi hj hn).moved hW.alike⟩
  · obtain ⟨ci, -, -, e⟩ := ax_ra_aty hx
    cases e.symm.trans ht
    exact va_AO.moved hW.alike (h3 x _ hx ht)
  · obtain ⟨a, ha⟩ := h4 j hj
    exact ⟨a, ha.warm hW⟩
theorem ax_K_moved {D : va_G} {cA : Nat → ClassId} {u U : State} (hvm : u.vm.Alike U.vm) (h : ax_K D cA u) : ax_K D cA U :=
  ⟨fun ci h9 => u_Kn_moved hvm (h.1 ci h9), fun x ty hx => ⟨arrOfT_moved hvm (h.2 x ty hx).1, (h.2 x ty hx).2.moved hvm⟩⟩
/-- the two static fields of Throwable that a new exception reads -/
def ax_s1z (C n d : String) (b0 : Nat) (U : State) : Prop := va_Zq C n d (fun q => b0 ≤ q) U U.heap ∧ (Cond.laysStatic C n d).before #[] U = true
def ax_sz (b0 : Nat) (U : State) : Prop := ax_s1z "java/lang/Throwable" "UNASSIGNED_STACK" "[Ljava/lang/StackTraceElement;" b0 U ∧ ax_s1z "java/lang/Throwable" "SUPPRESSED_SENTINEL" "Ljava/util/List;" b0 U
theorem ax_s1z_kept {C n d : String} {b0 : Nat} {u U : State} (hvm : u.vm.Alike U.vm) (hq : ∀ q : Nat, q < u.heap.size → q < b0 → U.heap[q]? = u.heap[q]?) (h : ax_s1z C n d b0 u) : ax_s1z C n d b0 U := by
  obtain ⟨h1, h2⟩ := h
  refine ⟨(h1.moved hvm).kept (fun a z1 z2 => hq a z1 (Nat.not_le.mp z2)), ?_⟩
  have hz : ∃ v, va_Z C n d v (fun q => b0 ≤ q) u u.heap := by
    rcases h1 with z | ⟨t, z⟩
    · exact ⟨_, z⟩
    · exact ⟨_, z⟩
  obtain ⟨v, cf, kf, fi, f, a, cell, z1, z2, z3, z4, z5, z6, z7, z8⟩ := hz
  obtain ⟨c, k, i, f', a', cell', y1, y2, y3, y4, y5, y6, y7, y8, y9⟩ := Cond.laysStatic_spec h2
  cases z1.symm.trans y2
  cases z4.symm.trans y4
  obtain ⟨k', hi', hek⟩ := State.fieldFound?_setVm hvm y2
  have hc : U.heap[a]? = some cell' := by rw [hq a (Array.getElem?_eq_some_iff.mp y5).1 (Nat.not_le.mp z8)]; exact y5
  exact Cond.laysStatic_of (s := U) (by rw [hvm.findClass]; exact y1) hi' y3 (by rw [hek]; exact y4) hc y6 y7 y8 (by rw [hek]; exact y9)
theorem ax_s1z_ref {C n d : String} {b0 : Nat} {U : State} {A : Array Value} (h : ax_s1z C n d b0 U) : (Cond.isRef (.static C n d)).before A U = true := by
  rcases h.1 with ⟨cf, kf, fi, f, a, cell, z1, z2, z3, z4, z5, z6, z7, z8⟩ | ⟨t, cf, kf, fi, f, a, cell, z1, z2, z3, z4, z5, z6, z7, z8⟩
  · simp [Cond.before, Cond.holds, Cond.value, Term.eval, State.fieldNamed?, z1, z2, z4, z5, z6, z7]
  · simp [Cond.before, Cond.holds, Cond.value, Term.eval, State.fieldNamed?, z1, z2, z4, z5, z6, z7]
theorem ax_sz_kept {b0 : Nat} {u U : State} (hvm : u.vm.Alike U.vm) (hq : ∀ q : Nat, q < u.heap.size → q < b0 → U.heap[q]? = u.heap[q]?) (h : ax_sz b0 u) : ax_sz b0 U := ⟨ax_s1z_kept hvm hq h.1, ax_s1z_kept hvm hq h.2⟩
/-- what a method stands on at its start -/
def ax_cx (D : va_G) (cA : Nat → ClassId) (b b0 : Nat) (S : (Nat × Nat) × (Nat → Int32)) (k : Nat) (p : Program) (R : Room) (s : State) (m : MethodId) (meth : Method) (c : Code) : Prop :=
  p.tables.exec = Jvm.exec ∧ c.code = ax_by k ∧ c.maxLocals = ax_ml k ∧ s.vm.findClass (ax_ow k) = some m.cls ∧ (ax_nm k = "<init>" → meth.name = "<init>") ∧ meth.sig.returnType = ax_rt k ∧ meth.locks = false ∧ ax_tb s ∧ ax_K D cA s ∧ ax_sz b0 s ∧ (k = 0 → ax_scr b b0 S s) ∧ ax_fr k ≤ R.frames ∧ ax_lo k ≤ R.locals ∧ b0 ≤ s.heap.size
theorem ax_d1_of {cc : ByteArray} {pc n : Nat} {i : Instr} {l : Nat} (h : ax_d1 cc pc n i l = true) : decode cc pc = .ok (i, l) ∧ n = l := of_decide_eq_true h
set_option maxHeartbeats 1000000 in
theorem ax_step_mono {k pc q : Nat} {r : ax_R} {ls ls' : ax_L} {st st' : List Value} {h h' : ax_H} (hs : ax_step k pc r ls st h = some (q, ls', st', h')) : ls'.length = ls.length ∧ h.1.1 ≤ h'.1.1 ∧ h.1.2 ≤ h'.1.2 := by
  unfold ax_step at hs
  split at hs
  all_goals (try unfold ax_s1 at hs) <;> (try unfold ax_s2 at hs) <;> (try unfold ax_s3 at hs) <;> (try unfold ax_s4 at hs) <;> (try unfold ax_s5 at hs) <;> (try unfold ax_s6 at hs) <;> (try unfold ax_s7 at hs) <;> (try unfold ax_s8 at hs) <;> (try unfold ax_s10 at hs) <;> (try unfold ax_s11 at hs) <;> (try unfold ax_s12 at hs) <;> (try unfold ax_s13 at hs) <;> (try unfold ax_s15 at hs) <;> (try unfold ax_s17 at hs) <;> (try unfold ax_s19 at hs) <;> (try unfold ax_s19s at hs) <;> (try unfold ax_s20 at hs) <;> (try unfold ax_s23 at hs) <;> (try unfold ax_s24 at hs) <;> (try unfold ax_s25 at hs) <;> (try unfold ax_s26 at hs) <;> (try unfold ax_s27 at hs) <;> (try unfold ax_s28 at hs) <;> (try unfold ax_s29 at hs) <;> (try unfold ax_s30 at hs) <;> (try unfold ax_s31 at hs) <;> (try unfold ax_s32 at hs) <;> (try unfold ax_s33 at hs)
  all_goals (repeat' split at hs)
  all_goals first
    | (cases hs; done)
    | (cases hs; exact ⟨by simp, Nat.le_refl _, Nat.le_refl _⟩)
    | (cases hs; exact ⟨rfl, Nat.le_succ _, Nat.le_add_right _ _⟩)
    | (obtain ⟨v, -, e⟩ := Option.map_eq_some_iff.mp hs; cases e; exact ⟨rfl, Nat.le_refl _, Nat.le_refl _⟩)
section AxGo
variable {p : Program} {l : Launch} {e : Env} {R : Room} {s : State} {m : MethodId} {args : Array Value} {below : List Frame} {meth : Method} {c : Code} {H : Heap} {locs : List Loc} {cells slots : Nat} {Q : State → Prop}
variable {pc q : Nat} {C : Array Slot} {b b0 : Nat} {ls ls' : ax_L} {st st' : List Value} {h h' : ax_H} {D : va_G} {cA : Nat → ClassId} {S : (Nat × Nat) × (Nat → Int32)}
theorem ax_go {k op n x y : Nat} {v : Int} (X : ax_cx D cA b b0 S k p R s m meth c) (hrow : ax_rc k pc op n x y v = true) (hs : ax_step k pc (op, n, x, y, v) ls st h = some (q, ls', st', h')) (hln : ls.length = ax_ml k) (hr : ax_rel D cA b b0 S h H) (hS : va_S (fun q => b0 ≤ q) s.heap H locs) (hl : ax_lv b b0 ls C)
    (hcl : cells + (h'.1.1 - h.1.1) ≤ R.cells) (hsl : slots + (h'.1.2 - h.1.2) ≤ R.slots)
    (kk : ∀ (H1 : Heap) (locs1 : List Loc) (C1 : Array Slot), ax_rel D cA b b0 S h' H1 → va_S (fun q => b0 ≤ q) s.heap H1 locs1 → ax_lv b b0 ls' C1 → W p l e R s m args below meth c H1 locs1 (cells + (h'.1.1 - h.1.1)) (slots + (h'.1.2 - h.1.2)) Q (F0 m q C1 (st'.map (ax_cv b b0)))) : W p l e R s m args below meth c H locs cells slots Q (F0 m pc C (st.map (ax_cv b b0))) := by
  obtain ⟨hx, hb, hml, hown, hnm, -, -, htb, hK, -, hsc, hfr, hlo, -⟩ := X
  have hts : ∀ w ∈ lw_tbl, w.onTables = true → w.before args s = true := fun w hw ho => va_tabs ho rfl (htb.1 w hw ho)
  have k0 : h' = h → ∀ (H1 : Heap) (locs1 : List Loc) (C1 : Array Slot), ax_rel D cA b b0 S h' H1 → va_S (fun q => b0 ≤ q) s.heap H1 locs1 → ax_lv b b0 ls' C1 → W p l e R s m args below meth c H1 locs1 cells slots Q (F0 m q C1 (st'.map (ax_cv b b0))) := by
    intro eh H1 locs1 C1 a1 a2 a3
    have := kk H1 locs1 C1 a1 a2 a3
    rw [eh] at this
    simpa only [Nat.sub_self, Nat.add_zero] using this
  have k1 : h'.1 = h.1 → ∀ (H1 : Heap) (locs1 : List Loc) (C1 : Array Slot), ax_rel D cA b b0 S h' H1 → va_S (fun q => b0 ≤ q) s.heap H1 locs1 → ax_lv b b0 ls' C1 → W p l e R s m args below meth c H1 locs1 cells slots Q (F0 m q C1 (st'.map (ax_cv b b0))) := by
    intro eh H1 locs1 C1 a1 a2 a3
    have := kk H1 locs1 C1 a1 a2 a3
    rw [eh] at this
    simpa only [Nat.sub_self, Nat.add_zero] using this
  have kE : ls' = ls → h' = h → W p l e R s m args below meth c H locs cells slots Q (F0 m q C (st'.map (ax_cv b b0))) := fun e1 e2 => k0 e2 H locs C (by rw [e2]; exact hr) hS (by rw [e1]; exact hl)
  have kL : ∀ C', ax_lv b b0 ls' C' → h' = h → W p l e R s m args below meth c H locs cells slots Q (F0 m q C' (st'.map (ax_cv b b0))) := fun C' e1 e2 => k0 e2 H locs C' (by rw [e2]; exact hr) hS e1
  have kP : ∀ (H1 : Heap) (locs1 : List Loc), ls' = ls → h'.1 = h.1 → ax_rel D cA b b0 S h' H1 → va_S (fun q => b0 ≤ q) s.heap H1 locs1 → W p l e R s m args below meth c H1 locs1 cells slots Q (F0 m q C (st'.map (ax_cv b b0))) := fun H1 l1 e1 e2 a1 a2 => k1 e2 H1 l1 C a1 a2 (by rw [e1]; exact hl)
  have kN : ∀ (H1 : Heap), ls' = ls → ax_rel D cA b b0 S h' H1 → va_S (fun q => b0 ≤ q) s.heap H1 locs → W p l e R s m args below meth c H1 locs (cells + (h'.1.1 - h.1.1)) (slots + (h'.1.2 - h.1.2)) Q (F0 m q C (st'.map (ax_cv b b0))) := fun H1 e1 a1 a2 => kk H1 locs C a1 a2 (by rw [e1]; exact hl)
  have hCs : C.size = c.maxLocals := by rw [hl.1, hln, hml]
  have lkF : ∀ {L : List (Nat × Nat × Nat × Nat × Nat)}, True := trivial
  match op, hrow, hs with
  | 0, hrow, hs =>
    cases hs
    have hd : (decide (decode (ax_by k) pc = .ok (.iconst v, 1) ∧ n = 1) || (decide (decode (ax_by k) pc = .ok (.bipush v, 2) ∧ n = 2 ∧ (Int8.ofInt v).toInt32 = Int32.ofInt v) || decide (decode (ax_by k) pc = .ok (.sipush v, 3) ∧ n = 3 ∧ (Int16.ofInt v).toInt32 = Int32.ofInt v))) = true := hrow
    rw [Bool.or_eq_true, Bool.or_eq_true, decide_eq_true_eq, decide_eq_true_eq, decide_eq_true_eq] at hd
    exact ax_o0 hx hb hd (kE rfl rfl)
  | 1, hrow, hs => exact ax_o1 hx hb hl (ax_ld_of hrow) hs kE
  | 2, hrow, hs => exact ax_o2 hx hb hl (ax_ld_of hrow) hs kE
  | 3, hrow, hs => exact ax_o3 hx hb hl (ax_ld_of hrow) hs kL
  | 4, hrow, hs => exact ax_o4 hx hb hl (ax_ld_of hrow) hs kL
  | 5, hrow, hs =>
    obtain ⟨d, rfl⟩ := ax_d1_of hrow
    exact ax_o5 hx hb hl d hs kL
  | 6, hrow, hs =>
    obtain ⟨d, rfl⟩ := ax_d1_of hrow
    exact ax_o6 hx hb d hs kE
  | 7, hrow, hs =>
    obtain ⟨d, rfl⟩ := ax_d1_of hrow
    exact ax_o7 hx hb d hs kE
  | 8, hrow, hs =>
    obtain ⟨d, rfl⟩ := ax_d1_of hrow
    exact ax_o8 hx hb d hs kE
  | 9, hrow, hs =>
    have hd : (if h : x < 2 then ax_d1 (ax_by k) pc n (.lconst ⟨x, h⟩) 1 else false) = true := hrow
    split at hd
    · rename_i h2
      obtain ⟨d, rfl⟩ := ax_d1_of hd
      cases hs
      exact ax_o9 hx hb ⟨⟨x, h2⟩, rfl, d⟩ (kE rfl rfl)
    · cases hd
  | 10, hrow, hs =>
    obtain ⟨d, rfl⟩ := ax_d1_of hrow
    exact ax_o10 hx hb d hs kE
  | 11, hrow, hs =>
    obtain ⟨d, rfl⟩ := ax_d1_of hrow
    exact ax_o11 hx hb d hs kE
  | 12, hrow, hs =>
    obtain ⟨d, rfl⟩ := ax_d1_of hrow
    exact ax_o12 hx hb d hs kE
  | 13, hrow, hs =>
    obtain ⟨d, rfl⟩ := ax_d1_of hrow
    exact ax_o13 hx hb d hs kE
  | 14, hrow, hs =>
    obtain ⟨d, rfl⟩ := ax_d1_of hrow
    cases hs
    exact ax_o14 hx hb d (kE rfl rfl)
  | 15, hrow, hs =>
    have hrow : (ax_d1 (ax_by k) pc n (.getfield v.toNat) 3 && ax_lk ax_Lf (ax_wn k) v x y) = true := hrow
    rw [Bool.and_eq_true] at hrow
    obtain ⟨d, rfl⟩ := ax_d1_of hrow.1
    obtain ⟨w, hw, e1, e2, e3, e4⟩ := ax_lk_of hrow.2
    have hw := ax_Lf_in hw
    rw [e1, e2, e3, e4] at hw
    exact ax_o15 hx hb hown hts hK hr d (hts _ hw rfl) hs kE
  | 16, hrow, hs =>
    have hrow : (ax_d1 (ax_by k) pc n (.getfield v.toNat) 3 && ax_lk ax_Lg (ax_wn k) v x y) = true := hrow
    rw [Bool.and_eq_true] at hrow
    obtain ⟨d, rfl⟩ := ax_d1_of hrow.1
    obtain ⟨w, hw, e1, e2, e3, e4⟩ := ax_lk_of hrow.2
    have hw := ax_Lg_in hw
    rw [e1, e2, e3, e4] at hw
    exact ax_o16 hx hb hown hts hK hr d (hts _ hw rfl) hs kE
  | 17, hrow, hs =>
    have hrow : (ax_d1 (ax_by k) pc n (.putfield v.toNat) 3 && decide ((ax_Tf x y).2.2.2 = false) && ax_lk ax_Lf (ax_wn k) v x y) = true := hrow
    rw [Bool.and_eq_true, Bool.and_eq_true, decide_eq_true_eq] at hrow
    obtain ⟨d, rfl⟩ := ax_d1_of hrow.1.1
    obtain ⟨w, hw, e1, e2, e3, e4⟩ := ax_lk_of hrow.2
    have hw := ax_Lf_in hw
    rw [e1, e2, e3, e4] at hw
    exact ax_o17 hx hb hown hts hK hr hS (Or.inl hrow.1.2) d (hts _ hw rfl) hs kP
  | 18, hrow, hs =>
    have hrow : (ax_d1 (ax_by k) pc n (.putfield v.toNat) 3 && decide ((ax_Tf x y).2.2.2 = true ∧ ax_nm k = "<init>" ∧ ax_cn x = ax_ow k) && ax_lk ax_Lf (ax_wn k) v x y) = true := hrow
    rw [Bool.and_eq_true, Bool.and_eq_true, decide_eq_true_eq] at hrow
    obtain ⟨d, rfl⟩ := ax_d1_of hrow.1.1
    obtain ⟨w, hw, e1, e2, e3, e4⟩ := ax_lk_of hrow.2
    have hw := ax_Lf_in hw
    rw [e1, e2, e3, e4] at hw
    exact ax_o17 hx hb hown hts hK hr hS (Or.inr ⟨hrow.1.2.1, hnm hrow.1.2.2.1, hrow.1.2.2.2⟩) d (hts _ hw rfl) hs kP
  | 19, hrow, hs =>
    obtain ⟨d, rfl⟩ := ax_d1_of hrow
    exact ax_o19 hx hb hK hr (Or.inl ⟨rfl, d⟩) hs kE
  | 20, hrow, hs =>
    obtain ⟨d, rfl⟩ := ax_d1_of hrow
    exact ax_o20 hx hb hK hr hS (Or.inl ⟨rfl, d⟩) hs kP
  | 21, hrow, hs =>
    obtain ⟨d, rfl⟩ := ax_d1_of hrow
    exact ax_o19 hx hb hK hr (Or.inr ⟨rfl, d⟩) hs kE
  | 22, hrow, hs =>
    obtain ⟨d, rfl⟩ := ax_d1_of hrow
    exact ax_o20 hx hb hK hr hS (Or.inr ⟨rfl, d⟩) hs kP
  | 23, hrow, hs =>
    obtain ⟨d, rfl⟩ := ax_d1_of hrow
    exact ax_o23 hx hb hK hr d hs kE
  | 24, hrow, hs =>
    obtain ⟨d, rfl⟩ := ax_d1_of hrow
    exact ax_o24 hx hb hK hr hS d hs kP
  | 25, hrow, hs =>
    obtain ⟨d, rfl⟩ := ax_d1_of hrow
    exact ax_o25 hx hb hK hr d hs kE
  | 26, hrow, hs =>
    obtain ⟨d, rfl⟩ := ax_d1_of hrow
    exact ax_o26 hx hb hK hr hS d hs kP
  | 27, hrow, hs =>
    obtain ⟨d, rfl⟩ := ax_d1_of hrow
    exact ax_o27 hx hb hsc hK hr hS d hs kE
  | 28, hrow, hs =>
    have hrow : (ax_d1 (ax_by k) pc n (.new v.toNat) 3 && ax_lk ax_Lc (ax_wn k) v x 0) = true := hrow
    rw [Bool.and_eq_true] at hrow
    obtain ⟨d, rfl⟩ := ax_d1_of hrow.1
    obtain ⟨w, hw, e1, e2, e3, e4⟩ := ax_lk_of hrow.2
    have hw := ax_Lc_in hw
    rw [e1, e2, e3] at hw
    exact ax_o28 hx hb hown hts hK hr hS d (hts _ hw rfl) hs hcl hsl kN
  | 29, hrow, hs =>
    obtain ⟨d, rfl⟩ := ax_d1_of hrow
    exact ax_o29 hx hb htb.2.1 hK hr hS d hs hcl hsl kN
  | 30, hrow, hs =>
    have hrow : (ax_d1 (ax_by k) pc n (.anewarray v.toNat) 3 && ax_lk ax_Lc (ax_wn k) v x 0) = true := hrow
    rw [Bool.and_eq_true] at hrow
    obtain ⟨d, rfl⟩ := ax_d1_of hrow.1
    obtain ⟨w, hw, e1, e2, e3, e4⟩ := ax_lk_of hrow.2
    have hw := ax_Lc_in hw
    rw [e1, e2, e3] at hw
    exact ax_o30 hx hb hown htb.2.2.1 hK hr hS d (hts _ hw rfl) hs hcl hsl kN
  | 31, hrow, hs =>
    have hrow : (ax_d1 (ax_by k) pc n (.invokespecial v.toNat) 3 && ax_lk ax_Lo (ax_wn k) v 0 0 && decide (1 ≤ ax_fr k ∧ 20 ≤ ax_lo k)) = true := hrow
    rw [Bool.and_eq_true, Bool.and_eq_true, decide_eq_true_eq] at hrow
    obtain ⟨d, rfl⟩ := ax_d1_of hrow.1.1
    obtain ⟨w, hw, e1, e2, e3, e4⟩ := ax_lk_of hrow.1.2
    have hw := ax_Lo_in hw
    rw [e1, e2] at hw
    exact ax_o31 hx hb hown hCs d (hts _ hw rfl) (hts _ (List.mem_of_getElem? (i := 70) (by decide +kernel)) rfl) (hts _ (List.mem_of_getElem? (i := 71) (by decide +kernel)) rfl) (Nat.le_trans hrow.2.1 hfr) (Nat.le_trans hrow.2.2 hlo) hs kE
  | 32, hrow, hs =>
    have hrow : (ax_d1 (ax_by k) pc n (.invokestatic v.toNat) 3 && ax_lk ax_La (ax_wn k) v 0 0 && decide (1 ≤ ax_fr k ∧ nativeFrameWords "java/lang/System" "arraycopy" 5 + 11 ≤ ax_lo k)) = true := hrow
    rw [Bool.and_eq_true, Bool.and_eq_true, decide_eq_true_eq] at hrow
    obtain ⟨d, rfl⟩ := ax_d1_of hrow.1.1
    obtain ⟨w, hw, e1, e2, e3, e4⟩ := ax_lk_of hrow.1.2
    have hw := ax_La_in hw
    rw [e1, e2] at hw
    exact ax_o32 hx hb hown hCs.symm hK hr hS d (hts _ hw rfl) (hts _ (List.mem_of_getElem? (i := 543) (by decide +kernel)) rfl) (hts _ (List.mem_of_getElem? (i := 542) (by decide +kernel)) rfl) (hts _ (List.mem_of_getElem? (i := 63) (by decide +kernel)) rfl) (Nat.le_trans hrow.2.1 hfr) (Nat.le_trans hrow.2.2 hlo) hs kP
  | 33, hrow, hs => exact ax_o33 hx hb (of_decide_eq_true hrow) hs kE
  | 34, hrow, hs =>
    obtain ⟨d, rfl⟩ := ax_d1_of hrow
    exact ax_o34 hx hb hsc hr hS d hs kE
  | op + 35, hrow, hs => cases hs
end AxGo
