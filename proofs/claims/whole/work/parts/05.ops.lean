/-! which instructions a row may stand for -/
def ax_i6 (x : Nat) : Instr := match x with
  | 0 => .iadd
  | 1 => .isub
  | 2 => .imul
  | 3 => .iand
  | 4 => .ior
  | 5 => .ixor
  | 6 => .ishl
  | _ => .ishr
def ax_i12 (x : Nat) (o : Int) : Instr := match x with
  | 0 => .ifCond .eq o
  | 1 => .ifCond .ne o
  | 2 => .ifCond .lt o
  | 3 => .ifCond .ge o
  | 4 => .ifCond .gt o
  | _ => .ifCond .le o
def ax_i13 (x : Nat) (o : Int) : Instr := match x with
  | 0 => .if_icmp .eq o
  | 1 => .if_icmp .ne o
  | 2 => .if_icmp .lt o
  | 3 => .if_icmp .ge o
  | 4 => .if_icmp .gt o
  | _ => .if_icmp .le o
def ax_at (x : Nat) : ArrayType := match x with
  | 20 => .int
  | 21 => .boolean
  | _ => .long
def ax_i33 (pc : Nat) (w : Int × List Nat × Nat) : Instr := .tableswitch ((w.2.2 : Int) - pc) w.1 (w.1 + w.2.1.length - 1) (w.2.1.map fun (t : Nat) => (t : Int) - pc).toArray
section AxG
variable {p : Program} {l : Launch} {e : Env} {R : Room} {s : State} {m : MethodId} {args : Array Value} {below : List Frame} {meth : Method} {c : Code} {H : Heap} {locs : List Loc} {cells slots : Nat} {Q : State → Prop}
variable {cc : ByteArray} {pc q : Nat} {C : Array Slot} {b b0 : Nat} {ls ls' : ax_L} {st st' : List Value} {h h' : ax_H}
theorem ax_o0 (hx : p.tables.exec = Jvm.exec) (hb : c.code = cc) {v : Int} {n : Nat} (hd : (decode cc pc = .ok (.iconst v, 1) ∧ n = 1) ∨ (decode cc pc = .ok (.bipush v, 2) ∧ n = 2 ∧ (Int8.ofInt v).toInt32 = Int32.ofInt v) ∨ (decode cc pc = .ok (.sipush v, 3) ∧ n = 3 ∧ (Int16.ofInt v).toInt32 = Int32.ofInt v))
    (kk : W p l e R s m args below meth c H locs cells slots Q (F0 m (pc + n) C ((Value.int (Int32.ofInt v) :: st).map (ax_cv b b0)))) : W p l e R s m args below meth c H locs cells slots Q (F0 m pc C (st.map (ax_cv b b0))) := by
  rcases hd with ⟨d, rfl⟩ | ⟨d, rfl, e1⟩ | ⟨d, rfl, e1⟩
  · exact lv_iconst hx hb d rfl kk
  · exact lv_bipush hx hb d e1 kk
  · exact lv_sipush hx hb d e1 kk
theorem ax_o1 (hx : p.tables.exec = Jvm.exec) (hb : c.code = cc) {x n : Nat} (hl : ax_lv b b0 ls C) (hd : (∃ k : Fin 4, (k : Nat) = x ∧ decode cc pc = .ok (.iload_n k, 1) ∧ n = 1) ∨ (decode cc pc = .ok (.iload x, 2) ∧ n = 2)) (hs : ax_s1 (pc + n) ls st h x = some (q, ls', st', h'))
    (kk : ls' = ls → h' = h → W p l e R s m args below meth c H locs cells slots Q (F0 m q C (st'.map (ax_cv b b0)))) : W p l e R s m args below meth c H locs cells slots Q (F0 m pc C (st.map (ax_cv b b0))) := by
  unfold ax_s1 at hs
  split at hs
  · rename_i a ha
    cases hs
    have hv := (hl.2.2 x _ ha).2
    rcases hd with ⟨k, e1, d, rfl⟩ | ⟨d, rfl⟩
    · exact lv_iload_n hx hb d e1 hv (kk rfl rfl)
    · exact lv_iload hx hb d hv (kk rfl rfl)
  · cases hs
theorem ax_o2 (hx : p.tables.exec = Jvm.exec) (hb : c.code = cc) {x n : Nat} (hl : ax_lv b b0 ls C) (hd : (∃ k : Fin 4, (k : Nat) = x ∧ decode cc pc = .ok (.aload_n k, 1) ∧ n = 1) ∨ (decode cc pc = .ok (.aload x, 2) ∧ n = 2)) (hs : ax_s2 (pc + n) ls st h x = some (q, ls', st', h'))
    (kk : ls' = ls → h' = h → W p l e R s m args below meth c H locs cells slots Q (F0 m q C (st'.map (ax_cv b b0)))) : W p l e R s m args below meth c H locs cells slots Q (F0 m pc C (st.map (ax_cv b b0))) := by
  unfold ax_s2 at hs
  split at hs
  · rename_i a ha
    cases hs
    have hv := (hl.2.2 x _ ha).2
    rcases hd with ⟨k, e1, d, rfl⟩ | ⟨d, rfl⟩
    · exact lv_aload_n hx hb d e1 hv (kk rfl rfl)
    · exact lv_aload hx hb d hv (kk rfl rfl)
  · cases hs
theorem ax_o3 (hx : p.tables.exec = Jvm.exec) (hb : c.code = cc) {x n : Nat} (hl : ax_lv b b0 ls C) (hd : (∃ k : Fin 4, (k : Nat) = x ∧ decode cc pc = .ok (.istore_n k, 1) ∧ n = 1) ∨ (decode cc pc = .ok (.istore x, 2) ∧ n = 2)) (hs : ax_s3 (pc + n) ls st h x = some (q, ls', st', h'))
    (kk : ∀ C', ax_lv b b0 ls' C' → h' = h → W p l e R s m args below meth c H locs cells slots Q (F0 m q C' (st'.map (ax_cv b b0)))) : W p l e R s m args below meth c H locs cells slots Q (F0 m pc C (st.map (ax_cv b b0))) := by
  unfold ax_s3 at hs
  split at hs
  · rename_i a r
    split at hs
    · rename_i hx2
      cases hs
      rcases hd with ⟨k, e1, d, rfl⟩ | ⟨d, rfl⟩
      · exact lv_istore_n hx hb d e1 (ax_lv_has hl) hx2 rfl (fun C' hC => kk C' (ax_lv_put (v := .int a) hl hx2 rfl hC) rfl)
      · exact lv_istore hx hb d (ax_lv_has hl) hx2 rfl (fun C' hC => kk C' (ax_lv_put (v := .int a) hl hx2 rfl hC) rfl)
    · cases hs
  · cases hs
theorem ax_o4 (hx : p.tables.exec = Jvm.exec) (hb : c.code = cc) {x n : Nat} (hl : ax_lv b b0 ls C) (hd : (∃ k : Fin 4, (k : Nat) = x ∧ decode cc pc = .ok (.astore_n k, 1) ∧ n = 1) ∨ (decode cc pc = .ok (.astore x, 2) ∧ n = 2)) (hs : ax_s4 (pc + n) ls st h x = some (q, ls', st', h'))
    (kk : ∀ C', ax_lv b b0 ls' C' → h' = h → W p l e R s m args below meth c H locs cells slots Q (F0 m q C' (st'.map (ax_cv b b0)))) : W p l e R s m args below meth c H locs cells slots Q (F0 m pc C (st.map (ax_cv b b0))) := by
  unfold ax_s4 at hs
  split at hs
  · rename_i a r
    split at hs
    · rename_i hx2
      cases hs
      rcases hd with ⟨k, e1, d, rfl⟩ | ⟨d, rfl⟩
      · exact lv_astore_n hx hb d e1 (ax_lv_has hl) hx2 rfl (fun C' hC => kk C' (ax_lv_put (v := .ref a) hl hx2 rfl hC) rfl)
      · exact lv_astore hx hb d (ax_lv_has hl) hx2 rfl (fun C' hC => kk C' (ax_lv_put (v := .ref a) hl hx2 rfl hC) rfl)
    · cases hs
  · cases hs
theorem ax_o5 (hx : p.tables.exec = Jvm.exec) (hb : c.code = cc) {x : Nat} {v : Int} (hl : ax_lv b b0 ls C) (hd : decode cc pc = .ok (.iinc x v, 3)) (hs : ax_s5 (pc + 3) ls st h x v = some (q, ls', st', h'))
    (kk : ∀ C', ax_lv b b0 ls' C' → h' = h → W p l e R s m args below meth c H locs cells slots Q (F0 m q C' (st'.map (ax_cv b b0)))) : W p l e R s m args below meth c H locs cells slots Q (F0 m pc C (st.map (ax_cv b b0))) := by
  unfold ax_s5 at hs
  split at hs
  · rename_i a ha
    cases hs
    have hx2 : x < ls.length := (List.getElem?_eq_some_iff.mp ha).1
    obtain ⟨k, hk⟩ := List.getElem?_of_mem (ax_al_mem (b := b) (b0 := b0) (v := .int a)|>.mpr ⟨_, ha, rfl⟩)
    exact lv_iinc hx hb hd (ax_lv_has hl) hk rfl hx2 rfl (fun C' hC => kk C' (ax_lv_put (v := .int (a + Int32.ofInt v)) hl hx2 rfl hC) rfl)
  · cases hs
theorem ax_o6 (hx : p.tables.exec = Jvm.exec) (hb : c.code = cc) {x : Nat} (hd : decode cc pc = .ok (ax_i6 x, 1)) (hs : ax_s6 (pc + 1) ls st h x = some (q, ls', st', h'))
    (kk : ls' = ls → h' = h → W p l e R s m args below meth c H locs cells slots Q (F0 m q C (st'.map (ax_cv b b0)))) : W p l e R s m args below meth c H locs cells slots Q (F0 m pc C (st.map (ax_cv b b0))) := by
  unfold ax_s6 at hs
  split at hs
  · rename_i y a r
    cases hs
    have kk := kk rfl rfl
    unfold ax_i6 at hd
    unfold ax_bin at kk
    split at hd
    · exact lv_iadd hx hb hd kk
    · exact lv_isub hx hb hd kk
    · exact lv_imul hx hb hd kk
    · exact lv_iand hx hb hd kk
    · exact lv_ior hx hb hd kk
    · exact lv_ixor hx hb hd kk
    · exact lv_ishl hx hb hd kk
    · rename_i n0 n1 n2 n3 n4 n5 n6
      split at kk
      all_goals first | (exact absurd rfl n0) | (exact absurd rfl n1) | (exact absurd rfl n2) | (exact absurd rfl n3) | (exact absurd rfl n4) | (exact absurd rfl n5) | (exact absurd rfl n6) | exact lv_ishr hx hb hd kk
  · cases hs
theorem ax_o7 (hx : p.tables.exec = Jvm.exec) (hb : c.code = cc) (hd : decode cc pc = .ok (.i2l, 1)) (hs : ax_s7 (pc + 1) ls st h = some (q, ls', st', h'))
    (kk : ls' = ls → h' = h → W p l e R s m args below meth c H locs cells slots Q (F0 m q C (st'.map (ax_cv b b0)))) : W p l e R s m args below meth c H locs cells slots Q (F0 m pc C (st.map (ax_cv b b0))) := by
  unfold ax_s7 at hs
  split at hs
  · cases hs
    exact lv_i2l hx hb hd rfl (kk rfl rfl)
  · cases hs
theorem ax_o8 (hx : p.tables.exec = Jvm.exec) (hb : c.code = cc) (hd : decode cc pc = .ok (.lcmp, 1)) (hs : ax_s8 (pc + 1) ls st h = some (q, ls', st', h'))
    (kk : ls' = ls → h' = h → W p l e R s m args below meth c H locs cells slots Q (F0 m q C (st'.map (ax_cv b b0)))) : W p l e R s m args below meth c H locs cells slots Q (F0 m pc C (st.map (ax_cv b b0))) := by
  unfold ax_s8 at hs
  split at hs
  · cases hs
    exact W.lcmp hx hb hd (kk rfl rfl)
  · cases hs
theorem ax_o9 (hx : p.tables.exec = Jvm.exec) (hb : c.code = cc) {x : Nat} (hd : ∃ k : Fin 2, (k : Nat) = x ∧ decode cc pc = .ok (.lconst k, 1))
    (kk : W p l e R s m args below meth c H locs cells slots Q (F0 m (pc + 1) C ((Value.long (Int64.ofNat x) :: st).map (ax_cv b b0)))) : W p l e R s m args below meth c H locs cells slots Q (F0 m pc C (st.map (ax_cv b b0))) := by
  obtain ⟨k, rfl, d⟩ := hd
  exact lv_lconst hx hb d rfl kk
theorem ax_o10 (hx : p.tables.exec = Jvm.exec) (hb : c.code = cc) (hd : decode cc pc = .ok (.dup, 1)) (hs : ax_s10 (pc + 1) ls st h = some (q, ls', st', h'))
    (kk : ls' = ls → h' = h → W p l e R s m args below meth c H locs cells slots Q (F0 m q C (st'.map (ax_cv b b0)))) : W p l e R s m args below meth c H locs cells slots Q (F0 m pc C (st.map (ax_cv b b0))) := by
  unfold ax_s10 at hs
  split at hs
  · cases hs
    exact lv_dup hx hb hd rfl (kk rfl rfl)
  · cases hs
    exact lv_dup hx hb hd rfl (kk rfl rfl)
  · cases hs
theorem ax_o11 (hx : p.tables.exec = Jvm.exec) (hb : c.code = cc) (hd : decode cc pc = .ok (.dup2, 1)) (hs : ax_s11 (pc + 1) ls st h = some (q, ls', st', h'))
    (kk : ls' = ls → h' = h → W p l e R s m args below meth c H locs cells slots Q (F0 m q C (st'.map (ax_cv b b0)))) : W p l e R s m args below meth c H locs cells slots Q (F0 m pc C (st.map (ax_cv b b0))) := by
  unfold ax_s11 at hs
  split at hs
  · cases hs
    exact lv_dup2_11 hx hb hd rfl rfl (kk rfl rfl)
  · cases hs
theorem ax_o12 (hx : p.tables.exec = Jvm.exec) (hb : c.code = cc) {x y : Nat} (hd : decode cc pc = .ok (ax_i12 x ((y : Int) - pc), 3)) (hs : ax_s12 (pc + 3) ls st h x y = some (q, ls', st', h'))
    (kk : ls' = ls → h' = h → W p l e R s m args below meth c H locs cells slots Q (F0 m q C (st'.map (ax_cv b b0)))) : W p l e R s m args below meth c H locs cells slots Q (F0 m pc C (st.map (ax_cv b b0))) := by
  unfold ax_s12 at hs
  have ht : (pc : Int) + ((y : Int) - pc) = (y : Int) := by omega
  split at hs
  · rename_i a r
    cases hs
    have kk := kk rfl rfl
    unfold ax_i12 at hd
    unfold ax_c1 at kk
    split at hd
    · exact lv_if_eq hx hb hd ht (fun z => by simpa [z] using kk) (fun z => by simpa [z] using kk)
    · exact lv_if_ne hx hb hd ht (fun z => by simpa [z] using kk) (fun z => by simpa [z] using kk)
    · exact lv_if_lt hx hb hd ht (fun z => by simpa [z] using kk) (fun z => by simpa [z] using kk)
    · exact lv_if_ge hx hb hd ht (fun z => by simpa [z] using kk) (fun z => by simpa [z] using kk)
    · exact lv_if_gt hx hb hd ht (fun z => by simpa [z] using kk) (fun z => by simpa [z] using kk)
    · rename_i n0 n1 n2 n3 n4
      split at kk
      all_goals first | (exact absurd rfl n0) | (exact absurd rfl n1) | (exact absurd rfl n2) | (exact absurd rfl n3) | (exact absurd rfl n4) | exact lv_if_le hx hb hd ht (fun z => by simpa [z] using kk) (fun z => by simpa [z] using kk)
  · cases hs
theorem ax_o13 (hx : p.tables.exec = Jvm.exec) (hb : c.code = cc) {x y : Nat} (hd : decode cc pc = .ok (ax_i13 x ((y : Int) - pc), 3)) (hs : ax_s13 (pc + 3) ls st h x y = some (q, ls', st', h'))
    (kk : ls' = ls → h' = h → W p l e R s m args below meth c H locs cells slots Q (F0 m q C (st'.map (ax_cv b b0)))) : W p l e R s m args below meth c H locs cells slots Q (F0 m pc C (st.map (ax_cv b b0))) := by
  unfold ax_s13 at hs
  have ht : (pc : Int) + ((y : Int) - pc) = (y : Int) := by omega
  split at hs
  · rename_i w a r
    cases hs
    have kk := kk rfl rfl
    unfold ax_i13 at hd
    unfold ax_c2 at kk
    split at hd
    · exact lv_icmp_eq hx hb hd ht (fun z => by simpa [z] using kk) (fun z => by simpa [z] using kk)
    · exact lv_icmp_ne hx hb hd ht (fun z => by simpa [z] using kk) (fun z => by simpa [z] using kk)
    · exact lv_icmp_lt hx hb hd ht (fun z => by simpa [z] using kk) (fun z => by simpa [z] using kk)
    · exact lv_icmp_ge hx hb hd ht (fun z => by simpa [z] using kk) (fun z => by simpa [z] using kk)
    · exact lv_icmp_gt hx hb hd ht (fun z => by simpa [z] using kk) (fun z => by simpa [z] using kk)
    · rename_i n0 n1 n2 n3 n4
      split at kk
      all_goals first | (exact absurd rfl n0) | (exact absurd rfl n1) | (exact absurd rfl n2) | (exact absurd rfl n3) | (exact absurd rfl n4) | exact lv_icmp_le hx hb hd ht (fun z => by simpa [z] using kk) (fun z => by simpa [z] using kk)
  · cases hs
theorem ax_o14 (hx : p.tables.exec = Jvm.exec) (hb : c.code = cc) {y : Nat} (hd : decode cc pc = .ok (.goto ((y : Int) - pc), 3))
    (kk : W p l e R s m args below meth c H locs cells slots Q (F0 m y C (st.map (ax_cv b b0)))) : W p l e R s m args below meth c H locs cells slots Q (F0 m pc C (st.map (ax_cv b b0))) :=
  lv_goto hx hb hd (by omega) kk
theorem ax_o33 (hx : p.tables.exec = Jvm.exec) (hb : c.code = cc) {w : Int × List Nat × Nat} {n : Nat} (hd : decode cc pc = .ok (ax_i33 pc w, n)) (hs : ax_s33 ls st h w = some (q, ls', st', h'))
    (kk : ls' = ls → h' = h → W p l e R s m args below meth c H locs cells slots Q (F0 m q C (st'.map (ax_cv b b0)))) : W p l e R s m args below meth c H locs cells slots Q (F0 m pc C (st.map (ax_cv b b0))) := by
  unfold ax_s33 at hs
  split at hs
  · rename_i a r
    cases hs
    have kk := kk rfl rfl
    unfold ax_i33 at hd
    by_cases h1 : a.toInt < w.1
    · rw [if_pos h1] at kk
      exact lv_tableOut hx hb hd (Or.inl h1) (by omega) kk
    · rw [if_neg h1] at kk
      by_cases h2 : (a.toInt - w.1).toNat < w.2.1.length
      · rw [List.getElem?_eq_getElem h2, Option.getD_some] at kk
        exact lv_tableIn hx hb hd h1 (by omega) (off := (w.2.1[(a.toInt - w.1).toNat] : Int) - pc) (by simp [h2]) (by omega) kk
      · rw [List.getElem?_eq_none (by omega), Option.getD_none] at kk
        exact lv_tableOut hx hb hd (Or.inr (by omega)) (by omega) kk
  · cases hs
end AxG
