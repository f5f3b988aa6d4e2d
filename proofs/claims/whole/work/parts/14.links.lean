theorem ax_ck : ∀ k, k < 138 → (ax_tab k).all (ax_rca k) = true := by
  intro k h
  match k, h with
  | 0, _ => exact ax_k0
  | 1, _ => exact ax_k1
  | 2, _ => exact ax_k2
  | 3, _ => exact ax_k3
  | 4, _ => exact ax_k4
  | 5, _ => exact ax_k5
  | 6, _ => exact ax_k6
  | 7, _ => exact ax_k7
  | 8, _ => exact ax_k8
  | 9, _ => exact ax_k9
  | 10, _ => exact ax_k10
  | 11, _ => exact ax_k11
  | 12, _ => exact ax_k12
  | 13, _ => exact ax_k13
  | 14, _ => exact ax_k14
  | 15, _ => exact ax_k15
  | 16, _ => exact ax_k16
  | 17, _ => exact ax_k17
  | 18, _ => exact ax_k18
  | 19, _ => exact ax_k19
  | 20, _ => exact ax_k20
  | 21, _ => exact ax_k21
  | 22, _ => exact ax_k22
  | 23, _ => exact ax_k23
  | 24, _ => exact ax_k24
  | 25, _ => exact ax_k25
  | 26, _ => exact ax_k26
  | 27, _ => exact ax_k27
  | 28, _ => exact ax_k28
  | 29, _ => exact ax_k29
  | 30, _ => exact ax_k30
  | 31, _ => exact ax_k31
  | 32, _ => exact ax_k32
  | 33, _ => exact ax_k33
  | 34, _ => exact ax_k34
  | 35, _ => exact ax_k35
  | 36, _ => exact ax_k36
  | 37, _ => exact ax_k37
  | 38, _ => exact ax_k38
  | 39, _ => exact ax_k39
  | 40, _ => exact ax_k40
  | 41, _ => exact ax_k41
  | 42, _ => exact ax_k42
  | 43, _ => exact ax_k43
  | 44, _ => exact ax_k44
  | 45, _ => exact ax_k45
  | 46, _ => exact ax_k46
  | 47, _ => exact ax_k47
  | 48, _ => exact ax_k48
  | 49, _ => exact ax_k49
  | 50, _ => exact ax_k50
  | 51, _ => exact ax_k51
  | 52, _ => exact ax_k52
  | 53, _ => exact ax_k53
  | 54, _ => exact ax_k54
  | 55, _ => exact ax_k55
  | 56, _ => exact ax_k56
  | 57, _ => exact ax_k57
  | 58, _ => exact ax_k58
  | 59, _ => exact ax_k59
  | 60, _ => exact ax_k60
  | 61, _ => exact ax_k61
  | 62, _ => exact ax_k62
  | 63, _ => exact ax_k63
  | 64, _ => exact ax_k64
  | 65, _ => exact ax_k65
  | 66, _ => exact ax_k66
  | 67, _ => exact ax_k67
  | 68, _ => exact ax_k68
  | 69, _ => exact ax_k69
  | 70, _ => exact ax_k70
  | 71, _ => exact ax_k71
  | 72, _ => exact ax_k72
  | 73, _ => exact ax_k73
  | 74, _ => exact ax_k74
  | 75, _ => exact ax_k75
  | 76, _ => exact ax_k76
  | 77, _ => exact ax_k77
  | 78, _ => exact ax_k78
  | 79, _ => exact ax_k79
  | 80, _ => exact ax_k80
  | 81, _ => exact ax_k81
  | 82, _ => exact ax_k82
  | 83, _ => exact ax_k83
  | 84, _ => exact ax_k84
  | 85, _ => exact ax_k85
  | 86, _ => exact ax_k86
  | 87, _ => exact ax_k87
  | 88, _ => exact ax_k88
  | 89, _ => exact ax_k89
  | 90, _ => exact ax_k90
  | 91, _ => exact ax_k91
  | 92, _ => exact ax_k92
  | 93, _ => exact ax_k93
  | 94, _ => exact ax_k94
  | 95, _ => exact ax_k95
  | 96, _ => exact ax_k96
  | 97, _ => exact ax_k97
  | 98, _ => exact ax_k98
  | 99, _ => exact ax_k99
  | 100, _ => exact ax_k100
  | 101, _ => exact ax_k101
  | 102, _ => exact ax_k102
  | 103, _ => exact ax_k103
  | 104, _ => exact ax_k104
  | 105, _ => exact ax_k105
  | 106, _ => exact ax_k106
  | 107, _ => exact ax_k107
  | 108, _ => exact ax_k108
  | 109, _ => exact ax_k109
  | 110, _ => exact ax_k110
  | 111, _ => exact ax_k111
  | 112, _ => exact ax_k112
  | 113, _ => exact ax_k113
  | 114, _ => exact ax_k114
  | 115, _ => exact ax_k115
  | 116, _ => exact ax_k116
  | 117, _ => exact ax_k117
  | 118, _ => exact ax_k118
  | 119, _ => exact ax_k119
  | 120, _ => exact ax_k120
  | 121, _ => exact ax_k121
  | 122, _ => exact ax_k122
  | 123, _ => exact ax_k123
  | 124, _ => exact ax_k124
  | 125, _ => exact ax_k125
  | 126, _ => exact ax_k126
  | 127, _ => exact ax_k127
  | 128, _ => exact ax_k128
  | 129, _ => exact ax_k129
  | 130, _ => exact ax_k130
  | 131, _ => exact ax_k131
  | 132, _ => exact ax_k132
  | 133, _ => exact ax_k133
  | 134, _ => exact ax_k134
  | 135, _ => exact ax_k135
  | 136, _ => exact ax_k136
  | 137, _ => exact ax_k137
  | n + 138, h => exact absurd h (by omega)
theorem ax_lk_of {L : List (Nat × Nat × Nat × Nat × Nat)} {own : Nat} {v : Int} {x y : Nat} (h : ax_lk L own v x y = true) : ∃ q ∈ L, q.2.1 = own ∧ q.2.2.1 = v.toNat ∧ q.2.2.2.1 = x ∧ q.2.2.2.2 = y := by
  unfold ax_lk at h
  obtain ⟨q, hq, h2⟩ := List.any_eq_true.mp h
  simp only [Bool.and_eq_true, beq_iff_eq] at h2
  exact ⟨q, hq, h2.1, h2.2.1, h2.2.2.1, h2.2.2.2⟩
theorem ax_take_drop {α : Type} {f : α → Bool} (n : Nat) (l : List α) (h1 : (l.take n).all f = true) (h2 : (l.drop n).all f = true) : l.all f = true := by
  rw [← List.take_append_drop n l, List.all_append, h1, h2]; rfl
theorem ax_Lf_0 : ((ax_Lf.drop 0).take 40).all (fun q : Nat × Nat × Nat × Nat × Nat => decide (lw_tbl[q.1]? = some (Cond.fieldLink (ax_on q.2.1) q.2.2.1 (ax_cn q.2.2.2.1) (ax_Tf q.2.2.2.1 q.2.2.2.2).2.1 (ax_Tf q.2.2.2.1 q.2.2.2.2).2.2.1))) = true := by decide +kernel
theorem ax_Lf_1 : ((ax_Lf.drop 40).take 40).all (fun q : Nat × Nat × Nat × Nat × Nat => decide (lw_tbl[q.1]? = some (Cond.fieldLink (ax_on q.2.1) q.2.2.1 (ax_cn q.2.2.2.1) (ax_Tf q.2.2.2.1 q.2.2.2.2).2.1 (ax_Tf q.2.2.2.1 q.2.2.2.2).2.2.1))) = true := by decide +kernel
theorem ax_Lf_2 : ((ax_Lf.drop 80).take 40).all (fun q : Nat × Nat × Nat × Nat × Nat => decide (lw_tbl[q.1]? = some (Cond.fieldLink (ax_on q.2.1) q.2.2.1 (ax_cn q.2.2.2.1) (ax_Tf q.2.2.2.1 q.2.2.2.2).2.1 (ax_Tf q.2.2.2.1 q.2.2.2.2).2.2.1))) = true := by decide +kernel
theorem ax_Lf_all : ax_Lf.all (fun q : Nat × Nat × Nat × Nat × Nat => decide (lw_tbl[q.1]? = some (Cond.fieldLink (ax_on q.2.1) q.2.2.1 (ax_cn q.2.2.2.1) (ax_Tf q.2.2.2.1 q.2.2.2.2).2.1 (ax_Tf q.2.2.2.1 q.2.2.2.2).2.2.1))) = true := by
  refine ax_take_drop 40 _ ax_Lf_0 ?_
  show (ax_Lf.drop 40).all _ = true
  rw [show ax_Lf.drop 40 = ax_Lf.drop 40 from rfl]
  refine ax_take_drop 40 _ ax_Lf_1 ?_
  show (ax_Lf.drop 80).all _ = true
  rw [show ax_Lf.drop 80 = ax_Lf.drop 80 from rfl]
  refine ax_take_drop 40 _ ax_Lf_2 ?_
  rfl
theorem ax_Lf_in {q : Nat × Nat × Nat × Nat × Nat} (h : q ∈ ax_Lf) : Cond.fieldLink (ax_on q.2.1) q.2.2.1 (ax_cn q.2.2.2.1) (ax_Tf q.2.2.2.1 q.2.2.2.2).2.1 (ax_Tf q.2.2.2.1 q.2.2.2.2).2.2.1 ∈ lw_tbl := List.mem_of_getElem? (of_decide_eq_true (List.all_eq_true.mp ax_Lf_all q h))
theorem ax_Lg_0 : ((ax_Lg.drop 0).take 40).all (fun q : Nat × Nat × Nat × Nat × Nat => decide (lw_tbl[q.1]? = some (Cond.fieldLinkNest (ax_on q.2.1) q.2.2.1 (ax_cn q.2.2.2.1) (ax_Tf q.2.2.2.1 q.2.2.2.2).2.1 (ax_Tf q.2.2.2.1 q.2.2.2.2).2.2.1 "MakerGuard"))) = true := by decide +kernel
theorem ax_Lg_all : ax_Lg.all (fun q : Nat × Nat × Nat × Nat × Nat => decide (lw_tbl[q.1]? = some (Cond.fieldLinkNest (ax_on q.2.1) q.2.2.1 (ax_cn q.2.2.2.1) (ax_Tf q.2.2.2.1 q.2.2.2.2).2.1 (ax_Tf q.2.2.2.1 q.2.2.2.2).2.2.1 "MakerGuard"))) = true := by
  refine ax_take_drop 40 _ ax_Lg_0 ?_
  rfl
theorem ax_Lg_in {q : Nat × Nat × Nat × Nat × Nat} (h : q ∈ ax_Lg) : Cond.fieldLinkNest (ax_on q.2.1) q.2.2.1 (ax_cn q.2.2.2.1) (ax_Tf q.2.2.2.1 q.2.2.2.2).2.1 (ax_Tf q.2.2.2.1 q.2.2.2.2).2.2.1 "MakerGuard" ∈ lw_tbl := List.mem_of_getElem? (of_decide_eq_true (List.all_eq_true.mp ax_Lg_all q h))
theorem ax_Lm_0 : ((ax_Lm.drop 0).take 40).all (fun q : Nat × Nat × Nat × Nat × Nat => decide (lw_tbl[q.1]? = some (Cond.methodLink (ax_on q.2.1) q.2.2.1 (ax_md q.2.2.2.1)))) = true := by decide +kernel
theorem ax_Lm_1 : ((ax_Lm.drop 40).take 40).all (fun q : Nat × Nat × Nat × Nat × Nat => decide (lw_tbl[q.1]? = some (Cond.methodLink (ax_on q.2.1) q.2.2.1 (ax_md q.2.2.2.1)))) = true := by decide +kernel
theorem ax_Lm_2 : ((ax_Lm.drop 80).take 40).all (fun q : Nat × Nat × Nat × Nat × Nat => decide (lw_tbl[q.1]? = some (Cond.methodLink (ax_on q.2.1) q.2.2.1 (ax_md q.2.2.2.1)))) = true := by decide +kernel
theorem ax_Lm_3 : ((ax_Lm.drop 120).take 40).all (fun q : Nat × Nat × Nat × Nat × Nat => decide (lw_tbl[q.1]? = some (Cond.methodLink (ax_on q.2.1) q.2.2.1 (ax_md q.2.2.2.1)))) = true := by decide +kernel
theorem ax_Lm_all : ax_Lm.all (fun q : Nat × Nat × Nat × Nat × Nat => decide (lw_tbl[q.1]? = some (Cond.methodLink (ax_on q.2.1) q.2.2.1 (ax_md q.2.2.2.1)))) = true := by
  refine ax_take_drop 40 _ ax_Lm_0 ?_
  show (ax_Lm.drop 40).all _ = true
  rw [show ax_Lm.drop 40 = ax_Lm.drop 40 from rfl]
  refine ax_take_drop 40 _ ax_Lm_1 ?_
  show (ax_Lm.drop 80).all _ = true
  rw [show ax_Lm.drop 80 = ax_Lm.drop 80 from rfl]
  refine ax_take_drop 40 _ ax_Lm_2 ?_
  show (ax_Lm.drop 120).all _ = true
  rw [show ax_Lm.drop 120 = ax_Lm.drop 120 from rfl]
  refine ax_take_drop 40 _ ax_Lm_3 ?_
  rfl
theorem ax_Lm_in {q : Nat × Nat × Nat × Nat × Nat} (h : q ∈ ax_Lm) : Cond.methodLink (ax_on q.2.1) q.2.2.1 (ax_md q.2.2.2.1) ∈ lw_tbl := List.mem_of_getElem? (of_decide_eq_true (List.all_eq_true.mp ax_Lm_all q h))
theorem ax_Ln_0 : ((ax_Ln.drop 0).take 40).all (fun q : Nat × Nat × Nat × Nat × Nat => decide (lw_tbl[q.1]? = some (Cond.methodLinkNest (ax_on q.2.1) q.2.2.1 (ax_md q.2.2.2.1) "MakerGuard"))) = true := by decide +kernel
theorem ax_Ln_all : ax_Ln.all (fun q : Nat × Nat × Nat × Nat × Nat => decide (lw_tbl[q.1]? = some (Cond.methodLinkNest (ax_on q.2.1) q.2.2.1 (ax_md q.2.2.2.1) "MakerGuard"))) = true := by
  refine ax_take_drop 40 _ ax_Ln_0 ?_
  rfl
theorem ax_Ln_in {q : Nat × Nat × Nat × Nat × Nat} (h : q ∈ ax_Ln) : Cond.methodLinkNest (ax_on q.2.1) q.2.2.1 (ax_md q.2.2.2.1) "MakerGuard" ∈ lw_tbl := List.mem_of_getElem? (of_decide_eq_true (List.all_eq_true.mp ax_Ln_all q h))
theorem ax_Lc_0 : ((ax_Lc.drop 0).take 40).all (fun q : Nat × Nat × Nat × Nat × Nat => decide (lw_tbl[q.1]? = some (Cond.classLink (ax_on q.2.1) q.2.2.1 (ax_cn q.2.2.2.1)))) = true := by decide +kernel
theorem ax_Lc_all : ax_Lc.all (fun q : Nat × Nat × Nat × Nat × Nat => decide (lw_tbl[q.1]? = some (Cond.classLink (ax_on q.2.1) q.2.2.1 (ax_cn q.2.2.2.1)))) = true := by
  refine ax_take_drop 40 _ ax_Lc_0 ?_
  rfl
theorem ax_Lc_in {q : Nat × Nat × Nat × Nat × Nat} (h : q ∈ ax_Lc) : Cond.classLink (ax_on q.2.1) q.2.2.1 (ax_cn q.2.2.2.1) ∈ lw_tbl := List.mem_of_getElem? (of_decide_eq_true (List.all_eq_true.mp ax_Lc_all q h))
theorem ax_Lo_0 : ((ax_Lo.drop 0).take 40).all (fun q : Nat × Nat × Nat × Nat × Nat => decide (lw_tbl[q.1]? = some (Cond.methodLink (ax_on q.2.1) q.2.2.1 Lib.objectInit))) = true := by decide +kernel
theorem ax_Lo_all : ax_Lo.all (fun q : Nat × Nat × Nat × Nat × Nat => decide (lw_tbl[q.1]? = some (Cond.methodLink (ax_on q.2.1) q.2.2.1 Lib.objectInit))) = true := by
  refine ax_take_drop 40 _ ax_Lo_0 ?_
  rfl
theorem ax_Lo_in {q : Nat × Nat × Nat × Nat × Nat} (h : q ∈ ax_Lo) : Cond.methodLink (ax_on q.2.1) q.2.2.1 Lib.objectInit ∈ lw_tbl := List.mem_of_getElem? (of_decide_eq_true (List.all_eq_true.mp ax_Lo_all q h))
theorem ax_La_0 : ((ax_La.drop 0).take 40).all (fun q : Nat × Nat × Nat × Nat × Nat => decide (lw_tbl[q.1]? = some (Cond.methodLink (ax_on q.2.1) q.2.2.1 arraycopyName))) = true := by decide +kernel
theorem ax_La_all : ax_La.all (fun q : Nat × Nat × Nat × Nat × Nat => decide (lw_tbl[q.1]? = some (Cond.methodLink (ax_on q.2.1) q.2.2.1 arraycopyName))) = true := by
  refine ax_take_drop 40 _ ax_La_0 ?_
  rfl
theorem ax_La_in {q : Nat × Nat × Nat × Nat × Nat} (h : q ∈ ax_La) : Cond.methodLink (ax_on q.2.1) q.2.2.1 arraycopyName ∈ lw_tbl := List.mem_of_getElem? (of_decide_eq_true (List.all_eq_true.mp ax_La_all q h))
