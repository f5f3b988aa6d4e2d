/-! THE HEAP BEHIND THE CONSTRUCTORS, by families of cells (written by wip/tools/gen31.py; the families stand in wip/tools/fam.py): ints M f i j (family, number in it, slot) -/
def ax_fi : List (Nat × Nat) := [(0, 0), (1, 0), (2, 0), (17, 0), (3, 0), (4, 0), (5, 0), (6, 0), (7, 0), (8, 0), (10, 60), (10, 24), (10, 25), (10, 26), (3, 1), (4, 1), (5, 1), (6, 1), (7, 1), (8, 1), (10, 61), (10, 27), (10, 28), (10, 29), (3, 2), (4, 2), (5, 2), (6, 2), (7, 2), (8, 2), (10, 62), (10, 30), (10, 31), (10, 32), (3, 3), (4, 3), (5, 3), (6, 3), (7, 3), (8, 3), (10, 63), (10, 33), (10, 34), (10, 35), (3, 4), (4, 4), (5, 4), (6, 4), (7, 4), (8, 4), (10, 64), (10, 36), (10, 37), (10, 38), (3, 5), (4, 5), (5, 5), (6, 5), (7, 5), (8, 5), (10, 65), (10, 39), (10, 40), (10, 41), (3, 6), (4, 6), (5, 6), (6, 6), (7, 6), (8, 6), (10, 66), (10, 42), (10, 43), (10, 44), (3, 7), (4, 7), (5, 7), (6, 7), (7, 7), (8, 7), (10, 67), (10, 45), (10, 46), (10, 47), (3, 8), (4, 8), (5, 8), (6, 8), (7, 8), (8, 8), (10, 68), (10, 48), (10, 49), (10, 50), (3, 9), (4, 9), (5, 9), (6, 9), (7, 9), (8, 9), (10, 69), (10, 51), (10, 52), (10, 53), (3, 10), (4, 10), (5, 10), (6, 10), (7, 10), (8, 10), (10, 70), (10, 54), (10, 55), (10, 56), (3, 11), (4, 11), (5, 11), (6, 11), (7, 11), (8, 11), (10, 71), (10, 57), (10, 58), (10, 59), (10, 0), (10, 1), (10, 2), (10, 3), (10, 4), (10, 5), (10, 6), (10, 7), (10, 8), (10, 9), (10, 10), (10, 11), (10, 12), (10, 13), (10, 14), (10, 15), (10, 16), (10, 17), (10, 18), (10, 19), (10, 20), (10, 21), (10, 22), (10, 23), (9, 0), (11, 0), (12, 40), (13, 40), (14, 40), (15, 40), (16, 0), (12, 0), (13, 0), (14, 0), (15, 0), (12, 1), (13, 1), (14, 1), (15, 1), (12, 2), (13, 2), (14, 2), (15, 2), (12, 3), (13, 3), (14, 3), (15, 3), (12, 4), (13, 4), (14, 4), (15, 4), (12, 5), (13, 5), (14, 5), (15, 5), (12, 6), (13, 6), (14, 6), (15, 6), (12, 7), (13, 7), (14, 7), (15, 7), (12, 8), (13, 8), (14, 8), (15, 8), (12, 9), (13, 9), (14, 9), (15, 9), (12, 10), (13, 10), (14, 10), (15, 10), (12, 11), (13, 11), (14, 11), (15, 11), (12, 12), (13, 12), (14, 12), (15, 12), (12, 13), (13, 13), (14, 13), (15, 13), (12, 14), (13, 14), (14, 14), (15, 14), (12, 15), (13, 15), (14, 15), (15, 15), (12, 16), (13, 16), (14, 16), (15, 16), (12, 17), (13, 17), (14, 17), (15, 17), (12, 18), (13, 18), (14, 18), (15, 18), (12, 19), (13, 19), (14, 19), (15, 19), (12, 20), (13, 20), (14, 20), (15, 20), (12, 21), (13, 21), (14, 21), (15, 21), (12, 22), (13, 22), (14, 22), (15, 22), (12, 23), (13, 23), (14, 23), (15, 23), (12, 24), (13, 24), (14, 24), (15, 24), (12, 25), (13, 25), (14, 25), (15, 25), (12, 26), (13, 26), (14, 26), (15, 26), (12, 27), (13, 27), (14, 27), (15, 27), (12, 28), (13, 28), (14, 28), (15, 28), (12, 29), (13, 29), (14, 29), (15, 29), (12, 30), (13, 30), (14, 30), (15, 30), (12, 31), (13, 31), (14, 31), (15, 31), (12, 32), (13, 32), (14, 32), (15, 32), (12, 33), (13, 33), (14, 33), (15, 33), (12, 34), (13, 34), (14, 34), (15, 34), (12, 35), (13, 35), (14, 35), (15, 35), (12, 36), (13, 36), (14, 36), (15, 36), (12, 37), (13, 37), (14, 37), (15, 37), (12, 38), (13, 38), (14, 38), (15, 38), (12, 39), (13, 39), (14, 39), (15, 39), (18, 0), (19, 0), (20, 0), (21, 0), (22, 0), (23, 0), (22, 1), (23, 1), (22, 2), (23, 2), (22, 3), (23, 3), (22, 4), (23, 4), (22, 5), (23, 5), (22, 6), (23, 6), (22, 7), (23, 7), (22, 8), (23, 8), (22, 9), (23, 9), (22, 10), (23, 10), (22, 11), (23, 11), (22, 12), (23, 12), (22, 13), (23, 13), (22, 14), (23, 14), (22, 15), (23, 15), (22, 16), (23, 16), (22, 17), (23, 17), (22, 18), (23, 18), (22, 19), (23, 19), (24, 0), (31, 0), (32, 0), (33, 0), (34, 0), (35, 0), (36, 0), (37, 0), (38, 0), (39, 0), (40, 0), (41, 0), (42, 0), (43, 0), (44, 0), (45, 0), (46, 0), (47, 0), (48, 0), (49, 0), (52, 0), (53, 0), (54, 0), (58, 0), (59, 0), (60, 0), (61, 0), (66, 0), (67, 0), (68, 0)]
def ax_ad : List (List Nat) := [[0], [1], [2], [4, 14, 24, 34, 44, 54, 64, 74, 84, 94, 104, 114], [5, 15, 25, 35, 45, 55, 65, 75, 85, 95, 105, 115], [6, 16, 26, 36, 46, 56, 66, 76, 86, 96, 106, 116], [7, 17, 27, 37, 47, 57, 67, 77, 87, 97, 107, 117], [8, 18, 28, 38, 48, 58, 68, 78, 88, 98, 108, 118], [9, 19, 29, 39, 49, 59, 69, 79, 89, 99, 109, 119], [148], [124, 125, 126, 127, 128, 129, 130, 131, 132, 133, 134, 135, 136, 137, 138, 139, 140, 141, 142, 143, 144, 145, 146, 147, 11, 12, 13, 21, 22, 23, 31, 32, 33, 41, 42, 43, 51, 52, 53, 61, 62, 63, 71, 72, 73, 81, 82, 83, 91, 92, 93, 101, 102, 103, 111, 112, 113, 121, 122, 123, 10, 20, 30, 40, 50, 60, 70, 80, 90, 100, 110, 120], [149], [155, 159, 163, 167, 171, 175, 179, 183, 187, 191, 195, 199, 203, 207, 211, 215, 219, 223, 227, 231, 235, 239, 243, 247, 251, 255, 259, 263, 267, 271, 275, 279, 283, 287, 291, 295, 299, 303, 307, 311, 150], [156, 160, 164, 168, 172, 176, 180, 184, 188, 192, 196, 200, 204, 208, 212, 216, 220, 224, 228, 232, 236, 240, 244, 248, 252, 256, 260, 264, 268, 272, 276, 280, 284, 288, 292, 296, 300, 304, 308, 312, 151], [157, 161, 165, 169, 173, 177, 181, 185, 189, 193, 197, 201, 205, 209, 213, 217, 221, 225, 229, 233, 237, 241, 245, 249, 253, 257, 261, 265, 269, 273, 277, 281, 285, 289, 293, 297, 301, 305, 309, 313, 152], [158, 162, 166, 170, 174, 178, 182, 186, 190, 194, 198, 202, 206, 210, 214, 218, 222, 226, 230, 234, 238, 242, 246, 250, 254, 258, 262, 266, 270, 274, 278, 282, 286, 290, 294, 298, 302, 306, 310, 314, 153], [154], [3], [315], [316], [317], [318], [319, 321, 323, 325, 327, 329, 331, 333, 335, 337, 339, 341, 343, 345, 347, 349, 351, 353, 355, 357], [320, 322, 324, 326, 328, 330, 332, 334, 336, 338, 340, 342, 344, 346, 348, 350, 352, 354, 356, 358], [359], [], [], [], [], [], [], [360], [361], [362], [363], [364], [365], [366], [367], [368], [369], [370], [371], [372], [373], [374], [375], [376], [377], [378], [], [], [379], [380], [381], [], [], [], [382], [383], [384], [385], [], [], [], [], [386], [387], [388]]
def ax_fk : List (Nat × Nat) := [(8, 3), (6, 2), (30, 12), (1, 8), (20, 40), (20, 40), (20, 40), (20, 40), (31, 3), (4, 6), (2, 3), (36, 40), (7, 6), (20, 8), (20, 8), (20, 8), (20, 12), (31, 24), (5, 10), (20, 60), (20, 240), (32, 20), (3, 4), (20, 8), (9, 38), (0, 0), (0, 0), (0, 0), (0, 0), (0, 0), (0, 0), (20, 24), (21, 24), (20, 12), (20, 36), (21, 36), (20, 36), (20, 6), (21, 6), (20, 6), (20, 12), (20, 480), (20, 480), (20, 480), (20, 480), (21, 40), (20, 320), (20, 320), (20, 320), (20, 40), (0, 0), (0, 0), (20, 8), (20, 8), (20, 8), (0, 0), (0, 0), (0, 0), (20, 20), (20, 20), (20, 160), (20, 20), (0, 0), (0, 0), (0, 0), (0, 0), (20, 60), (20, 240), (22, 1)]
def ax_a (f i : Nat) : Nat := (ax_ad.getD f []).getD i 0
def ax_ct (f : Nat) : Nat := (ax_ad.getD f []).length
def ax_kd (f : Nat) : Nat × Nat := ax_fk.getD f (0, 0)
def ax_fa (a : Nat) : Nat := (ax_fi.getD a (0, 0)).1
def ax_ix (a : Nat) : Nat := (ax_fi.getD a (0, 0)).2
/-- references that never change -/
def ax_rq (f i j : Nat) : Option Nat := match f, j with
  | 0, 0 => some (ax_a 1 0)
  | 0, 1 => some (ax_a 9 0)
  | 0, 2 => some (ax_a 18 0)
  | 1, 0 => some (ax_a 2 0)
  | 1, 1 => some (ax_a 17 0)
  | 3, 0 => some (ax_a 4 i)
  | 3, 1 => some (ax_a 5 i)
  | 3, 2 => some (ax_a 6 i)
  | 3, 3 => some (ax_a 7 i)
  | 3, 4 => some (ax_a 8 i)
  | 3, 5 => some (ax_a 10 (60 + i))
  | 9, 0 => some (ax_a 1 0)
  | 9, 1 => some (ax_a 11 0)
  | 9, 2 => some (ax_a 12 40)
  | 9, 3 => some (ax_a 16 0)
  | 12, 0 => some (ax_a 13 i)
  | 12, 1 => some (ax_a 14 i)
  | 12, 2 => some (ax_a 15 i)
  | 18, 0 => some (ax_a 19 0)
  | 18, 1 => some (ax_a 20 0)
  | 18, 5 => some (ax_a 1 0)
  | 18, 6 => some (ax_a 21 0)
  | 22, 0 => some (ax_a 23 i)
  | 24, 1 => some (ax_a 31 0)
  | 24, 2 => some (ax_a 32 0)
  | 24, 3 => some (ax_a 33 0)
  | 24, 4 => some (ax_a 34 0)
  | 24, 5 => some (ax_a 35 0)
  | 24, 6 => some (ax_a 36 0)
  | 24, 7 => some (ax_a 37 0)
  | 24, 8 => some (ax_a 38 0)
  | 24, 9 => some (ax_a 39 0)
  | 24, 10 => some (ax_a 40 0)
  | 24, 11 => some (ax_a 41 0)
  | 24, 12 => some (ax_a 42 0)
  | 24, 13 => some (ax_a 43 0)
  | 24, 14 => some (ax_a 44 0)
  | 24, 15 => some (ax_a 45 0)
  | 24, 16 => some (ax_a 46 0)
  | 24, 17 => some (ax_a 47 0)
  | 24, 18 => some (ax_a 48 0)
  | 24, 19 => some (ax_a 49 0)
  | 24, 22 => some (ax_a 52 0)
  | 24, 23 => some (ax_a 53 0)
  | 24, 24 => some (ax_a 54 0)
  | 24, 28 => some (ax_a 58 0)
  | 24, 29 => some (ax_a 59 0)
  | 24, 30 => some (ax_a 60 0)
  | 24, 31 => some (ax_a 61 0)
  | 24, 36 => some (ax_a 66 0)
  | 24, 37 => some (ax_a 67 0)
  | 2, j => if j < 12 then some (ax_a 3 j) else none
  | 8, j => if j < 3 then some (ax_a 10 (24 + 3 * i + j)) else none
  | 11, j => if j < 40 then some (ax_a 12 j) else none
  | 17, j => if j < 24 then some (ax_a 10 j) else none
  | 21, j => if j < 20 then some (ax_a 22 j) else none
  | _, _ => none
def ax_rf (gb f i j : Nat) : Option Nat := if f = 9 ∧ j = 5 then some (ax_a 3 gb) else ax_rq f i j
abbrev ax_M : Type := Nat → Nat → Nat → Int32
def ax_u3 (M : ax_M) (f i j : Nat) (v : Int32) : ax_M := fun f' i' j' => if f' = f ∧ i' = i ∧ j' = j then v else M f' i' j'
def ax_r3 (M : ax_M) (f i : Nat) (g : Nat → Int32) : ax_M := fun f' i' => if f' = f ∧ i' = i then g else M f' i'
/-- X: the script; e: how many exceptions were thrown; gb: the guard's body; M: the ints; o: the law's out -/
def ax_hp (X : Nat × (Nat → Int32)) (e gb : Nat) (M : ax_M) (o : Int64) : ax_H :=
  ((389 + e, 7908 + 6 * e), (fun a => if a < 389 then ax_kd (ax_fa a) else if a = 1000000000 then (99, X.1) else (0, 0)),
   (fun a => if a < 389 then M (ax_fa a) (ax_ix a) else if a = 1000000000 then X.2 else fun _ => 0),
   (fun a => if a < 389 then ax_rf gb (ax_fa a) (ax_ix a) else fun _ => none), (fun a j => if a = 388 ∧ j = 0 then o else 0))
theorem ax_de1 : (List.range 69).all (fun f => (List.range (ax_ct f)).all (fun i => decide (ax_a f i < 389 ∧ ax_fa (ax_a f i) = f ∧ ax_ix (ax_a f i) = i))) = true := by decide +kernel
theorem ax_de2 : (List.range 389).all (fun a => decide (ax_fa a < 69 ∧ ax_ix a < ax_ct (ax_fa a) ∧ ax_a (ax_fa a) (ax_ix a) = a)) = true := by decide +kernel
theorem ax_ct_ge {f : Nat} (h : 69 ≤ f) : ax_ct f = 0 := by
  unfold ax_ct
  rw [List.getD_eq_getElem?_getD, List.getElem?_eq_none (by exact h)]
  rfl
theorem ax_dc {f i : Nat} (h : i < ax_ct f) : ax_a f i < 389 ∧ ax_fa (ax_a f i) = f ∧ ax_ix (ax_a f i) = i := by
  have hf : f < 69 := by
    by_cases hf : f < 69
    · exact hf
    · rw [ax_ct_ge (by omega)] at h; omega
  have h1 := List.all_eq_true.mp ax_de1 f (List.mem_range.mpr hf)
  have h2 := List.all_eq_true.mp h1 i (List.mem_range.mpr h)
  exact of_decide_eq_true h2
theorem ax_dd {a : Nat} (h : a < 389) : ax_fa a < 69 ∧ ax_ix a < ax_ct (ax_fa a) ∧ ax_a (ax_fa a) (ax_ix a) = a :=
  of_decide_eq_true (List.all_eq_true.mp ax_de2 a (List.mem_range.mpr h))
section AxHp
variable {X : Nat × (Nat → Int32)} {e gb : Nat} {M : ax_M} {o : Int64}
theorem ax_hp_c : (ax_hp X e gb M o).1.1 = 389 + e := rfl
theorem ax_hp_s {f i : Nat} (h : i < ax_ct f) : (ax_hp X e gb M o).2.1 (ax_a f i) = ax_kd f := by
  obtain ⟨h1, h2, -⟩ := ax_dc h
  show (if ax_a f i < 389 then ax_kd (ax_fa (ax_a f i)) else _) = _
  rw [if_pos h1, h2]
theorem ax_hp_i {f i j : Nat} (h : i < ax_ct f) : (ax_hp X e gb M o).2.2.1 (ax_a f i) j = M f i j := by
  obtain ⟨h1, h2, h3⟩ := ax_dc h
  show (if ax_a f i < 389 then M (ax_fa (ax_a f i)) (ax_ix (ax_a f i)) else _) j = _
  rw [if_pos h1, h2, h3]
theorem ax_hp_r {f i j : Nat} (h : i < ax_ct f) : (ax_hp X e gb M o).2.2.2.1 (ax_a f i) j = ax_rf gb f i j := by
  obtain ⟨h1, h2, h3⟩ := ax_dc h
  show (if ax_a f i < 389 then ax_rf gb (ax_fa (ax_a f i)) (ax_ix (ax_a f i)) else _) j = _
  rw [if_pos h1, h2, h3]
theorem ax_hp_lt {f i : Nat} (h : i < ax_ct f) : ax_a f i < (ax_hp X e gb M o).1.1 := by
  rw [ax_hp_c]; have := (ax_dc h).1; omega
theorem ax_hp_rw {f i : Nat} {g : Nat → Int32} (h : i < ax_ct f) : ((ax_hp X e gb M o).1, (ax_hp X e gb M o).2.1, ax_rw (ax_hp X e gb M o).2.2.1 (ax_a f i) g, (ax_hp X e gb M o).2.2.2) = ax_hp X e gb (ax_r3 M f i g) o := by
  obtain ⟨h1, h2, h3⟩ := ax_dc h
  unfold ax_hp
  simp only [Prod.mk.injEq, true_and, and_true]
  funext a
  unfold ax_rw ax_r3
  by_cases ha : a = ax_a f i
  · subst ha; simp only [h1, h2, h3, if_true, and_self]
  · rw [if_neg ha]
    by_cases hl : a < 389
    · have hn : ¬ (ax_fa a = f ∧ ax_ix a = i) := by
        rintro ⟨rfl, rfl⟩
        exact ha (ax_dd hl).2.2.symm
      simp only [hl, if_true, if_neg hn]
    · simp only [hl, if_false]
theorem ax_hp_up {f i j : Nat} {v : Int32} (h : i < ax_ct f) : ((ax_hp X e gb M o).1, (ax_hp X e gb M o).2.1, ax_up (ax_hp X e gb M o).2.2.1 (ax_a f i) j v, (ax_hp X e gb M o).2.2.2) = ax_hp X e gb (ax_u3 M f i j v) o := by
  have h0 : ax_up (ax_hp X e gb M o).2.2.1 (ax_a f i) j v = ax_rw (ax_hp X e gb M o).2.2.1 (ax_a f i) (fun j' => if j' = j then v else M f i j') := by
    funext a j'
    unfold ax_up ax_rw
    by_cases ha : a = ax_a f i
    · subst ha; simp only [true_and, if_true]
      split
      · rfl
      · exact ax_hp_i h
    · simp only [ha, false_and, if_false]
  rw [h0, ax_hp_rw h]
  congr 1
  funext f' i' j'
  unfold ax_r3 ax_u3
  by_cases hf : f' = f ∧ i' = i
  · obtain ⟨rfl, rfl⟩ := hf; simp only [true_and, and_self, if_true]
  · have : ¬ (f' = f ∧ i' = i ∧ j' = j) := fun h => hf ⟨h.1, h.2.1⟩
    simp only [hf, this, if_false]
theorem ax_hp_gb {b : Nat} : ((ax_hp X e gb M o).1, (ax_hp X e gb M o).2.1, (ax_hp X e gb M o).2.2.1, ax_up (ax_hp X e gb M o).2.2.2.1 (ax_a 9 0) 5 (some (ax_a 3 b)), (ax_hp X e gb M o).2.2.2.2) = ax_hp X e b M o := by
  unfold ax_hp
  simp only [Prod.mk.injEq, true_and, and_true]
  obtain ⟨h1, h2, h3⟩ := ax_dc (f := 9) (i := 0) (by decide)
  funext a j
  unfold ax_up
  by_cases ha : a = ax_a 9 0 ∧ j = 5
  · obtain ⟨rfl, rfl⟩ := ha
    simp only [h1, h2, h3, and_self, if_true, ax_rf]
  · rw [if_neg ha]
    by_cases hl : a < 389
    · simp only [hl, if_true]
      have hn : ¬ (ax_fa a = 9 ∧ j = 5) := by
        rintro ⟨h4, rfl⟩
        have h5 := ax_dd hl
        have h6 : ax_ix a = 0 := by
          have h7 := h5.2.1
          rw [h4] at h7
          have : ax_ct 9 = 1 := by decide
          omega
        rw [h4, h6] at h5
        exact ha ⟨h5.2.2.symm, rfl⟩
      simp only [ax_rf, if_neg hn]
    · simp only [hl, if_false]
theorem ax_hp_o {v : Int64} : ((ax_hp X e gb M o).1, (ax_hp X e gb M o).2.1, (ax_hp X e gb M o).2.2.1, (ax_hp X e gb M o).2.2.2.1, ax_up (ax_hp X e gb M o).2.2.2.2 (ax_a 68 0) 0 v) = ax_hp X e gb M v := by
  unfold ax_hp
  simp only [Prod.mk.injEq, true_and]
  funext a j
  have : ax_a 68 0 = 388 := by decide
  unfold ax_up
  rw [this]
  split <;> simp_all
theorem ax_hp_x (he : e < 800000000) : (((ax_hp X e gb M o).1.1 + 1, (ax_hp X e gb M o).1.2 + 6), ax_sh (ax_hp X e gb M o).2.1 (ax_hp X e gb M o).1.1 (0, 0), (ax_hp X e gb M o).2.2) = ax_hp X (e + 1) gb M o := by
  unfold ax_hp
  simp only [Prod.mk.injEq, and_true]
  refine ⟨⟨by omega, by omega⟩, ?_⟩
  funext a
  unfold ax_sh
  by_cases ha : a = 389 + e
  · subst ha
    have h1 : ¬ 389 + e < 389 := by omega
    have h2 : ¬ 389 + e = 1000000000 := by omega
    simp only [h1, h2, if_false, if_true]
  · rw [if_neg ha]
end AxHp
