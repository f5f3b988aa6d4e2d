/-! one row for each kind of instruction, over heaps ax_hp and over numbers ay_i (written by wip/tools/gen32.py) -/
theorem ay_c0 : ax_ct 0 = 1 := by decide +kernel
theorem ay_k0 : ax_kd 0 = (8, 3) := by decide +kernel
theorem ay_c1 : ax_ct 1 = 1 := by decide +kernel
theorem ay_k1 : ax_kd 1 = (6, 2) := by decide +kernel
theorem ay_c2 : ax_ct 2 = 1 := by decide +kernel
theorem ay_k2 : ax_kd 2 = (30, 12) := by decide +kernel
theorem ay_c3 : ax_ct 3 = 12 := by decide +kernel
theorem ay_k3 : ax_kd 3 = (1, 8) := by decide +kernel
theorem ay_c4 : ax_ct 4 = 12 := by decide +kernel
theorem ay_k4 : ax_kd 4 = (20, 40) := by decide +kernel
theorem ay_c5 : ax_ct 5 = 12 := by decide +kernel
theorem ay_k5 : ax_kd 5 = (20, 40) := by decide +kernel
theorem ay_c6 : ax_ct 6 = 12 := by decide +kernel
theorem ay_k6 : ax_kd 6 = (20, 40) := by decide +kernel
theorem ay_c7 : ax_ct 7 = 12 := by decide +kernel
theorem ay_k7 : ax_kd 7 = (20, 40) := by decide +kernel
theorem ay_c8 : ax_ct 8 = 12 := by decide +kernel
theorem ay_k8 : ax_kd 8 = (31, 3) := by decide +kernel
theorem ay_c9 : ax_ct 9 = 1 := by decide +kernel
theorem ay_k9 : ax_kd 9 = (4, 6) := by decide +kernel
theorem ay_c10 : ax_ct 10 = 72 := by decide +kernel
theorem ay_k10 : ax_kd 10 = (2, 3) := by decide +kernel
theorem ay_c11 : ax_ct 11 = 1 := by decide +kernel
theorem ay_k11 : ax_kd 11 = (36, 40) := by decide +kernel
theorem ay_c12 : ax_ct 12 = 41 := by decide +kernel
theorem ay_k12 : ax_kd 12 = (7, 6) := by decide +kernel
theorem ay_c13 : ax_ct 13 = 41 := by decide +kernel
theorem ay_k13 : ax_kd 13 = (20, 8) := by decide +kernel
theorem ay_c14 : ax_ct 14 = 41 := by decide +kernel
theorem ay_k14 : ax_kd 14 = (20, 8) := by decide +kernel
theorem ay_c15 : ax_ct 15 = 41 := by decide +kernel
theorem ay_k15 : ax_kd 15 = (20, 8) := by decide +kernel
theorem ay_c16 : ax_ct 16 = 1 := by decide +kernel
theorem ay_k16 : ax_kd 16 = (20, 12) := by decide +kernel
theorem ay_c17 : ax_ct 17 = 1 := by decide +kernel
theorem ay_k17 : ax_kd 17 = (31, 24) := by decide +kernel
theorem ay_c18 : ax_ct 18 = 1 := by decide +kernel
theorem ay_k18 : ax_kd 18 = (5, 10) := by decide +kernel
theorem ay_c19 : ax_ct 19 = 1 := by decide +kernel
theorem ay_k19 : ax_kd 19 = (20, 60) := by decide +kernel
theorem ay_c20 : ax_ct 20 = 1 := by decide +kernel
theorem ay_k20 : ax_kd 20 = (20, 240) := by decide +kernel
theorem ay_c21 : ax_ct 21 = 1 := by decide +kernel
theorem ay_k21 : ax_kd 21 = (32, 20) := by decide +kernel
theorem ay_c22 : ax_ct 22 = 20 := by decide +kernel
theorem ay_k22 : ax_kd 22 = (3, 4) := by decide +kernel
theorem ay_c23 : ax_ct 23 = 20 := by decide +kernel
theorem ay_k23 : ax_kd 23 = (20, 8) := by decide +kernel
theorem ay_c24 : ax_ct 24 = 1 := by decide +kernel
theorem ay_k24 : ax_kd 24 = (9, 38) := by decide +kernel
theorem ay_c31 : ax_ct 31 = 1 := by decide +kernel
theorem ay_k31 : ax_kd 31 = (20, 24) := by decide +kernel
theorem ay_c32 : ax_ct 32 = 1 := by decide +kernel
theorem ay_k32 : ax_kd 32 = (21, 24) := by decide +kernel
theorem ay_c33 : ax_ct 33 = 1 := by decide +kernel
theorem ay_k33 : ax_kd 33 = (20, 12) := by decide +kernel
theorem ay_c34 : ax_ct 34 = 1 := by decide +kernel
theorem ay_k34 : ax_kd 34 = (20, 36) := by decide +kernel
theorem ay_c35 : ax_ct 35 = 1 := by decide +kernel
theorem ay_k35 : ax_kd 35 = (21, 36) := by decide +kernel
theorem ay_c36 : ax_ct 36 = 1 := by decide +kernel
theorem ay_k36 : ax_kd 36 = (20, 36) := by decide +kernel
theorem ay_c37 : ax_ct 37 = 1 := by decide +kernel
theorem ay_k37 : ax_kd 37 = (20, 6) := by decide +kernel
theorem ay_c38 : ax_ct 38 = 1 := by decide +kernel
theorem ay_k38 : ax_kd 38 = (21, 6) := by decide +kernel
theorem ay_c39 : ax_ct 39 = 1 := by decide +kernel
theorem ay_k39 : ax_kd 39 = (20, 6) := by decide +kernel
theorem ay_c40 : ax_ct 40 = 1 := by decide +kernel
theorem ay_k40 : ax_kd 40 = (20, 12) := by decide +kernel
theorem ay_c41 : ax_ct 41 = 1 := by decide +kernel
theorem ay_k41 : ax_kd 41 = (20, 480) := by decide +kernel
theorem ay_c42 : ax_ct 42 = 1 := by decide +kernel
theorem ay_k42 : ax_kd 42 = (20, 480) := by decide +kernel
theorem ay_c43 : ax_ct 43 = 1 := by decide +kernel
theorem ay_k43 : ax_kd 43 = (20, 480) := by decide +kernel
theorem ay_c44 : ax_ct 44 = 1 := by decide +kernel
theorem ay_k44 : ax_kd 44 = (20, 480) := by decide +kernel
theorem ay_c45 : ax_ct 45 = 1 := by decide +kernel
theorem ay_k45 : ax_kd 45 = (21, 40) := by decide +kernel
theorem ay_c46 : ax_ct 46 = 1 := by decide +kernel
theorem ay_k46 : ax_kd 46 = (20, 320) := by decide +kernel
theorem ay_c47 : ax_ct 47 = 1 := by decide +kernel
theorem ay_k47 : ax_kd 47 = (20, 320) := by decide +kernel
theorem ay_c48 : ax_ct 48 = 1 := by decide +kernel
theorem ay_k48 : ax_kd 48 = (20, 320) := by decide +kernel
theorem ay_c49 : ax_ct 49 = 1 := by decide +kernel
theorem ay_k49 : ax_kd 49 = (20, 40) := by decide +kernel
theorem ay_c52 : ax_ct 52 = 1 := by decide +kernel
theorem ay_k52 : ax_kd 52 = (20, 8) := by decide +kernel
theorem ay_c53 : ax_ct 53 = 1 := by decide +kernel
theorem ay_k53 : ax_kd 53 = (20, 8) := by decide +kernel
theorem ay_c54 : ax_ct 54 = 1 := by decide +kernel
theorem ay_k54 : ax_kd 54 = (20, 8) := by decide +kernel
theorem ay_c58 : ax_ct 58 = 1 := by decide +kernel
theorem ay_k58 : ax_kd 58 = (20, 20) := by decide +kernel
theorem ay_c59 : ax_ct 59 = 1 := by decide +kernel
theorem ay_k59 : ax_kd 59 = (20, 20) := by decide +kernel
theorem ay_c60 : ax_ct 60 = 1 := by decide +kernel
theorem ay_k60 : ax_kd 60 = (20, 160) := by decide +kernel
theorem ay_c61 : ax_ct 61 = 1 := by decide +kernel
theorem ay_k61 : ax_kd 61 = (20, 20) := by decide +kernel
theorem ay_c66 : ax_ct 66 = 1 := by decide +kernel
theorem ay_k66 : ax_kd 66 = (20, 60) := by decide +kernel
theorem ay_c67 : ax_ct 67 = 1 := by decide +kernel
theorem ay_k67 : ax_kd 67 = (20, 240) := by decide +kernel
theorem ay_c68 : ax_ct 68 = 1 := by decide +kernel
theorem ay_k68 : ax_kd 68 = (22, 1) := by decide +kernel
def ay_i (n : Nat) : Int32 := Int32.ofNat n
def ay_n (n : Nat) : Int32 := Int32.ofInt (-(n : Int))
def ay_b (c : Bool) : Int32 := if c = true then ay_i 1 else ay_i 0
theorem ay_i_add (a b : Nat) : ay_i a + ay_i b = ay_i (a + b) := (Int32.ofNat_add a b).symm
theorem ay_i_mul (a b : Nat) : ay_i a * ay_i b = ay_i (a * b) := (Int32.ofNat_mul a b).symm
theorem ay_i_sub {a b : Nat} (h : b ≤ a) : ay_i a - ay_i b = ay_i (a - b) := by
  have : ay_i a = ay_i (a - b) + ay_i b := by rw [ay_i_add]; congr 1; omega
  rw [this, Int32.add_sub_cancel]
theorem ay_i_toInt {a : Nat} (ha : a < 2147483648) : (ay_i a).toInt = (a : Int) := by
  unfold ay_i
  exact Int32.toInt_ofNat_of_lt (by simpa using ha)
theorem ay_i_eq {a b : Nat} (ha : a < 2147483648) (hb : b < 2147483648) : (ay_i a = ay_i b) = (a = b) := by
  apply propext
  constructor
  · intro h
    have := congrArg Int32.toInt h
    rw [ay_i_toInt ha, ay_i_toInt hb] at this
    omega
  · rintro rfl; rfl
theorem ay_i_lt {a b : Nat} (ha : a < 2147483648) (hb : b < 2147483648) : (ay_i a < ay_i b) = (a < b) := by
  apply propext
  rw [Int32.lt_iff_toInt_lt, ay_i_toInt ha, ay_i_toInt hb]
  omega
theorem ay_i_ct {a : Nat} (ha : a < 2147483648) : (ay_i a).toNatClampNeg = a := by
  unfold Int32.toNatClampNeg
  rw [ay_i_toInt ha]
  rfl
theorem ay_i_out {a n : Nat} (ha : a < 2147483648) (h : a < n) : ax_out (ay_i a) n = false := by
  unfold ax_out
  rw [ay_i_ct ha]
  have h0 : ¬ ay_i a < 0 := by
    have := ay_i_lt (a := a) (b := 0) ha (by omega)
    show ¬ ay_i a < ay_i 0
    rw [this]; omega
  simp only [h0, false_or, decide_eq_false_iff_not]
  omega
theorem ay_n_toInt {n : Nat} (h : n < 2147483648) : (ay_n n).toInt = -(n : Int) := by
  unfold ay_n
  rw [Int32.toInt_ofInt]
  apply Int.bmod_eq_of_le <;> (have hs : (Int32.size : Int) = 4294967296 := rfl; omega)
theorem ay_ni {n a : Nat} (h : 0 < n) (hn : n < 2147483648) (ha : a < 2147483648) : (ay_n n = ay_i a) = False := by
  apply propext
  refine ⟨fun h1 => ?_, False.elim⟩
  have := congrArg Int32.toInt h1
  rw [ay_n_toInt hn, ay_i_toInt ha] at this
  omega
theorem ay_in {n a : Nat} (h : 0 < n) (hn : n < 2147483648) (ha : a < 2147483648) : (ay_i a = ay_n n) = False := by
  apply propext
  refine ⟨fun h1 => ?_, False.elim⟩
  have := congrArg Int32.toInt h1
  rw [ay_n_toInt hn, ay_i_toInt ha] at this
  omega
theorem ay_nn {n a : Nat} (hn : n < 2147483648) (ha : a < 2147483648) : (ay_n n = ay_n a) = (n = a) := by
  apply propext
  refine ⟨fun h1 => ?_, fun h => h ▸ rfl⟩
  have := congrArg Int32.toInt h1
  rw [ay_n_toInt hn, ay_n_toInt ha] at this
  omega
theorem ay_nl {n a : Nat} (h : 0 < n) (hn : n < 2147483648) (ha : a < 2147483648) : (ay_n n < ay_i a) = True := by
  apply propext
  rw [Int32.lt_iff_toInt_lt, ay_n_toInt hn, ay_i_toInt ha]
  simp only [iff_true]
  omega
theorem ay_ln {n a : Nat} (hn : n < 2147483648) (ha : a < 2147483648) : (ay_i a < ay_n n) = False := by
  apply propext
  rw [Int32.lt_iff_toInt_lt, ay_n_toInt hn, ay_i_toInt ha]
  simp only [iff_false]
  omega
theorem ay_b0 (c : Bool) : (ay_b c = ay_i 0) = (c = false) := by
  cases c
  · simp [ay_b]
  · have : ¬ (ay_i 1 = ay_i 0) := by rw [ay_i_eq (by omega) (by omega)]; omega
    simp [ay_b, this]
theorem ay_b1 (c : Bool) : (ay_b c = ay_i 1) = (c = true) := by
  cases c
  · have : ¬ (ay_i 0 = ay_i 1) := by rw [ay_i_eq (by omega) (by omega)]; omega
    simp [ay_b, this]
  · simp [ay_b]
theorem ay_bt : ay_b true = ay_i 1 := rfl
theorem ay_bf : ay_b false = ay_i 0 := rfl
def ay_z1 (v : Int32) : Prop := v = ay_i 0 ∨ v = ay_i 1
theorem ay_z1b (c : Bool) : ay_z1 (ay_b c) := by
  cases c
  · exact .inl rfl
  · exact .inr rfl
theorem ay_z10 : ay_z1 (ay_i 0) := .inl rfl
theorem ay_z11 : ay_z1 (ay_i 1) := .inr rfl
theorem ay_u3e (M : ax_M) (f i j : Nat) (v : Int32) (f' i' j' : Nat) : ax_u3 M f i j v f' i' j' = if f' = f ∧ i' = i ∧ j' = j then v else M f' i' j' := rfl
section AxO
variable {k pc pc' ln x y : Nat} {v : Int} {ls ls' : ax_L} {st st' : List Value} {h h' : ax_H}
theorem ay_o {r : ax_R} (hr : ax_code k pc = some r) (h40 : r.1 < 40) (hs : ax_step k pc r ls st h = some (pc', ls', st', h')) : ax_fn k pc ls st h = ax_fn k pc' ls' st' h' := by
  rw [ax_fn_row hr]
  unfold ax_un
  rw [if_pos h40, hs]
theorem ay_o0 (n : Nat) (hr : ax_code k pc = some (0, ln, x, y, (n : Int))) (hp : pc + ln = pc') : ax_fn k pc ls st h = ax_fn k pc' ls (.int (ay_i n) :: st) h := by
  refine ay_o hr (by dsimp only; omega) ?_
  subst hp; rfl
theorem ay_o0m (n : Nat) (hr : ax_code k pc = some (0, ln, x, y, -(n : Int))) (hp : pc + ln = pc') : ax_fn k pc ls st h = ax_fn k pc' ls (.int (ay_n n) :: st) h := by
  refine ay_o hr (by dsimp only; omega) ?_
  subst hp; rfl
theorem ay_o1 {a : Int32} (hr : ax_code k pc = some (1, ln, x, y, v)) (hp : pc + ln = pc') (hx : ls[x]? = some (some (.int a))) : ax_fn k pc ls st h = ax_fn k pc' ls (.int a :: st) h := by
  refine ay_o hr (by dsimp only; omega) ?_
  subst hp
  show ax_s1 _ _ _ _ _ = _
  unfold ax_s1; simp only [hx]
theorem ay_o2 {a : Nat} (hr : ax_code k pc = some (2, ln, x, y, v)) (hp : pc + ln = pc') (hx : ls[x]? = some (some (.ref a))) : ax_fn k pc ls st h = ax_fn k pc' ls (.ref a :: st) h := by
  refine ay_o hr (by dsimp only; omega) ?_
  subst hp
  show ax_s2 _ _ _ _ _ = _
  unfold ax_s2; simp only [hx]
theorem ay_o3 {a : Int32} (hr : ax_code k pc = some (3, ln, x, y, v)) (hp : pc + ln = pc') (hx : x < ls.length) : ax_fn k pc ls (.int a :: st) h = ax_fn k pc' (ls.set x (some (.int a))) st h := by
  refine ay_o hr (by dsimp only; omega) ?_
  subst hp
  show ax_s3 (pc + ln) ls (.int a :: st) h x = _
  unfold ax_s3; simp only [hx, if_true]
theorem ay_o4 {a : Nat} (hr : ax_code k pc = some (4, ln, x, y, v)) (hp : pc + ln = pc') (hx : x < ls.length) : ax_fn k pc ls (.ref a :: st) h = ax_fn k pc' (ls.set x (some (.ref a))) st h := by
  refine ay_o hr (by dsimp only; omega) ?_
  subst hp
  show ax_s4 (pc + ln) ls (.ref a :: st) h x = _
  unfold ax_s4; simp only [hx, if_true]
theorem ay_o5 {a : Int32} (n : Nat) (hr : ax_code k pc = some (5, ln, x, y, (n : Int))) (hp : pc + ln = pc') (hx : ls[x]? = some (some (.int a))) : ax_fn k pc ls st h = ax_fn k pc' (ls.set x (some (.int (a + ay_i n)))) st h := by
  refine ay_o hr (by dsimp only; omega) ?_
  subst hp
  show ax_s5 _ _ _ _ _ _ = _
  unfold ax_s5; simp only [hx]; rfl
theorem ay_o6 {a b : Int32} (hr : ax_code k pc = some (6, ln, x, y, v)) (hp : pc + ln = pc') : ax_fn k pc ls (.int b :: .int a :: st) h = ax_fn k pc' ls (.int (ax_bin x a b) :: st) h := by
  refine ay_o hr (by dsimp only; omega) ?_
  subst hp; rfl
theorem ay_o7 {a : Int32} (hr : ax_code k pc = some (7, ln, x, y, v)) (hp : pc + ln = pc') : ax_fn k pc ls (.int a :: st) h = ax_fn k pc' ls (.long a.toInt64 :: st) h := by
  refine ay_o hr (by dsimp only; omega) ?_
  subst hp; rfl
theorem ay_o8 {a b : Int64} (hr : ax_code k pc = some (8, ln, x, y, v)) (hp : pc + ln = pc') : ax_fn k pc ls (.long b :: .long a :: st) h = ax_fn k pc' ls (.int (lg_cmp a b) :: st) h := by
  refine ay_o hr (by dsimp only; omega) ?_
  subst hp; rfl
theorem ay_o9 (hr : ax_code k pc = some (9, ln, x, y, v)) (hp : pc + ln = pc') : ax_fn k pc ls st h = ax_fn k pc' ls (.long (Int64.ofNat x) :: st) h := by
  refine ay_o hr (by dsimp only; omega) ?_
  subst hp; rfl
theorem ay_o10i {a : Int32} (hr : ax_code k pc = some (10, ln, x, y, v)) (hp : pc + ln = pc') : ax_fn k pc ls (.int a :: st) h = ax_fn k pc' ls (.int a :: .int a :: st) h := by
  refine ay_o hr (by dsimp only; omega) ?_
  subst hp; rfl
theorem ay_o10r {a : Nat} (hr : ax_code k pc = some (10, ln, x, y, v)) (hp : pc + ln = pc') : ax_fn k pc ls (.ref a :: st) h = ax_fn k pc' ls (.ref a :: .ref a :: st) h := by
  refine ay_o hr (by dsimp only; omega) ?_
  subst hp; rfl
theorem ay_o11 {a : Int32} {b : Nat} (hr : ax_code k pc = some (11, ln, x, y, v)) (hp : pc + ln = pc') : ax_fn k pc ls (.int a :: .ref b :: st) h = ax_fn k pc' ls (.int a :: .ref b :: .int a :: .ref b :: st) h := by
  refine ay_o hr (by dsimp only; omega) ?_
  subst hp; rfl
theorem ay_o12 {a : Int32} (hr : ax_code k pc = some (12, ln, x, y, v)) (hp : pc + ln = pc') : ax_fn k pc ls (.int a :: st) h = ax_fn k (if ax_c1 x a = true then y else pc') ls st h := by
  refine ay_o hr (by dsimp only; omega) ?_
  subst hp; rfl
theorem ay_o13 {a b : Int32} (hr : ax_code k pc = some (13, ln, x, y, v)) (hp : pc + ln = pc') : ax_fn k pc ls (.int b :: .int a :: st) h = ax_fn k (if ax_c2 x a b = true then y else pc') ls st h := by
  refine ay_o hr (by dsimp only; omega) ?_
  subst hp; rfl
theorem ay_ja {c : Bool} {p : Prop} {d : Decidable p} {p1 p2 : Nat} (hc : (c = true) = p) : ax_fn k (if c = true then p1 else p2) ls st h = if p then ax_fn k p1 ls st h else ax_fn k p2 ls st h := by
  by_cases hp : p
  · rw [if_pos hp, if_pos (hc ▸ hp)]
  · rw [if_neg hp, if_neg (hc ▸ hp)]
theorem ay_jb {c : Bool} {p : Prop} {d : Decidable p} {p1 p2 : Nat} (hc : (c = true) = ¬ p) : ax_fn k (if c = true then p1 else p2) ls st h = if p then ax_fn k p2 ls st h else ax_fn k p1 ls st h := by
  by_cases hp : p
  · rw [if_pos hp, if_neg (by rw [hc]; exact fun h => h hp)]
  · rw [if_neg hp, if_pos (by rw [hc]; exact hp)]
theorem ay_o12_0 {a : Int32} (hr : ax_code k pc = some (12, ln, 0, y, v)) (hp : pc + ln = pc') : ax_fn k pc ls (.int a :: st) h = if a = ay_i 0 then ax_fn k y ls st h else ax_fn k pc' ls st h := by
  rw [ay_o12 hr hp]; exact ay_ja (by simp only [ax_c1, decide_eq_true_eq]; rfl)
theorem ay_o12_1 {a : Int32} (hr : ax_code k pc = some (12, ln, 1, y, v)) (hp : pc + ln = pc') : ax_fn k pc ls (.int a :: st) h = if a = ay_i 0 then ax_fn k pc' ls st h else ax_fn k y ls st h := by
  rw [ay_o12 hr hp]; exact ay_jb (by simp only [ax_c1, decide_eq_true_eq]; rfl)
theorem ay_o12_2 {a : Int32} (hr : ax_code k pc = some (12, ln, 2, y, v)) (hp : pc + ln = pc') : ax_fn k pc ls (.int a :: st) h = if a < ay_i 0 then ax_fn k y ls st h else ax_fn k pc' ls st h := by
  rw [ay_o12 hr hp]; exact ay_ja (by simp only [ax_c1, decide_eq_true_eq]; rfl)
theorem ay_o12_3 {a : Int32} (hr : ax_code k pc = some (12, ln, 3, y, v)) (hp : pc + ln = pc') : ax_fn k pc ls (.int a :: st) h = if a < ay_i 0 then ax_fn k pc' ls st h else ax_fn k y ls st h := by
  rw [ay_o12 hr hp]; exact ay_jb (by simp only [ax_c1, decide_eq_true_eq, Int32.not_lt]; rfl)
theorem ay_o12_4 {a : Int32} (hr : ax_code k pc = some (12, ln, 4, y, v)) (hp : pc + ln = pc') : ax_fn k pc ls (.int a :: st) h = if ay_i 0 < a then ax_fn k y ls st h else ax_fn k pc' ls st h := by
  rw [ay_o12 hr hp]; exact ay_ja (by simp only [ax_c1, decide_eq_true_eq]; rfl)
theorem ay_o12_5 {a : Int32} (hr : ax_code k pc = some (12, ln, 5, y, v)) (hp : pc + ln = pc') : ax_fn k pc ls (.int a :: st) h = if ay_i 0 < a then ax_fn k pc' ls st h else ax_fn k y ls st h := by
  rw [ay_o12 hr hp]; exact ay_jb (by simp only [ax_c1, decide_eq_true_eq, Int32.not_lt]; rfl)
theorem ay_o13_0 {a b : Int32} (hr : ax_code k pc = some (13, ln, 0, y, v)) (hp : pc + ln = pc') : ax_fn k pc ls (.int b :: .int a :: st) h = if a = b then ax_fn k y ls st h else ax_fn k pc' ls st h := by
  rw [ay_o13 hr hp]; exact ay_ja (by simp only [ax_c2, decide_eq_true_eq])
theorem ay_o13_1 {a b : Int32} (hr : ax_code k pc = some (13, ln, 1, y, v)) (hp : pc + ln = pc') : ax_fn k pc ls (.int b :: .int a :: st) h = if a = b then ax_fn k pc' ls st h else ax_fn k y ls st h := by
  rw [ay_o13 hr hp]; exact ay_jb (by simp only [ax_c2, decide_eq_true_eq])
theorem ay_o13_2 {a b : Int32} (hr : ax_code k pc = some (13, ln, 2, y, v)) (hp : pc + ln = pc') : ax_fn k pc ls (.int b :: .int a :: st) h = if a < b then ax_fn k y ls st h else ax_fn k pc' ls st h := by
  rw [ay_o13 hr hp]; exact ay_ja (by simp only [ax_c2, decide_eq_true_eq])
theorem ay_o13_3 {a b : Int32} (hr : ax_code k pc = some (13, ln, 3, y, v)) (hp : pc + ln = pc') : ax_fn k pc ls (.int b :: .int a :: st) h = if a < b then ax_fn k pc' ls st h else ax_fn k y ls st h := by
  rw [ay_o13 hr hp]; exact ay_jb (by simp only [ax_c2, decide_eq_true_eq, Int32.not_lt])
theorem ay_o13_4 {a b : Int32} (hr : ax_code k pc = some (13, ln, 4, y, v)) (hp : pc + ln = pc') : ax_fn k pc ls (.int b :: .int a :: st) h = if b < a then ax_fn k y ls st h else ax_fn k pc' ls st h := by
  rw [ay_o13 hr hp]; exact ay_ja (by simp only [ax_c2, decide_eq_true_eq])
theorem ay_o13_5 {a b : Int32} (hr : ax_code k pc = some (13, ln, 5, y, v)) (hp : pc + ln = pc') : ax_fn k pc ls (.int b :: .int a :: st) h = if b < a then ax_fn k pc' ls st h else ax_fn k y ls st h := by
  rw [ay_o13 hr hp]; exact ay_jb (by simp only [ax_c2, decide_eq_true_eq, Int32.not_lt])
theorem ay_o14 (hr : ax_code k pc = some (14, ln, x, pc', v)) : ax_fn k pc ls st h = ax_fn k pc' ls st h := by
  refine ay_o hr (by dsimp only; omega) ?_
  rfl
theorem ay_o33 {a : Int32} (hr : ax_code k pc = some (33, ln, x, y, v)) : ax_fn k pc ls (.int a :: st) h = ax_fn k (if a.toInt < (ax_sw x).1 then (ax_sw x).2.2 else ((ax_sw x).2.1[(a.toInt - (ax_sw x).1).toNat]?).getD (ax_sw x).2.2) ls st h := by
  refine ay_o hr (by dsimp only; omega) ?_
  rfl
theorem ay_o33i {n : Nat} (hn : n < 2147483648) (hr : ax_code k pc = some (33, ln, x, y, v)) {t : Nat} (ht : (if (n : Int) < (ax_sw x).1 then (ax_sw x).2.2 else ((ax_sw x).2.1[((n : Int) - (ax_sw x).1).toNat]?).getD (ax_sw x).2.2) = t) : ax_fn k pc ls (.int (ay_i n) :: st) h = ax_fn k t ls st h := by
  rw [ay_o33 hr, ay_i_toInt hn, ht]
end AxO
section AxOh
variable {k pc pc' ln x y : Nat} {v : Int} {ls : ax_L} {st : List Value} {X : Nat × (Nat → Int32)} {e gb : Nat} {M : ax_M} {o : Int64} {f i n nd : Nat}
theorem ay_o15i {op kk : Nat} (hop : op = 15 ∨ op = 16) (hr : ax_code k pc = some (op, ln, x, y, v)) (hp : pc + ln = pc') (hk : ax_kd f = (x + 1, kk)) (hc : ax_ct f = n) (hq : x < 9 ∧ y < ax_nf x ∧ ax_ft x y ≠ 2) (hi : i < n) : ax_fn k pc ls (.ref (ax_a f i) :: st) (ax_hp X e gb M o) = ax_fn k pc' ls (.int (M f i y) :: st) (ax_hp X e gb M o) := by
  have hi : i < ax_ct f := by rw [hc]; exact hi
  have hs : ax_s15 (pc + ln) ls (.ref (ax_a f i) :: st) (ax_hp X e gb M o) x y = some (pc', ls, .int (M f i y) :: st, ax_hp X e gb M o) := by
    subst hp
    unfold ax_s15 ax_fv
    simp only [ax_hp_lt hi, ax_hp_s hi, hk, hq.1, hq.2.1, hq.2.2, ax_hp_i hi, and_self, if_true, if_false, Option.map_some]
  refine ay_o hr (by rcases hop with rfl | rfl <;> (dsimp only; omega)) ?_
  rcases hop with rfl | rfl <;> exact hs
theorem ay_o15r {op kk a : Nat} (hop : op = 15 ∨ op = 16) (hr : ax_code k pc = some (op, ln, x, y, v)) (hp : pc + ln = pc') (hk : ax_kd f = (x + 1, kk)) (hc : ax_ct f = n) (hq : x < 9 ∧ y < ax_nf x ∧ ax_ft x y = 2) (ha : ax_rf gb f i y = some a) (hi : i < n) : ax_fn k pc ls (.ref (ax_a f i) :: st) (ax_hp X e gb M o) = ax_fn k pc' ls (.ref a :: st) (ax_hp X e gb M o) := by
  have hi : i < ax_ct f := by rw [hc]; exact hi
  have hs : ax_s15 (pc + ln) ls (.ref (ax_a f i) :: st) (ax_hp X e gb M o) x y = some (pc', ls, .ref a :: st, ax_hp X e gb M o) := by
    subst hp
    unfold ax_s15 ax_fv
    simp only [ax_hp_lt hi, ax_hp_s hi, hk, hq.1, hq.2.1, hq.2.2, ax_hp_r hi, ha, and_self, if_true, Option.map_some]
  refine ay_o hr (by rcases hop with rfl | rfl <;> (dsimp only; omega)) ?_
  rcases hop with rfl | rfl <;> exact hs
theorem ay_o17i {kk : Nat} {w : Int32} (hr : ax_code k pc = some (17, ln, x, y, v)) (hp : pc + ln = pc') (hk : ax_kd f = (x + 1, kk)) (hc : ax_ct f = n) (hq : x < 9 ∧ y < ax_nf x ∧ ax_ft x y = 0) (hi : i < n) : ax_fn k pc ls (.int w :: .ref (ax_a f i) :: st) (ax_hp X e gb M o) = ax_fn k pc' ls st (ax_hp X e gb (ax_u3 M f i y w) o) := by
  have hi : i < ax_ct f := by rw [hc]; exact hi
  refine ay_o hr (by dsimp only; omega) ?_
  subst hp
  show ax_s17 (pc + ln) ls (.int w :: .ref (ax_a f i) :: st) (ax_hp X e gb M o) x y = _
  unfold ax_s17
  simp only [ax_hp_lt hi, ax_hp_s hi, hk, hq.1, hq.2.1, hq.2.2, ax_hp_up hi, and_self, true_or, if_true]
theorem ay_o17b {kk : Nat} {w : Int32} (hr : ax_code k pc = some (17, ln, x, y, v)) (hp : pc + ln = pc') (hk : ax_kd f = (x + 1, kk)) (hc : ax_ct f = n) (hq : x < 9 ∧ y < ax_nf x ∧ ax_ft x y = 1) (hi : i < n) (hw : ay_z1 w) : ax_fn k pc ls (.int w :: .ref (ax_a f i) :: st) (ax_hp X e gb M o) = ax_fn k pc' ls st (ax_hp X e gb (ax_u3 M f i y w) o) := by
  have hi : i < ax_ct f := by rw [hc]; exact hi
  have hw : w = 0 ∨ w = 1 := hw
  refine ay_o hr (by dsimp only; omega) ?_
  subst hp
  show ax_s17 (pc + ln) ls (.int w :: .ref (ax_a f i) :: st) (ax_hp X e gb M o) x y = _
  unfold ax_s17
  simp only [ax_hp_lt hi, ax_hp_s hi, hk, hq.1, hq.2.1, hq.2.2, ax_hp_up hi, hw, and_self, or_true, if_true]
theorem ay_o17g {b : Nat} (hr : ax_code k pc = some (17, ln, 3, 5, v)) (hp : pc + ln = pc') : ax_fn k pc ls (.ref (ax_a 3 b) :: .ref (ax_a 9 0) :: st) (ax_hp X e gb M o) = ax_fn k pc' ls st (ax_hp X e b M o) := by
  have hi : 0 < ax_ct 9 := by decide
  refine ay_o hr (by dsimp only; omega) ?_
  subst hp
  show ax_s17 (pc + ln) ls (.ref (ax_a 3 b) :: .ref (ax_a 9 0) :: st) (ax_hp X e gb M o) 3 5 = _
  unfold ax_s17
  simp only [ax_hp_gb]
  rw [if_pos ⟨ax_hp_lt hi, by rw [ax_hp_s hi, ay_k9], by decide, by decide, by decide⟩]
theorem ay_o19 {op kd m j : Nat} (hop : (op = 19 ∧ kd = 20) ∨ (op = 21 ∧ kd = 21)) (hr : ax_code k pc = some (op, ln, x, y, v)) (hp : pc + ln = pc') (hk : ax_kd f = (kd, m)) (hc : ax_ct f = n) (hm : m ≤ 480) (hi : i < n) (hj : j < m) : ax_fn k pc ls (.int (ay_i j) :: .ref (ax_a f i) :: st) (ax_hp X e gb M o) = ax_fn k pc' ls (.int (M f i j) :: st) (ax_hp X e gb M o) := by
  have hi : i < ax_ct f := by rw [hc]; exact hi
  have hj' : j < 2147483648 := by omega
  have hs : ax_s19 kd (pc + ln) ls (.int (ay_i j) :: .ref (ax_a f i) :: st) (ax_hp X e gb M o) = some (pc', ls, .int (M f i j) :: st, ax_hp X e gb M o) := by
    subst hp
    unfold ax_s19
    simp only [ax_hp_lt hi, ax_hp_s hi, hk, ay_i_out hj' hj, ay_i_ct hj', ax_hp_i hi, and_self, if_true]
  refine ay_o hr (by rcases hop with ⟨rfl, -⟩ | ⟨rfl, -⟩ <;> (dsimp only; omega)) ?_
  rcases hop with ⟨rfl, rfl⟩ | ⟨rfl, rfl⟩ <;> exact hs
theorem ay_o20 {m j : Nat} {w : Int32} (hr : ax_code k pc = some (20, ln, x, y, v)) (hp : pc + ln = pc') (hk : ax_kd f = (20, m)) (hc : ax_ct f = n) (hm : m ≤ 480) (hi : i < n) (hj : j < m) : ax_fn k pc ls (.int w :: .int (ay_i j) :: .ref (ax_a f i) :: st) (ax_hp X e gb M o) = ax_fn k pc' ls st (ax_hp X e gb (ax_u3 M f i j w) o) := by
  have hi : i < ax_ct f := by rw [hc]; exact hi
  have hj' : j < 2147483648 := by omega
  refine ay_o hr (by dsimp only; omega) ?_
  subst hp
  show ax_s20 20 (pc + ln) ls (.int w :: .int (ay_i j) :: .ref (ax_a f i) :: st) (ax_hp X e gb M o) = _
  unfold ax_s20
  simp only [ax_hp_lt hi, ax_hp_s hi, hk, ay_i_out hj' hj, ay_i_ct hj', ax_hp_up hi, and_self, true_or, if_true]
theorem ay_o22 {m j : Nat} {w : Int32} (hr : ax_code k pc = some (22, ln, x, y, v)) (hp : pc + ln = pc') (hk : ax_kd f = (21, m)) (hc : ax_ct f = n) (hm : m ≤ 480) (hi : i < n) (hj : j < m) (hw : ay_z1 w) : ax_fn k pc ls (.int w :: .int (ay_i j) :: .ref (ax_a f i) :: st) (ax_hp X e gb M o) = ax_fn k pc' ls st (ax_hp X e gb (ax_u3 M f i j w) o) := by
  have hi : i < ax_ct f := by rw [hc]; exact hi
  have hw : w = 0 ∨ w = 1 := hw
  have hj' : j < 2147483648 := by omega
  refine ay_o hr (by dsimp only; omega) ?_
  subst hp
  show ax_s20 21 (pc + ln) ls (.int w :: .int (ay_i j) :: .ref (ax_a f i) :: st) (ax_hp X e gb M o) = _
  unfold ax_s20
  simp only [ax_hp_lt hi, ax_hp_s hi, hk, ay_i_out hj' hj, ay_i_ct hj', ax_hp_up hi, hw, and_self, or_true, if_true]
theorem ay_o23 (hr : ax_code k pc = some (23, ln, x, y, v)) (hp : pc + ln = pc') : ax_fn k pc ls (.int (ay_i 0) :: .ref (ax_a 68 0) :: st) (ax_hp X e gb M o) = ax_fn k pc' ls (.long o :: st) (ax_hp X e gb M o) := by
  have hi : 0 < ax_ct 68 := by decide
  refine ay_o hr (by dsimp only; omega) ?_
  subst hp
  show ax_s23 (pc + ln) ls (.int (ay_i 0) :: .ref (ax_a 68 0) :: st) (ax_hp X e gb M o) = _
  unfold ax_s23
  simp only [ax_hp_lt hi, ax_hp_s hi, ay_k68, ay_i_out (a := 0) (n := 1) (by omega) (by omega), ay_i_ct (a := 0) (by omega), and_self, if_true]
  rfl
theorem ay_o24 {w : Int64} (hr : ax_code k pc = some (24, ln, x, y, v)) (hp : pc + ln = pc') : ax_fn k pc ls (.long w :: .int (ay_i 0) :: .ref (ax_a 68 0) :: st) (ax_hp X e gb M o) = ax_fn k pc' ls st (ax_hp X e gb M w) := by
  have hi : 0 < ax_ct 68 := by decide
  refine ay_o hr (by dsimp only; omega) ?_
  subst hp
  show ax_s24 (pc + ln) ls (.long w :: .int (ay_i 0) :: .ref (ax_a 68 0) :: st) (ax_hp X e gb M o) = _
  unfold ax_s24
  simp only [ax_hp_lt hi, ax_hp_s hi, ay_k68, ay_i_out (a := 0) (n := 1) (by omega) (by omega), ay_i_ct (a := 0) (by omega), and_self, if_true, ax_hp_o]
theorem ay_o25 {kd m j a : Nat} (hr : ax_code k pc = some (25, ln, x, y, v)) (hp : pc + ln = pc') (hk : ax_kd f = (kd, m)) (hra : ax_ra kd = true) (hc : ax_ct f = n) (hm : m ≤ 480) (ha : j < m → ax_rf gb f i j = some a) (hi : i < n) (hj : j < m) : ax_fn k pc ls (.int (ay_i j) :: .ref (ax_a f i) :: st) (ax_hp X e gb M o) = ax_fn k pc' ls (.ref a :: st) (ax_hp X e gb M o) := by
  have hi : i < ax_ct f := by rw [hc]; exact hi
  have hj' : j < 2147483648 := by omega
  refine ay_o hr (by dsimp only; omega) ?_
  subst hp
  show ax_s25 (pc + ln) ls (.int (ay_i j) :: .ref (ax_a f i) :: st) (ax_hp X e gb M o) = _
  unfold ax_s25
  simp only [ax_hp_lt hi, ax_hp_s hi, hk, hra, ay_i_out hj' hj, ay_i_ct hj', ax_hp_r hi, ha hj, and_self, if_true, Option.map_some]
theorem ay_o27 {m : Nat} (hr : ax_code k pc = some (27, ln, x, y, v)) (hp : pc + ln = pc') (hk : ax_kd f = (20, m)) (hi : i < ax_ct f) : ax_fn k pc ls (.ref (ax_a f i) :: st) (ax_hp X e gb M o) = ax_fn k pc' ls (.int (ay_i m) :: st) (ax_hp X e gb M o) := by
  refine ay_o hr (by dsimp only; omega) ?_
  subst hp
  show ax_s27 k (pc + ln) ls (.ref (ax_a f i) :: st) (ax_hp X e gb M o) = _
  unfold ax_s27
  simp only [ax_hp_lt hi, ax_hp_s hi, hk, and_self, true_or, if_true]
  rfl
theorem ay_o27s (hr : ax_code 0 pc = some (27, ln, x, y, v)) (hp : pc + ln = pc') : ax_fn 0 pc ls (.ref 1000000000 :: st) (ax_hp X e gb M o) = ax_fn 0 pc' ls (.int (ay_i X.1) :: st) (ax_hp X e gb M o) := by
  refine ay_o hr (by dsimp only; omega) ?_
  subst hp
  show ax_s27 0 (pc + ln) ls (.ref 1000000000 :: st) (ax_hp X e gb M o) = _
  unfold ax_s27
  simp only [and_self, or_true, if_true]
  rfl
theorem ay_o34 {j : Nat} (hr : ax_code 0 pc = some (34, ln, x, y, v)) (hp : pc + ln = pc') (hX : X.1 ≤ 3072) (hj : j < X.1) : ax_fn 0 pc ls (.int (ay_i j) :: .ref 1000000000 :: st) (ax_hp X e gb M o) = ax_fn 0 pc' ls (.int (X.2 j) :: st) (ax_hp X e gb M o) := by
  have hj' : j < 2147483648 := by omega
  have hsh : (ax_hp X e gb M o).2.1 1000000000 = (99, X.1) := rfl
  refine ay_o hr (by dsimp only; omega) ?_
  subst hp
  show ax_s19s 0 (pc + ln) ls (.int (ay_i j) :: .ref 1000000000 :: st) (ax_hp X e gb M o) = _
  unfold ax_s19s
  simp only [hsh, ay_i_out hj' hj, ay_i_ct hj', and_self, if_true]
  rfl
theorem ay_o32 {f' i' n' : Nat} (hr : ax_code k pc = some (32, ln, x, y, v)) (hp : pc + ln = pc') (hk : ax_kd f = (20, 8)) (hk' : ax_kd f' = (20, 8)) (hc : ax_ct f = n) (hc' : ax_ct f' = n') (hi : i < n) (hi' : i' < n') (hne : ¬ (f = f' ∧ i = i')) : ax_fn k pc ls [.int (ay_i 8), .int (ay_i 0), .ref (ax_a f' i'), .int (ay_i 0), .ref (ax_a f i)] (ax_hp X e gb M o) = ax_fn k pc' ls [] (ax_hp X e gb (ax_r3 M f' i' (fun j => if j < 8 then M f i j else M f' i' j)) o) := by
  have hi : i < ax_ct f := by rw [hc]; exact hi
  have hi' : i' < ax_ct f' := by rw [hc']; exact hi'
  have hna : ax_a f i ≠ ax_a f' i' := by
    intro hh
    obtain ⟨-, h1, h2⟩ := ax_dc hi
    obtain ⟨-, h3, h4⟩ := ax_dc hi'
    rw [hh] at h1 h2
    exact hne ⟨h1.symm.trans h3, h2.symm.trans h4⟩
  refine ay_o hr (by dsimp only; omega) ?_
  subst hp
  show ax_s32 (pc + ln) ls [.int (ay_i 8), .int (ay_i 0), .ref (ax_a f' i'), .int (ay_i 0), .ref (ax_a f i)] (ax_hp X e gb M o) = _
  unfold ax_s32
  have h8 : ay_i 8 = 8 := rfl
  have h0 : ay_i 0 = 0 := rfl
  simp only [ax_hp_lt hi, ax_hp_lt hi', ax_hp_s hi, ax_hp_s hi', hk, hk', h8, h0, hna, ne_eq, not_false_eq_true, and_self, if_true, ax_hp_i hi, ax_hp_i hi', ax_hp_rw hi']
end AxOh
/-! calls and ends -/
noncomputable def ay_cl (r : Option (ax_O × ax_H)) (k pc pc' : Nat) (ls : ax_L) (st : List Value) : Option (ax_O × ax_H) := match r with
  | some (.inl w, h1) => ax_fn k pc' ls (w.toList ++ st) h1
  | some (.inr q, h1) => (match ax_hn (ax_hd k) pc q.2 with
    | some t => ax_fn k t ls [.ref q.1] h1
    | none => if ax_hx k = [] then some (.inr q, h1) else none)
  | none => none
section AxC
variable {k pc pc' ln x y : Nat} {v : Int} {ls : ax_L} {st : List Value} {h h1 : ax_H} {X : Nat × (Nat → Int32)} {e gb : Nat} {M : ax_M} {o : Int64}
theorem ay_cl_v : ay_cl (some (.inl none, h1)) k pc pc' ls st = ax_fn k pc' ls st h1 := rfl
theorem ay_cl_s {w : Value} : ay_cl (some (.inl (some w), h1)) k pc pc' ls st = ax_fn k pc' ls (w :: st) h1 := rfl
theorem ay_cl_x {q : Nat × Nat} (h2 : ax_hd k = []) (h3 : ax_hx k = []) : ay_cl (some (.inr q, h1)) k pc pc' ls st = some (.inr q, h1) := by
  show (match ax_hn (ax_hd k) pc q.2 with | some t => ax_fn k t ls [.ref q.1] h1 | none => if ax_hx k = [] then some (.inr q, h1) else none) = _
  rw [h2, h3]; rfl
theorem ay_cl_h {a j t : Nat} (h2 : ax_hn (ax_hd k) pc j = some t) : ay_cl (some (.inr (a, j), h1)) k pc pc' ls st = ax_fn k t ls [.ref a] h1 := by
  show (match ax_hn (ax_hd k) pc j with | some t => ax_fn k t ls [.ref a] h1 | none => if ax_hx k = [] then some (.inr (a, j), h1) else none) = _
  rw [h2]
theorem ay_call {op : Nat} {as : List Value} {st0 : List Value} (hr : ax_code k pc = some (op, ln, x, y, v)) (hp : pc + 3 = pc') (hop : 40 ≤ op ∧ op < 50) (hy : y = as.length) (hst : st0 = as.reverse ++ st) (hca : ax_ca op x as st h = true) : ax_fn k pc ls st0 h = ay_cl (ax_fn x 0 (ax_entry x as) [] h) k pc pc' ls st := by
  rw [ax_fn_row hr]
  unfold ax_un
  have ht : (st0.take y).reverse = as := by
    rw [hst, hy, List.take_append_of_le_length (by simp), ← List.length_reverse, List.take_length, List.reverse_reverse]
  have hd : st0.drop y = st := by
    rw [hst, hy, ← List.length_reverse, List.drop_left]
  simp only [show ¬ op < 40 by omega, show op < 50 from hop.2, if_false, if_true, ht, hd, hca, and_true]
  rw [if_pos (by rw [hst, hy]; simp)]
  subst hp
  rfl
theorem ay_ca40 {op x : Nat} {as rest : List Value} (ho : op < 42) (h1 : as.all (fun v => v.category == 1) = true) (h2 : (rest.map fun v => v.category).sum ≤ 8) : ax_ca op x as rest h = true := by
  unfold ax_ca
  simp only [ho, if_true, Bool.and_true, decide_eq_true_eq]
  exact ⟨h1, h2⟩
theorem ay_ca43 {op x a : Nat} {as rest : List Value} (ho : 42 < op) (h1 : as.all (fun v => v.category == 1) = true) (h2 : (rest.map fun v => v.category).sum ≤ 8) : ax_ca op x (.ref a :: as) rest h = true := by
  unfold ax_ca
  simp only [show ¬ op < 42 by omega, if_false, Bool.and_eq_true, decide_eq_true_eq]
  exact ⟨⟨h1, h2⟩, .inl (by omega)⟩
theorem ay_ca42 {x f i n kk : Nat} {as rest : List Value} (hk : ax_kd f = (ax_wn x + 1, kk)) (hq : ax_wn x < 9 ∧ ax_nm x ≠ "<init>") (hc : ax_ct f = n) (h1 : as.all (fun v => v.category == 1) = true) (h2 : (rest.map fun v => v.category).sum ≤ 8) (hi : i < n) : ax_ca 42 x (.ref (ax_a f i) :: as) rest (ax_hp X e gb M o) = true := by
  have hi : i < ax_ct f := by rw [hc]; exact hi
  unfold ax_ca
  simp only [Nat.lt_irrefl, if_false, Bool.and_eq_true, decide_eq_true_eq]
  exact ⟨⟨h1, h2⟩, .inr ⟨ax_hp_lt hi, by rw [ax_hp_s hi, hk], hq.1, hq.2⟩⟩
theorem ay_end50 {a : Int32} (hr : ax_code k pc = some (50, ln, x, y, v)) (hq : ax_rt k = some .int) : ax_fn k pc ls [.int a] h = some (.inl (some (.int a)), h) := by
  rw [ax_fn_row hr]
  show ax_e50 k [.int a] h = _
  unfold ax_e50
  simp only [hq, true_or, if_true]
theorem ay_end50b {a : Int32} (hr : ax_code k pc = some (50, ln, x, y, v)) (ha : ay_z1 a) : ax_fn k pc ls [.int a] h = some (.inl (some (.int a)), h) := by
  have ha : a = 0 ∨ a = 1 := ha
  rw [ax_fn_row hr]
  show ax_e50 k [.int a] h = _
  unfold ax_e50
  simp only [ha, or_true, if_true]
theorem ay_end51 (hr : ax_code k pc = some (51, ln, x, y, v)) : ax_fn k pc ls [] h = some (.inl none, h) := by
  rw [ax_fn_row hr]; rfl
theorem ay_end52 {a : Nat} (hr : ax_code k pc = some (52, ln, x, y, v)) : ax_fn k pc ls [.ref a] h = some (.inl (some (.ref a)), h) := by
  rw [ax_fn_row hr]; rfl
theorem ay_end53 (hr : ax_code k pc = some (53, ln, x, y, v)) (he : e < 800000) : ax_fn k pc ls [] (ax_hp X e gb M o) = some (.inr (389 + e, x), ax_hp X (e + 1) gb M o) := by
  rw [ax_fn_row hr]
  show ax_e53 x [] (ax_hp X e gb M o) = _
  unfold ax_e53
  simp only
  rw [if_pos (by rw [ax_hp_c]; omega), ax_hp_x (by omega)]
  rfl
end AxC
