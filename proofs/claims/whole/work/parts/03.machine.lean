/-! THE ABSTRACT MACHINE. A heap: ((cells made, slots made), what a cell is (kind, length), its ints, its references, its longs), by the cell's number since the law's start. Kinds: 1 + c an object of class c; 20 int[], 21 boolean[], 22 long[]; 30 + c an array of class c; 0 nothing is known. Address 1000000000 is the script. -/
abbrev ax_H : Type := (Nat × Nat) × (Nat → Nat × Nat) × (Nat → Nat → Int32) × (Nat → Nat → Option Nat) × (Nat → Nat → Int64)
abbrev ax_R : Type := Nat × Nat × Nat × Nat × Int
abbrev ax_L : Type := List (Option Value)
def ax_up {α : Type} (f : Nat → Nat → α) (a i : Nat) (x : α) : Nat → Nat → α := fun b j => if b = a ∧ j = i then x else f b j
def ax_rw {α : Type} (f : Nat → Nat → α) (a : Nat) (g : Nat → α) : Nat → Nat → α := fun b => if b = a then g else f b
def ax_sh (f : Nat → Nat × Nat) (a : Nat) (x : Nat × Nat) : Nat → Nat × Nat := fun b => if b = a then x else f b
def ax_bin (o : Nat) (x y : Int32) : Int32 := match o with
  | 0 => x + y
  | 1 => x - y
  | 2 => x * y
  | 3 => x &&& y
  | 4 => x ||| y
  | 5 => x ^^^ y
  | 6 => x <<< (y &&& 31)
  | _ => x >>> (y &&& 31)
def ax_c1 (o : Nat) (x : Int32) : Bool := match o with
  | 0 => decide (x = 0)
  | 1 => decide (¬ x = 0)
  | 2 => decide (x < 0)
  | 3 => decide (0 ≤ x)
  | 4 => decide (0 < x)
  | _ => decide (x ≤ 0)
def ax_c2 (o : Nat) (x y : Int32) : Bool := match o with
  | 0 => decide (x = y)
  | 1 => decide (¬ x = y)
  | 2 => decide (x < y)
  | 3 => decide (y ≤ x)
  | 4 => decide (y < x)
  | _ => decide (x ≤ y)
/-- what a field holds, as a value -/
def ax_fv (h : ax_H) (ci a i : Nat) : Option Value := if ax_ft ci i = 2 then (h.2.2.2.1 a i).map Value.ref else some (.int (h.2.2.1 a i))
/-- a new cell: its kind, its length, how many slots -/
def ax_new (h : ax_H) (kd n : Nat) : ax_H := ((h.1.1 + 1, h.1.2 + n), ax_sh h.2.1 h.1.1 (kd, n), ax_rw h.2.2.1 h.1.1 (fun _ => 0), ax_rw h.2.2.2.1 h.1.1 (fun _ => none), ax_rw h.2.2.2.2 h.1.1 (fun _ => 0))
def ax_out (i : Int32) (n : Nat) : Bool := decide (i < 0 ∨ n ≤ i.toNatClampNeg)
/-- the switches: the least number, the targets, the default -/
abbrev ax_G : Type := Option (Nat × ax_L × List Value × ax_H)
def ax_s1 (pc : Nat) (ls : ax_L) (st : List Value) (h : ax_H) (x : Nat) : ax_G := match ls[x]? with
  | some (some (.int a)) => some (pc, ls, .int a :: st, h)
  | _ => none
def ax_s2 (pc : Nat) (ls : ax_L) (st : List Value) (h : ax_H) (x : Nat) : ax_G := match ls[x]? with
  | some (some (.ref a)) => some (pc, ls, .ref a :: st, h)
  | _ => none
def ax_s3 (pc : Nat) (ls : ax_L) (st : List Value) (h : ax_H) (x : Nat) : ax_G := match st with
  | .int a :: r => if x < ls.length then some (pc, ls.set x (some (.int a)), r, h) else none
  | _ => none
def ax_s4 (pc : Nat) (ls : ax_L) (st : List Value) (h : ax_H) (x : Nat) : ax_G := match st with
  | .ref a :: r => if x < ls.length then some (pc, ls.set x (some (.ref a)), r, h) else none
  | _ => none
def ax_s5 (pc : Nat) (ls : ax_L) (st : List Value) (h : ax_H) (x : Nat) (v : Int) : ax_G := match ls[x]? with
  | some (some (.int a)) => some (pc, ls.set x (some (.int (a + Int32.ofInt v))), st, h)
  | _ => none
def ax_s6 (pc : Nat) (ls : ax_L) (st : List Value) (h : ax_H) (x : Nat) : ax_G := match st with
  | .int b :: .int a :: r => some (pc, ls, .int (ax_bin x a b) :: r, h)
  | _ => none
def ax_s7 (pc : Nat) (ls : ax_L) (st : List Value) (h : ax_H) : ax_G := match st with
  | .int a :: r => some (pc, ls, .long a.toInt64 :: r, h)
  | _ => none
def ax_s8 (pc : Nat) (ls : ax_L) (st : List Value) (h : ax_H) : ax_G := match st with
  | .long b :: .long a :: r => some (pc, ls, .int (lg_cmp a b) :: r, h)
  | _ => none
def ax_s10 (pc : Nat) (ls : ax_L) (st : List Value) (h : ax_H) : ax_G := match st with
  | .int a :: r => some (pc, ls, .int a :: .int a :: r, h)
  | .ref a :: r => some (pc, ls, .ref a :: .ref a :: r, h)
  | _ => none
def ax_s11 (pc : Nat) (ls : ax_L) (st : List Value) (h : ax_H) : ax_G := match st with
  | .int a :: .ref b :: r => some (pc, ls, .int a :: .ref b :: .int a :: .ref b :: r, h)
  | _ => none
def ax_s12 (pc : Nat) (ls : ax_L) (st : List Value) (h : ax_H) (x y : Nat) : ax_G := match st with
  | .int a :: r => some (if ax_c1 x a then y else pc, ls, r, h)
  | _ => none
def ax_s13 (pc : Nat) (ls : ax_L) (st : List Value) (h : ax_H) (x y : Nat) : ax_G := match st with
  | .int b :: .int a :: r => some (if ax_c2 x a b then y else pc, ls, r, h)
  | _ => none
def ax_s15 (pc : Nat) (ls : ax_L) (st : List Value) (h : ax_H) (x y : Nat) : ax_G := match st with
  | .ref a :: r => if a < h.1.1 ∧ (h.2.1 a).1 = x + 1 ∧ x < 9 ∧ y < ax_nf x then (ax_fv h x a y).map fun v => (pc, ls, v :: r, h) else none
  | _ => none
def ax_s17 (pc : Nat) (ls : ax_L) (st : List Value) (h : ax_H) (x y : Nat) : ax_G := match st with
  | .int v :: .ref a :: r => if a < h.1.1 ∧ (h.2.1 a).1 = x + 1 ∧ x < 9 ∧ y < ax_nf x ∧ (ax_ft x y = 0 ∨ (ax_ft x y = 1 ∧ (v = 0 ∨ v = 1))) then some (pc, ls, r, (h.1, h.2.1, ax_up h.2.2.1 a y v, h.2.2.2)) else none
  | .ref v :: .ref a :: r => if a < h.1.1 ∧ (h.2.1 a).1 = x + 1 ∧ x < 9 ∧ y < ax_nf x ∧ ax_ft x y = 2 then some (pc, ls, r, (h.1, h.2.1, h.2.2.1, ax_up h.2.2.2.1 a y (some v), h.2.2.2.2)) else none
  | _ => none
def ax_s19 (kd : Nat) (pc : Nat) (ls : ax_L) (st : List Value) (h : ax_H) : ax_G := match st with
  | .int i :: .ref a :: r => if a < h.1.1 ∧ (h.2.1 a).1 = kd ∧ ax_out i (h.2.1 a).2 = false then some (pc, ls, .int (h.2.2.1 a i.toNatClampNeg) :: r, h) else none
  | _ => none
/-- the script: read by the law alone -/
def ax_s19s (k : Nat) (pc : Nat) (ls : ax_L) (st : List Value) (h : ax_H) : ax_G := match st with
  | .int i :: .ref a :: r => if k = 0 ∧ a = 1000000000 ∧ ax_out i (h.2.1 a).2 = false then some (pc, ls, .int (h.2.2.1 a i.toNatClampNeg) :: r, h) else none
  | _ => none
def ax_s20 (kd : Nat) (pc : Nat) (ls : ax_L) (st : List Value) (h : ax_H) : ax_G := match st with
  | .int v :: .int i :: .ref a :: r => if a < h.1.1 ∧ (h.2.1 a).1 = kd ∧ ax_out i (h.2.1 a).2 = false ∧ (kd = 20 ∨ (kd = 21 ∧ (v = 0 ∨ v = 1))) then some (pc, ls, r, (h.1, h.2.1, ax_up h.2.2.1 a i.toNatClampNeg v, h.2.2.2)) else none
  | _ => none
def ax_s23 (pc : Nat) (ls : ax_L) (st : List Value) (h : ax_H) : ax_G := match st with
  | .int i :: .ref a :: r => if a < h.1.1 ∧ (h.2.1 a).1 = 22 ∧ ax_out i (h.2.1 a).2 = false then some (pc, ls, .long (h.2.2.2.2 a i.toNatClampNeg) :: r, h) else none
  | _ => none
def ax_s24 (pc : Nat) (ls : ax_L) (st : List Value) (h : ax_H) : ax_G := match st with
  | .long v :: .int i :: .ref a :: r => if a < h.1.1 ∧ (h.2.1 a).1 = 22 ∧ ax_out i (h.2.1 a).2 = false then some (pc, ls, r, (h.1, h.2.1, h.2.2.1, h.2.2.2.1, ax_up h.2.2.2.2 a i.toNatClampNeg v)) else none
  | _ => none
def ax_ra (x : Nat) : Bool := x == 30 || x == 31 || x == 32 || x == 36
def ax_s25 (pc : Nat) (ls : ax_L) (st : List Value) (h : ax_H) : ax_G := match st with
  | .int i :: .ref a :: r => if a < h.1.1 ∧ ax_ra (h.2.1 a).1 = true ∧ ax_out i (h.2.1 a).2 = false then (h.2.2.2.1 a i.toNatClampNeg).map fun v => (pc, ls, .ref v :: r, h) else none
  | _ => none
def ax_s26 (pc : Nat) (ls : ax_L) (st : List Value) (h : ax_H) : ax_G := match st with
  | .ref v :: .int i :: .ref a :: r => if a < h.1.1 ∧ v < h.1.1 ∧ ax_ra (h.2.1 a).1 = true ∧ (h.2.1 v).1 + 29 = (h.2.1 a).1 ∧ ax_out i (h.2.1 a).2 = false then some (pc, ls, r, (h.1, h.2.1, h.2.2.1, ax_up h.2.2.2.1 a i.toNatClampNeg (some v), h.2.2.2.2)) else none
  | _ => none
def ax_s27 (k : Nat) (pc : Nat) (ls : ax_L) (st : List Value) (h : ax_H) : ax_G := match st with
  | .ref a :: r => if (a < h.1.1 ∧ (h.2.1 a).1 = 20) ∨ (k = 0 ∧ a = 1000000000) then some (pc, ls, .int (Int32.ofNat (h.2.1 a).2) :: r, h) else none
  | _ => none
def ax_s28 (pc : Nat) (ls : ax_L) (st : List Value) (h : ax_H) (x : Nat) : ax_G := if x < 9 ∧ h.1.1 < 900000000 then some (pc, ls, .ref h.1.1 :: st, ax_new h (x + 1) (ax_nf x)) else none
def ax_s29 (pc : Nat) (ls : ax_L) (st : List Value) (h : ax_H) (x : Nat) : ax_G := match st with
  | .int n :: r => if h.1.1 < 900000000 ∧ ¬ n < 0 ∧ n.toNatClampNeg ≤ 10000 ∧ (x = 20 ∨ x = 21 ∨ x = 22) then some (pc, ls, .ref h.1.1 :: r, ax_new h x n.toNatClampNeg) else none
  | _ => none
def ax_s30 (pc : Nat) (ls : ax_L) (st : List Value) (h : ax_H) (x : Nat) : ax_G := match st with
  | .int n :: r => if h.1.1 < 900000000 ∧ ¬ n < 0 ∧ n.toNatClampNeg ≤ 10000 ∧ (x = 0 ∨ x = 1 ∨ x = 2 ∨ x = 6) then some (pc, ls, .ref h.1.1 :: r, ax_new h (x + 30) n.toNatClampNeg) else none
  | _ => none
def ax_s31 (pc : Nat) (ls : ax_L) (st : List Value) (h : ax_H) : ax_G := match st with
  | .ref _ :: r => if (r.map fun v => v.category).sum ≤ 8 then some (pc, ls, r, h) else none
  | _ => none
/-- System.arraycopy of a whole int[] of eight onto another one -/
def ax_s32 (pc : Nat) (ls : ax_L) (st : List Value) (h : ax_H) : ax_G := match st with
  | .int n :: .int d :: .ref b :: .int c :: .ref a :: r => if a < h.1.1 ∧ b < h.1.1 ∧ a ≠ b ∧ h.2.1 a = (20, 8) ∧ h.2.1 b = (20, 8) ∧ n = 8 ∧ c = 0 ∧ d = 0 ∧ r = [] then some (pc, ls, r, (h.1, h.2.1, ax_rw h.2.2.1 b (fun j => if j < 8 then h.2.2.1 a j else h.2.2.1 b j), h.2.2.2)) else none
  | _ => none
def ax_s33 (ls : ax_L) (st : List Value) (h : ax_H) (w : Int × List Nat × Nat) : ax_G := match st with
  | .int a :: r => some (if a.toInt < w.1 then w.2.2 else (w.2.1[(a.toInt - w.1).toNat]?).getD w.2.2, ls, r, h)
  | _ => none
def ax_sw : Nat → Int × List Nat × Nat := fun c => match c with
  | 0 => (0, [112, 200, 320, 408, 512, 568, 631, 723, 791, 827, 883, 939, 995, 1063], 1119)
  | 1 => (0, [100, 133, 168, 203, 238, 265, 275, 281], 316)
  | 2 => (2, [80, 177, 177, 132, 165, 98, 119], 177)
  | 3 => (0, [40, 45, 50, 55, 74, 93], 98)
  | 4 => (0, [64, 142, 71, 119, 119, 142, 142, 95], 142)
  | 5 => (0, [52, 100, 112, 159, 172, 255, 255, 185, 246], 255)
  | 6 => (0, [116, 133, 146, 161, 188, 211, 249, 264], 278)
  | _ => (0, [60, 87, 92, 97, 120, 143], 148)
/-- one step of a method k, ahead of pc, by its row; no call, no end -/
def ax_step (k pc : Nat) (r : ax_R) (ls : ax_L) (st : List Value) (h : ax_H) : ax_G := match r.1 with
  | 0 => some (pc + r.2.1, ls, .int (Int32.ofInt r.2.2.2.2) :: st, h)
  | 1 => ax_s1 (pc + r.2.1) ls st h r.2.2.1
  | 2 => ax_s2 (pc + r.2.1) ls st h r.2.2.1
  | 3 => ax_s3 (pc + r.2.1) ls st h r.2.2.1
  | 4 => ax_s4 (pc + r.2.1) ls st h r.2.2.1
  | 5 => ax_s5 (pc + r.2.1) ls st h r.2.2.1 r.2.2.2.2
  | 6 => ax_s6 (pc + r.2.1) ls st h r.2.2.1
  | 7 => ax_s7 (pc + r.2.1) ls st h
  | 8 => ax_s8 (pc + r.2.1) ls st h
  | 9 => some (pc + r.2.1, ls, .long (Int64.ofNat r.2.2.1) :: st, h)
  | 10 => ax_s10 (pc + r.2.1) ls st h
  | 11 => ax_s11 (pc + r.2.1) ls st h
  | 12 => ax_s12 (pc + r.2.1) ls st h r.2.2.1 r.2.2.2.1
  | 13 => ax_s13 (pc + r.2.1) ls st h r.2.2.1 r.2.2.2.1
  | 14 => some (r.2.2.2.1, ls, st, h)
  | 15 => ax_s15 (pc + r.2.1) ls st h r.2.2.1 r.2.2.2.1
  | 16 => ax_s15 (pc + r.2.1) ls st h r.2.2.1 r.2.2.2.1
  | 17 => ax_s17 (pc + r.2.1) ls st h r.2.2.1 r.2.2.2.1
  | 18 => ax_s17 (pc + r.2.1) ls st h r.2.2.1 r.2.2.2.1
  | 19 => ax_s19 20 (pc + r.2.1) ls st h
  | 20 => ax_s20 20 (pc + r.2.1) ls st h
  | 21 => ax_s19 21 (pc + r.2.1) ls st h
  | 22 => ax_s20 21 (pc + r.2.1) ls st h
  | 23 => ax_s23 (pc + r.2.1) ls st h
  | 24 => ax_s24 (pc + r.2.1) ls st h
  | 25 => ax_s25 (pc + r.2.1) ls st h
  | 26 => ax_s26 (pc + r.2.1) ls st h
  | 27 => ax_s27 k (pc + r.2.1) ls st h
  | 28 => ax_s28 (pc + r.2.1) ls st h r.2.2.1
  | 29 => ax_s29 (pc + r.2.1) ls st h r.2.2.1
  | 30 => ax_s30 (pc + r.2.1) ls st h r.2.2.1
  | 31 => ax_s31 (pc + r.2.1) ls st h
  | 32 => ax_s32 (pc + r.2.1) ls st h
  | 33 => ax_s33 ls st h (ax_sw r.2.2.1)
  | 34 => ax_s19s k (pc + r.2.1) ls st h
  | _ => none
