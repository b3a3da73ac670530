/-! an executor over entries (pc, kind, a, b, c): ints are constants, variables with intervals, or unknown; cells made since the start -/
abbrev fx_V : Type := Nat ⊕ (Nat ⊕ (Option Nat ⊕ Nat))
abbrev fx_C : Type := Unit ⊕ ((Nat × List fx_V) ⊕ (Nat × (Nat × List (Nat × fx_V))))
abbrev fx_H : Type := Nat × List (List fx_C)
abbrev fx_J : Type := List (Nat × Nat)
abbrev fx_I : Type := Nat × (Nat × (Nat × (Nat × Nat)))
abbrev fx_L : Type := List (Nat × fx_V)
abbrev fx_K : Type := Option fx_V → fx_H → fx_J → Bool
/-- entries, how many values it takes, cells, slots, the kind of its first value, its slots for values -/
abbrev fx_M : Type := List fx_I × (Nat × (Nat × (Nat × (Nat × Nat))))
abbrev fx_Z : Type := Nat → List fx_V → fx_H → Option (Option fx_V × fx_H)
abbrev fx_G : Type := Nat → List fx_I → List fx_I → fx_L → List fx_V → Nat → Nat → Nat → Nat → fx_H → fx_J → fx_K → Bool
noncomputable def fx_if {α : Type} (c : Bool) (x y : α) : α := Bool.rec (motive := fun _ => α) y x c
abbrev fc (n : Nat) : fx_V := .inl n
abbrev fv (i : Nat) : fx_V := .inr (.inl i)
abbrev fr (k : Nat) : fx_V := .inr (.inr (.inl (some k)))
abbrev fz : fx_V := .inr (.inr (.inl none))
abbrev fl (n : Nat) : fx_V := .inr (.inr (.inr n))
noncomputable def fx_nth {α : Type} (l : List α) : Nat → Option α := List.rec (motive := fun _ => Nat → Option α) (fun _ => none) (fun a _ ih n => Nat.rec (motive := fun _ => Option α) (some a) (fun n _ => ih n) n) l
noncomputable def fx_put {α : Type} (a : α) (l : List α) : Nat → (List α → Bool) → Bool := List.rec (motive := fun _ => Nat → (List α → Bool) → Bool) (fun _ _ => false) (fun b t ih n k => Nat.rec (motive := fun _ => Bool) (k (a :: t)) (fun n _ => ih n (fun t' => k (b :: t'))) n) l
noncomputable def fx_num (n : Nat) (k : Nat → Bool) : Bool := Nat.rec (motive := fun _ => Bool) (k 0) (fun m _ => k (m + 1)) n
noncomputable def fx_look {α : Type} (l : List (Nat × α)) (i : Nat) : Option α := List.rec (motive := fun _ => Option α) none (fun q _ ih => fx_if (Nat.beq q.1 i) (some q.2) ih) l
noncomputable def fx_all {α : Type} (l : List α) (f : α → Bool) : Bool := List.rec (motive := fun _ => Bool) true (fun a _ ih => f a && ih) l
noncomputable def fx_hget (h : fx_H) (k : Nat) : Option fx_C := match fx_nth h.2 (Nat.div k 16) with
  | none => none
  | some r => fx_nth r (Nat.mod k 16)
noncomputable def fx_hset (h : fx_H) (k : Nat) (c : fx_C) (kk : fx_H → Bool) : Bool := match h with
  | (n, rows) => match fx_nth rows (Nat.div k 16) with
    | none => false
    | some r => fx_put c r (Nat.mod k 16) (fun r' => fx_put r' rows (Nat.div k 16) (fun z => kk (n, z)))
noncomputable def fx_snoc {α : Type} (a : α) (l : List α) : (List α → Bool) → Bool := List.rec (motive := fun _ => (List α → Bool) → Bool) (fun k => k [a]) (fun b _ ih k => ih (fun t' => k (b :: t'))) l
noncomputable def fx_hnew (h : fx_H) (c : fx_C) (kk : fx_H → Bool) : Bool := match h with
  | (n, rows) => Nat.blt n 1000000 && fx_if (Nat.beq (Nat.mod n 16) 0)
    (Nat.beq rows.length (Nat.div n 16) && fx_snoc [c] rows (fun z => fx_num (Nat.add n 1) (fun n => kk (n, z))))
    (match fx_nth rows (Nat.div n 16) with
      | none => false
      | some r => Nat.beq r.length (Nat.mod n 16) && fx_snoc c r (fun r' => fx_put r' rows (Nat.div n 16) (fun z => fx_num (Nat.add n 1) (fun n => kk (n, z)))))
/-- the interval of a variable (biased) -/
noncomputable def fx_iv (j : fx_J) (i : Nat) : Nat × Nat := match fx_nth j i with
  | none => (0, 4294967295)
  | some q => q
def fx_b (n : Nat) : Nat := Nat.mod (Nat.add n 2147483648) 4294967296
noncomputable def fx_nz (j : fx_J) (v : fx_V) (k : fx_V → Bool) : Bool := match v with
  | .inr (.inl (i + 1)) => fx_if (Nat.beq (fx_iv j (i + 1)).1 (fx_iv j (i + 1)).2) (fx_num (fx_b (fx_iv j (i + 1)).1) (fun n => k (fc n))) (k v)
  | _ => k v
noncomputable def fx_val (v : fx_V) (k : fx_V → Bool) : Bool := match v with
  | .inl n => fx_num n (fun n => k (fc n))
  | .inr (.inr (.inr n)) => fx_num n (fun n => k (fl n))
  | _ => k v
noncomputable def fx_int (v : fx_V) : Bool := match v with
  | .inl _ => true
  | .inr (.inl _) => true
  | _ => false
noncomputable def fx_form (b : Nat) (v : fx_V) : Bool := match v with
  | .inl _ => Nat.ble b 1
  | .inr (.inl _) => Nat.ble b 1
  | .inr (.inr (.inl _)) => Nat.beq b 2 || Nat.beq b 3
  | .inr (.inr (.inr _)) => Nat.beq b 4 || Nat.beq b 5
noncomputable def fx_cat (v : fx_V) : Nat := match v with
  | .inr (.inr (.inr _)) => 2
  | _ => 1
def fx_odd (b : Nat) : Nat := Nat.add (Nat.mod b 2) 1
noncomputable def fx_to (cod : List fx_I) (t : Nat) : List fx_I := List.rec (motive := fun _ => List fx_I) [] (fun q r ih => fx_if (Nat.beq q.1 t) (q :: r) ih) cod
noncomputable def fx_drop (l : fx_L) (i : Nat) (k : fx_L → Bool) : Bool := List.rec (motive := fun _ => (fx_L → Bool) → Bool) (fun k => k []) (fun q _ ih k => ih (fun t => fx_if (Nat.beq q.1 i || (Nat.beq (q.1 + 1) i && Nat.beq (fx_cat q.2) 2)) (k t) (k (q :: t)))) l k
noncomputable def fx_drop2 (l : fx_L) (i : Nat) (k : fx_L → Bool) : Bool := List.rec (motive := fun _ => (fx_L → Bool) → Bool) (fun k => k []) (fun q _ ih k => ih (fun t => fx_if (Nat.beq q.1 i || (Nat.beq q.1 (i + 1) || (Nat.beq (q.1 + 1) i && Nat.beq (fx_cat q.2) 2))) (k t) (k (q :: t)))) l k
noncomputable def fx_store (l : fx_L) (i : Nat) (v : fx_V) (k : fx_L → Bool) : Bool := match v with
  | .inr (.inr (.inr _)) => fx_drop2 l i (fun t => k ((i, v) :: t))
  | _ => fx_drop l i (fun t => k ((i, v) :: t))
/-- what a comparison may come to: the truth, the intervals then; conditions 0 eq, 1 ne, 2 lt, 3 ge, 4 gt, 5 le -/
noncomputable def fx_con (o x y : Nat) : Bool := fx_if (Nat.beq o 0) (Nat.beq x y) (fx_if (Nat.beq o 1) (!Nat.beq x y) (fx_if (Nat.beq o 2) (Nat.blt x y) (fx_if (Nat.beq o 3) (Nat.ble y x) (fx_if (Nat.beq o 4) (Nat.blt y x) (Nat.ble x y)))))
noncomputable def fx_with (j : fx_J) (i lo hi : Nat) (k : fx_J → Bool) : Bool := fx_if (Nat.ble lo hi) (fx_num lo (fun lo => fx_num hi (fun hi => fx_put (lo, hi) j i k))) true
/-- a variable i against a constant y (biased): below, at, above it -/
noncomputable def fx_cut (o : Nat) (j : fx_J) (i y : Nat) (k : Bool → fx_J → Bool) : Bool :=
  fx_if (Nat.blt (fx_iv j i).2 y) (k (fx_con o 0 1) j) (fx_if (Nat.blt y (fx_iv j i).1) (k (fx_con o 1 0) j)
    ((Nat.beq y 0 || fx_with j i (fx_iv j i).1 (y - 1) (fun j => k (fx_con o 0 1) j)) && (fx_with j i y y (fun j => k (fx_con o 0 0) j) && fx_with j i (y + 1) (fx_iv j i).2 (fun j => k (fx_con o 1 0) j))))
noncomputable def fx_swap (o : Nat) : Nat := fx_if (Nat.beq o 2) 4 (fx_if (Nat.beq o 4) 2 (fx_if (Nat.beq o 3) 5 (fx_if (Nat.beq o 5) 3 o)))
noncomputable def fx_cmp (o : Nat) (j : fx_J) (x y : fx_V) (k : Bool → fx_J → Bool) : Bool := match x, y with
  | .inl a, .inl b => k (fx_con o (fx_b a) (fx_b b)) j
  | .inr (.inl (i + 1)), .inl b => fx_cut o j (i + 1) (fx_b b) k
  | .inl a, .inr (.inl (i + 1)) => fx_cut (fx_swap o) j (i + 1) (fx_b a) k
  | .inr (.inl (i + 1)), .inr (.inl (i2 + 1)) => Nat.beq i i2 && k (fx_con o 0 0) j
  | _, _ => false
/-- ints: 0 add, 1 sub, 2 mul, 3 div, 4 rem, 5 and, 6 or, 7 xor, 8 shl, 9 shr, 10 ushr; of constants -/
noncomputable def fx_bin (o x y : Nat) : Option Nat :=
  fx_if (Nat.beq o 0) (some (Nat.mod (Nat.add x y) 4294967296)) (fx_if (Nat.beq o 1) (some ((x + (4294967296 - y % 4294967296)) % 4294967296)) (fx_if (Nat.beq o 2) (some (Nat.mod (Nat.mul x y) 4294967296))
    (fx_if (Nat.beq o 3) (fx_if (Nat.blt x 2147483648 && (Nat.blt y 2147483648 && Nat.blt 0 y)) (some (x / y)) none) (fx_if (Nat.beq o 4) (fx_if (Nat.blt x 2147483648 && (Nat.blt y 2147483648 && Nat.blt 0 y)) (some (x % y)) none)
      (fx_if (Nat.beq o 5) (some (Nat.land x y)) (fx_if (Nat.beq o 6) (some (Nat.lor x y)) (fx_if (Nat.beq o 7) (some (Nat.xor x y))
        (fx_if (Nat.beq o 8) (fx_if (Nat.blt y 32) (some (Nat.shiftLeft x y % 4294967296)) none) (fx_if (Nat.beq o 9) (fx_if (Nat.blt x 2147483648 && Nat.blt y 32) (some (Nat.shiftRight x y)) none)
          (fx_if (Nat.beq o 10) (fx_if (Nat.blt x 4294967296 && Nat.blt y 32) (some (Nat.shiftRight x y)) none) none))))))))))
/-- one of them unknown -/
noncomputable def fx_bis (o : Nat) (x y : fx_V) : Option fx_V := match x, y with
  | .inl a, .inl b => match fx_bin o a b with
    | some n => some (fc n)
    | none => none
  | .inl a, .inr (.inl i) => fx_if (Nat.beq o 0 && Nat.beq a 0) (some (fv i)) (fx_if (Nat.beq o 2 && Nat.beq a 0) (some (fc 0)) (fx_if (Nat.beq o 3 || Nat.beq o 4) none (some (fv 0))))
  | .inr (.inl i), .inl b => fx_if (Nat.beq o 0 && Nat.beq b 0) (some (fv i)) (fx_if (Nat.beq o 2 && Nat.beq b 0) (some (fc 0)) (fx_if (Nat.beq o 5 && (Nat.beq b 63 && Nat.beq i 1)) (some (fv 7)) (fx_if ((Nat.beq o 3 || Nat.beq o 4) && (Nat.beq (b % 4294967296) 0)) none (some (fv 0)))))
  | .inr (.inl _), .inr (.inl _) => fx_if (Nat.beq o 3 || Nat.beq o 4) none (some (fv 0))
  | _, _ => none
/-- is the value a variable within twenty numbers (then each is taken for itself) -/
noncomputable def fx_few (j : fx_J) (v : fx_V) : Option (Nat × (Nat × Nat)) := match v with
  | .inr (.inl (i + 1)) => fx_if (Nat.ble ((fx_iv j (i + 1)).2 - (fx_iv j (i + 1)).1) 20) (some (i + 1, (fx_iv j (i + 1)).1, (fx_iv j (i + 1)).2 - (fx_iv j (i + 1)).1)) none
  | _ => none
noncomputable def fx_each (j : fx_J) (i lo n : Nat) (k : fx_J → Bool) : Bool := Nat.rec (motive := fun _ => Bool) (fx_with j i lo lo k) (fun m ih => fx_with j i (lo + (m + 1)) (lo + (m + 1)) k && ih) n
/-- arrays: 0 int, 1 byte, 2 boolean, 3 long -/
noncomputable def fx_dft (ty : Nat) : fx_V := fx_if (Nat.beq ty 3) (fl 0) (fc 0)
noncomputable def fx_aget (ty : Nat) (u : List (Nat × fx_V)) (n : Nat) : fx_V := match fx_look u n with
  | some v => v
  | none => fx_dft ty
noncomputable def fx_without {α : Type} (l : List (Nat × α)) (i : Nat) (k : List (Nat × α) → Bool) : Bool := List.rec (motive := fun _ => (List (Nat × α) → Bool) → Bool) (fun k => k []) (fun q t ih k => fx_if (Nat.beq q.1 i) (ih k) (ih (fun t => k (q :: t)))) l k
noncomputable def fx_veq (x y : fx_V) : Bool := match x, y with
  | .inl a, .inl b => Nat.beq a b
  | .inr (.inl (a + 1)), .inr (.inl (b + 1)) => Nat.beq a b
  | .inr (.inr (.inl none)), .inr (.inr (.inl none)) => true
  | .inr (.inr (.inl (some a))), .inr (.inr (.inl (some b))) => Nat.beq a b
  | .inr (.inr (.inr a)), .inr (.inr (.inr b)) => Nat.beq a b
  | _, _ => false
noncomputable def fx_aset (ty : Nat) (u : List (Nat × fx_V)) (n : Nat) (v : fx_V) (k : List (Nat × fx_V) → Bool) : Bool :=
  fx_if (fx_veq v (fx_aget ty u n)) (k u) (fx_without u n (fun u => fx_if (fx_veq v (fx_dft ty)) (k u) (k ((n, v) :: u))))
/-- what a store of a small type keeps: none if it isn't known to fit -/
noncomputable def fx_nar (ty : Nat) (v : fx_V) : Option fx_V := fx_if (Nat.beq ty 0) (fx_if (fx_int v) (some v) none) (fx_if (Nat.beq ty 3) (match v with
    | .inr (.inr (.inr _)) => some v
    | _ => none) (match v with
    | .inl n => fx_if (Nat.blt n (fx_if (Nat.beq ty 1) 128 2)) (some v) none
    | .inr (.inl _) => some (fv 0)
    | _ => none))
noncomputable def fx_split (n : Nat) (stk : List fx_V) : Option (List fx_V × List fx_V) := Nat.rec (motive := fun _ => List fx_V → List fx_V → Option (List fx_V × List fx_V)) (fun acc st => some (acc, st)) (fun _ ih acc st => match st with
    | [] => none
    | v :: st => ih (v :: acc) st) n [] stk
noncomputable def fx_args (l : List fx_V) : Nat → fx_L := List.rec (motive := fun _ => Nat → fx_L) (fun _ => []) (fun v _ ih i => (i, v) :: ih (i + fx_cat v)) l
noncomputable def fx_cats (l : List fx_V) : Nat := List.rec (motive := fun _ => Nat) 0 (fun v _ ih => fx_cat v + ih) l
/-- copies int by int -/
noncomputable def fx_copy (s d : List (Nat × fx_V)) (sp dp : Nat) (n : Nat) : (List (Nat × fx_V) → Bool) → Bool := Nat.rec (motive := fun _ => (List (Nat × fx_V) → Bool) → Bool) (fun k => k d) (fun m ih k => ih (fun u => fx_aset 0 u (dp + m) (fx_aget 0 s (sp + m)) k)) n
