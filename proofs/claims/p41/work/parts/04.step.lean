noncomputable def fx_nx (go : List fx_I → Bool) (pc len : Nat) (tl : List fx_I) : Bool := match tl with
  | [] => false
  | r :: _ => Nat.beq r.1 (Nat.add pc len) && go tl
noncomputable def fx_clen (a : Nat) : Nat := match fx_nth [1, 2, 3, 2, 3, 1, 3, 1] a with
  | some n => n
  | none => 0
noncomputable def fx_cst (a c : Nat) : fx_V := fx_if (Nat.blt a 5) (fc c) (fx_if (Nat.blt a 7) (fl c) fz)
noncomputable def fx_fit (t : Nat) (v : fx_V) : Bool := match v with
  | .inl n => Nat.beq t 0 || (Nat.beq t 2 && Nat.blt n 2)
  | .inr (.inl _) => Nat.beq t 0
  | .inr (.inr (.inl _)) => Nat.beq t 4
  | .inr (.inr (.inr _)) => Nat.beq t 3
noncomputable def fx_rok (b : Nat) (v : fx_V) : Bool := match v with
  | .inl n => Nat.beq b 1 || ((Nat.beq b 2 && Nat.blt n 2) || ((Nat.beq b 4 && Nat.blt n 65536) || (Nat.beq b 5 && Nat.blt n 128)))
  | .inr (.inl _) => Nat.beq b 1
  | _ => false
noncomputable def fx_aty (a ty : Nat) : Bool := fx_if (Nat.beq a 0) (Nat.beq ty 0) (fx_if (Nat.beq a 1) (Nat.beq ty 1 || Nat.beq ty 2) (Nat.beq a 2 && Nat.beq ty 3))
def fx_txt : List Nat := [104, 97, 108, 108, 32, 98, 121, 32, 100, 105, 115, 116, 114, 105, 99, 116, 32, 109, 111, 111, 100, 32, 109, 101, 109, 98, 101, 114, 32, 102, 111, 114, 32, 97, 116, 32, 108, 111, 111, 107, 32, 108, 105, 103, 104, 116, 32, 116, 111, 111, 116, 104, 32, 111, 102, 32, 100, 114, 97, 119, 32, 111, 114, 32, 97, 110, 100, 32, 110, 111, 116, 32, 102, 97, 99, 101, 32, 110, 101, 97, 114, 32, 98, 101, 115, 105, 100, 101, 32, 98, 114, 105, 103, 104, 116, 32, 115, 116, 111, 105, 99, 32, 110, 101, 119, 115, 32, 115, 116, 101, 112, 32, 114, 111, 119, 32, 99, 111, 108, 117, 109, 110, 32]
/-- a load from an array -/
noncomputable def fx_ld (a : Nat) (h : fx_H) (j : fx_J) (r n : Nat) (k : fx_V → Bool) : Bool := match fx_hget h r with
  | some (.inr (.inr (ty, len, u))) => (fx_aty a ty && Nat.blt n len) && (match fx_look u n with
    | some v => fx_fit (fx_if (Nat.beq ty 3) 3 0) v && fx_nz j v k
    | none => k (fx_dft ty))
  | some _ => false
  | none => fx_if (Nat.beq r 1000000) ((Nat.beq a 0 && Nat.blt n 6) && (Nat.blt (n + 2147483648) (fx_iv j 8).1 && fx_nz j (fv (n + 1)) k))
    (Nat.beq r 1000002 && (Nat.beq a 1 && (match fx_nth fx_txt n with
      | some z => k (fc z)
      | none => false)))
/-- a store into an array: values that are held -/
noncomputable def fx_sto (a : Nat) (h : fx_H) (r n : Nat) (v : fx_V) (k : fx_H → Bool) : Bool := match fx_hget h r with
  | some (.inr (.inr (ty, len, u))) => (fx_aty a ty && Nat.blt n len) && (match fx_nar ty v with
    | some w => fx_aset ty u n w (fun u' => fx_hset h r (.inr (.inr (ty, len, u'))) k)
    | none => false)
  | _ => false
noncomputable def fx_len (h : fx_H) (r : Nat) : Option fx_V := match fx_hget h r with
  | some (.inr (.inr (_, len, _))) => some (fc len)
  | some _ => none
  | none => fx_if (Nat.beq r 1000000) (some (fv 8)) (fx_if (Nat.beq r 1000002) (some (fc 123)) none)
noncomputable def fx_un (a : Nat) (v : fx_V) : Option fx_V := match v with
  | .inl n => fx_if (Nat.beq a 0) (some (fc ((4294967296 - n % 4294967296) % 4294967296))) (fx_if (Nat.beq a 1) (fx_if (Nat.blt n 128) (some (fc n)) none) (fx_if (Nat.beq a 2) (fx_if (Nat.blt n 65536) (some (fc n)) none) (fx_if (Nat.beq a 3 && Nat.blt n 2147483648) (some (fl n)) none)))
  | .inr (.inl _) => fx_if (Nat.blt a 3) (some (fv 0)) none
  | _ => none
noncomputable def fx_lbin (o x y : Nat) : Option Nat := fx_if (Nat.beq o 0) (some ((x + y) % 18446744073709551616)) (fx_if (Nat.beq o 1) (some ((x + (18446744073709551616 - y % 18446744073709551616)) % 18446744073709551616)) (fx_if (Nat.beq o 2) (some (x * y % 18446744073709551616)) none))
/-- the order of what lies on the stack: dup, pop, dup2, dup_x1, dup_x2 -/
noncomputable def fx_stk (a : Nat) (st : List fx_V) : Option (List fx_V) := match st with
  | v :: st => fx_if (Nat.beq (fx_cat v) 1) (fx_if (Nat.beq a 0) (some (v :: v :: st)) (fx_if (Nat.beq a 1) (some st) (match st with
    | w :: st => fx_if (Nat.beq (fx_cat w) 1) (fx_if (Nat.beq a 2) (some (v :: w :: v :: w :: st)) (fx_if (Nat.beq a 3) (some (v :: w :: v :: st)) (match st with
      | x :: st => fx_if (Nat.beq (fx_cat x) 1 && Nat.beq a 4) (some (v :: w :: x :: v :: st)) none
      | [] => none))) none
    | [] => none))) none
  | [] => none
/-- each target of a switch, for a variable i: keys from lo (biased) on -/
noncomputable def fx_keys (j : fx_J) (i : Nat) (go : Nat → fx_J → Bool) (ts : List Nat) : Nat → Bool := List.rec (motive := fun _ => Nat → Bool) (fun _ => true) (fun t _ ih lo => fx_if (Nat.ble (fx_iv j i).1 lo && Nat.ble lo (fx_iv j i).2) (fx_with j i lo lo (go t)) true && ih (lo + 1)) ts
noncomputable def fx_sw (j : fx_J) (x : fx_V) (dft lo : Nat) (ts : List Nat) (go : Nat → fx_J → Bool) : Bool := match x with
  | .inl n => fx_if (Nat.ble lo (fx_b n)) (match fx_nth ts (fx_b n - lo) with
    | some t => go t j
    | none => go dft j) (go dft j)
  | .inr (.inl (i + 1)) => fx_keys j (i + 1) go ts lo && ((Nat.beq lo 0 || fx_with j (i + 1) (fx_iv j (i + 1)).1 (fx_if (Nat.ble (fx_iv j (i + 1)).2 (lo - 1)) (fx_iv j (i + 1)).2 (lo - 1)) (go dft)) && fx_with j (i + 1) (fx_if (Nat.ble (lo + ts.length) (fx_iv j (i + 1)).1) (fx_iv j (i + 1)).1 (lo + ts.length)) (fx_iv j (i + 1)).2 (go dft))
  | _ => false
noncomputable def fx_top (v : fx_V) : Bool := match v with
  | .inr (.inl 0) => true
  | _ => false
/-- is the called one's first value of its kind: 0 nothing asked, 1 any reference, 2 + c an object of the kind c, 99 the text -/
noncomputable def fx_rcv (t : Nat) (h : fx_H) (as : List fx_V) : Bool := fx_if (Nat.beq t 0) true (match as with
  | .inr (.inr (.inl (some r))) :: _ => fx_if (Nat.beq t 1) (match fx_hget h r with
      | some (.inr (.inl _)) => true
      | _ => false) (fx_if (Nat.beq t 99) (Nat.beq r 1000001 || Nat.beq r 1000004) (match fx_hget h r with
      | some (.inr (.inl (ci, _))) => Nat.beq (ci + 2) t
      | _ => false))
  | _ => false)
abbrev fx_E : Type := (Nat → Option fx_M) × ((Nat → List Nat) × ((Nat → Option (List fx_V)) × (fx_Z × (fx_L → fx_H → fx_J → Bool))))
noncomputable def fx_ret (st : List fx_V) (v : Option fx_V) : List fx_V := match v with
  | none => st
  | some v => v :: st
noncomputable def fx_call (E : fx_E) (ih : fx_G) (d : Nat) (nx : List fx_V → Nat → Nat → fx_H → fx_J → Bool) (c : Nat) (stk : List fx_V) (ce sl mc ms : Nat) (h : fx_H) (j : fx_J) : Bool := match d with
  | 0 => false
  | d + 1 => match E.1 c with
    | none => false
    | some (cod, na, mc', ms', t, nl) => match fx_split na stk with
      | none => false
      | some (as, st) => (Nat.ble (fx_cats st) 8 && (Nat.ble (ce + mc') mc && (Nat.ble (sl + ms') ms && (Nat.ble (fx_cats as) nl && fx_rcv t h as)))) && (match fx_if (Nat.ble 10 d) (E.2.2.2.1 c as h) none with
        | some (v, h') => fx_num (ce + mc') (fun ce => fx_num (sl + ms') (fun sl => nx (fx_ret st v) ce sl h' j))
        | none => ih d cod cod (fx_args as 0) [] 0 0 mc' ms' h j (fun v h' j' => fx_num (ce + mc') (fun ce => fx_num (sl + ms') (fun sl => nx (fx_ret st v) ce sl h' j'))))
abbrev fx_O : Type := List fx_I → fx_L → List fx_V → Nat → Nat → fx_H → fx_J → Bool
noncomputable def fx_k0 (go : fx_O) (pc a b : Nat) (tl : List fx_I) (loc : fx_L) (stk : List fx_V) (ce sl : Nat) (h : fx_H) (j : fx_J) : Bool := match fx_look loc a with
  | none => false
  | some v => (fx_form b v && Nat.blt b 6) && fx_nz j v (fun v => fx_nx (fun t => go t loc (v :: stk) ce sl h j) pc (fx_odd b) tl)
noncomputable def fx_k1 (go : fx_O) (pc b c : Nat) (tl : List fx_I) (loc : fx_L) (stk : List fx_V) (ce sl : Nat) (h : fx_H) (j : fx_J) : Bool := match stk with
  | .inr (.inr (.inl (some r))) :: st => (match fx_hget h r with
    | some (.inr (.inl (ci, fs))) => Nat.beq ci b && (match fx_nth fs c with
      | some v => fx_nx (fun t => go t loc (v :: st) ce sl h j) pc 3 tl
      | none => false)
    | _ => false)
  | _ => false
noncomputable def fx_k3 (go : fx_O) (cod : List fx_I) (pc a b : Nat) (tl : List fx_I) (loc : fx_L) (stk : List fx_V) (ce sl : Nat) (h : fx_H) (j : fx_J) : Bool := match stk with
  | y :: x :: st => fx_nz j y (fun y => fx_nz j x (fun x => Nat.blt a 6 && fx_cmp a j x y (fun t j => fx_if t (go (fx_to cod b) loc st ce sl h j) (fx_nx (fun t => go t loc st ce sl h j) pc 3 tl))))
  | _ => false
noncomputable def fx_k4 (go : fx_O) (cod : List fx_I) (pc a b : Nat) (tl : List fx_I) (loc : fx_L) (stk : List fx_V) (ce sl : Nat) (h : fx_H) (j : fx_J) : Bool := match stk with
  | x :: st => fx_nz j x (fun x => Nat.blt a 6 && fx_cmp a j x (fc 0) (fun t j => fx_if t (go (fx_to cod b) loc st ce sl h j) (fx_nx (fun t => go t loc st ce sl h j) pc 3 tl)))
  | _ => false
noncomputable def fx_k6 (go : fx_O) (q : fx_I) (pc a : Nat) (tl : List fx_I) (loc : fx_L) (stk : List fx_V) (ce sl : Nat) (h : fx_H) (j : fx_J) : Bool := match stk with
  | i :: .inr (.inr (.inl (some r))) :: st => fx_nz j i (fun i => match i with
    | .inl n => fx_ld a h j r n (fun v => fx_nx (fun t => go t loc (v :: st) ce sl h j) pc 1 tl)
    | _ => match fx_few j i with
      | some (i, lo, n) => fx_each j i lo n (fun j => go (q :: tl) loc stk ce sl h j)
      | none => false)
  | _ => false
noncomputable def fx_k7 (go : fx_O) (pc a b : Nat) (tl : List fx_I) (loc : fx_L) (stk : List fx_V) (ce sl : Nat) (h : fx_H) (j : fx_J) : Bool := match fx_look loc a with
  | none => false
  | some v => fx_nz j v (fun v => match fx_bis 0 v (fc b) with
    | some w => fx_val w (fun w => fx_store loc a w (fun loc => fx_nx (fun t => go t loc stk ce sl h j) pc 3 tl))
    | none => false)
noncomputable def fx_k8 (go : fx_O) (q : fx_I) (pc a : Nat) (tl : List fx_I) (loc : fx_L) (stk : List fx_V) (ce sl : Nat) (h : fx_H) (j : fx_J) : Bool := match stk with
  | v :: i :: .inr (.inr (.inl (some r))) :: st => fx_nz j i (fun i => match i with
    | .inl n => fx_nz j v (fun v => fx_sto a h r n v (fun h => fx_nx (fun t => go t loc st ce sl h j) pc 1 tl))
    | _ => match fx_few j i with
      | some (i, lo, n) => fx_each j i lo n (fun j => go (q :: tl) loc stk ce sl h j)
      | none => false)
  | _ => false
noncomputable def fx_k10 (k : fx_K) (a b : Nat) (stk : List fx_V) (h : fx_H) (j : fx_J) : Bool := fx_if (Nat.beq a 0) (match stk with
    | [v] => fx_nz j v (fun v => fx_rok b v && k (some v) h j)
    | _ => false) (fx_if (Nat.beq a 1) (match stk with
    | [] => k none h j
    | _ => false) (match stk with
    | [.inr (.inr (.inr n))] => k (some (fl n)) h j
    | _ => false))
noncomputable def fx_k11 (go : fx_O) (pc a b : Nat) (tl : List fx_I) (loc : fx_L) (stk : List fx_V) (ce sl : Nat) (h : fx_H) (j : fx_J) : Bool := match stk with
  | v :: st => (fx_form b v && Nat.blt b 6) && fx_store loc a v (fun loc => fx_nx (fun t => go t loc st ce sl h j) pc (fx_odd b) tl)
  | _ => false
noncomputable def fx_k12 (go : fx_O) (q : fx_I) (pc a : Nat) (tl : List fx_I) (loc : fx_L) (stk : List fx_V) (ce sl : Nat) (h : fx_H) (j : fx_J) : Bool := match stk with
  | y :: x :: st => fx_nz j y (fun y => fx_nz j x (fun x => match fx_bis a x y with
    | none => false
    | some w => fx_if (fx_top w) (match fx_few j x with
        | some (i, lo, n) => fx_each j i lo n (fun j => go (q :: tl) loc stk ce sl h j)
        | none => match fx_few j y with
          | some (i, lo, n) => fx_each j i lo n (fun j => go (q :: tl) loc stk ce sl h j)
          | none => fx_nx (fun t => go t loc (w :: st) ce sl h j) pc 1 tl)
      (fx_val w (fun w => fx_nx (fun t => go t loc (w :: st) ce sl h j) pc 1 tl))))
  | _ => false
noncomputable def fx_k13 (go : fx_O) (pc a : Nat) (tl : List fx_I) (loc : fx_L) (stk : List fx_V) (ce sl : Nat) (h : fx_H) (j : fx_J) : Bool := match stk with
  | x :: st => fx_nz j x (fun x => match fx_un a x with
    | some w => fx_val w (fun w => fx_nx (fun t => go t loc (w :: st) ce sl h j) pc 1 tl)
    | none => false)
  | _ => false
noncomputable def fx_k14 (go : fx_O) (pc b c : Nat) (tl : List fx_I) (loc : fx_L) (stk : List fx_V) (ce sl : Nat) (h : fx_H) (j : fx_J) : Bool := match stk with
  | v :: .inr (.inr (.inl (some r))) :: st => (match fx_hget h r with
    | some (.inr (.inl (ci, fs))) => (Nat.beq ci b && fx_fit (Nat.mod c 8) v) && fx_put v fs (Nat.div c 8) (fun fs => fx_hset h r (.inr (.inl (ci, fs))) (fun h => fx_nx (fun t => go t loc st ce sl h j) pc 3 tl))
    | _ => false)
  | _ => false
noncomputable def fx_k15 (go : fx_O) (pc a : Nat) (tl : List fx_I) (loc : fx_L) (stk : List fx_V) (ce sl : Nat) (h : fx_H) (j : fx_J) : Bool := match fx_stk a stk with
  | some stk => fx_nx (fun t => go t loc stk ce sl h j) pc 1 tl
  | none => false
noncomputable def fx_k16 (E : fx_E) (go : fx_O) (pc b : Nat) (tl : List fx_I) (loc : fx_L) (stk : List fx_V) (ce sl mc ms : Nat) (h : fx_H) (j : fx_J) : Bool := match E.2.2.1 b with
  | some fs => (Nat.ble (ce + 1) mc && Nat.ble (sl + fs.length) ms) && fx_hnew h (.inr (.inl (b, fs))) (fun h' => fx_num (ce + 1) (fun ce => fx_num (sl + fs.length) (fun sl => fx_num h.1 (fun n => fx_nx (fun t => go t loc (fr n :: stk) ce sl h' j) pc 3 tl))))
  | none => false
noncomputable def fx_k17 (go : fx_O) (pc a : Nat) (tl : List fx_I) (loc : fx_L) (stk : List fx_V) (ce sl mc ms : Nat) (h : fx_H) (j : fx_J) : Bool := match stk with
  | .inl n :: st => ((Nat.ble n 1000000 && Nat.blt a 4) && (Nat.ble (ce + 1) mc && Nat.ble (sl + n) ms)) && fx_hnew h (.inr (.inr (a, n, []))) (fun h' => fx_num (ce + 1) (fun ce => fx_num (sl + n) (fun sl => fx_num h.1 (fun n => fx_nx (fun t => go t loc (fr n :: st) ce sl h' j) pc 2 tl))))
  | _ => false
noncomputable def fx_k18 (go : fx_O) (pc : Nat) (tl : List fx_I) (loc : fx_L) (stk : List fx_V) (ce sl : Nat) (h : fx_H) (j : fx_J) : Bool := match stk with
  | .inr (.inr (.inl (some r))) :: st => (match fx_len h r with
    | some v => fx_nz j v (fun v => fx_nx (fun t => go t loc (v :: st) ce sl h j) pc 1 tl)
    | none => false)
  | _ => false
noncomputable def fx_k19 (go : fx_O) (cod : List fx_I) (pc a b : Nat) (tl : List fx_I) (loc : fx_L) (stk : List fx_V) (ce sl : Nat) (h : fx_H) (j : fx_J) : Bool := match stk with
  | .inr (.inr (.inl none)) :: st => fx_if (Nat.beq a 0) (go (fx_to cod b) loc st ce sl h j) (Nat.beq a 1 && fx_nx (fun t => go t loc st ce sl h j) pc 3 tl)
  | .inr (.inr (.inl (some r))) :: st => Nat.blt r 1000000 && fx_if (Nat.beq a 1) (go (fx_to cod b) loc st ce sl h j) (Nat.beq a 0 && fx_nx (fun t => go t loc st ce sl h j) pc 3 tl)
  | _ => false
noncomputable def fx_k20 (E : fx_E) (go : fx_O) (cod : List fx_I) (a b c : Nat) (loc : fx_L) (stk : List fx_V) (ce sl : Nat) (h : fx_H) (j : fx_J) : Bool := match stk with
  | x :: st => fx_nz j x (fun x => fx_sw j x a (fx_b b) (E.2.1 c) (fun t j => go (fx_to cod t) loc st ce sl h j))
  | _ => false
noncomputable def fx_k22 (go : fx_O) (d pc : Nat) (tl : List fx_I) (loc : fx_L) (stk : List fx_V) (ce sl : Nat) (h : fx_H) (j : fx_J) : Bool := match stk with
  | .inr (.inr (.inl (some r))) :: st => (Nat.blt 0 d && (Nat.blt r 1000000 && Nat.ble (fx_cats st) 8)) && fx_nx (fun t => go t loc st ce sl h j) pc 3 tl
  | _ => false
noncomputable def fx_ints (u : List (Nat × fx_V)) (sp n : Nat) : Bool := Nat.rec (motive := fun _ => Bool) true (fun m ih => fx_int (fx_aget 0 u (sp + m)) && ih) n
noncomputable def fx_k23 (go : fx_O) (d pc : Nat) (tl : List fx_I) (loc : fx_L) (stk : List fx_V) (ce sl : Nat) (h : fx_H) (j : fx_J) : Bool := match stk with
  | .inl n :: .inl dp :: .inr (.inr (.inl (some r))) :: .inl sp :: .inr (.inr (.inl (some r0))) :: st => (match fx_hget h r0 with
    | some (.inr (.inr (0, len0, u0))) => (match fx_hget h r with
      | some (.inr (.inr (0, len, u))) => ((Nat.blt 0 d && Nat.ble (fx_cats st) 8) && (Nat.ble (sp + n) len0 && (Nat.ble (dp + n) len && fx_ints u0 sp n))) && fx_copy u0 u sp dp n (fun u => fx_hset h r (.inr (.inr (0, len, u))) (fun h => fx_nx (fun t => go t loc st ce sl h j) pc 3 tl))
      | _ => false)
    | _ => false)
  | _ => false
noncomputable def fx_k24 (go : fx_O) (pc a : Nat) (tl : List fx_I) (loc : fx_L) (stk : List fx_V) (ce sl : Nat) (h : fx_H) (j : fx_J) : Bool := match stk with
  | .inr (.inr (.inr y)) :: .inr (.inr (.inr x)) :: st => (match fx_lbin a x y with
    | some n => fx_num n (fun n => fx_nx (fun t => go t loc (fl n :: st) ce sl h j) pc 1 tl)
    | none => false)
  | _ => false
noncomputable def fx_k25 (go : fx_O) (pc b : Nat) (tl : List fx_I) (loc : fx_L) (stk : List fx_V) (ce sl : Nat) (h : fx_H) (j : fx_J) : Bool := match stk with
  | .inr (.inr (.inl (some r))) :: st => Nat.beq r 1000001 && fx_if (Nat.beq b 0) (fx_nx (fun t => go t loc (fr 1000002 :: st) ce sl h j) pc 3 tl) (Nat.beq b 1 && fx_nx (fun t => go t loc (fc 0 :: st) ce sl h j) pc 3 tl)
  | _ => false
noncomputable def fx_k26 (go : fx_O) (pc b : Nat) (tl : List fx_I) (loc : fx_L) (stk : List fx_V) (ce sl : Nat) (h : fx_H) (j : fx_J) : Bool := fx_if (Nat.beq b 0) (fx_nx (fun t => go t loc (fc 1 :: stk) ce sl h j) pc 3 tl) (Nat.beq b 1 && fx_nx (fun t => go t loc (fr 1000003 :: stk) ce sl h j) pc 3 tl)
noncomputable def fx_k29 (go : fx_O) (d pc b : Nat) (tl : List fx_I) (loc : fx_L) (stk : List fx_V) (ce sl : Nat) (h : fx_H) (j : fx_J) : Bool := match stk with
  | y :: x :: st => fx_nz j y (fun y => fx_nz j x (fun x => match y, x with
    | .inl v, .inl u => (Nat.blt 0 d && Nat.ble (fx_cats st) 8) && fx_if (Nat.beq b 0) (fx_if (Nat.blt (fx_b u) (fx_b v)) (fx_nx (fun t => go t loc (fc v :: st) ce sl h j) pc 3 tl) (fx_nx (fun t => go t loc (fc u :: st) ce sl h j) pc 3 tl)) (Nat.beq b 1 && fx_if (Nat.blt (fx_b v) (fx_b u)) (fx_nx (fun t => go t loc (fc v :: st) ce sl h j) pc 3 tl) (fx_nx (fun t => go t loc (fc u :: st) ce sl h j) pc 3 tl))
    | _, _ => false))
  | _ => false
noncomputable def fx_k28 (E : fx_E) (loc : fx_L) (stk : List fx_V) (h : fx_H) (j : fx_J) : Bool := match stk with
  | [] => E.2.2.2.2 loc h j
  | _ => false
noncomputable def fx_ga (go : fx_O) (cod : List fx_I) (pc kd a b c : Nat) (tl : List fx_I) (loc : fx_L) (stk : List fx_V) (ce sl : Nat) (h : fx_H) (j : fx_J) : Bool :=
  fx_if (Nat.beq kd 0) (fx_k0 go pc a b tl loc stk ce sl h j) (fx_if (Nat.beq kd 1) (fx_k1 go pc b c tl loc stk ce sl h j) (fx_if (Nat.beq kd 2) (Nat.blt a 8 && fx_nx (fun t => go t loc (fx_cst a c :: stk) ce sl h j) pc (fx_clen a) tl) (fx_k3 go cod pc a b tl loc stk ce sl h j)))
noncomputable def fx_gb (go : fx_O) (cod : List fx_I) (pc kd a b c : Nat) (tl : List fx_I) (loc : fx_L) (stk : List fx_V) (ce sl : Nat) (h : fx_H) (j : fx_J) : Bool :=
  fx_if (Nat.beq kd 4) (fx_k4 go cod pc a b tl loc stk ce sl h j) (fx_if (Nat.beq kd 5) (go (fx_to cod b) loc stk ce sl h j) (fx_if (Nat.beq kd 6) (fx_k6 go (pc, kd, a, b, c) pc a tl loc stk ce sl h j) (fx_k7 go pc a b tl loc stk ce sl h j)))
noncomputable def fx_gc (E : fx_E) (ih : fx_G) (go : fx_O) (d pc kd a b c : Nat) (tl : List fx_I) (loc : fx_L) (stk : List fx_V) (ce sl mc ms : Nat) (h : fx_H) (j : fx_J) (k : fx_K) : Bool :=
  fx_if (Nat.beq kd 8) (fx_k8 go (pc, kd, a, b, c) pc a tl loc stk ce sl h j) (fx_if (Nat.beq kd 9) (Nat.blt a 5 && fx_call E ih d (fun stk ce sl h j => fx_nx (fun t => go t loc stk ce sl h j) pc 3 tl) c stk ce sl mc ms h j) (fx_if (Nat.beq kd 10) (fx_k10 k a b stk h j) (fx_k11 go pc a b tl loc stk ce sl h j)))
noncomputable def fx_gd (go : fx_O) (pc kd a b c : Nat) (tl : List fx_I) (loc : fx_L) (stk : List fx_V) (ce sl : Nat) (h : fx_H) (j : fx_J) : Bool :=
  fx_if (Nat.beq kd 12) (fx_k12 go (pc, kd, a, b, c) pc a tl loc stk ce sl h j) (fx_if (Nat.beq kd 13) (fx_k13 go pc a tl loc stk ce sl h j) (fx_if (Nat.beq kd 14) (fx_k14 go pc b c tl loc stk ce sl h j) (fx_k15 go pc a tl loc stk ce sl h j)))
noncomputable def fx_ge (E : fx_E) (go : fx_O) (cod : List fx_I) (d pc kd a b c : Nat) (tl : List fx_I) (loc : fx_L) (stk : List fx_V) (ce sl mc ms : Nat) (h : fx_H) (j : fx_J) : Bool :=
  fx_if (Nat.beq kd 16) (fx_k16 E go pc b tl loc stk ce sl mc ms h j) (fx_if (Nat.beq kd 17) (fx_k17 go pc a tl loc stk ce sl mc ms h j) (fx_if (Nat.beq kd 18) (fx_k18 go pc tl loc stk ce sl h j) (fx_if (Nat.beq kd 19) (fx_k19 go cod pc a b tl loc stk ce sl h j)
    (fx_if (Nat.beq kd 20 || Nat.beq kd 21) (fx_k20 E go cod a b c loc stk ce sl h j) (fx_if (Nat.beq kd 22) (fx_k22 go d pc tl loc stk ce sl h j) (fx_if (Nat.beq kd 23) (fx_k23 go d pc tl loc stk ce sl h j) (fx_if (Nat.beq kd 24) (fx_k24 go pc a tl loc stk ce sl h j)
      (fx_if (Nat.beq kd 25) (fx_k25 go pc b tl loc stk ce sl h j) (fx_if (Nat.beq kd 26) (fx_k26 go pc b tl loc stk ce sl h j) (fx_if (Nat.beq kd 27) (Nat.beq a 39 && fx_nx (fun t => go t loc (fr 1000001 :: stk) ce sl h j) pc 2 tl) (fx_if (Nat.beq kd 28) (fx_k28 E loc stk h j) (Nat.beq kd 29 && fx_k29 go d pc b tl loc stk ce sl h j))))))))))))
noncomputable def fx_one (E : fx_E) (ih : fx_G) (go : fx_O) (d : Nat) (cod : List fx_I) (pc kd a b c : Nat) (tl : List fx_I) (loc : fx_L) (stk : List fx_V) (ce sl mc ms : Nat) (h : fx_H) (j : fx_J) (k : fx_K) : Bool :=
  fx_if (Nat.blt kd 4) (fx_ga go cod pc kd a b c tl loc stk ce sl h j) (fx_if (Nat.blt kd 8) (fx_gb go cod pc kd a b c tl loc stk ce sl h j) (fx_if (Nat.blt kd 12) (fx_gc E ih go d pc kd a b c tl loc stk ce sl mc ms h j k) (fx_if (Nat.blt kd 16) (fx_gd go pc kd a b c tl loc stk ce sl h j) (fx_ge E go cod d pc kd a b c tl loc stk ce sl mc ms h j))))
noncomputable def fx_step (E : fx_E) (ih : fx_G) : fx_G := fun d cod at_ loc stk ce sl mc ms h j k => match at_ with
  | [] => false
  | (pc, kd, a, b, c) :: tl => fx_one E ih (fun t loc stk ce sl h j => ih d cod t loc stk ce sl mc ms h j k) d cod pc kd a b c tl loc stk ce sl mc ms h j k
noncomputable def fx_go (E : fx_E) (n : Nat) : fx_G := Nat.rec (motive := fun _ => fx_G) (fun _ _ _ _ _ _ _ _ _ _ _ _ => false) (fun _ ih => fx_step E ih) n
theorem fx_go_succ (E : fx_E) (n : Nat) : fx_go E (n + 1) = fx_step E (fx_go E n) := rfl
