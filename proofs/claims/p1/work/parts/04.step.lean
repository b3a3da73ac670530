noncomputable def fx_nx (go : List fx_I → Bool) (pc len : Nat) (tl : List fx_I) : Bool := match tl with
  | [] => false
  | r :: _ => Nat.beq r.1 (pc + len) && go tl
noncomputable def fx_clen (a : Nat) : Nat := match fx_nth [1, 2, 3, 2, 3, 1, 3, 1] a with
  | some n => n
  | none => 0
noncomputable def fx_cst (a c : Nat) : fx_V := cond (Nat.blt a 5) (fc c) (cond (Nat.blt a 7) (fl c) fz)
noncomputable def fx_fit (t : Nat) (v : fx_V) : Bool := match v with
  | .inl n => Nat.beq t 0 || (Nat.beq t 2 && Nat.blt n 2)
  | .inr (.inl _) => Nat.beq t 0
  | .inr (.inr (.inl _)) => Nat.beq t 4
  | .inr (.inr (.inr _)) => Nat.beq t 3
noncomputable def fx_rok (b : Nat) (v : fx_V) : Bool := match v with
  | .inl n => Nat.beq b 1 || ((Nat.beq b 2 && Nat.blt n 2) || ((Nat.beq b 4 && Nat.blt n 65536) || (Nat.beq b 5 && Nat.blt n 128)))
  | .inr (.inl _) => Nat.beq b 1
  | _ => false
noncomputable def fx_aty (a ty : Nat) : Bool := cond (Nat.beq a 0) (Nat.beq ty 0) (cond (Nat.beq a 1) (Nat.beq ty 1 || Nat.beq ty 2) (Nat.beq a 2 && Nat.beq ty 3))
def fx_txt : List Nat := [104, 97, 108, 108, 32, 98, 121, 32, 100, 105, 115, 116, 114, 105, 99, 116, 32, 109, 111, 111, 100, 32, 109, 101, 109, 98, 101, 114, 32, 102, 111, 114, 32, 97, 116, 32, 108, 111, 111, 107, 32, 108, 105, 103, 104, 116, 32, 116, 111, 111, 116, 104, 32, 111, 102, 32, 100, 114, 97, 119, 32, 111, 114, 32, 97, 110, 100, 32, 110, 111, 116, 32, 102, 97, 99, 101, 32, 110, 101, 97, 114, 32, 98, 101, 115, 105, 100, 101, 32, 98, 114, 105, 103, 104, 116, 32, 115, 116, 111, 105, 99, 32, 110, 101, 119, 115, 32, 115, 116, 101, 112, 32, 114, 111, 119, 32, 99, 111, 108, 117, 109, 110, 32]
/-- a load from an array -/
noncomputable def fx_ld (a : Nat) (h : fx_H) (j : fx_J) (r n : Nat) (k : fx_V → Bool) : Bool := match fx_hget h r with
  | some (.inr (.inr (ty, len, u))) => (fx_aty a ty && Nat.blt n len) && (match fx_look u n with
    | some v => fx_fit (cond (Nat.beq ty 3) 3 0) v && fx_nz j v k
    | none => k (fx_dft ty))
  | some _ => false
  | none => cond (Nat.beq r 1000000) ((Nat.beq a 0 && Nat.blt n 6) && (Nat.blt (n + 2147483648) (fx_iv j 8).1 && fx_nz j (fv (n + 1)) k))
    (Nat.beq r 1000002 && (Nat.beq a 1 && (match fx_nth fx_txt n with
      | some z => k (fc z)
      | none => false)))
/-- a store into an array: values that are held -/
noncomputable def fx_sto (a : Nat) (h : fx_H) (r n : Nat) (v : fx_V) (k : fx_H → Bool) : Bool := match fx_hget h r with
  | some (.inr (.inr (ty, len, u))) => (fx_aty a ty && Nat.blt n len) && (match fx_nar ty v with
    | some w => fx_aset ty u n w (fun u' => fx_hset h r (.inr (.inr (ty, len, u'))) k)
    | none => false)
  | _ => false
noncomputable def fx_len (h : fx_H) (r : Nat) : Option fx_V := match fx_hget h r with
  | some (.inr (.inr (_, len, _))) => some (fc len)
  | some _ => none
  | none => cond (Nat.beq r 1000000) (some (fv 8)) (cond (Nat.beq r 1000002) (some (fc 123)) none)
noncomputable def fx_un (a : Nat) (v : fx_V) : Option fx_V := match v with
  | .inl n => cond (Nat.beq a 0) (some (fc ((4294967296 - n % 4294967296) % 4294967296))) (cond (Nat.beq a 1) (cond (Nat.blt n 128) (some (fc n)) none) (cond (Nat.beq a 2) (cond (Nat.blt n 65536) (some (fc n)) none) (cond (Nat.beq a 3 && Nat.blt n 2147483648) (some (fl n)) none)))
  | .inr (.inl _) => cond (Nat.blt a 3) (some (fv 0)) none
  | _ => none
noncomputable def fx_lbin (o x y : Nat) : Option Nat := cond (Nat.beq o 0) (some ((x + y) % 18446744073709551616)) (cond (Nat.beq o 1) (some ((x + (18446744073709551616 - y % 18446744073709551616)) % 18446744073709551616)) (cond (Nat.beq o 2) (some (x * y % 18446744073709551616)) none))
/-- the order of what lies on the stack: dup, pop, dup2, dup_x1, dup_x2 -/
noncomputable def fx_stk (a : Nat) (st : List fx_V) : Option (List fx_V) := match st with
  | v :: st => cond (Nat.beq (fx_cat v) 1) (cond (Nat.beq a 0) (some (v :: v :: st)) (cond (Nat.beq a 1) (some st) (match st with
    | w :: st => cond (Nat.beq (fx_cat w) 1) (cond (Nat.beq a 2) (some (v :: w :: v :: w :: st)) (cond (Nat.beq a 3) (some (v :: w :: v :: st)) (match st with
      | x :: st => cond (Nat.beq (fx_cat x) 1 && Nat.beq a 4) (some (v :: w :: x :: v :: st)) none
      | [] => none))) none
    | [] => none))) none
  | [] => none
/-- each target of a switch, for a variable i: keys from lo (biased) on -/
noncomputable def fx_keys (j : fx_J) (i : Nat) (go : Nat → fx_J → Bool) (ts : List Nat) : Nat → Bool := List.rec (motive := fun _ => Nat → Bool) (fun _ => true) (fun t _ ih lo => cond (Nat.ble (fx_iv j i).1 lo && Nat.ble lo (fx_iv j i).2) (fx_with j i lo lo (go t)) true && ih (lo + 1)) ts
noncomputable def fx_sw (j : fx_J) (x : fx_V) (dft lo : Nat) (ts : List Nat) (go : Nat → fx_J → Bool) : Bool := match x with
  | .inl n => cond (Nat.ble lo (fx_b n)) (match fx_nth ts (fx_b n - lo) with
    | some t => go t j
    | none => go dft j) (go dft j)
  | .inr (.inl (i + 1)) => fx_keys j (i + 1) go ts lo && ((Nat.beq lo 0 || fx_with j (i + 1) (fx_iv j (i + 1)).1 (cond (Nat.ble (fx_iv j (i + 1)).2 (lo - 1)) (fx_iv j (i + 1)).2 (lo - 1)) (go dft)) && fx_with j (i + 1) (cond (Nat.ble (lo + ts.length) (fx_iv j (i + 1)).1) (fx_iv j (i + 1)).1 (lo + ts.length)) (fx_iv j (i + 1)).2 (go dft))
  | _ => false
noncomputable def fx_top (v : fx_V) : Bool := match v with
  | .inr (.inl 0) => true
  | _ => false
/-- is the called one's first value of its kind: 0 nothing asked, 1 any reference, 2 + c an object of the kind c, 99 the text -/
noncomputable def fx_rcv (t : Nat) (h : fx_H) (as : List fx_V) : Bool := cond (Nat.beq t 0) true (match as with
  | .inr (.inr (.inl (some r))) :: _ => cond (Nat.beq t 1) (match fx_hget h r with
      | some (.inr (.inl _)) => true
      | _ => false) (cond (Nat.beq t 99) (Nat.beq r 1000001) (match fx_hget h r with
      | some (.inr (.inl (ci, _))) => Nat.beq (ci + 2) t
      | _ => false))
  | _ => false)
abbrev fx_E : Type := (Nat → Option fx_M) × ((Nat → List Nat) × ((Nat → Option (List fx_V)) × (fx_Z × (fx_L → fx_H → fx_J → Bool))))
noncomputable def fx_ret (st : List fx_V) (v : Option fx_V) : List fx_V := match v with
  | none => st
  | some v => v :: st
noncomputable def fx_call (E : fx_E) (ih : fx_G) (d : Nat) (nx : List fx_V → Nat → Nat → fx_H → fx_J → Bool) (c : Nat) (stk : List fx_V) (ce sl mc ms : Nat) (h : fx_H) (j : fx_J) : Bool := match d with
  | 0 => false
  | d + 1 => match E.1 c with
    | none => false
    | some (cod, na, mc', ms', t) => match fx_split na stk with
      | none => false
      | some (as, st) => (Nat.ble (fx_cats st) 8 && (Nat.ble (ce + mc') mc && (Nat.ble (sl + ms') ms && fx_rcv t h as))) && (match E.2.2.2.1 c as h with
        | some (v, h') => nx (fx_ret st v) (ce + mc') (sl + ms') h' j
        | none => ih d cod cod (fx_args as 0) [] 0 0 mc' ms' h j (fun v h' j' => nx (fx_ret st v) (ce + mc') (sl + ms') h' j'))
noncomputable def fx_step (E : fx_E) (ih : fx_G) : fx_G := fun d cod at_ loc stk ce sl mc ms h j k => match at_ with
  | [] => false
  | (pc, kd, a, b, c) :: tl =>
    cond (Nat.beq kd 0) (match fx_look loc a with
      | none => false
      | some v => (fx_form b v && Nat.blt b 6) && fx_nz j v (fun v => fx_nx (fun t => ih d cod t loc (v :: stk) ce sl mc ms h j k) pc (fx_odd b) tl))
    (cond (Nat.beq kd 1) (match stk with
      | .inr (.inr (.inl (some r))) :: st => (match fx_hget h r with
        | some (.inr (.inl (ci, fs))) => Nat.beq ci b && (match fx_nth fs c with
          | some v => fx_nx (fun t => ih d cod t loc (v :: st) ce sl mc ms h j k) pc 3 tl
          | none => false)
        | _ => false)
      | _ => false)
    (cond (Nat.beq kd 2) (Nat.blt a 8 && fx_nx (fun t => ih d cod t loc (fx_cst a c :: stk) ce sl mc ms h j k) pc (fx_clen a) tl)
    (cond (Nat.beq kd 3) (match stk with
      | y :: x :: st => fx_nz j y (fun y => fx_nz j x (fun x => Nat.blt a 6 && fx_cmp a j x y (fun t j => cond t (ih d cod (fx_to cod b) loc st ce sl mc ms h j k) (fx_nx (fun t => ih d cod t loc st ce sl mc ms h j k) pc 3 tl))))
      | _ => false)
    (cond (Nat.beq kd 4) (match stk with
      | x :: st => fx_nz j x (fun x => Nat.blt a 6 && fx_cmp a j x (fc 0) (fun t j => cond t (ih d cod (fx_to cod b) loc st ce sl mc ms h j k) (fx_nx (fun t => ih d cod t loc st ce sl mc ms h j k) pc 3 tl)))
      | _ => false)
    (cond (Nat.beq kd 5) (ih d cod (fx_to cod b) loc stk ce sl mc ms h j k)
    (cond (Nat.beq kd 6) (match stk with
      | i :: .inr (.inr (.inl (some r))) :: st => fx_nz j i (fun i => match i with
        | .inl n => fx_ld a h j r n (fun v => fx_nx (fun t => ih d cod t loc (v :: st) ce sl mc ms h j k) pc 1 tl)
        | _ => match fx_few j i with
          | some (i, lo, n) => fx_each j i lo n (fun j => ih d cod at_ loc stk ce sl mc ms h j k)
          | none => false)
      | _ => false)
    (cond (Nat.beq kd 7) (match fx_look loc a with
      | none => false
      | some v => fx_nz j v (fun v => match fx_bis 0 v (fc b) with
        | some w => fx_val w (fun w => fx_store loc a w (fun loc => fx_nx (fun t => ih d cod t loc stk ce sl mc ms h j k) pc 3 tl))
        | none => false))
    (cond (Nat.beq kd 8) (match stk with
      | v :: i :: .inr (.inr (.inl (some r))) :: st => fx_nz j i (fun i => match i with
        | .inl n => fx_nz j v (fun v => fx_sto a h r n v (fun h => fx_nx (fun t => ih d cod t loc st ce sl mc ms h j k) pc 1 tl))
        | _ => match fx_few j i with
          | some (i, lo, n) => fx_each j i lo n (fun j => ih d cod at_ loc stk ce sl mc ms h j k)
          | none => false)
      | _ => false)
    (cond (Nat.beq kd 9) (Nat.blt a 5 && fx_call E ih d (fun stk ce sl h j => fx_nx (fun t => ih d cod t loc stk ce sl mc ms h j k) pc 3 tl) c stk ce sl mc ms h j)
    (cond (Nat.beq kd 10) (cond (Nat.beq a 0) (match stk with
        | [v] => fx_nz j v (fun v => fx_rok b v && k (some v) h j)
        | _ => false) (cond (Nat.beq a 1) (match stk with
        | [] => k none h j
        | _ => false) (match stk with
        | [.inr (.inr (.inr n))] => k (some (fl n)) h j
        | _ => false)))
    (cond (Nat.beq kd 11) (match stk with
      | v :: st => (fx_form b v && Nat.blt b 6) && fx_store loc a v (fun loc => fx_nx (fun t => ih d cod t loc st ce sl mc ms h j k) pc (fx_odd b) tl)
      | _ => false)
    (cond (Nat.beq kd 12) (match stk with
      | y :: x :: st => fx_nz j y (fun y => fx_nz j x (fun x => match fx_bis a x y with
        | none => false
        | some w => cond (fx_top w) (match fx_few j x with
            | some (i, lo, n) => fx_each j i lo n (fun j => ih d cod at_ loc stk ce sl mc ms h j k)
            | none => match fx_few j y with
              | some (i, lo, n) => fx_each j i lo n (fun j => ih d cod at_ loc stk ce sl mc ms h j k)
              | none => fx_nx (fun t => ih d cod t loc (w :: st) ce sl mc ms h j k) pc 1 tl)
          (fx_val w (fun w => fx_nx (fun t => ih d cod t loc (w :: st) ce sl mc ms h j k) pc 1 tl))))
      | _ => false)
    (cond (Nat.beq kd 13) (match stk with
      | x :: st => fx_nz j x (fun x => match fx_un a x with
        | some w => fx_val w (fun w => fx_nx (fun t => ih d cod t loc (w :: st) ce sl mc ms h j k) pc 1 tl)
        | none => false)
      | _ => false)
    (cond (Nat.beq kd 14) (match stk with
      | v :: .inr (.inr (.inl (some r))) :: st => (match fx_hget h r with
        | some (.inr (.inl (ci, fs))) => (Nat.beq ci b && fx_fit (c % 8) v) && fx_put v fs (c / 8) (fun fs => fx_hset h r (.inr (.inl (ci, fs))) (fun h => fx_nx (fun t => ih d cod t loc st ce sl mc ms h j k) pc 3 tl))
        | _ => false)
      | _ => false)
    (cond (Nat.beq kd 15) (match fx_stk a stk with
      | some stk => fx_nx (fun t => ih d cod t loc stk ce sl mc ms h j k) pc 1 tl
      | none => false)
    (cond (Nat.beq kd 16) (match E.2.2.1 b with
      | some fs => (Nat.ble (ce + 1) mc && Nat.ble (sl + fs.length) ms) && fx_hnew h (.inr (.inl (b, fs))) (fun h' => fx_num (ce + 1) (fun ce => fx_num (sl + fs.length) (fun sl => fx_nx (fun t => ih d cod t loc (fr h.1 :: stk) ce sl mc ms h' j k) pc 3 tl)))
      | none => false)
    (cond (Nat.beq kd 17) (match stk with
      | .inl n :: st => ((Nat.ble n 1000000 && Nat.blt a 4) && (Nat.ble (ce + 1) mc && Nat.ble (sl + n) ms)) && fx_hnew h (.inr (.inr (a, n, []))) (fun h' => fx_num (ce + 1) (fun ce => fx_num (sl + n) (fun sl => fx_nx (fun t => ih d cod t loc (fr h.1 :: st) ce sl mc ms h' j k) pc 2 tl)))
      | _ => false)
    (cond (Nat.beq kd 18) (match stk with
      | .inr (.inr (.inl (some r))) :: st => (match fx_len h r with
        | some v => fx_nz j v (fun v => fx_nx (fun t => ih d cod t loc (v :: st) ce sl mc ms h j k) pc 1 tl)
        | none => false)
      | _ => false)
    (cond (Nat.beq kd 19) (match stk with
      | .inr (.inr (.inl none)) :: st => cond (Nat.beq a 0) (ih d cod (fx_to cod b) loc st ce sl mc ms h j k) (fx_nx (fun t => ih d cod t loc st ce sl mc ms h j k) pc 3 tl)
      | .inr (.inr (.inl (some r))) :: st => Nat.blt r 1000000 && cond (Nat.beq a 1) (ih d cod (fx_to cod b) loc st ce sl mc ms h j k) (fx_nx (fun t => ih d cod t loc st ce sl mc ms h j k) pc 3 tl)
      | _ => false)
    (cond (Nat.beq kd 20) (match stk with
      | x :: st => fx_nz j x (fun x => fx_sw j x a (fx_b b) (E.2.1 c) (fun t j => ih d cod (fx_to cod t) loc st ce sl mc ms h j k))
      | _ => false)
    (cond (Nat.beq kd 22) (match stk with
      | .inr (.inr (.inl (some r))) :: st => (Nat.blt 0 d && (Nat.blt r 1000000 && Nat.ble (fx_cats st) 8)) && fx_nx (fun t => ih d cod t loc st ce sl mc ms h j k) pc 3 tl
      | _ => false)
    (cond (Nat.beq kd 23) (match stk with
      | .inl n :: .inl dp :: .inr (.inr (.inl (some r))) :: .inl sp :: .inr (.inr (.inl (some r0))) :: st => (match fx_hget h r0 with
        | some (.inr (.inr (0, len0, u0))) => (match fx_hget h r with
          | some (.inr (.inr (0, len, u))) => ((Nat.blt 0 d && Nat.ble (fx_cats st) 8) && (Nat.ble (sp + n) len0 && Nat.ble (dp + n) len)) && fx_copy u0 u sp dp n (fun u => fx_hset h r (.inr (.inr (0, len, u))) (fun h => fx_nx (fun t => ih d cod t loc st ce sl mc ms h j k) pc 3 tl))
          | _ => false)
        | _ => false)
      | _ => false)
    (cond (Nat.beq kd 24) (match stk with
      | .inr (.inr (.inr y)) :: .inr (.inr (.inr x)) :: st => (match fx_lbin a x y with
        | some n => fx_num n (fun n => fx_nx (fun t => ih d cod t loc (fl n :: st) ce sl mc ms h j k) pc 1 tl)
        | none => false)
      | _ => false)
    (cond (Nat.beq kd 25) (match stk with
      | .inr (.inr (.inl (some r))) :: st => Nat.beq r 1000001 && fx_nx (fun t => ih d cod t loc (cond (Nat.beq b 0) (fr 1000002) (fc 0) :: st) ce sl mc ms h j k) pc 3 tl
      | _ => false)
    (cond (Nat.beq kd 26) (fx_nx (fun t => ih d cod t loc (cond (Nat.beq b 0) (fc 1) (fr 1000003) :: stk) ce sl mc ms h j k) pc 3 tl)
    (cond (Nat.beq kd 27) (fx_nx (fun t => ih d cod t loc (fr 1000001 :: stk) ce sl mc ms h j k) pc 2 tl)
    (cond (Nat.beq kd 28) (match stk with
      | [] => E.2.2.2.2 loc h j
      | _ => false) false)))))))))))))))))))))))))))
noncomputable def fx_go (E : fx_E) (n : Nat) : fx_G := Nat.rec (motive := fun _ => fx_G) (fun _ _ _ _ _ _ _ _ _ _ _ _ => false) (fun _ ih => fx_step E ih) n
theorem fx_go_succ (E : fx_E) (n : Nat) : fx_go E (n + 1) = fx_step E (fx_go E n) := rfl
