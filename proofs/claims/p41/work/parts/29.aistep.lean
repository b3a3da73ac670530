noncomputable def ai_k0 (go : ai_O) (pc a b : Nat) (tl : List fx_I) (loc : fx_L) (stk : List fx_V) (F : fx_L) (J : ai_J) (n : Nat) : Bool := match fx_look loc a with
  | none => false
  | some v => (fx_form b v && Nat.blt b 6) && fx_nx (fun t => go t loc (v :: stk) F J n) pc (fx_odd b) tl
noncomputable def ai_k1 (E : ai_E) (go : ai_O) (pc b c : Nat) (tl : List fx_I) (loc : fx_L) (stk : List fx_V) (F : fx_L) (J : ai_J) (n : Nat) : Bool := match stk with
  | .inr (.inr (.inl (some r))) :: st => (match ai_cell E.1 r with
    | some (.inl (ci, fs)) => (Nat.beq ci b && Nat.blt c 4096) && fx_num (r * 4096 + c) (fun p => match fx_look F p with
      | some v => fx_nx (fun t => go t loc (v :: st) F J n) pc 3 tl
      | none => (match fx_nth fs c with
        | some (.inl _) => fx_nx (fun t => go t loc (fl 0 :: st) F J n) pc 3 tl
        | some (.inr (.inl (lo, hi))) => ai_new J n lo hi 0 0 (fun v J n => fx_nx (fun t => go t loc (v :: st) ((p, v) :: F) J n) pc 3 tl)
        | some (.inr (.inr rs)) => fx_all rs (fun o => fx_nx (fun t => go t loc (.inr (.inr (.inl o)) :: st) ((p, .inr (.inr (.inl o))) :: F) J n) pc 3 tl)
        | none => false))
    | _ => false)
  | _ => false
noncomputable def ai_cst (a c : Nat) : fx_V := fx_if (Nat.blt a 5) (fc c) (fx_if (Nat.blt a 7) (fl (c + 2)) fz)
noncomputable def ai_k2 (go : ai_O) (pc a c : Nat) (tl : List fx_I) (loc : fx_L) (stk : List fx_V) (F : fx_L) (J : ai_J) (n : Nat) : Bool := (Nat.blt a 8 && Nat.blt c 4294967296 || (Nat.beq a 5 || Nat.beq a 6)) && fx_nx (fun t => go t loc (ai_cst a c :: stk) F J n) pc (fx_clen a) tl
noncomputable def ai_k3 (go : ai_O) (cod : List fx_I) (pc a b : Nat) (tl : List fx_I) (loc : fx_L) (stk : List fx_V) (F : fx_L) (J : ai_J) (n : Nat) : Bool := match stk with
  | y :: x :: st => Nat.blt a 6 && ai_cmp a J x y (fun t J => fx_if t (go (fx_to cod b) loc st F J n) (fx_nx (fun t => go t loc st F J n) pc 3 tl))
  | _ => false
noncomputable def ai_k4 (go : ai_O) (cod : List fx_I) (pc a b : Nat) (tl : List fx_I) (loc : fx_L) (stk : List fx_V) (F : fx_L) (J : ai_J) (n : Nat) : Bool := match stk with
  | x :: st => Nat.blt a 6 && ai_cmp a J x (fc 0) (fun t J => fx_if t (go (fx_to cod b) loc st F J n) (fx_nx (fun t => go t loc st F J n) pc 3 tl))
  | _ => false
noncomputable def ai_k6 (E : ai_E) (go : ai_O) (pc a : Nat) (tl : List fx_I) (loc : fx_L) (stk : List fx_V) (F : fx_L) (J : ai_J) (n : Nat) : Bool := match stk with
  | i :: .inr (.inr (.inl (some r))) :: st => ai_rng J i (fun c d => match ai_cell E.1 r with
    | some (.inr (ty, len, L)) => ((fx_aty a ty && Nat.blt len 4096) && (Nat.ble 2147483648 c && Nat.blt d (len + 2147483648))) && fx_if (Nat.beq ty 3) (fx_nx (fun t => go t loc (fl 0 :: st) F J n) pc 1 tl)
      (fx_if (Nat.beq c d) (fx_num (r * 4096 + (c - 2147483648)) (fun p => match fx_look F p with
        | some v => fx_nx (fun t => go t loc (v :: st) F J n) pc 1 tl
        | none => (match fx_nth L (Nat.mod (c - 2147483648) L.length) with
          | some (lo, hi) => ai_new J n lo hi 0 0 (fun v J n => fx_nx (fun t => go t loc (v :: st) ((p, v) :: F) J n) pc 1 tl)
          | none => false)))
        (match ai_span L (c - 2147483648) (d - 2147483648) with
          | some (lo, hi) => ai_new J n lo hi 0 0 (fun v J n => fx_nx (fun t => go t loc (v :: st) F J n) pc 1 tl)
          | none => false))
    | some (.inl _) => false
    | none => (Nat.beq r 1000005 && (Nat.beq a 1 && (Nat.ble 2147483648 c && Nat.blt d 2147483659))) && ai_new J n 2147483648 2147483775 0 0 (fun v J n => fx_nx (fun t => go t loc (v :: st) F J n) pc 1 tl))
  | _ => false
noncomputable def ai_k7 (go : ai_O) (pc a b : Nat) (tl : List fx_I) (loc : fx_L) (stk : List fx_V) (F : fx_L) (J : ai_J) (n : Nat) : Bool := match fx_look loc a with
  | none => false
  | some v => (fx_int v && Nat.blt b 4294967296) && ai_bin 0 J n v (fc b) (fun w J n => fx_store loc a w (fun loc => fx_nx (fun t => go t loc stk F J n) pc 3 tl))
noncomputable def ai_nar (ty x y : Nat) : Bool := Nat.beq ty 0 || ((Nat.beq ty 1 && (Nat.ble 2147483520 x && Nat.ble y 2147483775)) || (Nat.beq ty 2 && (Nat.ble 2147483648 x && Nat.ble y 2147483649)))
noncomputable def ai_k8 (E : ai_E) (go : ai_O) (pc a : Nat) (tl : List fx_I) (loc : fx_L) (stk : List fx_V) (F : fx_L) (J : ai_J) (n : Nat) : Bool := match stk with
  | v :: i :: .inr (.inr (.inl (some r))) :: st => ai_rng J i (fun c d => match ai_cell E.1 r with
    | some (.inr (ty, len, L)) => (((fx_aty a ty && Nat.blt len 4096) && (ai_mem E.2.2.2.1.2 r && ai_mem E.2.2.2.2.1.2 r)) && (Nat.ble 2147483648 c && Nat.blt d (len + 2147483648))) &&
      fx_if (Nat.beq ty 3) (Nat.beq (fx_cat v) 2 && ai_out r F (fun F => fx_nx (fun t => go t loc st F J n) pc 1 tl))
      (ai_rng J v (fun x y => fx_if (ai_nar ty x y) (ai_into L (c - 2147483648) (d - 2147483648) x y && fx_if (Nat.beq c d) (fx_num (r * 4096 + (c - 2147483648)) (fun p => fx_nx (fun t => go t loc st ((p, v) :: F) J n) pc 1 tl)) (ai_out r F (fun F => fx_nx (fun t => go t loc st F J n) pc 1 tl)))
        (fx_if (Nat.beq ty 1) (ai_into L (c - 2147483648) (d - 2147483648) 2147483520 2147483775) (ai_into L (c - 2147483648) (d - 2147483648) 2147483648 2147483649) && ai_out r F (fun F => fx_nx (fun t => go t loc st F J n) pc 1 tl))))
    | _ => false)
  | _ => false
noncomputable def ai_rok (b a d : Nat) : Bool := Nat.beq b 1 || ((Nat.beq b 2 && (Nat.ble 2147483648 a && Nat.ble d 2147483649)) || ((Nat.beq b 4 && (Nat.ble 2147483648 a && Nat.ble d 2147549183)) || (Nat.beq b 5 && (Nat.ble 2147483648 a && Nat.ble d 2147483775))))
noncomputable def ai_k10 (k : ai_K) (a b : Nat) (stk : List fx_V) (F : fx_L) (J : ai_J) (n : Nat) : Bool := fx_if (Nat.beq a 0) (match stk with
    | [v] => ai_rng J v (fun x y => ai_rok b x y && k (some v) F J n)
    | _ => false) (fx_if (Nat.beq a 1) (match stk with
    | [] => k none F J n
    | _ => false) (match stk with
    | [.inr (.inr (.inr n0))] => k (some (fl n0)) F J n
    | _ => false))
noncomputable def ai_k11 (go : ai_O) (pc a b : Nat) (tl : List fx_I) (loc : fx_L) (stk : List fx_V) (F : fx_L) (J : ai_J) (n : Nat) : Bool := match stk with
  | v :: st => (fx_form b v && Nat.blt b 6) && fx_store loc a v (fun loc => fx_nx (fun t => go t loc st F J n) pc (fx_odd b) tl)
  | _ => false
noncomputable def ai_k12 (go : ai_O) (pc a : Nat) (tl : List fx_I) (loc : fx_L) (stk : List fx_V) (F : fx_L) (J : ai_J) (n : Nat) : Bool := match stk with
  | y :: x :: st => Nat.blt a 11 && ai_bin a J n x y (fun w J n => fx_nx (fun t => go t loc (w :: st) F J n) pc 1 tl)
  | _ => false
noncomputable def ai_k13 (go : ai_O) (pc a : Nat) (tl : List fx_I) (loc : fx_L) (stk : List fx_V) (F : fx_L) (J : ai_J) (n : Nat) : Bool := match stk with
  | x :: st => Nat.blt a 4 && ai_un a J n x (fun w J n => fx_nx (fun t => go t loc (w :: st) F J n) pc 1 tl)
  | _ => false
noncomputable def ai_isin (o : Option Nat) (rs : List (Option Nat)) : Bool := List.rec (motive := fun _ => Bool) false (fun a _ ih => (match a, o with
  | none, none => true
  | some x, some y => Nat.beq x y
  | _, _ => false) || ih) rs
noncomputable def ai_k14 (E : ai_E) (go : ai_O) (pc b c : Nat) (tl : List fx_I) (loc : fx_L) (stk : List fx_V) (F : fx_L) (J : ai_J) (n : Nat) : Bool := match stk with
  | v :: .inr (.inr (.inl (some r))) :: st => (match ai_cell E.1 r with
    | some (.inl (ci, fs)) => (Nat.beq ci b && Nat.blt (Nat.div c 8) 4096) && fx_num (r * 4096 + Nat.div c 8) (fun p => (ai_mem E.2.2.2.1.1 p && ai_mem E.2.2.2.2.1.1 p) && ((match fx_nth fs (Nat.div c 8) with
      | some (.inl _) => Nat.beq (fx_cat v) 2 && Nat.beq (Nat.mod c 8) 3
      | some (.inr (.inl (lo, hi))) => ai_fit J v (.inl (lo, hi)) && (Nat.beq (Nat.mod c 8) 0 || (Nat.beq (Nat.mod c 8) 2 && (Nat.ble 2147483648 lo && Nat.ble hi 2147483649)))
      | some (.inr (.inr rs)) => (match v with
        | .inr (.inr (.inl o)) => ai_isin o rs && Nat.beq (Nat.mod c 8) 4
        | _ => false)
      | none => false) && fx_nx (fun t => go t loc st ((p, v) :: F) J n) pc 3 tl))
    | _ => false)
  | _ => false
noncomputable def ai_k15 (go : ai_O) (pc a : Nat) (tl : List fx_I) (loc : fx_L) (stk : List fx_V) (F : fx_L) (J : ai_J) (n : Nat) : Bool := match fx_stk a stk with
  | some stk => fx_nx (fun t => go t loc stk F J n) pc 1 tl
  | none => false
noncomputable def ai_k18 (E : ai_E) (go : ai_O) (pc : Nat) (tl : List fx_I) (loc : fx_L) (stk : List fx_V) (F : fx_L) (J : ai_J) (n : Nat) : Bool := match stk with
  | .inr (.inr (.inl (some r))) :: st => (match ai_cell E.1 r with
    | some (.inr (_, len, _)) => Nat.blt len 4096 && fx_nx (fun t => go t loc (fc len :: st) F J n) pc 1 tl
    | some (.inl _) => false
    | none => Nat.beq r 1000005 && fx_nx (fun t => go t loc (fc 11 :: st) F J n) pc 1 tl)
  | _ => false
noncomputable def ai_k19 (go : ai_O) (cod : List fx_I) (pc a b : Nat) (tl : List fx_I) (loc : fx_L) (stk : List fx_V) (F : fx_L) (J : ai_J) (n : Nat) : Bool := match stk with
  | .inr (.inr (.inl none)) :: st => fx_if (Nat.beq a 0) (go (fx_to cod b) loc st F J n) (Nat.beq a 1 && fx_nx (fun t => go t loc st F J n) pc 3 tl)
  | .inr (.inr (.inl (some r))) :: st => Nat.blt r 1000000 && fx_if (Nat.beq a 1) (go (fx_to cod b) loc st F J n) (Nat.beq a 0 && fx_nx (fun t => go t loc st F J n) pc 3 tl)
  | _ => false
noncomputable def ai_keys (J : ai_J) (x : fx_V) (lo hi : Nat) (go : Nat → ai_J → Bool) (ts : List Nat) : Nat → Bool := List.rec (motive := fun _ => Nat → Bool) (fun _ => true) (fun t _ ih q => fx_if (Nat.ble lo q && Nat.ble q hi) (ai_ref J x q q (go t)) true && ih (q + 1)) ts
noncomputable def ai_sw (J : ai_J) (x : fx_V) (dft q : Nat) (ts : List Nat) (go : Nat → ai_J → Bool) : Bool := ai_rng J x (fun lo hi => ai_keys J x lo hi go ts q && ((Nat.beq q 0 || ai_ref J x 0 (q - 1) (go dft)) && ai_ref J x (q + ts.length) 4294967295 (go dft)))
noncomputable def ai_k20 (go : ai_O) (cod : List fx_I) (a b c : Nat) (loc : fx_L) (stk : List fx_V) (F : fx_L) (J : ai_J) (n : Nat) : Bool := match stk with
  | x :: st => ai_sw J x a (fx_b b) (fx_swt c) (fun t J => go (fx_to cod t) loc st F J n)
  | _ => false
noncomputable def ai_k23 (E : ai_E) (go : ai_O) (d pc : Nat) (tl : List fx_I) (loc : fx_L) (stk : List fx_V) (F : fx_L) (J : ai_J) (n : Nat) : Bool := match stk with
  | v :: dp :: .inr (.inr (.inl (some r))) :: sp :: .inr (.inr (.inl (some r0))) :: st => ai_rng J v (fun n0 n1 => ai_rng J dp (fun d0 d1 => ai_rng J sp (fun s0 s1 => match ai_cell E.1 r0 with
    | some (.inr (0, len0, [q0])) => (match ai_cell E.1 r with
      | some (.inr (0, len, [q])) => (((Nat.blt 0 d && Nat.ble (fx_cats st) 8) && (ai_mem E.2.2.2.1.2 r && ai_mem E.2.2.2.2.1.2 r)) && ((Nat.ble 2147483648 n0 && (Nat.ble 2147483648 d0 && Nat.ble 2147483648 s0)) && ((Nat.ble (s1 + n1) (len0 + 4294967296) && Nat.ble (d1 + n1) (len + 4294967296)) && (Nat.ble q.1 q0.1 && Nat.ble q0.2 q.2)))) && ai_out r F (fun F => fx_nx (fun t => go t loc st F J n) pc 3 tl)
      | _ => false)
    | _ => false)))
  | _ => false
noncomputable def ai_k24 (go : ai_O) (pc : Nat) (tl : List fx_I) (loc : fx_L) (stk : List fx_V) (F : fx_L) (J : ai_J) (n : Nat) : Bool := match stk with
  | .inr (.inr (.inr _)) :: .inr (.inr (.inr _)) :: st => fx_nx (fun t => go t loc (fl 0 :: st) F J n) pc 1 tl
  | _ => false
noncomputable def ai_k25 (go : ai_O) (pc b : Nat) (tl : List fx_I) (loc : fx_L) (stk : List fx_V) (F : fx_L) (J : ai_J) (n : Nat) : Bool := match stk with
  | .inr (.inr (.inl (some r))) :: st => Nat.beq r 1000004 && fx_if (Nat.beq b 0) (fx_nx (fun t => go t loc (fr 1000005 :: st) F J n) pc 3 tl) (Nat.beq b 1 && fx_nx (fun t => go t loc (fc 0 :: st) F J n) pc 3 tl)
  | _ => false
noncomputable def ai_k29 (go : ai_O) (d pc b : Nat) (tl : List fx_I) (loc : fx_L) (stk : List fx_V) (F : fx_L) (J : ai_J) (n : Nat) : Bool := fx_if (Nat.beq b 2) (match stk with
  | x :: st => (Nat.blt 0 d && Nat.ble (fx_cats st) 8) && ai_abs J n x (fun w J n => fx_nx (fun t => go t loc (w :: st) F J n) pc 3 tl)
  | _ => false) (match stk with
  | y :: x :: st => ((Nat.blt b 2 && Nat.blt 0 d) && Nat.ble (fx_cats st) 8) && ai_rng J x (fun a b0 => ai_rng J y (fun c d0 => ai_math b J n a b0 c d0 (fun w J n => fx_nx (fun t => go t loc (w :: st) F J n) pc 3 tl)))
  | _ => false)
noncomputable def ai_k30 (go : ai_O) (pc : Nat) (tl : List fx_I) (loc : fx_L) (stk : List fx_V) (F : fx_L) (J : ai_J) (n : Nat) : Bool := match stk with
  | .inr (.inr (.inr y)) :: .inr (.inr (.inr x)) :: st => fx_if (Nat.ble 2 x && (Nat.ble 2 y && (Nat.blt x 9223372036854775808 && Nat.blt y 9223372036854775808))) (match ai_lcmp x y with
      | some z => fx_nx (fun t => go t loc (fc z :: st) F J n) pc 1 tl
      | none => false)
    (fx_if (Nat.beq x 1 && (Nat.ble 2 y && ai_mem ai_WL (y - 2))) (fx_nx (fun t => go t loc (fc 1 :: st) F J n) pc 1 tl && fx_nx (fun t => go t loc (fc 4294967295 :: st) F J n) pc 1 tl)
      (ai_new J n 2147483647 2147483649 0 0 (fun v J n => fx_nx (fun t => go t loc (v :: st) F J n) pc 1 tl)))
  | _ => false
noncomputable def ai_k31 (go : ai_O) (pc : Nat) (tl : List fx_I) (loc : fx_L) (stk : List fx_V) (F : fx_L) (J : ai_J) (n : Nat) : Bool := match stk with
  | x :: .inr (.inr (.inr _)) :: st => fx_int x && fx_nx (fun t => go t loc (fl 0 :: st) F J n) pc 1 tl
  | _ => false
noncomputable def ai_rcv (T : ai_T) (t : Nat) (as : List fx_V) : Bool := fx_if (Nat.beq t 0) true (match as with
  | .inr (.inr (.inl (some r))) :: _ => fx_if (Nat.beq t 99) (Nat.beq r 1000004) (match ai_cell T r with
    | some (.inl (ci, _)) => Nat.beq (ci + 2) t && Nat.ble 2 t
    | _ => false)
  | _ => false)
noncomputable def ai_call (E : ai_E) (ih : ai_G) (d : Nat) (nx : List fx_V → fx_L → ai_J → Nat → Bool) (c : Nat) (stk : List fx_V) (F : fx_L) (J : ai_J) (n : Nat) : Bool := match d with
  | 0 => false
  | d + 1 => match fx_mt c with
    | none => false
    | some (cod, na, mc, ms, t, nl) => match fx_split na stk with
      | none => false
      | some (as, st) => (Nat.ble (fx_cats st) 8 && (Nat.beq mc 0 && (Nat.beq ms 0 && (Nat.ble (fx_cats as) nl && ai_rcv E.1 t as)))) && fx_if (E.2.2.1 c)
        (ih d true cod cod (fx_args as 0) [] F J n [] (fun v F J n => nx (fx_ret st v) F J n))
        (Nat.blt 0 cod.length && fx_has (E.2.1 c) (fun I => ((ai_fits J as I.1.1 && fx_all I.1.2 (fun q => ai_has E.1 F J q.1 q.2)) && (Nat.ble I.2.2.2 d && (fx_all I.2.2.1.1 (ai_mem E.2.2.2.1.1) && fx_all I.2.2.1.2 (ai_mem E.2.2.2.1.2)))) && ai_keep I.2.2.1 F (fun F => ai_tell I.2.1.2 F J n (fun F J n => ai_ans I.2.1.1 J n (fun v J n => nx (fx_ret st v) F J n)))))
/-- each value of lo .. lo + n -/
noncomputable def ai_each (J : ai_J) (v : fx_V) (lo n : Nat) (k : ai_J → Bool) : Bool := Nat.rec (motive := fun _ => Bool) (ai_ref J v lo lo k) (fun m ih => ai_ref J v (lo + (m + 1)) (lo + (m + 1)) k && ih) n
noncomputable def ai_okr (g : Nat) (J : ai_J) (loc : fx_L) (R : ai_R) : Bool := fx_all R (fun q => match fx_look loc q.1 with
  | some v => (ai_fit J v q.2.1 && ai_rel J v q.2.2) && (Nat.beq q.2.2.2 0 || Nat.blt q.2.2.1 g)
  | none => false)
noncomputable def ai_mkl (own g : Nat) (R : ai_R) : Nat → ai_J → (fx_L → ai_J → Nat → Bool) → Bool := List.rec (motive := fun _ => Nat → ai_J → (fx_L → ai_J → Nat → Bool) → Bool) (fun n J k => k [] J n) (fun q _ ih n J k => match q.2.1 with
    | .inl (lo, hi) => fx_num (n + 1) (fun m => ih m ((n, lo, hi, fx_if (Nat.beq (q.1 + 1) own) (g, 2147483648) q.2.2) :: J) (fun L J m => k ((q.1, fv n) :: L) J m))
    | .inr v => ih n J (fun L J m => k ((q.1, v) :: L) J m)) R
noncomputable def ai_idx (x : Nat) (l : List Nat) : Nat → Option Nat := List.rec (motive := fun _ => Nat → Option Nat) (fun _ => none) (fun a _ ih g => fx_if (Nat.beq a x) (some g) (ih (g + 1))) l
noncomputable def ai_dec (J : ai_J) (v : fx_V) (g dir : Nat) : Bool := match v with
  | .inr (.inl i) => (match ai_ch J g 6 i with
    | some t => fx_if (Nat.beq dir 0) (Nat.blt 2147483648 t) (Nat.blt t 2147483648)
    | none => false)
  | _ => false
/-- back to a loop's head -/
noncomputable def ai_back (loc F : fx_L) (J : ai_J) (A : ai_A) (g : Nat) : Bool := match fx_look (fx_if (Nat.beq A.1.1 0) loc F) A.1.2.1 with
  | none => false
  | some v => fx_int v && ai_dec J v g A.1.2.2
/-- into a loop's head -/
noncomputable def ai_enter (ih : ai_G) (d : Nat) (cod tl : List fx_I) (loc F : fx_L) (ctx : List Nat) (k : ai_K) (A : ai_A) (x : Nat) : Bool := match fx_look (fx_if (Nat.beq A.1.1 0) loc F) A.1.2.1 with
  | none => false
  | some v => fx_int v && ai_mkl (fx_if (Nat.beq A.1.1 0) (A.1.2.1 + 1) 0) ctx.length A.2.1 (ctx.length + 1) [] (fun loc' J' n' => ai_mkl (fx_if (Nat.beq A.1.1 0) 0 (A.1.2.1 + 1)) ctx.length A.2.2 n' J' (fun F' J' n' => ih d false cod tl loc' [] F' J' n' (ctx ++ [x]) k))
noncomputable def ai_pick (ih : ai_G) (d : Nat) (cod tl : List fx_I) (loc F : fx_L) (J : ai_J) (ctx : List Nat) (k : ai_K) (As : List ai_A) : Nat → Bool := List.rec (motive := fun _ => Nat → Bool) (fun _ => false) (fun A _ ihp x => match ai_idx x ctx 0 with
  | some g => fx_if (ai_okr g J loc A.2.1 && ai_okr g J F A.2.2) (ai_back loc F J A g) (ihp (x + 1))
  | none => fx_if (ai_okr ctx.length J loc A.2.1 && ai_okr ctx.length J F A.2.2) (ai_enter ih d cod tl loc F ctx k A x) (ihp (x + 1))) As
noncomputable def ai_k28 (E : ai_E) (ih : ai_G) (d : Nat) (inl : Bool) (cod : List fx_I) (pc b : Nat) (tl : List fx_I) (loc : fx_L) (stk : List fx_V) (F : fx_L) (J : ai_J) (n : Nat) (ctx : List Nat) (k : ai_K) : Bool := fx_if (Nat.beq b 1) (match stk with
    | v :: _ => ai_rng J v (fun lo hi => Nat.ble (hi - lo) 1100 && ai_each J v lo (hi - lo) (fun J => fx_nx (fun t => ih d inl cod t loc stk F J n ctx k) pc 0 tl))
    | _ => false) (match stk with
    | [] => (!inl && Nat.blt (E.2.2.2.2.2 pc).length 64) && fx_nx (fun t => ai_pick ih d cod t loc F J ctx k (E.2.2.2.2.2 pc) (pc * 64)) pc 0 tl
    | _ => false)
noncomputable def ai_ga (E : ai_E) (go : ai_O) (cod : List fx_I) (pc kd a b c : Nat) (tl : List fx_I) (loc : fx_L) (stk : List fx_V) (F : fx_L) (J : ai_J) (n : Nat) : Bool :=
  fx_if (Nat.beq kd 0) (ai_k0 go pc a b tl loc stk F J n) (fx_if (Nat.beq kd 1) (ai_k1 E go pc b c tl loc stk F J n) (fx_if (Nat.beq kd 2) (ai_k2 go pc a c tl loc stk F J n) (ai_k3 go cod pc a b tl loc stk F J n)))
noncomputable def ai_gb (E : ai_E) (go : ai_O) (cod : List fx_I) (pc kd a b : Nat) (tl : List fx_I) (loc : fx_L) (stk : List fx_V) (F : fx_L) (J : ai_J) (n : Nat) : Bool :=
  fx_if (Nat.beq kd 4) (ai_k4 go cod pc a b tl loc stk F J n) (fx_if (Nat.beq kd 5) (go (fx_to cod b) loc stk F J n) (fx_if (Nat.beq kd 6) (ai_k6 E go pc a tl loc stk F J n) (ai_k7 go pc a b tl loc stk F J n)))
noncomputable def ai_gc (E : ai_E) (ih : ai_G) (go : ai_O) (d pc kd a b c : Nat) (tl : List fx_I) (loc : fx_L) (stk : List fx_V) (F : fx_L) (J : ai_J) (n : Nat) (k : ai_K) : Bool :=
  fx_if (Nat.beq kd 8) (ai_k8 E go pc a tl loc stk F J n) (fx_if (Nat.beq kd 9) (Nat.blt a 5 && ai_call E ih d (fun stk F J n => fx_nx (fun t => go t loc stk F J n) pc 3 tl) c stk F J n) (fx_if (Nat.beq kd 10) (ai_k10 k a b stk F J n) (ai_k11 go pc a b tl loc stk F J n)))
noncomputable def ai_gd (E : ai_E) (go : ai_O) (pc kd a b c : Nat) (tl : List fx_I) (loc : fx_L) (stk : List fx_V) (F : fx_L) (J : ai_J) (n : Nat) : Bool :=
  fx_if (Nat.beq kd 12) (ai_k12 go pc a tl loc stk F J n) (fx_if (Nat.beq kd 13) (ai_k13 go pc a tl loc stk F J n) (fx_if (Nat.beq kd 14) (ai_k14 E go pc b c tl loc stk F J n) (ai_k15 go pc a tl loc stk F J n)))
noncomputable def ai_ge (E : ai_E) (ih : ai_G) (go : ai_O) (inl : Bool) (cod : List fx_I) (d pc kd a b c : Nat) (tl : List fx_I) (loc : fx_L) (stk : List fx_V) (F : fx_L) (J : ai_J) (n : Nat) (ctx : List Nat) (k : ai_K) : Bool :=
  fx_if (Nat.beq kd 18) (ai_k18 E go pc tl loc stk F J n) (fx_if (Nat.beq kd 19) (ai_k19 go cod pc a b tl loc stk F J n)
    (fx_if (Nat.beq kd 20 || Nat.beq kd 21) (ai_k20 go cod a b c loc stk F J n) (fx_if (Nat.beq kd 23) (ai_k23 E go d pc tl loc stk F J n) (fx_if (Nat.beq kd 24) (ai_k24 go pc tl loc stk F J n)
      (fx_if (Nat.beq kd 25) (ai_k25 go pc b tl loc stk F J n) (fx_if (Nat.beq kd 26) (Nat.beq b 0 && fx_nx (fun t => go t loc (fc 1 :: stk) F J n) pc 3 tl) (fx_if (Nat.beq kd 27) (Nat.beq a 73 && fx_nx (fun t => go t loc (fr 1000004 :: stk) F J n) pc 2 tl)
        (fx_if (Nat.beq kd 28) (ai_k28 E ih d inl cod pc b tl loc stk F J n ctx k) (fx_if (Nat.beq kd 29) (ai_k29 go d pc b tl loc stk F J n) (fx_if (Nat.beq kd 30) (ai_k30 go pc tl loc stk F J n) (Nat.beq kd 31 && ai_k31 go pc tl loc stk F J n)))))))))))
noncomputable def ai_one (E : ai_E) (ih : ai_G) (go : ai_O) (d : Nat) (inl : Bool) (cod : List fx_I) (pc kd a b c : Nat) (tl : List fx_I) (loc : fx_L) (stk : List fx_V) (F : fx_L) (J : ai_J) (n : Nat) (ctx : List Nat) (k : ai_K) : Bool :=
  fx_if (Nat.blt kd 4) (ai_ga E go cod pc kd a b c tl loc stk F J n) (fx_if (Nat.blt kd 8) (ai_gb E go cod pc kd a b tl loc stk F J n) (fx_if (Nat.blt kd 12) (ai_gc E ih go d pc kd a b c tl loc stk F J n k) (fx_if (Nat.blt kd 16) (ai_gd E go pc kd a b c tl loc stk F J n) (ai_ge E ih go inl cod d pc kd a b c tl loc stk F J n ctx k))))
noncomputable def ai_step (E : ai_E) (ih : ai_G) : ai_G := fun d inl cod at_ loc stk F J n ctx k => match at_ with
  | [] => false
  | (pc, kd, a, b, c) :: tl => ai_one E ih (fun t loc stk F J n => ih d inl cod t loc stk F J n ctx k) d inl cod pc kd a b c tl loc stk F J n ctx k
noncomputable def ai_go (E : ai_E) (n : Nat) : ai_G := Nat.rec (motive := fun _ => ai_G) (fun _ _ _ _ _ _ _ _ _ _ _ => false) (fun _ ih => ai_step E ih) n
/-- the code with its cuts -/
noncomputable def ai_aug (cs : List (Nat × Nat)) (cod : List fx_I) : List fx_I := List.rec (motive := fun _ => List fx_I) [] (fun q _ ih => match fx_look cs q.1 with
  | some b => (q.1, 28, 0, b, 0) :: q :: ih
  | none => q :: ih) cod
noncomputable def ai_begin (l : List ai_S) : Nat → ai_J → (List fx_V → ai_J → Nat → Bool) → Bool := List.rec (motive := fun _ => Nat → ai_J → (List fx_V → ai_J → Nat → Bool) → Bool) (fun n J k => k [] J n) (fun s _ ih n J k => match s with
    | .inl (lo, hi) => ai_var J n lo hi 0 0 (fun v J n => ih n J (fun vs J n => k (v :: vs) J n))
    | .inr v => ih n J (fun vs J n => k (v :: vs) J n)) l
noncomputable def ai_end (T : ai_T) (I : ai_I) : ai_K := fun v F J _ => (match I.2.1.1, v with
  | none, none => true
  | some s, some v => ai_fit J v s
  | _, _ => false) && fx_all I.2.1.2 (fun q => ai_has T F J q.1 q.2)
/-- a case holds: method c, its cuts, its contract -/
noncomputable def ai_inst (E : ai_E) (f c : Nat) (cs : List (Nat × Nat)) (I : ai_I) : Bool := match fx_mt c with
  | none => false
  | some M => ai_begin I.1.1 0 [] (fun vs J n => ai_tell I.1.2 [] J n (fun F J n => ai_go E f I.2.2.2 false (ai_aug cs M.1) (ai_aug cs M.1) (fx_args vs 0) [] F J n [] (ai_end E.1 I)))
