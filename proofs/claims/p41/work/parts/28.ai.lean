/-! an analysis over intervals: ints are constants or numbered ones (their numbers stand in a list), the heap is a table of what its places may hold, and what is known of some places now -/
abbrev ai_J : Type := List (Nat × (Nat × (Nat × (Nat × Nat))))
abbrev ai_F : Type := Nat ⊕ ((Nat × Nat) ⊕ List (Option Nat))
abbrev ai_C : Type := (Nat × List ai_F) ⊕ (Nat × (Nat × List (Nat × Nat)))
abbrev ai_T : Type := List (List ai_C)
/-- an interval (biased), or this value (a long: 0 any, 1 none of ai_WL, c + 2 the number c) -/
abbrev ai_S : Type := (Nat × Nat) ⊕ fx_V
abbrev ai_R : Type := List (Nat × (ai_S × (Nat × Nat)))
/-- a loop's head: what falls (0 a slot, 1 a place; which; 0 upwards, 1 downwards), locals, places -/
abbrev ai_A : Type := (Nat × (Nat × Nat)) × (ai_R × ai_R)
abbrev ai_M : Type := List Nat × List Nat
/-- a contract: values, places ahead; answer, places behind; what it writes; how deep -/
abbrev ai_I : Type := (List ai_S × List (Nat × ai_S)) × ((Option ai_S × List (Nat × ai_S)) × (ai_M × Nat))
/-- table, contracts by method, inlined ones, what may be written, what the code itself (without its calls) may write, heads by pc -/
abbrev ai_E : Type := ai_T × ((Nat → List ai_I) × ((Nat → Bool) × (ai_M × (ai_M × (Nat → List ai_A)))))
abbrev ai_K : Type := Option fx_V → fx_L → ai_J → Nat → Bool
abbrev ai_O : Type := List fx_I → fx_L → List fx_V → fx_L → ai_J → Nat → Bool
abbrev ai_G : Type := Nat → Bool → List fx_I → List fx_I → fx_L → List fx_V → fx_L → ai_J → Nat → List Nat → ai_K → Bool
noncomputable def ai_cell (T : ai_T) (k : Nat) : Option ai_C := match fx_nth T (Nat.div k 16) with
  | none => none
  | some r => fx_nth r (Nat.mod k 16)
noncomputable def ai_max (a b : Nat) : Nat := fx_if (Nat.ble a b) b a
noncomputable def ai_min (a b : Nat) : Nat := fx_if (Nat.ble a b) a b
/-- the interval of a value -/
noncomputable def ai_rng (J : ai_J) (v : fx_V) (k : Nat → Nat → Bool) : Bool := match v with
  | .inl n => fx_num (fx_b n) (fun x => k x x)
  | .inr (.inl i) => (match fx_look J i with
    | some (lo, hi, s, o) => fx_if (Nat.beq o 0) (k lo hi) (match fx_look J s with
      | some (l2, h2, _, _) => fx_num (ai_max lo (l2 + o - 2147483648)) (fun a => fx_num (ai_min hi (h2 + o - 2147483648)) (fun b => k a b))
      | none => k lo hi)
    | none => k 0 4294967295)
  | _ => false
/-- a new number in an interval -/
noncomputable def ai_var (J : ai_J) (n lo hi s o : Nat) (k : fx_V → ai_J → Nat → Bool) : Bool := fx_num lo (fun lo => fx_num hi (fun hi => fx_num s (fun s => fx_num o (fun o => fx_num (n + 1) (fun m => k (fv n) ((n, lo, hi, s, o) :: J) m)))))
noncomputable def ai_new (J : ai_J) (n lo hi s o : Nat) (k : fx_V → ai_J → Nat → Bool) : Bool := fx_if (Nat.beq lo hi && Nat.beq o 0) (fx_num (fx_b lo) (fun x => k (fc x) J n)) (ai_var J n lo hi s o k)
noncomputable def ai_ref1 (J : ai_J) (i lo hi : Nat) (k : ai_J → Bool) : Bool := match fx_look J i with
  | some (l0, h0, s, o) => fx_num (ai_max l0 lo) (fun lo => fx_num (ai_min h0 hi) (fun hi => fx_if (Nat.ble lo hi) (k ((i, lo, hi, s, o) :: J)) true))
  | none => k J
/-- a value is within lo .. hi -/
noncomputable def ai_ref (J : ai_J) (v : fx_V) (lo hi : Nat) (k : ai_J → Bool) : Bool := match v with
  | .inl n => fx_if (Nat.ble lo (fx_b n) && Nat.ble (fx_b n) hi) (k J) true
  | .inr (.inl i) => (match fx_look J i with
    | some (l0, h0, s, o) => fx_num (ai_max l0 lo) (fun lo => fx_num (ai_min h0 hi) (fun hi => fx_if (Nat.ble lo hi) (fx_if (Nat.beq o 0) (k ((i, lo, hi, s, o) :: J)) (ai_ref1 ((i, lo, hi, s, o) :: J) s (lo + 2147483648 - o) (hi + 2147483648 - o) k)) true))
    | none => k J)
  | _ => k J
noncomputable def ai_neg (o : Nat) : Nat := fx_if (Nat.beq o 0) 1 (fx_if (Nat.beq o 1) 0 (fx_if (Nat.beq o 2) 3 (fx_if (Nat.beq o 3) 2 (fx_if (Nat.beq o 4) 5 4))))
/-- the truth of x q y, x in a .. b, y in c .. d: then k -/
noncomputable def ai_tr (q : Nat) (J : ai_J) (x y : fx_V) (a b c d : Nat) (k : ai_J → Bool) : Bool :=
  fx_if (Nat.beq q 0) (ai_ref J x c d (fun J => ai_ref J y a b k))
  (fx_if (Nat.beq q 1) (fx_if (Nat.beq c d) (fx_if (Nat.ble (b - a) 2 && (Nat.blt a c && Nat.blt c b)) (k J) ((Nat.beq c 0 || ai_ref J x a (c - 1) k) && ai_ref J x (c + 1) b k)) (fx_if (Nat.beq a b) ((Nat.beq a 0 || ai_ref J y c (a - 1) k) && ai_ref J y (a + 1) d k) (k J)))
  (fx_if (Nat.beq q 2) (Nat.beq d 0 || ai_ref J x 0 (d - 1) (fun J => ai_ref J y (a + 1) 4294967295 k))
  (fx_if (Nat.beq q 3) (ai_ref J x c 4294967295 (fun J => ai_ref J y 0 b k))
  (fx_if (Nat.beq q 4) (Nat.beq b 0 || ai_ref J x (c + 1) 4294967295 (fun J => ai_ref J y 0 (b - 1) k))
    (ai_ref J x 0 d (fun J => ai_ref J y a 4294967295 k))))))
noncomputable def ai_cmp (o : Nat) (J : ai_J) (x y : fx_V) (k : Bool → ai_J → Bool) : Bool := ai_rng J x (fun a b => ai_rng J y (fun c d => ai_tr o J x y a b c d (k true) && ai_tr (ai_neg o) J x y a b c d (k false)))
noncomputable def ai_src (v : fx_V) : Nat := match v with
  | .inr (.inl i) => i
  | _ => 0
noncomputable def ai_isv (v : fx_V) : Bool := match v with
  | .inr (.inl _) => true
  | _ => false
noncomputable def ai_mask (m : Nat) : Nat := fx_if (Nat.blt m 128) 127 (fx_if (Nat.blt m 1024) 1023 2147483647)
noncomputable def ai_add (J : ai_J) (n : Nat) (x y : fx_V) (a b c d : Nat) (k : fx_V → ai_J → Nat → Bool) : Bool := fx_if (Nat.ble 2147483648 (a + c) && Nat.blt (b + d) 6442450944) (ai_new J n (a + c - 2147483648) (b + d - 2147483648) (fx_if (ai_isv x && Nat.beq c d) (ai_src x) (fx_if (ai_isv y && Nat.beq a b) (ai_src y) 0)) (fx_if (ai_isv x && Nat.beq c d) c (fx_if (ai_isv y && Nat.beq a b) a 0)) k) (ai_new J n 0 4294967295 0 0 k)
noncomputable def ai_sub (J : ai_J) (n : Nat) (x : fx_V) (a b c d : Nat) (k : fx_V → ai_J → Nat → Bool) : Bool := fx_if (Nat.ble d (a + 2147483648) && Nat.blt (b + 2147483648) (c + 4294967296)) (ai_new J n (a + 2147483648 - d) (b + 2147483648 - c) (fx_if (ai_isv x && Nat.beq c d) (ai_src x) 0) (fx_if (ai_isv x && Nat.beq c d) (4294967296 - c) 0) k) (ai_new J n 0 4294967295 0 0 k)
/-- both not below 0 -/
noncomputable def ai_pos (J : ai_J) (n o a b c d : Nat) (k : fx_V → ai_J → Nat → Bool) : Bool :=
  fx_if (Nat.beq o 2) (fx_if (Nat.blt ((b - 2147483648) * (d - 2147483648)) 2147483648) (ai_new J n ((a - 2147483648) * (c - 2147483648) + 2147483648) ((b - 2147483648) * (d - 2147483648) + 2147483648) 0 0 k) (ai_new J n 0 4294967295 0 0 k))
  (fx_if (Nat.beq o 3) (ai_new J n ((a - 2147483648) / (d - 2147483648) + 2147483648) ((b - 2147483648) / (c - 2147483648) + 2147483648) 0 0 k)
  (fx_if (Nat.beq o 4) (ai_new J n 2147483648 (ai_min b (d - 1)) 0 0 k)
  (fx_if (Nat.beq o 5) (ai_new J n 2147483648 (ai_min b d) 0 0 k)
  (fx_if (Nat.beq o 6 || Nat.beq o 7) (ai_new J n 2147483648 (ai_mask (ai_max (b - 2147483648) (d - 2147483648)) + 2147483648) 0 0 k)
  (fx_if (Nat.beq o 8) (fx_if (Nat.blt d 2147483680 && Nat.blt (Nat.shiftLeft (b - 2147483648) (d - 2147483648)) 2147483648) (ai_new J n (Nat.shiftLeft (a - 2147483648) (c - 2147483648) + 2147483648) (Nat.shiftLeft (b - 2147483648) (d - 2147483648) + 2147483648) 0 0 k) (ai_new J n 0 4294967295 0 0 k))
    (fx_if (Nat.blt d 2147483680) (ai_new J n (Nat.shiftRight (a - 2147483648) (d - 2147483648) + 2147483648) (Nat.shiftRight (b - 2147483648) (c - 2147483648) + 2147483648) 0 0 k) (ai_new J n 0 4294967295 0 0 k)))))))
/-- one of them may be below 0 -/
noncomputable def ai_any (J : ai_J) (n o a b c d : Nat) (k : fx_V → ai_J → Nat → Bool) : Bool :=
  fx_if (Nat.beq o 5) (fx_if (Nat.ble 2147483648 a) (ai_new J n 2147483648 b 0 0 k) (fx_if (Nat.ble 2147483648 c) (ai_new J n 2147483648 d 0 0 k) (ai_new J n 0 4294967295 0 0 k)))
  (fx_if (Nat.beq o 10 && (Nat.beq c d && (Nat.blt 2147483648 c && Nat.blt c 2147483680))) (ai_new J n 2147483648 (Nat.shiftRight 4294967295 (c - 2147483648) + 2147483648) 0 0 k) (ai_new J n 0 4294967295 0 0 k))
noncomputable def ai_bin (o : Nat) (J : ai_J) (n : Nat) (x y : fx_V) (k : fx_V → ai_J → Nat → Bool) : Bool := ai_rng J x (fun a b => ai_rng J y (fun c d =>
  fx_if (Nat.beq o 0) (ai_add J n x y a b c d k) (fx_if (Nat.beq o 1) (ai_sub J n x a b c d k)
  ((!(Nat.beq o 3 || Nat.beq o 4) || (Nat.blt 2147483648 c || Nat.blt d 2147483648)) && fx_if (Nat.ble 2147483648 a && Nat.ble 2147483648 c) (ai_pos J n o a b c d k) (ai_any J n o a b c d k)))))
noncomputable def ai_un (o : Nat) (J : ai_J) (n : Nat) (x : fx_V) (k : fx_V → ai_J → Nat → Bool) : Bool := ai_rng J x (fun a b =>
  fx_if (Nat.beq o 0) (fx_if (Nat.beq a 0) (ai_new J n 0 4294967295 0 0 k) (ai_new J n (4294967296 - b) (4294967296 - a) 0 0 k))
  (fx_if (Nat.beq o 1) (fx_if (Nat.ble 2147483520 a && Nat.ble b 2147483775) (k x J n) (ai_new J n 2147483520 2147483775 0 0 k))
  (fx_if (Nat.beq o 2) (fx_if (Nat.ble 2147483648 a && Nat.ble b 2147549183) (k x J n) (ai_new J n 2147483648 2147549183 0 0 k)) (k (fl 0) J n))))
noncomputable def ai_math (o : Nat) (J : ai_J) (n a b c d : Nat) (k : fx_V → ai_J → Nat → Bool) : Bool := fx_if (Nat.beq o 0) (ai_new J n (ai_max a c) (ai_max b d) 0 0 k) (ai_new J n (ai_min a c) (ai_min b d) 0 0 k)
noncomputable def ai_abs (J : ai_J) (n : Nat) (x : fx_V) (k : fx_V → ai_J → Nat → Bool) : Bool := ai_rng J x (fun a b => fx_if (Nat.ble 2147483648 a) (k x J n) (fx_if (Nat.beq a 0) (ai_new J n 0 4294967295 0 0 k) (ai_new J n 2147483648 (ai_max (4294967296 - a) b) 0 0 k)))
/-- does a value keep to a spec -/
noncomputable def ai_fit (J : ai_J) (v : fx_V) (s : ai_S) : Bool := match s with
  | .inl (lo, hi) => ai_rng J v (fun a b => Nat.ble lo a && Nat.ble b hi)
  | .inr (.inr (.inr (.inr m))) => (match v with
    | .inr (.inr (.inr k)) => Nat.beq m 0 || Nat.beq k m
    | _ => false)
  | .inr (.inr (.inl _)) => false
  | .inr w => fx_veq v w
noncomputable def ai_mem (l : List Nat) (x : Nat) : Bool := List.rec (motive := fun _ => Bool) false (fun a _ ih => Nat.beq a x || ih) l
/-- what the table says of a place -/
noncomputable def ai_tab (T : ai_T) (p : Nat) : Option ai_F := match ai_cell T (Nat.div p 4096) with
  | some (.inl (_, fs)) => fx_nth fs (Nat.mod p 4096)
  | some (.inr (ty, len, L)) => fx_if (Nat.blt (Nat.mod p 4096) len) (fx_if (Nat.beq ty 3) (some (.inl 0)) (match fx_nth L (Nat.mod (Nat.mod p 4096) L.length) with
    | some q => some (.inr (.inl q))
    | none => none)) none
  | none => none
/-- does what is known of a place keep to a spec -/
noncomputable def ai_has (T : ai_T) (F : fx_L) (J : ai_J) (p : Nat) (s : ai_S) : Bool := match fx_look F p with
  | some v => ai_fit J v s
  | none => (match ai_tab T p with
    | some (.inr (.inl (a, b))) => (match s with
      | .inl (lo, hi) => Nat.ble lo a && Nat.ble b hi
      | _ => false)
    | _ => false)
noncomputable def ai_fits (J : ai_J) (vs : List fx_V) : List ai_S → Bool := List.rec (motive := fun _ => List ai_S → Bool) (fun ss => match ss with
    | [] => true
    | _ => false) (fun v _ ih ss => match ss with
    | [] => false
    | s :: ss => ai_fit J v s && ih ss) vs
/-- what stays known behind writes -/
noncomputable def ai_keep (m : ai_M) (F : fx_L) (k : fx_L → Bool) : Bool := List.rec (motive := fun _ => (fx_L → Bool) → Bool) (fun k => k []) (fun q _ ih k => ih (fun t => fx_if (ai_mem m.1 q.1 || ai_mem m.2 (Nat.div q.1 4096)) (k t) (k (q :: t)))) F k
/-- places that a contract tells -/
noncomputable def ai_tell (l : List (Nat × ai_S)) : fx_L → ai_J → Nat → (fx_L → ai_J → Nat → Bool) → Bool := List.rec (motive := fun _ => fx_L → ai_J → Nat → (fx_L → ai_J → Nat → Bool) → Bool) (fun F J n k => k F J n) (fun q _ ih F J n k => match q.2 with
    | .inl (lo, hi) => ai_var J n lo hi 0 0 (fun v J n => ih ((q.1, v) :: F) J n k)
    | .inr v => ih ((q.1, v) :: F) J n k) l
noncomputable def ai_ans (r : Option ai_S) (J : ai_J) (n : Nat) (k : Option fx_V → ai_J → Nat → Bool) : Bool := match r with
  | none => k none J n
  | some (.inl (lo, hi)) => ai_new J n lo hi 0 0 (fun v J n => k (some v) J n)
  | some (.inr v) => k (some v) J n
noncomputable def ai_join (L : List (Nat × Nat)) (i : Nat) (n : Nat) : Option (Nat × Nat) := Nat.rec (motive := fun _ => Option (Nat × Nat)) (fx_nth L (Nat.mod i L.length)) (fun m ih => match ih with
    | none => none
    | some (lo, hi) => match fx_nth L (Nat.mod (i + (m + 1)) L.length) with
      | none => none
      | some (a, b) => some (ai_min lo a, ai_max hi b)) n
noncomputable def ai_span (L : List (Nat × Nat)) (c d : Nat) : Option (Nat × Nat) := fx_if (Nat.beq L.length 1) (fx_nth L 0) (fx_if (Nat.ble (d - c) L.length) (ai_join L c (d - c)) (ai_join L 0 L.length))
/-- may values of a .. b be put at c .. d -/
noncomputable def ai_into (L : List (Nat × Nat)) (c d a b : Nat) : Bool := fx_if (Nat.beq L.length 1) (match fx_nth L 0 with
    | some (lo, hi) => Nat.ble lo a && Nat.ble b hi
    | none => false) (Nat.ble (d - c) 2000 && Nat.rec (motive := fun _ => Bool) true (fun m ih => (match fx_nth L (Nat.mod (c + m) L.length) with
    | some (lo, hi) => Nat.ble lo a && Nat.ble b hi
    | none => false) && ih) (d - c + 1))
noncomputable def ai_out (r : Nat) (F : fx_L) (k : fx_L → Bool) : Bool := List.rec (motive := fun _ => (fx_L → Bool) → Bool) (fun k => k []) (fun q _ ih k => ih (fun t => fx_if (Nat.beq (Nat.div q.1 4096) r) (k t) (k (q :: t)))) F k
/-- x is so much above the number b (biased): through the numbers that were made of others -/
noncomputable def ai_ch (J : ai_J) (b : Nat) (f : Nat) : Nat → Option Nat := Nat.rec (motive := fun _ => Nat → Option Nat) (fun _ => none) (fun _ ih i => fx_if (Nat.beq i b) (some 2147483648) (match fx_look J i with
    | some (_, _, s, o) => fx_if (Nat.beq o 0) none (match ih s with
      | some t => fx_if (Nat.ble 2147483648 (o + t)) (some (o + t - 2147483648)) none
      | none => none)
    | none => none)) f
noncomputable def ai_rel (J : ai_J) (v : fx_V) (r : Nat × Nat) : Bool := fx_if (Nat.beq r.2 0) true (match v with
  | .inr (.inl i) => (match ai_ch J r.1 6 i with
    | some t => Nat.beq t r.2
    | none => false)
  | _ => false)
/-- the words that begin lines -/
def ai_WL : List Nat := [1751215212, 7235441220320322420, 120282394289522, 1819242347, 465624852596, 500085781608, 1685217655]
noncomputable def ai_lcmp (x y : Nat) : Option Nat := fx_if (Nat.beq x y) (some 0) (fx_if (Nat.blt x y) (some 4294967295) (some 1))
