/-! rules at places of a code, for proofs by hand -/
noncomputable def ru_e (cod : List fx_I) (pc : Nat) : Option (Nat × (Nat × (Nat × (Nat × Nat)))) := match fx_to cod pc with
  | (_, kd, a, b, c) :: r :: _ => some (kd, a, b, c, r.1)
  | [(_, kd, a, b, c)] => some (kd, a, b, c, 0)
  | [] => none
/-- no two entries at one place -/
def ru_u : List fx_I → Bool
  | [] => true
  | q :: t => (t.all (fun r => !(r.1 == q.1))) && ru_u t
theorem ru_to_suf {cod : List fx_I} {pc : Nat} : ∀ {tl : List fx_I} {e : fx_I}, fx_to cod pc = e :: tl → ∃ pre, cod = pre ++ e :: tl ∧ ∀ q ∈ pre, q.1 ≠ pc := by
  induction cod with
  | nil => intro tl e h; cases h
  | cons x cod ih =>
    intro tl e h
    have h : fx_if (Nat.beq x.1 pc) (x :: cod) (fx_to cod pc) = e :: tl := h
    cases hc : Nat.beq x.1 pc with
    | true =>
      rw [hc, fx_if_t] at h
      exact ⟨[], h, fun q hq => by cases hq⟩
    | false =>
      rw [hc, fx_if_f] at h
      obtain ⟨pre, h1, h2⟩ := ih h
      refine ⟨x :: pre, by rw [h1]; rfl, fun q hq => ?_⟩
      rcases List.mem_cons.mp hq with rfl | hq
      · exact fx_bnq hc
      · exact h2 q hq
theorem ru_u_to : ∀ {pre : List fx_I} {r : fx_I} {t : List fx_I}, ru_u (pre ++ r :: t) = true → fx_to (pre ++ r :: t) r.1 = r :: t := by
  intro pre
  induction pre with
  | nil =>
    intro r t _
    show fx_if (Nat.beq r.1 r.1) (r :: t) (fx_to t r.1) = r :: t
    rw [Nat.beq_refl, fx_if_t]
  | cons x pre ih =>
    intro r t h
    obtain ⟨h1, h2⟩ := fx_and (a := (pre ++ r :: t).all (fun r => !(r.1 == x.1))) h
    have h3 := List.all_eq_true.mp h1 r (List.mem_append_right _ List.mem_cons_self)
    have h4 : x.1 ≠ r.1 := fun e => by
      rw [e] at h3
      simp at h3
    show fx_if (Nat.beq x.1 r.1) (x :: (pre ++ r :: t)) (fx_to (pre ++ r :: t) r.1) = r :: t
    cases hb : Nat.beq x.1 r.1 with
    | true => exact absurd (fx_beq hb) h4
    | false => rw [fx_if_f]; exact ih h2
/-- what comes behind an entry -/
def ru_t (cod : List fx_I) (nx : Nat) (tl : List fx_I) : Prop := (tl = [] ∧ nx = 0) ∨ (tl = fx_to cod nx ∧ ∃ r t, tl = r :: t ∧ r.1 = nx)
/-- the entry at a place, and what comes behind it -/
theorem ru_in {cod : List fx_I} {pc kd a b c nx : Nat} (hu : ru_u cod = true) (he : ru_e cod pc = some (kd, a, b, c, nx)) : ∃ tl, fx_to cod pc = (pc, kd, a, b, c) :: tl ∧ ru_t cod nx tl := by
  unfold ru_e at he
  cases hl : fx_to cod pc with
  | nil => rw [hl] at he; cases he
  | cons e tl =>
    obtain ⟨h1, h2⟩ := fx_to_ok hl
    obtain ⟨p, kd', a', b', c'⟩ := e
    have h1 : p = pc := h1
    subst h1
    rw [hl] at he
    cases tl with
    | nil =>
      cases he
      exact ⟨[], rfl, Or.inl ⟨rfl, rfl⟩⟩
    | cons r t =>
      cases he
      refine ⟨r :: t, rfl, Or.inr ⟨?_, r, t, rfl, rfl⟩⟩
      obtain ⟨pre, e1, -⟩ := ru_to_suf hl
      have e2 : cod = (pre ++ [(p, kd, a, b, c)]) ++ r :: t := by rw [e1]; simp
      rw [e2] at hu ⊢
      exact (ru_u_to hu).symm
def ru (l : Launch) (X : fx_X) (Y : fx_Y) (B : fx_B) (d : Nat) (cod : List fx_I) (pc : Nat) (loc : fx_L) (stk : List fx_V) (h : fx_H) (K : rx_K) : Prop := rx_run l X Y B d cod (fx_to cod pc) loc stk h K
noncomputable def rop (o x y : Nat) : Nat := rx_n (fx_op o (Int32.ofNat x) (Int32.ofNat y))
theorem rop_lt (o x y : Nat) : rop o x y < 4294967296 := rx_n_lt _
theorem rop_of {o x y m : Nat} (h : fx_op o (Int32.ofNat x) (Int32.ofNat y) = Int32.ofNat m) (hm : m < 4294967296) : rop o x y = m := by
  unfold rop rx_n
  rw [h, fx_z_of, ai_b_b hm]
theorem rop_add {x y : Nat} (h : x + y < 4294967296) : rop 0 x y = x + y := rop_of (by
  show Int32.ofNat x + Int32.ofNat y = _
  rw [← fx_o_add]
  exact fx_o_mod (x + y)) h
theorem rop_sub {x y : Nat} (h : y ≤ x) (hx : x < 4294967296) : rop 1 x y = x - y := rop_of (by
  show Int32.ofNat x - Int32.ofNat y = _
  rw [← fx_o_sub, fx_o_mod, ← fx_o_mod (x - y), ← fx_o_mod (x + (4294967296 - y % 4294967296))]
  congr 1
  omega) (by omega)
theorem rop_mul {x y : Nat} (h : x * y < 4294967296) : rop 2 x y = x * y := rop_of (by
  show Int32.ofNat x * Int32.ofNat y = _
  rw [← fx_o_mul]
  exact fx_o_mod (x * y)) h
theorem rop_and {x y : Nat} (h : x < 4294967296) : rop 5 x y = Nat.land x y := rop_of (by
  show Int32.ofNat x &&& Int32.ofNat y = _
  rw [fx_o_and]) (Nat.lt_of_le_of_lt Nat.and_le_left h)
theorem rop_rem {x y : Nat} (hx : x < 2147483648) (hy : y < 2147483648) : rop 4 x y = x % y := rop_of (by
  show Int32.ofNat x - Int32.ofNat x / Int32.ofNat y * Int32.ofNat y = _
  rw [fx_o_rem hx hy]) (by have := Nat.mod_le x y; omega)
/-- small numbers are compared as they are -/
theorem rb_small {x : Nat} (h : x < 2147483648) : fx_b x = x + 2147483648 := by
  show (x + 2147483648) % 4294967296 = _
  omega
section RU
variable {l : Launch} {X : fx_X} {Y : fx_Y} {B : fx_B} {d : Nat} {cod : List fx_I} {K : rx_K} {loc : fx_L} {stk : List fx_V} {h : fx_H} {pc a b c nx : Nat}
theorem ru_nx {len : Nat} {tl : List fx_I} (ht : ru_t cod nx tl) (hl : nx = pc + (len + 1)) (k : ru l X Y B d cod nx loc stk h K) : rx_nx l X Y B d cod K pc (len + 1) tl loc stk h := by
  rcases ht with ⟨-, h0⟩ | ⟨h1, r, t, h2, h3⟩
  · omega
  · have k : rx_run l X Y B d cod (fx_to cod nx) loc stk h K := k
    rw [← h1] at k
    show fx_nx (fun t => rx_go l X Y B d cod K t loc stk 0 0 h []) pc (len + 1) tl = true
    rw [h2] at k ⊢
    show (Nat.beq r.1 (pc + (len + 1)) && rx_go l X Y B d cod K (r :: t) loc stk 0 0 h []) = true
    rw [h3, hl, Nat.beq_refl, Bool.true_and]
    exact rx_go_iff.mpr ⟨by simp, k⟩
theorem ru_jmp {t : Nat} (hne : fx_to cod t ≠ []) (k : ru l X Y B d cod t loc stk h K) : rx_go l X Y B d cod K (fx_to cod t) loc stk 0 0 h [] = true := rx_go_iff.mpr ⟨hne, k⟩
/-- the executor's own step, with what comes behind -/
theorem ru_step {kd : Nat} (he : ai_env X B) (hu : ru_u cod = true) (hat : ru_e cod pc = some (kd, a, b, c, nx)) (k : ∀ tl, ru_t cod nx tl → fx_one rx_E rx_ih (rx_go l X Y B d cod K) d cod pc kd a b c tl loc stk 0 0 0 0 h [] (fun v h' _ => rx_b (K v h')) = true) : ru l X Y B d cod pc loc stk h K := by
  obtain ⟨tl, h1, h2⟩ := ru_in hu hat
  show rx_run l X Y B d cod (fx_to cod pc) loc stk h K
  rw [h1]
  exact rx_one he.1 he.2.1 he.2.2.1 (k tl h2)
theorem ru_raw {kd : Nat} (hu : ru_u cod = true) (hat : ru_e cod pc = some (kd, a, b, c, nx)) (k : ∀ tl, ru_t cod nx tl → rx_run l X Y B d cod ((pc, kd, a, b, c) :: tl) loc stk h K) : ru l X Y B d cod pc loc stk h K := by
  obtain ⟨tl, h1, h2⟩ := ru_in hu hat
  show rx_run l X Y B d cod (fx_to cod pc) loc stk h K
  rw [h1]
  exact k tl h2
def ru_pl (v : fx_V) : Bool := match v with
  | .inr (.inl _) => false
  | _ => true
theorem ru_nz {v : fx_V} (hv : ru_pl v = true) (k : fx_V → Bool) : fx_nz [] v k = k v := by
  rcases v with n | i | o | n
  · rfl
  · cases hv
  · cases o <;> rfl
  · rfl
theorem w_ld {v : fx_V} (he : ai_env X B) (hu : ru_u cod = true) (hat : ru_e cod pc = some (0, a, b, c, nx)) (hl : nx = pc + (b % 2 + 1)) (hv : fx_look loc a = some v) (hf : (fx_form b v && Nat.blt b 6) = true) (hz : ru_pl v = true) (k : ru l X Y B d cod nx loc (v :: stk) h K) : ru l X Y B d cod pc loc stk h K := ru_step he hu hat (fun tl ht => by
  show fx_k0 (rx_go l X Y B d cod K) pc a b tl loc stk 0 0 h [] = true
  unfold fx_k0
  rw [hv]
  simp only
  rw [hf, Bool.true_and, ru_nz hz]
  exact ru_nx ht hl k)
noncomputable def ru_sto (loc : fx_L) (a : Nat) (v : fx_V) : fx_L := (a, v) :: loc.filter (fun q => !(Nat.beq q.1 a || (Nat.beq (q.1 + 1) a && Nat.beq (fx_cat q.2) 2)))
theorem ru_store {v : fx_V} (hc : fx_cat v = 1) (k : fx_L → Bool) : fx_store loc a v k = k (ru_sto loc a v) := by
  rcases v with n | i | o | n
  · exact fx_drop_eq a loc (fun t => k ((a, fc n) :: t))
  · exact fx_drop_eq a loc (fun t => k ((a, fv i) :: t))
  · exact fx_drop_eq a loc (fun t => k ((a, .inr (.inr (.inl o))) :: t))
  · cases hc
theorem w_st {v : fx_V} (he : ai_env X B) (hu : ru_u cod = true) (hat : ru_e cod pc = some (11, a, b, c, nx)) (hl : nx = pc + (b % 2 + 1)) (hf : (fx_form b v && Nat.blt b 6) = true) (hc : fx_cat v = 1) (k : ru l X Y B d cod nx (ru_sto loc a v) stk h K) : ru l X Y B d cod pc loc (v :: stk) h K := ru_step he hu hat (fun tl ht => by
  show ((fx_form b v && Nat.blt b 6) && fx_store loc a v (fun loc => fx_nx (fun t => rx_go l X Y B d cod K t loc stk 0 0 h []) pc (fx_odd b) tl)) = true
  rw [hf, Bool.true_and, ru_store hc]
  exact ru_nx ht hl k)
theorem w_c (he : ai_env X B) (hu : ru_u cod = true) (hat : ru_e cod pc = some (2, a, b, c, nx)) (ha : Nat.blt a 5 = true) {len : Nat} (hlen : fx_clen a = len + 1) (hl : nx = pc + (len + 1)) (k : ru l X Y B d cod nx loc (fc c :: stk) h K) : ru l X Y B d cod pc loc stk h K := ru_step he hu hat (fun tl ht => by
  show (Nat.blt a 8 && fx_nx (fun t => rx_go l X Y B d cod K t loc (fx_cst a c :: stk) 0 0 h []) pc (fx_clen a) tl) = true
  have h5 := fx_blt ha
  rw [show Nat.blt a 8 = true from rx_ble (by omega), Bool.true_and, hlen]
  have e : fx_cst a c = fc c := by
    unfold fx_cst
    rw [ha, fx_if_t]
  rw [e]
  exact ru_nx ht hl k)
theorem w_cmp {x y : Nat} (he : ai_env X B) (hu : ru_u cod = true) (hat : ru_e cod pc = some (3, a, b, c, nx)) (hl : nx = pc + (2 + 1)) (ha : Nat.blt a 6 = true) (hne : fx_to cod b ≠ []) (k1 : fx_con a (fx_b x) (fx_b y) = true → ru l X Y B d cod b loc stk h K) (k2 : fx_con a (fx_b x) (fx_b y) = false → ru l X Y B d cod nx loc stk h K) : ru l X Y B d cod pc loc (fc y :: fc x :: stk) h K := ru_step he hu hat (fun tl ht => by
  show (Nat.blt a 6 && fx_if (fx_con a (fx_b x) (fx_b y)) (rx_go l X Y B d cod K (fx_to cod b) loc stk 0 0 h []) (fx_nx (fun t => rx_go l X Y B d cod K t loc stk 0 0 h []) pc 3 tl)) = true
  rw [ha, Bool.true_and]
  cases hq : fx_con a (fx_b x) (fx_b y) with
  | true => rw [fx_if_t]; exact ru_jmp hne (k1 hq)
  | false => rw [fx_if_f]; exact ru_nx ht hl (k2 hq))
theorem w_cmp0 {x : Nat} (he : ai_env X B) (hu : ru_u cod = true) (hat : ru_e cod pc = some (4, a, b, c, nx)) (hl : nx = pc + (2 + 1)) (ha : Nat.blt a 6 = true) (hne : fx_to cod b ≠ []) (k1 : fx_con a (fx_b x) 2147483648 = true → ru l X Y B d cod b loc stk h K) (k2 : fx_con a (fx_b x) 2147483648 = false → ru l X Y B d cod nx loc stk h K) : ru l X Y B d cod pc loc (fc x :: stk) h K := ru_step he hu hat (fun tl ht => by
  show (Nat.blt a 6 && fx_if (fx_con a (fx_b x) 2147483648) (rx_go l X Y B d cod K (fx_to cod b) loc stk 0 0 h []) (fx_nx (fun t => rx_go l X Y B d cod K t loc stk 0 0 h []) pc 3 tl)) = true
  rw [ha, Bool.true_and]
  cases hq : fx_con a (fx_b x) 2147483648 with
  | true => rw [fx_if_t]; exact ru_jmp hne (k1 hq)
  | false => rw [fx_if_f]; exact ru_nx ht hl (k2 hq))
theorem w_go (he : ai_env X B) (hu : ru_u cod = true) (hat : ru_e cod pc = some (5, a, b, c, nx)) (hne : fx_to cod b ≠ []) (k : ru l X Y B d cod b loc stk h K) : ru l X Y B d cod pc loc stk h K := ru_step he hu hat (fun tl ht => ru_jmp hne k)
theorem w_bin {x y : Nat} (hu : ru_u cod = true) (hat : ru_e cod pc = some (12, a, b, c, nx)) (hl : nx = pc + (0 + 1)) (hne : a = 3 ∨ a = 4 → ¬ Int32.ofNat y = 0) (k : ru l X Y B d cod nx loc (fc (rop a x y) :: stk) h K) : ru l X Y B d cod pc loc (fc y :: fc x :: stk) h K := ru_raw hu hat (fun tl ht => rx_bin hne (ru_nx ht hl k))
theorem w_inc {x : Nat} (he : ai_env X B) (hu : ru_u cod = true) (hat : ru_e cod pc = some (7, a, b, c, nx)) (hl : nx = pc + (2 + 1)) (hv : fx_look loc a = some (fc x)) (k : ru l X Y B d cod nx (ru_sto loc a (fc (Nat.mod (Nat.add x b) 4294967296))) stk h K) : ru l X Y B d cod pc loc stk h K := ru_step he hu hat (fun tl ht => by
  show fx_k7 (rx_go l X Y B d cod K) pc a b tl loc stk 0 0 h [] = true
  unfold fx_k7
  rw [hv]
  show fx_val (fc (Nat.mod (Nat.add x b) 4294967296)) (fun w => fx_store loc a w (fun loc => fx_nx (fun t => rx_go l X Y B d cod K t loc stk 0 0 h []) pc 3 tl)) = true
  rw [fx_val_eq, ru_store rfl]
  exact ru_nx ht hl k)
theorem w_dup {v : fx_V} (he : ai_env X B) (hu : ru_u cod = true) (hat : ru_e cod pc = some (15, 0, b, c, nx)) (hl : nx = pc + (0 + 1)) (hc : fx_cat v = 1) (k : ru l X Y B d cod nx loc (v :: v :: stk) h K) : ru l X Y B d cod pc loc (v :: stk) h K := ru_step he hu hat (fun tl ht => by
  show (match fx_stk 0 (v :: stk) with
    | some stk => fx_nx (fun t => rx_go l X Y B d cod K t loc stk 0 0 h []) pc 1 tl
    | none => false) = true
  have e : fx_stk 0 (v :: stk) = some (v :: v :: stk) := by
    unfold fx_stk
    simp only [hc]
    rfl
  rw [e]
  exact ru_nx ht hl k)
theorem w_dup2 {v w : fx_V} (he : ai_env X B) (hu : ru_u cod = true) (hat : ru_e cod pc = some (15, 2, b, c, nx)) (hl : nx = pc + (0 + 1)) (hc : fx_cat v = 1) (hc2 : fx_cat w = 1) (k : ru l X Y B d cod nx loc (v :: w :: v :: w :: stk) h K) : ru l X Y B d cod pc loc (v :: w :: stk) h K := ru_step he hu hat (fun tl ht => by
  show (match fx_stk 2 (v :: w :: stk) with
    | some stk => fx_nx (fun t => rx_go l X Y B d cod K t loc stk 0 0 h []) pc 1 tl
    | none => false) = true
  have e : fx_stk 2 (v :: w :: stk) = some (v :: w :: v :: w :: stk) := by
    unfold fx_stk
    simp only [hc, hc2]
    rfl
  rw [e]
  exact ru_nx ht hl k)
theorem w_iret {x : Nat} (he : ai_env X B) (hu : ru_u cod = true) (hat : ru_e cod pc = some (10, 0, b, c, nx)) (hb : fx_rok b (fc x) = true) (k : K (some (fc x)) h) : ru l X Y B d cod pc loc [fc x] h K := ru_step he hu hat (fun tl _ => by
  show (fx_rok b (fc x) && rx_b (K (some (fc x)) h)) = true
  rw [hb, Bool.true_and]
  exact rx_b_iff.mpr k)
theorem w_vret (he : ai_env X B) (hu : ru_u cod = true) (hat : ru_e cod pc = some (10, 1, b, c, nx)) (k : K none h) : ru l X Y B d cod pc loc [] h K := ru_step he hu hat (fun tl _ => rx_b_iff.mpr k)
end RU
