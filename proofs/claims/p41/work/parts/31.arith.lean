theorem ai_con0 (x y : Nat) : fx_con 0 x y = Nat.beq x y := rfl
theorem ai_con1 (x y : Nat) : fx_con 1 x y = !Nat.beq x y := rfl
theorem ai_con2 (x y : Nat) : fx_con 2 x y = Nat.blt x y := rfl
theorem ai_con3 (x y : Nat) : fx_con 3 x y = Nat.ble y x := rfl
theorem ai_con4 (x y : Nat) : fx_con 4 x y = Nat.blt y x := rfl
theorem ai_con5 (x y : Nat) : fx_con 5 x y = Nat.ble x y := rfl
theorem ai_nb {x y : Nat} : Nat.ble (x + 1) y = !Nat.ble y x := by
  cases h : Nat.ble y x with
  | true =>
    have := fx_ble h
    cases h2 : Nat.ble (x + 1) y with
    | true => have := fx_ble h2; omega
    | false => rfl
  | false =>
    have := fx_nle h
    exact rx_ble (by omega)
theorem ai_con_neg {o : Nat} (ho : o < 6) (x y : Nat) : fx_con (ai_neg o) x y = !fx_con o x y := by
  rcases (by omega : o = 0 ∨ o = 1 ∨ o = 2 ∨ o = 3 ∨ o = 4 ∨ o = 5) with rfl | rfl | rfl | rfl | rfl | rfl
  · rfl
  · show Nat.beq x y = !(!Nat.beq x y)
    rw [Bool.not_not]
  · show Nat.ble y x = !Nat.ble (x + 1) y
    rw [ai_nb, Bool.not_not]
  · show Nat.ble (x + 1) y = !Nat.ble y x
    exact ai_nb
  · show Nat.ble x y = !Nat.ble (y + 1) x
    rw [ai_nb, Bool.not_not]
  · show Nat.ble (y + 1) x = !Nat.ble x y
    exact ai_nb
theorem ai_tr_ok {ρ : List Nat} {J : ai_J} {q n m a b c d : Nat} {x y : fx_V} {k : ai_J → Bool} (hq : q < 6) (hj : ai_j ρ J) (hx : ai_v ρ x (fc n)) (hy : ai_v ρ y (fc m)) (h1 : a ≤ fx_b n) (h2 : fx_b n ≤ b) (h3 : c ≤ fx_b m) (h4 : fx_b m ≤ d) (hc : fx_con q (fx_b n) (fx_b m) = true) (h : ai_tr q J x y a b c d k = true) : ∃ J', k J' = true ∧ ai_j ρ J' := by
  have bn := rx_b_lt n
  have bm := rx_b_lt m
  have two : ∀ {lo hi lo2 hi2 : Nat}, lo ≤ fx_b n → fx_b n ≤ hi → lo2 ≤ fx_b m → fx_b m ≤ hi2 → ai_ref J x lo hi (fun J => ai_ref J y lo2 hi2 k) = true → ∃ J', k J' = true ∧ ai_j ρ J' := fun e1 e2 e3 e4 e5 => by
    obtain ⟨J', e6, e7⟩ := ai_ref_ok hj hx e1 e2 e5
    exact ai_ref_ok e7 hy e3 e4 e6
  rcases (by omega : q = 0 ∨ q = 1 ∨ q = 2 ∨ q = 3 ∨ q = 4 ∨ q = 5) with rfl | rfl | rfl | rfl | rfl | rfl
  · rw [ai_con0] at hc
    have hc := fx_beq hc
    have h : ai_ref J x c d (fun J => ai_ref J y a b k) = true := h
    exact two (by omega) (by omega) (by omega) (by omega) h
  · rw [ai_con1] at hc
    have hne : fx_b n ≠ fx_b m := by
      cases hb : Nat.beq (fx_b n) (fx_b m) with
      | true => rw [hb] at hc; cases hc
      | false => exact fx_bnq hb
    have h : fx_if (Nat.beq c d) (fx_if (Nat.ble (b - a) 2 && (Nat.blt a c && Nat.blt c b)) (k J) ((Nat.beq c 0 || ai_ref J x a (c - 1) k) && ai_ref J x (c + 1) b k)) (fx_if (Nat.beq a b) ((Nat.beq a 0 || ai_ref J y c (a - 1) k) && ai_ref J y (a + 1) d k) (k J)) = true := h
    cases e1 : Nat.beq c d with
    | true =>
      rw [e1, fx_if_t] at h
      have e1 := fx_beq e1
      cases e2 : (Nat.ble (b - a) 2 && (Nat.blt a c && Nat.blt c b)) with
      | true => rw [e2, fx_if_t] at h; exact ⟨J, h, hj⟩
      | false =>
        rw [e2, fx_if_f] at h
        obtain ⟨g1, g2⟩ := fx_and h
        rcases Nat.lt_or_ge (fx_b n) c with q | q
        · rcases fx_or g1 with g1 | g1
          · have := fx_beq g1
            omega
          · exact ai_ref_ok hj hx h1 (by omega) g1
        · exact ai_ref_ok hj hx (by omega) h2 g2
    | false =>
      rw [e1, fx_if_f] at h
      cases e2 : Nat.beq a b with
      | true =>
        rw [e2, fx_if_t] at h
        have e2 := fx_beq e2
        obtain ⟨g1, g2⟩ := fx_and h
        rcases Nat.lt_or_ge (fx_b m) a with q | q
        · rcases fx_or g1 with g1 | g1
          · have := fx_beq g1
            omega
          · exact ai_ref_ok hj hy h3 (by omega) g1
        · exact ai_ref_ok hj hy (by omega) h4 g2
      | false => rw [e2, fx_if_f] at h; exact ⟨J, h, hj⟩
  · rw [ai_con2] at hc
    have hc := fx_blt hc
    have h : (Nat.beq d 0 || ai_ref J x 0 (d - 1) (fun J => ai_ref J y (a + 1) 4294967295 k)) = true := h
    rcases fx_or h with g | g
    · have := fx_beq g
      omega
    · exact two (Nat.zero_le _) (by omega) (by omega) (by omega) g
  · rw [ai_con3] at hc
    have hc := fx_ble hc
    have h : ai_ref J x c 4294967295 (fun J => ai_ref J y 0 b k) = true := h
    exact two (by omega) (by omega) (by omega) (by omega) h
  · rw [ai_con4] at hc
    have hc := fx_blt hc
    have h : (Nat.beq b 0 || ai_ref J x (c + 1) 4294967295 (fun J => ai_ref J y 0 (b - 1) k)) = true := h
    rcases fx_or h with g | g
    · have := fx_beq g
      omega
    · exact two (by omega) (by omega) (by omega) (by omega) g
  · rw [ai_con5] at hc
    have hc := fx_ble hc
    have h : ai_ref J x 0 d (fun J => ai_ref J y a 4294967295 k) = true := h
    exact two (by omega) (by omega) (by omega) (by omega) h
theorem ai_cmp_ok {ρ : List Nat} {J : ai_J} {o : Nat} {x y w u : fx_V} {k : Bool → ai_J → Bool} (ho : o < 6) (hj : ai_j ρ J) (hx : ai_v ρ x w) (hy : ai_v ρ y u) (h : ai_cmp o J x y k = true) : ∃ n m J', w = fc n ∧ u = fc m ∧ k (fx_con o (fx_b n) (fx_b m)) J' = true ∧ ai_j ρ J' := by
  obtain ⟨n, a, b, rfl, -, h1, h2, h, -⟩ := ai_rng_ok hx hj h
  obtain ⟨m, c, d, rfl, -, h3, h4, h, -⟩ := ai_rng_ok hy hj h
  obtain ⟨e1, e2⟩ := fx_and h
  cases hc : fx_con o (fx_b n) (fx_b m) with
  | true =>
    obtain ⟨J', g1, g2⟩ := ai_tr_ok ho hj hx hy h1 h2 h3 h4 hc e1
    exact ⟨n, m, J', rfl, rfl, by rw [hc]; exact g1, g2⟩
  | false =>
    have hno : ai_neg o < 6 := by
      rcases (by omega : o = 0 ∨ o = 1 ∨ o = 2 ∨ o = 3 ∨ o = 4 ∨ o = 5) with rfl | rfl | rfl | rfl | rfl | rfl <;> decide
    obtain ⟨J', g1, g2⟩ := ai_tr_ok hno hj hx hy h1 h2 h3 h4 (by rw [ai_con_neg ho, hc]; rfl) e2
    exact ⟨n, m, J', rfl, rfl, by rw [hc]; exact g1, g2⟩
/-! arithmetic -/
theorem ai_z_add {u v : Int32} (h1 : 2147483648 ≤ fx_z u + fx_z v) (h2 : fx_z u + fx_z v < 6442450944) : fx_z (u + v) = fx_z u + fx_z v - 2147483648 := by
  have a1 := u.le_toInt
  have a2 := v.le_toInt
  unfold fx_z at *
  have e : (u + v).toInt = (u.toInt + v.toInt).bmod (2 ^ 32) := Int32.toInt_add u v
  have hs : ((2 ^ 32 : Nat) : Int) = 4294967296 := rfl
  simp only [Int.bmod, hs] at e
  omega
theorem ai_z_sub {u v : Int32} (h1 : fx_z v ≤ fx_z u + 2147483648) (h2 : fx_z u + 2147483648 < fx_z v + 4294967296) : fx_z (u - v) = fx_z u + 2147483648 - fx_z v := by
  have a1 := u.le_toInt
  have a2 := v.le_toInt
  unfold fx_z at *
  have e : (u - v).toInt = (u.toInt - v.toInt).bmod (2 ^ 32) := Int32.toInt_sub u v
  have hs : ((2 ^ 32 : Nat) : Int) = 4294967296 := rfl
  simp only [Int.bmod, hs] at e
  omega
theorem ai_z_neg {u : Int32} (h : fx_z u ≠ 0) : fx_z (- u) = 4294967296 - fx_z u := by
  have a1 := u.le_toInt
  have a2 := u.toInt_lt
  unfold fx_z at *
  have e : (- u).toInt = (- u.toInt).bmod (2 ^ 32) := Int32.toInt_neg u
  have hs : ((2 ^ 32 : Nat) : Int) = 4294967296 := rfl
  simp only [Int.bmod, hs] at e
  omega
/-- a number that is not below 0 -/
theorem ai_z_nat {u : Int32} (h : 2147483648 ≤ fx_z u) : u = Int32.ofNat (fx_z u - 2147483648) ∧ fx_z u - 2147483648 < 2147483648 := by
  have hm := fx_z_max u
  refine ⟨?_, by omega⟩
  rw [fx_z_eq, fx_z_of]
  show _ = (fx_z u - 2147483648 + 2147483648) % 4294967296
  omega
theorem ai_z_of {n : Nat} (h : n < 2147483648) : fx_z (Int32.ofNat n) = n + 2147483648 := by
  rw [fx_z_of]
  show (n + 2147483648) % 4294967296 = _
  omega
theorem ai_isv_ok {ρ : List Nat} {v : fx_V} {n : Nat} (h : ai_isv v = true) (hv : ai_v ρ v (fc n)) : ρ[ai_src v]? = some (fx_b n) := by
  rcases v with m | i | o | m
  · cases h
  · obtain ⟨x, g1, g2, g3⟩ := hv
    rw [Sum.inl.inj g3]
    rw [ai_b_b g2]
    exact g1
  · cases h
  · cases h
/-- what a step of arithmetic gives -/
def ai_got (ρ : List Nat) (k : fx_V → ai_J → Nat → Bool) (w : fx_V) : Prop := ∃ v J' n' τ, k v J' n' = true ∧ (ρ ++ τ).length = n' ∧ ai_j (ρ ++ τ) J' ∧ ai_v (ρ ++ τ) v w
theorem ai_got_z {ρ : List Nat} {J : ai_J} {n lo hi s o : Nat} {k : fx_V → ai_J → Nat → Bool} (hn : ρ.length = n) (hj : ai_j ρ J) (z : Int32) (h : ai_new J n lo hi s o k = true) (h1 : lo ≤ fx_z z) (h2 : fx_z z ≤ hi) (h3 : o ≠ 0 → ∃ y, ρ[s]? = some y ∧ fx_z z + 2147483648 = y + o) : ai_got ρ k (fc (rx_n z)) := ai_new_ok hn hj h (fx_z_max z) h1 h2 h3
theorem ai_got_full {ρ : List Nat} {J : ai_J} {n : Nat} {k : fx_V → ai_J → Nat → Bool} (hn : ρ.length = n) (hj : ai_j ρ J) (z : Int32) (h : ai_new J n 0 4294967295 0 0 k = true) : ai_got ρ k (fc (rx_n z)) := ai_got_z hn hj z h (Nat.zero_le _) (by have := fx_z_max z; omega) (fun q => absurd rfl q)
theorem ai_add_ok {ρ : List Nat} {J : ai_J} {n n1 n2 a b c d : Nat} {x y : fx_V} {k : fx_V → ai_J → Nat → Bool} (hn : ρ.length = n) (hj : ai_j ρ J) (hx : ai_v ρ x (fc n1)) (hy : ai_v ρ y (fc n2)) (h1 : a ≤ fx_b n1) (h2 : fx_b n1 ≤ b) (h3 : c ≤ fx_b n2) (h4 : fx_b n2 ≤ d) (h : ai_add J n x y a b c d k = true) : ai_got ρ k (fc (rx_n (Int32.ofNat n1 + Int32.ofNat n2))) := by
  unfold ai_add at h
  have e1 := fx_z_of n1
  have e2 := fx_z_of n2
  cases hc : (Nat.ble 2147483648 (a + c) && Nat.blt (b + d) 6442450944) with
  | false => rw [hc, fx_if_f] at h; exact ai_got_full hn hj _ h
  | true =>
    rw [hc, fx_if_t] at h
    obtain ⟨g1, g2⟩ := fx_and hc
    have g1 := fx_ble g1
    have g2 := fx_blt g2
    have ez := ai_z_add (u := Int32.ofNat n1) (v := Int32.ofNat n2) (by omega) (by omega)
    refine ai_got_z hn hj _ h (by omega) (by omega) (fun q => ?_)
    cases c1 : (ai_isv x && Nat.beq c d) with
    | true =>
      obtain ⟨k1, k2⟩ := fx_and c1
      have k2 := fx_beq k2
      rw [fx_if_t, fx_if_t]
      exact ⟨_, ai_isv_ok k1 hx, by omega⟩
    | false =>
      rw [c1, fx_if_f] at q
      rw [fx_if_f, fx_if_f]
      cases c2 : (ai_isv y && Nat.beq a b) with
      | true =>
        obtain ⟨k1, k2⟩ := fx_and c2
        have k2 := fx_beq k2
        rw [fx_if_t, fx_if_t]
        exact ⟨_, ai_isv_ok k1 hy, by omega⟩
      | false => rw [c2, fx_if_f] at q; exact absurd rfl q
theorem ai_sub_ok {ρ : List Nat} {J : ai_J} {n n1 n2 a b c d : Nat} {x : fx_V} {k : fx_V → ai_J → Nat → Bool} (hn : ρ.length = n) (hj : ai_j ρ J) (hx : ai_v ρ x (fc n1)) (h1 : a ≤ fx_b n1) (h2 : fx_b n1 ≤ b) (h3 : c ≤ fx_b n2) (h4 : fx_b n2 ≤ d) (h : ai_sub J n x a b c d k = true) : ai_got ρ k (fc (rx_n (Int32.ofNat n1 - Int32.ofNat n2))) := by
  unfold ai_sub at h
  have e1 := fx_z_of n1
  have e2 := fx_z_of n2
  have bm := rx_b_lt n2
  cases hc : (Nat.ble d (a + 2147483648) && Nat.blt (b + 2147483648) (c + 4294967296)) with
  | false => rw [hc, fx_if_f] at h; exact ai_got_full hn hj _ h
  | true =>
    rw [hc, fx_if_t] at h
    obtain ⟨g1, g2⟩ := fx_and hc
    have g1 := fx_ble g1
    have g2 := fx_blt g2
    have ez := ai_z_sub (u := Int32.ofNat n1) (v := Int32.ofNat n2) (by omega) (by omega)
    refine ai_got_z hn hj _ h (by omega) (by omega) (fun q => ?_)
    cases c1 : (ai_isv x && Nat.beq c d) with
    | true =>
      obtain ⟨k1, k2⟩ := fx_and c1
      have k2 := fx_beq k2
      rw [fx_if_t, fx_if_t]
      exact ⟨_, ai_isv_ok k1 hx, by omega⟩
    | false => rw [c1, fx_if_f] at q; exact absurd rfl q
theorem ai_mask_ok {m : Nat} (h : m < 2147483648) : ∃ i, i ≤ 31 ∧ ai_mask m + 1 = 2 ^ i ∧ m < 2 ^ i := by
  unfold ai_mask
  cases h1 : Nat.blt m 128 with
  | true => exact ⟨7, by omega, rfl, fx_blt h1⟩
  | false =>
    rw [fx_if_f]
    cases h2 : Nat.blt m 1024 with
    | true => exact ⟨10, by omega, rfl, fx_blt h2⟩
    | false => exact ⟨31, by omega, rfl, h⟩
theorem ai_pos_ok {ρ : List Nat} {J : ai_J} {n o a b c d : Nat} {u v : Int32} {k : fx_V → ai_J → Nat → Bool} (hn : ρ.length = n) (hj : ai_j ρ J) (ho : o < 11) (ho2 : 2 ≤ o) (hne : o = 3 ∨ o = 4 → 2147483648 < c) (ha : 2147483648 ≤ a) (hc : 2147483648 ≤ c) (h1 : a ≤ fx_z u) (h2 : fx_z u ≤ b) (h3 : c ≤ fx_z v) (h4 : fx_z v ≤ d) (h : ai_pos J n o a b c d k = true) : ai_got ρ k (fc (rx_n (fx_op o u v))) := by
  obtain ⟨eu, lu⟩ := ai_z_nat (u := u) (by omega)
  obtain ⟨ev, lv⟩ := ai_z_nat (u := v) (by omega)
  generalize hxx : fx_z u - 2147483648 = x at eu lu
  generalize hyy : fx_z v - 2147483648 = y at ev lv
  have xb : x ≤ b - 2147483648 := by rw [← hxx]; exact Nat.sub_le_sub_right h2 _
  have yd : y ≤ d - 2147483648 := by rw [← hyy]; exact Nat.sub_le_sub_right h4 _
  have fin : ∀ {m lo hi : Nat}, m < 2147483648 → fx_op o u v = Int32.ofNat m → ai_new J n lo hi 0 0 k = true → lo ≤ m + 2147483648 → m + 2147483648 ≤ hi → ai_got ρ k (fc (rx_n (fx_op o u v))) := fun e1 e2 e3 e4 e5 => by
    rw [e2]
    have ez := ai_z_of e1
    exact ai_got_z hn hj _ e3 (by omega) (by omega) (fun q => absurd rfl q)
  rcases (by omega : o = 2 ∨ o = 3 ∨ o = 4 ∨ o = 5 ∨ o = 6 ∨ o = 7 ∨ o = 8 ∨ o = 9 ∨ o = 10) with rfl | rfl | rfl | rfl | rfl | rfl | rfl | rfl | rfl
  · unfold ai_pos at h
    rw [show Nat.beq 2 2 = true from rfl, fx_if_t] at h
    cases e : Nat.blt ((b - 2147483648) * (d - 2147483648)) 2147483648 with
    | false => rw [e, fx_if_f] at h; exact ai_got_full hn hj _ h
    | true =>
      rw [e, fx_if_t] at h
      have e := fx_blt e
      have m1 : x * y ≤ (b - 2147483648) * (d - 2147483648) := Nat.mul_le_mul (by omega) (by omega)
      have m2 : (a - 2147483648) * (c - 2147483648) ≤ x * y := Nat.mul_le_mul (by omega) (by omega)
      refine fin (m := x * y) (by omega) ?_ h (by omega) (by omega)
      show u * v = _
      rw [eu, ev, Int32.ofNat_mul]
  · have hc2 := hne (Or.inl rfl)
    unfold ai_pos at h
    rw [show Nat.beq 3 2 = false from rfl, fx_if_f, show Nat.beq 3 3 = true from rfl, fx_if_t] at h
    have m1 : x / y ≤ (b - 2147483648) / (c - 2147483648) := Nat.div_le_div (by omega) (by omega) (by omega)
    have m2 : (a - 2147483648) / (d - 2147483648) ≤ x / y := Nat.div_le_div (by omega) (by omega) (by omega)
    have m3 : x / y ≤ x := Nat.div_le_self x y
    refine fin (m := x / y) (by omega) ?_ h (by omega) (by omega)
    show u / v = _
    rw [eu, ev, fx_o_div lu lv]
  · have hc2 := hne (Or.inr rfl)
    have h : ai_new J n 2147483648 (ai_min b (d - 1)) 0 0 k = true := h
    rw [ai_min_le] at h
    have m1 : x % y ≤ x := Nat.mod_le x y
    have m2 : x % y < y := Nat.mod_lt x (by omega)
    refine fin (m := x % y) (by omega) ?_ h (by omega) (by omega)
    show u - u / v * v = _
    rw [eu, ev, fx_o_rem lu lv]
  · have h : ai_new J n 2147483648 (ai_min b d) 0 0 k = true := h
    rw [ai_min_le] at h
    have m1 : Nat.land x y ≤ x := Nat.and_le_left
    have m2 : Nat.land x y ≤ y := Nat.and_le_right
    refine fin (m := Nat.land x y) (by omega) ?_ h (by omega) (by omega)
    show u &&& v = _
    rw [eu, ev, fx_o_and]
  · unfold ai_pos at h
    rw [show Nat.beq 6 2 = false from rfl, fx_if_f, show Nat.beq 6 3 = false from rfl, fx_if_f, show Nat.beq 6 4 = false from rfl, fx_if_f, show Nat.beq 6 5 = false from rfl, fx_if_f, show (Nat.beq 6 6 || Nat.beq 6 7) = true from rfl, fx_if_t] at h
    rw [ai_max_le] at h
    rcases Nat.lt_or_ge (max (b - 2147483648) (d - 2147483648)) 2147483648 with q | q
    · obtain ⟨i, hi, e1, e2⟩ := ai_mask_ok q
      have m1 : Nat.lor x y < 2 ^ i := Nat.or_lt_two_pow (Nat.lt_of_le_of_lt (Nat.le_trans xb (Nat.le_max_left _ _)) e2) (Nat.lt_of_le_of_lt (Nat.le_trans yd (Nat.le_max_right _ _)) e2)
      have m3 : 2 ^ i ≤ 2 ^ 31 := Nat.pow_le_pow_right (by decide) hi
      have m4 : 2 ^ 31 = 2147483648 := rfl
      refine fin (m := Nat.lor x y) (by omega) ?_ h (by omega) (by omega)
      show u ||| v = _
      rw [eu, ev, fx_o_or]
    · have m1 : Nat.lor x y < 2 ^ 31 := Nat.or_lt_two_pow (by omega) (by omega)
      have m4 : 2 ^ 31 = 2147483648 := rfl
      have e9 : ai_mask (max (b - 2147483648) (d - 2147483648)) = 2147483647 := by
        generalize max (b - 2147483648) (d - 2147483648) = t at q
        unfold ai_mask
        cases h1 : Nat.blt t 128 with
        | true => have := fx_blt h1; omega
        | false =>
          rw [fx_if_f]
          cases h2 : Nat.blt t 1024 with
          | true => have := fx_blt h2; omega
          | false => rfl
      rw [e9] at h
      refine fin (m := Nat.lor x y) (by omega) ?_ h (by omega) (by omega)
      show u ||| v = _
      rw [eu, ev, fx_o_or]
  · unfold ai_pos at h
    rw [show Nat.beq 7 2 = false from rfl, fx_if_f, show Nat.beq 7 3 = false from rfl, fx_if_f, show Nat.beq 7 4 = false from rfl, fx_if_f, show Nat.beq 7 5 = false from rfl, fx_if_f, show (Nat.beq 7 6 || Nat.beq 7 7) = true from rfl, fx_if_t] at h
    rw [ai_max_le] at h
    rcases Nat.lt_or_ge (max (b - 2147483648) (d - 2147483648)) 2147483648 with q | q
    · obtain ⟨i, hi, e1, e2⟩ := ai_mask_ok q
      have m1 : Nat.xor x y < 2 ^ i := Nat.xor_lt_two_pow (Nat.lt_of_le_of_lt (Nat.le_trans xb (Nat.le_max_left _ _)) e2) (Nat.lt_of_le_of_lt (Nat.le_trans yd (Nat.le_max_right _ _)) e2)
      have m3 : 2 ^ i ≤ 2 ^ 31 := Nat.pow_le_pow_right (by decide) hi
      have m4 : 2 ^ 31 = 2147483648 := rfl
      refine fin (m := Nat.xor x y) (by omega) ?_ h (by omega) (by omega)
      show u ^^^ v = _
      rw [eu, ev, fx_o_xor]
    · have m1 : Nat.xor x y < 2 ^ 31 := Nat.xor_lt_two_pow (by omega) (by omega)
      have m4 : 2 ^ 31 = 2147483648 := rfl
      have e9 : ai_mask (max (b - 2147483648) (d - 2147483648)) = 2147483647 := by
        generalize max (b - 2147483648) (d - 2147483648) = t at q
        unfold ai_mask
        cases h1 : Nat.blt t 128 with
        | true => have := fx_blt h1; omega
        | false =>
          rw [fx_if_f]
          cases h2 : Nat.blt t 1024 with
          | true => have := fx_blt h2; omega
          | false => rfl
      rw [e9] at h
      refine fin (m := Nat.xor x y) (by omega) ?_ h (by omega) (by omega)
      show u ^^^ v = _
      rw [eu, ev, fx_o_xor]
  · have h : fx_if (Nat.blt d 2147483680 && Nat.blt (Nat.shiftLeft (b - 2147483648) (d - 2147483648)) 2147483648) (ai_new J n (Nat.shiftLeft (a - 2147483648) (c - 2147483648) + 2147483648) (Nat.shiftLeft (b - 2147483648) (d - 2147483648) + 2147483648) 0 0 k) (ai_new J n 0 4294967295 0 0 k) = true := h
    cases e : (Nat.blt d 2147483680 && Nat.blt (Nat.shiftLeft (b - 2147483648) (d - 2147483648)) 2147483648) with
    | false => rw [e, fx_if_f] at h; exact ai_got_full hn hj _ h
    | true =>
      rw [e, fx_if_t] at h
      obtain ⟨g1, g2⟩ := fx_and e
      have g1 := fx_blt g1
      have g2 := fx_blt g2
      have sh : ∀ p q : Nat, Nat.shiftLeft p q = p * 2 ^ q := fun p q => Nat.shiftLeft_eq p q
      rw [sh] at g2
      rw [sh, sh] at h
      have m1 : x * 2 ^ y ≤ (b - 2147483648) * 2 ^ (d - 2147483648) := Nat.mul_le_mul (by omega) (Nat.pow_le_pow_right (by decide) (by omega))
      have m2 : (a - 2147483648) * 2 ^ (c - 2147483648) ≤ x * 2 ^ y := Nat.mul_le_mul (by omega) (Nat.pow_le_pow_right (by decide) (by omega))
      refine fin (m := x * 2 ^ y) (by omega) ?_ h (by omega) (by omega)
      show u <<< (v &&& 31) = _
      rw [eu, ev, ← fx_o_shl (by omega), fx_o_mod, sh]
  · have h : fx_if (Nat.blt d 2147483680) (ai_new J n (Nat.shiftRight (a - 2147483648) (d - 2147483648) + 2147483648) (Nat.shiftRight (b - 2147483648) (c - 2147483648) + 2147483648) 0 0 k) (ai_new J n 0 4294967295 0 0 k) = true := h
    cases e : Nat.blt d 2147483680 with
    | false => rw [e, fx_if_f] at h; exact ai_got_full hn hj _ h
    | true =>
      rw [e, fx_if_t] at h
      have g1 := fx_blt e
      have sh : ∀ p q : Nat, Nat.shiftRight p q = p / 2 ^ q := fun p q => Nat.shiftRight_eq_div_pow p q
      rw [sh, sh] at h
      have pp : ∀ q : Nat, 0 < 2 ^ q := fun q => Nat.two_pow_pos q
      have m1 : x / 2 ^ y ≤ (b - 2147483648) / 2 ^ (c - 2147483648) := Nat.div_le_div (by omega) (Nat.pow_le_pow_right (by decide) (by omega)) (Nat.ne_of_gt (pp _))
      have m2 : (a - 2147483648) / 2 ^ (d - 2147483648) ≤ x / 2 ^ y := Nat.div_le_div (by omega) (Nat.pow_le_pow_right (by decide) (by omega)) (Nat.ne_of_gt (pp _))
      have m3 : x / 2 ^ y ≤ x := Nat.div_le_self _ _
      refine fin (m := x / 2 ^ y) (by omega) ?_ h (by omega) (by omega)
      show u >>> (v &&& 31) = _
      rw [eu, ev, ← fx_o_shr lu (by omega), sh]
  · have h : fx_if (Nat.blt d 2147483680) (ai_new J n (Nat.shiftRight (a - 2147483648) (d - 2147483648) + 2147483648) (Nat.shiftRight (b - 2147483648) (c - 2147483648) + 2147483648) 0 0 k) (ai_new J n 0 4294967295 0 0 k) = true := h
    cases e : Nat.blt d 2147483680 with
    | false => rw [e, fx_if_f] at h; exact ai_got_full hn hj _ h
    | true =>
      rw [e, fx_if_t] at h
      have g1 := fx_blt e
      have sh : ∀ p q : Nat, Nat.shiftRight p q = p / 2 ^ q := fun p q => Nat.shiftRight_eq_div_pow p q
      rw [sh, sh] at h
      have pp : ∀ q : Nat, 0 < 2 ^ q := fun q => Nat.two_pow_pos q
      have m1 : x / 2 ^ y ≤ (b - 2147483648) / 2 ^ (c - 2147483648) := Nat.div_le_div (by omega) (Nat.pow_le_pow_right (by decide) (by omega)) (Nat.ne_of_gt (pp _))
      have m2 : (a - 2147483648) / 2 ^ (d - 2147483648) ≤ x / 2 ^ y := Nat.div_le_div (by omega) (Nat.pow_le_pow_right (by decide) (by omega)) (Nat.ne_of_gt (pp _))
      have m3 : x / 2 ^ y ≤ x := Nat.div_le_self _ _
      refine fin (m := x / 2 ^ y) (by omega) ?_ h (by omega) (by omega)
      show (u.toUInt32 >>> (v.toUInt32 &&& Int32.toUInt32 31)).toInt32 = _
      rw [eu, ev, fx_o_ushr (by omega) (by omega), sh]
theorem ai_any_ok {ρ : List Nat} {J : ai_J} {n o n1 n2 a b c d : Nat} {k : fx_V → ai_J → Nat → Bool} (hn : ρ.length = n) (hj : ai_j ρ J) (c1 : n1 < 4294967296) (c2 : n2 < 4294967296) (h1 : a ≤ fx_b n1) (h2 : fx_b n1 ≤ b) (h3 : c ≤ fx_b n2) (h4 : fx_b n2 ≤ d) (h : ai_any J n o a b c d k = true) : ai_got ρ k (fc (rx_n (fx_op o (Int32.ofNat n1) (Int32.ofNat n2)))) := by
  have bb : ∀ {m : Nat}, m < 4294967296 → 2147483648 ≤ fx_b m → fx_b m = m + 2147483648 := fun {m} e1 e2 => by
    have e3 : fx_b m = (m + 2147483648) % 4294967296 := rfl
    omega
  unfold ai_any at h
  cases e5 : Nat.beq o 5 with
  | true =>
    have := fx_beq e5
    subst this
    rw [e5, fx_if_t] at h
    have hz : ∀ {m : Nat}, m < 2147483648 → Nat.land n1 n2 = m → fx_z (fx_op 5 (Int32.ofNat n1) (Int32.ofNat n2)) = m + 2147483648 := fun {m} g1 g2 => by
      show fx_z (Int32.ofNat n1 &&& Int32.ofNat n2) = _
      rw [← fx_o_and, g2, ai_z_of g1]
    cases e6 : Nat.ble 2147483648 a with
    | true =>
      rw [e6, fx_if_t] at h
      have e6 := fx_ble e6
      have e7 := bb c1 (by omega)
      have m1 : Nat.land n1 n2 ≤ n1 := Nat.and_le_left
      have bl := rx_b_lt n1
      have e8 := hz (m := Nat.land n1 n2) (by omega) rfl
      exact ai_got_z hn hj _ h (by omega) (by omega) (fun q => absurd rfl q)
    | false =>
      rw [e6, fx_if_f] at h
      cases e9 : Nat.ble 2147483648 c with
      | true =>
        rw [e9, fx_if_t] at h
        have e9 := fx_ble e9
        have e7 := bb c2 (by omega)
        have m1 : Nat.land n1 n2 ≤ n2 := Nat.and_le_right
        have bl := rx_b_lt n2
        have e8 := hz (m := Nat.land n1 n2) (by omega) rfl
        exact ai_got_z hn hj _ h (by omega) (by omega) (fun q => absurd rfl q)
      | false => rw [e9, fx_if_f] at h; exact ai_got_full hn hj _ h
  | false =>
    rw [e5, fx_if_f] at h
    cases e6 : (Nat.beq o 10 && (Nat.beq c d && (Nat.blt 2147483648 c && Nat.blt c 2147483680))) with
    | false => rw [e6, fx_if_f] at h; exact ai_got_full hn hj _ h
    | true =>
      rw [e6, fx_if_t] at h
      obtain ⟨g1, g2⟩ := fx_and e6
      obtain ⟨g2, g3⟩ := fx_and g2
      obtain ⟨g3, g4⟩ := fx_and g3
      have g1 := fx_beq g1
      have g2 := fx_beq g2
      have g3 := fx_blt g3
      have g4 := fx_blt g4
      subst g1
      have e7 := bb c2 (by omega)
      have sh : ∀ p q : Nat, Nat.shiftRight p q = p / 2 ^ q := fun p q => Nat.shiftRight_eq_div_pow p q
      rw [sh] at h
      have m1 : n1 / 2 ^ n2 ≤ 4294967295 / 2 ^ (c - 2147483648) := by
        rw [show c - 2147483648 = n2 by omega]
        exact Nat.div_le_div_right (by omega)
      have m2 : n1 / 2 ^ n2 ≤ n1 / 2 ^ 1 := Nat.div_le_div_left (Nat.pow_le_pow_right (by decide) (by omega)) (by decide)
      have m3 : n1 / 2 ^ 1 < 2147483648 := by omega
      have e8 : fx_z (fx_op 10 (Int32.ofNat n1) (Int32.ofNat n2)) = n1 / 2 ^ n2 + 2147483648 := by
        show fx_z ((Int32.ofNat n1).toUInt32 >>> ((Int32.ofNat n2).toUInt32 &&& Int32.toUInt32 31)).toInt32 = _
        rw [fx_o_ushr c1 (by omega), sh, ai_z_of (by omega)]
      exact ai_got_z hn hj _ h (by rw [e8]; exact Nat.le_add_left _ _) (by rw [e8]; exact Nat.add_le_add_right m1 _) (fun q => absurd rfl q)
theorem ai_bin_ok {ρ : List Nat} {J : ai_J} {n o : Nat} {x y w u : fx_V} {k : fx_V → ai_J → Nat → Bool} (hn : ρ.length = n) (hj : ai_j ρ J) (ho : o < 11) (hx : ai_v ρ x w) (hy : ai_v ρ y u) (h : ai_bin o J n x y k = true) : ∃ n1 n2, w = fc n1 ∧ u = fc n2 ∧ (o = 3 ∨ o = 4 → ¬ Int32.ofNat n2 = 0) ∧ ai_got ρ k (fc (rx_n (fx_op o (Int32.ofNat n1) (Int32.ofNat n2)))) := by
  obtain ⟨n1, a, b, rfl, c1, h1, h2, h, -⟩ := ai_rng_ok hx hj h
  obtain ⟨n2, c, d, rfl, c2, h3, h4, h, -⟩ := ai_rng_ok hy hj h
  have e1 := fx_z_of n1
  have e2 := fx_z_of n2
  refine ⟨n1, n2, rfl, rfl, ?_⟩
  cases q0 : Nat.beq o 0 with
  | true =>
    have := fx_beq q0
    subst this
    exact ⟨by omega, ai_add_ok hn hj hx hy h1 h2 h3 h4 h⟩
  | false =>
    rw [q0, fx_if_f] at h
    cases q1 : Nat.beq o 1 with
    | true =>
      have := fx_beq q1
      subst this
      exact ⟨by omega, ai_sub_ok hn hj hx h1 h2 h3 h4 h⟩
    | false =>
      rw [q1, fx_if_f] at h
      obtain ⟨g1, g2⟩ := fx_and h
      have hdiv : o = 3 ∨ o = 4 → (2147483648 < c ∨ d < 2147483648) := fun q => by
        rcases fx_or g1 with g3 | g3
        · rcases q with q | q <;> subst q <;> cases g3
        · rcases fx_or g3 with g3 | g3
          · exact Or.inl (fx_blt g3)
          · exact Or.inr (fx_blt g3)
      have hz : o = 3 ∨ o = 4 → ¬ Int32.ofNat n2 = 0 := fun q e => by
        have e3 := congrArg fx_z e
        rw [show fx_z 0 = 2147483648 from rfl] at e3
        have := hdiv q
        omega
      refine ⟨hz, ?_⟩
      have b0 := fx_bnq q0
      have b1 := fx_bnq q1
      cases q2 : (Nat.ble 2147483648 a && Nat.ble 2147483648 c) with
      | true =>
        rw [q2, fx_if_t] at g2
        obtain ⟨g3, g4⟩ := fx_and q2
        have g3 := fx_ble g3
        have g4 := fx_ble g4
        exact ai_pos_ok hn hj ho (by omega) (fun q => by have := hdiv q; omega) g3 g4 (by omega) (by omega) (by omega) (by omega) g2
      | false =>
        rw [q2, fx_if_f] at g2
        exact ai_any_ok hn hj c1 c2 h1 h2 h3 h4 g2
