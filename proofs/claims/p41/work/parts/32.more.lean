theorem ai_z_i2b (z : Int32) : 2147483520 ≤ fx_z z.toInt8.toInt32 ∧ fx_z z.toInt8.toInt32 ≤ 2147483775 ∧ (2147483520 ≤ fx_z z → fx_z z ≤ 2147483775 → z.toInt8.toInt32 = z) := by
  have e : z.toInt8.toInt32.toInt = z.toInt.bmod 256 := by rw [Int8.toInt_toInt32, Int32.toInt_toInt8]
  have hz := z.le_toInt
  refine ⟨?_, ?_, fun h1 h2 => ?_⟩
  · unfold fx_z
    rw [e]
    simp only [Int.bmod]
    omega
  · unfold fx_z
    rw [e]
    simp only [Int.bmod]
    omega
  · apply Int32.toInt_inj.1
    rw [e]
    unfold fx_z at h1 h2
    simp only [Int.bmod]
    omega
theorem ai_i2c_of (n : Nat) : ((Int32.ofNat n).toUInt32 % 65536).toInt32 = Int32.ofNat (n % 65536) := by
  apply Int32.toBitVec_inj.1
  rw [Int32.toBitVec_ofNat']
  show ((Int32.ofNat n).toUInt32 % 65536).toBitVec = _
  rw [UInt32.toBitVec_mod]
  apply BitVec.eq_of_toNat_eq
  show ((Int32.ofNat n).toBitVec % (65536 : UInt32).toBitVec).toNat = _
  rw [Int32.toBitVec_ofNat']
  simp [BitVec.toNat_ofNat]
  omega
theorem ai_un_ok {ρ : List Nat} {J : ai_J} {n o : Nat} {x w : fx_V} {k : fx_V → ai_J → Nat → Bool} (hn : ρ.length = n) (hj : ai_j ρ J) (ho : o < 4) (hx : ai_v ρ x w) (h : ai_un o J n x k = true) : ∃ n1, w = fc n1 ∧ (o < 3 → ai_got ρ k (fc (rx_n (rx_uop o (Int32.ofNat n1))))) ∧ (o = 3 → k (fl 0) J n = true) := by
  obtain ⟨n1, a, b, rfl, c1, h1, h2, h, -⟩ := ai_rng_ok hx hj h
  have e1 := fx_z_of n1
  have same : ∀ z : Int32, z = Int32.ofNat n1 → k x J n = true → ai_got ρ k (fc (rx_n z)) := fun z e g => by
    refine ⟨x, J, n, [], g, by rw [List.append_nil]; exact hn, by rw [List.append_nil]; exact hj, ?_⟩
    rw [List.append_nil, e]
    have e2 : rx_n (Int32.ofNat n1) = n1 := by
      unfold rx_n
      rw [e1, ai_b_b c1]
    rw [e2]
    exact hx
  refine ⟨n1, rfl, fun ho3 => ?_, fun q => by subst q; exact h⟩
  rcases (by omega : o = 0 ∨ o = 1 ∨ o = 2) with rfl | rfl | rfl
  · have h : fx_if (Nat.beq a 0) (ai_new J n 0 4294967295 0 0 k) (ai_new J n (4294967296 - b) (4294967296 - a) 0 0 k) = true := h
    cases e : Nat.beq a 0 with
    | true => rw [e, fx_if_t] at h; exact ai_got_full hn hj _ h
    | false =>
      rw [e, fx_if_f] at h
      have e := fx_bnq e
      have ez := ai_z_neg (u := Int32.ofNat n1) (by omega)
      exact ai_got_z hn hj (- Int32.ofNat n1) h (by omega) (by omega) (fun q => absurd rfl q)
  · have h : fx_if (Nat.ble 2147483520 a && Nat.ble b 2147483775) (k x J n) (ai_new J n 2147483520 2147483775 0 0 k) = true := h
    obtain ⟨z1, z2, z3⟩ := ai_z_i2b (Int32.ofNat n1)
    cases e : (Nat.ble 2147483520 a && Nat.ble b 2147483775) with
    | true =>
      rw [e, fx_if_t] at h
      obtain ⟨g1, g2⟩ := fx_and e
      have g1 := fx_ble g1
      have g2 := fx_ble g2
      exact same _ (z3 (by omega) (by omega)) h
    | false =>
      rw [e, fx_if_f] at h
      exact ai_got_z hn hj (Int32.ofNat n1).toInt8.toInt32 h z1 z2 (fun q => absurd rfl q)
  · have h : fx_if (Nat.ble 2147483648 a && Nat.ble b 2147549183) (k x J n) (ai_new J n 2147483648 2147549183 0 0 k) = true := h
    have e9 : rx_uop 2 (Int32.ofNat n1) = Int32.ofNat (n1 % 65536) := ai_i2c_of n1
    cases e : (Nat.ble 2147483648 a && Nat.ble b 2147549183) with
    | true =>
      rw [e, fx_if_t] at h
      obtain ⟨g1, g2⟩ := fx_and e
      have g1 := fx_ble g1
      have g2 := fx_ble g2
      refine same _ ?_ h
      rw [e9]
      have e3 : fx_b n1 = (n1 + 2147483648) % 4294967296 := rfl
      rw [show n1 % 65536 = n1 by omega]
    | false =>
      rw [e, fx_if_f] at h
      rw [e9]
      have ez := ai_z_of (n := n1 % 65536) (by omega)
      exact ai_got_z hn hj _ h (by omega) (by omega) (fun q => absurd rfl q)
theorem ai_abs_ok {ρ : List Nat} {J : ai_J} {n : Nat} {x w : fx_V} {k : fx_V → ai_J → Nat → Bool} (hn : ρ.length = n) (hj : ai_j ρ J) (hx : ai_v ρ x w) (h : ai_abs J n x k = true) : ∃ n1, w = fc n1 ∧ ai_got ρ k (fc (rx_n (if 0 ≤ Int32.ofNat n1 then Int32.ofNat n1 else 0 - Int32.ofNat n1))) := by
  obtain ⟨n1, a, b, rfl, c1, h1, h2, h, -⟩ := ai_rng_ok hx hj h
  have e1 := fx_z_of n1
  have hle : ∀ z : Int32, 0 ≤ z ↔ 2147483648 ≤ fx_z z := fun z => by rw [fx_z_le]; exact Iff.rfl
  refine ⟨n1, rfl, ?_⟩
  cases e : Nat.ble 2147483648 a with
  | true =>
    rw [e, fx_if_t] at h
    have e := fx_ble e
    rw [if_pos ((hle _).mpr (by omega))]
    refine ⟨x, J, n, [], h, by rw [List.append_nil]; exact hn, by rw [List.append_nil]; exact hj, ?_⟩
    rw [List.append_nil]
    have e2 : rx_n (Int32.ofNat n1) = n1 := by
      unfold rx_n
      rw [e1, ai_b_b c1]
    rw [e2]
    exact hx
  | false =>
    rw [e, fx_if_f] at h
    cases e2 : Nat.beq a 0 with
    | true => rw [e2, fx_if_t] at h; exact ai_got_full hn hj _ h
    | false =>
      rw [e2, fx_if_f, ai_max_le] at h
      have e2 := fx_bnq e2
      by_cases q : 0 ≤ Int32.ofNat n1
      · rw [if_pos q]
        have := (hle _).mp q
        exact ai_got_z hn hj _ h (by omega) (by omega) (fun q => absurd rfl q)
      · rw [if_neg q]
        have q2 : ¬ 2147483648 ≤ fx_z (Int32.ofNat n1) := fun t => q ((hle _).mpr t)
        have ez := ai_z_sub (u := 0) (v := Int32.ofNat n1) (by rw [show fx_z 0 = 2147483648 from rfl]; omega) (by rw [show fx_z 0 = 2147483648 from rfl]; omega)
        rw [show fx_z 0 = 2147483648 from rfl] at ez
        exact ai_got_z hn hj _ h (by omega) (by omega) (fun q => absurd rfl q)
/-- specs -/
theorem ai_fit_ok {ρ : List Nat} {J : ai_J} {v w : fx_V} {s : ai_S} (hj : ai_j ρ J) (hv : ai_v ρ v w) (h : ai_fit J v s = true) : ai_sp s w := by
  rcases s with ⟨lo, hi⟩ | u
  · simp only [ai_fit] at h
    obtain ⟨n, a, b, rfl, c1, h1, h2, h, -⟩ := ai_rng_ok hv hj h
    obtain ⟨g1, g2⟩ := fx_and h
    have g1 := fx_ble g1
    have g2 := fx_ble g2
    exact ⟨n, rfl, c1, Nat.le_trans g1 h1, Nat.le_trans h2 g2⟩
  · have hX : ∀ {v2 : fx_V}, fx_veq v v2 = true → v = v2 := fun q => fx_veq_ok (X := (fun _ => 0, 0, fun _ => .null)) q
    rcases u with m | i | o | m
    · have := hX (show fx_veq v (fc m) = true from h)
      subst this
      exact hv
    · cases h
    · have := hX (show fx_veq v (.inr (.inr (.inl o))) = true from h)
      subst this
      exact hv
    · rcases v with n | i | o | n
      · cases h
      · cases h
      · cases h
      · simp only [ai_fit] at h
        obtain ⟨q, rfl, hq⟩ := hv
        rcases fx_or h with t | t
        · have := fx_beq t
          subst this
          exact ⟨q, rfl, trivial⟩
        · have := fx_beq t
          subst this
          exact ⟨q, rfl, hq⟩
