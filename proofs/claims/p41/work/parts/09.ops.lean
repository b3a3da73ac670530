def fx_op (o : Nat) (a b : Int32) : Int32 := match o with
  | 0 => a + b
  | 1 => a - b
  | 2 => a * b
  | 3 => a / b
  | 4 => a - a / b * b
  | 5 => a &&& b
  | 6 => a ||| b
  | 7 => a ^^^ b
  | 8 => a <<< (b &&& 31)
  | 9 => a >>> (b &&& 31)
  | _ => (a.toUInt32 >>> (b.toUInt32 &&& Int32.toUInt32 31)).toInt32
theorem fx_bin_ok {o x y n : Nat} (h : fx_bin o x y = some n) : o < 11 ∧ Int32.ofNat n = fx_op o (Int32.ofNat x) (Int32.ofNat y) ∧ (o = 3 ∨ o = 4 → ¬ Int32.ofNat y = 0) := by
  rcases o with _ | _ | _ | _ | _ | _ | _ | _ | _ | _ | _ | o
  · cases h; exact ⟨by decide, fx_o_add x y, by omega⟩
  · cases h; exact ⟨by decide, fx_o_sub x y, by omega⟩
  · cases h; exact ⟨by decide, fx_o_mul x y, by omega⟩
  · have h : fx_if (Nat.blt x 2147483648 && (Nat.blt y 2147483648 && Nat.blt 0 y)) (some (x / y)) none = some n := h
    cases hc : (Nat.blt x 2147483648 && (Nat.blt y 2147483648 && Nat.blt 0 y)) with
    | false => rw [hc, fx_if_f] at h; cases h
    | true =>
      rw [hc, fx_if_t] at h
      cases h
      obtain ⟨h1, h2⟩ := fx_and hc
      obtain ⟨h2, h3⟩ := fx_and h2
      exact ⟨by decide, fx_o_div (fx_blt h1) (fx_blt h2), fun _ => fx_o_ne (fx_blt h2) (fx_blt h3)⟩
  · have h : fx_if (Nat.blt x 2147483648 && (Nat.blt y 2147483648 && Nat.blt 0 y)) (some (x % y)) none = some n := h
    cases hc : (Nat.blt x 2147483648 && (Nat.blt y 2147483648 && Nat.blt 0 y)) with
    | false => rw [hc, fx_if_f] at h; cases h
    | true =>
      rw [hc, fx_if_t] at h
      cases h
      obtain ⟨h1, h2⟩ := fx_and hc
      obtain ⟨h2, h3⟩ := fx_and h2
      exact ⟨by decide, fx_o_rem (fx_blt h1) (fx_blt h2), fun _ => fx_o_ne (fx_blt h2) (fx_blt h3)⟩
  · cases h; exact ⟨by decide, fx_o_and x y, by omega⟩
  · cases h; exact ⟨by decide, fx_o_or x y, by omega⟩
  · cases h; exact ⟨by decide, fx_o_xor x y, by omega⟩
  · have h : fx_if (Nat.blt y 32) (some (Nat.shiftLeft x y % 4294967296)) none = some n := h
    cases hc : Nat.blt y 32 with
    | false => rw [hc, fx_if_f] at h; cases h
    | true =>
      rw [hc, fx_if_t] at h
      cases h
      exact ⟨by decide, fx_o_shl (fx_blt hc), by omega⟩
  · have h : fx_if (Nat.blt x 2147483648 && Nat.blt y 32) (some (Nat.shiftRight x y)) none = some n := h
    cases hc : (Nat.blt x 2147483648 && Nat.blt y 32) with
    | false => rw [hc, fx_if_f] at h; cases h
    | true =>
      rw [hc, fx_if_t] at h
      cases h
      obtain ⟨h1, h2⟩ := fx_and hc
      exact ⟨by decide, fx_o_shr (fx_blt h1) (fx_blt h2), by omega⟩
  · have h : fx_if (Nat.blt x 4294967296 && Nat.blt y 32) (some (Nat.shiftRight x y)) none = some n := h
    cases hc : (Nat.blt x 4294967296 && Nat.blt y 32) with
    | false => rw [hc, fx_if_f] at h; cases h
    | true =>
      rw [hc, fx_if_t] at h
      cases h
      obtain ⟨h1, h2⟩ := fx_and hc
      exact ⟨by decide, (fx_o_ushr (fx_blt h1) (fx_blt h2)).symm, by omega⟩
  · cases h
theorem fx_rv_var {X : fx_X} {i : Nat} {w : Value} (h : fx_rv X (fv i) w) : ∃ z, w = .int z := by
  cases i with
  | zero => exact h
  | succ i => exact ⟨_, h⟩
theorem fx_z0 : Int32.ofNat 0 = 0 := rfl
theorem fx_bis_ok {X : fx_X} (h7 : X.1 7 = X.1 1 &&& 63) {o : Nat} (ho : o < 11) {x y w : fx_V} {u t : Value} (hx : fx_rv X x u) (hy : fx_rv X y t) (h : fx_bis o x y = some w) : ∃ a b, u = .int a ∧ t = .int b ∧ fx_rv X w (.int (fx_op o a b)) ∧ (o = 3 ∨ o = 4 → ¬ b = 0) := by
  rcases x with n | i | r | n
  · rcases y with n2 | i2 | r2 | n2
    · have h : (match fx_bin o n n2 with | some n => some (fc n) | none => none) = some w := h
      cases hb : fx_bin o n n2 with
      | none => rw [hb] at h; cases h
      | some m =>
        rw [hb] at h
        cases h
        obtain ⟨-, h1, h2⟩ := fx_bin_ok hb
        exact ⟨_, _, hx, hy, by show Value.int _ = .int _; rw [h1], h2⟩
    · have h : fx_if (Nat.beq o 0 && Nat.beq n 0) (some (fv i2)) (fx_if (Nat.beq o 2 && Nat.beq n 0) (some (fc 0)) (fx_if (Nat.beq o 3 || Nat.beq o 4) none (some (fv 0)))) = some w := h
      obtain ⟨z, hz⟩ := fx_rv_var hy
      cases h1 : (Nat.beq o 0 && Nat.beq n 0) with
      | true =>
        rw [h1, fx_if_t] at h
        cases h
        obtain ⟨e1, e2⟩ := fx_and h1
        have e1 := fx_beq e1
        have e2 := fx_beq e2
        subst e1; subst e2
        refine ⟨_, z, hx, hz, ?_, by omega⟩
        show fx_rv X (fv i2) (.int (Int32.ofNat 0 + z))
        rw [fx_z0, Int32.zero_add, ← hz]
        exact hy
      | false =>
        rw [h1, fx_if_f] at h
        cases h2 : (Nat.beq o 2 && Nat.beq n 0) with
        | true =>
          rw [h2, fx_if_t] at h
          cases h
          obtain ⟨e1, e2⟩ := fx_and h2
          have e1 := fx_beq e1
          have e2 := fx_beq e2
          subst e1; subst e2
          refine ⟨_, z, hx, hz, ?_, by omega⟩
          show Value.int (Int32.ofNat 0 * z) = .int (Int32.ofNat 0)
          rw [fx_z0, Int32.zero_mul]
        | false =>
          rw [h2, fx_if_f] at h
          cases h3 : (Nat.beq o 3 || Nat.beq o 4) with
          | true => rw [h3, fx_if_t] at h; cases h
          | false =>
            rw [h3, fx_if_f] at h
            cases h
            refine ⟨_, z, hx, hz, ⟨_, rfl⟩, fun q => ?_⟩
            rcases q with q | q <;> subst q <;> cases h3
    · cases h
    · cases h
  · rcases y with n2 | i2 | r2 | n2
    · have h : fx_if (Nat.beq o 0 && Nat.beq n2 0) (some (fv i)) (fx_if (Nat.beq o 2 && Nat.beq n2 0) (some (fc 0)) (fx_if (Nat.beq o 5 && (Nat.beq n2 63 && Nat.beq i 1)) (some (fv 7)) (fx_if ((Nat.beq o 3 || Nat.beq o 4) && (Nat.beq (n2 % 4294967296) 0)) none (some (fv 0))))) = some w := h
      obtain ⟨z, hz⟩ := fx_rv_var hx
      cases h1 : (Nat.beq o 0 && Nat.beq n2 0) with
      | true =>
        rw [h1, fx_if_t] at h
        cases h
        obtain ⟨e1, e2⟩ := fx_and h1
        have e1 := fx_beq e1
        have e2 := fx_beq e2
        subst e1; subst e2
        refine ⟨z, _, hz, hy, ?_, by omega⟩
        show fx_rv X (fv i) (.int (z + Int32.ofNat 0))
        rw [fx_z0, Int32.add_zero, ← hz]
        exact hx
      | false =>
        rw [h1, fx_if_f] at h
        cases h2 : (Nat.beq o 2 && Nat.beq n2 0) with
        | true =>
          rw [h2, fx_if_t] at h
          cases h
          obtain ⟨e1, e2⟩ := fx_and h2
          have e1 := fx_beq e1
          have e2 := fx_beq e2
          subst e1; subst e2
          refine ⟨z, _, hz, hy, ?_, by omega⟩
          show Value.int (z * Int32.ofNat 0) = .int (Int32.ofNat 0)
          rw [fx_z0, Int32.mul_zero]
        | false =>
          rw [h2, fx_if_f] at h
          cases h3 : (Nat.beq o 5 && (Nat.beq n2 63 && Nat.beq i 1)) with
          | true =>
            rw [h3, fx_if_t] at h
            cases h
            obtain ⟨e1, e2⟩ := fx_and h3
            obtain ⟨e2, e3⟩ := fx_and e2
            have e1 := fx_beq e1
            have e2 := fx_beq e2
            have e3 := fx_beq e3
            subst e1; subst e2; subst e3
            have hx : u = .int (X.1 1) := hx
            refine ⟨X.1 1, _, hx, hy, ?_, by omega⟩
            show Value.int (X.1 1 &&& Int32.ofNat 63) = .int (X.1 7)
            rw [h7]
            rfl
          | false =>
            rw [h3, fx_if_f] at h
            cases h4 : ((Nat.beq o 3 || Nat.beq o 4) && (Nat.beq (n2 % 4294967296) 0)) with
            | true => rw [h4, fx_if_t] at h; cases h
            | false =>
              rw [h4, fx_if_f] at h
              cases h
              refine ⟨z, _, hz, hy, ⟨_, rfl⟩, fun q hq => ?_⟩
              have e : Nat.beq (n2 % 4294967296) 0 = false := by
                rcases q with q | q <;> subst q <;> simpa using h4
              have e2 := fx_bnq e
              rw [← fx_o_mod] at hq
              have hb : n2 % 4294967296 < 4294967296 := Nat.mod_lt _ (by decide)
              have h9 := congrArg fx_z hq
              rw [show (0 : Int32) = Int32.ofNat 0 from rfl, fx_z_of, fx_z_of] at h9
              have h9 : (n2 % 4294967296 + 2147483648) % 4294967296 = 2147483648 := h9
              omega
    · have h : fx_if (Nat.beq o 3 || Nat.beq o 4) none (some (fv 0)) = some w := h
      obtain ⟨z, hz⟩ := fx_rv_var hx
      obtain ⟨z2, hz2⟩ := fx_rv_var hy
      cases h3 : (Nat.beq o 3 || Nat.beq o 4) with
      | true => rw [h3, fx_if_t] at h; cases h
      | false =>
        rw [h3, fx_if_f] at h
        cases h
        refine ⟨z, z2, hz, hz2, ⟨_, rfl⟩, fun q => ?_⟩
        rcases q with q | q <;> subst q <;> cases h3
    · cases h
    · cases h
  · rcases y with n2 | i2 | r2 | n2 <;> cases h
  · rcases y with n2 | i2 | r2 | n2 <;> cases h
/-- arrays -/
theorem fx_aget_def (ty : Nat) (u : List (Nat × fx_V)) (n : Nat) : fx_aget ty u n = (match fx_look u n with
  | some v => v
  | none => fx_dft ty) := rfl
theorem fx_veq_ok {X : fx_X} {x y : fx_V} (h : fx_veq x y = true) : x = y := by
  rcases x with a | a | a | a <;> rcases y with b | b | b | b
  · have := fx_beq (show Nat.beq a b = true from h); rw [this]
  · cases h
  · cases h
  · cases h
  · cases a <;> cases h
  · cases a with
    | zero => cases h
    | succ a =>
      cases b with
      | zero => cases h
      | succ b => have := fx_beq (show Nat.beq a b = true from h); rw [this]
  · cases a <;> cases h
  · cases a <;> cases h
  · cases a <;> cases h
  · cases a <;> cases h
  · cases a with
    | none =>
      cases b with
      | none => rfl
      | some b => cases h
    | some a =>
      cases b with
      | none => cases h
      | some b => have := fx_beq (show Nat.beq a b = true from h); rw [this]
  · cases a <;> cases h
  · cases h
  · cases h
  · cases h
  · have := fx_beq (show Nat.beq a b = true from h); rw [this]
theorem fx_aset_ok {ty : Nat} {u : List (Nat × fx_V)} {n : Nat} {v : fx_V} {k : List (Nat × fx_V) → Bool} (e : fx_aset ty u n v k = true) : ∃ u', k u' = true ∧ fx_aget ty u' n = v ∧ ∀ i, i ≠ n → fx_aget ty u' i = fx_aget ty u i := by
  unfold fx_aset at e
  cases h1 : fx_veq v (fx_aget ty u n) with
  | true =>
    rw [h1, fx_if_t] at e
    exact ⟨u, e, (fx_veq_ok (X := (fun _ => 0, 0, fun _ => .null)) h1).symm, fun _ _ => rfl⟩
  | false =>
    rw [h1, fx_if_f, fx_without_eq] at e
    cases h2 : fx_veq v (fx_dft ty) with
    | true =>
      rw [h2, fx_if_t] at e
      refine ⟨_, e, ?_, fun i hi => ?_⟩
      · rw [fx_aget_def, fx_look_gone]
        exact (fx_veq_ok (X := (fun _ => 0, 0, fun _ => .null)) h2).symm
      · rw [fx_aget_def, fx_aget_def, fx_look_out i n hi]
    | false =>
      rw [h2, fx_if_f] at e
      refine ⟨_, e, ?_, fun i hi => ?_⟩
      · rw [fx_aget_def, fx_look_hit]
      · rw [fx_aget_def, fx_aget_def, fx_look_miss _ _ (Ne.symm hi), fx_look_out i n hi]
theorem fx_copy_ok {s d : List (Nat × fx_V)} {sp dp : Nat} : ∀ {n : Nat} {k : List (Nat × fx_V) → Bool}, fx_copy s d sp dp n k = true → ∃ u, k u = true ∧ ∀ i, fx_aget 0 u i = if dp ≤ i ∧ i < dp + n then fx_aget 0 s (sp + (i - dp)) else fx_aget 0 d i := by
  intro n
  induction n with
  | zero =>
    intro k e
    exact ⟨d, e, fun i => by rw [if_neg (by omega)]⟩
  | succ n ih =>
    intro k e
    obtain ⟨u, e1, h1⟩ := ih (k := fun u => fx_aset 0 u (dp + n) (fx_aget 0 s (sp + n)) k) e
    obtain ⟨u', e2, h2, h3⟩ := fx_aset_ok e1
    refine ⟨u', e2, fun i => ?_⟩
    by_cases hi : i = dp + n
    · subst hi
      rw [h2, if_pos (by omega), show dp + n - dp = n by omega]
    · rw [h3 i hi, h1 i]
      by_cases hc : dp ≤ i ∧ i < dp + n
      · rw [if_pos hc, if_pos (by omega)]
      · rw [if_neg hc, if_neg (by omega)]
