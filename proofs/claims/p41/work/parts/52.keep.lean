theorem hu_151 : ru_u fm_151.1 = true := by decide +kernel
theorem hu_161 : ru_u fm_161.1 = true := by decide +kernel
/-- rows of 17: faces first -/
theorem mo_row {r len : Nat} {h : fx_H} (hI : ai_inv ai_T0 h) (hc : ai_cell ai_T0 r = some (.inr (0, len, [(2147483648, 2147483657), (2147483648, 2147483657), (2147483648, 2147483657), (2147483648, 2147483657), (2147483648, 2147483657), (2147483648, 2147483657), (2147483648, 2147483657), (0, 4294967295), (0, 4294967295), (0, 4294967295), (0, 4294967295), (0, 4294967295), (0, 4294967295), (0, 4294967295), (0, 4294967295), (0, 4294967295), (0, 4294967295)]))) (h4 : len < 4096) {i : Nat} (hi : i < len) {j : Nat} (hj : j % 17 = i % 17) : ∃ q, ([(2147483648, 2147483657), (2147483648, 2147483657), (2147483648, 2147483657), (2147483648, 2147483657), (2147483648, 2147483657), (2147483648, 2147483657), (2147483648, 2147483657), (0, 4294967295), (0, 4294967295), (0, 4294967295), (0, 4294967295), (0, 4294967295), (0, 4294967295), (0, 4294967295), (0, 4294967295), (0, 4294967295), (0, 4294967295)] : List (Nat × Nat))[j % 17]? = some q ∧ gv h (r * 4096 + i) < 4294967296 ∧ q.1 ≤ fx_b (gv h (r * 4096 + i)) ∧ fx_b (gv h (r * 4096 + i)) ≤ q.2 := by
  obtain ⟨q, h1, h2, h3, h5, -⟩ := gv_arr hI hc (by decide) h4 hi
  refine ⟨q, ?_, h2, h3, h5⟩
  rw [hj]
  exact h1
/-- comparisons of small numbers -/
theorem rc_ge {x y : Nat} (hx : x < 2147483648) (hy : y < 2147483648) : fx_con 3 (fx_b x) (fx_b y) = Nat.ble y x := by
  rw [ai_con3, rb_small hx, rb_small hy]
  cases hb : Nat.ble y x with
  | true => exact rx_ble (by have := fx_ble hb; omega)
  | false =>
    cases hc : Nat.ble (y + 2147483648) (x + 2147483648) with
    | true => have := fx_ble hc; have := fx_nle hb; omega
    | false => rfl
theorem rc_ne {x y : Nat} (hx : x < 2147483648) (hy : y < 2147483648) : fx_con 1 (fx_b x) (fx_b y) = !(Nat.beq x y) := by
  rw [ai_con1, rb_small hx, rb_small hy]
  cases hb : Nat.beq x y with
  | true => rw [fx_beq hb, Nat.beq_refl]
  | false =>
    cases hc : Nat.beq (x + 2147483648) (y + 2147483648) with
    | true => have := fx_beq hc; have := fx_bnq hb; omega
    | false => rfl
theorem rm_inc {x : Nat} (h : x + 1 < 4294967296) : Nat.mod (Nat.add x 1) 4294967296 = x + 1 := Nat.mod_eq_of_lt h
section KA
variable {l : Launch} {X : fx_X} {Y : fx_Y} {B : fx_B} {K : rx_K} {d : Nat}
/-- the act's row is laid down: from k on -/
theorem ka_second (he : ai_env X B) : ∀ n k h, n + k = 17 → ai_inv ai_T0 h → gv h 274485 ≤ 39 → (∀ h', ai_inv ai_T0 h' → ai_fr ([], [98]) h h' → ru l X Y B d fm_151.1 83 [(0, fr 67)] [] h' K) → ru l X Y B d fm_151.1 51 [(1, fc k), (0, fr 67)] [] h K := by
  have hu := hu_151
  intro n
  induction n with
  | zero =>
    intro k h hk hI ha kk
    refine w_ld he hu rfl rfl rfl rfl rfl ?_
    refine w_c he hu rfl rfl rfl rfl ?_
    refine w_cmp he hu rfl rfl rfl (ru_ne rfl) (fun c1 => ?_) (fun c1 => ?_)
    · exact ru_sub [(0, fr 67)] ⟨rfl, trivial⟩ (kk h hI ai_fr_refl)
    · rw [rc_ge (by omega) (by omega)] at c1
      have := fx_nle c1
      omega
  | succ n ih =>
    intro k h hk hI ha kk
    refine w_ld he hu rfl rfl rfl rfl rfl ?_
    refine w_c he hu rfl rfl rfl rfl ?_
    refine w_cmp he hu rfl rfl rfl (ru_ne rfl) (fun c1 => ?_) (fun c1 => ?_)
    · rw [rc_ge (by omega) (by omega)] at c1
      have := fx_ble c1
      omega
    · refine w_ld he hu rfl rfl rfl rfl rfl ?_
      refine w_gr 274484 98 he hu hI rfl rfl rfl rfl ?_
      refine w_c he hu rfl rfl rfl rfl ?_
      refine w_ld he hu rfl rfl rfl rfl rfl ?_
      refine w_gi 274485 he hu hI rfl rfl rfl rfl ?_
      refine w_bin hu rfl rfl (fun q => by omega) ?_
      refine w_ld he hu rfl rfl rfl rfl rfl ?_
      refine w_bin hu rfl rfl (fun q => by omega) ?_
      refine w_ld he hu rfl rfl rfl rfl rfl ?_
      refine w_gr 274482 96 he hu hI rfl rfl rfl rfl ?_
      refine w_ld he hu rfl rfl rfl rfl rfl ?_
      refine w_ald he hu hI rfl rfl rfl rfl (by omega) ?_
      rw [rop_mul (by omega), rop_add (by omega)]
      obtain ⟨q, q1, q2, q3, q4⟩ := mo_row (r := 96) (len := 17) hI rfl (by decide) (i := k) (by omega) (j := 17 * gv h 274485 + k) (by omega)
      refine w_ast he hu hI rfl rfl rfl rfl (by omega) q1 q2 q3 q4 (fun h1 u1 hI1 => ?_)
      refine w_inc he hu rfl rfl rfl ?_
      rw [rm_inc (by omega)]
      refine w_go he hu rfl (ru_ne rfl) ?_
      have f1 : ai_fr ([], [98]) h h1 := u1.fr (Or.inr (by rw [show (98 * 4096 + (17 * gv h 274485 + k)) / 4096 = 98 by omega]; rfl))
      refine ih (k + 1) h1 (by omega) hI1 ?_ (fun h' i1 i2 => kk h' i1 (ai_fr_trans f1 i2))
      rw [u1.off (by omega)]
      exact ha
end KA
