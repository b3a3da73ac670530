theorem hu_201 : ru_u fm_201.1 = true := by decide +kernel
theorem rb_le0 {x : Nat} (h : x < 2147483648) : fx_con 5 (fx_b x) 2147483648 = Nat.ble x 0 := by
  rw [ai_con5, rb_small h]
  cases x with
  | zero => rfl
  | succ x =>
    cases hb : Nat.ble (x + 1 + 2147483648) 2147483648 with
    | true => have := fx_ble hb; omega
    | false => rfl
theorem ic_h_divisor {l : Launch} {X : fx_X} {Y : fx_Y} {B : fx_B} {P : fx_H → Prop} (he : ai_env X B) : ai_con l X Y B ai_T0 P 201 ii_h_divisor := by
  intro ws h h1 h2 h3 h4
  have h1 : ai_as [.inl (2147483649, 2247483648), .inl (2147483648, 2247483648)] ws := h1
  rcases ws with _ | ⟨w, _ | ⟨w2, _ | ⟨w3, ws⟩⟩⟩
  · exact h1.elim
  · exact h1.2.elim
  · obtain ⟨⟨n, rfl, hn, n1, n2⟩, ⟨m, rfl, hm, m1, m2⟩, -⟩ := h1
    have en : fx_b n = (n + 2147483648) % 4294967296 := rfl
    have em : fx_b m = (m + 2147483648) % 4294967296 := rfl
    refine ru_met (M := fm_201) rfl rfl (by simp [fm_201]) ?_
    have hu := hu_201
    -- from the loop's head: y falls
    have loop : ∀ k y x, y ≤ k → 1 ≤ x → x ≤ 100000000 → y ≤ 100000000 → ru l X Y B 0 fm_201.1 4 [(3, fc y), (2, fc x)] [] h (fun v h' => ai_res ii_h_divisor.2.1.1 v ∧ (∀ q ∈ ii_h_divisor.2.1.2, ai_at h' q) ∧ ai_inv ai_T0 h' ∧ ai_fr ii_h_divisor.2.2.1 h h' ∧ P h') := by
      intro k
      induction k with
      | zero =>
        intro y x hy hx1 hx2 hy2
        refine w_ld he hu rfl rfl rfl rfl rfl ?_
        refine w_cmp0 he hu rfl rfl rfl (ru_ne rfl) (fun c1 => ?_) (fun c1 => ?_)
        · refine w_ld he hu rfl rfl rfl rfl rfl ?_
          have ex := rb_small (x := x) (by omega)
          exact w_iret he hu rfl rfl ⟨⟨x, rfl, by omega, by omega, by omega⟩, fun q hq => (by cases hq), h3, ai_fr_refl, h4⟩
        · rw [rb_le0 (by omega)] at c1
          have := fx_nle c1
          omega
      | succ k ih =>
        intro y x hy hx1 hx2 hy2
        refine w_ld he hu rfl rfl rfl rfl rfl ?_
        refine w_cmp0 he hu rfl rfl rfl (ru_ne rfl) (fun c1 => ?_) (fun c1 => ?_)
        · refine w_ld he hu rfl rfl rfl rfl rfl ?_
          have ex := rb_small (x := x) (by omega)
          exact w_iret he hu rfl rfl ⟨⟨x, rfl, by omega, by omega, by omega⟩, fun q hq => (by cases hq), h3, ai_fr_refl, h4⟩
        · rw [rb_le0 (by omega)] at c1
          have y0 := fx_nle c1
          refine w_ld he hu rfl rfl rfl rfl rfl ?_
          refine w_ld he hu rfl rfl rfl rfl rfl ?_
          refine w_bin hu rfl rfl (fun _ => fx_o_ne (by omega) y0) ?_
          rw [rop_rem (by omega) (by omega)]
          refine w_st he hu rfl rfl rfl rfl ?_
          refine w_ld he hu rfl rfl rfl rfl rfl ?_
          refine w_st he hu rfl rfl rfl rfl ?_
          refine w_ld he hu rfl rfl rfl rfl rfl ?_
          refine w_st he hu rfl rfl rfl rfl ?_
          refine w_go he hu rfl (ru_ne rfl) ?_
          have hlt : x % y < y := Nat.mod_lt x y0
          exact ru_sub [(3, fc (x % y)), (2, fc y)] ⟨rfl, rfl, trivial⟩ (ih (x % y) y (by omega) y0 hy2 (by omega))
    refine w_ld he hu rfl rfl rfl rfl rfl ?_
    refine w_st he hu rfl rfl rfl rfl ?_
    refine w_ld he hu rfl rfl rfl rfl rfl ?_
    refine w_st he hu rfl rfl rfl rfl ?_
    exact ru_sub [(3, fc m), (2, fc n)] ⟨rfl, rfl, trivial⟩ (loop m m n (Nat.le_refl _) (by omega) (by omega) (by omega))
  · exact h1.2.2.elim
