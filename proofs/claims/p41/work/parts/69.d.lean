section LC
variable {l : Launch} {X : fx_X} {Y : fx_Y} {B : fx_B} {i : Nat}
set_option maxRecDepth 100000 in
theorem lc_later (he : ai_env X B) (hL : B.2.1 ≤ 3072) (hi : i + 6 ≤ B.2.1) (kk : ∀ h, la_J h → rv l X Y B 64 fw_law 1409 (lw_l i) [] h lw_K) {h : fx_H} (hJ : la_J h) : rv l X Y B 64 fw_law 1251 (lw_l i) [] h lw_K := by
  have hu := hu_law
  refine v_ld he hu rfl rfl rfl rfl rfl ?_
  refine v_ld he hu rfl rfl rfl rfl rfl ?_
  refine v_ld he hu rfl rfl rfl rfl rfl ?_
  refine v_c he hu rfl rfl rfl rfl ?_
  refine v_bin hu rfl rfl (fun q => by omega) ?_
  rw [rop_add (by omega)]
  refine v_sld he hu rfl rfl (by omega) ?_
  obtain ⟨⟨j1, j2, j3, j4⟩, j5, j6⟩ := hJ
  refine v_callX he hu j1 rfl rfl rfl rfl (lx_met (d := 62) he j1 (rx_n_lt _) j6) (fun v h1 q => ?_)
  obtain ⟨q1, q2, q3⟩ := q
  have e1 : gv h1 274502 = gv h 274502 := gv_fr (q2 _ rfl rfl)
  have e2 : gv h1 274469 = gv h 274469 := gv_fr (q2 _ rfl rfl)
  have e3 : gv h1 286721 = gv h 286721 := gv_fr (q2 _ rfl rfl)
  have e4 : gv h1 274485 = gv h 274485 := gv_fr (q2 _ rfl rfl)
  have e5 : gv h1 274486 = gv h 274486 := gv_fr (q2 _ rfl rfl)
  have P1 : mo_P h1 := mo_P_fr rfl _ _ j2 q2
  obtain ⟨z1, rfl⟩ : ∃ z1, v = some (fc z1) := by
    rcases q3 with ⟨-, -, rfl, -⟩ | ⟨-, rfl, -⟩
    · exact ⟨_, rfl⟩
    · exact ⟨_, rfl⟩
  refine v_ld he hu rfl rfl rfl rfl rfl ?_
  refine v_ld he hu rfl rfl rfl rfl rfl ?_
  refine v_ld he hu rfl rfl rfl rfl rfl ?_
  refine v_c he hu rfl rfl rfl rfl ?_
  refine v_bin hu rfl rfl (fun q => by omega) ?_
  rw [rop_add (by omega)]
  refine v_sld he hu rfl rfl (by omega) ?_
  refine v_callM he hu q1 rfl rfl rfl rfl (lm_met (d := 62) he q1 (rx_n_lt _) (by omega)) (fun v h2 r => ?_)
  obtain ⟨r1, r2, r3⟩ := r
  have g1 : gv h2 12 = gv h1 12 := gv_fr (r2 _ rfl rfl)
  have g2 : gv h2 274469 = gv h1 274469 := gv_fr (r2 _ rfl rfl)
  have g3 : gv h2 286721 = gv h1 286721 := gv_fr (r2 _ rfl rfl)
  have g4 : gv h2 274485 = gv h1 274485 := gv_fr (r2 _ rfl rfl)
  have g5 : gv h2 274486 = gv h1 274486 := gv_fr (r2 _ rfl rfl)
  have P2 : mo_P h2 := mo_P_fr rfl _ _ P1 r2
  have fin : v = some (fc z1) ∧ gv h2 12 = gv h2 274502 ∧ gv h2 12 ≤ 100000 := by
    generalize rx_n (B.2.2.1 (i + 1)) = w at q3 r3
    rcases q3 with ⟨a1, a2, a3, a4⟩ | ⟨a1, a3, a4⟩ <;> rcases r3 with ⟨b1, b2, b3, b4⟩ | ⟨b1, b3, b4⟩
    · have a3 : z1 = gv h 12 + w := by injection (Option.some.inj a3)
      refine ⟨by rw [b3, a3, e1, j5], by omega, by omega⟩
    · omega
    · omega
    · have a3 : z1 = 4294967295 := by injection (Option.some.inj a3)
      refine ⟨by rw [b3, a3], by omega, by omega⟩
  obtain ⟨rfl, f1, f2⟩ := fin
  refine v_cmp he hu rfl rfl rfl (ru_ne rfl) (fun c1 => ?_) (fun c1 => ?_)
  rotate_left
  · rw [ai_con0, Nat.beq_refl] at c1
    cases c1
  -- (1269, 3, 0, 1409, 0)
  exact kk _ ⟨⟨r1, P2, fun q => by have := j3 (by omega); omega, by omega⟩, f1, f2⟩
end LC
