theorem hu_214 : ru_u fm_214.1 = true := by decide +kernel
theorem hu_230 : ru_u fm_230.1 = true := by decide +kernel
theorem rc_lt {x y : Nat} (hx : x < 2147483648) (hy : y < 2147483648) : fx_con 2 (fx_b x) (fx_b y) = Nat.blt x y := by
  rw [ai_con2, rb_small hx, rb_small hy]
  cases hb : Nat.blt x y with
  | true => exact rx_ble (by have := fx_blt hb; omega)
  | false =>
    cases hc : Nat.blt (x + 2147483648) (y + 2147483648) with
    | true => have := fx_blt hc; have := fx_nlt hb; omega
    | false => rfl
theorem rc_gt {x y : Nat} (hx : x < 2147483648) (hy : y < 2147483648) : fx_con 4 (fx_b x) (fx_b y) = Nat.blt y x := by
  have e := rc_lt hy hx
  rw [ai_con2] at e
  rw [ai_con4]
  exact e
theorem rc_eq0 {x : Nat} (hx : x < 2147483648) : fx_con 0 (fx_b x) 2147483648 = Nat.beq x 0 := by
  rw [ai_con0, rb_small hx]
  cases hb : Nat.beq x 0 with
  | true => rw [fx_beq hb]; rfl
  | false =>
    cases hc : Nat.beq (x + 2147483648) 2147483648 with
    | true => have := fx_beq hc; have := fx_bnq hb; omega
    | false => rfl
theorem bb_ne {x y : Nat} (h : (!(Nat.beq x y)) = true) : x ≠ y := fun q => by
  rw [q, Nat.beq_refl] at h
  cases h
theorem bb_eq {x y : Nat} (h : (!(Nat.beq x y)) = false) : x = y := by
  cases hb : Nat.beq x y with
  | true => exact fx_beq hb
  | false => rw [hb] at h; cases h
section CO
variable {l : Launch} {X : fx_X} {Y : fx_Y} {B : fx_B} {K : rx_K} {d : Nat}
theorem il_met (he : ai_env X B) {h : fx_H} {x : Nat} (hx : x < 2147483648) : rx_met l X Y B 214 d [fc x] h (fun v h' => h' = h ∧ ((v = some (fc 1) ∧ 97 ≤ x ∧ x ≤ 122) ∨ (v = some (fc 0) ∧ ¬ (97 ≤ x ∧ x ≤ 122)))) := by
  refine ru_met (M := fm_214) rfl rfl (by simp [fm_214]) ?_
  have hu := hu_214
  refine w_ld he hu rfl rfl rfl rfl rfl ?_
  refine w_c he hu rfl rfl rfl rfl ?_
  refine w_cmp he hu rfl rfl rfl (ru_ne rfl) (fun c1 => ?_) (fun c1 => ?_)
  · rw [rc_lt (by omega) (by omega)] at c1
    have c1 := fx_blt c1
    refine w_c he hu rfl rfl rfl rfl ?_
    exact w_iret he hu rfl rfl ⟨rfl, Or.inr ⟨rfl, by omega⟩⟩
  · rw [rc_lt (by omega) (by omega)] at c1
    have c1 := fx_nlt c1
    refine w_ld he hu rfl rfl rfl rfl rfl ?_
    refine w_c he hu rfl rfl rfl rfl ?_
    refine w_cmp he hu rfl rfl rfl (ru_ne rfl) (fun c2 => ?_) (fun c2 => ?_)
    · rw [rc_gt (by omega) (by omega)] at c2
      have c2 := fx_blt c2
      refine w_c he hu rfl rfl rfl rfl ?_
      exact w_iret he hu rfl rfl ⟨rfl, Or.inr ⟨rfl, by omega⟩⟩
    · rw [rc_gt (by omega) (by omega)] at c2
      have c2 := fx_nlt c2
      refine w_c he hu rfl rfl rfl rfl ?_
      refine w_go he hu rfl (ru_ne rfl) ?_
      exact w_iret he hu rfl rfl ⟨rfl, Or.inl ⟨rfl, by omega, by omega⟩⟩
theorem mo_code_fr {h h' : fx_H} {m : ai_M} (hm : (m.1.all (fun p => !(p / 4096 == 91)) && m.2.all (fun c => !(c == 91))) = true) (hf : ai_fr m h h') {k : Nat} (hk : k < 4096) : mo_code h' k = mo_code h k := by
  unfold mo_code
  obtain ⟨h1, h2⟩ := fx_and hm
  have h1 := List.all_eq_true.mp h1
  have h2 := List.all_eq_true.mp h2
  refine gv_fr (hf _ (mo_mem_no (fun y hy e => ?_)) (mo_mem_no (fun y hy e => ?_)))
  · have h3 := h1 y hy
    rw [e, ai_p1 hk] at h3
    simp at h3
  · have h3 := h2 y hy
    rw [e, ai_p1 hk] at h3
    simp at h3
/-- asked, two: any int comes back, nothing has changed -/
abbrev cm_any (l : Launch) (X : fx_X) (Y : fx_Y) (B : fx_B) (d c : Nat) (as : List fx_V) (h : fx_H) : Prop := rx_met l X Y B c d as h (fun v h' => ∃ z, v = some (fc z) ∧ z < 4294967296 ∧ ai_inv ai_T0 h' ∧ ai_fr ([], []) h h')
theorem cm_loop (he : ai_env X B) {b r E : Nat} (hb : b < 2) (hr : r < 2) (hE : E ≤ 1120) (hA : ∀ h c n, ai_inv ai_T0 h → gv h 274469 = b → (b = 1 → 1 ≤ gv h 286721) → c < 4294967296 → n < 4294967296 → cm_any l X Y B d 262 [fr 67, fc c, fc n] h) (hT : ∀ h c x y, ai_inv ai_T0 h → c < 4294967296 → x < 4294967296 → y < 4294967296 → cm_any l X Y B d 263 [fc c, fc x, fc y] h) : ∀ n k t h, k + n = E → ai_inv ai_T0 h → gv h 274469 = b → (b = 1 → 1 ≤ gv h 286721) → gv h (85 * 4096 + (2 * b + r)) = E → mo_wf (mo_code h) k n t → t ≤ 60 → (∀ h', ai_inv ai_T0 h' → ai_fr ([], [95]) h h' → ru l X Y B (d + 1) fm_230.1 143 [(0, fr 67)] [] h' K) → ru l X Y B (d + 1) fm_230.1 16 [(3, fc k), (2, fc t), (1, fc r), (0, fr 67)] [] h K := by
  have hu := hu_230
  intro n
  induction n with
  | zero =>
    intro k t h hk hI hbk hcol hto hwf ht kk
    refine w_ld he hu rfl rfl rfl rfl rfl ?_
    refine w_ld he hu rfl rfl rfl rfl rfl ?_
    refine w_gr 274458 85 he hu hI rfl rfl rfl rfl ?_
    refine w_c he hu rfl rfl rfl rfl ?_
    refine w_ld he hu rfl rfl rfl rfl rfl ?_
    refine w_gi 274469 he hu hI rfl rfl rfl rfl ?_
    refine w_bin hu rfl rfl (fun q => by omega) ?_
    refine w_ld he hu rfl rfl rfl rfl rfl ?_
    refine w_bin hu rfl rfl (fun q => by omega) ?_
    rw [hbk, rop_mul (by omega), rop_add (by omega)]
    refine w_ald he hu hI rfl rfl rfl rfl (by omega) ?_
    rw [hto]
    refine w_cmp he hu rfl rfl rfl (ru_ne rfl) (fun c1 => ?_) (fun c1 => ?_)
    · exact ru_sub [(0, fr 67)] ⟨rfl, trivial⟩ (kk h hI ai_fr_refl)
    · rw [rc_ge (by omega) (by omega)] at c1
      have := fx_nle c1
      omega
  | succ n ih =>
    intro k t h hk hI hbk hcol hto hwf ht kk
    refine w_ld he hu rfl rfl rfl rfl rfl ?_
    refine w_ld he hu rfl rfl rfl rfl rfl ?_
    refine w_gr 274458 85 he hu hI rfl rfl rfl rfl ?_
    refine w_c he hu rfl rfl rfl rfl ?_
    refine w_ld he hu rfl rfl rfl rfl rfl ?_
    refine w_gi 274469 he hu hI rfl rfl rfl rfl ?_
    refine w_bin hu rfl rfl (fun q => by omega) ?_
    refine w_ld he hu rfl rfl rfl rfl rfl ?_
    refine w_bin hu rfl rfl (fun q => by omega) ?_
    rw [hbk, rop_mul (by omega), rop_add (by omega)]
    refine w_ald he hu hI rfl rfl rfl rfl (by omega) ?_
    rw [hto]
    refine w_cmp he hu rfl rfl rfl (ru_ne rfl) (fun c1 => ?_) (fun c1 => ?_)
    · rw [rc_ge (by omega) (by omega)] at c1
      have := fx_ble c1
      omega
    refine w_ld he hu rfl rfl rfl rfl rfl ?_
    refine w_gr 274464 91 he hu hI rfl rfl rfl rfl ?_
    refine w_ld he hu rfl rfl rfl rfl rfl ?_
    refine w_ald he hu hI rfl rfl rfl rfl (by omega) ?_
    obtain ⟨qc, qc1, qc2, qc3, qc4, -⟩ := gv_arr (r := 91) (i := k) hI rfl (by decide) (by decide) (by omega)
    have hqc : qc = (2147483648, 2147483903) := by
      have e : k % 1 = 0 := by omega
      rw [show ([(2147483648, 2147483903)] : List (Nat × Nat)).length = 1 from rfl, e] at qc1
      exact (Option.some.inj qc1).symm
    rw [hqc] at qc3 qc4
    generalize hcv : gv h (91 * 4096 + k) = cv at qc2 qc3 qc4 ⊢
    have ecv : fx_b cv = (cv + 2147483648) % 4294967296 := rfl
    have hcv2 : cv ≤ 255 := by
      simp only at qc3 qc4
      omega
    have hck : mo_code h k = cv := hcv
    obtain ⟨w1, w2, w3⟩ := hwf
    rw [hck] at w1 w2 w3
    refine w_st he hu rfl rfl rfl rfl ?_
    refine w_ld he hu rfl rfl rfl rfl rfl ?_
    refine w_c he hu rfl rfl rfl rfl ?_
    -- what comes behind a store into the pile
    have back : ∀ h1 t', ai_inv ai_T0 h1 → ai_fr ([], [95]) h h1 → t' ≤ 60 → mo_wf (mo_code h) (k + 1) n t' → ∀ loc, fx_look loc 3 = some (fc k) → fx_look loc 2 = some (fc t') → fx_look loc 1 = some (fc r) → fx_look loc 0 = some (fr 67) → ru l X Y B (d + 1) fm_230.1 137 loc [] h1 K := fun h1 t' i1 i2 i3 i4 loc l3 l2 l1 l0 => by
      refine ru_sub [(3, fc k), (2, fc t'), (1, fc r), (0, fr 67)] ⟨l3, l2, l1, l0, trivial⟩ ?_
      refine w_inc he hu rfl rfl rfl ?_
      rw [rm_inc (by omega)]
      refine w_go he hu rfl (ru_ne rfl) ?_
      have g1 : gv h1 274469 = gv h 274469 := gv_fr (i2 _ rfl rfl)
      have g2 : gv h1 286721 = gv h 286721 := gv_fr (i2 _ rfl rfl)
      have g3 : gv h1 (85 * 4096 + (2 * b + r)) = gv h (85 * 4096 + (2 * b + r)) := gv_fr (i2 _ rfl (by rw [ai_p1 (by omega)]; rfl))
      refine ih (k + 1) t' h1 (by omega) i1 (by omega) (by rw [g2]; exact hcol) (by omega) (mo_wf_ext (fun i e1 e2 => mo_code_fr (by decide) i2 (by omega)) i4) i3 (fun h' j1 j2 => kk h' j1 (ai_fr_trans i2 j2))
    have stp : ∀ h0 h1 i v, i < 60 → ru_upd h0 h1 (95 * 4096 + i) v → ai_fr ([], [95]) h0 h1 := fun h0 h1 i v e1 e2 => e2.fr (Or.inr (by rw [ai_p1 (by omega)]; rfl))
    refine w_cmp he hu rfl rfl rfl (ru_ne rfl) (fun c2 => ?_) (fun c2 => ?_)
    · rw [rc_ne (by omega) (by omega)] at c2
      have c2 := bb_ne c2
      refine w_ld he hu rfl rfl rfl rfl rfl ?_
      refine w_callS he hu rfl rfl rfl rfl (il_met he (by omega)) (fun v h1 q => ?_)
      obtain ⟨rfl, q⟩ := q
      rcases q with ⟨rfl, q1, q2⟩ | ⟨rfl, q1⟩
      · refine w_cmp0 he hu rfl rfl rfl (ru_ne rfl) (fun c3 => by cases c3) (fun c3 => ?_)
        obtain ⟨t1, t2⟩ := w2 ⟨q1, q2⟩
        refine w_ld he hu rfl rfl rfl rfl rfl ?_
        refine w_gr 274468 95 he hu hI rfl rfl rfl rfl ?_
        refine w_ld he hu rfl rfl rfl rfl rfl ?_
        refine w_ld he hu rfl rfl rfl rfl rfl ?_
        refine w_ld he hu rfl rfl rfl rfl rfl ?_
        refine w_ld he hu rfl rfl rfl rfl rfl ?_
        refine w_gr 274465 92 he hu hI rfl rfl rfl rfl ?_
        refine w_ld he hu rfl rfl rfl rfl rfl ?_
        refine w_ald he hu hI rfl rfl rfl rfl (by omega) ?_
        obtain ⟨qn, -, qn2, -⟩ := gv_arr (r := 92) (i := k) hI rfl (by decide) (by decide) (by omega)
        refine w_callM he hu hI rfl rfl rfl rfl (hA _ cv _ hI hbk hcol (by omega) qn2) (fun v h2 q => ?_)
        obtain ⟨z, rfl, z1, i1, i2⟩ := q
        refine w_ast he hu i1 rfl rfl rfl rfl (by omega) (by rw [show t % ([(0, 4294967295)] : List (Nat × Nat)).length = 0 by show t % 1 = 0; omega]; rfl) z1 (Nat.zero_le _) (Nat.le_of_lt_succ (rx_b_lt z)) (fun h3 u3 i3 => ?_)
        refine w_inc he hu rfl rfl rfl ?_
        rw [rm_inc (by omega)]
        refine w_go he hu rfl (ru_ne rfl) ?_
        exact back h3 (t + 1) i3 (ai_fr_trans (ai_fr_of i2 (by decide)) (stp _ _ t _ t1 u3)) (by omega) t2 _ rfl rfl rfl rfl
      · refine w_cmp0 he hu rfl rfl rfl (ru_ne rfl) (fun c3 => ?_) (fun c3 => by cases c3)
        obtain ⟨t1, t2⟩ := w3 c2 q1
        refine w_inc he hu rfl rfl rfl ?_
        rw [show Nat.mod (Nat.add t 4294967295) 4294967296 = t - 1 by show (t + 4294967295) % 4294967296 = t - 1; omega]
        refine w_ld he hu rfl rfl rfl rfl rfl ?_
        refine w_gr 274468 95 he hu hI rfl rfl rfl rfl ?_
        refine w_ld he hu rfl rfl rfl rfl rfl ?_
        refine w_c he hu rfl rfl rfl rfl ?_
        refine w_bin hu rfl rfl (fun q => by omega) ?_
        rw [rop_sub (by omega) (by omega)]
        refine w_ld he hu rfl rfl rfl rfl rfl ?_
        refine w_ld he hu rfl rfl rfl rfl rfl ?_
        refine w_gr 274468 95 he hu hI rfl rfl rfl rfl ?_
        refine w_ld he hu rfl rfl rfl rfl rfl ?_
        refine w_c he hu rfl rfl rfl rfl ?_
        refine w_bin hu rfl rfl (fun q => by omega) ?_
        rw [rop_sub (by omega) (by omega)]
        refine w_ald he hu hI rfl rfl rfl rfl (by omega) ?_
        refine w_ld he hu rfl rfl rfl rfl rfl ?_
        refine w_gr 274468 95 he hu hI rfl rfl rfl rfl ?_
        refine w_ld he hu rfl rfl rfl rfl rfl ?_
        refine w_ald he hu hI rfl rfl rfl rfl (by omega) ?_
        obtain ⟨qx, -, qx2, -⟩ := gv_arr (r := 95) (i := t - 1 - 1) hI rfl (by decide) (by decide) (by omega)
        obtain ⟨qy, -, qy2, -⟩ := gv_arr (r := 95) (i := t - 1) hI rfl (by decide) (by decide) (by omega)
        refine w_callS he hu rfl rfl rfl rfl (hT _ cv _ _ hI (by omega) qx2 qy2) (fun v h2 q => ?_)
        obtain ⟨z, rfl, z1, i1, i2⟩ := q
        refine w_ast he hu i1 rfl rfl rfl rfl (by omega) (by rw [show (t - 1 - 1) % ([(0, 4294967295)] : List (Nat × Nat)).length = 0 by show (t - 1 - 1) % 1 = 0; omega]; rfl) z1 (Nat.zero_le _) (Nat.le_of_lt_succ (rx_b_lt z)) (fun h3 u3 i3 => ?_)
        exact back h3 (t - 1) i3 (ai_fr_trans (ai_fr_of i2 (by decide)) (stp _ _ (t - 1 - 1) _ (by omega) u3)) (by omega) t2 _ rfl rfl rfl rfl
    · rw [rc_ne (by omega) (by omega)] at c2
      have c2 := bb_eq c2
      obtain ⟨t1, t2⟩ := w1 c2
      refine w_ld he hu rfl rfl rfl rfl rfl ?_
      refine w_gr 274468 95 he hu hI rfl rfl rfl rfl ?_
      refine w_ld he hu rfl rfl rfl rfl rfl ?_
      refine w_c he hu rfl rfl rfl rfl ?_
      refine w_bin hu rfl rfl (fun q => by omega) ?_
      rw [rop_sub (by omega) (by omega)]
      refine w_ld he hu rfl rfl rfl rfl rfl ?_
      refine w_gr 274468 95 he hu hI rfl rfl rfl rfl ?_
      refine w_ld he hu rfl rfl rfl rfl rfl ?_
      refine w_c he hu rfl rfl rfl rfl ?_
      refine w_bin hu rfl rfl (fun q => by omega) ?_
      rw [rop_sub (by omega) (by omega)]
      refine w_ald he hu hI rfl rfl rfl rfl (by omega) ?_
      have sto : ∀ z, z < 2 → ru l X Y B (d + 1) fm_230.1 71 [(4, fc cv), (3, fc k), (2, fc t), (1, fc r), (0, fr 67)] [fc z, fc (t - 1), fr 95] h K := fun z hz => by
        refine w_ast he hu hI rfl rfl rfl rfl (by omega) (by rw [show (t - 1) % ([(0, 4294967295)] : List (Nat × Nat)).length = 0 by show (t - 1) % 1 = 0; omega]; rfl) (by omega) (Nat.zero_le _) (Nat.le_of_lt_succ (rx_b_lt z)) (fun h3 u3 i3 => ?_)
        refine w_go he hu rfl (ru_ne rfl) ?_
        exact back h3 t i3 (stp _ _ (t - 1) _ (by omega) u3) ht t2 _ rfl rfl rfl rfl
      refine w_cmp0 he hu rfl rfl rfl (ru_ne rfl) (fun c3 => ?_) (fun c3 => ?_)
      · refine w_c he hu rfl rfl rfl rfl ?_
        exact sto 0 (by decide)
      · refine w_c he hu rfl rfl rfl rfl ?_
        refine w_go he hu rfl (ru_ne rfl) ?_
        exact sto 1 (by decide)
end CO
