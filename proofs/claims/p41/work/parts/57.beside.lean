theorem hu_231 : ru_u fm_231.1 = true := by decide +kernel
theorem hu_26 : ru_u fm_26.1 = true := by decide +kernel
theorem hu_175 : ru_u fm_175.1 = true := by decide +kernel
theorem hu_174 : ru_u fm_174.1 = true := by decide +kernel
noncomputable def mo_pln (x : Nat) : Nat := if fx_con 3 (fx_b x) 2147483648 = true then x else rx_n (rx_uop 0 (Int32.ofNat x))
/-- are two beside each other: columns, seats -/
noncomputable def mo_abv (c a b : Nat) : Nat := if fx_con 2 (fx_b a) 2147483648 = true then 0 else if fx_con 3 (fx_b b) 2147483648 = true then (if fx_con 1 (fx_b (rop 0 (mo_pln (rop 1 (rop 4 a c) (rop 4 b c))) (mo_pln (rop 1 (rop 3 a c) (rop 3 b c))))) (fx_b 1) = true then 0 else 1) else 0
noncomputable def mo_ab (h : fx_H) (m o : Nat) : Nat := mo_abv (gv h (70 * 4096 + gv h 274469)) (gv h (96 * 4096 + (7 + m))) (gv h (96 * 4096 + (7 + o)))
noncomputable def mo_n (h : fx_H) : Nat := gv h (74 * 4096 + gv h 274469)
section BE
variable {l : Launch} {X : fx_X} {Y : fx_Y} {B : fx_B} {K : rx_K} {d : Nat}
theorem w_neg {cod : List fx_I} {loc : fx_L} {stk : List fx_V} {h : fx_H} {pc b c nx x : Nat} (hu : ru_u cod = true) (hat : ru_e cod pc = some (13, 0, b, c, nx)) (hl : nx = pc + (0 + 1)) (k : ru l X Y B d cod nx loc (fc (rx_n (rx_uop 0 (Int32.ofNat x))) :: stk) h K) : ru l X Y B d cod pc loc (fc x :: stk) h K := ru_raw hu hat (fun tl ht => rx_un (by decide) (ru_nx ht hl k))
theorem pl_met (he : ai_env X B) {h : fx_H} {x : Nat} : rx_met l X Y B 231 d [fc x] h (fun v h' => h' = h ∧ v = some (fc (mo_pln x))) := by
  refine ru_met (M := fm_231) rfl rfl (by simp [fm_231]) ?_
  have hu := hu_231
  refine w_ld he hu rfl rfl rfl rfl rfl ?_
  refine w_cmp0 he hu rfl rfl rfl (ru_ne rfl) (fun c1 => ?_) (fun c1 => ?_)
  · refine w_ld he hu rfl rfl rfl rfl rfl ?_
    refine w_iret he hu rfl rfl ⟨rfl, ?_⟩
    unfold mo_pln
    rw [if_pos c1]
  · refine w_ld he hu rfl rfl rfl rfl rfl ?_
    refine w_neg hu rfl rfl ?_
    refine w_go he hu rfl (ru_ne rfl) ?_
    refine w_iret he hu rfl rfl ⟨rfl, ?_⟩
    unfold mo_pln
    rw [if_neg (by rw [c1]; decide)]
theorem mo_n_le {h : fx_H} (hI : ai_inv ai_T0 h) : gv h 274469 < 2 ∧ mo_n h ≤ 7 := by
  obtain ⟨-, a1, a2⟩ := gv_nat (p := 274469) (lo := 0) (hi := 1) hI rfl (by decide)
  obtain ⟨q, q1, q2, q3, q4, -⟩ := gv_arr (r := 74) (i := gv h 274469) hI rfl (by decide) (by decide) (by omega)
  refine ⟨by omega, ?_⟩
  have hq : q = (2147483648, 2147483655) := by
    have e : gv h 274469 % 1 = 0 := by omega
    rw [show ([(2147483648, 2147483655)] : List (Nat × Nat)).length = 1 from rfl, e] at q1
    exact (Option.some.inj q1).symm
  rw [hq] at q3 q4
  unfold mo_n
  have e : fx_b (gv h (74 * 4096 + gv h 274469)) = (gv h (74 * 4096 + gv h 274469) + 2147483648) % 4294967296 := rfl
  simp only at q3 q4
  omega
theorem ny_met (he : ai_env X B) {h : fx_H} (hI : ai_inv ai_T0 h) : rx_met l X Y B 26 d [fr 67] h (fun v h' => h' = h ∧ v = some (fc (mo_n h))) := by
  refine ru_met (M := fm_26) rfl rfl (by simp [fm_26]) ?_
  have hu := hu_26
  obtain ⟨n1, -⟩ := mo_n_le hI
  refine w_ld he hu rfl rfl rfl rfl rfl ?_
  refine w_gr 274447 74 he hu hI rfl rfl rfl rfl ?_
  refine w_ld he hu rfl rfl rfl rfl rfl ?_
  refine w_gi 274469 he hu hI rfl rfl rfl rfl ?_
  refine w_ald he hu hI rfl rfl rfl rfl (by omega) ?_
  exact w_iret he hu rfl rfl ⟨rfl, rfl⟩
theorem ab_met (he : ai_env X B) {h : fx_H} (hI : ai_inv ai_T0 h) (hcol : gv h 274469 = 1 → 1 ≤ gv h 286721) {m o : Nat} (hm : m < 7) (ho : o < 7) : rx_met l X Y B 175 (d + 1) [fr 67, fc m, fc o] h (fun v h' => h' = h ∧ v = some (fc (mo_ab h m o))) := by
  refine ru_met (M := fm_175) rfl rfl (by simp [fm_175]) ?_
  have hu := hu_175
  obtain ⟨n1, -⟩ := mo_n_le hI
  have hc0 : ¬ Int32.ofNat (gv h (70 * 4096 + gv h 274469)) = 0 := by
    rcases (by omega : gv h 274469 = 0 ∨ gv h 274469 = 1) with q | q
    · rw [q]
      obtain ⟨-, a1, a2⟩ := gv_nat (p := 70 * 4096 + 0) (lo := 1) (hi := 4) hI rfl (by decide)
      exact fx_o_ne (by omega) (by omega)
    · rw [q]
      obtain ⟨-, a1, a2⟩ := gv_nat (p := 70 * 4096 + 1) (lo := 0) (hi := 4) hI rfl (by decide)
      have := hcol q
      have e : gv h (70 * 4096 + 1) = gv h 286721 := rfl
      exact fx_o_ne (by omega) (by omega)
  refine w_ld he hu rfl rfl rfl rfl rfl ?_
  refine w_gr 274482 96 he hu hI rfl rfl rfl rfl ?_
  refine w_c he hu rfl rfl rfl rfl ?_
  refine w_ld he hu rfl rfl rfl rfl rfl ?_
  refine w_bin hu rfl rfl (fun q => by omega) ?_
  rw [rop_add (by omega)]
  refine w_ald he hu hI rfl rfl rfl rfl (by omega) ?_
  refine w_st he hu rfl rfl rfl rfl ?_
  refine w_ld he hu rfl rfl rfl rfl rfl ?_
  refine w_gr 274482 96 he hu hI rfl rfl rfl rfl ?_
  refine w_c he hu rfl rfl rfl rfl ?_
  refine w_ld he hu rfl rfl rfl rfl rfl ?_
  refine w_bin hu rfl rfl (fun q => by omega) ?_
  rw [rop_add (by omega)]
  refine w_ald he hu hI rfl rfl rfl rfl (by omega) ?_
  refine w_st he hu rfl rfl rfl rfl ?_
  have eab : mo_ab h m o = mo_abv (gv h (70 * 4096 + gv h 274469)) (gv h (96 * 4096 + (7 + m))) (gv h (96 * 4096 + (7 + o))) := rfl
  generalize gv h (96 * 4096 + (7 + m)) = a at eab ⊢
  generalize gv h (96 * 4096 + (7 + o)) = b at eab ⊢
  refine w_ld he hu rfl rfl rfl rfl rfl ?_
  refine w_cmp0 he hu rfl rfl rfl (ru_ne rfl) (fun c1 => ?_) (fun c1 => ?_)
  · refine w_c he hu rfl rfl rfl rfl ?_
    refine w_iret he hu rfl rfl ⟨rfl, ?_⟩
    rw [eab]
    unfold mo_abv
    rw [if_pos c1]
  refine w_ld he hu rfl rfl rfl rfl rfl ?_
  have c1' : ¬ fx_con 2 (fx_b a) 2147483648 = true := by rw [c1]; decide
  refine w_cmp0 he hu rfl rfl rfl (ru_ne rfl) (fun c2 => ?_) (fun c2 => ?_)
  · refine w_ld he hu rfl rfl rfl rfl rfl ?_
    refine w_ld he hu rfl rfl rfl rfl rfl ?_
    refine w_gr 274443 70 he hu hI rfl rfl rfl rfl ?_
    refine w_ld he hu rfl rfl rfl rfl rfl ?_
    refine w_gi 274469 he hu hI rfl rfl rfl rfl ?_
    refine w_ald he hu hI rfl rfl rfl rfl (by omega) ?_
    refine w_bin hu rfl rfl (fun _ => hc0) ?_
    refine w_ld he hu rfl rfl rfl rfl rfl ?_
    refine w_ld he hu rfl rfl rfl rfl rfl ?_
    refine w_gr 274443 70 he hu hI rfl rfl rfl rfl ?_
    refine w_ld he hu rfl rfl rfl rfl rfl ?_
    refine w_gi 274469 he hu hI rfl rfl rfl rfl ?_
    refine w_ald he hu hI rfl rfl rfl rfl (by omega) ?_
    refine w_bin hu rfl rfl (fun _ => hc0) ?_
    refine w_bin hu rfl rfl (fun q => by omega) ?_
    refine w_callS he hu rfl rfl rfl rfl (pl_met he) (fun v h1 q => ?_)
    obtain ⟨rfl, rfl⟩ := q
    refine w_ld he hu rfl rfl rfl rfl rfl ?_
    refine w_ld he hu rfl rfl rfl rfl rfl ?_
    refine w_gr 274443 70 he hu hI rfl rfl rfl rfl ?_
    refine w_ld he hu rfl rfl rfl rfl rfl ?_
    refine w_gi 274469 he hu hI rfl rfl rfl rfl ?_
    refine w_ald he hu hI rfl rfl rfl rfl (by omega) ?_
    refine w_bin hu rfl rfl (fun _ => hc0) ?_
    refine w_ld he hu rfl rfl rfl rfl rfl ?_
    refine w_ld he hu rfl rfl rfl rfl rfl ?_
    refine w_gr 274443 70 he hu hI rfl rfl rfl rfl ?_
    refine w_ld he hu rfl rfl rfl rfl rfl ?_
    refine w_gi 274469 he hu hI rfl rfl rfl rfl ?_
    refine w_ald he hu hI rfl rfl rfl rfl (by omega) ?_
    refine w_bin hu rfl rfl (fun _ => hc0) ?_
    refine w_bin hu rfl rfl (fun q => by omega) ?_
    refine w_callS he hu rfl rfl rfl rfl (pl_met he) (fun v h1 q => ?_)
    obtain ⟨rfl, rfl⟩ := q
    refine w_bin hu rfl rfl (fun q => by omega) ?_
    refine w_c he hu rfl rfl rfl rfl ?_
    refine w_cmp he hu rfl rfl rfl (ru_ne rfl) (fun c3 => ?_) (fun c3 => ?_)
    · refine w_c he hu rfl rfl rfl rfl ?_
      refine w_iret he hu rfl rfl ⟨rfl, ?_⟩
      rw [eab]
      unfold mo_abv
      rw [if_neg c1', if_pos c2, if_pos c3]
    · refine w_c he hu rfl rfl rfl rfl ?_
      refine w_go he hu rfl (ru_ne rfl) ?_
      refine w_iret he hu rfl rfl ⟨rfl, ?_⟩
      rw [eab]
      unfold mo_abv
      rw [if_neg c1', if_pos c2, if_neg (by rw [c3]; decide)]
  · refine w_c he hu rfl rfl rfl rfl ?_
    refine w_iret he hu rfl rfl ⟨rfl, ?_⟩
    rw [eab]
    unfold mo_abv
    rw [if_neg c1', if_neg (by rw [c2]; decide)]
end BE
