theorem hu_282 : ru_u fm_282.1 = true := by decide +kernel
noncomputable def pa_mu (h : fx_H) (w : Nat) : Nat := (30 - gv h 274474) * 1000 + (if w = 1 then 7 - gv h 274472 else 100 + gv h 274473)
def pa_post (b F U0 : Nat) (h0 : fx_H) (m : Nat) (v : Option fx_V) (h' : fx_H) : Prop := ∃ x, v = some (fc x) ∧ x < 2 ∧ ∃ w', pa_I b F U0 h0 h' w' ∧ (gv h' 274436 = 0 → w' = x ∧ pa_mu h' w' < m)
section UT
variable {l : Launch} {X : fx_X} {Y : fx_Y} {B : fx_B} {d : Nat}
/-- behind goOn: not or a bracket onto the pile -/
theorem ut_push (he : ai_env X B) {b F U0 : Nat} (hb : b < 2) (hF1 : 560 * b ≤ F) (hF2 : F ≤ 560 * b + 9 * U0) {h0 h h3 : fx_H} {nt br z fu bg n inc : Nat} (h1 : pa_I b F U0 h0 h 1) (hpd : 1 ≤ gv h 274473) (hnt : nt < 2) (hinc : inc + nt = 1) (hu30 : gv h 274474 + inc ≤ 30) (hwi : gv h 274472 < 7) (hI3 : ai_inv ai_T0 h3) (e1 : gv h3 274471 = gv h 274471) (e2 : gv h3 (75 * 4096 + b) = gv h (75 * 4096 + b) + inc) (e3 : gv h3 274474 = gv h 274474 + inc) (e4 : gv h3 274473 = gv h 274473) (e5 : gv h3 274472 = gv h 274472) (e6 : gv h3 274470 = b) (e7 : gv h3 274439 ≤ 1600) (ea : ∀ r i, (r = 91 ∨ r = 93 ∨ r = 94) → i < 4096 → gv h3 (r * 4096 + i) = gv h (r * 4096 + i)) (ef : ai_fr pa_m h h3) : ru l X Y B (d + 3) fm_282.1 222 [(6, fc n), (5, fc fu), (4, fc z), (3, fc br), (2, fc nt), (1, fc bg), (0, fr 67)] [] h3 (pa_post b F U0 h0 (pa_mu h 1)) := by
  have hu := hu_282
  obtain ⟨hI, g2, g3, g4, g5, g6⟩ := h1
  have gp := g6
  obtain ⟨p1, p2, p3, p4, p5, p6, p7, p8, p9, p10, p11, p12, p13, p14⟩ := g6
  have n12 := p12 rfl
  obtain ⟨-, -, un60⟩ := gv_nat (p := 75 * 4096 + b) (lo := 0) (hi := 60) hI (by rcases (by omega : b = 0 ∨ b = 1) with rfl | rfl <;> rfl) (by decide)
  have hpd2 : gv h 274473 < 90 := by omega
  have main : ∀ x, (x = 3 ∧ nt = 1) ∨ (x = 7 ∧ nt = 0) → ru l X Y B (d + 3) fm_282.1 233 [(6, fc n), (5, fc fu), (4, fc z), (3, fc br), (2, fc nt), (1, fc bg), (0, fr 67)] [fc x, fr 67] h3 (pa_post b F U0 h0 (pa_mu h 1)) := fun x hx => by
    refine w_c he hu rfl rfl rfl rfl ?_
    refine w_callM he hu hI3 rfl rfl rfl rfl (pe_met he hI3 (w := x) (s := 126) (by omega) (by decide) (by omega)) (fun v h4 q => ?_)
    obtain ⟨rfl, hI4, q1, q2, q3, q4, q5⟩ := q
    have f4 : ∀ p, ai_mem [274473] p = false → ai_mem [93, 94] (p / 4096) = false → gv h4 p = gv h3 p := fun p a b => gv_fr (q5 p a b)
    have c1 : gv h4 274472 = gv h 274472 := (f4 _ rfl rfl).trans e5
    refine w_ld he hu rfl rfl rfl rfl rfl ?_
    refine w_dup he hu rfl rfl rfl ?_
    refine w_gi 274472 he hu hI4 rfl rfl rfl rfl ?_
    refine w_c he hu rfl rfl rfl rfl ?_
    refine w_bin hu rfl rfl (fun q => by omega) ?_
    rw [c1, rop_add (by omega)]
    have ew := rb_small (x := gv h 274472 + 1) (by omega)
    refine w_pi 274472 he hu hI4 rfl rfl rfl rfl (by omega) (by omega) (by omega) (fun h5 u5 hI5 => ?_)
    refine w_c he hu rfl rfl rfl rfl ?_
    have r1 : gv h5 274471 = gv h 274471 := ((u5.off (by decide)).trans (f4 _ rfl rfl)).trans e1
    have r2 : gv h5 (75 * 4096 + b) = gv h (75 * 4096 + b) + inc := ((u5.off (by omega)).trans (f4 _ (mo_mem_no (fun y hy e => by
      have : y = 274473 := by simpa using hy
      omega)) (by rw [ai_p1 (by omega)]; rfl))).trans e2
    have r3 : gv h5 274474 = gv h 274474 + inc := ((u5.off (by decide)).trans (f4 _ rfl rfl)).trans e3
    have r4 : gv h5 274473 = gv h 274473 + 1 := (u5.off (by decide)).trans (by rw [q1, e4])
    have r5 : gv h5 274472 = gv h 274472 + 1 := u5.at
    have r6 : gv h5 274470 = b := ((u5.off (by decide)).trans (f4 _ rfl rfl)).trans e6
    have r7 : gv h5 274439 ≤ 1600 := by rw [u5.off (by decide), f4 _ rfl rfl]; exact e7
    have r8 : gv h5 274436 = gv h3 274436 := (u5.off (by decide)).trans (f4 _ rfl rfl)
    have rc : ∀ k, k < 4096 → mo_code h5 k = mo_code h k := fun k hk => ((u5.off (by omega)).trans (f4 _ (mo_mem_no (fun y hy e => by
      have : y = 274473 := by simpa using hy
      omega)) (by rw [ai_p1 hk]; rfl))).trans (ea 91 k (Or.inl rfl) hk)
    rw [e4] at q2 q3 q4
    have rW : ∀ k, k < gv h 274473 → gv h5 (93 * 4096 + k) = gv h (93 * 4096 + k) := fun k hk => ((u5.off (by omega)).trans (q4 k hk).1).trans (ea 93 k (Or.inr (Or.inl rfl)) (by omega))
    have rS : ∀ k, k < gv h 274473 → gv h5 (94 * 4096 + k) = gv h (94 * 4096 + k) := fun k hk => ((u5.off (by omega)).trans (q4 k hk).2).trans (ea 94 k (Or.inr (Or.inr rfl)) (by omega))
    have rx1 : gv h5 (93 * 4096 + gv h 274473) = x := (u5.off (by omega)).trans q2
    have rs1 : gv h5 (94 * 4096 + gv h 274473) = 126 := (u5.off (by omega)).trans q3
    have kinds : pa_eb x = 0 ∧ pa_en x + pa_ek x = 1 ∧ 1 ≤ x ∧ x ≤ 7 := by
      rcases hx with ⟨rfl, -⟩ | ⟨rfl, -⟩ <;> decide
    have key : pa_p F U0 (gv h 274471) (gv h (75 * 4096 + b) + inc) (gv h 274474 + inc) (gv h 274473 + 1) (gv h 274472 + 1) (fun k => gv h5 (93 * 4096 + k)) (fun k => gv h5 (94 * 4096 + k)) (mo_code h) 1 :=
      pa_push (x := x) (s := 126) gp hpd rW rS rx1 rs1 kinds.2.2.1 kinds.2.2.2 (by omega) hu30 rfl (fun _ => rfl) (fun q => by omega) (by omega) (by omega) (by omega) (by omega) (by omega)
    refine w_iret he hu rfl rfl ⟨1, rfl, by decide, 1, ⟨hI5, r6, r7, ?_, fun k k1 k2 => by rw [rc k (by omega)]; exact g5 k k1 k2, ?_⟩, fun _ => ⟨rfl, ?_⟩⟩
    · exact ai_fr_trans g4 (ai_fr_trans ef (ai_fr_trans (ai_fr_of q5 (by decide)) (u5.fr (Or.inl rfl))))
    · rw [r1, r2, r3, r4, r5]
      exact pa_ext key (fun _ _ => rfl) (fun _ _ => rfl) (fun k _ k2 => rc k (by omega))
    · unfold pa_mu
      rw [r3, r5, if_pos rfl, if_pos rfl]
      omega
  refine w_ld he hu rfl rfl rfl rfl rfl ?_
  refine w_ld he hu rfl rfl rfl rfl rfl ?_
  refine w_cmp0 he hu rfl rfl rfl (ru_ne rfl) (fun c1 => ?_) (fun c1 => ?_)
  · rw [rc_eq0 (by omega)] at c1
    have c1 := fx_beq c1
    refine w_c he hu rfl rfl rfl rfl ?_
    exact main 7 (Or.inr ⟨rfl, c1⟩)
  · rw [rc_eq0 (by omega)] at c1
    have c1 := fx_bnq c1
    refine w_c he hu rfl rfl rfl rfl ?_
    refine w_go he hu rfl (ru_ne rfl) ?_
    exact main 3 (Or.inl ⟨rfl, by omega⟩)
/-- behind goOn: an operand becomes a code -/
theorem ut_emit (he : ai_env X B) {b F U0 : Nat} (hb : b < 2) (hF1 : 560 * b ≤ F) (hF2 : F ≤ 560 * b + 9 * U0) {h0 h h3 : fx_H} {nt br z fu bg n : Nat} (h1 : pa_I b F U0 h0 h 1) (hpd : 1 ≤ gv h 274473) (hz : z = 0 ∨ (97 ≤ z ∧ z ≤ 122)) (hn : n < 4294967296) (hu30 : gv h 274474 + 1 ≤ 30) (hI3 : ai_inv ai_T0 h3) (e1 : gv h3 274471 = gv h 274471) (e2 : gv h3 (75 * 4096 + b) = gv h (75 * 4096 + b) + 1) (e3 : gv h3 274474 = gv h 274474 + 1) (e4 : gv h3 274473 = gv h 274473) (e5 : gv h3 274472 = gv h 274472) (e6 : gv h3 274470 = b) (e7 : gv h3 274439 ≤ 1600) (ea : ∀ r i, (r = 91 ∨ r = 93 ∨ r = 94) → i < 4096 → gv h3 (r * 4096 + i) = gv h (r * 4096 + i)) (ef : ai_fr pa_m h h3) : ru l X Y B (d + 3) fm_282.1 250 [(6, fc n), (5, fc fu), (4, fc z), (3, fc br), (2, fc nt), (1, fc bg), (0, fr 67)] [] h3 (pa_post b F U0 h0 (pa_mu h 1)) := by
  have hu := hu_282
  obtain ⟨hI, g2, g3, g4, g5, g6⟩ := h1
  have gp := g6
  obtain ⟨p1, p2, p3, p4, p5, p6, p7, p8, p9, p10, p11, p12, p13, p14⟩ := g6
  have n12 := p12 rfl
  obtain ⟨-, -, un60⟩ := gv_nat (p := 75 * 4096 + b) (lo := 0) (hi := 60) hI (by rcases (by omega : b = 0 ∨ b = 1) with rfl | rfl <;> rfl) (by decide)
  obtain ⟨-, -, wi7⟩ := gv_nat (p := 274472) (lo := 0) (hi := 7) hI rfl (by decide)
  obtain ⟨-, -, pd90⟩ := gv_nat (p := 274473) (lo := 0) (hi := 90) hI rfl (by decide)
  have hcd : gv h 274471 < 1120 := by omega
  have main : ∀ c, 97 ≤ c → c ≤ 122 → ru l X Y B (d + 3) fm_282.1 263 [(6, fc n), (5, fc fu), (4, fc z), (3, fc br), (2, fc nt), (1, fc bg), (0, fr 67)] [fc c, fr 67] h3 (pa_post b F U0 h0 (pa_mu h 1)) := fun c c1 c2 => by
    refine w_ld he hu rfl rfl rfl rfl rfl ?_
    refine w_callM he hu hI3 rfl rfl rfl rfl (em_met he hI3 (c := c) (n := n) (by omega) hn (by omega)) (fun v h4 q => ?_)
    obtain ⟨rfl, hI4, q1, q2, q3, q4⟩ := q
    rw [e1] at q1 q2 q3
    have f4 : ∀ p, ai_mem [274471] p = false → ai_mem [91, 92] (p / 4096) = false → gv h4 p = gv h3 p := fun p a b => gv_fr (q4 p a b)
    have fa : ∀ r i, (r = 93 ∨ r = 94 ∨ r = 75) → i < 4096 → gv h4 (r * 4096 + i) = gv h3 (r * 4096 + i) := fun r i hr hi => f4 _ (mo_mem_no (fun y hy e => by
      have : y = 274471 := by simpa using hy
      omega)) (by rw [ai_p1 hi]; rcases hr with rfl | rfl | rfl <;> rfl)
    have rc : ∀ k, k < 4096 → k ≠ gv h 274471 → mo_code h4 k = mo_code h k := fun k hk hne => (q3 k hk hne).trans (ea 91 k (Or.inl rfl) hk)
    have key : pa_p F U0 (gv h 274471 + 1) (gv h (75 * 4096 + b) + 1) (gv h 274474 + 1) (gv h 274473) (gv h 274472) (fun k => gv h (93 * 4096 + k)) (fun k => gv h (94 * 4096 + k)) (mo_code h4) 0 :=
      pa_opd gp (fun k _ k2 => rc k (by omega) (by omega)) (by
        have : mo_code h4 (gv h 274471) = c := q2
        omega) (by omega) rfl hu30 wi7
    refine w_c he hu rfl rfl rfl rfl ?_
    refine w_iret he hu rfl rfl ⟨0, rfl, by decide, 0, ⟨hI4, (f4 _ rfl rfl).trans e6, by rw [f4 _ rfl rfl]; exact e7, ?_, fun k k1 k2 => by rw [rc k (by omega) (by omega)]; exact g5 k k1 k2, ?_⟩, fun _ => ⟨rfl, ?_⟩⟩
    · exact ai_fr_trans g4 (ai_fr_trans ef (ai_fr_of q4 (by decide)))
    · rw [q1, fa 75 b (Or.inr (Or.inr rfl)) (by omega), e2, f4 274474 rfl rfl, e3, f4 274473 rfl rfl, e4, f4 274472 rfl rfl, e5]
      exact pa_ext key (fun k hk => (fa 93 k (Or.inl rfl) (by omega)).trans (ea 93 k (Or.inr (Or.inl rfl)) (by omega))) (fun k hk => (fa 94 k (Or.inr (Or.inl rfl)) (by omega)).trans (ea 94 k (Or.inr (Or.inr rfl)) (by omega))) (fun _ _ _ => rfl)
    · unfold pa_mu
      rw [f4 274474 rfl rfl, e3, f4 274473 rfl rfl, e4, if_neg (by decide), if_pos rfl]
      omega
  refine w_ld he hu rfl rfl rfl rfl rfl ?_
  refine w_ld he hu rfl rfl rfl rfl rfl ?_
  refine w_cmp0 he hu rfl rfl rfl (ru_ne rfl) (fun c1 => ?_) (fun c1 => ?_)
  · rw [rc_ne0 (by omega)] at c1
    have c1 := bb_ne c1
    refine w_ld he hu rfl rfl rfl rfl rfl ?_
    exact main z (by omega) (by omega)
  · refine w_c he hu rfl rfl rfl rfl ?_
    refine w_go he hu rfl (ru_ne rfl) ?_
    exact main 110 (by decide) (by decide)
end UT
