theorem hu_283 : ru_u fm_283.1 = true := by decide +kernel
section BU
variable {l : Launch} {X : fx_X} {Y : fx_Y} {B : fx_B} {d : Nat}
theorem pa_what {b F U0 w : Nat} {h0 h : fx_H} (h1 : pa_I b F U0 h0 h w) {k : Nat} (hk : k < gv h 274473) : gv h (93 * 4096 + k) ≤ 8 ∧ gv h (94 * 4096 + k) ≤ 255 ∧ gv h 274473 ≤ 90 := by
  obtain ⟨hI, -⟩ := h1
  obtain ⟨-, -, pd90⟩ := gv_nat (p := 274473) (lo := 0) (hi := 90) hI rfl (by decide)
  obtain ⟨q, q1, q2, q3, q4, -⟩ := gv_arr (r := 93) (i := k) hI rfl (by decide) (by decide) (by omega)
  obtain ⟨s, s1, s2, s3, s4, -⟩ := gv_arr (r := 94) (i := k) hI rfl (by decide) (by decide) (by omega)
  have hq : q = (2147483648, 2147483656) := by
    rw [show k % ([(2147483648, 2147483656)] : List (Nat × Nat)).length = 0 by show k % 1 = 0; omega] at q1
    exact (Option.some.inj q1).symm
  have hs : s = (2147483648, 2147483903) := by
    rw [show k % ([(2147483648, 2147483903)] : List (Nat × Nat)).length = 0 by show k % 1 = 0; omega] at s1
    exact (Option.some.inj s1).symm
  rw [hq] at q3 q4
  rw [hs] at s3 s4
  simp only at q3 q4 s3 s4
  have e1 : fx_b (gv h (93 * 4096 + k)) = (gv h (93 * 4096 + k) + 2147483648) % 4294967296 := rfl
  have e2 : fx_b (gv h (94 * 4096 + k)) = (gv h (94 * 4096 + k) + 2147483648) % 4294967296 := rfl
  exact ⟨by omega, by omega, pd90⟩
theorem mo_sg_fr {h h' : fx_H} {m : ai_M} (hq : gv h 274438 < 4096) (hf : ai_fr m h h') (hm : ((!(ai_mem m.1 274435) && !(ai_mem m.1 274438)) && (m.1.all (fun p => !(p / 4096 == 69)) && (!(ai_mem m.2 67) && !(ai_mem m.2 69)))) = true) : mo_sg h' (gv h' 274438) = mo_sg h (gv h 274438) := by
  obtain ⟨a1, a2⟩ := fx_and hm
  obtain ⟨a3, a4⟩ := fx_and a1
  obtain ⟨a5, a6⟩ := fx_and a2
  obtain ⟨a7, a8⟩ := fx_and a6
  have no : ∀ {x : Bool}, (!x) = true → x = false := fun {x} q => by
    cases x
    · rfl
    · cases q
  have e1 : gv h' 274438 = gv h 274438 := gv_fr (hf _ (no a4) (no a7))
  have e2 : gv h' 274435 = gv h 274435 := gv_fr (hf _ (no a3) (no a7))
  unfold mo_sg
  rw [e1, e2]
  have e3 : gv h' (69 * 4096 + gv h 274438) = gv h (69 * 4096 + gv h 274438) := gv_fr (hf _ (mo_mem_no (fun y hy e => by
    have := List.all_eq_true.mp a5 y hy
    rw [e, ai_p1 hq] at this
    simp at this)) (by rw [ai_p1 hq]; exact no a8))
  rw [e3]
/-- nothing binds tighter any more -/
theorem bu_end (he : ai_env X B) {b F U0 m z : Nat} (hb : b < 2) (hF1 : 560 * b ≤ F) (hF2 : F ≤ 560 * b + 9 * U0) {h0 h : fx_H} (h1 : pa_I b F U0 h0 h 0) (hpd : 1 ≤ gv h 274473) (hz : z = 0 ∨ z = 1 ∨ z = 2 ∨ ((z = 4 ∨ z = 5 ∨ z = 6) ∧ mo_js (mo_sg h (gv h 274438)))) (hW : 6 < gv h (93 * 4096 + (gv h 274473 - 1)) ∨ gv h (93 * 4096 + (gv h 274473 - 1)) < z) (hm : pa_mu h 0 ≤ m) : ru l X Y B (d + 3) fm_283.1 104 [(1, fc z), (0, fr 67)] [] h (pa_post b F U0 h0 m) := by
  have hu := hu_283
  have h1' := h1
  obtain ⟨w8, s255, pd90⟩ := pa_what h1 (k := gv h 274473 - 1) (by omega)
  obtain ⟨hI, g2, g3, g4, g5, g6⟩ := h1
  have gp := g6
  obtain ⟨p1, p2, p3, p4, p5, p6, p7, p8, p9, p10, p11, p12, p13, p14⟩ := g6
  have n13 := p13 rfl
  obtain ⟨-, -, un60⟩ := gv_nat (p := 75 * 4096 + b) (lo := 0) (hi := 60) hI (by rcases (by omega : b = 0 ∨ b = 1) with rfl | rfl <;> rfl) (by decide)
  obtain ⟨-, -, wi7⟩ := gv_nat (p := 274472) (lo := 0) (hi := 7) hI rfl (by decide)
  obtain ⟨-, -, at16⟩ := gv_nat (p := 274438) (lo := 0) (hi := 1600) hI rfl (by decide)
  unfold pa_mu at hm
  rw [if_neg (by decide)] at hm
  refine w_ld he hu rfl rfl rfl rfl rfl ?_
  refine w_cmp0 he hu rfl rfl rfl (ru_ne rfl) (fun c1 => ?_) (fun c1 => ?_)
  · -- no operator: a bracket ends, or all
    rw [rb_le0 (by omega)] at c1
    have c1 := fx_ble c1
    have W7 : 7 ≤ gv h (93 * 4096 + (gv h 274473 - 1)) := by omega
    refine w_ld he hu rfl rfl rfl rfl rfl ?_
    refine w_dup he hu rfl rfl rfl ?_
    refine w_gi 274473 he hu hI rfl rfl rfl rfl ?_
    refine w_c he hu rfl rfl rfl rfl ?_
    refine w_bin hu rfl rfl (fun q => by omega) ?_
    rw [rop_sub (by omega) (by omega)]
    have ep := rb_small (x := gv h 274473 - 1) (by omega)
    refine w_pi 274473 he hu hI rfl rfl rfl rfl (by omega) (by omega) (by omega) (fun h2 u2 hI2 => ?_)
    have f2 : ai_fr pa_m h h2 := u2.fr (Or.inl rfl)
    have ar2 : ∀ r i, r ≠ 67 → i < 4096 → gv h2 (r * 4096 + i) = gv h (r * 4096 + i) := fun r i hr hi => u2.off (by omega)
    refine w_ld he hu rfl rfl rfl rfl rfl ?_
    refine w_gr 274466 93 he hu hI2 rfl rfl rfl rfl ?_
    refine w_ld he hu rfl rfl rfl rfl rfl ?_
    refine w_gi 274473 he hu hI2 rfl rfl rfl rfl ?_
    rw [u2.at]
    refine w_ald he hu hI2 rfl rfl rfl rfl (by omega) ?_
    rw [ar2 93 _ (by decide) (by omega)]
    refine w_c he hu rfl rfl rfl rfl ?_
    have key : ∀ wi', wi' + pa_ek (gv h (93 * 4096 + (gv h 274473 - 1))) = gv h 274472 → pa_p F U0 (gv h 274471) (gv h (75 * 4096 + b)) (gv h 274474) (gv h 274473 - 1) wi' (fun k => gv h (93 * 4096 + k)) (fun k => gv h (94 * 4096 + k)) (mo_code h) 0 := fun wi' q => by
      rw [show gv h 274473 = gv h 274473 - 1 + 1 by omega] at gp
      exact pa_off gp W7 q
    refine w_cmp he hu rfl rfl rfl (ru_ne rfl) (fun c2 => ?_) (fun c2 => ?_)
    · rw [rc_ne (by omega) (by omega)] at c2
      have c2 := bb_ne c2
      refine w_c he hu rfl rfl rfl rfl ?_
      refine w_iret he hu rfl rfl ⟨0, rfl, by decide, 0, ⟨hI2, (u2.off (by decide)).trans g2, by rw [u2.off (by decide)]; exact g3, ai_fr_trans g4 f2, fun k k1 k2 => by rw [← g5 k k1 k2]; exact ar2 91 k (by decide) (by omega), ?_⟩, fun _ => ⟨rfl, ?_⟩⟩
      · rw [show gv h2 274473 = gv h 274473 - 1 from u2.at, show gv h2 274471 = gv h 274471 from u2.off (by decide), show gv h2 274474 = gv h 274474 from u2.off (by decide), show gv h2 274472 = gv h 274472 from u2.off (by decide), ar2 75 b (by decide) (by omega)]
        refine pa_ext (key (gv h 274472) ?_) (fun k hk => ar2 93 k (by decide) (by omega)) (fun k hk => ar2 94 k (by decide) (by omega)) (fun k _ k2 => ar2 91 k (by decide) (by omega))
        rw [show pa_ek (gv h (93 * 4096 + (gv h 274473 - 1))) = 0 from if_neg c2]
        rfl
      · unfold pa_mu
        rw [if_neg (by decide), u2.at, u2.off (by decide)]
        omega
    · rw [rc_ne (by omega) (by omega)] at c2
      have c2 := bb_eq c2
      have ek1 : pa_ek (gv h (93 * 4096 + (gv h 274473 - 1))) = 1 := if_pos c2
      have wi1 : 1 ≤ gv h 274472 := by
        rw [p8]
        have : pa_cnt pa_ek (fun k => gv h (93 * 4096 + k)) (gv h 274473) = pa_cnt pa_ek (fun k => gv h (93 * 4096 + k)) (gv h 274473 - 1) + pa_ek (gv h (93 * 4096 + (gv h 274473 - 1))) := by
          conv => lhs; rw [show gv h 274473 = gv h 274473 - 1 + 1 by omega]
          rfl
        omega
      refine w_ld he hu rfl rfl rfl rfl rfl ?_
      refine w_dup he hu rfl rfl rfl ?_
      refine w_gi 274472 he hu hI2 rfl rfl rfl rfl ?_
      refine w_c he hu rfl rfl rfl rfl ?_
      refine w_bin hu rfl rfl (fun q => by omega) ?_
      have e3 : gv h2 274472 = gv h 274472 := u2.off (by decide)
      rw [e3, rop_sub (by omega) (by omega)]
      have ew := rb_small (x := gv h 274472 - 1) (by omega)
      refine w_pi 274472 he hu hI2 rfl rfl rfl rfl (by omega) (by omega) (by omega) (fun h3 u3 hI3 => ?_)
      have I3 : pa_I b F U0 h0 h3 0 := by
        refine ⟨hI3, (u3.off (by decide)).trans ((u2.off (by decide)).trans g2), by rw [u3.off (by decide), u2.off (by decide)]; exact g3, ai_fr_trans g4 (ai_fr_trans f2 (u3.fr (Or.inl rfl))), fun k k1 k2 => by rw [← g5 k k1 k2]; exact (u3.off (by omega)).trans (ar2 91 k (by decide) (by omega)), ?_⟩
        rw [show gv h3 274472 = gv h 274472 - 1 from u3.at, show gv h3 274471 = gv h2 274471 from u3.off (by decide), show gv h3 274474 = gv h2 274474 from u3.off (by decide), show gv h3 274473 = gv h2 274473 from u3.off (by decide), show gv h3 (75 * 4096 + b) = gv h2 (75 * 4096 + b) from u3.off (by omega), show gv h2 274473 = gv h 274473 - 1 from u2.at, show gv h2 274471 = gv h 274471 from u2.off (by decide), show gv h2 274474 = gv h 274474 from u2.off (by decide), ar2 75 b (by decide) (by omega)]
        exact pa_ext (key (gv h 274472 - 1) (by rw [ek1]; omega)) (fun k hk => (u3.off (by omega)).trans (ar2 93 k (by decide) (by omega))) (fun k hk => (u3.off (by omega)).trans (ar2 94 k (by decide) (by omega))) (fun k _ k2 => (u3.off (by omega)).trans (ar2 91 k (by decide) (by omega)))
      refine w_ld he hu rfl rfl rfl rfl rfl ?_
      refine w_ld he hu rfl rfl rfl rfl rfl ?_
      refine w_c he hu rfl rfl rfl rfl ?_
      refine w_callM he hu hI3 rfl rfl rfl rfl (sh_met he hI3 (by decide)) (fun v h4 q => ?_)
      obtain ⟨rfl, q⟩ := q
      obtain ⟨br, hbr, rfl⟩ : ∃ br, br < 2 ∧ v = some (fc br) := by
        rcases q with ⟨rfl, -⟩ | rfl
        · exact ⟨1, by decide, rfl⟩
        · exact ⟨0, by decide, rfl⟩
      refine w_callM he hu hI3 rfl rfl rfl rfl (mu_met he hI3 I3.2.2.1 hbr) (fun v h5 q => ?_)
      obtain ⟨rfl, hI5, q1, q2⟩ := q
      refine w_c he hu rfl rfl rfl rfl ?_
      refine w_iret he hu rfl rfl ⟨0, rfl, by decide, 0, I3.tok hb hI5 q2 q1, fun _ => ⟨rfl, ?_⟩⟩
      unfold pa_mu
      rw [if_neg (by decide), show gv h5 274474 = gv h4 274474 from gv_fr (q2 _ rfl rfl), show gv h5 274473 = gv h4 274473 from gv_fr (q2 _ rfl rfl), u3.off (by decide), u3.off (by decide), u2.at, u2.off (by decide)]
      omega
  · -- an operator
    rw [rb_le0 (by omega)] at c1
    have c1 := fx_nle c1
    have eb1 : pa_eb z = 1 ∧ pa_en z = 0 ∧ pa_ek z = 0 := by
      rcases hz with q | q | q | ⟨q | q | q, -⟩ <;> rw [q] at c1 ⊢ <;> first | decide | omega
    have push : ∀ s, mo_js s → ru l X Y B (d + 3) fm_283.1 138 [(1, fc z), (0, fr 67)] [fc s, fc z, fr 67] h (pa_post b F U0 h0 m) := fun s js => by
      refine w_callM he hu hI rfl rfl rfl rfl (pe_met he hI (w := z) (s := s) (by omega) js.2.2 (by omega)) (fun v h2 q => ?_)
      obtain ⟨rfl, hI2, q1, q2, q3, q4, q5⟩ := q
      have f2 : ∀ p, ai_mem [274473] p = false → ai_mem [93, 94] (p / 4096) = false → gv h2 p = gv h p := fun p a b => gv_fr (q5 p a b)
      have fa : ∀ r i, (r = 91 ∨ r = 75) → i < 4096 → gv h2 (r * 4096 + i) = gv h (r * 4096 + i) := fun r i hr hi => f2 _ (mo_mem_no (fun y hy e => by
        have : y = 274473 := by simpa using hy
        omega)) (by rw [ai_p1 hi]; rcases hr with rfl | rfl <;> rfl)
      have key : pa_p F U0 (gv h 274471) (gv h (75 * 4096 + b)) (gv h 274474) (gv h 274473 + 1) (gv h 274472) (fun k => gv h2 (93 * 4096 + k)) (fun k => gv h2 (94 * 4096 + k)) (mo_code h) 1 :=
        pa_push (x := z) (s := s) gp hpd (fun k hk => (q4 k hk).1) (fun k hk => (q4 k hk).2) q2 q3 (by omega) (by omega) p2 p3 rfl (fun q => by rw [q] at eb1; exact absurd eb1.1 (by decide)) (fun _ => js) (by omega) (by omega) (by omega) (by omega) (by omega)
      have I2 : pa_I b F U0 h0 h2 1 := by
        refine ⟨hI2, (f2 _ rfl rfl).trans g2, by rw [f2 _ rfl rfl]; exact g3, ai_fr_trans g4 (ai_fr_of q5 (by decide)), fun k k1 k2 => by rw [← g5 k k1 k2]; exact fa 91 k (Or.inl rfl) (by omega), ?_⟩
        rw [q1, f2 274471 rfl rfl, f2 274474 rfl rfl, f2 274472 rfl rfl, fa 75 b (Or.inr rfl) (by omega)]
        exact pa_ext key (fun _ _ => rfl) (fun _ _ => rfl) (fun k _ k2 => fa 91 k (Or.inl rfl) (by omega))
      refine w_ld he hu rfl rfl rfl rfl rfl ?_
      refine w_callM he hu hI2 rfl rfl rfl rfl (go_met he hI2 I2.2.2.1) (fun v h3 q => ?_)
      obtain ⟨rfl, hI3, r1, r2⟩ := q
      refine w_c he hu rfl rfl rfl rfl ?_
      refine w_iret he hu rfl rfl ⟨1, rfl, by decide, 1, I2.tok hb hI3 (ai_fr_of r2 (by decide)) r1, fun _ => ⟨rfl, ?_⟩⟩
      unfold pa_mu
      rw [if_pos rfl, show gv h3 274474 = gv h2 274474 from gv_fr (r2 _ rfl rfl), show gv h3 274472 = gv h2 274472 from gv_fr (r2 _ rfl rfl), f2 274474 rfl rfl, f2 274472 rfl rfl]
      omega
    refine w_ld he hu rfl rfl rfl rfl rfl ?_
    refine w_ld he hu rfl rfl rfl rfl rfl ?_
    refine w_ld he hu rfl rfl rfl rfl rfl ?_
    refine w_c he hu rfl rfl rfl rfl ?_
    refine w_cmp he hu rfl rfl rfl (ru_ne rfl) (fun c2 => ?_) (fun c2 => ?_)
    · rw [rc_ne (by omega) (by omega)] at c2
      have c2 := bb_ne c2
      refine w_ld he hu rfl rfl rfl rfl rfl ?_
      refine w_c he hu rfl rfl rfl rfl ?_
      refine w_cmp he hu rfl rfl rfl (ru_ne rfl) (fun c3 => ?_) (fun c3 => ?_)
      · rw [rc_ne (by omega) (by omega)] at c3
        have c3 := bb_ne c3
        have js : mo_js (mo_sg h (gv h 274438)) := by
          rcases hz with q | q | q | ⟨-, q⟩
          · omega
          · omega
          · omega
          · exact q
        refine w_ld he hu rfl rfl rfl rfl rfl ?_
        refine w_ld he hu rfl rfl rfl rfl rfl ?_
        refine w_gi 274438 he hu hI rfl rfl rfl rfl ?_
        refine w_callM he hu hI rfl rfl rfl rfl (sg_met he hI (by omega)) (fun v h2 q => ?_)
        obtain ⟨rfl, rfl⟩ := q
        exact push _ js
      · refine w_c he hu rfl rfl rfl rfl ?_
        refine w_go he hu rfl (ru_ne rfl) ?_
        exact push 124 ⟨by decide, by decide, by decide⟩
    · refine w_c he hu rfl rfl rfl rfl ?_
      refine w_go he hu rfl (ru_ne rfl) ?_
      exact push 38 ⟨by decide, by decide, by decide⟩
end BU
