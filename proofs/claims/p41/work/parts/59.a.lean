theorem hu_250 : ru_u fm_250.1 = true := by decide +kernel
theorem hu_213 : ru_u fm_213.1 = true := by decide +kernel
theorem hu_225 : ru_u fm_225.1 = true := by decide +kernel
theorem hu_286 : ru_u fm_286.1 = true := by decide +kernel
theorem hu_288 : ru_u fm_288.1 = true := by decide +kernel
theorem hu_124 : ru_u fm_124.1 = true := by decide +kernel
theorem hu_287 : ru_u fm_287.1 = true := by decide +kernel
theorem hu_281 : ru_u fm_281.1 = true := by decide +kernel
theorem hu_289 : ru_u fm_289.1 = true := by decide +kernel
theorem gv_long {h : fx_H} {p z : Nat} (hI : ai_inv ai_T0 h) (e : ai_tab ai_T0 p = some (.inl z)) (hob : (match ai_cell ai_T0 (Nat.div p 4096) with
    | some (.inl _) => true
    | _ => false) = true) : ∃ n, ai_pl h p = some (fl n) := by
  unfold ai_tab at e
  cases hc : ai_cell ai_T0 (Nat.div p 4096) with
  | none => rw [hc] at e; cases e
  | some q =>
    rw [hc] at e hob
    rcases q with ⟨ci, fs⟩ | ⟨ty, len, L⟩
    · simp only at e
      obtain ⟨ws, k1, k2⟩ := ai_obj hI hc
      rw [fx_nth_eq] at e
      obtain ⟨w, j1, n, j2⟩ := k2 _ _ e
      refine ⟨n, ?_⟩
      unfold ai_pl
      rw [show fx_hget h (p / 4096) = _ from k1]
      simp only
      rw [show ws[p % 4096]? = some w from j1, j2]
    · cases hob
noncomputable def mo_sg (h : fx_H) (k : Nat) : Nat := if k < gv h 274435 then rop 5 (gv h (69 * 4096 + k)) 255 else 0
theorem mo_sg_le {h : fx_H} (hI : ai_inv ai_T0 h) {k : Nat} (hk : k < 1600) : mo_sg h k ≤ 255 := by
  unfold mo_sg
  split
  · obtain ⟨q, -, q2, -⟩ := gv_arr (r := 69) (i := k) hI rfl (by decide) (by decide) hk
    rw [rop_and q2]
    exact Nat.and_le_right
  · exact Nat.zero_le _
section PA
variable {l : Launch} {X : fx_X} {Y : fx_Y} {B : fx_B} {K : rx_K} {d : Nat}
theorem w_cl {cod : List fx_I} {loc : fx_L} {stk : List fx_V} {h : fx_H} {pc b c nx : Nat} (he : ai_env X B) (hu : ru_u cod = true) (hat : ru_e cod pc = some (2, 6, b, c, nx)) (hl : nx = pc + (2 + 1)) (k : ru l X Y B d cod nx loc (fl c :: stk) h K) : ru l X Y B d cod pc loc stk h K := ru_step he hu hat (fun tl ht => by
  show (Nat.blt 6 8 && fx_nx (fun t => rx_go l X Y B d cod K t loc (fx_cst 6 c :: stk) 0 0 h []) pc (fx_clen 6) tl) = true
  rw [show Nat.blt 6 8 = true from rfl, Bool.true_and]
  exact ru_nx ht hl k)
theorem w_gl (p : Nat) {cod : List fx_I} {loc : fx_L} {stk : List fx_V} {h : fx_H} {pc a c nx z : Nat} (he : ai_env X B) (hu : ru_u cod = true) (hI : ai_inv ai_T0 h) (hat : ru_e cod pc = some (1, a, 10, c, nx)) (hl : nx = pc + (2 + 1)) (hp : (Nat.beq (67 * 4096 + c) p && Nat.blt c 4096) = true) (ht : ai_tab ai_T0 p = some (.inl z)) (hob : (match ai_cell ai_T0 (Nat.div p 4096) with
    | some (.inl _) => true
    | _ => false) = true) (k : ∀ n, ru l X Y B d cod nx loc (fl n :: stk) h K) : ru l X Y B d cod pc loc (fr 67 :: stk) h K := by
  obtain ⟨h1, h2⟩ := fx_and hp
  obtain ⟨fs, hc⟩ := mo_cell
  obtain ⟨n, hn⟩ := gv_long hI ht hob
  have e := fx_beq h1
  subst e
  exact w_get he hu hI hat hl hc h2 hn (k n)
theorem w_lcmp {cod : List fx_I} {loc : fx_L} {stk : List fx_V} {h : fx_H} {pc a b c nx x y : Nat} (hu : ru_u cod = true) (hat : ru_e cod pc = some (30, a, b, c, nx)) (hl : nx = pc + (0 + 1)) (k : ∀ z, z < 4294967296 → ru l X Y B d cod nx loc (fc z :: stk) h K) : ru l X Y B d cod pc loc (fl y :: fl x :: stk) h K := ru_raw hu hat (fun tl ht => rx_lcmp (fun _ => ru_nx ht hl (k 1 (by decide))) (fun _ => ru_nx ht hl (k 0 (by decide))) (fun _ _ => ru_nx ht hl (k 4294967295 (by decide))))
theorem iw_met (he : ai_env X B) {h : fx_H} (hI : ai_inv ai_T0 h) {w : Nat} : rx_met l X Y B 250 d [fr 67, fl w] h (fun v h' => h' = h ∧ (v = some (fc 0) ∨ v = some (fc 1))) := by
  refine ru_met (M := fm_250) rfl rfl (by simp [fm_250]) ?_
  have hu := hu_250
  have zero : ru l X Y B d fm_250.1 21 [(0, fr 67), (1, fl w)] [] h (fun v h' => h' = h ∧ (v = some (fc 0) ∨ v = some (fc 1))) := by
    refine w_c he hu rfl rfl rfl rfl ?_
    exact w_iret he hu rfl rfl ⟨rfl, Or.inl rfl⟩
  refine w_ld he hu rfl rfl rfl rfl rfl ?_
  refine w_gi 274440 he hu hI rfl rfl rfl rfl ?_
  refine w_c he hu rfl rfl rfl rfl ?_
  refine w_cmp he hu rfl rfl rfl (ru_ne rfl) (fun c1 => zero) (fun c1 => ?_)
  refine w_ld he hu rfl rfl rfl rfl rfl ?_
  refine w_gl 274442 he hu hI rfl rfl rfl rfl rfl (fun n => ?_)
  refine w_ld he hu rfl rfl rfl rfl rfl ?_
  refine w_lcmp hu rfl rfl (fun z hz => ?_)
  refine w_cmp0 he hu rfl rfl rfl (ru_ne rfl) (fun c2 => zero) (fun c2 => ?_)
  refine w_c he hu rfl rfl rfl rfl ?_
  refine w_go he hu rfl (ru_ne rfl) ?_
  exact w_iret he hu rfl rfl ⟨rfl, Or.inr rfl⟩
theorem sg_met (he : ai_env X B) {h : fx_H} (hI : ai_inv ai_T0 h) {k : Nat} (hk : k < 2147483648) : rx_met l X Y B 213 d [fr 67, fc k] h (fun v h' => h' = h ∧ v = some (fc (mo_sg h k))) := by
  refine ru_met (M := fm_213) rfl rfl (by simp [fm_213]) ?_
  have hu := hu_213
  obtain ⟨-, s1, s2⟩ := gv_nat (p := 274435) (lo := 0) (hi := 1600) hI rfl (by decide)
  refine w_ld he hu rfl rfl rfl rfl rfl ?_
  refine w_ld he hu rfl rfl rfl rfl rfl ?_
  refine w_gi 274435 he hu hI rfl rfl rfl rfl ?_
  refine w_cmp he hu rfl rfl rfl (ru_ne rfl) (fun c1 => ?_) (fun c1 => ?_)
  · rw [rc_ge (by omega) (by omega)] at c1
    have c1 := fx_ble c1
    refine w_c he hu rfl rfl rfl rfl ?_
    refine w_iret he hu rfl rfl ⟨rfl, ?_⟩
    unfold mo_sg
    rw [if_neg (by omega)]
  · rw [rc_ge (by omega) (by omega)] at c1
    have c1 := fx_nle c1
    refine w_ld he hu rfl rfl rfl rfl rfl ?_
    refine w_gr 274433 69 he hu hI rfl rfl rfl rfl ?_
    refine w_ld he hu rfl rfl rfl rfl rfl ?_
    refine w_ald he hu hI rfl rfl rfl rfl (by omega) ?_
    refine w_c he hu rfl rfl rfl rfl ?_
    refine w_bin hu rfl rfl (fun q => by omega) ?_
    refine w_go he hu rfl (ru_ne rfl) ?_
    refine w_iret he hu rfl rfl ⟨rfl, ?_⟩
    unfold mo_sg
    rw [if_pos c1]
theorem sh_met (he : ai_env X B) {h : fx_H} (hI : ai_inv ai_T0 h) {c : Nat} (hc : c < 256) : rx_met l X Y B 225 (d + 1) [fr 67, fc c] h (fun v h' => h' = h ∧ ((v = some (fc 1) ∧ mo_sg h (gv h 274438) = c) ∨ v = some (fc 0))) := by
  refine ru_met (M := fm_225) rfl rfl (by simp [fm_225]) ?_
  have hu := hu_225
  obtain ⟨-, s1, s2⟩ := gv_nat (p := 274438) (lo := 0) (hi := 1600) hI rfl (by decide)
  have hle : mo_sg h (gv h 274438) ≤ 255 := by
    by_cases hq : gv h 274438 < 1600
    · exact mo_sg_le hI hq
    · unfold mo_sg
      obtain ⟨-, t1, t2⟩ := gv_nat (p := 274435) (lo := 0) (hi := 1600) hI rfl (by decide)
      rw [if_neg (by omega)]
      exact Nat.zero_le _
  have zero : ru l X Y B (d + 1) fm_225.1 24 [(0, fr 67), (1, fc c)] [] h (fun v h' => h' = h ∧ ((v = some (fc 1) ∧ mo_sg h (gv h 274438) = c) ∨ v = some (fc 0))) := by
    refine w_c he hu rfl rfl rfl rfl ?_
    exact w_iret he hu rfl rfl ⟨rfl, Or.inr rfl⟩
  refine w_ld he hu rfl rfl rfl rfl rfl ?_
  refine w_gi 274440 he hu hI rfl rfl rfl rfl ?_
  refine w_c he hu rfl rfl rfl rfl ?_
  refine w_cmp he hu rfl rfl rfl (ru_ne rfl) (fun c1 => zero) (fun c1 => ?_)
  refine w_ld he hu rfl rfl rfl rfl rfl ?_
  refine w_ld he hu rfl rfl rfl rfl rfl ?_
  refine w_gi 274438 he hu hI rfl rfl rfl rfl ?_
  refine w_callM he hu hI rfl rfl rfl rfl (sg_met he hI (by omega)) (fun v h1 q => ?_)
  obtain ⟨rfl, rfl⟩ := q
  refine w_ld he hu rfl rfl rfl rfl rfl ?_
  refine w_cmp he hu rfl rfl rfl (ru_ne rfl) (fun c2 => zero) (fun c2 => ?_)
  rw [rc_ne (by omega) (by omega)] at c2
  have c2 := bb_eq c2
  refine w_c he hu rfl rfl rfl rfl ?_
  refine w_go he hu rfl (ru_ne rfl) ?_
  exact w_iret he hu rfl rfl ⟨rfl, Or.inl ⟨rfl, c2⟩⟩
theorem gd_met (he : ai_env X B) {h : fx_H} (hI : ai_inv ai_T0 h) : rx_met l X Y B 124 d [fr 67] h (fun v h' => h' = h ∧ ((v = some (fc 1) ∧ gv h 274436 = 0) ∨ (v = some (fc 0) ∧ gv h 274436 ≠ 0))) := by
  refine ru_met (M := fm_124) rfl rfl (by simp [fm_124]) ?_
  have hu := hu_124
  obtain ⟨-, s1, s2⟩ := gv_nat (p := 274436) (lo := 0) (hi := 5) hI rfl (by decide)
  refine w_ld he hu rfl rfl rfl rfl rfl ?_
  refine w_gi 274436 he hu hI rfl rfl rfl rfl ?_
  refine w_cmp0 he hu rfl rfl rfl (ru_ne rfl) (fun c1 => ?_) (fun c1 => ?_)
  · rw [rc_ne0 (by omega)] at c1
    have c1 := bb_ne c1
    refine w_c he hu rfl rfl rfl rfl ?_
    exact w_iret he hu rfl rfl ⟨rfl, Or.inr ⟨rfl, c1⟩⟩
  · rw [rc_ne0 (by omega)] at c1
    have c1 := bb_eq c1
    refine w_c he hu rfl rfl rfl rfl ?_
    refine w_go he hu rfl (ru_ne rfl) ?_
    exact w_iret he hu rfl rfl ⟨rfl, Or.inl ⟨rfl, c1⟩⟩
/-- one more code -/
theorem em_met (he : ai_env X B) {h : fx_H} (hI : ai_inv ai_T0 h) {c n : Nat} (hc : c ≤ 255) (hn : n < 4294967296) (hcd : gv h 274471 < 1120) : rx_met l X Y B 287 d [fr 67, fc c, fc n] h (fun v h' => v = none ∧ ai_inv ai_T0 h' ∧ gv h' 274471 = gv h 274471 + 1 ∧ gv h' (91 * 4096 + gv h 274471) = c ∧ (∀ k, k < 4096 → k ≠ gv h 274471 → gv h' (91 * 4096 + k) = gv h (91 * 4096 + k)) ∧ ai_fr ([274471], [91, 92]) h h') := by
  refine ru_met (M := fm_287) rfl rfl (by simp [fm_287]) ?_
  have hu := hu_287
  refine w_ld he hu rfl rfl rfl rfl rfl ?_
  refine w_gr 274464 91 he hu hI rfl rfl rfl rfl ?_
  refine w_ld he hu rfl rfl rfl rfl rfl ?_
  refine w_gi 274471 he hu hI rfl rfl rfl rfl ?_
  refine w_ld he hu rfl rfl rfl rfl rfl ?_
  have ec := rb_small (x := c) (by omega)
  refine w_ast (q := (2147483648, 2147483903)) he hu hI rfl rfl rfl rfl (by omega) (by rw [show gv h 274471 % ([(2147483648, 2147483903)] : List (Nat × Nat)).length = 0 by show gv h 274471 % 1 = 0; omega]; rfl) (by omega) (by omega) (by simp only; omega) (fun h1 u1 hI1 => ?_)
  have e1 : gv h1 274471 = gv h 274471 := u1.off (by omega)
  refine w_ld he hu rfl rfl rfl rfl rfl ?_
  refine w_gr 274465 92 he hu hI1 rfl rfl rfl rfl ?_
  refine w_ld he hu rfl rfl rfl rfl rfl ?_
  refine w_gi 274471 he hu hI1 rfl rfl rfl rfl ?_
  refine w_ld he hu rfl rfl rfl rfl rfl ?_
  rw [e1]
  refine w_ast (q := (0, 4294967295)) he hu hI1 rfl rfl rfl rfl (by omega) (by rw [show gv h 274471 % ([(0, 4294967295)] : List (Nat × Nat)).length = 0 by show gv h 274471 % 1 = 0; omega]; rfl) hn (Nat.zero_le _) (Nat.le_of_lt_succ (rx_b_lt n)) (fun h2 u2 hI2 => ?_)
  have e2 : gv h2 274471 = gv h1 274471 := u2.off (by omega)
  refine w_ld he hu rfl rfl rfl rfl rfl ?_
  refine w_dup he hu rfl rfl rfl ?_
  refine w_gi 274471 he hu hI2 rfl rfl rfl rfl ?_
  refine w_c he hu rfl rfl rfl rfl ?_
  refine w_bin hu rfl rfl (fun q => by omega) ?_
  rw [rop_add (by omega), e2, e1]
  have e3 := rb_small (x := gv h 274471 + 1) (by omega)
  refine w_pi 274471 he hu hI2 rfl rfl rfl rfl (by omega) (by omega) (by omega) (fun h3 u3 hI3 => ?_)
  refine w_vret he hu rfl ⟨rfl, hI3, u3.at, ?_, fun k hk hne => ?_, ai_fr_trans (u1.fr (Or.inr (by rw [ai_p1 (by omega)]; rfl))) (ai_fr_trans (u2.fr (Or.inr (by rw [ai_p1 (by omega)]; rfl))) (u3.fr (Or.inl rfl)))⟩
  · rw [u3.off (by omega), u2.off (by omega), u1.at]
  · rw [u3.off (by omega), u2.off (by omega), u1.off (by omega)]
/-- one more on the pile -/
theorem pe_met (he : ai_env X B) {h : fx_H} (hI : ai_inv ai_T0 h) {w s : Nat} (hw : w ≤ 8) (hs : s ≤ 255) (hpd : gv h 274473 < 90) : rx_met l X Y B 281 d [fr 67, fc w, fc s] h (fun v h' => v = none ∧ ai_inv ai_T0 h' ∧ gv h' 274473 = gv h 274473 + 1 ∧ gv h' (93 * 4096 + gv h 274473) = w ∧ gv h' (94 * 4096 + gv h 274473) = s ∧ (∀ k, k < gv h 274473 → gv h' (93 * 4096 + k) = gv h (93 * 4096 + k) ∧ gv h' (94 * 4096 + k) = gv h (94 * 4096 + k)) ∧ ai_fr ([274473], [93, 94]) h h') := by
  refine ru_met (M := fm_281) rfl rfl (by simp [fm_281]) ?_
  have hu := hu_281
  refine w_ld he hu rfl rfl rfl rfl rfl ?_
  refine w_gr 274466 93 he hu hI rfl rfl rfl rfl ?_
  refine w_ld he hu rfl rfl rfl rfl rfl ?_
  refine w_gi 274473 he hu hI rfl rfl rfl rfl ?_
  refine w_ld he hu rfl rfl rfl rfl rfl ?_
  have ew := rb_small (x := w) (by omega)
  refine w_ast (q := (2147483648, 2147483656)) he hu hI rfl rfl rfl rfl (by omega) (by rw [show gv h 274473 % ([(2147483648, 2147483656)] : List (Nat × Nat)).length = 0 by show gv h 274473 % 1 = 0; omega]; rfl) (by omega) (by omega) (by simp only; omega) (fun h1 u1 hI1 => ?_)
  have e1 : gv h1 274473 = gv h 274473 := u1.off (by omega)
  refine w_ld he hu rfl rfl rfl rfl rfl ?_
  refine w_gr 274467 94 he hu hI1 rfl rfl rfl rfl ?_
  refine w_ld he hu rfl rfl rfl rfl rfl ?_
  refine w_gi 274473 he hu hI1 rfl rfl rfl rfl ?_
  refine w_ld he hu rfl rfl rfl rfl rfl ?_
  rw [e1]
  have es := rb_small (x := s) (by omega)
  refine w_ast (q := (2147483648, 2147483903)) he hu hI1 rfl rfl rfl rfl (by omega) (by rw [show gv h 274473 % ([(2147483648, 2147483903)] : List (Nat × Nat)).length = 0 by show gv h 274473 % 1 = 0; omega]; rfl) (by omega) (by omega) (by simp only; omega) (fun h2 u2 hI2 => ?_)
  have e2 : gv h2 274473 = gv h1 274473 := u2.off (by omega)
  refine w_ld he hu rfl rfl rfl rfl rfl ?_
  refine w_dup he hu rfl rfl rfl ?_
  refine w_gi 274473 he hu hI2 rfl rfl rfl rfl ?_
  refine w_c he hu rfl rfl rfl rfl ?_
  refine w_bin hu rfl rfl (fun q => by omega) ?_
  rw [rop_add (by omega), e2, e1]
  have e3 := rb_small (x := gv h 274473 + 1) (by omega)
  refine w_pi 274473 he hu hI2 rfl rfl rfl rfl (by omega) (by omega) (by omega) (fun h3 u3 hI3 => ?_)
  refine w_vret he hu rfl ⟨rfl, hI3, u3.at, ?_, ?_, fun k hk => ⟨?_, ?_⟩, ai_fr_trans (u1.fr (Or.inr (by rw [ai_p1 (by omega)]; rfl))) (ai_fr_trans (u2.fr (Or.inr (by rw [ai_p1 (by omega)]; rfl))) (u3.fr (Or.inl rfl)))⟩
  · rw [u3.off (by omega), u2.off (by omega), u1.at]
  · rw [u3.off (by omega), u2.at]
  · rw [u3.off (by omega), u2.off (by omega), u1.off (by omega)]
  · rw [u3.off (by omega), u2.off (by omega), u1.off (by omega)]
end PA
