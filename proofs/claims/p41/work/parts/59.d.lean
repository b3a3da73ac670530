abbrev pa_tk : ai_M := ([274436, 274437, 274438, 274439, 274440, 274441, 274442], [])
abbrev pa_m : ai_M := ([274436, 274437, 274438, 274439, 274440, 274441, 274442, 274471, 274472, 274473, 274474], [75, 91, 92, 93, 94])
def pa_I (b F U0 : Nat) (h0 h : fx_H) (w : Nat) : Prop := ai_inv ai_T0 h ∧ gv h 274470 = b ∧ gv h 274439 ≤ 1600 ∧ ai_fr pa_m h0 h ∧ (∀ k, k < 1120 → (k < F ∨ 560 * b + 560 ≤ k) → mo_code h k = mo_code h0 k) ∧ pa_p F U0 (gv h 274471) (gv h (75 * 4096 + b)) (gv h 274474) (gv h 274473) (gv h 274472) (fun k => gv h (93 * 4096 + k)) (fun k => gv h (94 * 4096 + k)) (mo_code h) w
theorem at_num {h : fx_H} {p lo hi : Nat} (q : ai_at h (p, .inl (lo + 2147483648, hi + 2147483648))) (hh : hi < 2147483648) : lo ≤ gv h p ∧ gv h p ≤ hi := by
  obtain ⟨w, e1, n, e2, e3, e4, e5⟩ := q
  subst e2
  have e6 : gv h p = n := by
    unfold gv
    rw [show ai_pl h p = some (fc n) from e1]
  rw [e6]
  have e7 : fx_b n = (n + 2147483648) % 4294967296 := rfl
  omega
/-- fields alone were written -/
theorem fld_arr {m : List Nat} (hm : m.all (fun p => p / 4096 == 67) = true) {h h' : fx_H} (hf : ai_fr (m, []) h h') {r i : Nat} (hr : r ≠ 67) (hi : i < 4096) : gv h' (r * 4096 + i) = gv h (r * 4096 + i) := gv_fr (hf _ (mo_mem_no (fun y hy e => by
  have := List.all_eq_true.mp hm y hy
  rw [e, ai_p1 hi] at this
  have := of_decide_eq_true (by simpa using this : decide (r = 67) = true)
  exact hr this)) rfl)
theorem pa_I.tok {b F U0 w : Nat} {h0 h h' : fx_H} (hb : b < 2) (h1 : pa_I b F U0 h0 h w) (hI : ai_inv ai_T0 h') (hf : ai_fr pa_tk h h') (he : gv h' 274439 ≤ 1600) : pa_I b F U0 h0 h' w := by
  obtain ⟨g1, g2, g3, g4, g5, g6⟩ := h1
  have ar : ∀ r i, r ≠ 67 → i < 4096 → gv h' (r * 4096 + i) = gv h (r * 4096 + i) := fun r i hr hi => fld_arr (by decide) hf hr hi
  obtain ⟨-, -, pd90⟩ := gv_nat (p := 274473) (lo := 0) (hi := 90) g1 rfl (by decide)
  obtain ⟨-, -, cd1120⟩ := gv_nat (p := 274471) (lo := 0) (hi := 1120) g1 rfl (by decide)
  have e1 : gv h' 274471 = gv h 274471 := gv_fr (hf _ rfl rfl)
  have e2 : gv h' 274474 = gv h 274474 := gv_fr (hf _ rfl rfl)
  have e3 : gv h' 274473 = gv h 274473 := gv_fr (hf _ rfl rfl)
  have e4 : gv h' 274472 = gv h 274472 := gv_fr (hf _ rfl rfl)
  refine ⟨hI, by rw [← g2]; exact gv_fr (hf _ rfl rfl), he, ai_fr_trans g4 (ai_fr_of hf (by decide)), fun k q1 q2 => by rw [← g5 k q1 q2]; exact ar 91 k (by decide) (by omega), ?_⟩
  rw [e1, e2, e3, e4, ar 75 b (by decide) (by omega)]
  exact pa_ext g6 (fun k hk => ar 93 k (by decide) (by omega)) (fun k hk => ar 94 k (by decide) (by omega)) (fun k q1 q2 => ar 91 k (by decide) (by omega))
section PD
variable {l : Launch} {X : fx_X} {Y : fx_Y} {B : fx_B} {d : Nat}
theorem go_met (he : ai_env X B) {h : fx_H} (hI : ai_inv ai_T0 h) (hend : gv h 274439 ≤ 1600) : rx_met l X Y B 123 (d + 1) [fr 67] h (fun v h' => v = none ∧ ai_inv ai_T0 h' ∧ gv h' 274439 ≤ 1600 ∧ ai_fr ([274438, 274439, 274440, 274441, 274442], []) h h') := by
  refine rx_met_mono (rx_met_deep (by omega : 1 ≤ d + 1) (ic_m_goOn he [fr 67] h ⟨rfl, trivial⟩ (fun q hq => ?_) hI trivial)) (fun v h' q => ?_)
  · have hq : q ∈ [((274439, .inl (2147483648, 2147485248)) : Nat × ai_S)] := hq
    rcases List.mem_cons.mp hq with rfl | hq
    · exact mo_iv 0 1600 hI rfl (Nat.zero_le _) hend (by decide)
    · cases hq
  · obtain ⟨q1, q2, q3, q4, -⟩ := q
    cases v with
    | some v => exact False.elim q1
    | none => exact ⟨rfl, q3, (at_num (lo := 0) (hi := 1600) (q2 _ List.mem_cons_self) (by decide)).2, q4⟩
theorem mu_met (he : ai_env X B) {h : fx_H} (hI : ai_inv ai_T0 h) (hend : gv h 274439 ≤ 1600) {x : Nat} (hx : x < 2) : rx_met l X Y B 226 (d + 2) [fr 67, fc x] h (fun v h' => v = none ∧ ai_inv ai_T0 h' ∧ gv h' 274439 ≤ 1600 ∧ ai_fr pa_tk h h') := by
  have ex := rb_small (x := x) (by omega)
  refine rx_met_mono (rx_met_deep (by omega : 2 ≤ d + 2) (ic_m_must he [fr 67, fc x] h ⟨rfl, ⟨x, rfl, by omega, by omega, by omega⟩, trivial⟩ (fun q hq => ?_) hI trivial)) (fun v h' q => ?_)
  · have hq : q ∈ [((274439, .inl (2147483648, 2147485248)) : Nat × ai_S)] := hq
    rcases List.mem_cons.mp hq with rfl | hq
    · exact mo_iv 0 1600 hI rfl (Nat.zero_le _) hend (by decide)
    · cases hq
  · obtain ⟨q1, q2, q3, q4, -⟩ := q
    cases v with
    | some v => exact False.elim q1
    | none => exact ⟨rfl, q3, (at_num (lo := 0) (hi := 1600) (q2 _ List.mem_cons_self) (by decide)).2, q4⟩
theorem mp_met (he : ai_env X B) {h : fx_H} (hI : ai_inv ai_T0 h) : rx_met l X Y B 219 (d + 1) [fr 67] h (fun v h' => v = none ∧ ai_inv ai_T0 h' ∧ gv h' 274436 ≠ 0 ∧ ai_fr ([274436, 274437], []) h h') := by
  refine rx_met_mono (rx_met_deep (by omega : 1 ≤ d + 1) (ic_m_misplaced_t he [fr 67] h ⟨rfl, trivial⟩ (fun q hq => by cases hq) hI trivial)) (fun v h' q => ?_)
  obtain ⟨q1, q2, q3, q4, -⟩ := q
  cases v with
  | some v => exact False.elim q1
  | none =>
    have := (at_num (lo := 1) (hi := 5) (q2 _ List.mem_cons_self) (by decide)).1
    exact ⟨rfl, q3, by omega, q4⟩
end PD
