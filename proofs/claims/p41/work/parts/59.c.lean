/-! the reference's parser: what holds at each turn, as numbers -/
def pa_eb (x : Nat) : Nat := if x = 1 ∨ x = 2 ∨ x = 4 ∨ x = 5 ∨ x = 6 then 1 else 0
def pa_en (x : Nat) : Nat := if x = 3 then 1 else 0
def pa_ek (x : Nat) : Nat := if x = 7 then 1 else 0
def pa_cnt (f W : Nat → Nat) : Nat → Nat
  | 0 => 0
  | n + 1 => pa_cnt f W n + f (W n)
theorem pa_cnt_ext {f W W' : Nat → Nat} : ∀ {n : Nat}, (∀ k, k < n → W' k = W k) → pa_cnt f W' n = pa_cnt f W n := by
  intro n
  induction n with
  | zero => intro _; rfl
  | succ n ih =>
    intro h
    show pa_cnt f W' n + f (W' n) = pa_cnt f W n + f (W n)
    rw [ih (fun k hk => h k (by omega)), h n (by omega)]
def mo_fin (c : Nat → Nat) : Nat → Nat → Nat → Nat
  | _, 0, t => t
  | k, n + 1, t => if c k = 126 then mo_fin c (k + 1) n t else if 97 ≤ c k ∧ c k ≤ 122 then mo_fin c (k + 1) n (t + 1) else mo_fin c (k + 1) n (t - 1)
theorem mo_fin_ext {c c' : Nat → Nat} : ∀ {n k t : Nat}, (∀ i, k ≤ i → i < k + n → c' i = c i) → mo_fin c' k n t = mo_fin c k n t := by
  intro n
  induction n with
  | zero => intro k t _; rfl
  | succ n ih =>
    intro k t h
    unfold mo_fin
    rw [h k (Nat.le_refl _) (by omega), ih (fun i h1 h2 => h i (by omega) (by omega)), ih (fun i h1 h2 => h i (by omega) (by omega)), ih (fun i h1 h2 => h i (by omega) (by omega))]
/-- one more code behind -/
theorem mo_app {c : Nat → Nat} : ∀ {n k t : Nat}, mo_wf c k n t → (c (k + n) = 126 → 1 ≤ mo_fin c k n t) → (97 ≤ c (k + n) ∧ c (k + n) ≤ 122 → mo_fin c k n t < 60) → (c (k + n) ≠ 126 → ¬ (97 ≤ c (k + n) ∧ c (k + n) ≤ 122) → 2 ≤ mo_fin c k n t) → mo_wf c k (n + 1) t ∧ mo_fin c k (n + 1) t = (if c (k + n) = 126 then mo_fin c k n t else if 97 ≤ c (k + n) ∧ c (k + n) ≤ 122 then mo_fin c k n t + 1 else mo_fin c k n t - 1) := by
  intro n
  induction n with
  | zero =>
    intro k t _ h1 h2 h3
    rw [Nat.add_zero] at h1 h2 h3 ⊢
    refine ⟨⟨fun q => ⟨h1 q, trivial⟩, fun q => ⟨h2 q, trivial⟩, fun q1 q2 => ⟨h3 q1 q2, trivial⟩⟩, ?_⟩
    rfl
  | succ n ih =>
    intro k t hw h1 h2 h3
    rw [show k + (n + 1) = k + 1 + n by omega] at h1 h2 h3 ⊢
    obtain ⟨w1, w2, w3⟩ := hw
    by_cases e1 : c k = 126
    · have ef : ∀ m, mo_fin c k (m + 1) t = mo_fin c (k + 1) m t := fun m => by
        show (if c k = 126 then mo_fin c (k + 1) m t else _) = _
        rw [if_pos e1]
      rw [ef] at h1 h2 h3
      obtain ⟨g1, g2⟩ := ih (w1 e1).2 h1 h2 h3
      rw [ef, ef]
      exact ⟨⟨fun _ => ⟨(w1 e1).1, g1⟩, fun q => by omega, fun q => absurd e1 q⟩, g2⟩
    · by_cases e2 : 97 ≤ c k ∧ c k ≤ 122
      · have ef : ∀ m, mo_fin c k (m + 1) t = mo_fin c (k + 1) m (t + 1) := fun m => by
          show (if c k = 126 then mo_fin c (k + 1) m t else if 97 ≤ c k ∧ c k ≤ 122 then mo_fin c (k + 1) m (t + 1) else _) = _
          rw [if_neg e1, if_pos e2]
        rw [ef] at h1 h2 h3
        obtain ⟨g1, g2⟩ := ih (w2 e2).2 h1 h2 h3
        rw [ef, ef]
        exact ⟨⟨fun q => absurd q e1, fun _ => ⟨(w2 e2).1, g1⟩, fun _ q => absurd e2 q⟩, g2⟩
      · have ef : ∀ m, mo_fin c k (m + 1) t = mo_fin c (k + 1) m (t - 1) := fun m => by
          show (if c k = 126 then mo_fin c (k + 1) m t else if 97 ≤ c k ∧ c k ≤ 122 then mo_fin c (k + 1) m (t + 1) else mo_fin c (k + 1) m (t - 1)) = _
          rw [if_neg e1, if_neg e2]
        rw [ef] at h1 h2 h3
        obtain ⟨g1, g2⟩ := ih (w3 e1 e2).2 h1 h2 h3
        rw [ef, ef]
        exact ⟨⟨fun q => absurd q e1, fun q => absurd q e2, fun _ _ => ⟨(w3 e1 e2).1, g1⟩⟩, g2⟩
/-- the parser's state in numbers: F where the rule begins, U0 units ahead of it; cd codes, un units, u those of the rule, pd piled, wi within; what, sign, code; w: a unit is wanted -/
def pa_p (F U0 cd un u pd wi : Nat) (W S C : Nat → Nat) (w : Nat) : Prop :=
  F ≤ cd ∧ un = U0 + u ∧ u ≤ 30 ∧ w ≤ 1 ∧ (1 ≤ pd → W 0 = 8) ∧ (∀ k, k < pd → k ≠ 0 → 1 ≤ W k ∧ W k ≤ 7) ∧ (∀ k, k < pd → (W k = 3 → S k = 126) ∧ (pa_eb (W k) = 1 → mo_js (S k))) ∧ wi = pa_cnt pa_en W pd + pa_cnt pa_ek W pd ∧ pd ≤ 1 + pa_cnt pa_eb W pd + wi ∧ mo_wf C F (cd - F) 0 ∧ mo_fin C F (cd - F) 0 = pa_cnt pa_eb W pd + (1 - w) ∧ (w = 1 → cd - F + pa_cnt pa_eb W pd ≤ 9 * u) ∧ (w = 0 → cd - F + pa_cnt pa_eb W pd + pa_cnt pa_en W pd + 1 ≤ 9 * u) ∧ pa_cnt pa_eb W pd + (1 - w) ≤ u
theorem pa_ext {F U0 cd un u pd wi w : Nat} {W S C W' S' C' : Nat → Nat} (h : pa_p F U0 cd un u pd wi W S C w) (hW : ∀ k, k < pd → W' k = W k) (hS : ∀ k, k < pd → S' k = S k) (hC : ∀ k, F ≤ k → k < cd → C' k = C k) : pa_p F U0 cd un u pd wi W' S' C' w := by
  obtain ⟨h1, h2, h3, h4, h5, h6, h7, h8, h9, h10, h11, h12, h13, h14⟩ := h
  have c1 : ∀ f : Nat → Nat, pa_cnt f W' pd = pa_cnt f W pd := fun f => pa_cnt_ext hW
  have hCx : ∀ i, F ≤ i → i < F + (cd - F) → C' i = C i := fun i q1 q2 => hC i q1 (by omega)
  refine ⟨h1, h2, h3, h4, fun q => by rw [hW 0 (by omega)]; exact h5 q, fun k q1 q2 => by rw [hW k q1]; exact h6 k q1 q2, fun k q1 => by rw [hW k q1, hS k q1]; exact h7 k q1, by rw [c1, c1]; exact h8, by rw [c1]; exact h9, mo_wf_ext hCx h10, by rw [mo_fin_ext hCx, c1]; exact h11, by rw [c1]; exact h12, by rw [c1, c1]; exact h13, by rw [c1]; exact h14⟩
/-- one more on the pile; its kind x -/
theorem pa_push {F U0 cd un u pd wi w un' u' wi' x s w' : Nat} {W S C W' S' : Nat → Nat} (h : pa_p F U0 cd un u pd wi W S C w) (hpd : 1 ≤ pd) (hW : ∀ k, k < pd → W' k = W k) (hS : ∀ k, k < pd → S' k = S k) (hx : W' pd = x) (hs : S' pd = s) (hx1 : 1 ≤ x) (hx7 : x ≤ 7) (hun : un' = U0 + u') (hu : u' ≤ 30) (hw' : w' = 1) (hs1 : x = 3 → s = 126) (hs2 : pa_eb x = 1 → mo_js s) (hwi : wi' = wi + pa_en x + pa_ek x) (h1 : pa_eb x + pa_en x + pa_ek x = 1) (hfin : pa_eb x + w = 1) (hcd : cd - F + pa_cnt pa_eb W pd + pa_eb x ≤ 9 * u') (hnb : pa_cnt pa_eb W pd + pa_eb x ≤ u') : pa_p F U0 cd un' u' (pd + 1) wi' W' S' C w' := by
  obtain ⟨g1, g2, g3, g4, g5, g6, g7, g8, g9, g10, g11, g12, g13, g14⟩ := h
  have c1 : ∀ f : Nat → Nat, pa_cnt f W' (pd + 1) = pa_cnt f W pd + f x := fun f => by
    show pa_cnt f W' pd + f (W' pd) = _
    rw [pa_cnt_ext hW, hx]
  subst hw'
  refine ⟨g1, hun, hu, by decide, fun _ => by rw [hW 0 (by omega)]; exact g5 hpd, fun k q1 q2 => ?_, fun k q1 => ?_, by rw [c1, c1]; omega, by rw [c1]; omega, g10, by rw [c1]; omega, fun _ => by rw [c1]; omega, fun q => by omega, by rw [c1]; omega⟩
  · by_cases hq : k = pd
    · rw [hq, hx]
      exact ⟨hx1, hx7⟩
    · rw [hW k (by omega)]
      exact g6 k (by omega) q2
  · by_cases hq : k = pd
    · rw [hq, hx, hs]
      exact ⟨hs1, hs2⟩
    · rw [hW k (by omega), hS k (by omega)]
      exact g7 k (by omega)
/-- an operand -/
theorem pa_opd {F U0 cd un u pd wi un' u' : Nat} {W S C C' : Nat → Nat} (h : pa_p F U0 cd un u pd wi W S C 1) (hC : ∀ k, F ≤ k → k < cd → C' k = C k) (hl : 97 ≤ C' cd ∧ C' cd ≤ 122) (hun : un' = U0 + u') (hu : u' = u + 1) (hu30 : u' ≤ 30) (hwi : wi ≤ 7) : pa_p F U0 (cd + 1) un' u' pd wi W S C' 0 := by
  obtain ⟨g1, g2, g3, g4, g5, g6, g7, g8, g9, g10, g11, g12, g13, g14⟩ := h
  have hCx : ∀ i, F ≤ i → i < F + (cd - F) → C' i = C i := fun i q1 q2 => hC i q1 (by omega)
  have e1 : F + (cd - F) = cd := by omega
  have e2 : cd + 1 - F = cd - F + 1 := by omega
  have f0 := mo_fin_ext (t := 0) hCx
  obtain ⟨a1, a2⟩ := mo_app (c := C') (k := F) (n := cd - F) (t := 0) (mo_wf_ext hCx g10) (fun q => by rw [e1] at q; omega) (fun _ => by rw [f0]; omega) (fun _ q => by rw [e1] at q; exact absurd hl q)
  rw [e1, if_neg (by omega), if_pos hl, f0] at a2
  have n12 := g12 rfl
  refine ⟨by omega, hun, hu30, by decide, g5, g6, g7, g8, g9, by rw [e2]; exact a1, by rw [e2, a2]; omega, fun q => (by cases q), fun _ => (by omega), by omega⟩
/-- the top one, which joins two, or not, becomes a code -/
theorem pa_pop {F U0 cd un u pd wi wi' : Nat} {W S C C' : Nat → Nat} (h : pa_p F U0 cd un u (pd + 1) wi W S C 0) (h0 : pd ≠ 0) (h6 : W pd ≤ 6) (hC : ∀ k, F ≤ k → k < cd → C' k = C k) (hc : C' cd = S pd) (hwi : wi' + pa_en (W pd) = wi) : pa_p F U0 (cd + 1) un u pd wi' W S C' 0 := by
  obtain ⟨g1, g2, g3, g4, g5, g6, g7, g8, g9, g10, g11, g12, g13, g14⟩ := h
  have c1 : ∀ f : Nat → Nat, pa_cnt f W (pd + 1) = pa_cnt f W pd + f (W pd) := fun f => rfl
  rw [c1, c1] at g8
  rw [c1] at g9 g11 g14
  have n13 := g13 rfl
  rw [c1, c1] at n13
  obtain ⟨k1, k2⟩ := g6 pd (by omega) h0
  obtain ⟨s1, s2⟩ := g7 pd (by omega)
  have hCx : ∀ i, F ≤ i → i < F + (cd - F) → C' i = C i := fun i q1 q2 => hC i q1 (by omega)
  have e1 : F + (cd - F) = cd := by omega
  have e2 : cd + 1 - F = cd - F + 1 := by omega
  have f0 := mo_fin_ext (t := 0) hCx
  have kinds : (W pd = 3 ∧ pa_en (W pd) = 1 ∧ pa_eb (W pd) = 0 ∧ pa_ek (W pd) = 0) ∨ (W pd ≠ 3 ∧ pa_en (W pd) = 0 ∧ pa_eb (W pd) = 1 ∧ pa_ek (W pd) = 0) := by
    rcases (by omega : W pd = 1 ∨ W pd = 2 ∨ W pd = 3 ∨ W pd = 4 ∨ W pd = 5 ∨ W pd = 6) with q | q | q | q | q | q <;> rw [q] <;> decide
  have rest : mo_wf C' F (cd - F + 1) 0 ∧ mo_fin C' F (cd - F + 1) 0 = pa_cnt pa_eb W pd + 1 := by
    rcases kinds with ⟨q1, q2, q3, q4⟩ | ⟨q1, q2, q3, q4⟩
    · have e3 := s1 q1
      obtain ⟨a1, a2⟩ := mo_app (c := C') (k := F) (n := cd - F) (t := 0) (mo_wf_ext hCx g10) (fun _ => by rw [f0]; omega) (fun q => by rw [e1, hc] at q; omega) (fun q => by rw [e1, hc] at q; exact absurd e3 q)
      rw [e1, hc, if_pos e3, f0] at a2
      exact ⟨a1, by omega⟩
    · obtain ⟨j1, j2, j3⟩ := s2 q3
      obtain ⟨a1, a2⟩ := mo_app (c := C') (k := F) (n := cd - F) (t := 0) (mo_wf_ext hCx g10) (fun q => by rw [e1, hc] at q; exact absurd q j1) (fun q => by rw [e1, hc] at q; exact absurd q j2) (fun _ _ => by rw [f0]; omega)
      rw [e1, hc, if_neg j1, if_neg j2, f0] at a2
      exact ⟨a1, by omega⟩
  rcases kinds with ⟨q1, q2, q3, q4⟩ | ⟨q1, q2, q3, q4⟩
  · exact ⟨by omega, g2, g3, by decide, fun q => g5 (by omega), fun k a b => g6 k (by omega) b, fun k a => g7 k (by omega), by omega, by omega, by rw [e2]; exact rest.1, by rw [e2]; exact rest.2, fun q => (by cases q), fun _ => (by omega), by omega⟩
  · exact ⟨by omega, g2, g3, by decide, fun q => g5 (by omega), fun k a b => g6 k (by omega) b, fun k a => g7 k (by omega), by omega, by omega, by rw [e2]; exact rest.1, by rw [e2]; exact rest.2, fun q => (by cases q), fun _ => (by omega), by omega⟩
/-- a bracket, or all, goes from the pile -/
theorem pa_off {F U0 cd un u pd wi wi' : Nat} {W S C : Nat → Nat} (h : pa_p F U0 cd un u (pd + 1) wi W S C 0) (h6 : 7 ≤ W pd) (hwi : wi' + pa_ek (W pd) = wi) : pa_p F U0 cd un u pd wi' W S C 0 := by
  obtain ⟨g1, g2, g3, g4, g5, g6, g7, g8, g9, g10, g11, g12, g13, g14⟩ := h
  have c1 : ∀ f : Nat → Nat, pa_cnt f W (pd + 1) = pa_cnt f W pd + f (W pd) := fun f => rfl
  rw [c1, c1] at g8
  rw [c1] at g9 g11 g14
  have n13 := g13 rfl
  rw [c1, c1] at n13
  have e1 : pa_eb (W pd) = 0 := if_neg (by omega)
  have e2 : pa_en (W pd) = 0 := if_neg (by omega)
  have e3 : pa_ek (W pd) ≤ 1 := by
    unfold pa_ek
    split <;> omega
  rw [e1] at g9 g11 g14 n13
  rw [e2] at g8 n13
  refine ⟨g1, g2, g3, by decide, fun q => g5 (by omega), fun k a b => g6 k (by omega) b, fun k a => g7 k (by omega), by omega, ?_, g10, by omega, fun q => (by cases q), fun _ => (by omega), by omega⟩
  rcases Nat.eq_zero_or_pos pd with q | q
  · omega
  · have k7 := (g6 pd (by omega) (by omega)).2
    have : pa_ek (W pd) = 1 := if_pos (by omega)
    omega
