/-! what the analysis says of plain states -/
def ai_lo (m n : Nat) : Prop := match m with
  | 0 => True
  | 1 => ∀ c ∈ ai_WL, Int64.ofNat n ≠ Int64.ofNat c
  | c + 2 => Int64.ofNat n = Int64.ofNat c
def ai_v (ρ : List Nat) (v w : fx_V) : Prop := match v with
  | .inl n => n < 4294967296 ∧ w = fc n
  | .inr (.inl i) => ∃ x, ρ[i]? = some x ∧ x < 4294967296 ∧ w = fc (fx_b x)
  | .inr (.inr (.inl o)) => w = .inr (.inr (.inl o))
  | .inr (.inr (.inr m)) => ∃ n, w = fl n ∧ ai_lo m n
def ai_vl (ρ : List Nat) : List fx_V → List fx_V → Prop
  | [], [] => True
  | v :: vs, w :: ws => ai_v ρ v w ∧ ai_vl ρ vs ws
  | _, _ => False
def ai_l (ρ : List Nat) (L : fx_L) (f : Nat → Option fx_V) : Prop := ∀ i v, fx_look L i = some v → ∃ w, f i = some w ∧ ai_v ρ v w
noncomputable def ai_pl (h : fx_H) (p : Nat) : Option fx_V := match fx_hget h (p / 4096) with
  | some (.inr (.inl (_, fs))) => fs[p % 4096]?
  | some (.inr (.inr (ty, len, u))) => if p % 4096 < len then some (fx_aget ty u (p % 4096)) else none
  | _ => none
def ai_j (ρ : List Nat) (J : ai_J) : Prop := ∀ q ∈ J, ∃ x, ρ[q.1]? = some x ∧ q.2.1 ≤ x ∧ x ≤ q.2.2.1 ∧ (q.2.2.2.2 ≠ 0 → ∃ y, ρ[q.2.2.2.1]? = some y ∧ x + 2147483648 = y + q.2.2.2.2)
/-- an int within lo .. hi -/
def ai_iv (lo hi : Nat) (w : fx_V) : Prop := ∃ n, w = fc n ∧ n < 4294967296 ∧ lo ≤ fx_b n ∧ fx_b n ≤ hi
def ai_fo (s : ai_F) (w : fx_V) : Prop := match s with
  | .inl _ => ∃ n, w = fl n
  | .inr (.inl (lo, hi)) => ai_iv lo hi w
  | .inr (.inr rs) => ∃ o, w = .inr (.inr (.inl o)) ∧ o ∈ rs
def ai_ao (ty len : Nat) (L : List (Nat × Nat)) (u : List (Nat × fx_V)) : Prop := ∀ i, i < len → if ty = 3 then ∃ n, fx_aget ty u i = fl n else ∃ q, L[i % L.length]? = some q ∧ ai_iv q.1 q.2 (fx_aget ty u i)
def ai_co (c : ai_C) (x : fx_C) : Prop := match c, x with
  | .inl (ci, fs), .inr (.inl (cj, ws)) => ci = cj ∧ ∀ (i : Nat) (s : ai_F), fs[i]? = some s → ∃ w : fx_V, ws[i]? = some w ∧ ai_fo s w
  | .inr (ty, len, L), .inr (.inr (ty2, len2, u)) => ty = ty2 ∧ len = len2 ∧ ai_ao ty len L u
  | _, _ => False
def ai_inv (T : ai_T) (h : fx_H) : Prop := ∀ k c, ai_cell T k = some c → ∃ x, fx_hget h k = some x ∧ ai_co c x
def ai_fr (m : ai_M) (h h' : fx_H) : Prop := ∀ p, ai_mem m.1 p = false → ai_mem m.2 (p / 4096) = false → ai_pl h' p = ai_pl h p
def ai_sp (s : ai_S) (w : fx_V) : Prop := match s with
  | .inl (lo, hi) => ai_iv lo hi w
  | .inr v => ai_v [] v w
def ai_as : List ai_S → List fx_V → Prop
  | [], [] => True
  | s :: ss, w :: ws => ai_sp s w ∧ ai_as ss ws
  | _, _ => False
def ai_at (h : fx_H) (q : Nat × ai_S) : Prop := ∃ w, ai_pl h q.1 = some w ∧ ai_sp q.2 w
def ai_res (r : Option ai_S) (v : Option fx_V) : Prop := match r, v with
  | none, none => True
  | some s, some v => ai_sp s v
  | _, _ => False
def ai_vo (ρ : List Nat) (v w : Option fx_V) : Prop := match v, w with
  | none, none => True
  | some v, some w => ai_v ρ v w
  | _, _ => False
/-- lists grow at their ends -/
theorem ai_ext {ρ τ : List Nat} {i x : Nat} (h : ρ[i]? = some x) : (ρ ++ τ)[i]? = some x := by
  rw [List.getElem?_append_left]
  · exact h
  · rcases Nat.lt_or_ge i ρ.length with q | q
    · exact q
    · rw [List.getElem?_eq_none q] at h; cases h
theorem ai_v.ext {ρ τ : List Nat} {v w : fx_V} (h : ai_v ρ v w) : ai_v (ρ ++ τ) v w := by
  rcases v with n | i | o | n
  · exact h
  · obtain ⟨x, h1, h2⟩ := h
    exact ⟨x, ai_ext h1, h2⟩
  · exact h
  · exact h
theorem ai_vl.ext {ρ τ : List Nat} : ∀ {vs ws : List fx_V}, ai_vl ρ vs ws → ai_vl (ρ ++ τ) vs ws := by
  intro vs
  induction vs with
  | nil => intro ws h; cases ws with
    | nil => trivial
    | cons w ws => exact h
  | cons v vs ih => intro ws h; cases ws with
    | nil => exact h
    | cons w ws => exact ⟨h.1.ext, ih h.2⟩
theorem ai_l.ext {ρ τ : List Nat} {L : fx_L} {f : Nat → Option fx_V} (h : ai_l ρ L f) : ai_l (ρ ++ τ) L f := fun i v hv => by
  obtain ⟨w, h1, h2⟩ := h i v hv
  exact ⟨w, h1, h2.ext⟩
theorem ai_j.ext {ρ τ : List Nat} {J : ai_J} (h : ai_j ρ J) : ai_j (ρ ++ τ) J := fun q hq => by
  obtain ⟨x, h1, h2, h3, h4⟩ := h q hq
  refine ⟨x, ai_ext h1, h2, h3, fun q => ?_⟩
  obtain ⟨y, h5, h6⟩ := h4 q
  exact ⟨y, ai_ext h5, h6⟩
theorem ai_vl_cons {ρ : List Nat} {v : fx_V} {vs ws : List fx_V} (h : ai_vl ρ (v :: vs) ws) : ∃ w ws', ws = w :: ws' ∧ ai_v ρ v w ∧ ai_vl ρ vs ws' := by
  cases ws with
  | nil => exact False.elim h
  | cons w ws => exact ⟨w, ws, rfl, h.1, h.2⟩
theorem ai_vl_nil {ρ : List Nat} {ws : List fx_V} (h : ai_vl ρ [] ws) : ws = [] := by
  cases ws with
  | nil => rfl
  | cons w ws => exact False.elim h
theorem ai_look_mem {α : Type} {l : List (Nat × α)} {i : Nat} {v : α} (h : fx_look l i = some v) : (i, v) ∈ l := by
  induction l with
  | nil => cases h
  | cons q l ih =>
    rw [fx_look_cons] at h
    cases hc : Nat.beq q.1 i with
    | true =>
      rw [hc, fx_if_t] at h
      cases h
      rw [← fx_beq hc]
      exact List.mem_cons_self
    | false =>
      rw [hc, fx_if_f] at h
      exact List.mem_cons_of_mem _ (ih h)
theorem ai_b_b {n : Nat} (h : n < 4294967296) : fx_b (fx_b n) = n := fx_b_b n h
theorem ai_max_le {a b : Nat} : ai_max a b = max a b := by
  unfold ai_max
  cases h : Nat.ble a b with
  | true => rw [fx_if_t, Nat.max_eq_right (fx_ble h)]
  | false => rw [fx_if_f, Nat.max_eq_left (Nat.le_of_lt (fx_nle h))]
theorem ai_min_le {a b : Nat} : ai_min a b = min a b := by
  unfold ai_min
  cases h : Nat.ble a b with
  | true => rw [fx_if_t, Nat.min_eq_left (fx_ble h)]
  | false => rw [fx_if_f, Nat.min_eq_right (Nat.le_of_lt (fx_nle h))]
/-- the interval of a value -/
theorem ai_rng_ok {ρ : List Nat} {J : ai_J} {v w : fx_V} {k : Nat → Nat → Bool} (hv : ai_v ρ v w) (hj : ai_j ρ J) (h : ai_rng J v k = true) : ∃ n a b, w = fc n ∧ n < 4294967296 ∧ a ≤ fx_b n ∧ fx_b n ≤ b ∧ k a b = true ∧ fx_int v = true := by
  rcases v with n | i | o | n
  · obtain ⟨h1, h2⟩ := hv
    have h : fx_num (fx_b n) (fun x => k x x) = true := h
    rw [fx_num_eq] at h
    exact ⟨n, _, _, h2, h1, Nat.le_refl _, Nat.le_refl _, h, rfl⟩
  · obtain ⟨x, h1, h2, h3⟩ := hv
    have h : (match fx_look J i with
      | some (lo, hi, s, o) => fx_if (Nat.beq o 0) (k lo hi) (match fx_look J s with
        | some (l2, h2, _, _) => fx_num (ai_max lo (l2 + o - 2147483648)) (fun a => fx_num (ai_min hi (h2 + o - 2147483648)) (fun b => k a b))
        | none => k lo hi)
      | none => k 0 4294967295) = true := h
    cases hl : fx_look J i with
    | none =>
      rw [hl] at h
      exact ⟨_, _, _, h3, rx_b_lt _, Nat.zero_le _, by have := rx_b_lt (fx_b x); omega, h, rfl⟩
    | some q =>
      obtain ⟨lo, hi, s, o⟩ := q
      rw [hl] at h
      simp only at h
      obtain ⟨y, g1, g2, g3, g4⟩ := hj _ (ai_look_mem hl)
      have : y = x := Option.some.inj (g1.symm.trans h1)
      subst this
      simp only at g2 g3 g4
      have fin : k lo hi = true → ∃ n a b, w = fc n ∧ n < 4294967296 ∧ a ≤ fx_b n ∧ fx_b n ≤ b ∧ k a b = true ∧ fx_int (.inr (.inl i)) = true := fun e => by
        refine ⟨_, _, _, h3, rx_b_lt _, ?_, ?_, e, rfl⟩
        · rw [ai_b_b h2]; exact g2
        · rw [ai_b_b h2]; exact g3
      cases ho : Nat.beq o 0 with
      | true =>
        rw [ho, fx_if_t] at h
        exact fin h
      | false =>
        rw [ho, fx_if_f] at h
        cases hs : fx_look J s with
        | none => rw [hs] at h; exact fin h
        | some q2 =>
          obtain ⟨l2, u2, s2, o2⟩ := q2
          rw [hs] at h
          simp only [fx_num_eq, ai_max_le, ai_min_le] at h
          obtain ⟨z, e1, e2⟩ := g4 (fx_bnq ho)
          obtain ⟨z2, f1, f2, f3, -⟩ := hj _ (ai_look_mem hs)
          have : z2 = z := Option.some.inj (f1.symm.trans e1)
          subst this
          simp only at f2 f3
          refine ⟨_, _, _, h3, rx_b_lt _, ?_, ?_, h, rfl⟩
          · rw [ai_b_b h2]; omega
          · rw [ai_b_b h2]; omega
  · cases h
  · cases h
/-- the number of an int, and a proof that it is one -/
theorem ai_v_num {ρ : List Nat} {v : fx_V} {n : Nat} (hv : ai_v ρ v (fc n)) : n < 4294967296 := by
  rcases v with m | i | o | m
  · obtain ⟨h1, h2⟩ := hv
    rw [Sum.inl.inj h2]
    exact h1
  · obtain ⟨x, h1, h2, h3⟩ := hv
    rw [Sum.inl.inj h3]
    exact rx_b_lt _
  · cases hv
  · obtain ⟨m, h, -⟩ := hv
    cases h
/-- a new number -/
theorem ai_var_ok {ρ : List Nat} {J : ai_J} {n lo hi s o : Nat} {k : fx_V → ai_J → Nat → Bool} (hn : ρ.length = n) (hj : ai_j ρ J) (h : ai_var J n lo hi s o k = true) {x : Nat} (hx : x < 4294967296) (h1 : lo ≤ x) (h2 : x ≤ hi) (h3 : o ≠ 0 → ∃ y, ρ[s]? = some y ∧ x + 2147483648 = y + o) : ∃ v J' n', k v J' n' = true ∧ (ρ ++ [x]).length = n' ∧ ai_j (ρ ++ [x]) J' ∧ ai_v (ρ ++ [x]) v (fc (fx_b x)) := by
  unfold ai_var at h
  rw [fx_num_eq, fx_num_eq, fx_num_eq, fx_num_eq, fx_num_eq] at h
  have hg : (ρ ++ [x])[n]? = some x := by rw [← hn, List.getElem?_append_right (Nat.le_refl _), Nat.sub_self]; rfl
  refine ⟨_, _, _, h, by rw [List.length_append, hn]; rfl, ?_, ⟨x, hg, hx, rfl⟩⟩
  intro q hq
  rcases List.mem_cons.mp hq with rfl | hq
  · refine ⟨x, hg, h1, h2, fun q => ?_⟩
    obtain ⟨y, g1, g2⟩ := h3 q
    exact ⟨y, ai_ext g1, g2⟩
  · exact hj.ext q hq
theorem ai_new_ok {ρ : List Nat} {J : ai_J} {n lo hi s o : Nat} {k : fx_V → ai_J → Nat → Bool} (hn : ρ.length = n) (hj : ai_j ρ J) (h : ai_new J n lo hi s o k = true) {x : Nat} (hx : x < 4294967296) (h1 : lo ≤ x) (h2 : x ≤ hi) (h3 : o ≠ 0 → ∃ y, ρ[s]? = some y ∧ x + 2147483648 = y + o) : ∃ v J' n' τ, k v J' n' = true ∧ (ρ ++ τ).length = n' ∧ ai_j (ρ ++ τ) J' ∧ ai_v (ρ ++ τ) v (fc (fx_b x)) := by
  unfold ai_new at h
  cases hc : (Nat.beq lo hi && Nat.beq o 0) with
  | true =>
    rw [hc, fx_if_t, fx_num_eq] at h
    have := fx_beq (fx_and hc).1
    have : x = lo := by omega
    subst this
    exact ⟨_, _, _, [], h, by rw [List.append_nil]; exact hn, by rw [List.append_nil]; exact hj, ⟨rx_b_lt _, rfl⟩⟩
  | false =>
    rw [hc, fx_if_f] at h
    obtain ⟨v, J', n', g1, g2, g3, g4⟩ := ai_var_ok hn hj h hx h1 h2 h3
    exact ⟨v, J', n', [x], g1, g2, g3, g4⟩
/-- any number of the interval, from a plain int -/
theorem ai_new_iv {ρ : List Nat} {J : ai_J} {n lo hi : Nat} {k : fx_V → ai_J → Nat → Bool} (hn : ρ.length = n) (hj : ai_j ρ J) (h : ai_new J n lo hi 0 0 k = true) {w : fx_V} (hw : ai_iv lo hi w) : ∃ v J' n' τ, k v J' n' = true ∧ (ρ ++ τ).length = n' ∧ ai_j (ρ ++ τ) J' ∧ ai_v (ρ ++ τ) v w := by
  obtain ⟨m, rfl, h1, h2, h3⟩ := hw
  obtain ⟨v, J', n', τ, g1, g2, g3, g4⟩ := ai_new_ok hn hj h (rx_b_lt m) h2 h3 (fun q => absurd rfl q)
  rw [ai_b_b h1] at g4
  exact ⟨v, J', n', τ, g1, g2, g3, g4⟩
/-- a value is known to be within lo .. hi -/
theorem ai_ref1_ok {ρ : List Nat} {J : ai_J} {i lo hi x : Nat} {k : ai_J → Bool} (hj : ai_j ρ J) (hx : ρ[i]? = some x) (h1 : lo ≤ x) (h2 : x ≤ hi) (h : ai_ref1 J i lo hi k = true) : ∃ J', k J' = true ∧ ai_j ρ J' := by
  unfold ai_ref1 at h
  cases hl : fx_look J i with
  | none => rw [hl] at h; exact ⟨J, h, hj⟩
  | some q =>
    obtain ⟨l0, h0, s, o⟩ := q
    rw [hl] at h
    simp only [fx_num_eq] at h
    obtain ⟨y, g1, g2, g3, g4⟩ := hj _ (ai_look_mem hl)
    have : y = x := Option.some.inj (g1.symm.trans hx)
    subst this
    simp only at g2 g3 g4
    rw [ai_max_le, ai_min_le] at h
    rw [rx_ble (by omega : max l0 lo ≤ min h0 hi), fx_if_t] at h
    refine ⟨_, h, fun q hq => ?_⟩
    rcases List.mem_cons.mp hq with rfl | hq
    · exact ⟨y, g1, by simp only; omega, by simp only; omega, g4⟩
    · exact hj q hq
theorem ai_ref_ok {ρ : List Nat} {J : ai_J} {v : fx_V} {n lo hi : Nat} {k : ai_J → Bool} (hj : ai_j ρ J) (hv : ai_v ρ v (fc n)) (h1 : lo ≤ fx_b n) (h2 : fx_b n ≤ hi) (h : ai_ref J v lo hi k = true) : ∃ J', k J' = true ∧ ai_j ρ J' := by
  rcases v with m | i | o | m
  · obtain ⟨-, e⟩ := hv
    rw [Sum.inl.inj e] at h1 h2
    have h : fx_if (Nat.ble lo (fx_b m) && Nat.ble (fx_b m) hi) (k J) true = true := h
    rw [rx_ble h1, rx_ble h2] at h
    exact ⟨J, h, hj⟩
  · obtain ⟨x, g1, g2, g3⟩ := hv
    rw [Sum.inl.inj g3] at h1 h2
    rw [ai_b_b g2] at h1 h2
    have h : (match fx_look J i with
    | some (l0, h0, s, o) => fx_num (ai_max l0 lo) (fun lo => fx_num (ai_min h0 hi) (fun hi => fx_if (Nat.ble lo hi) (fx_if (Nat.beq o 0) (k ((i, lo, hi, s, o) :: J)) (ai_ref1 ((i, lo, hi, s, o) :: J) s (lo + 2147483648 - o) (hi + 2147483648 - o) k)) true))
    | none => k J) = true := h
    cases hl : fx_look J i with
    | none => rw [hl] at h; exact ⟨J, h, hj⟩
    | some q =>
      obtain ⟨l0, h0, s, o⟩ := q
      rw [hl] at h
      simp only [fx_num_eq] at h
      obtain ⟨y, k1, k2, k3, k4⟩ := hj _ (ai_look_mem hl)
      have : y = x := Option.some.inj (k1.symm.trans g1)
      subst this
      simp only at k2 k3 k4
      rw [ai_max_le, ai_min_le] at h
      rw [rx_ble (by omega : max l0 lo ≤ min h0 hi), fx_if_t] at h
      have hj' : ai_j ρ ((i, max l0 lo, min h0 hi, s, o) :: J) := fun q hq => by
        rcases List.mem_cons.mp hq with rfl | hq
        · exact ⟨y, k1, by simp only; omega, by simp only; omega, k4⟩
        · exact hj q hq
      cases ho : Nat.beq o 0 with
      | true => rw [ho, fx_if_t] at h; exact ⟨_, h, hj'⟩
      | false =>
        rw [ho, fx_if_f] at h
        obtain ⟨z, e1, e2⟩ := k4 (fx_bnq ho)
        exact ai_ref1_ok hj' e1 (by omega) (by omega) h
  · cases hv
  · obtain ⟨m, e, -⟩ := hv
    cases e
