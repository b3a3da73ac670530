/-! loops -/
theorem rx_of_sub {l : Launch} {X : fx_X} {Y : fx_Y} {B : fx_B} {d : Nat} {cod at_ : List fx_I} {K : rx_K} {loc : fx_L} {stk : List fx_V} {h : fx_H} (k : (∀ q ∈ at_, q ∈ cod) → rx_run l X Y B d cod at_ loc stk h K) : rx_run l X Y B d cod at_ loc stk h K := by
  intro p e R s m args below meth c0 Q cc nL own ini rt F hR hsub hrt H locs ls st hs
  exact k hsub p e R s m args below meth c0 Q cc nL own ini rt F hR hsub hrt H locs ls st hs
theorem rx_same {l : Launch} {X : fx_X} {Y : fx_Y} {B : fx_B} {d : Nat} {cod at_ at2 : List fx_I} {K : rx_K} {loc : fx_L} {stk : List fx_V} {h : fx_H} (hp : fx_pc at2 = fx_pc at_) (h2 : ∀ q ∈ at2, q ∈ cod) (k : rx_run l X Y B d cod at2 loc stk h K) : rx_run l X Y B d cod at_ loc stk h K := by
  intro p e R s m args below meth c0 Q cc nL own ini rt F hR hsub hrt H locs ls st hs
  rw [← hp]
  exact k p e R s m args below meth c0 Q cc nL own ini rt F hR h2 hrt H locs ls st hs
/-- a head's entries, of plain values; ghosts are the first g numbers -/
def ai_hr (R : ai_R) (g : Nat) (ρ : List Nat) (f : Nat → Option fx_V) : Prop := ∀ q ∈ R, ∃ w, f q.1 = some w ∧ ai_sp q.2.1 w ∧ (q.2.2.2 ≠ 0 → ∃ m z, w = fc m ∧ q.2.2.1 < g ∧ ρ[q.2.2.1]? = some z ∧ fx_b m + 2147483648 = z + q.2.2.2)
noncomputable def ai_rk (A : ai_A) (cloc : fx_L) (h : fx_H) : Option fx_V := fx_if (Nat.beq A.1.1 0) (fx_look cloc A.1.2.1) (ai_pl h A.1.2.1)
def ai_hd (E : ai_E) (P : fx_H → Prop) (h0 : fx_H) (A : ai_A) (g : Nat) (ρ : List Nat) (y : Nat) (cloc : fx_L) (h : fx_H) : Prop := ai_hr A.2.1 g ρ (fx_look cloc) ∧ ai_hr A.2.2 g ρ (ai_pl h) ∧ (∃ m, ai_rk A cloc h = some (fc m) ∧ m < 4294967296 ∧ fx_b m = y) ∧ ai_inv E.1 h ∧ ai_hf E P h0 h
def ai_ms (dir y : Nat) : Nat := if dir = 0 then 4294967296 - y else y
/-- what is known of the loops that we are in -/
def ai_ctx (l : Launch) (X : fx_X) (Y : fx_Y) (B : fx_B) (E : ai_E) (P : fx_H → Prop) (h0 : fx_H) (d : Nat) (cod : List fx_I) (K : rx_K) (ρ : List Nat) (ctx : List Nat) : Prop := ctx.length ≤ ρ.length ∧ ∀ g x, ctx[g]? = some x → ∃ y, ρ[g]? = some y ∧ ∀ pc i A, x = pc * 64 + i → i < 64 → (E.2.2.2.2.2 pc)[i]? = some A → ∀ y' cloc h at_, ai_ms A.1.2.2 y' < ai_ms A.1.2.2 y → ai_hd E P h0 A g ρ y' cloc h → fx_pc at_ = pc → rx_run l X Y B d cod at_ cloc [] h K
theorem ai_hr.sub {R : ai_R} {g : Nat} {ρ ρ2 : List Nat} {f : Nat → Option fx_V} (hh : ai_hr R g ρ f) (he : ∀ b, b < g → ρ2[b]? = ρ[b]?) : ai_hr R g ρ2 f := fun q hq => by
  obtain ⟨w, h1, h2, h3⟩ := hh q hq
  refine ⟨w, h1, h2, fun q0 => ?_⟩
  obtain ⟨m, z, e1, e2, e3, e4⟩ := h3 q0
  exact ⟨m, z, e1, e2, by rw [he _ e2]; exact e3, e4⟩
theorem ai_hd.sub {E : ai_E} {P : fx_H → Prop} {h0 : fx_H} {A : ai_A} {g : Nat} {ρ ρ2 : List Nat} {y : Nat} {cloc : fx_L} {h : fx_H} (hh : ai_hd E P h0 A g ρ y cloc h) (he : ∀ b, b < g → ρ2[b]? = ρ[b]?) : ai_hd E P h0 A g ρ2 y cloc h := ⟨hh.1.sub he, hh.2.1.sub he, hh.2.2⟩
theorem ai_ctx.ext {l : Launch} {X : fx_X} {Y : fx_Y} {B : fx_B} {E : ai_E} {P : fx_H → Prop} {h0 : fx_H} {d : Nat} {cod : List fx_I} {K : rx_K} {ρ τ : List Nat} {ctx : List Nat} (hc : ai_ctx l X Y B E P h0 d cod K ρ ctx) : ai_ctx l X Y B E P h0 d cod K (ρ ++ τ) ctx := by
  refine ⟨by rw [List.length_append]; have := hc.1; omega, fun g x hx => ?_⟩
  obtain ⟨y, h1, h2⟩ := hc.2 g x hx
  have hg : g < ctx.length := (List.getElem?_eq_some_iff.mp hx).1
  have hl := hc.1
  refine ⟨y, ai_ext h1, fun pc i A e1 e2 e3 y' cloc h at_ e4 e5 e6 => h2 pc i A e1 e2 e3 y' cloc h at_ e4 (e5.sub (fun b hb => ?_)) e6⟩
  rw [List.getElem?_append_left (by omega)]
theorem ai_ch_ok {ρ : List Nat} {J : ai_J} {b : Nat} (hj : ai_j ρ J) : ∀ {f i t x : Nat}, ai_ch J b f i = some t → ρ[i]? = some x → ∃ z, ρ[b]? = some z ∧ x + 2147483648 = z + t := by
  intro f
  induction f with
  | zero => intro i t x h; cases h
  | succ f ih =>
    intro i t x h hx
    have h : fx_if (Nat.beq i b) (some 2147483648) (match fx_look J i with
      | some (_, _, s, o) => fx_if (Nat.beq o 0) none (match ai_ch J b f s with
        | some t => fx_if (Nat.ble 2147483648 (o + t)) (some (o + t - 2147483648)) none
        | none => none)
      | none => none) = some t := h
    cases hb : Nat.beq i b with
    | true =>
      rw [hb, fx_if_t] at h
      cases h
      rw [← fx_beq hb]
      exact ⟨x, hx, rfl⟩
    | false =>
      rw [hb, fx_if_f] at h
      cases hl : fx_look J i with
      | none => rw [hl] at h; cases h
      | some q =>
        obtain ⟨lo, hi, s, o⟩ := q
        rw [hl] at h
        simp only at h
        cases ho : Nat.beq o 0 with
        | true => rw [ho, fx_if_t] at h; cases h
        | false =>
          rw [ho, fx_if_f] at h
          obtain ⟨y, g1, g2, g3, g4⟩ := hj _ (ai_look_mem hl)
          have : y = x := Option.some.inj (g1.symm.trans hx)
          subst this
          obtain ⟨z, g5, g6⟩ := g4 (fx_bnq ho)
          simp only at g6 g5
          cases hr : ai_ch J b f s with
          | none => rw [hr] at h; cases h
          | some t2 =>
            rw [hr] at h
            simp only at h
            obtain ⟨u, k1, k2⟩ := ih hr g5
            cases hq : Nat.ble 2147483648 (o + t2) with
            | false => rw [hq, fx_if_f] at h; cases h
            | true =>
              rw [hq, fx_if_t] at h
              have h := Option.some.inj h
              have := fx_ble hq
              exact ⟨u, k1, by omega⟩
theorem ai_okr_ok {g : Nat} {J : ai_J} {L : fx_L} {R : ai_R} {ρ : List Nat} {f : Nat → Option fx_V} (hj : ai_j ρ J) (hL : ∀ i v, fx_look L i = some v → ∃ w, f i = some w ∧ ai_v ρ v w) (h : ai_okr g J L R = true) : ai_hr R g ρ f := by
  intro q hq
  have h1 := fx_all_ok h q hq
  cases hl : fx_look L q.1 with
  | none => simp only [hl] at h1; cases h1
  | some v =>
    simp only [hl] at h1
    obtain ⟨h2, h3⟩ := fx_and h1
    obtain ⟨h4, h5⟩ := fx_and h2
    obtain ⟨w, g1, g2⟩ := hL _ _ hl
    refine ⟨w, g1, ai_fit_ok hj g2 h4, fun q0 => ?_⟩
    have hg : q.2.2.1 < g := by
      rcases fx_or h3 with t | t
      · exact absurd (fx_beq t) q0
      · exact fx_blt t
    unfold ai_rel at h5
    have e0 : Nat.beq q.2.2.2 0 = false := by
      cases hb : Nat.beq q.2.2.2 0 with
      | true => exact absurd (fx_beq hb) q0
      | false => rfl
    rw [e0, fx_if_f] at h5
    rcases v with m | i | o | m
    · cases h5
    · simp only at h5
      obtain ⟨x, k1, k2, k3⟩ := g2
      cases hc : ai_ch J q.2.2.1 6 i with
      | none => rw [hc] at h5; cases h5
      | some t =>
        rw [hc] at h5
        have h5 := fx_beq h5
        obtain ⟨z, j1, j2⟩ := ai_ch_ok hj hc k1
        exact ⟨_, z, k3, hg, j1, by rw [ai_b_b k2]; omega⟩
    · cases h5
    · cases h5
theorem ai_mkl_ok {own g : Nat} {f : Nat → Option fx_V} : ∀ {R : ai_R} {n : Nat} {J : ai_J} {k : fx_L → ai_J → Nat → Bool} {ρ : List Nat}, ρ.length = n → ai_j ρ J → ai_hr R g ρ f → (∀ q ∈ R, q.1 + 1 = own → ∃ m, f q.1 = some (fc m) ∧ m < 4294967296 ∧ ρ[g]? = some (fx_b m)) → ai_mkl own g R n J k = true → ∃ L J' n' τ, k L J' n' = true ∧ (ρ ++ τ).length = n' ∧ ai_j (ρ ++ τ) J' ∧ ai_lm (ρ ++ τ) L f := by
  intro R
  induction R with
  | nil => intro n J k ρ h1 h2 h3 h4 h; exact ⟨[], J, n, [], h, by rw [List.append_nil]; exact h1, by rw [List.append_nil]; exact h2, fun q hq => by cases hq⟩
  | cons q R ih =>
    intro n J k ρ h1 h2 h3 h4 h
    obtain ⟨w, g1, g2, g3⟩ := h3 q List.mem_cons_self
    have h3' : ai_hr R g ρ f := fun z hz => h3 z (List.mem_cons_of_mem _ hz)
    have h4' : ∀ q ∈ R, q.1 + 1 = own → ∃ m, f q.1 = some (fc m) ∧ m < 4294967296 ∧ ρ[g]? = some (fx_b m) := fun z hz => h4 z (List.mem_cons_of_mem _ hz)
    obtain ⟨i, s, r⟩ := q
    rcases s with ⟨lo, hi⟩ | v
    · have h : fx_num (n + 1) (fun m => ai_mkl own g R m ((n, lo, hi, fx_if (Nat.beq (i + 1) own) (g, 2147483648) r) :: J) (fun L J m => k ((i, fv n) :: L) J m)) = true := h
      rw [fx_num_eq] at h
      obtain ⟨m, rfl, m1, m2, m3⟩ := g2
      have hg : (ρ ++ [fx_b m])[n]? = some (fx_b m) := by rw [← h1, List.getElem?_append_right (Nat.le_refl _), Nat.sub_self]; rfl
      have hj : ai_j (ρ ++ [fx_b m]) ((n, lo, hi, fx_if (Nat.beq (i + 1) own) (g, 2147483648) r) :: J) := by
        intro q hq
        rcases List.mem_cons.mp hq with rfl | hq
        · refine ⟨fx_b m, hg, m2, m3, fun q0 => ?_⟩
          simp only at q0 ⊢
          cases ho : Nat.beq (i + 1) own with
          | true =>
            obtain ⟨m', e1, e2, e3⟩ := h4 _ List.mem_cons_self (fx_beq ho)
            simp only at e1
            rw [g1] at e1
            cases e1
            rw [fx_if_t]
            exact ⟨_, ai_ext e3, rfl⟩
          | false =>
            rw [ho, fx_if_f] at q0
            rw [fx_if_f]
            obtain ⟨m', z, e1, e2, e3, e4⟩ := g3 q0
            cases e1
            exact ⟨z, ai_ext e3, e4⟩
        · exact h2.ext q hq
      have h3x : ai_hr R g (ρ ++ [fx_b m]) f := fun q hq => by
        obtain ⟨w, e1, e2, e3⟩ := h3' q hq
        refine ⟨w, e1, e2, fun q0 => ?_⟩
        obtain ⟨m', z, e4, e5, e6, e7⟩ := e3 q0
        exact ⟨m', z, e4, e5, ai_ext e6, e7⟩
      obtain ⟨L, J', n', τ, k1, k2, k3, k4⟩ := ih (by rw [List.length_append, h1]; rfl) hj h3x (fun q hq e => by
        obtain ⟨m', e1, e2, e3⟩ := h4' q hq e
        exact ⟨m', e1, e2, ai_ext e3⟩) h
      rw [List.append_assoc] at k2 k3 k4
      refine ⟨_, J', n', _, k1, k2, k3, fun q hq => ?_⟩
      rcases List.mem_cons.mp hq with rfl | hq
      · refine ⟨_, g1, fx_b m, ?_, rx_b_lt _, by rw [ai_b_b m1]⟩
        rw [← List.append_assoc]
        exact ai_ext hg
      · exact k4 q hq
    · have h : ai_mkl own g R n J (fun L J m => k ((i, v) :: L) J m) = true := h
      obtain ⟨L, J', n', τ, k1, k2, k3, k4⟩ := ih h1 h2 h3' h4' h
      refine ⟨_, J', n', τ, k1, k2, k3, fun q hq => ?_⟩
      rcases List.mem_cons.mp hq with rfl | hq
      · have g2 : ai_v ([] ++ (ρ ++ τ)) v w := (show ai_v [] v w from g2).ext
        exact ⟨w, g1, g2⟩
      · exact k4 q hq
theorem ai_idx_ok {x : Nat} : ∀ {l : List Nat} {g i : Nat}, ai_idx x l g = some i → ∃ j, i = g + j ∧ l[j]? = some x := by
  intro l
  induction l with
  | nil => intro g i h; cases h
  | cons a l ih =>
    intro g i h
    have h : fx_if (Nat.beq a x) (some g) (ai_idx x l (g + 1)) = some i := h
    cases hc : Nat.beq a x with
    | true =>
      rw [hc, fx_if_t] at h
      cases h
      exact ⟨0, rfl, by rw [List.getElem?_cons_zero, fx_beq hc]⟩
    | false =>
      rw [hc, fx_if_f] at h
      obtain ⟨j, e1, e2⟩ := ih h
      exact ⟨j + 1, by omega, by rw [List.getElem?_cons_succ]; exact e2⟩
