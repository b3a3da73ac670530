/-! calls -/
theorem ai_args_ok {ρ : List Nat} : ∀ {as ws : List fx_V} (i : Nat), ai_vl ρ as ws → ai_lm ρ (fx_args as i) (fx_look (fx_args ws i)) := by
  have pos : ∀ (ws : List fx_V) (i j : Nat) (w : fx_V), fx_look (fx_args ws i) j = some w → i ≤ j := by
    intro ws
    induction ws with
    | nil => intro i j w h; cases h
    | cons x ws ih =>
      intro i j w h
      have h : fx_look ((i, x) :: fx_args ws (i + fx_cat x)) j = some w := h
      rw [fx_look_cons] at h
      cases hc : Nat.beq i j with
      | true => exact Nat.le_of_eq (fx_beq hc)
      | false =>
        rw [hc, fx_if_f] at h
        have := ih _ _ _ h
        omega
  intro as
  induction as with
  | nil => intro ws i h q hq; cases hq
  | cons v as ih =>
    intro ws i h
    obtain ⟨w, ws', rfl, h1, h2⟩ := ai_vl_cons h
    intro q hq
    have hq : q ∈ (i, v) :: fx_args as (i + fx_cat v) := hq
    show ∃ w_1, fx_look ((i, w) :: fx_args ws' (i + fx_cat w)) q.1 = some w_1 ∧ ai_v ρ q.2 w_1
    rcases List.mem_cons.mp hq with rfl | hq
    · exact ⟨w, fx_look_hit _ _ _, h1⟩
    · obtain ⟨w2, g1, g2⟩ := ih (i + fx_cat v) h2 q hq
      have g3 := pos _ _ _ _ g1
      have hcat : 1 ≤ fx_cat v := by
        rcases v with n | n | n | n
        · exact Nat.le_refl 1
        · exact Nat.le_refl 1
        · exact Nat.le_refl 1
        · exact (by decide : 1 ≤ 2)
      refine ⟨w2, ?_, g2⟩
      rw [fx_look_miss _ _ (by omega), ai_cat h1]
      exact g1
theorem ai_vl_app {ρ : List Nat} : ∀ {a b cs : List fx_V}, ai_vl ρ (a ++ b) cs → ∃ c1 c2, cs = c1 ++ c2 ∧ ai_vl ρ a c1 ∧ ai_vl ρ b c2 := by
  intro a
  induction a with
  | nil => intro b cs h; exact ⟨[], cs, rfl, trivial, h⟩
  | cons v a ih =>
    intro b cs h
    obtain ⟨w, ws, rfl, h1, h2⟩ := ai_vl_cons (vs := a ++ b) h
    obtain ⟨c1, c2, rfl, h3, h4⟩ := ih h2
    exact ⟨w :: c1, c2, rfl, ⟨h1, h3⟩, h4⟩
theorem ai_vl_len {ρ : List Nat} : ∀ {a c : List fx_V}, ai_vl ρ a c → c.length = a.length := by
  intro a
  induction a with
  | nil => intro c h; rw [ai_vl_nil h]
  | cons v a ih =>
    intro c h
    obtain ⟨w, ws, rfl, h1, h2⟩ := ai_vl_cons h
    simp [ih h2]
theorem ai_split {ρ : List Nat} : ∀ {n : Nat} {stk as st cstk : List fx_V}, ai_vl ρ stk cstk → fx_split n stk = some (as, st) → ∃ cas cst, fx_split n cstk = some (cas, cst) ∧ ai_vl ρ as cas ∧ ai_vl ρ st cst := by
  have gen : ∀ (n : Nat) (acc cacc stk as st cstk : List fx_V), ai_vl ρ acc cacc → ai_vl ρ stk cstk → Nat.rec (motive := fun _ => List fx_V → List fx_V → Option (List fx_V × List fx_V)) (fun acc st => some (acc, st)) (fun _ ih acc st => match st with
      | [] => none
      | v :: st => ih (v :: acc) st) n acc stk = some (as, st) → ∃ cas cst, Nat.rec (motive := fun _ => List fx_V → List fx_V → Option (List fx_V × List fx_V)) (fun acc st => some (acc, st)) (fun _ ih acc st => match st with
      | [] => none
      | v :: st => ih (v :: acc) st) n cacc cstk = some (cas, cst) ∧ ai_vl ρ as cas ∧ ai_vl ρ st cst := by
    intro n
    induction n with
    | zero =>
      intro acc cacc stk as st cstk h1 h2 h
      cases h
      exact ⟨cacc, cstk, rfl, h1, h2⟩
    | succ n ih =>
      intro acc cacc stk as st cstk h1 h2 h
      cases stk with
      | nil => cases h
      | cons v stk =>
        obtain ⟨w, ws, rfl, g1, g2⟩ := ai_vl_cons h2
        exact ih (v :: acc) (w :: cacc) stk as st ws ⟨g1, h1⟩ g2 h
  intro n stk as st cstk hv h
  exact gen n [] [] stk as st cstk trivial hv h
/-- facts that a contract tells, put behind others -/
theorem ai_tell_ok {h : fx_H} {k : fx_L → ai_J → Nat → Bool} : ∀ {l : List (Nat × ai_S)} {F : fx_L} {J : ai_J} {n : Nat} {ρ : List Nat}, (∀ q ∈ l, ai_at h q) → ρ.length = n → ai_l ρ F (ai_pl h) → ai_j ρ J → ai_tell l F J n k = true → ∃ F' J' n' τ, k F' J' n' = true ∧ (ρ ++ τ).length = n' ∧ ai_l (ρ ++ τ) F' (ai_pl h) ∧ ai_j (ρ ++ τ) J' := by
  intro l
  induction l with
  | nil => intro F J n ρ _ h1 h2 h3 e; exact ⟨F, J, n, [], e, by rw [List.append_nil]; exact h1, by rw [List.append_nil]; exact h2, by rw [List.append_nil]; exact h3⟩
  | cons q l ih =>
    intro F J n ρ hl h1 h2 h3 e
    obtain ⟨w, g1, g2⟩ := hl q List.mem_cons_self
    have hl' : ∀ q ∈ l, ai_at h q := fun z hz => hl z (List.mem_cons_of_mem _ hz)
    obtain ⟨p, s⟩ := q
    rcases s with ⟨lo, hi⟩ | v
    · have e : ai_var J n lo hi 0 0 (fun v J n => ai_tell l ((p, v) :: F) J n k) = true := e
      obtain ⟨m, rfl, g3, g4, g5⟩ := g2
      obtain ⟨v, J', n', k1, k2, k3, k4⟩ := ai_var_ok h1 h3 e (rx_b_lt m) g4 g5 (fun q => absurd rfl q)
      rw [ai_b_b g3] at k4
      obtain ⟨F', J'', n'', τ, j1, j2, j3, j4⟩ := ih hl' k2 (ai_l_cons h2.ext g1 k4 (fun _ _ => rfl)) k3 k1
      rw [List.append_assoc] at j2 j3 j4
      exact ⟨F', J'', n'', _, j1, j2, j3, j4⟩
    · have e : ai_tell l ((p, v) :: F) J n k = true := e
      have g2 : ai_v ([] ++ ρ) v w := (show ai_v [] v w from g2).ext
      rw [List.nil_append] at g2
      exact ih hl' h1 (ai_l_cons h2 g1 g2 (fun _ _ => rfl)) h3 e
theorem ai_ans_ok {r : Option ai_S} {k : Option fx_V → ai_J → Nat → Bool} {J : ai_J} {n : Nat} {ρ : List Nat} {v : Option fx_V} (hv : ai_res r v) (h1 : ρ.length = n) (h3 : ai_j ρ J) (e : ai_ans r J n k = true) : ∃ v' J' n' τ, k v' J' n' = true ∧ (ρ ++ τ).length = n' ∧ ai_j (ρ ++ τ) J' ∧ ai_vo (ρ ++ τ) v' v := by
  have nil : ∀ (v' : Option fx_V), k v' J n = true → ai_vo ρ v' v → ∃ v' J' n' τ, k v' J' n' = true ∧ (ρ ++ τ).length = n' ∧ ai_j (ρ ++ τ) J' ∧ ai_vo (ρ ++ τ) v' v := fun v' q1 q2 => ⟨v', J, n, [], q1, by rw [List.append_nil]; exact h1, by rw [List.append_nil]; exact h3, by rw [List.append_nil]; exact q2⟩
  rcases r with _ | ⟨lo, hi⟩ | u
  · cases v with
    | none => exact nil none e trivial
    | some v => exact False.elim hv
  · cases v with
    | none => exact False.elim hv
    | some v =>
      simp only [ai_ans] at e
      obtain ⟨v', J', n', τ, k1, k2, k3, k4⟩ := ai_new_iv h1 h3 e (show ai_iv lo hi v from hv)
      exact ⟨some v', J', n', τ, k1, k2, k3, k4⟩
  · cases v with
    | none => exact False.elim hv
    | some v =>
      have hv : ai_v ([] ++ ρ) u v := (show ai_v [] u v from hv).ext
      rw [List.nil_append] at hv
      exact nil (some u) e hv
theorem ai_keep_ok {m : ai_M} : ∀ {F : fx_L} {k : fx_L → Bool}, ai_keep m F k = true → k (F.filter (fun q => !(ai_mem m.1 q.1 || ai_mem m.2 (Nat.div q.1 4096)))) = true := by
  intro F
  induction F with
  | nil => intro k h; exact h
  | cons q F ih =>
    intro k h
    have e := ih (k := fun t => fx_if (ai_mem m.1 q.1 || ai_mem m.2 (Nat.div q.1 4096)) (k t) (k (q :: t))) h
    cases hc : (ai_mem m.1 q.1 || ai_mem m.2 (Nat.div q.1 4096)) with
    | true =>
      simp only [hc, fx_if_t] at e
      rw [List.filter_cons_of_neg (by simp [hc])]
      exact e
    | false =>
      simp only [hc, fx_if_f] at e
      rw [List.filter_cons_of_pos (by simp [hc])]
      exact e
theorem ai_l_keep {m : ai_M} {ρ : List Nat} {F : fx_L} {h h' : fx_H} (hF : ai_l ρ F (ai_pl h)) (hf : ai_fr m h h') : ai_l ρ (F.filter (fun q => !(ai_mem m.1 q.1 || ai_mem m.2 (Nat.div q.1 4096)))) (ai_pl h') := fun i v hv => by
  obtain ⟨h1, h2⟩ := ai_look_key (fun p => !(ai_mem m.1 p || ai_mem m.2 (Nat.div p 4096))) hv
  obtain ⟨w, g1, g2⟩ := hF i v h1
  have h2 : (ai_mem m.1 i || ai_mem m.2 (Nat.div i 4096)) = false := by simpa using h2
  rw [Bool.or_eq_false_iff] at h2
  exact ⟨w, by rw [hf i h2.1 h2.2]; exact g1, g2⟩
theorem ai_fits_ok {ρ : List Nat} {J : ai_J} (hj : ai_j ρ J) : ∀ {vs ws : List fx_V} {ss : List ai_S}, ai_vl ρ vs ws → ai_fits J vs ss = true → ai_as ss ws := by
  intro vs
  induction vs with
  | nil =>
    intro ws ss h e
    rw [ai_vl_nil h]
    cases ss with
    | nil => trivial
    | cons s ss => cases e
  | cons v vs ih =>
    intro ws ss h e
    obtain ⟨w, ws', rfl, h1, h2⟩ := ai_vl_cons h
    cases ss with
    | nil => cases e
    | cons s ss =>
      obtain ⟨e1, e2⟩ := fx_and (a := ai_fit J v s) (b := ai_fits J vs ss) e
      exact ⟨ai_fit_ok hj h1 e1, ih h2 e2⟩
/-- the table speaks of a place -/
theorem ai_tab_ok {T : ai_T} {h : fx_H} {p a b : Nat} (hI : ai_inv T h) (e : ai_tab T p = some (.inr (.inl (a, b)))) : ∃ w, ai_pl h p = some w ∧ ai_iv a b w := by
  unfold ai_tab at e
  cases hc : ai_cell T (Nat.div p 4096) with
  | none => rw [hc] at e; cases e
  | some q =>
    rw [hc] at e
    rcases q with ⟨ci, fs⟩ | ⟨ty, len, L⟩
    · simp only at e
      obtain ⟨ws, k1, k2⟩ := ai_obj hI hc
      rw [fx_nth_eq] at e
      obtain ⟨w, j1, j2⟩ := k2 _ _ e
      refine ⟨w, ?_, j2⟩
      unfold ai_pl
      rw [show fx_hget h (p / 4096) = _ from k1]
      exact j1
    · simp only at e
      cases e1 : Nat.blt (Nat.mod p 4096) len with
      | false => rw [e1, fx_if_f] at e; cases e
      | true =>
        rw [e1, fx_if_t] at e
        have e1 : p % 4096 < len := fx_blt e1
        cases e2 : Nat.beq ty 3 with
        | true => rw [e2, fx_if_t] at e; cases e
        | false =>
          rw [e2, fx_if_f] at e
          obtain ⟨u, k1, k2⟩ := ai_arr hI hc
          cases e3 : fx_nth L (Nat.mod (Nat.mod p 4096) L.length) with
          | none => rw [e3] at e; cases e
          | some q =>
            rw [e3] at e
            cases e
            have k3 := k2 _ e1
            rw [if_neg (fx_bnq e2)] at k3
            obtain ⟨q, j1, j2⟩ := k3
            rw [fx_nth_eq] at e3
            have e3 : L[p % 4096 % L.length]? = some (a, b) := e3
            rw [e3] at j1
            cases j1
            refine ⟨_, ?_, j2⟩
            unfold ai_pl
            rw [show fx_hget h (p / 4096) = _ from k1]
            simp only
            rw [if_pos e1]
theorem ai_has_ok {T : ai_T} {ρ : List Nat} {F : fx_L} {J : ai_J} {h : fx_H} {p : Nat} {s : ai_S} (hI : ai_inv T h) (hF : ai_l ρ F (ai_pl h)) (hj : ai_j ρ J) (e : ai_has T F J p s = true) : ai_at h (p, s) := by
  unfold ai_has at e
  cases hl : fx_look F p with
  | some v =>
    rw [hl] at e
    obtain ⟨w, g1, g2⟩ := hF p v hl
    exact ⟨w, g1, ai_fit_ok hj g2 e⟩
  | none =>
    rw [hl] at e
    simp only at e
    cases ht : ai_tab T p with
    | none => rw [ht] at e; cases e
    | some q =>
      rw [ht] at e
      rcases q with z | ⟨a, b⟩ | rs
      · cases e
      · simp only at e
        rcases s with ⟨lo, hi⟩ | s
        · obtain ⟨e1, e2⟩ := fx_and e
          have e1 := fx_ble e1
          have e2 := fx_ble e2
          obtain ⟨w, g1, m, g2, g3, g4, g5⟩ := ai_tab_ok hI ht
          exact ⟨w, g1, m, g2, g3, by omega, by omega⟩
        · cases e
      · cases e
/-- a contract holds -/
def ai_con (l : Launch) (X : fx_X) (Y : fx_Y) (B : fx_B) (T : ai_T) (P : fx_H → Prop) (c : Nat) (I : ai_I) : Prop := ∀ (ws : List fx_V) (h : fx_H), ai_as I.1.1 ws → (∀ q ∈ I.1.2, ai_at h q) → ai_inv T h → P h → rx_met l X Y B c I.2.2.2 ws h (fun v h' => ai_res I.2.1.1 v ∧ (∀ q ∈ I.2.1.2, ai_at h' q) ∧ ai_inv T h' ∧ ai_fr I.2.2.1 h h' ∧ P h')
