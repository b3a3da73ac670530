abbrev fx_X : Type := (Nat → Int32) × (Nat × (Nat → Value))
def fx_ad (X : fx_X) (k : Nat) : Value := if k < 1000000 then .ref (X.2.1 + k) else X.2.2 (k - 1000000)
theorem fx_ad_lt {X : fx_X} {k : Nat} (h : k < 1000000) : fx_ad X k = .ref (X.2.1 + k) := by unfold fx_ad; rw [if_pos h]
def fx_rv (X : fx_X) (v : fx_V) (w : Value) : Prop := match v with
  | .inl n => w = .int (Int32.ofNat n)
  | .inr (.inl 0) => ∃ z, w = .int z
  | .inr (.inl (i + 1)) => w = .int (X.1 (i + 1))
  | .inr (.inr (.inl none)) => w = .null
  | .inr (.inr (.inl (some k))) => w = fx_ad X k
  | .inr (.inr (.inr n)) => w = .long (Int64.ofNat n)
def fx_rl (X : fx_X) : List fx_V → List Value → Prop
  | [], [] => True
  | v :: vs, w :: ws => fx_rv X v w ∧ fx_rl X vs ws
  | _, _ => False
def fx_rn (X : fx_X) : fx_L → List (Nat × Value) → Prop
  | [], [] => True
  | v :: vs, w :: ws => (v.1 = w.1 ∧ fx_rv X v.2 w.2) ∧ fx_rn X vs ws
  | _, _ => False
def fx_rj (X : fx_X) (j : fx_J) : Prop := ∀ (i : Nat) (q : Nat × Nat), j[i]? = some q → q.1 ≤ fx_z (X.1 i) ∧ fx_z (X.1 i) ≤ q.2
theorem fx_iv_ok {X : fx_X} {j : fx_J} (h : fx_rj X j) (i : Nat) : (fx_iv j i).1 ≤ fx_z (X.1 i) ∧ fx_z (X.1 i) ≤ (fx_iv j i).2 := by
  unfold fx_iv
  rw [fx_nth_eq]
  cases hj : j[i]? with
  | none => exact ⟨Nat.zero_le _, Nat.le_of_lt_succ (fx_z_max _)⟩
  | some q => exact h i q hj
theorem fx_rl_cons {X : fx_X} {v : fx_V} {vs : List fx_V} {ws : List Value} (h : fx_rl X (v :: vs) ws) : ∃ w ws', ws = w :: ws' ∧ fx_rv X v w ∧ fx_rl X vs ws' := by
  cases ws with
  | nil => exact False.elim h
  | cons w ws => exact ⟨w, ws, rfl, h.1, h.2⟩
theorem fx_rl_nil {X : fx_X} {ws : List Value} (h : fx_rl X [] ws) : ws = [] := by
  cases ws with
  | nil => rfl
  | cons w ws => exact False.elim h
theorem fx_rl_app {X : fx_X} : ∀ {a b : List fx_V} {ws : List Value}, fx_rl X (a ++ b) ws → ∃ w1 w2, ws = w1 ++ w2 ∧ fx_rl X a w1 ∧ fx_rl X b w2 := by
  intro a
  induction a with
  | nil => intro b ws h; exact ⟨[], ws, rfl, trivial, h⟩
  | cons v a ih =>
    intro b ws h
    obtain ⟨w, ws', e, h1, h2⟩ := fx_rl_cons (vs := a ++ b) h
    obtain ⟨w1, w2, e2, h3, h4⟩ := ih h2
    exact ⟨w :: w1, w2, by rw [e, e2]; rfl, ⟨h1, h3⟩, h4⟩
theorem fx_rl_join {X : fx_X} : ∀ {a : List fx_V} {w1 : List Value}, fx_rl X a w1 → ∀ {b : List fx_V} {w2 : List Value}, fx_rl X b w2 → fx_rl X (a ++ b) (w1 ++ w2) := by
  intro a
  induction a with
  | nil => intro w1 h b w2 h2; rw [fx_rl_nil h]; exact h2
  | cons v a ih =>
    intro w1 h b w2 h2
    obtain ⟨w, ws', e, h3, h4⟩ := fx_rl_cons h
    subst e
    exact ⟨h3, ih h4 h2⟩
theorem fx_rl_rev {X : fx_X} : ∀ {a : List fx_V} {w : List Value}, fx_rl X a w → fx_rl X a.reverse w.reverse := by
  intro a
  induction a with
  | nil => intro w h; rw [fx_rl_nil h]; trivial
  | cons v a ih =>
    intro w h
    obtain ⟨x, ws', e, h3, h4⟩ := fx_rl_cons h
    subst e
    rw [List.reverse_cons, List.reverse_cons]
    exact fx_rl_join (ih h4) ⟨h3, trivial⟩
theorem fx_rl_len {X : fx_X} : ∀ {a : List fx_V} {w : List Value}, fx_rl X a w → w.length = a.length := by
  intro a
  induction a with
  | nil => intro w h; rw [fx_rl_nil h]; rfl
  | cons v a ih =>
    intro w h
    obtain ⟨x, ws', e, h3, h4⟩ := fx_rl_cons h
    subst e
    simp [ih h4]
theorem fx_rl_get {X : fx_X} : ∀ {a : List fx_V} {w : List Value}, fx_rl X a w → ∀ {k : Nat} {v : fx_V}, a[k]? = some v → ∃ x, w[k]? = some x ∧ fx_rv X v x := by
  intro a
  induction a with
  | nil => intro w h k v hk; simp at hk
  | cons u a ih =>
    intro w h k v hk
    obtain ⟨x, ws', e, h3, h4⟩ := fx_rl_cons h
    subst e
    cases k with
    | zero =>
      rw [List.getElem?_cons_zero] at hk
      cases hk
      exact ⟨x, rfl, h3⟩
    | succ k =>
      rw [List.getElem?_cons_succ] at hk
      rw [List.getElem?_cons_succ]
      exact ih h4 hk
theorem fx_rl_set {X : fx_X} {v : fx_V} {x : Value} (hv : fx_rv X v x) : ∀ {a : List fx_V} {w : List Value}, fx_rl X a w → ∀ (k : Nat), fx_rl X (a.set k v) (w.set k x) := by
  intro a
  induction a with
  | nil => intro w h k; rw [fx_rl_nil h]; exact trivial
  | cons u a ih =>
    intro w h k
    obtain ⟨y, ws', e, h3, h4⟩ := fx_rl_cons h
    subst e
    cases k with
    | zero => exact ⟨hv, h4⟩
    | succ k => exact ⟨h3, ih h4 k⟩
theorem fx_rn_cons {X : fx_X} {v : Nat × fx_V} {vs : fx_L} {ws : List (Nat × Value)} (h : fx_rn X (v :: vs) ws) : ∃ w ws', ws = w :: ws' ∧ v.1 = w.1 ∧ fx_rv X v.2 w.2 ∧ fx_rn X vs ws' := by
  cases ws with
  | nil => exact False.elim h
  | cons w ws => exact ⟨w, ws, rfl, h.1.1, h.1.2, h.2⟩
theorem fx_rn_nil {X : fx_X} {ws : List (Nat × Value)} (h : fx_rn X [] ws) : ws = [] := by
  cases ws with
  | nil => rfl
  | cons w ws => exact False.elim h
theorem fx_rn_look {X : fx_X} : ∀ {l : fx_L} {lv : List (Nat × Value)}, fx_rn X l lv → ∀ {i : Nat} {v : fx_V}, fx_look l i = some v → ∃ (k : Nat) (x : Value), lv[k]? = some (i, x) ∧ fx_rv X v x := by
  intro l
  induction l with
  | nil => intro lv h i v hv; cases hv
  | cons q l ih =>
    intro lv h i v hv
    obtain ⟨w, ws', e, h1, h2, h3⟩ := fx_rn_cons h
    subst e
    rw [fx_look_cons] at hv
    cases hc : Nat.beq q.1 i with
    | true =>
      rw [hc, fx_if_t] at hv
      cases hv
      refine ⟨0, w.2, ?_, h2⟩
      rw [List.getElem?_cons_zero, ← fx_beq hc, h1]
    | false =>
      rw [hc, fx_if_f] at hv
      obtain ⟨k, x, h4, h5⟩ := ih h3 hv
      exact ⟨k + 1, x, by rw [List.getElem?_cons_succ]; exact h4, h5⟩
theorem fx_cat_ok {X : fx_X} {v : fx_V} {w : Value} (hr : ∀ k, v = fr k → (fx_ad X k).category = 1) (h : fx_rv X v w) : w.category = fx_cat v := by
  rcases v with n | i | r | n
  · have h : w = _ := h
    rw [h]; rfl
  · cases i with
    | zero => obtain ⟨z, h⟩ := h; rw [h]; rfl
    | succ i =>
      have h : w = _ := h
      rw [h]; rfl
  · cases r with
    | none =>
      have h : w = _ := h
      rw [h]; rfl
    | some k =>
      have h : w = _ := h
      rw [h, hr k rfl]; rfl
  · have h : w = _ := h
    rw [h]; rfl
/-- references outside are references, or null -/
def fx_xo (X : fx_X) : Prop := ∀ k, (fx_ad X k).category = 1 ∧ (fx_ad X k = .null ∨ ∃ a, fx_ad X k = .ref a)
theorem fx_cat_of {X : fx_X} (hX : fx_xo X) {v : fx_V} {w : Value} (h : fx_rv X v w) : w.category = fx_cat v := fx_cat_ok (fun k _ => (hX k).1) h
theorem fx_rn_filter {X : fx_X} (hX : fx_xo X) (f : Nat → Nat → Bool) : ∀ {l : fx_L} {lv : List (Nat × Value)}, fx_rn X l lv → fx_rn X (l.filter (fun q => f q.1 (fx_cat q.2))) (lv.filter (fun q => f q.1 q.2.category)) := by
  intro l
  induction l with
  | nil => intro lv h; rw [fx_rn_nil h]; trivial
  | cons q l ih =>
    intro lv h
    obtain ⟨w, ws', e, h1, h2, h3⟩ := fx_rn_cons h
    subst e
    have hc := fx_cat_of hX h2
    cases hf : f q.1 (fx_cat q.2) with
    | true =>
      rw [List.filter_cons_of_pos (p := fun q : Nat × fx_V => f q.1 (fx_cat q.2)) hf, List.filter_cons_of_pos (p := fun q : Nat × Value => f q.1 q.2.category) (by show f w.1 w.2.category = true; rw [hc, ← h1]; exact hf)]
      exact ⟨⟨h1, h2⟩, ih h3⟩
    | false =>
      rw [List.filter_cons_of_neg (p := fun q : Nat × fx_V => f q.1 (fx_cat q.2)) (by show ¬ f q.1 (fx_cat q.2) = true; rw [hf]; simp), List.filter_cons_of_neg (p := fun q : Nat × Value => f q.1 q.2.category) (by show ¬ f w.1 w.2.category = true; rw [hc, ← h1, hf]; simp)]
      exact ih h3
/-- an int, by its picture -/
theorem fx_rv_int {X : fx_X} {v : fx_V} {w : Value} (h : fx_rv X v w) (hi : fx_int v = true) : ∃ z, w = .int z := by
  rcases v with n | i | r | n
  · exact ⟨_, h⟩
  · cases i with
    | zero => exact h
    | succ i => exact ⟨_, h⟩
  · cases hi
  · cases hi
theorem fx_nz_ok {X : fx_X} {j : fx_J} (hj : fx_rj X j) {v : fx_V} {w : Value} (h : fx_rv X v w) {k : fx_V → Bool} (e : fx_nz j v k = true) : ∃ v', k v' = true ∧ fx_rv X v' w ∧ (fx_int v = true → fx_int v' = true) := by
  rcases v with n | i | r | n
  · exact ⟨_, e, h, fun q => q⟩
  · cases i with
    | zero => exact ⟨_, e, h, fun q => q⟩
    | succ i =>
      have e : fx_if (Nat.beq (fx_iv j (i + 1)).1 (fx_iv j (i + 1)).2) (fx_num (fx_b (fx_iv j (i + 1)).1) (fun n => k (fc n))) (k (fv (i + 1))) = true := e
      cases hc : Nat.beq (fx_iv j (i + 1)).1 (fx_iv j (i + 1)).2 with
      | true =>
        rw [hc, fx_if_t, fx_num_eq] at e
        refine ⟨_, e, ?_, fun _ => rfl⟩
        have hq := fx_iv_ok hj (i + 1)
        have he := fx_beq hc
        have hz : (fx_iv j (i + 1)).1 = fx_z (X.1 (i + 1)) := by omega
        show w = .int (Int32.ofNat (fx_b (fx_iv j (i + 1)).1))
        rw [hz, fx_of_z]
        exact h
      | false =>
        rw [hc, fx_if_f] at e
        exact ⟨_, e, h, fun q => q⟩
  · exact ⟨_, e, h, fun q => q⟩
  · exact ⟨_, e, h, fun q => q⟩
theorem fx_val_eq (v : fx_V) (k : fx_V → Bool) : fx_val v k = k v := by
  rcases v with n | i | r | n
  · exact fx_num_eq n (fun n => k (fc n))
  · rfl
  · rfl
  · exact fx_num_eq n (fun n => k (fl n))
theorem fx_rj_put {X : fx_X} {j : fx_J} (hj : fx_rj X j) {i lo hi : Nat} (h : lo ≤ fx_z (X.1 i) ∧ fx_z (X.1 i) ≤ hi) : fx_rj X (j.set i (lo, hi)) := by
  intro n q hq
  by_cases hn : n = i
  · subst hn
    by_cases hl : n < j.length
    · rw [List.getElem?_set_self hl] at hq
      cases hq
      exact h
    · rw [List.set_eq_of_length_le (by omega)] at hq
      exact hj n q hq
  · rw [List.getElem?_set_ne (Ne.symm hn)] at hq
    exact hj n q hq
theorem fx_with_ok {X : fx_X} {j : fx_J} (hj : fx_rj X j) {i lo hi : Nat} (h : lo ≤ fx_z (X.1 i) ∧ fx_z (X.1 i) ≤ hi) {k : fx_J → Bool} (e : fx_with j i lo hi k = true) : ∃ j', k j' = true ∧ fx_rj X j' := by
  unfold fx_with at e
  rw [Nat.ble_eq_true_of_le (Nat.le_trans h.1 h.2), fx_if_t, fx_num_eq, fx_num_eq] at e
  obtain ⟨-, e⟩ := fx_put_ok e
  exact ⟨_, e, fx_rj_put hj h⟩
theorem fx_con_lt (o : Nat) {x y : Nat} (h : x < y) : fx_con o x y = fx_con o 0 1 := by
  unfold fx_con
  have h1 : Nat.beq x y = false := by
    cases hb : Nat.beq x y with
    | true => exact absurd (fx_beq hb) (by omega)
    | false => rfl
  have h2 : Nat.blt x y = true := Nat.ble_eq_true_of_le h
  have h3 : Nat.ble y x = false := by
    cases hb : Nat.ble y x with
    | true => exact absurd (fx_ble hb) (by omega)
    | false => rfl
  have h4 : Nat.blt y x = false := by
    cases hb : Nat.blt y x with
    | true => exact absurd (fx_blt hb) (by omega)
    | false => rfl
  have h5 : Nat.ble x y = true := Nat.ble_eq_true_of_le (by omega)
  rw [h1, h2, h3, h4, h5]
  rfl
theorem fx_con_gt (o : Nat) {x y : Nat} (h : y < x) : fx_con o x y = fx_con o 1 0 := by
  unfold fx_con
  have h1 : Nat.beq x y = false := by
    cases hb : Nat.beq x y with
    | true => exact absurd (fx_beq hb) (by omega)
    | false => rfl
  have h2 : Nat.blt x y = false := by
    cases hb : Nat.blt x y with
    | true => exact absurd (fx_blt hb) (by omega)
    | false => rfl
  have h3 : Nat.ble y x = true := Nat.ble_eq_true_of_le (by omega)
  have h4 : Nat.blt y x = true := Nat.ble_eq_true_of_le h
  have h5 : Nat.ble x y = false := by
    cases hb : Nat.ble x y with
    | true => exact absurd (fx_ble hb) (by omega)
    | false => rfl
  rw [h1, h2, h3, h4, h5]
  rfl
theorem fx_con_eq (o x : Nat) : fx_con o x x = fx_con o 0 0 := by
  unfold fx_con
  have h2 : Nat.blt x x = false := by
    cases hb : Nat.blt x x with
    | true => exact absurd (fx_blt hb) (by omega)
    | false => rfl
  rw [Nat.beq_refl, h2, Nat.ble_eq_true_of_le (Nat.le_refl x)]
  rfl
theorem fx_cut_ok {X : fx_X} {j : fx_J} (hj : fx_rj X j) {o i y : Nat} {k : Bool → fx_J → Bool} (e : fx_cut o j i y k = true) : ∃ j', k (fx_con o (fx_z (X.1 i)) y) j' = true ∧ fx_rj X j' := by
  unfold fx_cut at e
  have hq := fx_iv_ok hj i
  cases h1 : Nat.blt (fx_iv j i).2 y with
  | true =>
    rw [h1, fx_if_t] at e
    have := fx_blt h1
    exact ⟨j, by rw [fx_con_lt o (by omega)]; exact e, hj⟩
  | false =>
    rw [h1, fx_if_f] at e
    cases h2 : Nat.blt y (fx_iv j i).1 with
    | true =>
      rw [h2, fx_if_t] at e
      have := fx_blt h2
      exact ⟨j, by rw [fx_con_gt o (by omega)]; exact e, hj⟩
    | false =>
      rw [h2, fx_if_f] at e
      obtain ⟨e1, e⟩ := fx_and e
      obtain ⟨e2, e3⟩ := fx_and e
      rcases Nat.lt_trichotomy (fx_z (X.1 i)) y with h | h | h
      · rcases fx_or e1 with e1 | e1
        · have := fx_beq e1
          omega
        · obtain ⟨j', h3, h4⟩ := fx_with_ok hj ⟨hq.1, by omega⟩ e1
          exact ⟨j', by rw [fx_con_lt o h]; exact h3, h4⟩
      · obtain ⟨j', h3, h4⟩ := fx_with_ok hj ⟨by omega, by omega⟩ e2
        exact ⟨j', by rw [h, fx_con_eq]; exact h3, h4⟩
      · obtain ⟨j', h3, h4⟩ := fx_with_ok hj ⟨by omega, hq.2⟩ e3
        exact ⟨j', by rw [fx_con_gt o h]; exact h3, h4⟩
theorem fx_con_swap {o : Nat} (ho : o < 6) (x y : Nat) : fx_con (fx_swap o) y x = fx_con o x y := by
  have key : ∀ o, o < 6 → (fx_con (fx_swap o) 0 1 = fx_con o 1 0 ∧ fx_con (fx_swap o) 1 0 = fx_con o 0 1 ∧ fx_con (fx_swap o) 0 0 = fx_con o 0 0) := by decide +kernel
  rcases Nat.lt_trichotomy x y with h | h | h
  · rw [fx_con_gt _ h, fx_con_lt _ h, (key o ho).2.1]
  · rw [h, fx_con_eq, (key o ho).2.2, fx_con_eq o y]
  · rw [fx_con_lt _ h, fx_con_gt _ h, (key o ho).1]
theorem fx_cmp_ok {X : fx_X} {j : fx_J} (hj : fx_rj X j) {o : Nat} (ho : o < 6) {x y : fx_V} {w u : Value} (hx : fx_rv X x w) (hy : fx_rv X y u) {k : Bool → fx_J → Bool} (e : fx_cmp o j x y k = true) : ∃ (a b : Int32) (j' : fx_J), w = .int a ∧ u = .int b ∧ k (fx_con o (fx_z a) (fx_z b)) j' = true ∧ fx_rj X j' := by
  rcases x with a | i | r | n
  · rcases y with b | i2 | r2 | n2
    · refine ⟨_, _, j, hx, hy, ?_, hj⟩
      rw [fx_z_of, fx_z_of]
      exact e
    · cases i2 with
      | zero => cases e
      | succ i2 =>
        obtain ⟨j', h1, h2⟩ := fx_cut_ok (o := fx_swap o) hj e
        refine ⟨_, _, j', hx, hy, ?_, h2⟩
        rw [fx_con_swap ho, ← fx_z_of] at h1
        exact h1
    · cases e
    · cases e
  · cases i with
    | zero =>
      rcases y with b | i2 | r2 | n2 <;> cases e
    | succ i =>
      rcases y with b | i2 | r2 | n2
      · obtain ⟨j', h1, h2⟩ := fx_cut_ok (o := o) hj e
        refine ⟨_, _, j', hx, hy, ?_, h2⟩
        rw [← fx_z_of] at h1
        exact h1
      · cases i2 with
        | zero => cases e
        | succ i2 =>
          obtain ⟨e1, e2⟩ := fx_and e
          have := fx_beq e1
          subst this
          refine ⟨_, _, j, hx, hy, ?_, hj⟩
          rw [fx_con_eq]
          exact e2
      · cases e
      · cases e
  · rcases y with b | i2 | r2 | n2 <;> cases e
  · rcases y with b | i2 | r2 | n2 <;> cases e
theorem fx_few_ok {X : fx_X} {j : fx_J} (hj : fx_rj X j) {v : fx_V} {i lo n : Nat} (h : fx_few j v = some (i, lo, n)) : lo ≤ fx_z (X.1 i) ∧ fx_z (X.1 i) ≤ lo + n := by
  rcases v with a | i0 | r | m
  · cases h
  · cases i0 with
    | zero => cases h
    | succ i0 =>
      have h : fx_if (Nat.ble ((fx_iv j (i0 + 1)).2 - (fx_iv j (i0 + 1)).1) 20) (some (i0 + 1, (fx_iv j (i0 + 1)).1, (fx_iv j (i0 + 1)).2 - (fx_iv j (i0 + 1)).1)) none = some (i, lo, n) := h
      cases hc : Nat.ble ((fx_iv j (i0 + 1)).2 - (fx_iv j (i0 + 1)).1) 20 with
      | true =>
        rw [hc, fx_if_t] at h
        have hq := fx_iv_ok hj (i0 + 1)
        cases h
        omega
      | false =>
        rw [hc, fx_if_f] at h
        cases h
  · cases h
  · cases h
theorem fx_each_ok {X : fx_X} {j : fx_J} (hj : fx_rj X j) {i lo : Nat} {k : fx_J → Bool} : ∀ {n : Nat}, fx_each j i lo n k = true → lo ≤ fx_z (X.1 i) → fx_z (X.1 i) ≤ lo + n → ∃ j', k j' = true ∧ fx_rj X j' := by
  intro n
  induction n with
  | zero => intro e h1 h2; exact fx_with_ok hj ⟨h1, h2⟩ e
  | succ n ih =>
    intro e h1 h2
    obtain ⟨e1, e2⟩ := fx_and (a := fx_with j i (lo + (n + 1)) (lo + (n + 1)) k) (b := fx_each j i lo n k) e
    by_cases h : fx_z (X.1 i) = lo + (n + 1)
    · exact fx_with_ok hj ⟨by omega, by omega⟩ e1
    · exact ih e2 h1 (by omega)
