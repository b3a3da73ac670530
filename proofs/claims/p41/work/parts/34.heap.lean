theorem fw_put {α : Type} (a : α) : ∀ (l : List α) (n : Nat), n < l.length → ∀ k : List α → Bool, fx_put a l n k = k (l.set n a) := by
  intro l
  induction l with
  | nil => intro n hn; simp at hn
  | cons b l ih =>
    intro n hn k
    cases n with
    | zero => rfl
    | succ n => exact ih n (Nat.lt_of_succ_lt_succ hn) (fun t => k (b :: t))
theorem fw_hset {h : fx_H} {k : Nat} {c0 : fx_C} (c : fx_C) (hg : fx_hget h k = some c0) : ∃ h', h'.1 = h.1 ∧ fx_hget h' k = some c ∧ (∀ i, i ≠ k → fx_hget h' i = fx_hget h i) ∧ ∀ kk : fx_H → Bool, fx_hset h k c kk = kk h' := by
  obtain ⟨n, rows⟩ := h
  rw [fx_hget_eq] at hg
  cases hr : rows[k / 16]? with
  | none => rw [hr] at hg; cases hg
  | some r =>
    rw [hr] at hg
    have hg : r[k % 16]? = some c0 := hg
    have l1 : k % 16 < r.length := (List.getElem?_eq_some_iff.mp hg).1
    have l2 : k / 16 < rows.length := (List.getElem?_eq_some_iff.mp hr).1
    have eq : ∀ kk : fx_H → Bool, fx_hset (n, rows) k c kk = kk (n, rows.set (k / 16) (r.set (k % 16) c)) := fun kk => by
      unfold fx_hset
      simp only
      rw [show fx_nth rows (Nat.div k 16) = some r by rw [fx_nth_eq]; exact hr]
      simp only
      rw [show k.mod 16 = k % 16 from rfl, show k.div 16 = k / 16 from rfl, fw_put _ _ _ l1, fw_put _ _ _ l2]
    have e1 : fx_hset (n, rows) k c (fun _ => true) = true := by rw [eq]
    refine ⟨(n, rows.set (k / 16) (r.set (k % 16) c)), rfl, ?_, ?_, eq⟩
    · rw [fx_hget_eq, List.getElem?_set_self l2]
      exact List.getElem?_set_self l1
    · intro i hi
      rw [fx_hget_eq, fx_hget_eq]
      by_cases hq : i / 16 = k / 16
      · rw [hq, List.getElem?_set_self l2, hr]
        show (r.set (k % 16) c)[i % 16]? = r[i % 16]?
        rw [List.getElem?_set_ne]
        intro hm
        apply hi
        rw [← Nat.div_add_mod i 16, ← Nat.div_add_mod k 16, hq, hm]
      · rw [List.getElem?_set_ne (Ne.symm hq)]
theorem fw_aset (ty : Nat) (u : List (Nat × fx_V)) (n : Nat) (v : fx_V) : ∃ u', fx_aget ty u' n = v ∧ (∀ i, i ≠ n → fx_aget ty u' i = fx_aget ty u i) ∧ ∀ k : List (Nat × fx_V) → Bool, fx_aset ty u n v k = k u' := by
  have X0 : fx_X := (fun _ => 0, 0, fun _ => .null)
  unfold fx_aset
  cases h1 : fx_veq v (fx_aget ty u n) with
  | true => exact ⟨u, (fx_veq_ok (X := X0) h1).symm, fun _ _ => rfl, fun k => by rw [fx_if_t]⟩
  | false =>
    cases h2 : fx_veq v (fx_dft ty) with
    | true =>
      refine ⟨u.filter (fun q => !(Nat.beq q.1 n)), ?_, fun i hi => ?_, fun k => by rw [fx_if_f, fx_without_eq, fx_if_t]⟩
      · rw [fx_aget_def, fx_look_gone]
        exact (fx_veq_ok (X := X0) h2).symm
      · rw [fx_aget_def, fx_aget_def, fx_look_out i n hi]
    | false =>
      refine ⟨(n, v) :: u.filter (fun q => !(Nat.beq q.1 n)), ?_, fun i hi => ?_, fun k => by rw [fx_if_f, fx_without_eq, fx_if_f]⟩
      · rw [fx_aget_def, fx_look_hit]
      · rw [fx_aget_def, fx_aget_def, fx_look_miss _ _ (Ne.symm hi), fx_look_out i n hi]
theorem fw_copy (s d : List (Nat × fx_V)) (sp dp : Nat) : ∀ n : Nat, ∃ u, (∀ i, fx_aget 0 u i = if dp ≤ i ∧ i < dp + n then fx_aget 0 s (sp + (i - dp)) else fx_aget 0 d i) ∧ ∀ k : List (Nat × fx_V) → Bool, fx_copy s d sp dp n k = k u := by
  intro n
  induction n with
  | zero => exact ⟨d, fun i => by rw [if_neg (by omega)], fun k => rfl⟩
  | succ n ih =>
    obtain ⟨u, h1, h2⟩ := ih
    obtain ⟨u', h3, h4, h5⟩ := fw_aset 0 u (dp + n) (fx_aget 0 s (sp + n))
    refine ⟨u', fun i => ?_, fun k => ?_⟩
    · by_cases hi : i = dp + n
      · subst hi
        rw [h3, if_pos (by omega), show dp + n - dp = n by omega]
      · rw [h4 i hi, h1 i]
        by_cases hc : dp ≤ i ∧ i < dp + n
        · rw [if_pos hc, if_pos (by omega)]
        · rw [if_neg hc, if_neg (by omega)]
    · have e : fx_copy s d sp dp (n + 1) k = fx_copy s d sp dp n (fun u => fx_aset 0 u (dp + n) (fx_aget 0 s (sp + n)) k) := rfl
      rw [e, h2, h5]
/-- places: cell and index -/
theorem ai_p1 {r i : Nat} (hi : i < 4096) : (r * 4096 + i) / 4096 = r := by omega
theorem ai_p2 {r i : Nat} (hi : i < 4096) : (r * 4096 + i) % 4096 = i := by omega
theorem ai_pl_obj {h : fx_H} {r ci i : Nat} {ws : List fx_V} (hg : fx_hget h r = some (.inr (.inl (ci, ws)))) (hi : i < 4096) : ai_pl h (r * 4096 + i) = ws[i]? := by
  unfold ai_pl
  rw [ai_p1 hi, ai_p2 hi, hg]
theorem ai_pl_arr {h : fx_H} {r ty len i : Nat} {u : List (Nat × fx_V)} (hg : fx_hget h r = some (.inr (.inr (ty, len, u)))) (hi : i < 4096) (hl : i < len) : ai_pl h (r * 4096 + i) = some (fx_aget ty u i) := by
  unfold ai_pl
  rw [ai_p1 hi, ai_p2 hi, hg]
  simp only
  rw [if_pos hl]
theorem ai_pl_off {h h' : fx_H} {r : Nat} (e4 : ∀ i, i ≠ r → fx_hget h' i = fx_hget h i) {p : Nat} (hp : p / 4096 ≠ r) : ai_pl h' p = ai_pl h p := by
  unfold ai_pl
  rw [e4 _ hp]
theorem ai_inv_set {T : ai_T} {h h' : fx_H} {r : Nat} {x : fx_C} (hI : ai_inv T h) (e3 : fx_hget h' r = some x) (e4 : ∀ i, i ≠ r → fx_hget h' i = fx_hget h i) (hx : ∀ c, ai_cell T r = some c → ai_co c x) : ai_inv T h' := by
  intro k c hc
  by_cases hk : k = r
  · subst hk
    exact ⟨x, e3, hx c hc⟩
  · obtain ⟨y, h1, h2⟩ := hI k c hc
    exact ⟨y, by rw [e4 k hk]; exact h1, h2⟩
theorem ai_mem_ok {l : List Nat} {x : Nat} (h : ai_mem l x = true) : x ∈ l := by
  induction l with
  | nil => cases h
  | cons a l ih =>
    rcases fx_or (a := Nat.beq a x) (b := ai_mem l x) h with h | h
    · rw [fx_beq h]; exact List.mem_cons_self
    · exact List.mem_cons_of_mem _ (ih h)
theorem ai_fr_trans {m : ai_M} {h0 h h' : fx_H} (h1 : ai_fr m h0 h) (h2 : ai_fr m h h') : ai_fr m h0 h' := fun p a b => (h2 p a b).trans (h1 p a b)
theorem ai_fr_refl {m : ai_M} {h : fx_H} : ai_fr m h h := fun _ _ _ => rfl
theorem ai_fr_sub {m m2 : ai_M} {h h' : fx_H} (h1 : ai_fr m h h') (g1 : ∀ p ∈ m.1, ai_mem m2.1 p = true) (g2 : ∀ p ∈ m.2, ai_mem m2.2 p = true) : ai_fr m2 h h' := fun p a b => by
  refine h1 p ?_ ?_
  · cases hc : ai_mem m.1 p with
    | false => rfl
    | true => rw [g1 p (ai_mem_ok hc)] at a; cases a
  · cases hc : ai_mem m.2 (p / 4096) with
    | false => rfl
    | true => rw [g2 _ (ai_mem_ok hc)] at b; cases b
theorem ai_fr_arr {m : ai_M} {h h' : fx_H} {r : Nat} (hm : ai_mem m.2 r = true) (e4 : ∀ i, i ≠ r → fx_hget h' i = fx_hget h i) : ai_fr m h h' := fun p a b => by
  refine ai_pl_off e4 (fun q => ?_)
  rw [q, hm] at b
  cases b
/-- facts behind a store into an array: those of other cells stay -/
theorem ai_out_ok {r : Nat} : ∀ {F : fx_L} {k : fx_L → Bool}, ai_out r F k = true → k (F.filter (fun q => !(Nat.beq (Nat.div q.1 4096) r))) = true := by
  intro F
  induction F with
  | nil => intro k h; exact h
  | cons q F ih =>
    intro k h
    have e := ih (k := fun t => fx_if (Nat.beq (Nat.div q.1 4096) r) (k t) (k (q :: t))) h
    cases hc : Nat.beq (Nat.div q.1 4096) r with
    | true =>
      simp only [hc, fx_if_t] at e
      rw [List.filter_cons_of_neg (by simp [hc])]
      exact e
    | false =>
      simp only [hc, fx_if_f] at e
      rw [List.filter_cons_of_pos (by simp [hc])]
      exact e
theorem ai_look_key (g : Nat → Bool) {i : Nat} {v : fx_V} : ∀ {l : fx_L}, fx_look (l.filter (fun q => g q.1)) i = some v → fx_look l i = some v ∧ g i = true := by
  intro l
  induction l with
  | nil => intro h; cases h
  | cons q l ih =>
    intro h
    cases hf : g q.1 with
    | false =>
      rw [List.filter_cons_of_neg (by simp [hf])] at h
      obtain ⟨h1, h2⟩ := ih h
      refine ⟨?_, h2⟩
      rw [fx_look_cons]
      cases hc : Nat.beq q.1 i with
      | true => rw [fx_beq hc, h2] at hf; cases hf
      | false => exact h1
    | true =>
      rw [List.filter_cons_of_pos (by simp [hf]), fx_look_cons] at h
      rw [fx_look_cons]
      cases hc : Nat.beq q.1 i with
      | true => rw [hc, fx_if_t] at h; rw [fx_if_t, ← fx_beq hc]; exact ⟨h, hf⟩
      | false => rw [hc, fx_if_f] at h; rw [fx_if_f]; exact ih h
theorem ai_l_out {ρ : List Nat} {F : fx_L} {h h' : fx_H} {r : Nat} (hF : ai_l ρ F (ai_pl h)) (e4 : ∀ i, i ≠ r → fx_hget h' i = fx_hget h i) : ai_l ρ (F.filter (fun q => !(Nat.beq (Nat.div q.1 4096) r))) (ai_pl h') := fun i v hv => by
  obtain ⟨h1, h2⟩ := ai_look_key (fun p => !(Nat.beq (Nat.div p 4096) r)) hv
  obtain ⟨w, g1, g2⟩ := hF i v h1
  refine ⟨w, ?_, g2⟩
  rw [ai_pl_off e4 (fun q => ?_)]
  · exact g1
  · rw [show Nat.div i 4096 = r from q, Nat.beq_refl] at h2
    cases h2
theorem ai_l_cons {ρ : List Nat} {F : fx_L} {f g : Nat → Option fx_V} {p : Nat} {v w : fx_V} (hF : ai_l ρ F f) (hp : g p = some w) (hv : ai_v ρ v w) (ho : ∀ q, q ≠ p → g q = f q) : ai_l ρ ((p, v) :: F) g := fun i u hu => by
  rw [fx_look_cons] at hu
  cases hc : Nat.beq p i with
  | true =>
    have := fx_beq hc
    subst this
    rw [hc, fx_if_t] at hu
    cases hu
    exact ⟨w, hp, hv⟩
  | false =>
    rw [hc, fx_if_f] at hu
    obtain ⟨w2, h1, h2⟩ := hF i u hu
    exact ⟨w2, by rw [ho i (Ne.symm (fx_bnq hc))]; exact h1, h2⟩
/-- intervals of arrays -/
theorem ai_join_ok {L : List (Nat × Nat)} {i : Nat} : ∀ {n lo hi : Nat}, ai_join L i n = some (lo, hi) → ∀ m, m ≤ n → ∃ q, L[(i + m) % L.length]? = some q ∧ lo ≤ q.1 ∧ q.2 ≤ hi := by
  intro n
  induction n with
  | zero =>
    intro lo hi h m hm
    have h : fx_nth L (Nat.mod i L.length) = some (lo, hi) := h
    rw [fx_nth_eq] at h
    have : m = 0 := by omega
    subst this
    exact ⟨(lo, hi), h, Nat.le_refl _, Nat.le_refl _⟩
  | succ n ih =>
    intro lo hi h m hm
    have h : (match ai_join L i n with
      | none => none
      | some (lo, hi) => match fx_nth L (Nat.mod (i + (n + 1)) L.length) with
        | none => none
        | some (a, b) => some (ai_min lo a, ai_max hi b)) = some (lo, hi) := h
    cases h1 : ai_join L i n with
    | none => rw [h1] at h; cases h
    | some q =>
      obtain ⟨lo1, hi1⟩ := q
      rw [h1] at h
      simp only at h
      cases h2 : fx_nth L (Nat.mod (i + (n + 1)) L.length) with
      | none => rw [h2] at h; cases h
      | some q =>
        obtain ⟨a, b⟩ := q
        rw [h2] at h
        simp only [ai_min_le, ai_max_le] at h
        cases h
        by_cases hq : m = n + 1
        · subst hq
          rw [fx_nth_eq] at h2
          exact ⟨(a, b), h2, by simp only; omega, by simp only; omega⟩
        · obtain ⟨q, g1, g2, g3⟩ := ih h1 m (by omega)
          exact ⟨q, g1, by omega, by omega⟩
theorem ai_span_ok {L : List (Nat × Nat)} {c d lo hi i : Nat} (h : ai_span L c d = some (lo, hi)) (h1 : c ≤ i) (h2 : i ≤ d) : ∃ q, L[i % L.length]? = some q ∧ lo ≤ q.1 ∧ q.2 ≤ hi := by
  unfold ai_span at h
  cases e1 : Nat.beq L.length 1 with
  | true =>
    rw [e1, fx_if_t, fx_nth_eq] at h
    have e1 := fx_beq e1
    refine ⟨(lo, hi), ?_, Nat.le_refl _, Nat.le_refl _⟩
    rw [show i % L.length = 0 by rw [e1]; omega]
    exact h
  | false =>
    rw [e1, fx_if_f] at h
    cases e2 : Nat.ble (d - c) L.length with
    | true =>
      rw [e2, fx_if_t] at h
      obtain ⟨q, g1, g2, g3⟩ := ai_join_ok h (i - c) (by omega)
      rw [show c + (i - c) = i by omega] at g1
      exact ⟨q, g1, g2, g3⟩
    | false =>
      rw [e2, fx_if_f] at h
      have hl : 0 < L.length := by
        rcases Nat.eq_zero_or_pos L.length with q | q
        · exfalso
          obtain ⟨q, g1, -⟩ := ai_join_ok h 0 (Nat.zero_le _)
          have := (List.getElem?_eq_some_iff.mp g1).1
          omega
        · exact q
      obtain ⟨q, g1, g2, g3⟩ := ai_join_ok h (i % L.length) (Nat.le_of_lt (Nat.mod_lt _ hl))
      rw [Nat.zero_add, Nat.mod_mod] at g1
      exact ⟨q, g1, g2, g3⟩
theorem ai_into_ok {L : List (Nat × Nat)} {c d a b i : Nat} (h : ai_into L c d a b = true) (h1 : c ≤ i) (h2 : i ≤ d) : ∃ q, L[i % L.length]? = some q ∧ q.1 ≤ a ∧ b ≤ q.2 := by
  unfold ai_into at h
  have one : ∀ {j : Nat}, (match fx_nth L j with
      | some (lo, hi) => Nat.ble lo a && Nat.ble b hi
      | none => false) = true → ∃ q, L[j]? = some q ∧ q.1 ≤ a ∧ b ≤ q.2 := fun {j} e => by
    cases hj : fx_nth L j with
    | none => rw [hj] at e; cases e
    | some q =>
      obtain ⟨lo, hi⟩ := q
      rw [hj] at e
      obtain ⟨g1, g2⟩ := fx_and e
      rw [fx_nth_eq] at hj
      exact ⟨_, hj, fx_ble g1, fx_ble g2⟩
  cases e1 : Nat.beq L.length 1 with
  | true =>
    rw [e1, fx_if_t] at h
    have e1 := fx_beq e1
    obtain ⟨q, g1, g2⟩ := one h
    rw [show i % L.length = 0 by rw [e1]; omega]
    exact ⟨q, g1, g2⟩
  | false =>
    rw [e1, fx_if_f] at h
    obtain ⟨-, h⟩ := fx_and h
    have all : ∀ n, (Nat.rec (motive := fun _ => Bool) true (fun m ih => (match fx_nth L (Nat.mod (c + m) L.length) with
        | some (lo, hi) => Nat.ble lo a && Nat.ble b hi
        | none => false) && ih) n) = true → ∀ m, m < n → ∃ q, L[(c + m) % L.length]? = some q ∧ q.1 ≤ a ∧ b ≤ q.2 := by
      intro n
      induction n with
      | zero => intro _ m hm; omega
      | succ n ih =>
        intro e m hm
        obtain ⟨g1, g2⟩ := fx_and e
        by_cases hq : m = n
        · subst hq
          exact one g1
        · exact ih g2 m (by omega)
    obtain ⟨q, g1, g2⟩ := all (d - c + 1) h (i - c) (by omega)
    rw [show c + (i - c) = i by omega] at g1
    exact ⟨q, g1, g2⟩
