theorem fx_num_eq (n : Nat) (k : Nat → Bool) : fx_num n k = k n := by cases n <;> rfl
theorem fx_if_t {α : Type} (x y : α) : fx_if true x y = x := rfl
theorem fx_if_f {α : Type} (x y : α) : fx_if false x y = y := rfl
theorem fx_beq {a b : Nat} (h : Nat.beq a b = true) : a = b := Nat.eq_of_beq_eq_true h
theorem fx_bnq {a b : Nat} (h : Nat.beq a b = false) : a ≠ b := Nat.ne_of_beq_eq_false h
theorem fx_ble {a b : Nat} (h : Nat.ble a b = true) : a ≤ b := Nat.le_of_ble_eq_true h
theorem fx_blt {a b : Nat} (h : Nat.blt a b = true) : a < b := Nat.le_of_ble_eq_true h
theorem fx_nle {a b : Nat} (h : Nat.ble a b = false) : b < a := by
  rcases Nat.lt_or_ge b a with q | q
  · exact q
  · rw [Nat.ble_eq_true_of_le q] at h; cases h
theorem fx_nlt {a b : Nat} (h : Nat.blt a b = false) : b ≤ a := Nat.le_of_lt_succ (fx_nle h)
theorem fx_and {a b : Bool} (h : (a && b) = true) : a = true ∧ b = true := by simpa using h
theorem fx_or {a b : Bool} (h : (a || b) = true) : a = true ∨ b = true := by simpa using h
theorem fx_nth_eq {α : Type} (l : List α) : ∀ n, fx_nth l n = l[n]? := by
  induction l with
  | nil => intro n; rfl
  | cons a l ih =>
    intro n
    cases n with
    | zero => rfl
    | succ n => rw [List.getElem?_cons_succ, ← ih n]; rfl
theorem fx_put_ok {α : Type} {a : α} : ∀ {l : List α} {n : Nat} {k : List α → Bool}, fx_put a l n k = true → n < l.length ∧ k (l.set n a) = true := by
  intro l
  induction l with
  | nil => intro n k h; cases h
  | cons b l ih =>
    intro n k h
    cases n with
    | zero => exact ⟨Nat.succ_pos _, h⟩
    | succ n =>
      obtain ⟨h1, h2⟩ := ih (k := fun t => k (b :: t)) h
      exact ⟨Nat.succ_lt_succ h1, h2⟩
theorem fx_snoc_eq {α : Type} (a : α) : ∀ (l : List α) (k : List α → Bool), fx_snoc a l k = k (l ++ [a]) := by
  intro l
  induction l with
  | nil => intro k; rfl
  | cons b l ih => intro k; exact ih (fun t => k (b :: t))
theorem fx_hget_eq (n : Nat) (rows : List (List fx_C)) (k : Nat) : fx_hget (n, rows) k = (rows[k / 16]?).bind (fun r => r[k % 16]?) := by
  unfold fx_hget
  rw [fx_nth_eq]
  show (match rows[k / 16]? with | none => none | some r => fx_nth r (k % 16)) = _
  cases rows[k / 16]? with
  | none => rfl
  | some r => exact fx_nth_eq r _
theorem fx_hset_ok {h : fx_H} {k : Nat} {c : fx_C} {kk : fx_H → Bool} (e : fx_hset h k c kk = true) : ∃ h', kk h' = true ∧ h'.1 = h.1 ∧ (∃ c0, fx_hget h k = some c0) ∧ fx_hget h' k = some c ∧ ∀ i, i ≠ k → fx_hget h' i = fx_hget h i := by
  obtain ⟨n, rows⟩ := h
  unfold fx_hset at e
  simp only at e
  cases hr : fx_nth rows (Nat.div k 16) with
  | none => rw [hr] at e; cases e
  | some r =>
    rw [hr] at e
    simp only at e
    obtain ⟨h1, h2⟩ := fx_put_ok e
    obtain ⟨h3, h4⟩ := fx_put_ok h2
    rw [fx_nth_eq] at hr
    have hr' : rows[k / 16]? = some r := hr
    have h1' : k % 16 < r.length := h1
    have h3 : k / 16 < rows.length := h3
    refine ⟨_, h4, rfl, ?_, ?_, ?_⟩
    · rw [fx_hget_eq, hr']
      exact ⟨_, List.getElem?_eq_getElem h1'⟩
    · rw [fx_hget_eq]
      show ((rows.set (k / 16) (r.set (k % 16) c))[k / 16]?).bind _ = _
      rw [List.getElem?_set_self h3]
      exact List.getElem?_set_self h1'
    · intro i hi
      rw [fx_hget_eq, fx_hget_eq]
      show ((rows.set (k / 16) (r.set (k % 16) c))[i / 16]?).bind _ = _
      by_cases hq : i / 16 = k / 16
      · rw [hq, List.getElem?_set_self h3, hr']
        show (r.set (k % 16) c)[i % 16]? = r[i % 16]?
        rw [List.getElem?_set_ne]
        intro hm
        apply hi
        rw [← Nat.div_add_mod i 16, ← Nat.div_add_mod k 16, hq, hm]
      · rw [List.getElem?_set_ne (Ne.symm hq)]
theorem fx_hnew_ok {h : fx_H} {c : fx_C} {kk : fx_H → Bool} (e : fx_hnew h c kk = true) : ∃ h', kk h' = true ∧ h'.1 = h.1 + 1 ∧ h.1 < 1000000 ∧ fx_hget h' h.1 = some c ∧ ∀ i, i ≠ h.1 → fx_hget h' i = fx_hget h i := by
  obtain ⟨n, rows⟩ := h
  unfold fx_hnew at e
  simp only at e
  obtain ⟨e0, e⟩ := fx_and e
  have hn := fx_blt e0
  cases hm : Nat.beq (Nat.mod n 16) 0 with
  | true =>
    rw [hm, fx_if_t] at e
    obtain ⟨e1, e⟩ := fx_and e
    have hl : rows.length = n / 16 := fx_beq e1
    have hm0 : n % 16 = 0 := fx_beq hm
    rw [fx_snoc_eq, fx_num_eq] at e
    refine ⟨_, e, rfl, hn, ?_, ?_⟩
    · rw [fx_hget_eq]
      show ((rows ++ [[c]])[n / 16]?).bind _ = _
      rw [← hl, List.getElem?_append_right (Nat.le_refl _), Nat.sub_self]
      show ([c] : List fx_C)[n % 16]? = _
      rw [hm0]; rfl
    · intro i hi
      have hi : i ≠ n := hi
      rw [fx_hget_eq, fx_hget_eq]
      by_cases hq : i / 16 < rows.length
      · rw [List.getElem?_append_left hq]
      · rw [List.getElem?_append_right (by omega), List.getElem?_eq_none (by omega : rows.length ≤ i / 16)]
        by_cases hz : i / 16 = rows.length
        · rw [hz, Nat.sub_self]
          show ([c] : List fx_C)[i % 16]? = none
          have : i % 16 ≠ 0 := by omega
          obtain ⟨m, hm2⟩ := Nat.exists_eq_succ_of_ne_zero this
          rw [hm2]; rfl
        · have : ∃ m, i / 16 - rows.length = m + 1 := ⟨i / 16 - rows.length - 1, by omega⟩
          obtain ⟨m, hm2⟩ := this
          rw [hm2]; rfl
  | false =>
    rw [hm, fx_if_f] at e
    cases hr : fx_nth rows (Nat.div n 16) with
    | none => rw [hr] at e; cases e
    | some r =>
      rw [hr] at e
      simp only at e
      obtain ⟨e1, e⟩ := fx_and e
      have hl : r.length = n % 16 := fx_beq e1
      rw [fx_snoc_eq] at e
      obtain ⟨h3, e⟩ := fx_put_ok e
      rw [fx_num_eq] at e
      rw [fx_nth_eq] at hr
      have hr' : rows[n / 16]? = some r := hr
      have h3 : n / 16 < rows.length := h3
      refine ⟨_, e, rfl, hn, ?_, ?_⟩
      · rw [fx_hget_eq]
        show ((rows.set (n / 16) (r ++ [c]))[n / 16]?).bind _ = _
        rw [List.getElem?_set_self h3]
        show (r ++ [c])[n % 16]? = _
        rw [← hl, List.getElem?_append_right (Nat.le_refl _), Nat.sub_self]; rfl
      · intro i hi
        have hi : i ≠ n := hi
        rw [fx_hget_eq, fx_hget_eq]
        show ((rows.set (n / 16) (r ++ [c]))[i / 16]?).bind _ = _
        by_cases hq : i / 16 = n / 16
        · rw [hq, List.getElem?_set_self h3, hr']
          show (r ++ [c])[i % 16]? = r[i % 16]?
          by_cases hz : i % 16 < r.length
          · rw [List.getElem?_append_left hz]
          · have hne : i % 16 ≠ n % 16 := fun q => hi (by rw [← Nat.div_add_mod i 16, ← Nat.div_add_mod n 16, hq, q])
            rw [List.getElem?_append_right (by omega), List.getElem?_eq_none (by omega : r.length ≤ i % 16)]
            obtain ⟨m, hm2⟩ : ∃ m, i % 16 - r.length = m + 1 := ⟨i % 16 - r.length - 1, by omega⟩
            rw [hm2]; rfl
        · rw [List.getElem?_set_ne (Ne.symm hq)]
theorem fx_drop_eq (i : Nat) : ∀ (l : fx_L) (k : fx_L → Bool), fx_drop l i k = k (l.filter (fun q => !(Nat.beq q.1 i || (Nat.beq (q.1 + 1) i && Nat.beq (fx_cat q.2) 2)))) := by
  intro l
  induction l with
  | nil => intro k; rfl
  | cons q l ih =>
    intro k
    have e := ih (fun t => fx_if (Nat.beq q.1 i || (Nat.beq (q.1 + 1) i && Nat.beq (fx_cat q.2) 2)) (k t) (k (q :: t)))
    refine Eq.trans e ?_
    cases hc : (Nat.beq q.1 i || (Nat.beq (q.1 + 1) i && Nat.beq (fx_cat q.2) 2)) with
    | true => rw [fx_if_t, List.filter_cons_of_neg (by simp [hc])]
    | false => rw [fx_if_f, List.filter_cons_of_pos (by simp [hc])]
theorem fx_drop2_eq (i : Nat) : ∀ (l : fx_L) (k : fx_L → Bool), fx_drop2 l i k = k (l.filter (fun q => !(Nat.beq q.1 i || (Nat.beq q.1 (i + 1) || (Nat.beq (q.1 + 1) i && Nat.beq (fx_cat q.2) 2))))) := by
  intro l
  induction l with
  | nil => intro k; rfl
  | cons q l ih =>
    intro k
    have e := ih (fun t => fx_if (Nat.beq q.1 i || (Nat.beq q.1 (i + 1) || (Nat.beq (q.1 + 1) i && Nat.beq (fx_cat q.2) 2))) (k t) (k (q :: t)))
    refine Eq.trans e ?_
    cases hc : (Nat.beq q.1 i || (Nat.beq q.1 (i + 1) || (Nat.beq (q.1 + 1) i && Nat.beq (fx_cat q.2) 2))) with
    | true => rw [fx_if_t, List.filter_cons_of_neg (by simp [hc])]
    | false => rw [fx_if_f, List.filter_cons_of_pos (by simp [hc])]
theorem fx_without_eq {α : Type} (i : Nat) : ∀ (l : List (Nat × α)) (k : List (Nat × α) → Bool), fx_without l i k = k (l.filter (fun q => !(Nat.beq q.1 i))) := by
  intro l
  induction l with
  | nil => intro k; rfl
  | cons q l ih =>
    intro k
    cases hc : Nat.beq q.1 i with
    | true =>
      have e : fx_without (q :: l) i k = fx_without l i k := by
        show fx_if (Nat.beq q.1 i) (fx_without l i k) (fx_without l i (fun t => k (q :: t))) = _
        rw [hc, fx_if_t]
      rw [e, ih, List.filter_cons_of_neg (by simp [hc])]
    | false =>
      have e : fx_without (q :: l) i k = fx_without l i (fun t => k (q :: t)) := by
        show fx_if (Nat.beq q.1 i) (fx_without l i k) (fx_without l i (fun t => k (q :: t))) = _
        rw [hc, fx_if_f]
      rw [e, ih, List.filter_cons_of_pos (by simp [hc])]
theorem fx_look_nil {α : Type} (i : Nat) : fx_look ([] : List (Nat × α)) i = none := rfl
theorem fx_look_cons {α : Type} (q : Nat × α) (l : List (Nat × α)) (i : Nat) : fx_look (q :: l) i = fx_if (Nat.beq q.1 i) (some q.2) (fx_look l i) := rfl
theorem fx_look_hit {α : Type} (n : Nat) (v : α) (l : List (Nat × α)) : fx_look ((n, v) :: l) n = some v := by
  rw [fx_look_cons, Nat.beq_refl, fx_if_t]
theorem fx_look_miss {α : Type} {n i : Nat} (v : α) (l : List (Nat × α)) (h : n ≠ i) : fx_look ((n, v) :: l) i = fx_look l i := by
  rw [fx_look_cons]
  cases hc : Nat.beq n i with
  | true => exact absurd (fx_beq hc) h
  | false => rfl
theorem fx_look_out {α : Type} (i n : Nat) (h : i ≠ n) : ∀ l : List (Nat × α), fx_look (l.filter (fun q => !(Nat.beq q.1 n))) i = fx_look l i := by
  intro l
  induction l with
  | nil => rfl
  | cons q l ih =>
    cases hc : Nat.beq q.1 n with
    | true =>
      rw [List.filter_cons_of_neg (by simp [hc]), ih, show q = (q.1, q.2) from rfl, fx_look_miss]
      rw [fx_beq hc]; exact Ne.symm h
    | false =>
      rw [List.filter_cons_of_pos (by simp [hc]), fx_look_cons, fx_look_cons, ih]
theorem fx_look_gone {α : Type} (n : Nat) : ∀ l : List (Nat × α), fx_look (l.filter (fun q => !(Nat.beq q.1 n))) n = none := by
  intro l
  induction l with
  | nil => rfl
  | cons q l ih =>
    cases hc : Nat.beq q.1 n with
    | true => rw [List.filter_cons_of_neg (by simp [hc]), ih]
    | false => rw [List.filter_cons_of_pos (by simp [hc]), show q = (q.1, q.2) from rfl, fx_look_miss _ _ (fx_bnq hc), ih]
theorem fx_split_ok : ∀ (n : Nat) (acc stk as st : List fx_V), Nat.rec (motive := fun _ => List fx_V → List fx_V → Option (List fx_V × List fx_V)) (fun acc st => some (acc, st)) (fun _ ih acc st => match st with
    | [] => none
    | v :: st => ih (v :: acc) st) n acc stk = some (as, st) → ∃ bs, bs.length = n ∧ as = bs ++ acc ∧ stk = bs.reverse ++ st := by
  intro n
  induction n with
  | zero =>
    intro acc stk as st h
    cases h
    exact ⟨[], rfl, rfl, rfl⟩
  | succ n ih =>
    intro acc stk as st h
    cases stk with
    | nil => cases h
    | cons v stk =>
      obtain ⟨bs, h1, h2, h3⟩ := ih (v :: acc) stk as st h
      exact ⟨bs ++ [v], by simp [h1], by simp [h2], by simp [h3]⟩
theorem fx_to_ok {cod : List fx_I} {t : Nat} {q : fx_I} {r : List fx_I} : fx_to cod t = q :: r → q.1 = t ∧ ∀ x ∈ (q :: r), x ∈ cod := by
  induction cod with
  | nil => intro h; cases h
  | cons p cod ih =>
    intro h
    have h : fx_if (Nat.beq p.1 t) (p :: cod) (fx_to cod t) = q :: r := h
    cases hc : Nat.beq p.1 t with
    | true =>
      rw [hc, fx_if_t] at h
      cases h
      exact ⟨fx_beq hc, fun x hx => hx⟩
    | false =>
      rw [hc, fx_if_f] at h
      obtain ⟨h1, h2⟩ := ih h
      exact ⟨h1, fun x hx => List.mem_cons_of_mem _ (h2 x hx)⟩
theorem fx_nx_ok {go : List fx_I → Bool} {pc len : Nat} {tl : List fx_I} (h : fx_nx go pc len tl = true) : ∃ r t, tl = r :: t ∧ r.1 = pc + len ∧ go tl = true := by
  unfold fx_nx at h
  cases tl with
  | nil => cases h
  | cons r t =>
    obtain ⟨h1, h2⟩ := fx_and h
    exact ⟨r, t, rfl, fx_beq h1, h2⟩
