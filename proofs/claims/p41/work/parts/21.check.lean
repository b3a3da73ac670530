noncomputable def fx_wq (n : Nat) (w : Cond) : Bool := match fx_nth lw_tbl n with
  | some u => decide (u = w) && goodWord u
  | none => false
theorem fx_wq_ok {n : Nat} {w : Cond} (h : fx_wq n w = true) : w ∈ fx_tb := by
  unfold fx_wq at h
  cases hn : fx_nth lw_tbl n with
  | none => rw [hn] at h; cases h
  | some u =>
    rw [hn] at h
    obtain ⟨h1, h2⟩ := fx_and h
    have := of_decide_eq_true h1
    subst this
    rw [fx_nth_eq] at hn
    exact fx_tbi (List.mem_of_getElem? hn) h2
noncomputable def fx_has {α : Type} (l : List α) (f : α → Bool) : Bool := List.rec (motive := fun _ => Bool) false (fun a _ ih => f a || ih) l
theorem fx_has_ok {α : Type} {f : α → Bool} : ∀ {l : List α}, fx_has l f = true → ∃ a ∈ l, f a = true := by
  intro l
  induction l with
  | nil => intro h; cases h
  | cons a l ih =>
    intro h
    rcases fx_or (a := f a) (b := fx_has l f) h with h | h
    · exact ⟨a, List.mem_cons_self, h⟩
    · obtain ⟨b, h1, h2⟩ := ih h
      exact ⟨b, List.mem_cons_of_mem _ h1, h2⟩
theorem fx_all_ok {α : Type} {f : α → Bool} : ∀ {l : List α}, fx_all l f = true → ∀ a ∈ l, f a = true := by
  intro l
  induction l with
  | nil => intro _ a ha; cases ha
  | cons b l ih =>
    intro h a ha
    obtain ⟨h1, h2⟩ := fx_and (a := f b) (b := fx_all l f) h
    rcases List.mem_cons.mp ha with rfl | ha
    · exact h1
    · exact ih h2 a ha
-- the tables of words
noncomputable def fx_ftB (q : Nat × (Nat × (Nat × (Nat × Nat)))) : Bool := match fx_nth fx_cl q.2.2.1 with
  | none => false
  | some (_, T, N) => Nat.blt q.2.2.2.1 N && fx_wq q.2.2.2.2 (Cond.fieldLink (fx_cn q.1) q.2.1 (T q.2.2.2.1).1 (T q.2.2.2.1).2.1 (T q.2.2.2.1).2.2.1)
set_option maxRecDepth 100000 in
theorem fx_ft_all : fx_all fx_ft fx_ftB = true := by decide +kernel
theorem fx_ft_ok {o idx ci k : Nat} (h : fx_has fx_ft (fun q => Nat.beq q.1 o && (Nat.beq q.2.1 idx && (Nat.beq q.2.2.1 ci && Nat.beq q.2.2.2.1 k))) = true) : fx_fo (fx_cn o) idx ci k := by
  obtain ⟨⟨o', i', c', k', n'⟩, h1, h2⟩ := fx_has_ok h
  obtain ⟨e1, h2⟩ := fx_and h2
  obtain ⟨e2, h2⟩ := fx_and h2
  obtain ⟨e3, e4⟩ := fx_and h2
  have e1 := fx_beq e1
  have e2 := fx_beq e2
  have e3 := fx_beq e3
  have e4 := fx_beq e4
  simp only at e1 e2 e3 e4
  subst e1; subst e2; subst e3; subst e4
  have h3 := fx_all_ok fx_ft_all _ h1
  unfold fx_ftB at h3
  cases hc : fx_nth fx_cl c' with
  | none => simp only [hc] at h3; cases h3
  | some q =>
    obtain ⟨C, T, N⟩ := q
    simp only [hc] at h3
    obtain ⟨h4, h5⟩ := fx_and h3
    rw [fx_nth_eq] at hc
    exact ⟨C, T, N, hc, fx_blt h4, fx_wq_ok h5⟩
noncomputable def fx_ctB (q : Nat × (Nat × (Nat × Nat))) : Bool := fx_wq q.2.2.2 (Cond.constant (fx_cn q.1) q.2.1 (Int32.ofNat q.2.2.1))
set_option maxRecDepth 100000 in
theorem fx_ct_all : fx_all fx_ct fx_ctB = true := by decide +kernel
noncomputable def fx_ltB (q : Nat × (Nat × (Nat × Nat))) : Bool := fx_wq q.2.2.2 (Cond.constantLong (fx_cn q.1) q.2.1 (Int64.ofNat q.2.2.1))
set_option maxRecDepth 100000 in
theorem fx_lt_all : fx_all fx_lt fx_ltB = true := by decide +kernel
theorem fx_eq3 {l : List (Nat × (Nat × (Nat × Nat)))} {a b c : Nat} (h : fx_has l (fun q => Nat.beq q.1 a && (Nat.beq q.2.1 b && Nat.beq q.2.2.1 c)) = true) : ∃ n, (a, b, c, n) ∈ l := by
  obtain ⟨⟨o', i', c', n'⟩, h1, h2⟩ := fx_has_ok h
  obtain ⟨e1, h2⟩ := fx_and h2
  obtain ⟨e2, e3⟩ := fx_and h2
  have e1 := fx_beq e1
  have e2 := fx_beq e2
  have e3 := fx_beq e3
  simp only at e1 e2 e3
  subst e1; subst e2; subst e3
  exact ⟨n', h1⟩
theorem fx_eq2 {l : List (Nat × (Nat × Nat))} {a b : Nat} (h : fx_has l (fun q => Nat.beq q.1 a && Nat.beq q.2.1 b) = true) : ∃ n, (a, b, n) ∈ l := by
  obtain ⟨⟨o', i', n'⟩, h1, h2⟩ := fx_has_ok h
  obtain ⟨e1, e2⟩ := fx_and h2
  have e1 := fx_beq e1
  have e2 := fx_beq e2
  simp only at e1 e2
  subst e1; subst e2
  exact ⟨n', h1⟩
noncomputable def fx_ntB (q : Nat × (Nat × (Nat × Nat))) : Bool := match fx_nth fx_cl q.2.2.1 with
  | none => false
  | some (C, _, _) => fx_wq q.2.2.2 (Cond.classLink (fx_cn q.1) q.2.1 C)
set_option maxRecDepth 100000 in
theorem fx_nt_all : fx_all fx_nt fx_ntB = true := by decide +kernel
noncomputable def fx_otB (q : Nat × (Nat × Nat)) : Bool := fx_wq q.2.2 (Cond.methodLink (fx_cn q.1) q.2.1 Lib.objectInit)
set_option maxRecDepth 100000 in
theorem fx_ot_all : fx_all fx_ot fx_otB = true := by decide +kernel
noncomputable def fx_atB (q : Nat × (Nat × Nat)) : Bool := fx_wq q.2.2 (Cond.methodLink (fx_cn q.1) q.2.1 arraycopyName)
set_option maxRecDepth 100000 in
theorem fx_at_all : fx_all fx_at9 fx_atB = true := by decide +kernel
noncomputable def fx_xtB (q : Nat × (Nat × (Nat × Nat))) : Bool := fx_wq q.2.2.2 (fx_if (Nat.beq q.2.2.1 0) (Cond.fieldLink (fx_cn q.1) q.2.1 "java/lang/String" "value" "[B") (Cond.fieldLink (fx_cn q.1) q.2.1 "java/lang/String" "coder" "B"))
set_option maxRecDepth 100000 in
theorem fx_xt_all : fx_all fx_xt fx_xtB = true := by decide +kernel
noncomputable def fx_ztB (q : Nat × (Nat × (Nat × Nat))) : Bool := fx_wq q.2.2.2 (fx_if (Nat.beq q.2.2.1 0) (Cond.fieldLink (fx_cn q.1) q.2.1 "java/lang/String" "COMPACT_STRINGS" "Z") (Cond.fieldLink (fx_cn q.1) q.2.1 "jdk/internal/util/Preconditions" "SIOOBE_FORMATTER" "Ljava/util/function/BiFunction;"))
set_option maxRecDepth 100000 in
theorem fx_zt_all : fx_all fx_zt fx_ztB = true := by decide +kernel
noncomputable def fx_mxB (q : Nat × (Nat × (Nat × Nat))) : Bool := fx_wq q.2.2.2 (fx_if (Nat.beq q.2.2.1 0) (Cond.methodLink (fx_cn q.1) q.2.1 Lib.Math.max.name) (fx_if (Nat.beq q.2.2.1 1) (Cond.methodLink (fx_cn q.1) q.2.1 Lib.Math.min.name) (Cond.methodLink (fx_cn q.1) q.2.1 Lib.Math.abs.name)))
set_option maxRecDepth 100000 in
theorem fx_mx_all : fx_all fx_mx fx_mxB = true := by decide +kernel
-- calls
noncomputable def fx_tcB (t : Nat) (y : MethodName) : Bool := fx_if (Nat.beq t 99) (decide (y.cls = "java/lang/String")) (Nat.ble 2 t && (match fx_nth fx_cl (t - 2) with
  | some (C, _, _) => decide (C = y.cls)
  | none => false))
noncomputable def fx_ktB (q : Nat × (Nat × (Nat × (Nat × Nat)))) : Bool := match fx_mst q.2.2.2.1 with
  | none => false
  | some (y, _, _, rt) => match fx_mt q.2.2.2.1 with
    | none => false
    | some M => match fx_mo q.2.2.2.1 with
      | none => false
      | some (_, _, p2, p3, _) =>
        fx_if (Nat.beq q.2.1 0) ((fx_wq q.2.2.2.2 (Cond.methodLink (fx_cn q.1) q.2.2.1 y) && fx_wq p2 (Cond.instanceMethod y)) && (fx_wq p3 (Cond.selects y.cls y y) && fx_tcB M.2.2.2.2.1 y))
        (fx_if (Nat.beq q.2.1 1) ((fx_wq q.2.2.2.2 (Cond.methodLink (fx_cn q.1) q.2.2.1 y) && fx_wq p2 (Cond.instanceMethod y)) && (decide (y.name = "<init>") && (decide (rt = none) && Nat.beq M.2.2.2.2.1 1)))
        (fx_if (Nat.beq q.2.1 2) ((fx_wq q.2.2.2.2 (Cond.methodLink (fx_cn q.1) q.2.2.1 y) && fx_wq p2 (Cond.static y)) && Nat.beq M.2.2.2.2.1 0)
        (fx_if (Nat.beq q.2.1 3) ((decide ((fx_cn q.1, q.2.2.1, y, "FaceSenate") ∈ fx_nst) && fx_wq p2 (Cond.instanceMethod y)) && (decide (y.name = "<init>") && (decide (rt = none) && Nat.beq M.2.2.2.2.1 1)))
        (Nat.beq q.2.1 4 && ((decide ((fx_cn q.1, q.2.2.1, y, "FaceSenate") ∈ fx_nst) && fx_wq p2 (Cond.static y)) && Nat.beq M.2.2.2.2.1 0)))))
set_option maxRecDepth 100000 in
theorem fx_kt_all : fx_all fx_kt fx_ktB = true := by decide +kernel
