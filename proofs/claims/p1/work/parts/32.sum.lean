abbrev fx_sm : Type := Nat × (List fx_V × (fx_H × (Option fx_V × fx_H)))
noncomputable def fx_vm (t v : fx_V) : Bool := match t with
  | .inr (.inl 0) => fx_int v
  | _ => fx_vq t v
theorem fx_vm_ok {X : fx_X} {t v : fx_V} {w : Value} (h : fx_vm t v = true) (hr : fx_rv X v w) : fx_rv X t w := by
  rcases t with n | i | r | n
  · rw [fx_vq_ok (show fx_vq (.inl n) v = true from h)]; exact hr
  · cases i with
    | zero => exact fx_rv_int hr h
    | succ i => rw [fx_vq_ok (show fx_vq (.inr (.inl (i + 1))) v = true from h)]; exact hr
  · rw [fx_vq_ok (show fx_vq (.inr (.inr (.inl r))) v = true from h)]; exact hr
  · rw [fx_vq_ok (show fx_vq (.inr (.inr (.inr n))) v = true from h)]; exact hr
theorem fx_lm_ok {X : fx_X} : ∀ {t v : List fx_V} {w : List Value}, fx_lq fx_vm t v = true → fx_rl X v w → fx_rl X t w := by
  intro t
  induction t with
  | nil =>
    intro v w h hr
    cases v with
    | nil => exact hr
    | cons b v => cases h
  | cons a t ih =>
    intro v w h hr
    cases v with
    | nil => cases h
    | cons b v =>
      obtain ⟨h1, h2⟩ := fx_and (a := fx_vm a b) (b := fx_lq fx_vm t v) h
      obtain ⟨x, w, rfl, h3, h4⟩ := fx_rl_cons hr
      exact ⟨fx_vm_ok h1 h3, ih h2 h4⟩
noncomputable def fx_nm (a b : Nat × fx_V) : Bool := Nat.beq a.1 b.1 && fx_vm a.2 b.2
theorem fx_am_ok {X : fx_X} {ty : Nat} {i : Nat} {w : Value} : ∀ {t v : List (Nat × fx_V)}, fx_lq fx_nm t v = true → fx_rv X (fx_aget ty v i) w → fx_rv X (fx_aget ty t i) w := by
  intro t
  induction t with
  | nil =>
    intro v h hr
    cases v with
    | nil => exact hr
    | cons b v => cases h
  | cons a t ih =>
    intro v h hr
    cases v with
    | nil => cases h
    | cons b v =>
      obtain ⟨h1, h2⟩ := fx_and (a := fx_nm a b) (b := fx_lq fx_nm t v) h
      obtain ⟨h3, h4⟩ := fx_and h1
      have h3 := fx_beq h3
      rw [fx_aget_def, fx_look_cons] at hr ⊢
      rw [h3]
      cases hc : Nat.beq b.1 i with
      | true =>
        rw [hc, fx_if_t] at hr
        rw [fx_if_t]
        exact fx_vm_ok h4 hr
      | false =>
        rw [hc, fx_if_f] at hr
        rw [fx_if_f]
        exact ih h2 hr
noncomputable def fx_cm (t c : fx_C) : Bool := match t, c with
  | .inl _, _ => true
  | .inr (.inl (a, f)), .inr (.inl (b, g)) => Nat.beq a b && fx_lq fx_vm f g
  | .inr (.inr (a, n, f)), .inr (.inr (b, k, g)) => Nat.beq a b && (Nat.beq n k && fx_lq fx_nm f g)
  | _, _ => false
theorem fx_cm_ok {X : fx_X} {Y : fx_Y} {H : Heap} {t c : fx_C} {a : Nat} (h : fx_cm t c = true) (hr : fx_rc X Y c a H) : fx_rc X (Y.1, Y.2.1, Y.2.2.1, H) t a H := by
  rcases t with u | ⟨ci, f⟩ | ⟨ty, n, f⟩
  · rfl
  · rcases c with u | ⟨cj, g⟩ | ⟨tz, k, g⟩
    · cases h
    · obtain ⟨h1, h2⟩ := fx_and (a := Nat.beq ci cj) (b := fx_lq fx_vm f g) h
      have := fx_beq h1
      subst this
      obtain ⟨q, vs, g1, g2, g3, g4⟩ := hr
      exact ⟨q, vs, g1, g2, fx_lm_ok h2 g3, g4⟩
    · cases h
  · rcases c with u | ⟨cj, g⟩ | ⟨tz, k, g⟩
    · cases h
    · cases h
    · obtain ⟨h1, h2⟩ := fx_and (a := Nat.beq ty tz) (b := (Nat.beq n k && fx_lq fx_nm f g)) h
      obtain ⟨h2, h3⟩ := fx_and h2
      have h1 := fx_beq h1
      have h2 := fx_beq h2
      subst h1; subst h2
      obtain ⟨fa, g1, g2, g3, g4⟩ := hr
      exact ⟨fa, g1, g2, g3, fun i => fx_am_ok h3 (g4 i)⟩
theorem fx_lq_get {α : Type} {f : α → α → Bool} : ∀ {t m : List α}, fx_lq f t m = true → t.length = m.length ∧ ∀ (k : Nat) (a : α), t[k]? = some a → ∃ b, m[k]? = some b ∧ f a b = true := by
  intro t
  induction t with
  | nil =>
    intro m h
    cases m with
    | nil => exact ⟨rfl, fun k a hk => by simp at hk⟩
    | cons b m => cases h
  | cons c t ih =>
    intro m h
    cases m with
    | nil => cases h
    | cons b m =>
      obtain ⟨h1, h2⟩ := fx_and (a := f c b) (b := fx_lq f t m) h
      obtain ⟨h3, h4⟩ := ih h2
      refine ⟨by simp [h3], fun k a hk => ?_⟩
      cases k with
      | zero =>
        rw [List.getElem?_cons_zero] at hk
        cases hk
        exact ⟨b, rfl, h1⟩
      | succ k =>
        rw [List.getElem?_cons_succ] at hk
        rw [List.getElem?_cons_succ]
        exact h4 k a hk
noncomputable def fx_hm (t h : fx_H) : Bool := Nat.beq t.1 h.1 && fx_lq (fx_lq fx_cm) t.2 h.2
theorem fx_hm_get {t h : fx_H} (hh : fx_hm t h = true) : t.1 = h.1 ∧ ∀ k c, fx_hget t k = some c → ∃ c', fx_hget h k = some c' ∧ fx_cm c c' = true := by
  obtain ⟨h1, h2⟩ := fx_and hh
  refine ⟨fx_beq h1, fun k c hk => ?_⟩
  obtain ⟨n, rt⟩ := t
  obtain ⟨n', rh⟩ := h
  rw [fx_hget_eq] at hk ⊢
  obtain ⟨-, h3⟩ := fx_lq_get h2
  cases hr : rt[k / 16]? with
  | none => rw [hr] at hk; cases hk
  | some r =>
    rw [hr] at hk
    obtain ⟨r', h4, h5⟩ := h3 _ _ hr
    obtain ⟨-, h6⟩ := fx_lq_get h5
    obtain ⟨c', h7, h8⟩ := h6 _ _ hk
    exact ⟨c', by show (rh[k / 16]?).bind _ = _; rw [h4]; exact h7, h8⟩
/-- the cells behind: those of the picture, the others as they were -/
noncomputable def fx_oc {β : Type} (t c : fx_C) (k : fx_C → β) : β := match t with
  | .inl _ => k c
  | .inr x => k (.inr x)
noncomputable def fx_or1 {β : Type} (t : List fx_C) : List fx_C → (List fx_C → Option β) → Option β := List.rec (motive := fun _ => List fx_C → (List fx_C → Option β) → Option β) (fun m k => match m with
    | [] => k []
    | _ :: _ => none) (fun a _ ih m k => match m with
    | [] => none
    | b :: m => fx_oc a b (fun c => ih m (fun r => k (c :: r)))) t
noncomputable def fx_or2 {β : Type} (t : List (List fx_C)) : List (List fx_C) → (List (List fx_C) → Option β) → Option β := List.rec (motive := fun _ => List (List fx_C) → (List (List fx_C) → Option β) → Option β) (fun m k => match m with
    | [] => k []
    | _ :: _ => none) (fun a _ ih m k => match m with
    | [] => none
    | b :: m => fx_or1 a b (fun c => ih m (fun r => k (c :: r)))) t
def fx_oq (t c d : fx_C) : Prop := (t = .inl () ∧ d = c) ∨ (t ≠ .inl () ∧ d = t)
theorem fx_or1_ok {β : Type} {v : β} : ∀ {t m : List fx_C} {k : List fx_C → Option β}, fx_or1 t m k = some v → ∃ r, k r = some v ∧ r.length = t.length ∧ ∀ (i : Nat) (a : fx_C), r[i]? = some a → ∃ x y, t[i]? = some x ∧ m[i]? = some y ∧ fx_oq x y a := by
  intro t
  induction t with
  | nil =>
    intro m k h
    cases m with
    | nil => exact ⟨[], h, rfl, fun i a hi => by simp at hi⟩
    | cons b m => cases h
  | cons c t ih =>
    intro m k h
    cases m with
    | nil => cases h
    | cons b m =>
      have h : fx_oc c b (fun c => fx_or1 t m (fun r => k (c :: r))) = some v := h
      obtain ⟨d, hd, hq⟩ : ∃ d, fx_or1 t m (fun r => k (d :: r)) = some v ∧ fx_oq c b d := by
        rcases c with u | x
        · exact ⟨b, h, Or.inl ⟨rfl, rfl⟩⟩
        · exact ⟨.inr x, h, Or.inr ⟨fun q => (by cases q), rfl⟩⟩
      obtain ⟨r, h1, h2, h3⟩ := ih hd
      refine ⟨d :: r, h1, by simp [h2], fun i a hi => ?_⟩
      cases i with
      | zero =>
        rw [List.getElem?_cons_zero] at hi
        cases hi
        exact ⟨c, b, rfl, rfl, hq⟩
      | succ i =>
        rw [List.getElem?_cons_succ] at hi
        rw [List.getElem?_cons_succ, List.getElem?_cons_succ]
        exact h3 i a hi
theorem fx_or2_ok {β : Type} {v : β} : ∀ {t m : List (List fx_C)} {k : List (List fx_C) → Option β}, fx_or2 t m k = some v → ∃ r, k r = some v ∧ ∀ (i : Nat) (a : List fx_C), r[i]? = some a → ∃ x y, t[i]? = some x ∧ m[i]? = some y ∧ ∀ (j : Nat) (c : fx_C), a[j]? = some c → ∃ p q, x[j]? = some p ∧ y[j]? = some q ∧ fx_oq p q c := by
  intro t
  induction t with
  | nil =>
    intro m k h
    cases m with
    | nil => exact ⟨[], h, fun i a hi => by simp at hi⟩
    | cons b m => cases h
  | cons c t ih =>
    intro m k h
    cases m with
    | nil => cases h
    | cons b m =>
      have h : fx_or1 c b (fun c => fx_or2 t m (fun r => k (c :: r))) = some v := h
      obtain ⟨d, hd, -, hq⟩ := fx_or1_ok h
      obtain ⟨r, h1, h3⟩ := ih hd
      refine ⟨d :: r, h1, fun i a hi => ?_⟩
      cases i with
      | zero =>
        rw [List.getElem?_cons_zero] at hi
        cases hi
        exact ⟨c, b, rfl, rfl, fun j x hx => hq j x hx⟩
      | succ i =>
        rw [List.getElem?_cons_succ] at hi
        rw [List.getElem?_cons_succ, List.getElem?_cons_succ]
        exact h3 i a hi
noncomputable def fx_use (q : fx_sm) (c : Nat) (as : List fx_V) (h : fx_H) (d : Option (Option fx_V × fx_H)) : Option (Option fx_V × fx_H) := fx_if (Nat.beq q.1 c && (fx_lq fx_vm q.2.1 as && (fx_hm q.2.2.1 h && Nat.beq q.2.2.2.2.1 q.2.2.1.1))) (match h with
  | (n, rows) => fx_or2 q.2.2.2.2.2 rows (fun r => some (q.2.2.2.1, (n, r)))) d
noncomputable def fx_tab (l : List fx_sm) : fx_Z := fun c as h => List.rec (motive := fun _ => Option (Option fx_V × fx_H)) none (fun q _ ih => fx_use q c as h ih) l
noncomputable def fx_ovq (x y : Option fx_V) : Bool := match x, y with
  | none, none => true
  | some a, some b => fx_vq a b
  | _, _ => false
theorem fx_ovq_ok {x y : Option fx_V} (h : fx_ovq x y = true) : x = y := by
  rcases x with _ | a <;> rcases y with _ | b
  · rfl
  · cases h
  · cases h
  · rw [fx_vq_ok h]
/-- the run that a summary stands on -/
def fx_smr (q : fx_sm) : Prop := ∃ (M : fx_M) (n : Nat), fx_mt q.1 = some M ∧ fx_cats q.2.1 ≤ M.2.2.2.2.2 ∧ fx_go (fx_ev fx_s0z (fun _ _ _ => false)) n 10 M.1 M.1 (fx_args q.2.1 0) [] 0 0 M.2.2.1 M.2.2.2.1 q.2.2.1 [] (fun v h _ => fx_ovq v q.2.2.2.1 && fx_hq h q.2.2.2.2) = true
theorem fx_sum0 {l : Launch} {X : fx_X} {Y : fx_Y} {B : fx_B} {kc : fx_L → fx_H → fx_J → Bool} : fx_sum l X Y B fx_mst (fx_ev fx_s0z kc) := fun c S M as h v h' _ _ hs => by cases hs
theorem fx_sum_tab {l : Launch} {X : fx_X} {Y : fx_Y} {B : fx_B} (hXX : fx_xx X B) {kc : fx_L → fx_H → fx_J → Bool} : ∀ {t : List fx_sm}, (∀ q ∈ t, fx_smr q) → fx_sum l X Y B fx_mst (fx_ev (fx_tab t) kc) := by
  intro t ht c S M as h v h' hS hM hs av H hra hrh KQ hKQ
  have hs : fx_tab t c as h = some (v, h') := hs
  have hM : fx_mt c = some M := hM
  induction t with
  | nil => cases hs
  | cons q t ih =>
    have hs2 : fx_use q c as h (fx_tab t c as h) = some (v, h') := hs
    unfold fx_use at hs2
    cases hc : (Nat.beq q.1 c && (fx_lq fx_vm q.2.1 as && (fx_hm q.2.2.1 h && Nat.beq q.2.2.2.2.1 q.2.2.1.1))) with
    | false =>
      rw [hc, fx_if_f] at hs2
      exact ih (fun x hx => ht x (List.mem_cons_of_mem _ hx)) hM hs2 hs2
    | true =>
      rw [hc, fx_if_t] at hs2
      obtain ⟨e1, e2⟩ := fx_and hc
      obtain ⟨e3, e4⟩ := fx_and e2
      obtain ⟨e5, e6⟩ := fx_and e4
      obtain ⟨c0, as0, h0, v1, h1⟩ := q
      have e1b : c0 = c := fx_beq e1
      have e6b : h1.1 = h0.1 := fx_beq e6
      simp only at e3 e5 hs2
      subst e1b
      obtain ⟨n, rows⟩ := h
      obtain ⟨rr, hk, hov⟩ := fx_or2_ok hs2
      have hk := Option.some.inj hk
      cases hk
      obtain ⟨M', fuel, hM', hcat, hrun⟩ := ht _ List.mem_cons_self
      simp only at hM' hcat hrun
      cases hM.symm.trans hM'
      obtain ⟨S', hS', hmok⟩ := fx_mall_ok c0 M hM
      cases hS.symm.trans hS'
      obtain ⟨g1, g2⟩ := fx_hm_get e5
      have g1 : h0.1 = n := g1
      have hrh0 : fx_rh X (Y.1, Y.2.1, Y.2.2.1, H) h0 H := by
        refine ⟨by rw [g1]; exact hrh.1, fun k x hx => ?_, hrh.2.2⟩
        obtain ⟨x', g3, g4⟩ := g2 k x hx
        obtain ⟨b1, b2, b3⟩ := hrh.2.1 k x' g3
        exact ⟨by rw [g1]; exact b1, b2, fx_cm_ok g4 b3⟩
      have hmet := fx_met_of (l := l) (B := B) (mst := fx_mst) (E := fx_ev fx_s0z (fun _ _ _ => false)) (fx_go_ok (Y := (Y.1, Y.2.1, Y.2.2.1, H)) hXX fx_mall_ok fx_sum0 rfl rfl fx_wd_ok fuel) hXX.1 hmok hrun (fx_lm_ok e3 hra) hrh0 (fun i q hq => by simp at hq) hcat (KQ := KQ) (fun v2 w h2 j2 H2 hk hro hrh2 _ => by
        obtain ⟨k1, k2⟩ := fx_and hk
        have k1 := fx_ovq_ok k1
        have k2 := fx_hq_ok k2
        subst k1; subst k2
        refine hKQ w H2 hro ⟨?_, fun k x hx => ?_, hrh2.2.2⟩
        · show H2.size = X.2.1 + n
          rw [hrh2.1, ← g1, ← e6b]
        · rw [fx_hget_eq] at hx
          cases hr : rr[k / 16]? with
          | none => rw [hr] at hx; cases hx
          | some r =>
            rw [hr] at hx
            obtain ⟨x1, y1, f1, f2, f3⟩ := hov _ _ hr
            obtain ⟨p1, q1, f4, f5, f6⟩ := f3 _ _ hx
            have hg2 : fx_hget h2 k = some p1 := by
              obtain ⟨n2, rows2⟩ := h2
              rw [fx_hget_eq]
              show (rows2[k / 16]?).bind _ = _
              rw [show rows2[k / 16]? = some x1 from f1]
              exact f4
            have hgh : fx_hget (n, rows) k = some q1 := by
              rw [fx_hget_eq, show rows[k / 16]? = some y1 from f2]
              exact f5
            obtain ⟨b1, b2, b3⟩ := hrh2.2.1 k p1 hg2
            obtain ⟨d1, d2, d3⟩ := hrh.2.1 k q1 hgh
            refine ⟨d1, d2, ?_⟩
            rcases f6 with ⟨rfl, rfl⟩ | ⟨hne, rfl⟩
            · exact d3.kept b3
            · rcases x with u | ⟨ci, fs⟩ | ⟨ty, n9, u9⟩
              · exact absurd rfl hne
              · exact b3
              · exact b3)
      exact hmet
