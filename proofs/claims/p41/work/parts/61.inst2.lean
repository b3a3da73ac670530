/-! cases without loops: some numbers are told by how much they grow -/
noncomputable def ai_rl (F0 F : fx_L) (J : ai_J) (q : Nat × Nat) : Bool := match fx_look F0 q.1 with
  | some (.inr (.inl i0)) => (match fx_look F q.1 with
    | some (.inr (.inl i)) => (match ai_ch J i0 6 i with
      | some t => Nat.beq t q.2
      | none => false)
    | _ => false)
  | _ => false
noncomputable def ai_inst2 (E : ai_E) (f c : Nat) (I : ai_I) (R : List (Nat × Nat)) : Bool := match fx_mt c with
  | none => false
  | some M => ai_begin I.1.1 0 [] (fun vs J n => ai_tell I.1.2 [] J n (fun F0 J n => ai_go E f I.2.2.2 true M.1 M.1 (fx_args vs 0) [] F0 J n [] (fun v F J n => ai_end E.1 I v F J n && fx_all R (ai_rl F0 F J))))
def ai_gr (h h' : fx_H) (q : Nat × Nat) : Prop := fx_b (gv h' q.1) + 2147483648 = fx_b (gv h q.1) + q.2
def ai_conR (l : Launch) (X : fx_X) (Y : fx_Y) (B : fx_B) (T : ai_T) (P : fx_H → Prop) (c : Nat) (I : ai_I) (R : List (Nat × Nat)) : Prop := ∀ (ws : List fx_V) (h : fx_H), ai_as I.1.1 ws → (∀ q ∈ I.1.2, ai_at h q) → ai_inv T h → P h → rx_met l X Y B c I.2.2.2 ws h (fun v h' => (ai_res I.2.1.1 v ∧ (∀ q ∈ I.2.1.2, ai_at h' q) ∧ ai_inv T h' ∧ ai_fr I.2.2.1 h h' ∧ P h') ∧ ∀ q ∈ R, ai_gr h h' q)
theorem ai_inst2_ok {l : Launch} {X : fx_X} {Y : fx_Y} {B : fx_B} {E : ai_E} {P : fx_H → Prop} (he : ai_env X B) (hcon : ∀ c I, I ∈ E.2.1 c → ai_con l X Y B E.1 P c I) (hPm : ∀ h h', P h → ai_fr E.2.2.2.2.1 h h' → P h') {f c : Nat} {I : ai_I} {R : List (Nat × Nat)} (hm : E.2.2.2.1 = I.2.2.1) (ee : ai_inst2 E f c I R = true) : ai_conR l X Y B E.1 P c I R := by
  intro ws h h1 h2 h3 h4 M hM
  unfold ai_inst2 at ee
  rw [hM] at ee
  simp only at ee
  obtain ⟨vs, J, n, τ, k1, k2, k3, k4⟩ := ai_begin_ok (ρ := []) h1 rfl (fun q hq => by cases hq) ee
  obtain ⟨F, J2, n2, τ2, j1, j2, j3, j4⟩ := ai_tell_ok h2 k2 (fun i v hv => by cases hv) k3 k1
  have hsnd := ai_go_ok he.1 he.2.1 he.2.2.1 he.2.2.2 hcon hPm f
  have hne : M.1 ≠ [] := fun q => by
    rw [q, hsnd.1] at j1
    cases j1
  refine ⟨M.1, fun q hq _ => hq, hne, rfl, ?_⟩
  refine hsnd.2 _ _ _ _ _ _ _ _ _ _ _ j1 h _ ([] ++ τ ++ τ2) ?_ (fx_args ws 0) [] h ⟨j2, ai_args_ok 0 k4.ext, trivial, j3, j4, h3⟩ ⟨ai_fr_refl, h4⟩ (fun q => by cases q)
  intro v F' J' n' ρ' w h' q0 q1 q2 q3 q4 q5 q6 q7
  obtain ⟨τ3, rfl⟩ := q0 rfl
  obtain ⟨q1, qR⟩ := fx_and q1
  unfold ai_end at q1
  obtain ⟨q8, q9⟩ := fx_and q1
  refine ⟨⟨?_, fun q hq => ai_has_ok q6 q4 q5 (fx_all_ok q9 q hq), q6, by rw [← hm]; exact q7.1, q7.2⟩, fun q hq => ?_⟩
  · cases hr : I.2.1.1 with
    | none =>
      rw [hr] at q8
      cases v with
      | none => cases w with
        | none => trivial
        | some w => exact False.elim q2
      | some v => cases q8
    | some s =>
      rw [hr] at q8
      cases v with
      | none => cases q8
      | some v => cases w with
        | none => exact False.elim q2
        | some w => exact ai_fit_ok q5 q2 q8
  · have hq := fx_all_ok qR q hq
    unfold ai_rl at hq
    cases hl0 : fx_look F q.1 with
    | none => rw [hl0] at hq; cases hq
    | some v0 =>
      rw [hl0] at hq
      rcases v0 with a | i0 | a | a
      · cases hq
      · simp only at hq
        cases hl1 : fx_look F' q.1 with
        | none => rw [hl1] at hq; cases hq
        | some v1 =>
          rw [hl1] at hq
          rcases v1 with a | i | a | a
          · cases hq
          · simp only at hq
            cases hc : ai_ch J' i0 6 i with
            | none => rw [hc] at hq; cases hq
            | some t =>
              rw [hc] at hq
              have hq := fx_beq hq
              obtain ⟨w0, a1, x, a2, a3, a4⟩ := j3 _ _ hl0
              obtain ⟨w1, b1, y, b2, b3, b4⟩ := q4 _ _ hl1
              obtain ⟨z, c1, c2⟩ := ai_ch_ok q5 hc b2
              have c3 := ai_ext (τ := τ3) a2
              have : z = x := Option.some.inj (c1.symm.trans c3)
              subst this
              have g0 : gv h q.1 = fx_b z := by
                unfold gv
                rw [a1, a4]
              have g1 : gv h' q.1 = fx_b y := by
                unfold gv
                rw [b1, b4]
              unfold ai_gr
              rw [g0, g1, ai_b_b a3, ai_b_b b3]
              omega
          · cases hq
          · cases hq
      · cases hq
      · cases hq
theorem ai_case2 {l : Launch} {X : fx_X} {Y : fx_Y} {B : fx_B} {P : fx_H → Prop} {L : List (Nat × ai_I)} {D : ai_M} {H : List (Nat × List ai_A)} {f c : Nat} {I : ai_I} {R : List (Nat × Nat)} (he : ai_env X B) (hP : ∀ h h', P h → ai_fr D h h' → P h') (ee : ai_inst2 (ai_T0, ai_cts L, ai_mem ai_inl, I.2.2.1, D, ai_hds H) f c I R = true) (hL : ai_cons l X Y B P L) : ai_conR l X Y B ai_T0 P c I R :=
  ai_inst2_ok (E := (ai_T0, ai_cts L, ai_mem ai_inl, I.2.2.1, D, ai_hds H)) he (fun _ _ h => ai_cons_mem hL _ (ai_cts_mem h)) hP rfl ee
