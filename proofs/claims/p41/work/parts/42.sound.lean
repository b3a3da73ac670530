section AIN
variable {l : Launch} {X : fx_X} {Y : fx_Y} {B : fx_B} {E : ai_E} {P : fx_H → Prop} {ih : ai_G}
set_option maxHeartbeats 4000000 in
theorem ai_step_ok (hXX : fx_xx X B) (hma : fx_mall fx_mst fx_mt) (hwd : fx_wd) (hwa : rx_wa) (hcon : ∀ c I, I ∈ E.2.1 c → ai_con l X Y B E.1 P c I) (hPm : ∀ h h', P h → ai_fr E.2.2.2.2.1 h h' → P h') (hih : ai_snd l X Y B E P ih) : ai_snd l X Y B E P (ai_step E ih) := by
  refine ⟨fun d inl cod loc stk F J n ctx k => rfl, ?_⟩
  intro d inl cod at_ loc stk F J n ctx k ee h0 K ρ hk cloc cstk h hs hf hc
  rcases at_ with _ | ⟨⟨pc, kd, a, b, c⟩, tl⟩
  · cases ee
  have hgo := ai_gok_of hih hk hc
  have ee : ai_one E ih (fun t loc stk F J n => ih d inl cod t loc stk F J n ctx k) d inl cod pc kd a b c tl loc stk F J n ctx k = true := ee
  generalize (fun t loc stk F J n => ih d inl cod t loc stk F J n ctx k : ai_O) = go at hgo ee
  rcases Nat.lt_or_ge kd 32 with hkd | hkd
  · rcases (by omega : kd = 0 ∨ kd = 1 ∨ kd = 2 ∨ kd = 3 ∨ kd = 4 ∨ kd = 5 ∨ kd = 6 ∨ kd = 7 ∨ kd = 8 ∨ kd = 9 ∨ kd = 10 ∨ kd = 11 ∨ kd = 12 ∨ kd = 13 ∨ kd = 14 ∨ kd = 15 ∨ kd = 16 ∨ kd = 17 ∨ kd = 18 ∨ kd = 19 ∨ kd = 20 ∨ kd = 21 ∨ kd = 22 ∨ kd = 23 ∨ kd = 24 ∨ kd = 25 ∨ kd = 26 ∨ kd = 27 ∨ kd = 28 ∨ kd = 29 ∨ kd = 30 ∨ kd = 31) with rfl | rfl | rfl | rfl | rfl | rfl | rfl | rfl | rfl | rfl | rfl | rfl | rfl | rfl | rfl | rfl | rfl | rfl | rfl | rfl | rfl | rfl | rfl | rfl | rfl | rfl | rfl | rfl | rfl | rfl | rfl | rfl
    · exact ai_s0 hXX hma hwd hgo ee hs hf
    · exact ai_s1 hXX hma hwd hgo ee hs hf
    · exact ai_s2 hXX hma hwd hgo ee hs hf
    · exact ai_s3 hXX hma hwd hgo ee hs hf
    · exact ai_s4 hXX hma hwd hgo ee hs hf
    · exact ai_s5 hXX hma hwd hgo ee hs hf
    · refine ai_s6 hXX hma hwd hgo ee hs hf (fun m st e1 e2 e3 e4 => ?_)
      subst e1; subst e4
      exact rx_ld2 e2 e3
    · exact ai_s7 hXX hma hwd hgo ee hs hf
    · exact ai_s8 hXX hma hwd hPm hgo ee hs hf
    · exact ai_s9 hXX hma hwd hwa hih hcon hgo hs hf ee
    · exact ai_s10 hXX hma hwd hk ee hs hf
    · exact ai_s11 hXX hma hwd hgo ee hs hf
    · exact ai_s12 hXX hma hwd hgo ee hs hf
    · exact ai_s13 hXX hma hwd hgo ee hs hf
    · exact ai_s14 hXX hma hwd hPm hgo ee hs hf
    · exact ai_s15 hXX hma hwd hgo ee hs hf
    · have ee : false = true := ee
      cases ee
    · have ee : false = true := ee
      cases ee
    · exact ai_s18 hXX hma hwd hgo ee hs hf
    · exact ai_s19 hXX hma hwd hgo ee hs hf
    · exact ai_s20 hXX hma hwd (Or.inl rfl) hgo ee hs hf
    · exact ai_s20 hXX hma hwd (Or.inr rfl) hgo ee hs hf
    · have ee : false = true := ee
      cases ee
    · exact ai_s23 hXX hma hwd hPm hgo ee hs hf
    · exact ai_s24 hXX hma hwd hgo ee hs hf
    · exact ai_s25 hXX hma hwd hgo ee hs hf
    · exact ai_s26 hXX hma hwd hgo ee hs hf
    · exact ai_s27 hXX hma hwd hgo ee hs hf
    · exact ai_s28 hXX hma hwd hwa hih hk hc hs hf ee
    · exact ai_s29 hXX hma hwd hwa hgo ee hs hf
    · exact ai_s30 hXX hma hwd hgo ee hs hf
    · exact ai_s31 hXX hma hwd hgo ee hs hf
  · obtain ⟨q, rfl⟩ : ∃ q, kd = q + 32 := ⟨kd - 32, by omega⟩
    have ee : false = true := ee
    cases ee
theorem ai_go_ok (hXX : fx_xx X B) (hma : fx_mall fx_mst fx_mt) (hwd : fx_wd) (hwa : rx_wa) (hcon : ∀ c I, I ∈ E.2.1 c → ai_con l X Y B E.1 P c I) (hPm : ∀ h h', P h → ai_fr E.2.2.2.2.1 h h' → P h') : ∀ n, ai_snd l X Y B E P (ai_go E n) := by
  intro n
  induction n with
  | zero => exact ⟨fun d inl cod loc stk F J n ctx k => rfl, fun d inl cod at_ loc stk F J n ctx k ee => by cases ee⟩
  | succ n ih => exact ai_step_ok hXX hma hwd hwa hcon hPm ih
theorem ai_aug_ok {cs : List (Nat × Nat)} : ∀ {cod : List fx_I} {q : fx_I}, q ∈ ai_aug cs cod → q.2.1 ≠ 28 → q ∈ cod := by
  intro cod
  induction cod with
  | nil => intro q hq; cases hq
  | cons x cod ih =>
    intro q hq hk
    have hq : q ∈ (match fx_look cs x.1 with
      | some b => (x.1, 28, 0, b, 0) :: x :: ai_aug cs cod
      | none => x :: ai_aug cs cod) := hq
    cases hl : fx_look cs x.1 with
    | some b =>
      rw [hl] at hq
      rcases List.mem_cons.mp hq with rfl | hq
      · exact absurd rfl hk
      · rcases List.mem_cons.mp hq with rfl | hq
        · exact List.mem_cons_self
        · exact List.mem_cons_of_mem _ (ih hq hk)
    | none =>
      rw [hl] at hq
      rcases List.mem_cons.mp hq with rfl | hq
      · exact List.mem_cons_self
      · exact List.mem_cons_of_mem _ (ih hq hk)
theorem ai_aug_pc {cs : List (Nat × Nat)} {cod : List fx_I} : fx_pc (ai_aug cs cod) = fx_pc cod := by
  cases cod with
  | nil => rfl
  | cons x cod =>
    show fx_pc (match fx_look cs x.1 with
      | some b => (x.1, 28, 0, b, 0) :: x :: ai_aug cs cod
      | none => x :: ai_aug cs cod) = x.1
    cases fx_look cs x.1 <;> rfl
theorem ai_begin_ok {k : List fx_V → ai_J → Nat → Bool} : ∀ {ss : List ai_S} {ws : List fx_V} {J : ai_J} {n : Nat} {ρ : List Nat}, ai_as ss ws → ρ.length = n → ai_j ρ J → ai_begin ss n J k = true → ∃ vs J' n' τ, k vs J' n' = true ∧ (ρ ++ τ).length = n' ∧ ai_j (ρ ++ τ) J' ∧ ai_vl (ρ ++ τ) vs ws := by
  intro ss
  induction ss generalizing k with
  | nil =>
    intro ws J n ρ h h1 h2 e
    cases ws with
    | nil => exact ⟨[], J, n, [], e, by rw [List.append_nil]; exact h1, by rw [List.append_nil]; exact h2, trivial⟩
    | cons w ws => exact False.elim h
  | cons s ss ih =>
    intro ws J n ρ h h1 h2 e
    cases ws with
    | nil => exact False.elim h
    | cons w ws =>
      obtain ⟨g1, g2⟩ := h
      rcases s with ⟨lo, hi⟩ | v
      · have e : ai_var J n lo hi 0 0 (fun v J n => ai_begin ss n J (fun vs J n => k (v :: vs) J n)) = true := e
        obtain ⟨m, rfl, m1, m2, m3⟩ := g1
        obtain ⟨v, J', n', k1, k2, k3, k4⟩ := ai_var_ok h1 h2 e (rx_b_lt m) m2 m3 (fun q => absurd rfl q)
        rw [ai_b_b m1] at k4
        obtain ⟨vs, J2, n2, τ, j1, j2, j3, j4⟩ := ih g2 k2 k3 k1
        have k5 := k4.ext (τ := τ)
        rw [List.append_assoc] at j2 j3 j4 k5
        exact ⟨_, J2, n2, _, j1, j2, j3, k5, j4⟩
      · have e : ai_begin ss n J (fun vs J n => k (v :: vs) J n) = true := e
        obtain ⟨vs, J2, n2, τ, j1, j2, j3, j4⟩ := ih g2 h1 h2 e
        have g1 : ai_v ([] ++ (ρ ++ τ)) v w := (show ai_v [] v w from g1).ext
        exact ⟨_, J2, n2, τ, j1, j2, j3, g1, j4⟩
/-- a case that is checked gives its contract -/
theorem ai_inst_ok (hXX : fx_xx X B) (hma : fx_mall fx_mst fx_mt) (hwd : fx_wd) (hwa : rx_wa) (hcon : ∀ c I, I ∈ E.2.1 c → ai_con l X Y B E.1 P c I) (hPm : ∀ h h', P h → ai_fr E.2.2.2.2.1 h h' → P h') {f c : Nat} {cs : List (Nat × Nat)} {I : ai_I} (hm : E.2.2.2.1 = I.2.2.1) (ee : ai_inst E f c cs I = true) : ai_con l X Y B E.1 P c I := by
  intro ws h h1 h2 h3 h4 M hM
  unfold ai_inst at ee
  rw [hM] at ee
  simp only at ee
  obtain ⟨vs, J, n, τ, k1, k2, k3, k4⟩ := ai_begin_ok (ρ := []) h1 rfl (fun q hq => by cases hq) ee
  obtain ⟨F, J2, n2, τ2, j1, j2, j3, j4⟩ := ai_tell_ok h2 k2 (fun i v hv => by cases hv) k3 k1
  have hsnd := ai_go_ok hXX hma hwd hwa hcon hPm f
  have hne : ai_aug cs M.1 ≠ [] := fun q => by
    rw [q, hsnd.1] at j1
    cases j1
  refine ⟨ai_aug cs M.1, fun q hq hk => ai_aug_ok hq hk, hne, ai_aug_pc, ?_⟩
  refine hsnd.2 _ _ _ _ _ _ _ _ _ _ _ j1 h _ ([] ++ τ ++ τ2) ?_ (fx_args ws 0) [] h ⟨j2, ai_args_ok 0 k4.ext, trivial, j3, j4, h3⟩ ⟨ai_fr_refl, h4⟩ (fun _ => ⟨Nat.zero_le _, fun g x hx => by simp at hx⟩)
  intro v F' J' n' ρ' w h' _ q1 q2 q3 q4 q5 q6 q7
  unfold ai_end at q1
  obtain ⟨q8, q9⟩ := fx_and q1
  refine ⟨?_, fun q hq => ai_has_ok q6 q4 q5 (fx_all_ok q9 q hq), q6, by rw [← hm]; exact q7.1, q7.2⟩
  cases hr : I.2.1.1 with
  | none =>
    rw [hr] at q8
    cases v with
    | none => cases w with
      | none => trivial
      | some w => exact False.elim q2
    | some v => cases q8
  | some s =>
    rw [hr] at q8
    cases v with
    | none => cases q8
    | some v => cases w with
      | none => exact False.elim q2
      | some w => exact ai_fit_ok q5 q2 q8
end AIN
