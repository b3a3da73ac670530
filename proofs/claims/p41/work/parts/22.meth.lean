noncomputable def fx_pfB (own : String) (ini : Bool) (ci k t : Nat) : Bool := match fx_nth fx_cl ci with
  | none => false
  | some (_, T, N) => (Nat.blt k N && (match parseFieldDescriptor (T k).2.2.1 with
    | some .int => Nat.beq t 0
    | some .boolean => Nat.beq t 2
    | some .long => Nat.beq t 3
    | some (.object _) => Nat.beq t 4
    | some (.array _) => Nat.beq t 4
    | _ => false)) && (!(T k).2.2.2 || (ini && decide ((T k).1 = own)))
theorem fx_pfB_ok {own : String} {ini : Bool} {ci k t : Nat} (h : fx_pfB own ini ci k t = true) : fx_pf own ini ci k t := by
  unfold fx_pfB at h
  cases hc : fx_nth fx_cl ci with
  | none => simp only [hc] at h; cases h
  | some q =>
    obtain ⟨C, T, N⟩ := q
    simp only [hc] at h
    obtain ⟨h1, h2⟩ := fx_and h
    obtain ⟨h3, h4⟩ := fx_and h1
    rw [fx_nth_eq] at hc
    have hfin : (T k).2.2.2 = true → ini = true ∧ (T k).1 = own := fun q => by
      rw [q] at h2
      obtain ⟨g1, g2⟩ := fx_and (a := ini) (b := decide ((T k).1 = own)) h2
      exact ⟨g1, of_decide_eq_true g2⟩
    cases hp : parseFieldDescriptor (T k).2.2.1 with
    | none => rw [hp] at h4; cases h4
    | some ty =>
      rw [hp] at h4
      refine ⟨C, T, N, ty, hc, fx_blt h3, hp, ?_, hfin⟩
      cases ty with
      | int => exact Or.inl ⟨fx_beq h4, rfl⟩
      | boolean => exact Or.inr (Or.inl ⟨fx_beq h4, rfl⟩)
      | long => exact Or.inr (Or.inr (Or.inl ⟨fx_beq h4, rfl⟩))
      | object n => exact Or.inr (Or.inr (Or.inr ⟨fx_beq h4, Or.inl ⟨n, rfl⟩⟩))
      | array n => exact Or.inr (Or.inr (Or.inr ⟨fx_beq h4, Or.inr ⟨n, rfl⟩⟩))
      | _ => cases h4
noncomputable def fx_rkB (b : Nat) (rt : Option FieldType) : Bool := match rt with
  | none => Nat.beq b 0
  | some .int => Nat.beq b 1
  | some .boolean => Nat.beq b 2
  | some .long => Nat.beq b 3
  | some .char => Nat.beq b 4
  | some .byte => Nat.beq b 5
  | _ => false
theorem fx_rkB_ok {b : Nat} {rt : Option FieldType} (h : fx_rkB b rt = true) : fx_rk b rt := by
  rcases rt with _ | ty
  · exact Or.inl ⟨fx_beq h, rfl⟩
  · cases ty with
    | int => exact Or.inr (Or.inl ⟨fx_beq h, rfl⟩)
    | boolean => exact Or.inr (Or.inr (Or.inl ⟨fx_beq h, rfl⟩))
    | long => exact Or.inr (Or.inr (Or.inr (Or.inl ⟨fx_beq h, rfl⟩)))
    | char => exact Or.inr (Or.inr (Or.inr (Or.inr (Or.inl ⟨fx_beq h, rfl⟩))))
    | byte => exact Or.inr (Or.inr (Or.inr (Or.inr (Or.inr ⟨fx_beq h, rfl⟩))))
    | _ => cases h
theorem fx_kt_ok {o a b c : Nat} (h : fx_has fx_kt (fun q => Nat.beq q.1 o && (Nat.beq q.2.1 a && (Nat.beq q.2.2.1 b && Nat.beq q.2.2.2.1 c))) = true) : fx_ca fx_mst fx_mt (fx_cn o) a b c := by
  obtain ⟨⟨o', a', b', c', n'⟩, h1, h2⟩ := fx_has_ok h
  obtain ⟨e1, h2⟩ := fx_and h2
  obtain ⟨e2, h2⟩ := fx_and h2
  obtain ⟨e3, e4⟩ := fx_and h2
  have e1 := fx_beq e1
  have e2 := fx_beq e2
  have e3 := fx_beq e3
  have e4 := fx_beq e4
  simp only at e1 e2 e3 e4
  subst e1; subst e2; subst e3; subst e4
  have h3 := fx_all_ok fx_kt_all _ h1
  unfold fx_ktB at h3
  simp only at h3
  cases hs : fx_mst c' with
  | none => rw [hs] at h3; cases h3
  | some S =>
    obtain ⟨y, cc, nL, rt⟩ := S
    rw [hs] at h3
    simp only at h3
    cases hm : fx_mt c' with
    | none => rw [hm] at h3; cases h3
    | some M =>
      rw [hm] at h3
      simp only at h3
      cases ho : fx_mo c' with
      | none => rw [ho] at h3; cases h3
      | some O =>
        obtain ⟨p0, p1, p2, p3, p4⟩ := O
        rw [ho] at h3
        simp only at h3
        refine ⟨y, cc, nL, rt, M, hs, hm, ?_, ?_, ?_, ?_, ?_⟩
        · intro q
          subst q
          obtain ⟨g1, g2⟩ := fx_and (a := fx_wq n' (Cond.methodLink (fx_cn o') b' y) && fx_wq p2 (Cond.instanceMethod y)) (b := fx_wq p3 (Cond.selects y.cls y y) && fx_tcB M.2.2.2.2.1 y) h3
          obtain ⟨g3, g4⟩ := fx_and g1
          obtain ⟨g5, g6⟩ := fx_and g2
          refine ⟨fx_wq_ok g3, fx_wq_ok g4, fx_wq_ok g5, ?_⟩
          unfold fx_tcB at g6
          cases h9 : Nat.beq M.2.2.2.2.1 99 with
          | true =>
            rw [h9, fx_if_t] at g6
            exact Or.inr ⟨fx_beq h9, of_decide_eq_true g6⟩
          | false =>
            rw [h9, fx_if_f] at g6
            obtain ⟨g7, g8⟩ := fx_and g6
            cases hc : fx_nth fx_cl (M.2.2.2.2.1 - 2) with
            | none => rw [hc] at g8; cases g8
            | some Q =>
              obtain ⟨C, T, N⟩ := Q
              rw [hc] at g8
              have := of_decide_eq_true g8
              subst this
              rw [fx_nth_eq] at hc
              have g7 := fx_ble g7
              exact Or.inl ⟨M.2.2.2.2.1 - 2, T, N, by omega, fx_bnq h9, hc⟩
        · intro q
          subst q
          obtain ⟨g1, g2⟩ := fx_and (a := fx_wq n' (Cond.methodLink (fx_cn o') b' y) && fx_wq p2 (Cond.instanceMethod y)) (b := decide (y.name = "<init>") && (decide (rt = none) && Nat.beq M.2.2.2.2.1 1)) h3
          obtain ⟨g3, g4⟩ := fx_and g1
          obtain ⟨g5, g6⟩ := fx_and g2
          obtain ⟨g7, g8⟩ := fx_and g6
          exact ⟨fx_wq_ok g3, fx_wq_ok g4, of_decide_eq_true g5, of_decide_eq_true g7, fx_beq g8⟩
        · intro q
          subst q
          obtain ⟨g1, g2⟩ := fx_and (a := fx_wq n' (Cond.methodLink (fx_cn o') b' y) && fx_wq p2 (Cond.static y)) (b := Nat.beq M.2.2.2.2.1 0) h3
          obtain ⟨g3, g4⟩ := fx_and g1
          exact ⟨fx_wq_ok g3, fx_wq_ok g4, fx_beq g2⟩
        · intro q
          subst q
          obtain ⟨g1, g2⟩ := fx_and (a := decide ((fx_cn o', b', y, "FaceSenate") ∈ fx_nst) && fx_wq p2 (Cond.instanceMethod y)) (b := decide (y.name = "<init>") && (decide (rt = none) && Nat.beq M.2.2.2.2.1 1)) h3
          obtain ⟨g3, g4⟩ := fx_and g1
          obtain ⟨g5, g6⟩ := fx_and g2
          obtain ⟨g7, g8⟩ := fx_and g6
          exact ⟨of_decide_eq_true g3, fx_wq_ok g4, of_decide_eq_true g5, of_decide_eq_true g7, fx_beq g8⟩
        · intro q
          subst q
          obtain ⟨g1, g2⟩ := fx_and (a := decide ((fx_cn o', b', y, "FaceSenate") ∈ fx_nst) && fx_wq p2 (Cond.static y)) (b := Nat.beq M.2.2.2.2.1 0) h3
          obtain ⟨g3, g4⟩ := fx_and g1
          exact ⟨of_decide_eq_true g3, fx_wq_ok g4, fx_beq g2⟩
noncomputable def fx_kwB (o a b c : Nat) : Bool := fx_if (Nat.beq a 1) (decide ((Int8.ofInt (Int32.ofNat c).toInt).toInt32 = Int32.ofNat c)) (fx_if (Nat.beq a 2) (decide ((Int16.ofInt (Int32.ofNat c).toInt).toInt32 = Int32.ofNat c)) (fx_if (Nat.beq a 3 || Nat.beq a 4) (fx_has fx_ct (fun q => Nat.beq q.1 o && (Nat.beq q.2.1 b && Nat.beq q.2.2.1 c))) (fx_if (Nat.beq a 5) (Nat.blt c 2) (fx_if (Nat.beq a 6) (fx_has fx_lt (fun q => Nat.beq q.1 o && (Nat.beq q.2.1 b && Nat.beq q.2.2.1 c))) true))))
theorem fx_kwB_ok {o a b c : Nat} (h : fx_kwB o a b c = true) : fx_kw (fx_cn o) a b c := by
  refine ⟨fun q => ?_, fun q => ?_, fun q => ?_, fun q => ?_, fun q => ?_⟩
  · subst q; exact of_decide_eq_true h
  · subst q; exact of_decide_eq_true h
  · have h : fx_has fx_ct (fun q => Nat.beq q.1 o && (Nat.beq q.2.1 b && Nat.beq q.2.2.1 c)) = true := by
      rcases q with q | q <;> subst q <;> exact h
    obtain ⟨n, hn⟩ := fx_eq3 h
    exact fx_wq_ok (fx_all_ok fx_ct_all _ hn)
  · subst q; exact fx_blt h
  · subst q
    obtain ⟨n, hn⟩ := fx_eq3 (show fx_has fx_lt (fun q => Nat.beq q.1 o && (Nat.beq q.2.1 b && Nat.beq q.2.2.1 c)) = true from h)
    exact fx_wq_ok (fx_all_ok fx_lt_all _ hn)
noncomputable def fx_anB (o : Nat) (ini : Bool) (rt : Option FieldType) (nL kd a b c : Nat) : Bool :=
  fx_if (Nat.beq kd 0) ((!(Nat.beq b 0 || (Nat.beq b 2 || Nat.beq b 4))) || Nat.blt a 4)
  (fx_if (Nat.beq kd 11) (((!(Nat.beq b 0 || (Nat.beq b 2 || Nat.beq b 4))) || Nat.blt a 4) && (Nat.blt (a + 1) nL || (Nat.blt a nL && Nat.blt b 4)))
  (fx_if (Nat.beq kd 1) (fx_has fx_ft (fun q => Nat.beq q.1 o && (Nat.beq q.2.1 a && (Nat.beq q.2.2.1 b && Nat.beq q.2.2.2.1 c))))
  (fx_if (Nat.beq kd 2) (fx_kwB o a b c)
  (fx_if (Nat.beq kd 9) (fx_has fx_kt (fun q => Nat.beq q.1 o && (Nat.beq q.2.1 a && (Nat.beq q.2.2.1 b && Nat.beq q.2.2.2.1 c))))
  (fx_if (Nat.beq kd 10) (fx_rkB b rt && (Nat.beq a 0 || ((Nat.beq a 1 && Nat.beq b 0) || (Nat.beq a 2 && Nat.beq b 3))))
  (fx_if (Nat.beq kd 12) (Nat.blt a 11)
  (fx_if (Nat.beq kd 13) (Nat.blt a 4)
  (fx_if (Nat.beq kd 14) (fx_has fx_ft (fun q => Nat.beq q.1 o && (Nat.beq q.2.1 a && (Nat.beq q.2.2.1 b && Nat.beq q.2.2.2.1 (c / 8)))) && fx_pfB (fx_cn o) ini b (c / 8) (c % 8))
  (fx_if (Nat.beq kd 16) (fx_has fx_nt (fun q => Nat.beq q.1 o && (Nat.beq q.2.1 a && Nat.beq q.2.2.1 b)))
  (fx_if (Nat.beq kd 20 || Nat.beq kd 21) ((Nat.blt b 2147483648 && (Nat.blt (b + (fx_swt c).length) 2147483648 && Nat.blt 0 (fx_swt c).length)) && (Nat.beq kd 20 || Nat.beq (fx_swt c).length 2))
  (fx_if (Nat.beq kd 22) (fx_has fx_ot (fun q => Nat.beq q.1 o && Nat.beq q.2.1 a))
  (fx_if (Nat.beq kd 23) (fx_has fx_at9 (fun q => Nat.beq q.1 o && Nat.beq q.2.1 a))
  (fx_if (Nat.beq kd 24) (Nat.blt a 4)
  (fx_if (Nat.beq kd 25) (fx_has fx_xt (fun q => Nat.beq q.1 o && (Nat.beq q.2.1 a && Nat.beq q.2.2.1 b)))
  (fx_if (Nat.beq kd 26) (fx_has fx_zt (fun q => Nat.beq q.1 o && (Nat.beq q.2.1 a && Nat.beq q.2.2.1 b)))
  (fx_if (Nat.beq kd 27) (Nat.beq o 7 && (Nat.beq a 39 || Nat.beq a 73)) (fx_if (Nat.beq kd 29) (fx_has fx_mx (fun q => Nat.beq q.1 o && (Nat.beq q.2.1 a && Nat.beq q.2.2.1 b))) (Nat.blt kd 28 || (Nat.beq kd 30 || Nat.beq kd 31)))))))))))))))))))
theorem fx_ld4 {a b : Nat} (h : ((!(Nat.beq b 0 || (Nat.beq b 2 || Nat.beq b 4))) || Nat.blt a 4) = true) : b = 0 ∨ b = 2 ∨ b = 4 → a < 4 := by
  intro q
  rcases fx_or h with h | h
  · rcases q with q | q | q <;> subst q <;> cases h
  · exact fx_blt h
theorem fx_anB_ok {o : Nat} {ini : Bool} {rt : Option FieldType} {nL kd a b c : Nat} (h : fx_anB o ini rt nL kd a b c = true) : kd ≠ 28 ∧ fx_an fx_mst fx_mt (fx_cn o) ini rt nL kd a b c := by
  by_cases hk : kd < 28 ∨ kd = 29 ∨ kd = 30 ∨ kd = 31
  · refine ⟨by omega, ?_⟩
    refine ⟨?_, ?_, ?_, ?_, ?_, ?_, ?_, ?_, ?_, ?_, ?_, ?_, ?_, ?_, ?_, ?_, ?_, ?_, ?_⟩
    · rintro (q | q)
      · subst q; exact fx_ld4 h
      · subst q; exact fx_ld4 (fx_and (a := ((!(Nat.beq b 0 || (Nat.beq b 2 || Nat.beq b 4))) || Nat.blt a 4)) h).1
    · intro q; subst q; exact fx_ft_ok h
    · intro q; subst q; exact fx_kwB_ok h
    · intro q; subst q; exact fx_kt_ok h
    · intro q
      subst q
      obtain ⟨h1, h2⟩ := fx_and (a := fx_rkB b rt) (b := (Nat.beq a 0 || ((Nat.beq a 1 && Nat.beq b 0) || (Nat.beq a 2 && Nat.beq b 3)))) h
      refine ⟨fx_rkB_ok h1, ?_⟩
      rcases fx_or h2 with h3 | h3
      · exact Or.inl (fx_beq h3)
      · rcases fx_or h3 with h3 | h3
        · obtain ⟨g1, g2⟩ := fx_and h3
          exact Or.inr (Or.inl ⟨fx_beq g1, fx_beq g2⟩)
        · obtain ⟨g1, g2⟩ := fx_and h3
          exact Or.inr (Or.inr ⟨fx_beq g1, fx_beq g2⟩)
    · intro q; subst q; exact fx_blt h
    · intro q; subst q; exact fx_blt h
    · intro q
      subst q
      obtain ⟨h1, h2⟩ := fx_and (a := fx_has fx_ft (fun q => Nat.beq q.1 o && (Nat.beq q.2.1 a && (Nat.beq q.2.2.1 b && Nat.beq q.2.2.2.1 (c / 8))))) (b := fx_pfB (fx_cn o) ini b (c / 8) (c % 8)) h
      exact ⟨fx_ft_ok h1, fx_pfB_ok h2⟩
    · intro q
      subst q
      obtain ⟨n, hn⟩ := fx_eq3 (show fx_has fx_nt (fun q => Nat.beq q.1 o && (Nat.beq q.2.1 a && Nat.beq q.2.2.1 b)) = true from h)
      have h3 := fx_all_ok fx_nt_all _ hn
      unfold fx_ntB at h3
      simp only at h3
      cases hc : fx_nth fx_cl b with
      | none => rw [hc] at h3; cases h3
      | some Q =>
        obtain ⟨C, T, N⟩ := Q
        rw [hc] at h3
        rw [fx_nth_eq] at hc
        exact ⟨C, T, N, hc, fx_wq_ok h3⟩
    · intro q
      have h : ((Nat.blt b 2147483648 && (Nat.blt (b + (fx_swt c).length) 2147483648 && Nat.blt 0 (fx_swt c).length)) && (Nat.beq kd 20 || Nat.beq (fx_swt c).length 2)) = true := by
        rcases q with q | q <;> subst q <;> exact h
      obtain ⟨h1, -⟩ := fx_and h
      obtain ⟨h1, h2⟩ := fx_and h1
      obtain ⟨h2, h3⟩ := fx_and h2
      exact ⟨fx_blt h1, fx_blt h2, fx_blt h3⟩
    · intro q
      subst q
      obtain ⟨n, hn⟩ := fx_eq2 (show fx_has fx_ot (fun q => Nat.beq q.1 o && Nat.beq q.2.1 a) = true from h)
      exact fx_wq_ok (fx_all_ok fx_ot_all _ hn)
    · intro q
      subst q
      obtain ⟨n, hn⟩ := fx_eq2 (show fx_has fx_at9 (fun q => Nat.beq q.1 o && Nat.beq q.2.1 a) = true from h)
      exact fx_wq_ok (fx_all_ok fx_at_all _ hn)
    · intro q; subst q; exact fx_blt h
    · intro q
      subst q
      obtain ⟨n, hn⟩ := fx_eq3 (show fx_has fx_xt (fun q => Nat.beq q.1 o && (Nat.beq q.2.1 a && Nat.beq q.2.2.1 b)) = true from h)
      have h3 := fx_wq_ok (fx_all_ok fx_xt_all _ hn)
      refine ⟨fun q => ?_, fun q => ?_⟩
      · subst q; exact h3
      · subst q; exact h3
    · intro q
      subst q
      obtain ⟨n, hn⟩ := fx_eq3 (show fx_has fx_zt (fun q => Nat.beq q.1 o && (Nat.beq q.2.1 a && Nat.beq q.2.2.1 b)) = true from h)
      have h3 := fx_wq_ok (fx_all_ok fx_zt_all _ hn)
      refine ⟨fun q => ?_, fun q => ?_⟩
      · subst q; exact h3
      · subst q; exact h3
    · intro q
      subst q
      obtain ⟨h1, h2⟩ := fx_and (a := Nat.beq o 7) (b := (Nat.beq a 39 || Nat.beq a 73)) h
      have h1 := fx_beq h1
      subst h1
      refine ⟨rfl, ?_⟩
      rcases fx_or h2 with h3 | h3
      · exact Or.inl (fx_beq h3)
      · exact Or.inr (fx_beq h3)
    · intro q
      subst q
      obtain ⟨-, h2⟩ := fx_and (a := ((!(Nat.beq b 0 || (Nat.beq b 2 || Nat.beq b 4))) || Nat.blt a 4)) (b := (Nat.blt (a + 1) nL || (Nat.blt a nL && Nat.blt b 4))) h
      rcases fx_or h2 with h3 | h3
      · exact Or.inl (fx_blt h3)
      · obtain ⟨g1, g2⟩ := fx_and h3
        exact Or.inr ⟨fx_blt g1, fx_blt g2⟩
    · intro q
      subst q
      obtain ⟨-, h2⟩ := fx_and (a := (Nat.blt b 2147483648 && (Nat.blt (b + (fx_swt c).length) 2147483648 && Nat.blt 0 (fx_swt c).length))) (b := (Nat.beq 21 20 || Nat.beq (fx_swt c).length 2)) h
      rcases fx_or h2 with h3 | h3
      · cases h3
      · exact fx_beq h3
    · intro q
      subst q
      obtain ⟨n, hn⟩ := fx_eq3 (show fx_has fx_mx (fun q => Nat.beq q.1 o && (Nat.beq q.2.1 a && Nat.beq q.2.2.1 b)) = true from h)
      have h3 := fx_wq_ok (fx_all_ok fx_mx_all _ hn)
      refine ⟨fun q => ?_, fun q => ?_, fun q => ?_⟩
      · subst q; exact h3
      · subst q; exact h3
      · subst q; exact h3
  · rcases (if hq : kd = 28 then Or.inl hq else Or.inr ⟨kd - 32, by omega⟩ : kd = 28 ∨ ∃ q, kd = q + 32) with rfl | ⟨q, rfl⟩
    · have h : (Nat.blt 28 28 || (Nat.beq 28 30 || Nat.beq 28 31)) = true := h
      cases h
    · have h : (Nat.blt (q + 32) 28 || (Nat.beq (q + 32) 30 || Nat.beq (q + 32) 31)) = true := h
      rcases fx_or h with h | h
      · have := fx_blt h
        omega
      · rcases fx_or h with h | h
        · have := fx_beq h
          omega
        · have := fx_beq h
          omega
noncomputable def fx_codB (o : Nat) (ini : Bool) (rt : Option FieldType) (nL : Nat) (cc : ByteArray) (cod : List fx_I) : Bool := fx_all cod (fun q => decide (decode cc q.1 = .ok (fx_ins q.1 q.2.1 q.2.2.1 q.2.2.2.1 q.2.2.2.2)) && fx_anB o ini rt nL q.2.1 q.2.2.1 q.2.2.2.1 q.2.2.2.2)
theorem fx_codB_ok {o : Nat} {ini : Bool} {rt : Option FieldType} {nL : Nat} {cc : ByteArray} {cod : List fx_I} (h : fx_codB o ini rt nL cc cod = true) : ∀ pc kd a b d, (pc, kd, a, b, d) ∈ cod → kd ≠ 28 ∧ decode cc pc = .ok (fx_ins pc kd a b d) ∧ fx_an fx_mst fx_mt (fx_cn o) ini rt nL kd a b d := by
  intro pc kd a b d hin
  obtain ⟨h1, h2⟩ := fx_and (fx_all_ok h _ hin)
  obtain ⟨h3, h4⟩ := fx_anB_ok h2
  exact ⟨h3, of_decide_eq_true h1, h4⟩
noncomputable def fx_mokB (c : Nat) : Bool := match fx_mt c with
  | none => true
  | some M => match fx_mst c with
    | none => false
    | some (y, cc, nL, rt) => match fx_mo c with
      | none => false
      | some (o, p1, _, _, p4) => (decide (fx_cn o = y.cls) && (plainName y.cls && (fx_wq p1 (Cond.code y cc nL rt) && fx_wq p4 (Cond.initialized y.cls)))) && ((decide (y.cls ≠ "java/lang/invoke/MethodHandle") && (decide (y.cls ≠ "java/lang/invoke/VarHandle") && (Nat.ble nL 41 && Nat.beq M.2.2.2.2.2 nL))) && ((decide ((parseMethodDescriptor y.desc).map (fun d => d.parameters.length) = some (if M.2.2.2.2.1 = 0 then M.2.1 else M.2.1 - 1)) && Nat.beq (fx_pc M.1) 0) && fx_codB o (y.name == "<init>") rt nL cc M.1))
theorem fx_mokB_ok {c : Nat} (h : fx_mokB c = true) {M : fx_M} (hm : fx_mt c = some M) : ∃ S, fx_mst c = some S ∧ fx_mok fx_mst fx_mt S M := by
  unfold fx_mokB at h
  rw [hm] at h
  simp only at h
  cases hs : fx_mst c with
  | none => rw [hs] at h; cases h
  | some S =>
    obtain ⟨y, cc, nL, rt⟩ := S
    rw [hs] at h
    simp only at h
    cases ho : fx_mo c with
    | none => rw [ho] at h; cases h
    | some O =>
      obtain ⟨o, p1, p2, p3, p4⟩ := O
      rw [ho] at h
      simp only at h
      obtain ⟨h1, h2⟩ := fx_and h
      obtain ⟨a1, h1⟩ := fx_and h1
      obtain ⟨a2, h1⟩ := fx_and h1
      obtain ⟨a3, a4⟩ := fx_and h1
      obtain ⟨h3, h4⟩ := fx_and h2
      obtain ⟨a5, h3⟩ := fx_and h3
      obtain ⟨a6, h3⟩ := fx_and h3
      obtain ⟨a7, a8⟩ := fx_and h3
      obtain ⟨h5, a9⟩ := fx_and h4
      obtain ⟨a10, a11⟩ := fx_and h5
      have e := of_decide_eq_true a1
      refine ⟨(y, cc, nL, rt), rfl, a2, fx_wq_ok a3, fx_wq_ok a4, ⟨of_decide_eq_true a5, of_decide_eq_true a6⟩, fx_ble a7, fx_beq a8, of_decide_eq_true a10, fx_beq a11, ?_⟩
      have := fx_codB_ok a9
      rw [e] at this
      exact this
