def ai_kok (E : ai_E) (P : fx_H → Prop) (h0 : fx_H) (K : rx_K) (inl : Bool) (ρ : List Nat) (k : ai_K) : Prop := ∀ v F J n ρ' w h, (inl = true → ∃ τ, ρ' = ρ ++ τ) → k v F J n = true → ai_vo ρ' v w → ρ'.length = n → ai_l ρ' F (ai_pl h) → ai_j ρ' J → ai_inv E.1 h → ai_hf E P h0 h → K w h
theorem ai_vl_cats {ρ : List Nat} : ∀ {vs ws : List fx_V}, ai_vl ρ vs ws → fx_cats ws = fx_cats vs := by
  intro vs
  induction vs with
  | nil => intro ws h; rw [ai_vl_nil h]
  | cons v vs ih =>
    intro ws h
    obtain ⟨w, ws', rfl, h1, h2⟩ := ai_vl_cons h
    show fx_cat w + fx_cats ws' = fx_cat v + fx_cats vs
    rw [ai_cat h1, ih h2]
theorem ai_stk {ρ : List Nat} {a : Nat} {st st' cst : List fx_V} (hv : ai_vl ρ st cst) (h : fx_stk a st = some st') : ∃ cst', fx_stk a cst = some cst' ∧ ai_vl ρ st' cst' := by
  rcases st with _ | ⟨v, st⟩
  · cases h
  obtain ⟨w, cst, rfl, g1, g2⟩ := ai_vl_cons hv
  have c1 := ai_cat g1
  unfold fx_stk at h ⊢
  simp only at h ⊢
  rw [c1]
  cases e1 : Nat.beq (fx_cat v) 1 with
  | false => rw [e1, fx_if_f] at h; cases h
  | true =>
    rw [e1, fx_if_t] at h
    rw [fx_if_t]
    cases e2 : Nat.beq a 0 with
    | true =>
      rw [e2, fx_if_t] at h
      cases h
      exact ⟨_, rfl, g1, g1, g2⟩
    | false =>
      rw [e2, fx_if_f] at h
      rw [fx_if_f]
      cases e3 : Nat.beq a 1 with
      | true =>
        rw [e3, fx_if_t] at h
        cases h
        exact ⟨_, rfl, g2⟩
      | false =>
        rw [e3, fx_if_f] at h
        rw [fx_if_f]
        rcases st with _ | ⟨v2, st⟩
        · cases h
        obtain ⟨w2, cst, rfl, g3, g4⟩ := ai_vl_cons g2
        have c2 := ai_cat g3
        simp only at h ⊢
        rw [c2]
        cases e4 : Nat.beq (fx_cat v2) 1 with
        | false => rw [e4, fx_if_f] at h; cases h
        | true =>
          rw [e4, fx_if_t] at h
          rw [fx_if_t]
          cases e5 : Nat.beq a 2 with
          | true =>
            rw [e5, fx_if_t] at h
            cases h
            exact ⟨_, rfl, g1, g3, g1, g3, g4⟩
          | false =>
            rw [e5, fx_if_f] at h
            rw [fx_if_f]
            cases e6 : Nat.beq a 3 with
            | true =>
              rw [e6, fx_if_t] at h
              cases h
              exact ⟨_, rfl, g1, g3, g1, g4⟩
            | false =>
              rw [e6, fx_if_f] at h
              rw [fx_if_f]
              rcases st with _ | ⟨v3, st⟩
              · cases h
              obtain ⟨w3, cst, rfl, g5, g6⟩ := ai_vl_cons g4
              have c3 := ai_cat g5
              simp only at h ⊢
              rw [c3]
              cases e7 : (Nat.beq (fx_cat v3) 1 && Nat.beq a 4) with
              | false => rw [e7, fx_if_f] at h; cases h
              | true =>
                rw [e7, fx_if_t] at h
                cases h
                exact ⟨_, rfl, g1, g3, g5, g1, g6⟩
section AIU
variable {l : Launch} {X : fx_X} {Y : fx_Y} {B : fx_B} {E : ai_E} {P : fx_H → Prop} {h0 : fx_H} {d : Nat} {cod : List fx_I} {K : rx_K} {go : ai_O}
variable {pc a b c n len : Nat} {tl : List fx_I} {loc cloc F : fx_L} {stk cstk : List fx_V} {J : ai_J} {ρ τ : List Nat} {h : fx_H}
theorem ai_s10 (hXX : fx_xx X B) (hma : fx_mall fx_mst fx_mt) (hwd : fx_wd) {k : ai_K} {inl : Bool} (hk : ai_kok E P h0 K inl ρ k) (ee : ai_k10 k a b stk F J n = true) (hs : ai_st E.1 ρ loc stk F J n cloc cstk h) (hf : ai_hf E P h0 h) : rx_run l X Y B d cod ((pc, 10, a, b, c) :: tl) cloc cstk h K := by
  refine rx_one hXX hma hwd ?_
  show fx_k10 (fun v h' _ => rx_b (K v h')) a b cstk h [] = true
  obtain ⟨s1, s2, s3, s4, s5, s6⟩ := hs
  have fin : ∀ v w, k v F J n = true → ai_vo ρ v w → rx_b (K w h) = true := fun v w e1 e2 => rx_b_iff.mpr (hk v F J n ρ w h (fun _ => ⟨[], (List.append_nil ρ).symm⟩) e1 e2 s1 s4 s5 s6 hf)
  unfold ai_k10 at ee
  unfold fx_k10
  cases e1 : Nat.beq a 0 with
  | true =>
    rw [e1, fx_if_t] at ee
    rw [fx_if_t]
    rcases stk with _ | ⟨v, _ | ⟨v2, stk⟩⟩
    · cases ee
    · obtain ⟨w, ws, rfl, g1, g2⟩ := ai_vl_cons s3
      have := ai_vl_nil g2
      subst this
      obtain ⟨m, x, y, rfl, hm, h1, h2, ee, -⟩ := ai_rng_ok g1 s5 ee
      obtain ⟨e2, e3⟩ := fx_and ee
      show (fx_rok b (fc m) && rx_b (K (some (fc m)) h)) = true
      rw [fin (some v) (some (fc m)) e3 g1, Bool.and_true]
      have eb : fx_b m = (m + 2147483648) % 4294967296 := rfl
      show (Nat.beq b 1 || ((Nat.beq b 2 && Nat.blt m 2) || ((Nat.beq b 4 && Nat.blt m 65536) || (Nat.beq b 5 && Nat.blt m 128)))) = true
      rcases fx_or e2 with e2 | e2
      · rw [e2]; rfl
      · rcases fx_or e2 with e2 | e2
        · obtain ⟨q1, q2⟩ := fx_and e2
          obtain ⟨q2, q3⟩ := fx_and q2
          have q2 := fx_ble q2
          have q3 := fx_ble q3
          rw [q1, show Nat.blt m 2 = true from rx_ble (by omega)]
          simp
        · rcases fx_or e2 with e2 | e2
          · obtain ⟨q1, q2⟩ := fx_and e2
            obtain ⟨q2, q3⟩ := fx_and q2
            have q2 := fx_ble q2
            have q3 := fx_ble q3
            rw [q1, show Nat.blt m 65536 = true from rx_ble (by omega)]
            simp
          · obtain ⟨q1, q2⟩ := fx_and e2
            obtain ⟨q2, q3⟩ := fx_and q2
            have q2 := fx_ble q2
            have q3 := fx_ble q3
            rw [q1, show Nat.blt m 128 = true from rx_ble (by omega)]
            simp
    · cases ee
  | false =>
    rw [e1, fx_if_f] at ee
    rw [fx_if_f]
    cases e2 : Nat.beq a 1 with
    | true =>
      rw [e2, fx_if_t] at ee
      rw [fx_if_t]
      rcases stk with _ | ⟨v, stk⟩
      · have := ai_vl_nil s3
        subst this
        exact fin none none ee trivial
      · cases ee
    | false =>
      rw [e2, fx_if_f] at ee
      rw [fx_if_f]
      rcases stk with _ | ⟨v, _ | ⟨v2, stk⟩⟩
      · cases ee
      · rcases v with m | m | m | m
        · cases ee
        · cases ee
        · cases ee
        · obtain ⟨w, ws, rfl, ⟨m2, rfl, m3⟩, g2⟩ := ai_vl_cons s3
          have := ai_vl_nil g2
          subst this
          exact fin (some (fl m)) (some (fl m2)) ee ⟨m2, rfl, m3⟩
      · rcases v with m | m | m | m <;> cases ee
theorem ai_s15 (hXX : fx_xx X B) (hma : fx_mall fx_mst fx_mt) (hwd : fx_wd) (hgo : ai_gok l X Y B E P h0 d cod K ρ go) (ee : ai_k15 go pc a tl loc stk F J n = true) (hs : ai_st E.1 ρ loc stk F J n cloc cstk h) (hf : ai_hf E P h0 h) : rx_run l X Y B d cod ((pc, 15, a, b, c) :: tl) cloc cstk h K := by
  refine rx_one hXX hma hwd ?_
  show fx_k15 (rx_go l X Y B d cod K) pc a tl cloc cstk 0 0 h [] = true
  obtain ⟨s1, s2, s3, s4, s5, s6⟩ := hs
  unfold ai_k15 at ee
  cases hq : fx_stk a stk with
  | none => rw [hq] at ee; cases ee
  | some st' =>
    rw [hq] at ee
    obtain ⟨cst', g1, g2⟩ := ai_stk s3 hq
    unfold fx_k15
    rw [g1]
    exact ai_nx0 hgo ee ⟨s1, s2, g2, s4, s5, s6⟩ hf
theorem ai_s19 (hXX : fx_xx X B) (hma : fx_mall fx_mst fx_mt) (hwd : fx_wd) (hgo : ai_gok l X Y B E P h0 d cod K ρ go) (ee : ai_k19 go cod pc a b tl loc stk F J n = true) (hs : ai_st E.1 ρ loc stk F J n cloc cstk h) (hf : ai_hf E P h0 h) : rx_run l X Y B d cod ((pc, 19, a, b, c) :: tl) cloc cstk h K := by
  refine rx_one hXX hma hwd ?_
  show fx_k19 (rx_go l X Y B d cod K) cod pc a b tl cloc cstk 0 0 h [] = true
  obtain ⟨s1, s2, s3, s4, s5, s6⟩ := hs
  rcases stk with _ | ⟨v, stk⟩
  · cases ee
  rcases v with m | m | (_ | r) | m
  · cases ee
  · cases ee
  · obtain ⟨w, cstk, rfl, g1, g2⟩ := ai_vl_cons s3
    have := ai_isref g1
    subst this
    have ee : fx_if (Nat.beq a 0) (go (fx_to cod b) loc stk F J n) (Nat.beq a 1 && fx_nx (fun t => go t loc stk F J n) pc 3 tl) = true := ee
    show fx_if (Nat.beq a 0) (rx_go l X Y B d cod K (fx_to cod b) cloc cstk 0 0 h []) (Nat.beq a 1 && fx_nx (fun t => rx_go l X Y B d cod K t cloc cstk 0 0 h []) pc 3 tl) = true
    cases e1 : Nat.beq a 0 with
    | true =>
      rw [e1, fx_if_t] at ee
      rw [fx_if_t]
      exact ai_jmp hgo ee ⟨s1, s2, g2, s4, s5, s6⟩ hf
    | false =>
      rw [e1, fx_if_f] at ee
      rw [fx_if_f]
      obtain ⟨e2, e3⟩ := fx_and ee
      rw [e2, Bool.true_and]
      exact ai_nx0 hgo e3 ⟨s1, s2, g2, s4, s5, s6⟩ hf
  · obtain ⟨w, cstk, rfl, g1, g2⟩ := ai_vl_cons s3
    have := ai_isref g1
    subst this
    have ee : (Nat.blt r 1000000 && fx_if (Nat.beq a 1) (go (fx_to cod b) loc stk F J n) (Nat.beq a 0 && fx_nx (fun t => go t loc stk F J n) pc 3 tl)) = true := ee
    show (Nat.blt r 1000000 && fx_if (Nat.beq a 1) (rx_go l X Y B d cod K (fx_to cod b) cloc cstk 0 0 h []) (Nat.beq a 0 && fx_nx (fun t => rx_go l X Y B d cod K t cloc cstk 0 0 h []) pc 3 tl)) = true
    obtain ⟨e0, ee⟩ := fx_and ee
    rw [e0, Bool.true_and]
    cases e1 : Nat.beq a 1 with
    | true =>
      rw [e1, fx_if_t] at ee
      rw [fx_if_t]
      exact ai_jmp hgo ee ⟨s1, s2, g2, s4, s5, s6⟩ hf
    | false =>
      rw [e1, fx_if_f] at ee
      rw [fx_if_f]
      obtain ⟨e2, e3⟩ := fx_and ee
      rw [e2, Bool.true_and]
      exact ai_nx0 hgo e3 ⟨s1, s2, g2, s4, s5, s6⟩ hf
  · cases ee
theorem ai_s24 (hXX : fx_xx X B) (hma : fx_mall fx_mst fx_mt) (hwd : fx_wd) (hgo : ai_gok l X Y B E P h0 d cod K ρ go) (ee : ai_k24 go pc tl loc stk F J n = true) (hs : ai_st E.1 ρ loc stk F J n cloc cstk h) (hf : ai_hf E P h0 h) : rx_run l X Y B d cod ((pc, 24, a, b, c) :: tl) cloc cstk h K := by
  obtain ⟨s1, s2, s3, s4, s5, s6⟩ := hs
  rcases stk with _ | ⟨v, _ | ⟨v2, stk⟩⟩
  · cases ee
  · rcases v with m | m | m | m <;> cases ee
  · rcases v with m | m | m | m
    · cases ee
    · cases ee
    · cases ee
    · rcases v2 with m2 | m2 | m2 | m2
      · cases ee
      · cases ee
      · cases ee
      · obtain ⟨w, cstk1, rfl, ⟨y, rfl, -⟩, g1⟩ := ai_vl_cons s3
        obtain ⟨w2, cstk, rfl, ⟨x, rfl, -⟩, g2⟩ := ai_vl_cons g1
        exact rx_lbin (fun q => ai_nx0 hgo ee ⟨s1, s2, ⟨⟨q, rfl, trivial⟩, g2⟩, s4, s5, s6⟩ hf)
theorem ai_s31 (hXX : fx_xx X B) (hma : fx_mall fx_mst fx_mt) (hwd : fx_wd) (hgo : ai_gok l X Y B E P h0 d cod K ρ go) (ee : ai_k31 go pc tl loc stk F J n = true) (hs : ai_st E.1 ρ loc stk F J n cloc cstk h) (hf : ai_hf E P h0 h) : rx_run l X Y B d cod ((pc, 31, a, b, c) :: tl) cloc cstk h K := by
  obtain ⟨s1, s2, s3, s4, s5, s6⟩ := hs
  rcases stk with _ | ⟨v, _ | ⟨v2, stk⟩⟩
  · cases ee
  · cases ee
  · rcases v2 with m2 | m2 | m2 | m2
    · cases ee
    · cases ee
    · cases ee
    · obtain ⟨w, cstk1, rfl, gv, g1⟩ := ai_vl_cons s3
      obtain ⟨w2, cstk, rfl, ⟨x, rfl, -⟩, g2⟩ := ai_vl_cons g1
      obtain ⟨e1, e2⟩ := fx_and (a := fx_int v) ee
      have hw : ∃ y, w = fc y := by
        rcases v with m | m | m | m
        · exact ⟨m, gv.2⟩
        · obtain ⟨z, -, -, rfl⟩ := gv
          exact ⟨_, rfl⟩
        · cases e1
        · cases e1
      obtain ⟨y, rfl⟩ := hw
      exact rx_lshl (fun q => ai_nx0 hgo e2 ⟨s1, s2, ⟨⟨q, rfl, trivial⟩, g2⟩, s4, s5, s6⟩ hf)
theorem ai_s20 (hXX : fx_xx X B) (hma : fx_mall fx_mst fx_mt) (hwd : fx_wd) {kd : Nat} (hkd : kd = 20 ∨ kd = 21) (hgo : ai_gok l X Y B E P h0 d cod K ρ go) (ee : ai_k20 go cod a b c loc stk F J n = true) (hs : ai_st E.1 ρ loc stk F J n cloc cstk h) (hf : ai_hf E P h0 h) : rx_run l X Y B d cod ((pc, kd, a, b, c) :: tl) cloc cstk h K := by
  refine rx_one hXX hma hwd ?_
  have key : fx_k20 rx_E (rx_go l X Y B d cod K) cod a b c cloc cstk 0 0 h [] = true := by
    obtain ⟨s1, s2, s3, s4, s5, s6⟩ := hs
    rcases stk with _ | ⟨x, stk⟩
    · cases ee
    obtain ⟨w, cstk, rfl, g1, g2⟩ := ai_vl_cons s3
    have ee : ai_sw J x a (fx_b b) (fx_swt c) (fun t J => go (fx_to cod t) loc stk F J n) = true := ee
    obtain ⟨m, lo, hi, rfl, hm, h1, h2, ee, -⟩ := ai_rng_ok g1 s5 ee
    obtain ⟨e1, e2⟩ := fx_and ee
    obtain ⟨e3, e4⟩ := fx_and e2
    have bm := rx_b_lt m
    have go1 : ∀ {t : Nat} {J' : ai_J}, go (fx_to cod t) loc stk F J' n = true → ai_j ρ J' → rx_go l X Y B d cod K (fx_to cod t) cloc cstk 0 0 h [] = true := fun q1 q2 => ai_jmp hgo q1 ⟨s1, s2, g2, s4, q2, s6⟩ hf
    have keys : ∀ (ts : List Nat) (q : Nat), ai_keys J x lo hi (fun t J => go (fx_to cod t) loc stk F J n) ts q = true → ∀ i t, ts[i]? = some t → fx_b m = q + i → rx_go l X Y B d cod K (fx_to cod t) cloc cstk 0 0 h [] = true := by
      intro ts
      induction ts with
      | nil => intro q _ i t ht; simp at ht
      | cons t0 ts ih =>
        intro q hq i t ht hb
        obtain ⟨f1, f2⟩ := fx_and (a := fx_if (Nat.ble lo q && Nat.ble q hi) (ai_ref J x q q (fun J => go (fx_to cod t0) loc stk F J n)) true) (b := ai_keys J x lo hi (fun t J => go (fx_to cod t) loc stk F J n) ts (q + 1)) hq
        cases i with
        | zero =>
          rw [List.getElem?_cons_zero] at ht
          cases ht
          rw [rx_ble (by omega : lo ≤ q), rx_ble (by omega : q ≤ hi), Bool.true_and, fx_if_t] at f1
          obtain ⟨J', j1, j2⟩ := ai_ref_ok s5 g1 (by omega) (by omega) f1
          exact go1 j1 j2
        | succ i =>
          rw [List.getElem?_cons_succ] at ht
          exact ih (q + 1) f2 i t ht (by omega)
    show fx_if (Nat.ble (fx_b b) (fx_b m)) (match fx_nth (fx_swt c) (fx_b m - fx_b b) with
      | some t => rx_go l X Y B d cod K (fx_to cod t) cloc cstk 0 0 h []
      | none => rx_go l X Y B d cod K (fx_to cod a) cloc cstk 0 0 h []) (rx_go l X Y B d cod K (fx_to cod a) cloc cstk 0 0 h []) = true
    cases hb : Nat.ble (fx_b b) (fx_b m) with
    | true =>
      rw [fx_if_t]
      have hb := fx_ble hb
      cases ht : fx_nth (fx_swt c) (fx_b m - fx_b b) with
      | some t =>
        rw [fx_nth_eq] at ht
        exact keys _ _ e1 _ t ht (by omega)
      | none =>
        rw [fx_nth_eq] at ht
        have := List.getElem?_eq_none_iff.mp ht
        obtain ⟨J', j1, j2⟩ := ai_ref_ok s5 g1 (by omega) (by omega) e4
        exact go1 j1 j2
    | false =>
      rw [fx_if_f]
      have hb := fx_nle hb
      rcases fx_or e3 with e3 | e3
      · have := fx_beq e3
        omega
      · obtain ⟨J', j1, j2⟩ := ai_ref_ok s5 g1 (by omega) (by omega) e3
        exact go1 j1 j2
  rcases hkd with rfl | rfl
  · exact key
  · exact key
end AIU
