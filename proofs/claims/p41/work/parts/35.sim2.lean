section AIT
variable {l : Launch} {X : fx_X} {Y : fx_Y} {B : fx_B} {E : ai_E} {P : fx_H → Prop} {h0 : fx_H} {d : Nat} {cod : List fx_I} {K : rx_K} {go : ai_O}
variable {pc a b c n len : Nat} {tl : List fx_I} {loc cloc F : fx_L} {stk cstk : List fx_V} {J : ai_J} {ρ τ : List Nat} {h : fx_H}
/-- an object of the table -/
theorem ai_obj {T : ai_T} {r ci : Nat} {fs : List ai_F} (hI : ai_inv T h) (hc : ai_cell T r = some (.inl (ci, fs))) : ∃ ws : List fx_V, fx_hget h r = some (.inr (.inl (ci, ws))) ∧ ∀ (i : Nat) (s : ai_F), fs[i]? = some s → ∃ w : fx_V, ws[i]? = some w ∧ ai_fo s w := by
  obtain ⟨x, h1, h2⟩ := hI r _ hc
  rcases x with u | ⟨cj, ws⟩ | u
  · exact False.elim h2
  · obtain ⟨e, h3⟩ := h2
    subst e
    exact ⟨ws, h1, h3⟩
  · exact False.elim h2
theorem ai_arr {T : ai_T} {r ty len : Nat} {L : List (Nat × Nat)} (hI : ai_inv T h) (hc : ai_cell T r = some (.inr (ty, len, L))) : ∃ u, fx_hget h r = some (.inr (.inr (ty, len, u))) ∧ ai_ao ty len L u := by
  obtain ⟨x, h1, h2⟩ := hI r _ hc
  rcases x with u | u | ⟨ty2, len2, u⟩
  · exact False.elim h2
  · exact False.elim h2
  · obtain ⟨e1, e2, h3⟩ := h2
    subst e1; subst e2
    exact ⟨u, h1, h3⟩
theorem ai_isref {ρ : List Nat} {o : Option Nat} {w : fx_V} (h : ai_v ρ (.inr (.inr (.inl o))) w) : w = .inr (.inr (.inl o)) := h
theorem ai_s1 (hXX : fx_xx X B) (hma : fx_mall fx_mst fx_mt) (hwd : fx_wd) (hgo : ai_gok l X Y B E P h0 d cod K ρ go) (ee : ai_k1 E go pc b c tl loc stk F J n = true) (hs : ai_st E.1 ρ loc stk F J n cloc cstk h) (hf : ai_hf E P h0 h) : rx_run l X Y B d cod ((pc, 1, a, b, c) :: tl) cloc cstk h K := by
  refine rx_one hXX hma hwd ?_
  show fx_k1 (rx_go l X Y B d cod K) pc b c tl cloc cstk 0 0 h [] = true
  obtain ⟨s1, s2, s3, s4, s5, s6⟩ := hs
  rcases stk with _ | ⟨v, stk⟩
  · cases ee
  rcases v with m | i | (_ | r) | m
  · cases ee
  · cases ee
  · cases ee
  · obtain ⟨w, cstk, rfl, g1, g2⟩ := ai_vl_cons s3
    have := ai_isref g1
    subst this
    simp only [ai_k1] at ee
    cases hc : ai_cell E.1 r with
    | none => rw [hc] at ee; cases ee
    | some q =>
      rw [hc] at ee
      rcases q with ⟨ci, fs⟩ | q
      · simp only [fx_num_eq] at ee
        obtain ⟨e1, e2⟩ := fx_and ee
        obtain ⟨e3, e4⟩ := fx_and e1
        have e4 := fx_blt e4
        obtain ⟨ws, k1, k2⟩ := ai_obj s6 hc
        have hp := ai_pl_obj k1 e4
        -- a value at that place is enough
        have fin : ∀ w, ws[c]? = some w → rx_nx l X Y B d cod K pc 3 tl cloc (w :: cstk) h → fx_k1 (rx_go l X Y B d cod K) pc b c tl cloc (.inr (.inr (.inl (some r))) :: cstk) 0 0 h [] = true := fun w hw hn => by
          simp only [fx_k1, k1, e3, Bool.true_and]
          rw [show fx_nth ws c = some w by rw [fx_nth_eq]; exact hw]
          exact hn
        cases hF : fx_look F (r * 4096 + c) with
        | some v =>
          rw [hF] at e2
          obtain ⟨w, j1, j2⟩ := s4 _ _ hF
          rw [hp] at j1
          exact fin w j1 (ai_nx0 hgo e2 ⟨s1, s2, ⟨j2, g2⟩, s4, s5, s6⟩ hf)
        | none =>
          rw [hF] at e2
          simp only at e2
          cases hn : fx_nth fs c with
          | none => rw [hn] at e2; cases e2
          | some sp =>
            rw [hn] at e2
            rw [fx_nth_eq] at hn
            obtain ⟨w, j1, j2⟩ := k2 c sp hn
            rcases sp with z | ⟨lo, hi⟩ | rs
            · obtain ⟨m, rfl⟩ := j2
              exact fin _ j1 (ai_nx0 hgo e2 ⟨s1, s2, ⟨⟨m, rfl, trivial⟩, g2⟩, s4, s5, s6⟩ hf)
            · obtain ⟨v, J', n', τ, t1, t2, t3, t4⟩ := ai_new_iv s1 s5 e2 j2
              refine fin w j1 (ai_nx hgo t1 ⟨t2, s2.ext, ⟨t4, g2.ext⟩, ?_, t3, s6⟩ hf)
              exact ai_l_cons s4.ext (by rw [hp]; exact j1) t4 (fun _ _ => rfl)
            · obtain ⟨o, rfl, ho⟩ := j2
              have e5 := fx_all_ok e2 o ho
              refine fin _ j1 (ai_nx0 hgo e5 ⟨s1, s2, ⟨rfl, g2⟩, ?_, s5, s6⟩ hf)
              exact ai_l_cons s4 (by rw [hp]; exact j1) rfl (fun _ _ => rfl)
      · cases ee
  · cases ee
theorem ai_s14 (hXX : fx_xx X B) (hma : fx_mall fx_mst fx_mt) (hwd : fx_wd) (hPm : ∀ h h', P h → ai_fr E.2.2.2.2.1 h h' → P h') (hgo : ai_gok l X Y B E P h0 d cod K ρ go) (ee : ai_k14 E go pc b c tl loc stk F J n = true) (hs : ai_st E.1 ρ loc stk F J n cloc cstk h) (hf : ai_hf E P h0 h) : rx_run l X Y B d cod ((pc, 14, a, b, c) :: tl) cloc cstk h K := by
  refine rx_one hXX hma hwd ?_
  show fx_k14 (rx_go l X Y B d cod K) pc b c tl cloc cstk 0 0 h [] = true
  obtain ⟨s1, s2, s3, s4, s5, s6⟩ := hs
  rcases stk with _ | ⟨v, _ | ⟨rf, stk⟩⟩
  · cases ee
  · cases ee
  rcases rf with m | i | (_ | r) | m
  · cases ee
  · cases ee
  · cases ee
  · obtain ⟨w, cstk1, rfl, gv, g1⟩ := ai_vl_cons s3
    obtain ⟨wr, cstk, rfl, gr, g2⟩ := ai_vl_cons g1
    have := ai_isref gr
    subst this
    simp only [ai_k14] at ee
    cases hc : ai_cell E.1 r with
    | none => rw [hc] at ee; cases ee
    | some q =>
      rw [hc] at ee
      rcases q with ⟨ci, fs⟩ | q
      · simp only [fx_num_eq] at ee
        obtain ⟨e1, e2⟩ := fx_and ee
        obtain ⟨e3, e4⟩ := fx_and e1
        obtain ⟨e5, e6⟩ := fx_and e2
        obtain ⟨e5, e5d⟩ := fx_and e5
        obtain ⟨e7, e8⟩ := fx_and e6
        have e4 := fx_blt e4
        obtain ⟨ws, k1, k2⟩ := ai_obj s6 hc
        have e4 : c / 8 < 4096 := e4
        -- the value keeps to the table, and to the field's type
        have hval : ∃ sp, fs[c / 8]? = some sp ∧ ai_fo sp w ∧ fx_fit (Nat.mod c 8) w = true := by
          cases hn : fx_nth fs (Nat.div c 8) with
          | none => rw [hn] at e7; cases e7
          | some sp =>
            rw [hn] at e7
            rw [fx_nth_eq] at hn
            refine ⟨sp, hn, ?_⟩
            rcases sp with z | ⟨lo, hi⟩ | rs
            · obtain ⟨q1, q2⟩ := fx_and e7
              have q1 := fx_beq q1
              have q2 := fx_beq q2
              rcases v with m | i | o | m
              · cases q1
              · cases q1
              · cases q1
              · obtain ⟨m2, rfl, -⟩ := gv
                exact ⟨⟨m2, rfl⟩, by rw [q2]; rfl⟩
            · obtain ⟨q1, q2⟩ := fx_and e7
              obtain ⟨m, rfl, q3, q4, q5⟩ := ai_fit_ok s5 gv q1
              refine ⟨⟨m, rfl, q3, q4, q5⟩, ?_⟩
              rcases fx_or q2 with q6 | q6
              · show (Nat.beq (Nat.mod c 8) 0 || (Nat.beq (Nat.mod c 8) 2 && Nat.blt m 2)) = true
                rw [q6]; rfl
              · obtain ⟨q7, q8⟩ := fx_and q6
                obtain ⟨q8, q9⟩ := fx_and q8
                have q8 := fx_ble q8
                have q9 := fx_ble q9
                have e9 : fx_b m = (m + 2147483648) % 4294967296 := rfl
                have hm : m < 2 := by omega
                show (Nat.beq (Nat.mod c 8) 0 || (Nat.beq (Nat.mod c 8) 2 && Nat.blt m 2)) = true
                rw [q7, show Nat.blt m 2 = true from rx_ble hm]
                exact Bool.or_true _
            · rcases v with m | i | o | m
              · cases e7
              · cases e7
              · obtain ⟨q1, q2⟩ := fx_and e7
                have q2 := fx_beq q2
                have := ai_isref gv
                subst this
                refine ⟨⟨o, rfl, ?_⟩, by rw [q2]; rfl⟩
                have isin : ∀ {rs : List (Option Nat)}, ai_isin o rs = true → o ∈ rs := by
                  intro rs
                  induction rs with
                  | nil => intro q; cases q
                  | cons a rs ih =>
                    intro q
                    rcases fx_or (b := ai_isin o rs) q with q | q
                    · cases a with
                      | none =>
                        cases o with
                        | none => exact List.mem_cons_self
                        | some y => cases q
                      | some x =>
                        cases o with
                        | none => cases q
                        | some y =>
                          have := fx_beq (show Nat.beq x y = true from q)
                          subst this
                          exact List.mem_cons_self
                    · exact List.mem_cons_of_mem _ (ih q)
                exact isin q1
              · cases e7
        obtain ⟨sp, v1, v2, v3⟩ := hval
        obtain ⟨w0, u1, -⟩ := k2 _ _ v1
        have hlt : c / 8 < ws.length := (List.getElem?_eq_some_iff.mp u1).1
        obtain ⟨h', f1, f3, f4, f5⟩ := fw_hset (.inr (.inl (ci, ws.set (c / 8) w))) k1
        simp only [fx_k14, k1, e3, v3, Bool.true_and]
        rw [fw_put w ws (Nat.div c 8) hlt, show Nat.div c 8 = c / 8 from rfl, f5]
        have hpl : ai_pl h' (r * 4096 + c / 8) = some w := by
          rw [ai_pl_obj f3 e4, List.getElem?_set_self hlt]
        have hoff : ∀ p, p ≠ r * 4096 + c / 8 → ai_pl h' p = ai_pl h p := fun p hp => by
          by_cases hq : p / 4096 = r
          · have hp2 : p % 4096 ≠ c / 8 := fun t => hp (by omega)
            unfold ai_pl
            rw [hq, f3, k1]
            simp only
            rw [List.getElem?_set_ne (Ne.symm hp2)]
          · exact ai_pl_off f4 hq
        refine ai_nx0 hgo e8 ⟨s1, s2, g2, ai_l_cons s4 hpl gv hoff, s5, ?_⟩ ?_
        · refine ai_inv_set s6 f3 f4 (fun c2 hc2 => ?_)
          rw [hc] at hc2
          cases hc2
          refine ⟨rfl, fun i s hi => ?_⟩
          by_cases hq : i = c / 8
          · subst hq
            rw [v1] at hi
            cases hi
            exact ⟨w, List.getElem?_set_self hlt, v2⟩
          · obtain ⟨w2, z1, z2⟩ := k2 i s hi
            exact ⟨w2, by rw [List.getElem?_set_ne (Ne.symm hq)]; exact z1, z2⟩
        · rw [show Nat.div c 8 = c / 8 from rfl] at e5 e5d
          refine ⟨ai_fr_trans hf.1 (fun p q1 q2 => hoff p (fun t => ?_)), hPm _ _ hf.2 (fun p q1 q2 => hoff p (fun t => ?_))⟩
          · rw [t, e5] at q1
            cases q1
          · rw [t, e5d] at q1
            cases q1
      · cases ee
  · cases ee
theorem ai_s6 (hXX : fx_xx X B) (hma : fx_mall fx_mst fx_mt) (hwd : fx_wd) (hgo : ai_gok l X Y B E P h0 d cod K ρ go) (ee : ai_k6 E go pc a tl loc stk F J n = true) (hs : ai_st E.1 ρ loc stk F J n cloc cstk h) (hf : ai_hf E P h0 h) (hout : ∀ m st, cstk = fc m :: fr 1000005 :: st → m < 11 → (∀ z, z < 128 → rx_nx l X Y B d cod K pc 1 tl cloc (fc z :: st) h) → a = 1 → rx_run l X Y B d cod ((pc, 6, a, b, c) :: tl) cloc cstk h K) : rx_run l X Y B d cod ((pc, 6, a, b, c) :: tl) cloc cstk h K := by
  obtain ⟨s1, s2, s3, s4, s5, s6⟩ := hs
  rcases stk with _ | ⟨i, _ | ⟨rf, stk⟩⟩
  · cases ee
  · cases ee
  rcases rf with m | m | (_ | r) | m
  · cases ee
  · cases ee
  · cases ee
  · obtain ⟨wi, cstk1, rfl, gi, g1⟩ := ai_vl_cons s3
    obtain ⟨wr, cstk, rfl, gr, g2⟩ := ai_vl_cons g1
    have := ai_isref gr
    subst this
    simp only [ai_k6] at ee
    obtain ⟨m, c1, d1, rfl, hm, h1, h2, ee, -⟩ := ai_rng_ok gi s5 ee
    have eb : fx_b m = (m + 2147483648) % 4294967296 := rfl
    cases hc : ai_cell E.1 r with
    | none =>
      rw [hc] at ee
      simp only at ee
      obtain ⟨e1, e2⟩ := fx_and ee
      obtain ⟨e3, e4⟩ := fx_and e1
      obtain ⟨e5, e6⟩ := fx_and e4
      obtain ⟨e6, e7⟩ := fx_and e6
      have := fx_beq e3
      subst this
      have e5 := fx_beq e5
      have e6 := fx_ble e6
      have e7 := fx_blt e7
      refine hout m cstk rfl (by omega) (fun z hz => ?_) e5
      have eb2 : fx_b z = (z + 2147483648) % 4294967296 := rfl
      obtain ⟨v, J', n', τ, t1, t2, t3, t4⟩ := ai_new_iv s1 s5 e2 (w := fc z) ⟨z, rfl, by omega, by omega, by omega⟩
      exact ai_nx hgo t1 ⟨t2, s2.ext, ⟨t4, g2.ext⟩, s4.ext, t3, s6⟩ hf
    | some q =>
      rw [hc] at ee
      rcases q with q | ⟨ty, len, L⟩
      · cases ee
      · simp only at ee
        obtain ⟨e1, e2⟩ := fx_and ee
        obtain ⟨e3, e4⟩ := fx_and e1
        obtain ⟨e5, e6⟩ := fx_and e3
        obtain ⟨e7, e8⟩ := fx_and e4
        have e6 := fx_blt e6
        have e7 := fx_ble e7
        have e8 := fx_blt e8
        have hml : m < len := by omega
        have hm0 : fx_b m = m + 2147483648 := by omega
        obtain ⟨u, k1, k2⟩ := ai_arr s6 hc
        have hp := ai_pl_arr k1 (i := m) (by omega) hml
        have k3 := k2 m hml
        have fin : rx_nx l X Y B d cod K pc 1 tl cloc (fx_aget ty u m :: cstk) h → rx_run l X Y B d cod ((pc, 6, a, b, c) :: tl) cloc (fc m :: .inr (.inr (.inl (some r))) :: cstk) h K := fun hn => by
          refine rx_one hXX hma hwd ?_
          show fx_ld a h [] r m (fun v => fx_nx (fun t => rx_go l X Y B d cod K t cloc (v :: cstk) 0 0 h []) pc 1 tl) = true
          unfold fx_ld
          rw [k1]
          simp only
          rw [e5, show Nat.blt m len = true from rx_ble hml, Bool.true_and, Bool.true_and]
          rw [fx_aget_def] at k3 hn
          cases hk : fx_look u m with
          | none => rw [hk] at hn; exact hn
          | some v =>
            rw [hk] at k3 hn
            simp only at k3 hn ⊢
            by_cases ht : ty = 3
            · subst ht
              rw [if_pos rfl] at k3
              obtain ⟨m3, rfl⟩ := k3
              exact hn
            · rw [if_neg ht] at k3
              obtain ⟨q, -, m3, rfl, -⟩ := k3
              have : Nat.beq ty 3 = false := by
                cases hb : Nat.beq ty 3 with
                | true => exact absurd (fx_beq hb) ht
                | false => rfl
              rw [this]
              exact hn
        cases ht : Nat.beq ty 3 with
        | true =>
          have := fx_beq ht
          subst this
          rw [ht, fx_if_t] at e2
          rw [if_pos rfl] at k3
          obtain ⟨m3, k3⟩ := k3
          refine fin ?_
          rw [k3]
          exact ai_nx0 hgo e2 ⟨s1, s2, ⟨⟨m3, rfl, trivial⟩, g2⟩, s4, s5, s6⟩ hf
        | false =>
          rw [ht, fx_if_f] at e2
          rw [if_neg (fx_bnq ht)] at k3
          obtain ⟨q, k4, k5⟩ := k3
          cases hcd : Nat.beq c1 d1 with
          | true =>
            rw [hcd, fx_if_t, fx_num_eq] at e2
            have hcd := fx_beq hcd
            have hcm : c1 - 2147483648 = m := by omega
            rw [hcm] at e2
            cases hF : fx_look F (r * 4096 + m) with
            | some v =>
              rw [hF] at e2
              obtain ⟨w, j1, j2⟩ := s4 _ _ hF
              rw [hp] at j1
              cases j1
              exact fin (ai_nx0 hgo e2 ⟨s1, s2, ⟨j2, g2⟩, s4, s5, s6⟩ hf)
            | none =>
              rw [hF] at e2
              simp only at e2
              rw [show fx_nth L (Nat.mod m L.length) = some q by rw [fx_nth_eq]; exact k4] at e2
              obtain ⟨v, J', n', τ, t1, t2, t3, t4⟩ := ai_new_iv s1 s5 e2 k5
              refine fin (ai_nx hgo t1 ⟨t2, s2.ext, ⟨t4, g2.ext⟩, ?_, t3, s6⟩ hf)
              exact ai_l_cons s4.ext hp t4 (fun _ _ => rfl)
          | false =>
            rw [hcd, fx_if_f] at e2
            cases hsp : ai_span L (c1 - 2147483648) (d1 - 2147483648) with
            | none => rw [hsp] at e2; cases e2
            | some q2 =>
              obtain ⟨lo, hi⟩ := q2
              rw [hsp] at e2
              obtain ⟨q3, j1, j2, j3⟩ := ai_span_ok hsp (i := m) (by omega) (by omega)
              rw [k4] at j1
              cases j1
              obtain ⟨m3, l1, l2, l3, l4⟩ := k5
              obtain ⟨v, J', n', τ, t1, t2, t3, t4⟩ := ai_new_iv s1 s5 e2 (w := fx_aget ty u m) ⟨m3, l1, l2, by omega, by omega⟩
              exact fin (ai_nx hgo t1 ⟨t2, s2.ext, ⟨t4, g2.ext⟩, s4.ext, t3, s6⟩ hf)
  · cases ee
end AIT
