theorem ai_l63 {n : Nat} (h : n < 9223372036854775808) : (Int64.ofNat n).toInt = (n : Int) := by
  rw [Int64.toInt_ofNat']
  have hs : ((2 ^ 64 : Nat) : Int) = 18446744073709551616 := rfl
  simp only [Int.bmod, hs]
  omega
section AIW
variable {l : Launch} {X : fx_X} {Y : fx_Y} {B : fx_B} {E : ai_E} {P : fx_H → Prop} {h0 : fx_H} {d : Nat} {cod : List fx_I} {K : rx_K} {go : ai_O}
variable {pc a b c n len : Nat} {tl : List fx_I} {loc cloc F : fx_L} {stk cstk : List fx_V} {J : ai_J} {ρ τ : List Nat} {h : fx_H}
theorem ai_s18 (hXX : fx_xx X B) (hma : fx_mall fx_mst fx_mt) (hwd : fx_wd) (hgo : ai_gok l X Y B E P h0 d cod K ρ go) (ee : ai_k18 E go pc tl loc stk F J n = true) (hs : ai_st E.1 ρ loc stk F J n cloc cstk h) (hf : ai_hf E P h0 h) : rx_run l X Y B d cod ((pc, 18, a, b, c) :: tl) cloc cstk h K := by
  obtain ⟨s1, s2, s3, s4, s5, s6⟩ := hs
  rcases stk with _ | ⟨v, stk⟩
  · cases ee
  rcases v with m | m | (_ | r) | m
  · cases ee
  · cases ee
  · cases ee
  · obtain ⟨w, cstk, rfl, g1, g2⟩ := ai_vl_cons s3
    have := ai_isref g1
    subst this
    simp only [ai_k18] at ee
    cases hc : ai_cell E.1 r with
    | none =>
      rw [hc] at ee
      obtain ⟨e1, e2⟩ := fx_and ee
      have := fx_beq e1
      subst this
      exact rx_len2 (ai_nx0 hgo e2 ⟨s1, s2, ⟨⟨by decide, rfl⟩, g2⟩, s4, s5, s6⟩ hf)
    | some q =>
      rw [hc] at ee
      rcases q with q | ⟨ty, len, L⟩
      · cases ee
      · obtain ⟨e1, e2⟩ := fx_and (a := Nat.blt len 4096) ee
        have e1 := fx_blt e1
        obtain ⟨u, k1, k2⟩ := ai_arr s6 hc
        refine rx_one hXX hma hwd ?_
        show (match fx_len h r with
          | some v => fx_nz [] v (fun v => fx_nx (fun t => rx_go l X Y B d cod K t cloc (v :: cstk) 0 0 h []) pc 1 tl)
          | none => false) = true
        have e3 : fx_len h r = some (fc len) := by
          unfold fx_len
          rw [k1]
        rw [e3]
        exact ai_nx0 hgo e2 ⟨s1, s2, ⟨⟨by omega, rfl⟩, g2⟩, s4, s5, s6⟩ hf
  · cases ee
theorem ai_s25 (hXX : fx_xx X B) (hma : fx_mall fx_mst fx_mt) (hwd : fx_wd) (hgo : ai_gok l X Y B E P h0 d cod K ρ go) (ee : ai_k25 go pc b tl loc stk F J n = true) (hs : ai_st E.1 ρ loc stk F J n cloc cstk h) (hf : ai_hf E P h0 h) : rx_run l X Y B d cod ((pc, 25, a, b, c) :: tl) cloc cstk h K := by
  obtain ⟨s1, s2, s3, s4, s5, s6⟩ := hs
  rcases stk with _ | ⟨v, stk⟩
  · cases ee
  rcases v with m | m | (_ | r) | m
  · cases ee
  · cases ee
  · cases ee
  · obtain ⟨w, cstk, rfl, g1, g2⟩ := ai_vl_cons s3
    have := ai_isref g1
    subst this
    obtain ⟨e1, e2⟩ := fx_and (a := Nat.beq r 1000004) ee
    have := fx_beq e1
    subst this
    cases e3 : Nat.beq b 0 with
    | true =>
      rw [e3, fx_if_t] at e2
      have := fx_beq e3
      subst this
      exact rx_gstr (ai_nx0 hgo e2 ⟨s1, s2, ⟨rfl, g2⟩, s4, s5, s6⟩ hf) (by decide)
    | false =>
      rw [e3, fx_if_f] at e2
      obtain ⟨e4, e5⟩ := fx_and e2
      have := fx_beq e4
      subst this
      exact rx_gstr (ai_nx0 hgo e5 ⟨s1, s2, ⟨⟨by decide, rfl⟩, g2⟩, s4, s5, s6⟩ hf) (by decide)
  · cases ee
theorem ai_s26 (hXX : fx_xx X B) (hma : fx_mall fx_mst fx_mt) (hwd : fx_wd) (hgo : ai_gok l X Y B E P h0 d cod K ρ go) (ee : (Nat.beq b 0 && fx_nx (fun t => go t loc (fc 1 :: stk) F J n) pc 3 tl) = true) (hs : ai_st E.1 ρ loc stk F J n cloc cstk h) (hf : ai_hf E P h0 h) : rx_run l X Y B d cod ((pc, 26, a, b, c) :: tl) cloc cstk h K := by
  obtain ⟨s1, s2, s3, s4, s5, s6⟩ := hs
  obtain ⟨e1, e2⟩ := fx_and ee
  have := fx_beq e1
  subst this
  refine rx_one hXX hma hwd ?_
  show fx_nx (fun t => rx_go l X Y B d cod K t cloc (fc 1 :: cstk) 0 0 h []) pc 3 tl = true
  exact ai_nx0 hgo e2 ⟨s1, s2, ⟨⟨by decide, rfl⟩, s3⟩, s4, s5, s6⟩ hf
theorem ai_s27 (hXX : fx_xx X B) (hma : fx_mall fx_mst fx_mt) (hwd : fx_wd) (hgo : ai_gok l X Y B E P h0 d cod K ρ go) (ee : (Nat.beq a 73 && fx_nx (fun t => go t loc (fr 1000004 :: stk) F J n) pc 2 tl) = true) (hs : ai_st E.1 ρ loc stk F J n cloc cstk h) (hf : ai_hf E P h0 h) : rx_run l X Y B d cod ((pc, 27, a, b, c) :: tl) cloc cstk h K := by
  obtain ⟨s1, s2, s3, s4, s5, s6⟩ := hs
  obtain ⟨e1, e2⟩ := fx_and ee
  have := fx_beq e1
  subst this
  exact rx_lit2 (ai_nx0 hgo e2 ⟨s1, s2, ⟨rfl, s3⟩, s4, s5, s6⟩ hf)
theorem ai_s30 (hXX : fx_xx X B) (hma : fx_mall fx_mst fx_mt) (hwd : fx_wd) (hgo : ai_gok l X Y B E P h0 d cod K ρ go) (ee : ai_k30 go pc tl loc stk F J n = true) (hs : ai_st E.1 ρ loc stk F J n cloc cstk h) (hf : ai_hf E P h0 h) : rx_run l X Y B d cod ((pc, 30, a, b, c) :: tl) cloc cstk h K := by
  obtain ⟨s1, s2, s3, s4, s5, s6⟩ := hs
  rcases stk with _ | ⟨v, _ | ⟨v2, stk⟩⟩
  · cases ee
  · rcases v with m | m | m | m <;> cases ee
  · rcases v with m | m | m | m
    · cases ee
    · cases ee
    · cases ee
    · rcases v2 with m2 | m2 | m2 | m2
      · cases ee
      · cases ee
      · cases ee
      · obtain ⟨w, cstk1, rfl, ⟨y, rfl, ly⟩, g1⟩ := ai_vl_cons s3
        obtain ⟨w2, cstk, rfl, ⟨x, rfl, lx⟩, g2⟩ := ai_vl_cons g1
        have ef : fx_if (Nat.ble 2 m2 && (Nat.ble 2 m && (Nat.blt m2 9223372036854775808 && Nat.blt m 9223372036854775808))) (match ai_lcmp m2 m with
            | some z => fx_nx (fun t => go t loc (fc z :: stk) F J n) pc 1 tl
            | none => false)
          (fx_if (Nat.beq m2 1 && (Nat.ble 2 m && ai_mem ai_WL (m - 2))) (fx_nx (fun t => go t loc (fc 1 :: stk) F J n) pc 1 tl && fx_nx (fun t => go t loc (fc 4294967295 :: stk) F J n) pc 1 tl)
            (ai_new J n 2147483647 2147483649 0 0 (fun v J n => fx_nx (fun t => go t loc (v :: stk) F J n) pc 1 tl))) = true := ee
        have kon : ∀ z, z < 4294967296 → fx_nx (fun t => go t loc (fc z :: stk) F J n) pc 1 tl = true → rx_nx l X Y B d cod K pc 1 tl cloc (fc z :: cstk) h := fun z hz q => ai_nx0 hgo q ⟨s1, s2, ⟨⟨hz, rfl⟩, g2⟩, s4, s5, s6⟩ hf
        cases c1 : (Nat.ble 2 m2 && (Nat.ble 2 m && (Nat.blt m2 9223372036854775808 && Nat.blt m 9223372036854775808))) with
        | true =>
          rw [c1, fx_if_t] at ef
          obtain ⟨b1, c2⟩ := fx_and c1
          obtain ⟨b2, c3⟩ := fx_and c2
          obtain ⟨b3, b4⟩ := fx_and c3
          obtain ⟨p, rfl⟩ : ∃ p, m2 = p + 2 := ⟨m2 - 2, by have := fx_ble b1; omega⟩
          obtain ⟨q, rfl⟩ : ∃ q, m = q + 2 := ⟨m - 2, by have := fx_ble b2; omega⟩
          have b3 := fx_blt b3
          have b4 := fx_blt b4
          have lx : Int64.ofNat x = Int64.ofNat p := lx
          have ly : Int64.ofNat y = Int64.ofNat q := ly
          have ep := ai_l63 (n := p) (by omega)
          have eq := ai_l63 (n := q) (by omega)
          unfold ai_lcmp at ef
          refine rx_lcmp (fun t => ?_) (fun t => ?_) (fun t1 t2 => ?_)
          · rw [lx, ly, Int64.lt_iff_toInt_lt, ep, eq] at t
            have e1 : Nat.beq (p + 2) (q + 2) = false := by
              cases hb : Nat.beq (p + 2) (q + 2) with
              | true => have := fx_beq hb; omega
              | false => rfl
            have e2 : Nat.blt (p + 2) (q + 2) = false := by
              cases hb : Nat.blt (p + 2) (q + 2) with
              | true => have := fx_blt hb; omega
              | false => rfl
            rw [e1, fx_if_f, e2, fx_if_f] at ef
            exact kon 1 (by decide) ef
          · rw [lx, ly] at t
            have t := congrArg Int64.toInt t
            rw [ep, eq] at t
            have : p = q := by omega
            subst this
            rw [Nat.beq_refl, fx_if_t] at ef
            exact kon 0 (by decide) ef
          · rw [lx, ly, Int64.lt_iff_toInt_lt, ep, eq] at t1
            rw [lx, ly] at t2
            have t3 : p ≠ q := fun h => t2 (by rw [h])
            have e1 : Nat.beq (p + 2) (q + 2) = false := by
              cases hb : Nat.beq (p + 2) (q + 2) with
              | true => have := fx_beq hb; omega
              | false => rfl
            have e2 : Nat.blt (p + 2) (q + 2) = true := rx_ble (by omega)
            rw [e1, fx_if_f, e2, fx_if_t] at ef
            exact kon 4294967295 (by decide) ef
        | false =>
          rw [c1, fx_if_f] at ef
          cases c4 : (Nat.beq m2 1 && (Nat.ble 2 m && ai_mem ai_WL (m - 2))) with
          | true =>
            rw [c4, fx_if_t] at ef
            obtain ⟨b1, c5⟩ := fx_and c4
            obtain ⟨b2, b3⟩ := fx_and c5
            have := fx_beq b1
            subst this
            obtain ⟨q, rfl⟩ : ∃ q, m = q + 2 := ⟨m - 2, by have := fx_ble b2; omega⟩
            have lx : ∀ c ∈ ai_WL, Int64.ofNat x ≠ Int64.ofNat c := lx
            have ly : Int64.ofNat y = Int64.ofNat q := ly
            obtain ⟨d1, d2⟩ := fx_and ef
            refine rx_lcmp (fun _ => kon 1 (by decide) d1) (fun t => ?_) (fun _ _ => kon 4294967295 (by decide) d2)
            exact absurd (t.trans ly) (lx q (ai_mem_ok (by rw [show q + 2 - 2 = q by omega] at b3; exact b3)))
          | false =>
            rw [c4, fx_if_f] at ef
            have gen : ∀ z, z < 4294967296 → 2147483647 ≤ fx_b z → fx_b z ≤ 2147483649 → rx_nx l X Y B d cod K pc 1 tl cloc (fc z :: cstk) h := fun z q3 q1 q2 => by
              obtain ⟨v, J', n', τ, t1, t2, t3, t4⟩ := ai_new_iv s1 s5 ef (w := fc z) ⟨z, rfl, q3, q1, q2⟩
              exact ai_nx hgo t1 ⟨t2, s2.ext, ⟨t4, g2.ext⟩, s4.ext, t3, s6⟩ hf
            exact rx_lcmp (fun _ => gen 1 (by decide) (by decide) (by decide)) (fun _ => gen 0 (by decide) (by decide) (by decide)) (fun _ _ => gen 4294967295 (by decide) (by decide) (by decide))
theorem ai_s29 (hXX : fx_xx X B) (hma : fx_mall fx_mst fx_mt) (hwd : fx_wd) (hwa : rx_wa) (hgo : ai_gok l X Y B E P h0 d cod K ρ go) (ee : ai_k29 go d pc b tl loc stk F J n = true) (hs : ai_st E.1 ρ loc stk F J n cloc cstk h) (hf : ai_hf E P h0 h) : rx_run l X Y B d cod ((pc, 29, a, b, c) :: tl) cloc cstk h K := by
  obtain ⟨s1, s2, s3, s4, s5, s6⟩ := hs
  unfold ai_k29 at ee
  cases e0 : Nat.beq b 2 with
  | true =>
    rw [e0, fx_if_t] at ee
    have := fx_beq e0
    subst this
    rcases stk with _ | ⟨x, stk⟩
    · cases ee
    obtain ⟨w, cstk, rfl, gx, g2⟩ := ai_vl_cons s3
    obtain ⟨e1, e2⟩ := fx_and (b := ai_abs J n x (fun w J n => fx_nx (fun t => go t loc (w :: stk) F J n) pc 3 tl)) ee
    obtain ⟨e3, e4⟩ := fx_and e1
    obtain ⟨n1, rfl, v, J', n', τ, t1, t2, t3, t4⟩ := ai_abs_ok s1 s5 gx e2
    exact rx_abs hXX.1 hwa (fx_blt e3) (by rw [ai_vl_cats g2]; exact fx_ble e4) (ai_nx hgo t1 ⟨t2, s2.ext, ⟨t4, g2.ext⟩, s4.ext, t3, s6⟩ hf)
  | false =>
    rw [e0, fx_if_f] at ee
    rcases stk with _ | ⟨y, _ | ⟨x, stk⟩⟩
    · cases ee
    · cases ee
    obtain ⟨u, cstk1, rfl, gy, g1⟩ := ai_vl_cons s3
    obtain ⟨w, cstk, rfl, gx, g2⟩ := ai_vl_cons g1
    obtain ⟨e1, e2⟩ := fx_and (a := (Nat.blt b 2 && Nat.blt 0 d) && Nat.ble (fx_cats stk) 8) ee
    obtain ⟨e3, e4⟩ := fx_and e1
    obtain ⟨e3, e5⟩ := fx_and e3
    obtain ⟨n1, x1, x2, rfl, c1, h1, h2, e21, -⟩ := ai_rng_ok gx s5 e2
    obtain ⟨n2, y1, y2, rfl, c2, h3, h4, e22, -⟩ := ai_rng_ok gy s5 e21
    have hb := fx_blt e3
    refine rx_one hXX hma hwd ?_
    show ((Nat.blt 0 d && Nat.ble (fx_cats cstk) 8) && fx_if (Nat.beq b 0) (fx_if (Nat.blt (fx_b n1) (fx_b n2)) (fx_nx (fun t => rx_go l X Y B d cod K t cloc (fc n2 :: cstk) 0 0 h []) pc 3 tl) (fx_nx (fun t => rx_go l X Y B d cod K t cloc (fc n1 :: cstk) 0 0 h []) pc 3 tl)) (Nat.beq b 1 && fx_if (Nat.blt (fx_b n2) (fx_b n1)) (fx_nx (fun t => rx_go l X Y B d cod K t cloc (fc n2 :: cstk) 0 0 h []) pc 3 tl) (fx_nx (fun t => rx_go l X Y B d cod K t cloc (fc n1 :: cstk) 0 0 h []) pc 3 tl))) = true
    rw [e5, ai_vl_cats g2, e4, Bool.true_and, Bool.true_and]
    have fin : ∀ {lo hi z : Nat}, ai_new J n lo hi 0 0 (fun w J n => fx_nx (fun t => go t loc (w :: stk) F J n) pc 3 tl) = true → z < 4294967296 → lo ≤ fx_b z → fx_b z ≤ hi → fx_nx (fun t => rx_go l X Y B d cod K t cloc (fc z :: cstk) 0 0 h []) pc 3 tl = true := fun q1 q2 q3 q4 => by
      obtain ⟨v, J', n', τ, t1, t2, t3, t4⟩ := ai_new_iv s1 s5 q1 (w := fc _) ⟨_, rfl, q2, q3, q4⟩
      exact ai_nx hgo t1 ⟨t2, s2.ext, ⟨t4, g2.ext⟩, s4.ext, t3, s6⟩ hf
    unfold ai_math at e22
    cases e6 : Nat.beq b 0 with
    | true =>
      rw [e6, fx_if_t, ai_max_le, ai_max_le] at e22
      rw [fx_if_t]
      cases e7 : Nat.blt (fx_b n1) (fx_b n2) with
      | true =>
        have e7 := fx_blt e7
        rw [fx_if_t]
        exact fin e22 c2 (by omega) (by omega)
      | false =>
        have e7 := fx_nlt e7
        rw [fx_if_f]
        exact fin e22 c1 (by omega) (by omega)
    | false =>
      rw [e6, fx_if_f, ai_min_le, ai_min_le] at e22
      rw [fx_if_f]
      have e8 := fx_bnq e6
      have : b = 1 := by omega
      subst this
      rw [show Nat.beq 1 1 = true from rfl, Bool.true_and]
      cases e7 : Nat.blt (fx_b n2) (fx_b n1) with
      | true =>
        have e7 := fx_blt e7
        rw [fx_if_t]
        exact fin e22 c2 (by omega) (by omega)
      | false =>
        have e7 := fx_nlt e7
        rw [fx_if_f]
        exact fin e22 c1 (by omega) (by omega)
theorem ai_s8 (hXX : fx_xx X B) (hma : fx_mall fx_mst fx_mt) (hwd : fx_wd) (hPm : ∀ h h', P h → ai_fr E.2.2.2.2.1 h h' → P h') (hgo : ai_gok l X Y B E P h0 d cod K ρ go) (ee : ai_k8 E go pc a tl loc stk F J n = true) (hs : ai_st E.1 ρ loc stk F J n cloc cstk h) (hf : ai_hf E P h0 h) : rx_run l X Y B d cod ((pc, 8, a, b, c) :: tl) cloc cstk h K := by
  obtain ⟨s1, s2, s3, s4, s5, s6⟩ := hs
  rcases stk with _ | ⟨v, _ | ⟨i, _ | ⟨rf, stk⟩⟩⟩
  · cases ee
  · cases ee
  · cases ee
  rcases rf with m | m | (_ | r) | m
  · cases ee
  · cases ee
  · cases ee
  · obtain ⟨wv, cstk1, rfl, gv, g1⟩ := ai_vl_cons s3
    obtain ⟨wi, cstk2, rfl, gi, g2⟩ := ai_vl_cons g1
    obtain ⟨wr, cstk, rfl, gr, g3⟩ := ai_vl_cons g2
    have := ai_isref gr
    subst this
    simp only [ai_k8] at ee
    obtain ⟨m, c1, d1, rfl, hm, h1, h2, ee, -⟩ := ai_rng_ok gi s5 ee
    have eb : fx_b m = (m + 2147483648) % 4294967296 := rfl
    cases hc : ai_cell E.1 r with
    | none => rw [hc] at ee; cases ee
    | some q =>
      rw [hc] at ee
      rcases q with q | ⟨ty, len, L⟩
      · cases ee
      · simp only at ee
        obtain ⟨e1, e2⟩ := fx_and ee
        obtain ⟨e3, e4⟩ := fx_and e1
        obtain ⟨e5, e6⟩ := fx_and e3
        obtain ⟨e5, e9⟩ := fx_and e5
        obtain ⟨e6, e6d⟩ := fx_and e6
        obtain ⟨e7, e8⟩ := fx_and e4
        have e9 := fx_blt e9
        have e7 := fx_ble e7
        have e8 := fx_blt e8
        have hml : m < len := by omega
        obtain ⟨u, k1, k2⟩ := ai_arr s6 hc
        -- what is so behind a store of w at m
        have upd : ∀ (w : fx_V) (_P : Unit), (if ty = 3 then ∃ q, w = fl q else ∃ q, L[m % L.length]? = some q ∧ ai_iv q.1 q.2 w) → (∀ u' h', fx_aget ty u' m = w → (∀ i, i ≠ m → fx_aget ty u' i = fx_aget ty u i) → fx_hget h' r = some (.inr (.inr (ty, len, u'))) → (∀ i, i ≠ r → fx_hget h' i = fx_hget h i) → ai_inv E.1 h' → ai_hf E P h0 h' → fx_nx (fun t => rx_go l X Y B d cod K t cloc cstk 0 0 h' []) pc 1 tl = true) → fx_aset ty u m w (fun u' => fx_hset h r (.inr (.inr (ty, len, u'))) (fun h' => fx_nx (fun t => rx_go l X Y B d cod K t cloc cstk 0 0 h' []) pc 1 tl)) = true := fun w _ hw hh => by
          obtain ⟨u', a1, a2, a3⟩ := fw_aset ty u m w
          obtain ⟨h', f1, f3, f4, f5⟩ := fw_hset (.inr (.inr (ty, len, u'))) k1
          rw [a3, f5]
          refine hh u' h' a1 a2 f3 f4 ?_ ⟨ai_fr_trans hf.1 (ai_fr_arr e6 f4), hPm _ _ hf.2 (ai_fr_arr e6d f4)⟩
          refine ai_inv_set s6 f3 f4 (fun c2 hc2 => ?_)
          rw [hc] at hc2
          cases hc2
          refine ⟨rfl, rfl, fun i hi => ?_⟩
          by_cases hq : i = m
          · subst hq
            rw [a1]
            exact hw
          · rw [a2 i hq]
            exact k2 i hi
        -- facts of other cells
        have out : ∀ (w : fx_V), (if ty = 3 then ∃ q, w = fl q else ∃ q, L[m % L.length]? = some q ∧ ai_iv q.1 q.2 w) → ai_out r F (fun F => fx_nx (fun t => go t loc stk F J n) pc 1 tl) = true → fx_aset ty u m w (fun u' => fx_hset h r (.inr (.inr (ty, len, u'))) (fun h' => fx_nx (fun t => rx_go l X Y B d cod K t cloc cstk 0 0 h' []) pc 1 tl)) = true := fun w hw ho => upd w () hw (fun u' h' a1 a2 f3 f4 q1 q2 => ai_nx0 hgo (ai_out_ok ho) ⟨s1, s2, g3, ai_l_out s4 f4, s5, q1⟩ q2)
        cases ht : Nat.beq ty 3 with
        | true =>
          have := fx_beq ht
          subst this
          rw [ht, fx_if_t] at e2
          obtain ⟨e10, e11⟩ := fx_and e2
          have e10 := fx_beq e10
          have hw : ∃ q, wv = fl q := by
            rcases v with q | q | q | q
            · cases e10
            · cases e10
            · cases e10
            · obtain ⟨q, h, -⟩ := gv
              exact ⟨q, h⟩
          obtain ⟨q, rfl⟩ := hw
          refine rx_one hXX hma hwd ?_
          show fx_sto a h r m (fl q) (fun h => fx_nx (fun t => rx_go l X Y B d cod K t cloc cstk 0 0 h []) pc 1 tl) = true
          unfold fx_sto
          rw [k1]
          simp only
          rw [e5, show Nat.blt m len = true from rx_ble hml, Bool.true_and, Bool.true_and]
          exact out (fl q) (by rw [if_pos rfl]; exact ⟨q, rfl⟩) e11
        | false =>
          rw [ht, fx_if_f] at e2
          have ht3 := fx_bnq ht
          obtain ⟨x, y1, y2, rfl, hx, l1, l2, e2, -⟩ := ai_rng_ok gv s5 e2
          have ebx : fx_b x = (x + 2147483648) % 4294967296 := rfl
          have ha1 : ty = 0 ∨ (a = 1 ∧ (ty = 1 ∨ ty = 2)) := by
            unfold fx_aty at e5
            cases q0 : Nat.beq a 0 with
            | true =>
              rw [q0, fx_if_t] at e5
              exact Or.inl (fx_beq e5)
            | false =>
              rw [q0, fx_if_f] at e5
              cases q1 : Nat.beq a 1 with
              | true =>
                rw [q1, fx_if_t] at e5
                refine Or.inr ⟨fx_beq q1, ?_⟩
                rcases fx_or e5 with t | t
                · exact Or.inl (fx_beq t)
                · exact Or.inr (fx_beq t)
              | false =>
                rw [q1, fx_if_f] at e5
                exact absurd (fx_beq (fx_and e5).2) ht3
          cases e10 : ai_nar ty y1 y2 with
          | true =>
            rw [e10, fx_if_t] at e2
            obtain ⟨e11, e12⟩ := fx_and e2
            obtain ⟨q, j1, j2, j3⟩ := ai_into_ok e11 (i := m) (by omega) (by omega)
            have hw : if ty = 3 then ∃ q, (fc x : fx_V) = fl q else ∃ q, L[m % L.length]? = some q ∧ ai_iv q.1 q.2 (fc x) := by
              rw [if_neg ht3]
              exact ⟨q, j1, x, rfl, hx, by omega, by omega⟩
            have main : fx_aset ty u m (fc x) (fun u' => fx_hset h r (.inr (.inr (ty, len, u'))) (fun h' => fx_nx (fun t => rx_go l X Y B d cod K t cloc cstk 0 0 h' []) pc 1 tl)) = true := by
              cases hcd : Nat.beq c1 d1 with
              | false =>
                rw [hcd, fx_if_f] at e12
                exact out (fc x) hw e12
              | true =>
                rw [hcd, fx_if_t, fx_num_eq] at e12
                have hcd := fx_beq hcd
                have hcm : c1 - 2147483648 = m := by omega
                rw [hcm] at e12
                refine upd (fc x) () hw (fun u' h' a1 a2 f3 f4 q1 q2 => ai_nx0 hgo e12 ⟨s1, s2, g3, ?_, s5, q1⟩ q2)
                refine ai_l_cons s4 (w := fc x) ?_ gv (fun p hp => ?_)
                · rw [ai_pl_arr f3 (by omega) hml, a1]
                · by_cases hq : p / 4096 = r
                  · have hq2 : p % 4096 ≠ m := fun t => hp (by omega)
                    unfold ai_pl
                    rw [hq, f3, k1]
                    simp only
                    rw [a2 _ hq2]
                  · exact ai_pl_off f4 hq
            rcases ha1 with rfl | ⟨rfl, hty⟩
            · refine rx_one hXX hma hwd ?_
              show fx_sto a h r m (fc x) (fun h => fx_nx (fun t => rx_go l X Y B d cod K t cloc cstk 0 0 h []) pc 1 tl) = true
              unfold fx_sto
              rw [k1]
              simp only
              rw [e5, show Nat.blt m len = true from rx_ble hml, Bool.true_and, Bool.true_and]
              exact main
            · refine rx_bst k1 hty hml (fun z z1 z2 z3 => ?_)
              have hzx : z = x := by
                rcases hty with rfl | rfl
                · obtain ⟨t1, t2⟩ := fx_and (show (Nat.ble 2147483520 y1 && Nat.ble y2 2147483775) = true by
                    rcases fx_or (show (false || ((true && (Nat.ble 2147483520 y1 && Nat.ble y2 2147483775)) || (false && (Nat.ble 2147483648 y1 && Nat.ble y2 2147483649)))) = true from e10) with t | t
                    · cases t
                    · rcases fx_or t with t | t
                      · exact t
                      · cases t)
                  have t1 := fx_ble t1
                  have t2 := fx_ble t2
                  exact (z2 rfl).2.2 (by omega) (by omega) hx
                · obtain ⟨t1, t2⟩ := fx_and (show (Nat.ble 2147483648 y1 && Nat.ble y2 2147483649) = true by
                    rcases fx_or (show (false || ((false && (Nat.ble 2147483520 y1 && Nat.ble y2 2147483775)) || (true && (Nat.ble 2147483648 y1 && Nat.ble y2 2147483649)))) = true from e10) with t | t
                    · cases t
                    · rcases fx_or t with t | t
                      · cases t
                      · exact t)
                  have t1 := fx_ble t1
                  have t2 := fx_ble t2
                  exact (z3 rfl).2.2 (by omega)
              rw [hzx]
              exact main
          | false =>
            rw [e10, fx_if_f] at e2
            obtain ⟨e11, e12⟩ := fx_and e2
            rcases ha1 with rfl | ⟨rfl, hty⟩
            · cases e10
            · refine rx_bst k1 hty hml (fun z z1 z2 z3 => out (fc z) ?_ e12)
              rw [if_neg ht3]
              rcases hty with rfl | rfl
              · obtain ⟨p1, p2, -⟩ := z2 rfl
                rw [show Nat.beq 1 1 = true from rfl, fx_if_t] at e11
                obtain ⟨q, j1, j2, j3⟩ := ai_into_ok e11 (i := m) (by omega) (by omega)
                exact ⟨q, j1, z, rfl, z1, by omega, by omega⟩
              · obtain ⟨p1, p2, -⟩ := z3 rfl
                rw [show Nat.beq 2 1 = false from rfl, fx_if_f] at e11
                obtain ⟨q, j1, j2, j3⟩ := ai_into_ok e11 (i := m) (by omega) (by omega)
                exact ⟨q, j1, z, rfl, z1, by omega, by omega⟩
  · cases ee
theorem ai_s23 (hXX : fx_xx X B) (hma : fx_mall fx_mst fx_mt) (hwd : fx_wd) (hPm : ∀ h h', P h → ai_fr E.2.2.2.2.1 h h' → P h') (hgo : ai_gok l X Y B E P h0 d cod K ρ go) (ee : ai_k23 E go d pc tl loc stk F J n = true) (hs : ai_st E.1 ρ loc stk F J n cloc cstk h) (hf : ai_hf E P h0 h) : rx_run l X Y B d cod ((pc, 23, a, b, c) :: tl) cloc cstk h K := by
  refine rx_one hXX hma hwd ?_
  show fx_k23 (rx_go l X Y B d cod K) d pc tl cloc cstk 0 0 h [] = true
  obtain ⟨s1, s2, s3, s4, s5, s6⟩ := hs
  rcases stk with _ | ⟨v, _ | ⟨dp, _ | ⟨rf, _ | ⟨sp, _ | ⟨rf0, stk⟩⟩⟩⟩⟩
  · cases ee
  · cases ee
  · cases ee
  · rcases rf with m | m | (_ | r) | m <;> cases ee
  · rcases rf with m | m | (_ | r) | m <;> cases ee
  rcases rf with m | m | (_ | r) | m
  · cases ee
  · cases ee
  · cases ee
  · rcases rf0 with m | m | (_ | r0) | m
    · cases ee
    · cases ee
    · cases ee
    · obtain ⟨w1, c1, rfl, g1, t1⟩ := ai_vl_cons s3
      obtain ⟨w2, c2, rfl, g2, t2⟩ := ai_vl_cons t1
      obtain ⟨w3, c3, rfl, g3, t3⟩ := ai_vl_cons t2
      obtain ⟨w4, c4, rfl, g4, t4⟩ := ai_vl_cons t3
      obtain ⟨w5, cst, rfl, g5, t5⟩ := ai_vl_cons t4
      have := ai_isref g3
      subst this
      have := ai_isref g5
      subst this
      simp only [ai_k23] at ee
      obtain ⟨n1, a1, b1, rfl, i1, j1, k1, ee, -⟩ := ai_rng_ok g1 s5 ee
      obtain ⟨n2, a2, b2, rfl, i2, j2, k2, ee, -⟩ := ai_rng_ok g2 s5 ee
      obtain ⟨n3, a3, b3, rfl, i3, j3, k3, ee, -⟩ := ai_rng_ok g4 s5 ee
      have e1 : fx_b n1 = (n1 + 2147483648) % 4294967296 := rfl
      have e2 : fx_b n2 = (n2 + 2147483648) % 4294967296 := rfl
      have e3 : fx_b n3 = (n3 + 2147483648) % 4294967296 := rfl
      cases hc0 : ai_cell E.1 r0 with
      | none => rw [hc0] at ee; cases ee
      | some q =>
        rw [hc0] at ee
        rcases q with q | ⟨_ | ty0, len0, _ | ⟨q0, _ | ⟨q1, L0⟩⟩⟩
        · cases ee
        · cases ee
        · simp only at ee
          cases hc : ai_cell E.1 r with
          | none => rw [hc] at ee; cases ee
          | some q =>
            rw [hc] at ee
            rcases q with q | ⟨_ | ty, len, _ | ⟨q, _ | ⟨q1, L⟩⟩⟩
            · cases ee
            · cases ee
            · simp only at ee
              obtain ⟨f1, f2⟩ := fx_and ee
              obtain ⟨f3, f4⟩ := fx_and f1
              obtain ⟨f5, f6⟩ := fx_and f3
              obtain ⟨f6, f6d⟩ := fx_and f6
              obtain ⟨f7, f8⟩ := fx_and f4
              obtain ⟨f9, f10⟩ := fx_and f7
              obtain ⟨f11, f12⟩ := fx_and f10
              obtain ⟨f13, f14⟩ := fx_and f8
              obtain ⟨f15, f16⟩ := fx_and f13
              obtain ⟨f17, f18⟩ := fx_and f14
              obtain ⟨f19, f20⟩ := fx_and f5
              have f9 := fx_ble f9
              have f11 := fx_ble f11
              have f12 := fx_ble f12
              have f15 := fx_ble f15
              have f16 := fx_ble f16
              have f17 := fx_ble f17
              have f18 := fx_ble f18
              obtain ⟨u0, p1, p2⟩ := ai_arr s6 hc0
              obtain ⟨u, p3, p4⟩ := ai_arr s6 hc
              have hl1 : ∀ i, i % ([q0] : List (Nat × Nat)).length = 0 := fun i => by show i % 1 = 0; omega
              have hint : fx_ints u0 n3 n1 = true := by
                have key : ∀ m, m ≤ n1 → fx_ints u0 n3 m = true := by
                  intro m
                  induction m with
                  | zero => intro _; rfl
                  | succ m ih =>
                    intro hm
                    show (fx_int (fx_aget 0 u0 (n3 + m)) && fx_ints u0 n3 m) = true
                    rw [ih (by omega), Bool.and_true]
                    have p5 := p2 (n3 + m) (by omega)
                    rw [if_neg (by decide)] at p5
                    obtain ⟨q2, -, m2, p6, -⟩ := p5
                    rw [p6]
                    rfl
                exact key n1 (Nat.le_refl _)
              obtain ⟨u', o1, o2⟩ := fw_copy u0 u n3 n2 n1
              obtain ⟨h', y1, y3, y4, y5⟩ := fw_hset (.inr (.inr (0, len, u'))) p3
              show (match fx_hget h r0 with
                | some (.inr (.inr (0, len0, u0))) => (match fx_hget h r with
                  | some (.inr (.inr (0, len, u))) => ((Nat.blt 0 d && Nat.ble (fx_cats cst) 8) && (Nat.ble (n3 + n1) len0 && (Nat.ble (n2 + n1) len && fx_ints u0 n3 n1))) && fx_copy u0 u n3 n2 n1 (fun u => fx_hset h r (.inr (.inr (0, len, u))) (fun h => fx_nx (fun t => rx_go l X Y B d cod K t cloc cst 0 0 h []) pc 3 tl))
                  | _ => false)
                | _ => false) = true
              rw [p1, p3]
              simp only
              rw [f19, ai_vl_cats t5, f20, rx_ble (by omega : n3 + n1 ≤ len0), rx_ble (by omega : n2 + n1 ≤ len), hint, o2, y5]
              simp only [Bool.true_and]
              refine ai_nx0 hgo (ai_out_ok f2) ⟨s1, s2, t5, ai_l_out s4 y4, s5, ?_⟩ ⟨ai_fr_trans hf.1 (ai_fr_arr f6 y4), hPm _ _ hf.2 (ai_fr_arr f6d y4)⟩
              refine ai_inv_set s6 y3 y4 (fun c2 hc2 => ?_)
              rw [hc] at hc2
              cases hc2
              refine ⟨rfl, rfl, fun i hi => ?_⟩
              rw [if_neg (by decide), o1 i]
              refine ⟨q, by rw [show i % ([q] : List (Nat × Nat)).length = 0 by show i % 1 = 0; omega]; rfl, ?_⟩
              by_cases hq : n2 ≤ i ∧ i < n2 + n1
              · rw [if_pos hq]
                have p5 := p2 (n3 + (i - n2)) (by omega)
                rw [if_neg (by decide)] at p5
                obtain ⟨q2, p6, m2, p7, p8, p9, p10⟩ := p5
                rw [hl1] at p6
                cases p6
                exact ⟨m2, p7, p8, by omega, by omega⟩
              · rw [if_neg hq]
                have p5 := p4 i hi
                rw [if_neg (by decide)] at p5
                obtain ⟨q2, p6, p7⟩ := p5
                rw [show i % ([q] : List (Nat × Nat)).length = 0 by show i % 1 = 0; omega] at p6
                cases p6
                exact p7
            · cases ee
            · cases ee
            · cases ee
            · cases ee
        · cases ee
        · cases ee
        · cases ee
        · cases ee
    · cases ee
  · cases ee
end AIW
