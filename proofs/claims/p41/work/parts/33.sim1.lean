/-- locals: every entry -/
def ai_lm (ρ : List Nat) (L : fx_L) (f : Nat → Option fx_V) : Prop := ∀ q ∈ L, ∃ w, f q.1 = some w ∧ ai_v ρ q.2 w
theorem ai_lm.ext {ρ τ : List Nat} {L : fx_L} {f : Nat → Option fx_V} (h : ai_lm ρ L f) : ai_lm (ρ ++ τ) L f := fun q hq => by
  obtain ⟨w, h1, h2⟩ := h q hq
  exact ⟨w, h1, h2.ext⟩
def ai_st (T : ai_T) (ρ : List Nat) (loc : fx_L) (stk : List fx_V) (F : fx_L) (J : ai_J) (n : Nat) (cloc : fx_L) (cstk : List fx_V) (h : fx_H) : Prop := ρ.length = n ∧ ai_lm ρ loc (fx_look cloc) ∧ ai_vl ρ stk cstk ∧ ai_l ρ F (ai_pl h) ∧ ai_j ρ J ∧ ai_inv T h
/-- the frame, and what holds of every heap on the way -/
def ai_hf (E : ai_E) (P : fx_H → Prop) (h0 h : fx_H) : Prop := ai_fr E.2.2.2.1 h0 h ∧ P h
def ai_gok (l : Launch) (X : fx_X) (Y : fx_Y) (B : fx_B) (E : ai_E) (P : fx_H → Prop) (h0 : fx_H) (d : Nat) (cod : List fx_I) (K : rx_K) (ρ : List Nat) (go : ai_O) : Prop :=
  (∀ loc stk F J n, go [] loc stk F J n = false) ∧ ∀ at_ loc stk F J n τ cloc cstk h, go at_ loc stk F J n = true → ai_st E.1 (ρ ++ τ) loc stk F J n cloc cstk h → ai_hf E P h0 h → rx_run l X Y B d cod at_ cloc cstk h K
theorem ai_cat {ρ : List Nat} {v w : fx_V} (h : ai_v ρ v w) : fx_cat w = fx_cat v := by
  rcases v with n | i | o | n
  · obtain ⟨-, rfl⟩ := h; rfl
  · obtain ⟨x, -, -, rfl⟩ := h; rfl
  · have : w = _ := h
    subst this; rfl
  · obtain ⟨m, rfl, -⟩ := h; rfl
theorem ai_form {ρ : List Nat} {v w : fx_V} (h : ai_v ρ v w) (b : Nat) : fx_form b w = fx_form b v := by
  rcases v with n | i | o | n
  · obtain ⟨-, rfl⟩ := h; rfl
  · obtain ⟨x, -, -, rfl⟩ := h; rfl
  · have : w = _ := h
    subst this; rfl
  · obtain ⟨m, rfl, -⟩ := h; rfl
theorem ai_nz {ρ : List Nat} {v w : fx_V} (h : ai_v ρ v w) (k : fx_V → Bool) : fx_nz [] w k = k w := by
  rcases v with n | i | o | n
  · obtain ⟨-, rfl⟩ := h; rfl
  · obtain ⟨x, -, -, rfl⟩ := h; rfl
  · have : w = _ := h
    subst this
    cases o <;> rfl
  · obtain ⟨m, rfl, -⟩ := h; rfl
theorem ai_look_pass (g : Nat → Nat → Bool) {i : Nat} {w : fx_V} : ∀ {l : fx_L}, fx_look l i = some w → g i (fx_cat w) = true → fx_look (l.filter (fun q => g q.1 (fx_cat q.2))) i = some w := by
  intro l
  induction l with
  | nil => intro h; cases h
  | cons q l ih =>
    intro h hg
    rw [fx_look_cons] at h
    cases hc : Nat.beq q.1 i with
    | true =>
      rw [hc, fx_if_t] at h
      cases h
      have := fx_beq hc
      subst this
      rw [List.filter_cons_of_pos (p := fun q : Nat × fx_V => g q.1 (fx_cat q.2)) hg, fx_look_cons, Nat.beq_refl, fx_if_t]
    | false =>
      rw [hc, fx_if_f] at h
      cases hf : g q.1 (fx_cat q.2) with
      | true => rw [List.filter_cons_of_pos (p := fun q : Nat × fx_V => g q.1 (fx_cat q.2)) hf, fx_look_cons, hc, fx_if_f]; exact ih h hg
      | false => rw [List.filter_cons_of_neg (p := fun q : Nat × fx_V => g q.1 (fx_cat q.2)) (by show ¬ g q.1 (fx_cat q.2) = true; rw [hf]; simp)]; exact ih h hg
/-- a store into a slot: what the analysis keeps is so of the plain locals too -/
theorem ai_store {ρ : List Nat} {loc cloc : fx_L} {a : Nat} {v w : fx_V} {k : fx_L → Bool} (hl : ai_lm ρ loc (fx_look cloc)) (hv : ai_v ρ v w) (h : fx_store loc a v k = true) : ∃ loc' cloc', k loc' = true ∧ ai_lm ρ loc' (fx_look cloc') ∧ ∀ k2 : fx_L → Bool, fx_store cloc a w k2 = k2 cloc' := by
  have gen : ∀ g : Nat → Nat → Bool, (∀ i c, g i c = true → i ≠ a) → ai_lm ρ ((a, v) :: loc.filter (fun q => g q.1 (fx_cat q.2))) (fx_look ((a, w) :: cloc.filter (fun q => g q.1 (fx_cat q.2)))) := fun g hg q hq => by
    rcases List.mem_cons.mp hq with rfl | hq
    · exact ⟨w, fx_look_hit _ _ _, hv⟩
    · obtain ⟨q1, q2⟩ := List.mem_filter.mp hq
      obtain ⟨u, e1, e2⟩ := hl q q1
      have e3 : g q.1 (fx_cat u) = true := by rw [ai_cat e2]; exact q2
      refine ⟨u, ?_, e2⟩
      rw [fx_look_miss _ _ (Ne.symm (hg _ _ q2))]
      exact ai_look_pass g e1 e3
  have hc := ai_cat hv
  rcases fx_store_ok h with ⟨e1, e2⟩ | ⟨e1, e2⟩
  · refine ⟨_, _, e2, gen (fun i c => !(Nat.beq i a || (Nat.beq (i + 1) a && Nat.beq c 2))) (fun i c q e => ?_), fun k2 => ?_⟩
    · subst e
      have q : (!(Nat.beq i i || (Nat.beq (i + 1) i && Nat.beq c 2))) = true := q
      rw [Nat.beq_refl] at q
      cases q
    · rw [e1] at hc
      rcases w with n | i | o | n
      · exact fx_drop_eq a cloc (fun t => k2 ((a, fc n) :: t))
      · exact fx_drop_eq a cloc (fun t => k2 ((a, fv i) :: t))
      · exact fx_drop_eq a cloc (fun t => k2 ((a, .inr (.inr (.inl o))) :: t))
      · cases hc
  · refine ⟨_, _, e2, gen (fun i c => !(Nat.beq i a || (Nat.beq i (a + 1) || (Nat.beq (i + 1) a && Nat.beq c 2)))) (fun i c q e => ?_), fun k2 => ?_⟩
    · subst e
      have q : (!(Nat.beq i i || (Nat.beq i (i + 1) || (Nat.beq (i + 1) i && Nat.beq c 2)))) = true := q
      rw [Nat.beq_refl] at q
      cases q
    · rw [e1] at hc
      rcases w with n | i | o | n
      · cases hc
      · cases hc
      · cases hc
      · exact fx_drop2_eq a cloc (fun t => k2 ((a, fl n) :: t))
section AIS
variable {l : Launch} {X : fx_X} {Y : fx_Y} {B : fx_B} {E : ai_E} {P : fx_H → Prop} {h0 : fx_H} {d : Nat} {cod : List fx_I} {K : rx_K} {go : ai_O}
variable {pc a b c n len : Nat} {tl : List fx_I} {loc cloc F : fx_L} {stk cstk : List fx_V} {J : ai_J} {ρ τ : List Nat} {h : fx_H}
theorem ai_nx (hgo : ai_gok l X Y B E P h0 d cod K ρ go) (ee : fx_nx (fun t => go t loc stk F J n) pc len tl = true) (hs : ai_st E.1 (ρ ++ τ) loc stk F J n cloc cstk h) (hf : ai_hf E P h0 h) : rx_nx l X Y B d cod K pc len tl cloc cstk h := by
  obtain ⟨r, t, rfl, h1, h2⟩ := fx_nx_ok ee
  show (Nat.beq r.1 (pc + len) && rx_go l X Y B d cod K (r :: t) cloc cstk 0 0 h []) = true
  rw [h1, Nat.beq_refl, Bool.true_and]
  exact rx_go_iff.mpr ⟨by simp, hgo.2 _ _ _ _ _ _ _ _ _ _ h2 hs hf⟩
theorem ai_nx0 (hgo : ai_gok l X Y B E P h0 d cod K ρ go) (ee : fx_nx (fun t => go t loc stk F J n) pc len tl = true) (hs : ai_st E.1 ρ loc stk F J n cloc cstk h) (hf : ai_hf E P h0 h) : rx_nx l X Y B d cod K pc len tl cloc cstk h := ai_nx (τ := []) hgo ee (by rw [List.append_nil]; exact hs) hf
theorem ai_jmp (hgo : ai_gok l X Y B E P h0 d cod K ρ go) {t : Nat} (ee : go (fx_to cod t) loc stk F J n = true) (hs : ai_st E.1 ρ loc stk F J n cloc cstk h) (hf : ai_hf E P h0 h) : rx_go l X Y B d cod K (fx_to cod t) cloc cstk 0 0 h [] = true := by
  refine rx_go_iff.mpr ⟨fun q => ?_, hgo.2 _ _ _ _ _ _ [] _ _ _ ee (by rw [List.append_nil]; exact hs) hf⟩
  rw [q, hgo.1] at ee
  cases ee
theorem ai_s0 (hXX : fx_xx X B) (hma : fx_mall fx_mst fx_mt) (hwd : fx_wd) (hgo : ai_gok l X Y B E P h0 d cod K ρ go) (ee : ai_k0 go pc a b tl loc stk F J n = true) (hs : ai_st E.1 ρ loc stk F J n cloc cstk h) (hf : ai_hf E P h0 h) : rx_run l X Y B d cod ((pc, 0, a, b, c) :: tl) cloc cstk h K := by
  refine rx_one hXX hma hwd ?_
  show fx_k0 (rx_go l X Y B d cod K) pc a b tl cloc cstk 0 0 h [] = true
  obtain ⟨s1, s2, s3, s4, s5, s6⟩ := hs
  unfold ai_k0 at ee
  cases hl : fx_look loc a with
  | none => rw [hl] at ee; cases ee
  | some v =>
    rw [hl] at ee
    simp only at ee
    obtain ⟨e1, e2⟩ := fx_and ee
    obtain ⟨e3, e4⟩ := fx_and e1
    obtain ⟨w, g1, g2⟩ := s2 _ (ai_look_mem hl)
    unfold fx_k0
    rw [g1]
    simp only
    rw [ai_form g2, e3, e4, ai_nz g2, Bool.true_and, Bool.true_and]
    exact ai_nx0 hgo e2 ⟨s1, s2, ⟨g2, s3⟩, s4, s5, s6⟩ hf
theorem ai_s11 (hXX : fx_xx X B) (hma : fx_mall fx_mst fx_mt) (hwd : fx_wd) (hgo : ai_gok l X Y B E P h0 d cod K ρ go) (ee : ai_k11 go pc a b tl loc stk F J n = true) (hs : ai_st E.1 ρ loc stk F J n cloc cstk h) (hf : ai_hf E P h0 h) : rx_run l X Y B d cod ((pc, 11, a, b, c) :: tl) cloc cstk h K := by
  refine rx_one hXX hma hwd ?_
  show fx_k11 (rx_go l X Y B d cod K) pc a b tl cloc cstk 0 0 h [] = true
  obtain ⟨s1, s2, s3, s4, s5, s6⟩ := hs
  cases stk with
  | nil => cases ee
  | cons v stk =>
    obtain ⟨w, cstk, rfl, g1, g2⟩ := ai_vl_cons s3
    have ee : ((fx_form b v && Nat.blt b 6) && fx_store loc a v (fun loc => fx_nx (fun t => go t loc stk F J n) pc (fx_odd b) tl)) = true := ee
    obtain ⟨e1, e2⟩ := fx_and ee
    obtain ⟨e3, e4⟩ := fx_and e1
    obtain ⟨loc', cloc', k1, k2, k3⟩ := ai_store s2 g1 e2
    show ((fx_form b w && Nat.blt b 6) && fx_store cloc a w (fun loc => fx_nx (fun t => rx_go l X Y B d cod K t loc cstk 0 0 h []) pc (fx_odd b) tl)) = true
    rw [ai_form g1, e3, e4, k3, Bool.true_and, Bool.true_and]
    exact ai_nx0 hgo k1 ⟨s1, k2, g2, s4, s5, s6⟩ hf
theorem ai_s2 (hXX : fx_xx X B) (hma : fx_mall fx_mst fx_mt) (hwd : fx_wd) (hgo : ai_gok l X Y B E P h0 d cod K ρ go) (ee : ai_k2 go pc a c tl loc stk F J n = true) (hs : ai_st E.1 ρ loc stk F J n cloc cstk h) (hf : ai_hf E P h0 h) : rx_run l X Y B d cod ((pc, 2, a, b, c) :: tl) cloc cstk h K := by
  refine rx_one hXX hma hwd ?_
  show (Nat.blt a 8 && fx_nx (fun t => rx_go l X Y B d cod K t cloc (fx_cst a c :: cstk) 0 0 h []) pc (fx_clen a) tl) = true
  obtain ⟨s1, s2, s3, s4, s5, s6⟩ := hs
  obtain ⟨e1, e2⟩ := fx_and ee
  have h8 : Nat.blt a 8 = true ∧ (Nat.blt c 4294967296 = true ∨ a = 5 ∨ a = 6) := by
    rcases fx_or e1 with e3 | e3
    · obtain ⟨g1, g2⟩ := fx_and e3
      exact ⟨g1, Or.inl g2⟩
    · rcases fx_or e3 with e3 | e3
      · have := fx_beq e3
        subst this
        exact ⟨rfl, Or.inr (Or.inl rfl)⟩
      · have := fx_beq e3
        subst this
        exact ⟨rfl, Or.inr (Or.inr rfl)⟩
  have hv : ai_v ρ (ai_cst a c) (fx_cst a c) := by
    have := fx_blt h8.1
    rcases (by omega : a < 5 ∨ a = 5 ∨ a = 6 ∨ a = 7) with q | rfl | rfl | rfl
    · have e9 : fx_cst a c = fc c := by
        unfold fx_cst
        rw [show Nat.blt a 5 = true from rx_ble q, fx_if_t]
      have e8 : ai_cst a c = fc c := by
        unfold ai_cst
        rw [show Nat.blt a 5 = true from rx_ble q, fx_if_t]
      rw [e9, e8]
      refine ⟨?_, rfl⟩
      rcases h8.2 with t | t | t
      · exact fx_blt t
      · omega
      · omega
    · exact ⟨c, rfl, rfl⟩
    · exact ⟨c, rfl, rfl⟩
    · rfl
  rw [h8.1, Bool.true_and]
  exact ai_nx0 hgo e2 ⟨s1, s2, ⟨hv, s3⟩, s4, s5, s6⟩ hf
theorem ai_s3 (hXX : fx_xx X B) (hma : fx_mall fx_mst fx_mt) (hwd : fx_wd) (hgo : ai_gok l X Y B E P h0 d cod K ρ go) (ee : ai_k3 go cod pc a b tl loc stk F J n = true) (hs : ai_st E.1 ρ loc stk F J n cloc cstk h) (hf : ai_hf E P h0 h) : rx_run l X Y B d cod ((pc, 3, a, b, c) :: tl) cloc cstk h K := by
  refine rx_one hXX hma hwd ?_
  show fx_k3 (rx_go l X Y B d cod K) cod pc a b tl cloc cstk 0 0 h [] = true
  obtain ⟨s1, s2, s3, s4, s5, s6⟩ := hs
  rcases stk with _ | ⟨y, _ | ⟨x, stk⟩⟩
  · cases ee
  · cases ee
  obtain ⟨u, cstk1, rfl, gy, g2⟩ := ai_vl_cons s3
  obtain ⟨w, cstk, rfl, gx, g3⟩ := ai_vl_cons g2
  obtain ⟨e1, e2⟩ := fx_and (a := Nat.blt a 6) ee
  obtain ⟨n1, n2, J', rfl, rfl, k1, k2⟩ := ai_cmp_ok (fx_blt e1) s5 gx gy e2
  show (Nat.blt a 6 && fx_if (fx_con a (fx_b n1) (fx_b n2)) (rx_go l X Y B d cod K (fx_to cod b) cloc cstk 0 0 h []) (fx_nx (fun t => rx_go l X Y B d cod K t cloc cstk 0 0 h []) pc 3 tl)) = true
  rw [e1, Bool.true_and]
  cases hc : fx_con a (fx_b n1) (fx_b n2) with
  | true =>
    rw [hc, fx_if_t] at k1
    rw [fx_if_t]
    exact ai_jmp hgo k1 ⟨s1, s2, g3, s4, k2, s6⟩ hf
  | false =>
    rw [hc, fx_if_f] at k1
    rw [fx_if_f]
    exact ai_nx0 hgo k1 ⟨s1, s2, g3, s4, k2, s6⟩ hf
theorem ai_s4 (hXX : fx_xx X B) (hma : fx_mall fx_mst fx_mt) (hwd : fx_wd) (hgo : ai_gok l X Y B E P h0 d cod K ρ go) (ee : ai_k4 go cod pc a b tl loc stk F J n = true) (hs : ai_st E.1 ρ loc stk F J n cloc cstk h) (hf : ai_hf E P h0 h) : rx_run l X Y B d cod ((pc, 4, a, b, c) :: tl) cloc cstk h K := by
  refine rx_one hXX hma hwd ?_
  show fx_k4 (rx_go l X Y B d cod K) cod pc a b tl cloc cstk 0 0 h [] = true
  obtain ⟨s1, s2, s3, s4, s5, s6⟩ := hs
  rcases stk with _ | ⟨x, stk⟩
  · cases ee
  obtain ⟨w, cstk, rfl, gx, g3⟩ := ai_vl_cons s3
  obtain ⟨e1, e2⟩ := fx_and (a := Nat.blt a 6) ee
  obtain ⟨n1, n2, J', rfl, e3, k1, k2⟩ := ai_cmp_ok (fx_blt e1) s5 gx (y := fc 0) (u := fc 0) ⟨by decide, rfl⟩ e2
  cases e3
  show (Nat.blt a 6 && fx_if (fx_con a (fx_b n1) (fx_b 0)) (rx_go l X Y B d cod K (fx_to cod b) cloc cstk 0 0 h []) (fx_nx (fun t => rx_go l X Y B d cod K t cloc cstk 0 0 h []) pc 3 tl)) = true
  rw [e1, Bool.true_and]
  cases hc : fx_con a (fx_b n1) (fx_b 0) with
  | true =>
    rw [hc, fx_if_t] at k1
    rw [fx_if_t]
    exact ai_jmp hgo k1 ⟨s1, s2, g3, s4, k2, s6⟩ hf
  | false =>
    rw [hc, fx_if_f] at k1
    rw [fx_if_f]
    exact ai_nx0 hgo k1 ⟨s1, s2, g3, s4, k2, s6⟩ hf
theorem ai_s5 (hXX : fx_xx X B) (hma : fx_mall fx_mst fx_mt) (hwd : fx_wd) (hgo : ai_gok l X Y B E P h0 d cod K ρ go) (ee : go (fx_to cod b) loc stk F J n = true) (hs : ai_st E.1 ρ loc stk F J n cloc cstk h) (hf : ai_hf E P h0 h) : rx_run l X Y B d cod ((pc, 5, a, b, c) :: tl) cloc cstk h K := by
  refine rx_one hXX hma hwd ?_
  show rx_go l X Y B d cod K (fx_to cod b) cloc cstk 0 0 h [] = true
  exact ai_jmp hgo ee hs hf
theorem ai_s12 (hXX : fx_xx X B) (hma : fx_mall fx_mst fx_mt) (hwd : fx_wd) (hgo : ai_gok l X Y B E P h0 d cod K ρ go) (ee : ai_k12 go pc a tl loc stk F J n = true) (hs : ai_st E.1 ρ loc stk F J n cloc cstk h) (hf : ai_hf E P h0 h) : rx_run l X Y B d cod ((pc, 12, a, b, c) :: tl) cloc cstk h K := by
  obtain ⟨s1, s2, s3, s4, s5, s6⟩ := hs
  rcases stk with _ | ⟨y, _ | ⟨x, stk⟩⟩
  · cases ee
  · cases ee
  obtain ⟨u, cstk1, rfl, gy, g2⟩ := ai_vl_cons s3
  obtain ⟨w, cstk, rfl, gx, g3⟩ := ai_vl_cons g2
  obtain ⟨e1, e2⟩ := fx_and (a := Nat.blt a 11) ee
  obtain ⟨n1, n2, rfl, rfl, hne, v, J', n', τ, k1, k2, k3, k4⟩ := ai_bin_ok s1 s5 (fx_blt e1) gx gy e2
  exact rx_bin hne (ai_nx hgo k1 ⟨k2, s2.ext, ⟨k4, g3.ext⟩, s4.ext, k3, s6⟩ hf)
theorem ai_s13 (hXX : fx_xx X B) (hma : fx_mall fx_mst fx_mt) (hwd : fx_wd) (hgo : ai_gok l X Y B E P h0 d cod K ρ go) (ee : ai_k13 go pc a tl loc stk F J n = true) (hs : ai_st E.1 ρ loc stk F J n cloc cstk h) (hf : ai_hf E P h0 h) : rx_run l X Y B d cod ((pc, 13, a, b, c) :: tl) cloc cstk h K := by
  obtain ⟨s1, s2, s3, s4, s5, s6⟩ := hs
  rcases stk with _ | ⟨x, stk⟩
  · cases ee
  obtain ⟨w, cstk, rfl, gx, g3⟩ := ai_vl_cons s3
  obtain ⟨e1, e2⟩ := fx_and (a := Nat.blt a 4) ee
  have e1 := fx_blt e1
  obtain ⟨n1, rfl, k5, k6⟩ := ai_un_ok s1 s5 e1 gx e2
  rcases (by omega : a < 3 ∨ a = 3) with q | rfl
  · obtain ⟨v, J', n', τ, k1, k2, k3, k4⟩ := k5 q
    exact rx_un q (ai_nx hgo k1 ⟨k2, s2.ext, ⟨k4, g3.ext⟩, s4.ext, k3, s6⟩ hf)
  · exact rx_i2l (fun m => ai_nx0 hgo (k6 rfl) ⟨s1, s2, ⟨⟨m, rfl, trivial⟩, g3⟩, s4, s5, s6⟩ hf)
theorem ai_s7 (hXX : fx_xx X B) (hma : fx_mall fx_mst fx_mt) (hwd : fx_wd) (hgo : ai_gok l X Y B E P h0 d cod K ρ go) (ee : ai_k7 go pc a b tl loc stk F J n = true) (hs : ai_st E.1 ρ loc stk F J n cloc cstk h) (hf : ai_hf E P h0 h) : rx_run l X Y B d cod ((pc, 7, a, b, c) :: tl) cloc cstk h K := by
  refine rx_one hXX hma hwd ?_
  show fx_k7 (rx_go l X Y B d cod K) pc a b tl cloc cstk 0 0 h [] = true
  obtain ⟨s1, s2, s3, s4, s5, s6⟩ := hs
  unfold ai_k7 at ee
  cases hl : fx_look loc a with
  | none => rw [hl] at ee; cases ee
  | some v =>
    rw [hl] at ee
    simp only at ee
    obtain ⟨e1, e2⟩ := fx_and ee
    obtain ⟨e3, e4⟩ := fx_and e1
    obtain ⟨w, g1, g2⟩ := s2 _ (ai_look_mem hl)
    obtain ⟨n1, n2, rfl, e5, -, w', J', n', τ, k1, k2, k3, k4⟩ := ai_bin_ok (o := 0) s1 s5 (by decide) g2 (y := fc b) (u := fc b) ⟨fx_blt e4, rfl⟩ e2
    cases e5
    have e6 : rx_n (fx_op 0 (Int32.ofNat n1) (Int32.ofNat b)) = Nat.mod (Nat.add n1 b) 4294967296 := by
      show rx_n (Int32.ofNat n1 + Int32.ofNat b) = _
      rw [← fx_o_add]
      unfold rx_n
      rw [fx_z_of]
      exact ai_b_b (Nat.mod_lt _ (by decide))
    rw [e6] at k4
    obtain ⟨loc', cloc', j1, j2, j3⟩ := ai_store (ai_lm.ext s2) k4 k1
    unfold fx_k7
    rw [g1]
    show fx_val (fc (Nat.mod (Nat.add n1 b) 4294967296)) (fun w => fx_store cloc a w (fun loc => fx_nx (fun t => rx_go l X Y B d cod K t loc cstk 0 0 h []) pc 3 tl)) = true
    rw [fx_val_eq, j3]
    exact ai_nx hgo j1 ⟨k2, j2, s3.ext, s4.ext, k3, s6⟩ hf
end AIS
