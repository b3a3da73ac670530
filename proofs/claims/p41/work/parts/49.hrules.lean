/-! rules for the heap and for calls -/
theorem gv_int {h : fx_H} {p lo hi : Nat} (hI : ai_inv ai_T0 h) (e : ai_tab ai_T0 p = some (.inr (.inl (lo, hi)))) : ai_pl h p = some (fc (gv h p)) ∧ gv h p < 4294967296 ∧ lo ≤ fx_b (gv h p) ∧ fx_b (gv h p) ≤ hi := by
  obtain ⟨w, h1, n, h2, h3, h4, h5⟩ := ai_tab_ok hI e
  subst h2
  have e1 : gv h p = n := by
    unfold gv
    rw [h1]
  rw [e1]
  exact ⟨h1, h3, h4, h5⟩
/-- not below 0 -/
theorem gv_nat {h : fx_H} {p lo hi : Nat} (hI : ai_inv ai_T0 h) (e : ai_tab ai_T0 p = some (.inr (.inl (lo + 2147483648, hi + 2147483648)))) (hh : hi < 2147483648) : ai_pl h p = some (fc (gv h p)) ∧ lo ≤ gv h p ∧ gv h p ≤ hi := by
  obtain ⟨h1, h2, h3, h4⟩ := gv_int hI e
  have e2 : fx_b (gv h p) = (gv h p + 2147483648) % 4294967296 := rfl
  exact ⟨h1, by omega, by omega⟩
theorem gv_ref {h : fx_H} {p k : Nat} (hI : ai_inv ai_T0 h) (e : ai_tab ai_T0 p = some (.inr (.inr [some k]))) : ai_pl h p = some (fr k) := by
  unfold ai_tab at e
  cases hc : ai_cell ai_T0 (Nat.div p 4096) with
  | none => rw [hc] at e; cases e
  | some q =>
    rw [hc] at e
    rcases q with ⟨ci, fs⟩ | ⟨ty, len, L⟩
    · simp only at e
      obtain ⟨ws, k1, k2⟩ := ai_obj hI hc
      rw [fx_nth_eq] at e
      obtain ⟨w, j1, o, j2, j3⟩ := k2 _ _ e
      have : o = some k := by simpa using j3
      subst this
      subst j2
      unfold ai_pl
      rw [show fx_hget h (p / 4096) = _ from k1]
      exact j1
    · simp only at e
      cases e1 : Nat.blt (Nat.mod p 4096) len with
      | false => rw [e1, fx_if_f] at e; cases e
      | true =>
        rw [e1, fx_if_t] at e
        cases e2 : Nat.beq ty 3 with
        | true => rw [e2, fx_if_t] at e; cases e
        | false =>
          rw [e2, fx_if_f] at e
          cases e3 : fx_nth L (Nat.mod (Nat.mod p 4096) L.length) with
          | none => rw [e3] at e; cases e
          | some q => rw [e3] at e; cases e
/-- one place has changed -/
def ru_upd (h h' : fx_H) (p : Nat) (v : fx_V) : Prop := ai_pl h' p = some v ∧ ∀ q, q ≠ p → ai_pl h' q = ai_pl h q
theorem ru_upd.at {h h' : fx_H} {p x : Nat} (hu : ru_upd h h' p (fc x)) : gv h' p = x := by
  unfold gv
  rw [hu.1]
theorem ru_upd.off {h h' : fx_H} {p : Nat} {v : fx_V} (hu : ru_upd h h' p v) {q : Nat} (hq : q ≠ p) : gv h' q = gv h q := gv_fr (hu.2 q hq)
theorem ru_upd.fr {h h' : fx_H} {p : Nat} {v : fx_V} (hu : ru_upd h h' p v) {m : ai_M} (hm : ai_mem m.1 p = true ∨ ai_mem m.2 (p / 4096) = true) : ai_fr m h h' := fun q h1 h2 => hu.2 q (fun e => by
  subst e
  rcases hm with hm | hm
  · rw [hm] at h1; cases h1
  · rw [hm] at h2; cases h2)
section RV
variable {l : Launch} {X : fx_X} {Y : fx_Y} {B : fx_B} {d : Nat} {cod : List fx_I} {K : rx_K} {loc : fx_L} {stk : List fx_V} {h : fx_H} {pc a b c nx : Nat}
/-- a field of an object of the table -/
theorem w_get {r : Nat} {fs : List ai_F} {v : fx_V} (he : ai_env X B) (hu : ru_u cod = true) (hI : ai_inv ai_T0 h) (hat : ru_e cod pc = some (1, a, b, c, nx)) (hl : nx = pc + (2 + 1)) (hc : ai_cell ai_T0 r = some (.inl (b, fs))) (h4 : Nat.blt c 4096 = true) (hp : ai_pl h (r * 4096 + c) = some v) (k : ru l X Y B d cod nx loc (v :: stk) h K) : ru l X Y B d cod pc loc (fr r :: stk) h K := ru_step he hu hat (fun tl ht => by
  show fx_k1 (rx_go l X Y B d cod K) pc b c tl loc (fr r :: stk) 0 0 h [] = true
  obtain ⟨ws, k1, -⟩ := ai_obj hI hc
  rw [ai_pl_obj k1 (fx_blt h4)] at hp
  simp only [fx_k1, k1, Nat.beq_refl, Bool.true_and]
  rw [show fx_nth ws c = some v by rw [fx_nth_eq]; exact hp]
  exact ru_nx ht hl k)
theorem w_put {r x lo hi : Nat} {fs : List ai_F} (he : ai_env X B) (hu : ru_u cod = true) (hI : ai_inv ai_T0 h) (hat : ru_e cod pc = some (14, a, b, c, nx)) (hl : nx = pc + (2 + 1)) (hc : ai_cell ai_T0 r = some (.inl (b, fs))) (hs : fx_nth fs (c / 8) = some (.inr (.inl (lo, hi)))) (ht8 : c % 8 = 0) (h4 : Nat.blt (c / 8) 4096 = true) (hx : x < 4294967296) (h1 : lo ≤ fx_b x) (h2 : fx_b x ≤ hi) (k : ∀ h', ru_upd h h' (r * 4096 + c / 8) (fc x) → ai_inv ai_T0 h' → ru l X Y B d cod nx loc stk h' K) : ru l X Y B d cod pc loc (fc x :: fr r :: stk) h K := ru_step he hu hat (fun tl ht => by
  show fx_k14 (rx_go l X Y B d cod K) pc b c tl loc (fc x :: fr r :: stk) 0 0 h [] = true
  obtain ⟨ws, k1, k2⟩ := ai_obj hI hc
  have h4 := fx_blt h4
  rw [fx_nth_eq] at hs
  obtain ⟨w0, u1, -⟩ := k2 _ _ hs
  have hlt : c / 8 < ws.length := (List.getElem?_eq_some_iff.mp u1).1
  obtain ⟨h', f1, f3, f4, f5⟩ := fw_hset (.inr (.inl (b, ws.set (c / 8) (fc x)))) k1
  have hfit : fx_fit (Nat.mod c 8) (fc x) = true := by
    rw [show Nat.mod c 8 = 0 from ht8]
    rfl
  simp only [fx_k14, k1, Nat.beq_refl, hfit, Bool.true_and]
  rw [fw_put (fc x) ws (Nat.div c 8) hlt, show Nat.div c 8 = c / 8 from rfl, f5]
  have hpl : ai_pl h' (r * 4096 + c / 8) = some (fc x) := by
    rw [ai_pl_obj f3 h4, List.getElem?_set_self hlt]
  have hoff : ∀ p, p ≠ r * 4096 + c / 8 → ai_pl h' p = ai_pl h p := fun p hp => by
    by_cases hq : p / 4096 = r
    · have hp2 : p % 4096 ≠ c / 8 := fun t => hp (by omega)
      unfold ai_pl
      rw [hq, f3, k1]
      simp only
      rw [List.getElem?_set_ne (Ne.symm hp2)]
    · exact ai_pl_off f4 hq
  refine ru_nx ht hl (k h' ⟨hpl, hoff⟩ ?_)
  refine ai_inv_set hI f3 f4 (fun c2 hc2 => ?_)
  rw [hc] at hc2
  cases hc2
  refine ⟨rfl, fun i s hi => ?_⟩
  by_cases hq : i = c / 8
  · subst hq
    rw [hs] at hi
    cases hi
    exact ⟨fc x, List.getElem?_set_self hlt, x, rfl, hx, h1, h2⟩
  · obtain ⟨w2, z1, z2⟩ := k2 i s hi
    exact ⟨w2, by rw [List.getElem?_set_ne (Ne.symm hq)]; exact z1, z2⟩)
/-- a load from an array of the table -/
theorem w_ald {r i ty len : Nat} {L : List (Nat × Nat)} (he : ai_env X B) (hu : ru_u cod = true) (hI : ai_inv ai_T0 h) (hat : ru_e cod pc = some (6, a, b, c, nx)) (hl : nx = pc + (0 + 1)) (hc : ai_cell ai_T0 r = some (.inr (ty, len, L))) (hty : (fx_aty a ty && (!(Nat.beq ty 3) && Nat.blt len 4096)) = true) (hi : i < len) (k : ru l X Y B d cod nx loc (fc (gv h (r * 4096 + i)) :: stk) h K) : ru l X Y B d cod pc loc (fc i :: fr r :: stk) h K := ru_step he hu hat (fun tl ht => by
  obtain ⟨t1, t2⟩ := fx_and hty
  obtain ⟨t3, t4⟩ := fx_and t2
  have t4 := fx_blt t4
  have t5 : Nat.beq ty 3 = false := by
    cases hb : Nat.beq ty 3 with
    | true => rw [hb] at t3; cases t3
    | false => rfl
  obtain ⟨u, k1, k2⟩ := ai_arr hI hc
  have k3 := k2 i hi
  rw [if_neg (fx_bnq t5)] at k3
  obtain ⟨q, -, m, e1, -⟩ := k3
  have hg : gv h (r * 4096 + i) = m := by
    unfold gv
    rw [ai_pl_arr k1 (by omega) hi, e1]
  rw [hg] at k
  show fx_ld a h [] r i (fun v => fx_nx (fun t => rx_go l X Y B d cod K t loc (v :: stk) 0 0 h []) pc 1 tl) = true
  unfold fx_ld
  rw [k1]
  simp only
  rw [t1, show Nat.blt i len = true from rx_ble hi, Bool.true_and, Bool.true_and]
  rw [fx_aget_def] at e1
  cases hk : fx_look u i with
  | none =>
    rw [hk] at e1
    simp only at e1 ⊢
    rw [e1]
    exact ru_nx ht hl k
  | some v =>
    rw [hk] at e1
    simp only at e1 ⊢
    subst e1
    rw [t5]
    exact ru_nx ht hl k)
/-- the value of an array's place keeps to the table -/
theorem gv_arr {r i ty len : Nat} {L : List (Nat × Nat)} (hI : ai_inv ai_T0 h) (hc : ai_cell ai_T0 r = some (.inr (ty, len, L))) (hty : ty ≠ 3) (h4 : len < 4096) (hi : i < len) : ∃ q, L[i % L.length]? = some q ∧ gv h (r * 4096 + i) < 4294967296 ∧ q.1 ≤ fx_b (gv h (r * 4096 + i)) ∧ fx_b (gv h (r * 4096 + i)) ≤ q.2 ∧ ai_pl h (r * 4096 + i) = some (fc (gv h (r * 4096 + i))) := by
  obtain ⟨u, k1, k2⟩ := ai_arr hI hc
  have k3 := k2 i hi
  rw [if_neg hty] at k3
  obtain ⟨q, q1, m, e1, e2, e3, e4⟩ := k3
  have hp := ai_pl_arr k1 (i := i) (by omega) hi
  have hg : gv h (r * 4096 + i) = m := by
    unfold gv
    rw [hp, e1]
  rw [hg]
  exact ⟨q, q1, e2, e3, e4, by rw [hp, e1]⟩
theorem ru_aset {r i ty len x : Nat} {L : List (Nat × Nat)} {u : List (Nat × fx_V)} {q : Nat × Nat} (hI : ai_inv ai_T0 h) (hc : ai_cell ai_T0 r = some (.inr (ty, len, L))) (k1 : fx_hget h r = some (.inr (.inr (ty, len, u)))) (k2 : ai_ao ty len L u) (h4 : len < 4096) (ht3 : ty ≠ 3) (hi : i < len) (hq : L[i % L.length]? = some q) (hx : x < 4294967296) (h1 : q.1 ≤ fx_b x) (h2 : fx_b x ≤ q.2) (g : fx_H → Bool) (k : ∀ h', ru_upd h h' (r * 4096 + i) (fc x) → ai_inv ai_T0 h' → g h' = true) : fx_aset ty u i (fc x) (fun u' => fx_hset h r (.inr (.inr (ty, len, u'))) g) = true := by
  obtain ⟨u', a1, a2, a3⟩ := fw_aset ty u i (fc x)
  obtain ⟨h', f1, f3, f4, f5⟩ := fw_hset (.inr (.inr (ty, len, u'))) k1
  rw [a3, f5]
  refine k h' ⟨?_, fun p hp => ?_⟩ ?_
  · rw [ai_pl_arr f3 (by omega) hi, a1]
  · by_cases hq : p / 4096 = r
    · have hq2 : p % 4096 ≠ i := fun t => hp (by omega)
      unfold ai_pl
      rw [hq, f3, k1]
      simp only
      rw [a2 _ hq2]
    · exact ai_pl_off f4 hq
  · refine ai_inv_set hI f3 f4 (fun c2 hc2 => ?_)
    rw [hc] at hc2
    cases hc2
    refine ⟨rfl, rfl, fun j hj => ?_⟩
    by_cases hji : j = i
    · subst hji
      rw [a1, if_neg ht3]
      exact ⟨q, hq, x, rfl, hx, h1, h2⟩
    · rw [a2 j hji]
      exact k2 j hj
/-- a store of an int -/
theorem w_ast {r i len x : Nat} {L : List (Nat × Nat)} {q : Nat × Nat} (he : ai_env X B) (hu : ru_u cod = true) (hI : ai_inv ai_T0 h) (hat : ru_e cod pc = some (8, 0, b, c, nx)) (hl : nx = pc + (0 + 1)) (hc : ai_cell ai_T0 r = some (.inr (0, len, L))) (h4 : Nat.blt len 4096 = true) (hi : i < len) (hq : L[i % L.length]? = some q) (hx : x < 4294967296) (h1 : q.1 ≤ fx_b x) (h2 : fx_b x ≤ q.2) (k : ∀ h', ru_upd h h' (r * 4096 + i) (fc x) → ai_inv ai_T0 h' → ru l X Y B d cod nx loc stk h' K) : ru l X Y B d cod pc loc (fc x :: fc i :: fr r :: stk) h K := ru_step he hu hat (fun tl ht => by
  obtain ⟨u, k1, k2⟩ := ai_arr hI hc
  show fx_sto 0 h r i (fc x) (fun h => fx_nx (fun t => rx_go l X Y B d cod K t loc stk 0 0 h []) pc 1 tl) = true
  unfold fx_sto
  rw [k1]
  simp only
  rw [show fx_aty 0 0 = true from rfl, show Nat.blt i len = true from rx_ble hi, Bool.true_and, Bool.true_and]
  exact ru_aset hI hc k1 k2 (fx_blt h4) (by decide) hi hq hx h1 h2 _ (fun h' e1 e2 => ru_nx ht hl (k h' e1 e2)))
/-- a store of 0 or 1 into booleans -/
theorem w_astb {r i len x : Nat} {L : List (Nat × Nat)} {q : Nat × Nat} (hu : ru_u cod = true) (hI : ai_inv ai_T0 h) (hat : ru_e cod pc = some (8, 1, b, c, nx)) (hl : nx = pc + (0 + 1)) (hc : ai_cell ai_T0 r = some (.inr (2, len, L))) (h4 : Nat.blt len 4096 = true) (hi : i < len) (hq : L[i % L.length]? = some q) (hx : x < 2) (h1 : q.1 ≤ fx_b x) (h2 : fx_b x ≤ q.2) (k : ∀ h', ru_upd h h' (r * 4096 + i) (fc x) → ai_inv ai_T0 h' → ru l X Y B d cod nx loc stk h' K) : ru l X Y B d cod pc loc (fc x :: fc i :: fr r :: stk) h K := ru_raw hu hat (fun tl ht => by
  obtain ⟨u, k1, k2⟩ := ai_arr hI hc
  refine rx_bst k1 (Or.inr rfl) hi (fun z z1 z2 z3 => ?_)
  have := (z3 rfl).2.2 hx
  subst this
  exact ru_aset hI hc k1 k2 (fx_blt h4) (by decide) hi hq z1 h1 h2 _ (fun h' e1 e2 => ru_nx ht hl (k h' e1 e2)))
/-- what a call takes from the stack -/
noncomputable def ru_c (c t : Nat) (stk : List fx_V) : Option (List fx_V × List fx_V) := match fx_mt c with
  | none => none
  | some M => match fx_split M.2.1 stk with
    | none => none
    | some q => fx_if ((Nat.ble (fx_cats q.2) 8 && (Nat.beq M.2.2.1 0 && Nat.beq M.2.2.2.1 0)) && ((Nat.ble (fx_cats q.1) M.2.2.2.2.2 && Nat.beq M.2.2.2.2.1 t) && !(M.1.isEmpty))) (some q) none
/-- the receiver is the reference's object -/
theorem w_callM {Kc : rx_K} {as' st : List fx_V} (he : ai_env X B) (hu : ru_u cod = true) (hI : ai_inv ai_T0 h) (hat : ru_e cod pc = some (9, a, b, c, nx)) (hl : nx = pc + (2 + 1)) (ha : Nat.blt a 5 = true) (hs : ru_c c 12 stk = some (fr 67 :: as', st)) (hk : rx_met l X Y B c d (fr 67 :: as') h Kc) (k : ∀ v h', Kc v h' → ru l X Y B (d + 1) cod nx loc (fx_ret st v) h' K) : ru l X Y B (d + 1) cod pc loc stk h K := ru_raw hu hat (fun tl ht => by
  unfold ru_c at hs
  cases hm : fx_mt c with
  | none => rw [hm] at hs; cases hs
  | some M =>
    rw [hm] at hs
    simp only at hs
    cases hp : fx_split M.2.1 stk with
    | none => rw [hp] at hs; cases hs
    | some q =>
      rw [hp] at hs
      simp only at hs
      cases hb : ((Nat.ble (fx_cats q.2) 8 && (Nat.beq M.2.2.1 0 && Nat.beq M.2.2.2.1 0)) && ((Nat.ble (fx_cats q.1) M.2.2.2.2.2 && Nat.beq M.2.2.2.2.1 12) && !(M.1.isEmpty))) with
      | false => rw [hb, fx_if_f] at hs; cases hs
      | true =>
        rw [hb, fx_if_t] at hs
        cases hs
        obtain ⟨b1, b2⟩ := fx_and hb
        obtain ⟨b3, b4⟩ := fx_and b1
        obtain ⟨b5, b6⟩ := fx_and b4
        obtain ⟨b7, b8⟩ := fx_and b2
        obtain ⟨b9, b10⟩ := fx_and b7
        refine rx_call he.1 he.2.1 hm hp (fx_ble b3) (fx_beq b5) (fx_beq b6) (fun q => by rw [q] at b8; cases b8) (fx_ble b9) ?_ (fx_blt ha) hk (fun v h' e => ru_nx ht hl (k v h' e))
        rw [fx_beq b10]
        obtain ⟨fs, hc⟩ : ∃ fs, ai_cell ai_T0 67 = some (.inl (10, fs)) := ⟨_, rfl⟩
        obtain ⟨ws, k3, -⟩ := ai_obj hI hc
        unfold fx_rcv
        rw [show Nat.beq 12 0 = false from rfl, fx_if_f]
        simp only
        rw [show Nat.beq 12 1 = false from rfl, fx_if_f, show Nat.beq 12 99 = false from rfl, fx_if_f, k3]
        rfl)
theorem w_callS {Kc : rx_K} {as st : List fx_V} (he : ai_env X B) (hu : ru_u cod = true) (hat : ru_e cod pc = some (9, a, b, c, nx)) (hl : nx = pc + (2 + 1)) (ha : Nat.blt a 5 = true) (hs : ru_c c 0 stk = some (as, st)) (hk : rx_met l X Y B c d as h Kc) (k : ∀ v h', Kc v h' → ru l X Y B (d + 1) cod nx loc (fx_ret st v) h' K) : ru l X Y B (d + 1) cod pc loc stk h K := ru_raw hu hat (fun tl ht => by
  unfold ru_c at hs
  cases hm : fx_mt c with
  | none => rw [hm] at hs; cases hs
  | some M =>
    rw [hm] at hs
    simp only at hs
    cases hp : fx_split M.2.1 stk with
    | none => rw [hp] at hs; cases hs
    | some q =>
      rw [hp] at hs
      simp only at hs
      cases hb : ((Nat.ble (fx_cats q.2) 8 && (Nat.beq M.2.2.1 0 && Nat.beq M.2.2.2.1 0)) && ((Nat.ble (fx_cats q.1) M.2.2.2.2.2 && Nat.beq M.2.2.2.2.1 0) && !(M.1.isEmpty))) with
      | false => rw [hb, fx_if_f] at hs; cases hs
      | true =>
        rw [hb, fx_if_t] at hs
        cases hs
        obtain ⟨b1, b2⟩ := fx_and hb
        obtain ⟨b3, b4⟩ := fx_and b1
        obtain ⟨b5, b6⟩ := fx_and b4
        obtain ⟨b7, b8⟩ := fx_and b2
        obtain ⟨b9, b10⟩ := fx_and b7
        refine rx_call he.1 he.2.1 hm hp (fx_ble b3) (fx_beq b5) (fx_beq b6) (fun q => by rw [q] at b8; cases b8) (fx_ble b9) ?_ (fx_blt ha) hk (fun v h' e => ru_nx ht hl (k v h' e))
        rw [fx_beq b10]
        rfl)
/-- a contract out of a run of the method's own code -/
theorem ru_met {M : fx_M} {as : List fx_V} {Kc : rx_K} (hm : fx_mt c = some M) (h0 : fx_to M.1 0 = M.1) (hne : M.1 ≠ []) (k : ru l X Y B d M.1 0 (fx_args as 0) [] h Kc) : rx_met l X Y B c d as h Kc := by
  intro M2 hM2
  rw [hm] at hM2
  cases hM2
  refine ⟨M.1, fun q hq _ => hq, hne, rfl, ?_⟩
  have k : rx_run l X Y B d M.1 (fx_to M.1 0) (fx_args as 0) [] h Kc := k
  rw [h0] at k
  exact k
end RV
