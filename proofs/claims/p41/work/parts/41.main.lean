/-! the analysis is sound -/
def ai_snd (l : Launch) (X : fx_X) (Y : fx_Y) (B : fx_B) (E : ai_E) (P : fx_H → Prop) (f : ai_G) : Prop :=
  (∀ d inl cod loc stk F J n ctx k, f d inl cod [] loc stk F J n ctx k = false) ∧
  ∀ d inl cod at_ loc stk F J n ctx k, f d inl cod at_ loc stk F J n ctx k = true → ∀ (h0 : fx_H) (K : rx_K) (ρ : List Nat), ai_kok E P h0 K inl ρ k → ∀ cloc cstk h, ai_st E.1 ρ loc stk F J n cloc cstk h → ai_hf E P h0 h → (inl = false → ai_ctx l X Y B E P h0 d cod K ρ ctx) → rx_run l X Y B d cod at_ cloc cstk h K
theorem ai_kok.ext {E : ai_E} {P : fx_H → Prop} {h0 : fx_H} {K : rx_K} {inl : Bool} {ρ τ : List Nat} {k : ai_K} (hk : ai_kok E P h0 K inl ρ k) : ai_kok E P h0 K inl (ρ ++ τ) k := fun v F J n ρ' w h e => hk v F J n ρ' w h (fun q => by
  obtain ⟨t, rfl⟩ := e q
  exact ⟨τ ++ t, by rw [List.append_assoc]⟩)
theorem ai_kok.top {E : ai_E} {P : fx_H → Prop} {h0 : fx_H} {K : rx_K} {ρ ρ2 : List Nat} {k : ai_K} (hk : ai_kok E P h0 K false ρ k) : ai_kok E P h0 K false ρ2 k := fun v F J n ρ' w h _ => hk v F J n ρ' w h (fun q => by cases q)
section AIM
variable {l : Launch} {X : fx_X} {Y : fx_Y} {B : fx_B} {E : ai_E} {P : fx_H → Prop} {ih : ai_G}
theorem ai_gok_of (hih : ai_snd l X Y B E P ih) {d : Nat} {inl : Bool} {cod : List fx_I} {ctx : List Nat} {k : ai_K} {h0 : fx_H} {K : rx_K} {ρ : List Nat} (hk : ai_kok E P h0 K inl ρ k) (hc : inl = false → ai_ctx l X Y B E P h0 d cod K ρ ctx) : ai_gok l X Y B E P h0 d cod K ρ (fun t loc stk F J n => ih d inl cod t loc stk F J n ctx k) :=
  ⟨fun _ _ _ _ _ => hih.1 _ _ _ _ _ _ _ _ _ _, fun at_ loc stk F J n τ cloc cstk h e hs hf => hih.2 _ _ _ _ _ _ _ _ _ _ _ e h0 K (ρ ++ τ) hk.ext cloc cstk h hs hf (fun q => (hc q).ext)⟩
theorem ai_each_ok {ρ : List Nat} {J : ai_J} {v : fx_V} {m lo : Nat} {k : ai_J → Bool} (hj : ai_j ρ J) (hv : ai_v ρ v (fc m)) : ∀ {n : Nat}, ai_each J v lo n k = true → lo ≤ fx_b m → fx_b m ≤ lo + n → ∃ J', k J' = true ∧ ai_j ρ J' := by
  intro n
  induction n with
  | zero => intro h h1 h2; exact ai_ref_ok hj hv h1 (by omega) h
  | succ n ih =>
    intro h h1 h2
    obtain ⟨e1, e2⟩ := fx_and (a := ai_ref J v (lo + (n + 1)) (lo + (n + 1)) k) (b := ai_each J v lo n k) h
    by_cases hq : fx_b m = lo + (n + 1)
    · exact ai_ref_ok hj hv (by omega) (by omega) e1
    · exact ih e2 h1 (by omega)
theorem ai_rank {E : ai_E} {A : ai_A} {ρ : List Nat} {loc F cloc : fx_L} {h : fx_H} {v : fx_V} (s2 : ai_lm ρ loc (fx_look cloc)) (s4 : ai_l ρ F (ai_pl h)) (hl : fx_look (fx_if (Nat.beq A.1.1 0) loc F) A.1.2.1 = some v) : ∃ w, ai_rk A cloc h = some w ∧ ai_v ρ v w := by
  unfold ai_rk
  cases hc : Nat.beq A.1.1 0 with
  | true =>
    rw [hc, fx_if_t] at hl
    rw [fx_if_t]
    exact s2 _ (ai_look_mem hl)
  | false =>
    rw [hc, fx_if_f] at hl
    rw [fx_if_f]
    exact s4 _ _ hl
theorem ai_int_num {ρ : List Nat} {v w : fx_V} (hi : fx_int v = true) (hv : ai_v ρ v w) : ∃ m, w = fc m ∧ m < 4294967296 := by
  rcases v with m | i | o | m
  · exact ⟨m, hv.2, hv.1⟩
  · obtain ⟨x, h1, h2, h3⟩ := hv
    exact ⟨_, h3, rx_b_lt _⟩
  · cases hi
  · cases hi
/-- a loop's head, reached for the first time or again -/
theorem ai_pick_ok (hih : ai_snd l X Y B E P ih) {d : Nat} {cod tl : List fx_I} {loc F : fx_L} {J : ai_J} {n : Nat} {ctx : List Nat} {k : ai_K} {h0 : fx_H} {K : rx_K} {ρ : List Nat} {cloc : fx_L} {h : fx_H} {pc : Nat} (hk : ai_kok E P h0 K false ρ k) (hc : ai_ctx l X Y B E P h0 d cod K ρ ctx) (hs : ai_st E.1 ρ loc [] F J n cloc [] h) (hf : ai_hf E P h0 h) (htl : ∀ q ∈ tl, q ∈ cod) (hpc : fx_pc tl = pc) : ∀ (As : List ai_A) (i : Nat), i + As.length < 64 → (∀ j A, As[j]? = some A → (E.2.2.2.2.2 pc)[i + j]? = some A) → ai_pick ih d cod tl loc F J ctx k As (pc * 64 + i) = true → rx_run l X Y B d cod tl cloc [] h K := by
  intro As
  induction As with
  | nil => intro i _ _ e; cases e
  | cons A As ihp =>
    intro i hlen hAs e
    obtain ⟨s1, s2, s3, s4, s5, s6⟩ := id hs
    have hlen : i + (As.length + 1) < 64 := hlen
    have hA : (E.2.2.2.2.2 pc)[i]? = some A := hAs 0 A (by rw [List.getElem?_cons_zero])
    have rest : ai_pick ih d cod tl loc F J ctx k As (pc * 64 + i + 1) = true → rx_run l X Y B d cod tl cloc [] h K := fun e2 => ihp (i + 1) (by omega) (fun j A2 hj => by
      have := hAs (j + 1) A2 (by rw [List.getElem?_cons_succ]; exact hj)
      rwa [show i + (j + 1) = i + 1 + j by omega] at this) e2
    have lk : ∀ i v, fx_look loc i = some v → ∃ w, fx_look cloc i = some w ∧ ai_v ρ v w := fun i v hv => s2 _ (ai_look_mem hv)
    have e : (match ai_idx (pc * 64 + i) ctx 0 with
      | some g => fx_if (ai_okr g J loc A.2.1 && ai_okr g J F A.2.2) (ai_back loc F J A g) (ai_pick ih d cod tl loc F J ctx k As (pc * 64 + i + 1))
      | none => fx_if (ai_okr ctx.length J loc A.2.1 && ai_okr ctx.length J F A.2.2) (ai_enter ih d cod tl loc F ctx k A (pc * 64 + i)) (ai_pick ih d cod tl loc F J ctx k As (pc * 64 + i + 1))) = true := e
    cases hx : ai_idx (pc * 64 + i) ctx 0 with
    | some g =>
      rw [hx] at e
      simp only at e
      cases ho : (ai_okr g J loc A.2.1 && ai_okr g J F A.2.2) with
      | false => rw [ho, fx_if_f] at e; exact rest e
      | true =>
        rw [ho, fx_if_t] at e
        obtain ⟨o1, o2⟩ := fx_and ho
        have r1 := ai_okr_ok s5 lk o1
        have r2 := ai_okr_ok s5 s4 o2
        obtain ⟨j, e1, e2⟩ := ai_idx_ok hx
        rw [Nat.zero_add] at e1
        subst e1
        obtain ⟨y, g1, g2⟩ := hc.2 _ _ e2
        unfold ai_back at e
        cases hl : fx_look (fx_if (Nat.beq A.1.1 0) loc F) A.1.2.1 with
        | none => rw [hl] at e; cases e
        | some v =>
          rw [hl] at e
          obtain ⟨e3, e4⟩ := fx_and (a := fx_int v) e
          obtain ⟨w, k1, k2⟩ := ai_rank (E := E) s2 s4 hl
          obtain ⟨m, rfl, hm⟩ := ai_int_num e3 k2
          refine g2 pc i A rfl (by omega) hA (fx_b m) cloc h tl ?_ ⟨r1, r2, ⟨m, k1, hm, rfl⟩, s6, hf⟩ hpc
          unfold ai_dec at e4
          rcases v with x | x | x | x
          · cases e4
          · simp only at e4
            obtain ⟨x0, q1, q2, q3⟩ := k2
            have q3 := Sum.inl.inj q3
            rw [q3]
            cases hch : ai_ch J g 6 x with
            | none => rw [hch] at e4; cases e4
            | some t =>
              rw [hch] at e4
              simp only at e4
              obtain ⟨z, z1, z2⟩ := ai_ch_ok s5 hch q1
              have : z = y := Option.some.inj (z1.symm.trans g1)
              subst this
              rw [ai_b_b q2]
              unfold ai_ms
              cases hd : Nat.beq A.1.2.2 0 with
              | true =>
                rw [hd, fx_if_t] at e4
                have e4 := fx_blt e4
                rw [if_pos (fx_beq hd), if_pos (fx_beq hd)]
                omega
              | false =>
                rw [hd, fx_if_f] at e4
                have e4 := fx_blt e4
                rw [if_neg (fx_bnq hd), if_neg (fx_bnq hd)]
                omega
          · cases e4
          · cases e4
    | none =>
      rw [hx] at e
      simp only at e
      cases ho : (ai_okr ctx.length J loc A.2.1 && ai_okr ctx.length J F A.2.2) with
      | false => rw [ho, fx_if_f] at e; exact rest e
      | true =>
        rw [ho, fx_if_t] at e
        obtain ⟨o1, o2⟩ := fx_and ho
        have r1 := ai_okr_ok s5 lk o1
        have r2 := ai_okr_ok s5 s4 o2
        unfold ai_enter at e
        cases hl : fx_look (fx_if (Nat.beq A.1.1 0) loc F) A.1.2.1 with
        | none => rw [hl] at e; cases e
        | some v =>
          rw [hl] at e
          obtain ⟨e3, e4⟩ := fx_and (a := fx_int v) e
          obtain ⟨w, k1, k2⟩ := ai_rank (E := E) s2 s4 hl
          obtain ⟨m, rfl, hm⟩ := ai_int_num e3 k2
          -- every state of the head runs, by what falls
          have claim : ∀ N y, ai_ms A.1.2.2 y < N → ∀ cloc h, ai_hd E P h0 A ctx.length ρ y cloc h → rx_run l X Y B d cod tl cloc [] h K := by
            intro N
            induction N with
            | zero => intro y hy; omega
            | succ N ihN =>
              intro y hy cloc h hh
              obtain ⟨t1, t2, ⟨m, t3, t4, t5⟩, t6, t7⟩ := hh
              have hlen2 := hc.1
              have hG : (ρ.take ctx.length).length = ctx.length := by rw [List.length_take]; omega
              have hGb : ∀ b, b < ctx.length → (ρ.take ctx.length ++ [y])[b]? = ρ[b]? := fun b hb => by
                rw [List.getElem?_append_left (by omega), List.getElem?_take_of_lt hb]
              have hGg : (ρ.take ctx.length ++ [y])[ctx.length]? = some y := by
                rw [List.getElem?_append_right (by omega), hG, Nat.sub_self]; rfl
              have hGl : (ρ.take ctx.length ++ [y]).length = ctx.length + 1 := by rw [List.length_append, hG]; rfl
              -- the locals
              have own1 : ∀ q ∈ A.2.1, q.1 + 1 = fx_if (Nat.beq A.1.1 0) (A.1.2.1 + 1) 0 → ∃ m, fx_look cloc q.1 = some (fc m) ∧ m < 4294967296 ∧ (ρ.take ctx.length ++ [y])[ctx.length]? = some (fx_b m) := fun q hq e5 => by
                unfold ai_rk at t3
                cases hb : Nat.beq A.1.1 0 with
                | true =>
                  rw [hb, fx_if_t] at e5 t3
                  have : q.1 = A.1.2.1 := by omega
                  rw [this]
                  exact ⟨m, t3, t4, by rw [hGg, t5]⟩
                | false => rw [hb, fx_if_f] at e5; omega
              obtain ⟨L, J1, n1, τ1, j1, j2, j3, j4⟩ := ai_mkl_ok (f := fx_look cloc) hGl (fun q hq => by cases hq) (t1.sub hGb) own1 e4
              have hGb1 : ∀ b, b < ctx.length → (ρ.take ctx.length ++ [y] ++ τ1)[b]? = ρ[b]? := fun b hb => by
                rw [List.getElem?_append_left (by omega)]; exact hGb b hb
              have own2 : ∀ q ∈ A.2.2, q.1 + 1 = fx_if (Nat.beq A.1.1 0) 0 (A.1.2.1 + 1) → ∃ m, ai_pl h q.1 = some (fc m) ∧ m < 4294967296 ∧ (ρ.take ctx.length ++ [y] ++ τ1)[ctx.length]? = some (fx_b m) := fun q hq e5 => by
                unfold ai_rk at t3
                cases hb : Nat.beq A.1.1 0 with
                | true => rw [hb, fx_if_t] at e5; omega
                | false =>
                  rw [hb, fx_if_f] at e5 t3
                  have : q.1 = A.1.2.1 := by omega
                  rw [this]
                  exact ⟨m, t3, t4, by rw [ai_ext hGg, t5]⟩
              obtain ⟨F2, J2, n2, τ2, i1, i2, i3, i4⟩ := ai_mkl_ok (f := ai_pl h) j2 j3 (t2.sub hGb1) own2 j1
              have hb2 : ∀ b, b < ctx.length → (ρ.take ctx.length ++ [y] ++ τ1 ++ τ2)[b]? = ρ[b]? := fun b hb => by
                rw [List.getElem?_append_left (by rw [j2]; rw [List.length_append] at j2; omega)]; exact hGb1 b hb
              have hg2 : (ρ.take ctx.length ++ [y] ++ τ1 ++ τ2)[ctx.length]? = some y := ai_ext (ai_ext hGg)
              refine hih.2 _ _ _ _ _ _ _ _ _ _ _ i1 h0 K (ρ.take ctx.length ++ [y] ++ τ1 ++ τ2) hk.top cloc [] h ⟨i2, j4.ext, trivial, fun i v hv => i4 _ (ai_look_mem hv), i3, t6⟩ t7 (fun _ => ⟨?_, fun g x hx2 => ?_⟩)
              · simp only [List.length_append, hG, List.length_cons, List.length_nil]
                omega
              · rcases Nat.lt_or_ge g ctx.length with hg | hg
                · rw [List.getElem?_append_left hg] at hx2
                  obtain ⟨y0, g1, g2⟩ := hc.2 g x hx2
                  refine ⟨y0, by rw [hb2 g hg]; exact g1, fun pc2 i2 A2 q1 q2 q3 y' cloc' h' at_ q4 q5 q6 => g2 pc2 i2 A2 q1 q2 q3 y' cloc' h' at_ q4 (q5.sub (fun b hb => (hb2 b (by omega)).symm)) q6⟩
                · have hgl : g < (ctx ++ [pc * 64 + i]).length := (List.getElem?_eq_some_iff.mp hx2).1
                  rw [List.length_append] at hgl
                  have hgl : g < ctx.length + 1 := hgl
                  have : g = ctx.length := by omega
                  subst this
                  rw [List.getElem?_append_right (Nat.le_refl _), Nat.sub_self] at hx2
                  have hx2 : pc * 64 + i = x := Option.some.inj hx2
                  refine ⟨y, hg2, fun pc2 i2 A2 q1 q2 q3 y' cloc' h' at_ q4 q5 q6 => ?_⟩
                  have : pc2 = pc := by omega
                  subst this
                  have : i2 = i := by omega
                  subst this
                  rw [hA] at q3
                  cases q3
                  exact rx_same (at2 := tl) (by rw [hpc, q6]) htl (ihN y' (by omega) cloc' h' (q5.sub (fun b hb => (hb2 b hb).symm)))
          exact claim (ai_ms A.1.2.2 (fx_b m) + 1) (fx_b m) (Nat.lt_succ_self _) cloc h ⟨r1, r2, ⟨m, k1, hm, rfl⟩, s6, hf⟩
theorem ai_s28 (hXX : fx_xx X B) (hma : fx_mall fx_mst fx_mt) (hwd : fx_wd) (hwa : rx_wa) (hih : ai_snd l X Y B E P ih) {d : Nat} {inl : Bool} {cod tl : List fx_I} {loc F : fx_L} {stk : List fx_V} {J : ai_J} {n : Nat} {ctx : List Nat} {k : ai_K} {h0 : fx_H} {K : rx_K} {ρ : List Nat} {cloc : fx_L} {cstk : List fx_V} {h : fx_H} {pc a b c : Nat} (hk : ai_kok E P h0 K inl ρ k) (hc : inl = false → ai_ctx l X Y B E P h0 d cod K ρ ctx) (hs : ai_st E.1 ρ loc stk F J n cloc cstk h) (hf : ai_hf E P h0 h) (ee : ai_k28 E ih d inl cod pc b tl loc stk F J n ctx k = true) : rx_run l X Y B d cod ((pc, 28, a, b, c) :: tl) cloc cstk h K := by
  unfold ai_k28 at ee
  refine rx_of_sub (fun hsub => ?_)
  have htl : ∀ q ∈ tl, q ∈ cod := fun q hq => hsub q (List.mem_cons_of_mem _ hq)
  obtain ⟨s1, s2, s3, s4, s5, s6⟩ := id hs
  cases hb : Nat.beq b 1 with
  | true =>
    rw [hb, fx_if_t] at ee
    rcases stk with _ | ⟨v, stk⟩
    · cases ee
    obtain ⟨w, cst, rfl, g1, g2⟩ := ai_vl_cons s3
    obtain ⟨m, lo, hi, rfl, hm, h1, h2, ee, -⟩ := ai_rng_ok g1 s5 ee
    obtain ⟨-, e2⟩ := fx_and ee
    obtain ⟨J', j1, j2⟩ := ai_each_ok s5 g1 e2 h1 (by omega)
    obtain ⟨r, t, rfl, q1, q2⟩ := fx_nx_ok j1
    exact rx_skip q1 (hih.2 _ _ _ _ _ _ _ _ _ _ _ q2 h0 K ρ hk cloc _ h ⟨s1, s2, s3, s4, j2, s6⟩ hf hc)
  | false =>
    rw [hb, fx_if_f] at ee
    rcases stk with _ | ⟨v, stk⟩
    · have := ai_vl_nil s3
      subst this
      obtain ⟨e1, e2⟩ := fx_and (a := (!inl && Nat.blt (E.2.2.2.2.2 pc).length 64)) ee
      obtain ⟨e3, e4⟩ := fx_and e1
      have hi : inl = false := by simpa using e3
      subst hi
      obtain ⟨r, t, rfl, q1, q2⟩ := fx_nx_ok e2
      exact rx_skip q1 (ai_pick_ok hih hk (hc rfl) hs hf htl q1 (E.2.2.2.2.2 pc) 0 (by have := fx_blt e4; omega) (fun j A hj => by rw [Nat.zero_add]; exact hj) q2)
    · cases ee
theorem ai_s9 (hXX : fx_xx X B) (hma : fx_mall fx_mst fx_mt) (hwd : fx_wd) (hwa : rx_wa) (hih : ai_snd l X Y B E P ih) (hcon : ∀ c I, I ∈ E.2.1 c → ai_con l X Y B E.1 P c I) {d : Nat} {cod tl : List fx_I} {loc F : fx_L} {stk : List fx_V} {J : ai_J} {n : Nat} {h0 : fx_H} {K : rx_K} {ρ : List Nat} {cloc : fx_L} {cstk : List fx_V} {h : fx_H} {pc a b c : Nat} {go : ai_O} (hgo : ai_gok l X Y B E P h0 d cod K ρ go) (hs : ai_st E.1 ρ loc stk F J n cloc cstk h) (hf : ai_hf E P h0 h) (ee : (Nat.blt a 5 && ai_call E ih d (fun stk F J n => fx_nx (fun t => go t loc stk F J n) pc 3 tl) c stk F J n) = true) : rx_run l X Y B d cod ((pc, 9, a, b, c) :: tl) cloc cstk h K := by
  obtain ⟨e0, ee⟩ := fx_and ee
  have ha5 := fx_blt e0
  obtain ⟨s1, s2, s3, s4, s5, s6⟩ := id hs
  unfold ai_call at ee
  cases d with
  | zero => cases ee
  | succ d =>
    simp only at ee
    cases hm : fx_mt c with
    | none => rw [hm] at ee; cases ee
    | some M =>
      obtain ⟨cod', na, mc, ms, t, nl⟩ := M
      rw [hm] at ee
      simp only at ee
      cases hsp : fx_split na stk with
      | none => rw [hsp] at ee; cases ee
      | some q =>
        obtain ⟨as, st⟩ := q
        rw [hsp] at ee
        simp only at ee
        obtain ⟨e1, e2⟩ := fx_and ee
        obtain ⟨e3, e4⟩ := fx_and e1
        obtain ⟨e5, e6⟩ := fx_and e4
        obtain ⟨e7, e8⟩ := fx_and e6
        obtain ⟨e9, e10⟩ := fx_and e8
        have e3 := fx_ble e3
        have e5 := fx_beq e5
        have e7 := fx_beq e7
        have e9 := fx_ble e9
        obtain ⟨cas, cst, p1, p2, p3⟩ := ai_split s3 hsp
        have hrc : fx_rcv t h cas = true := by
          unfold ai_rcv at e10
          unfold fx_rcv
          cases h00 : Nat.beq t 0 with
          | true => rfl
          | false =>
            rw [h00, fx_if_f] at e10
            rw [fx_if_f]
            rcases as with _ | ⟨v, as⟩
            · cases e10
            rcases v with m | m | (_ | r) | m
            · cases e10
            · cases e10
            · cases e10
            · obtain ⟨w, cas', rfl, k1, k2⟩ := ai_vl_cons p2
              have := ai_isref k1
              subst this
              simp only at e10 ⊢
              cases h99 : Nat.beq t 99 with
              | true =>
                rw [h99, fx_if_t] at e10
                have h1 : Nat.beq t 1 = false := by rw [fx_beq h99]; rfl
                rw [h1, fx_if_f, fx_if_t, e10]
                exact Bool.or_true _
              | false =>
                rw [h99, fx_if_f] at e10
                cases hc : ai_cell E.1 r with
                | none => rw [hc] at e10; cases e10
                | some q =>
                  rw [hc] at e10
                  rcases q with ⟨ci, fs⟩ | q
                  · obtain ⟨e11, e12⟩ := fx_and (a := Nat.beq (ci + 2) t) e10
                    have e12 := fx_ble e12
                    obtain ⟨ws, k3, -⟩ := ai_obj s6 hc
                    have h1 : Nat.beq t 1 = false := by
                      cases hb : Nat.beq t 1 with
                      | true => have := fx_beq hb; omega
                      | false => rfl
                    rw [h1, fx_if_f, fx_if_f, k3]
                    exact e11
                  · cases e10
            · cases e10
        have cont : ∀ (v' : Option fx_V) (w : Option fx_V) (F' : fx_L) (J' : ai_J) (n' : Nat) (τ : List Nat) (h' : fx_H), fx_nx (fun t => go t loc (fx_ret st v') F' J' n') pc 3 tl = true → (ρ ++ τ).length = n' → ai_l (ρ ++ τ) F' (ai_pl h') → ai_j (ρ ++ τ) J' → ai_vo (ρ ++ τ) v' w → ai_inv E.1 h' → ai_hf E P h0 h' → rx_nx l X Y B (d + 1) cod K pc 3 tl cloc (fx_ret cst w) h' := fun v' w F' J' n' τ h' q1 q2 q3 q4 q5 q6 q7 => by
          refine ai_nx hgo q1 ⟨q2, s2.ext, ?_, q3, q4, q6⟩ q7
          cases v' with
          | none => cases w with
            | none => exact p3.ext
            | some w => exact False.elim q5
          | some v' => cases w with
            | none => exact False.elim q5
            | some w => exact ⟨q5, p3.ext⟩
        have hnl : fx_cats cas ≤ nl := by rw [ai_vl_cats p2]; exact e9
        have h8 : fx_cats cst ≤ 8 := by rw [ai_vl_cats p3]; exact e3
        cases hin : E.2.2.1 c with
        | true =>
          rw [hin, fx_if_t] at e2
          have hne : cod' ≠ [] := fun q => by
            subst q
            rw [hih.1] at e2
            cases e2
          refine rx_call (M := (cod', na, mc, ms, t, nl)) hXX hma hm p1 h8 e5 e7 hne hnl hrc ha5 (Kc := fun w h' => ∃ v' F' J' n' τ, fx_nx (fun t => go t loc (fx_ret st v') F' J' n') pc 3 tl = true ∧ (ρ ++ τ).length = n' ∧ ai_l (ρ ++ τ) F' (ai_pl h') ∧ ai_j (ρ ++ τ) J' ∧ ai_vo (ρ ++ τ) v' w ∧ ai_inv E.1 h' ∧ ai_hf E P h0 h') ?_ ?_
          · intro M hM
            rw [hm] at hM
            cases hM
            refine ⟨cod', fun q hq _ => hq, hne, rfl, ?_⟩
            refine hih.2 d true cod' cod' (fx_args as 0) [] F J n [] _ e2 h0 _ ρ ?_ (fx_args cas 0) [] h ⟨s1, ai_args_ok 0 p2, trivial, s4, s5, s6⟩ hf (fun q => by cases q)
            intro v' F' J' n' ρ' w h' q0 q1 q2 q3 q4 q5 q6 q7
            obtain ⟨τ, rfl⟩ := q0 rfl
            exact ⟨v', F', J', n', τ, q1, q3, q4, q5, q2, q6, q7⟩
          · rintro w h' ⟨v', F', J', n', τ, q1, q2, q3, q4, q5, q6, q7⟩
            exact cont v' w F' J' n' τ h' q1 q2 q3 q4 q5 q6 q7
        | false =>
          rw [hin, fx_if_f] at e2
          obtain ⟨e2a, e2⟩ := fx_and e2
          obtain ⟨I, hI, e2⟩ := fx_has_ok e2
          obtain ⟨f1, f2⟩ := fx_and e2
          obtain ⟨f3, f4⟩ := fx_and f1
          obtain ⟨f5, f6⟩ := fx_and f3
          obtain ⟨f7, f8⟩ := fx_and f4
          obtain ⟨f9, f10⟩ := fx_and f8
          have f7 := fx_ble f7
          have hargs := ai_fits_ok s5 p2 f5
          have hpre : ∀ q ∈ I.1.2, ai_at h q := fun q hq => ai_has_ok s6 s4 s5 (fx_all_ok f6 q hq)
          have hcall := hcon c I hI cas h hargs hpre s6 hf.2
          have hne : cod' ≠ [] := fun q => by
            rw [q] at e2a
            cases e2a
          refine rx_call (M := (cod', na, mc, ms, t, nl)) hXX hma hm p1 h8 e5 e7 hne hnl hrc ha5 (rx_met_deep f7 hcall) ?_
          rintro w h' ⟨r1, r2, r3, r4, r5⟩
          have f2 := ai_keep_ok f2
          have hk2 := ai_l_keep s4 r4
          obtain ⟨F1, J1, n1, τ1, t1, t2, t3, t4⟩ := ai_tell_ok r2 s1 hk2 s5 f2
          obtain ⟨v', J2, n2, τ2, u1, u2, u3, u4⟩ := ai_ans_ok r1 t2 t4 t1
          rw [List.append_assoc] at u2 u3 u4
          have t3' := t3.ext (τ := τ2)
          rw [List.append_assoc] at t3'
          exact cont v' w F1 J2 n2 (τ1 ++ τ2) h' u1 u2 t3' u3 u4 r3 ⟨ai_fr_trans hf.1 (ai_fr_sub r4 (fun p hp => fx_all_ok f9 p hp) (fun p hp => fx_all_ok f10 p hp)), r5⟩
end AIM
