theorem ru_ne {cod : List fx_I} {t : Nat} (h : (fx_to cod t).isEmpty = false) : fx_to cod t ≠ [] := fun q => by
  rw [q] at h
  cases h
section RW
variable {l : Launch} {X : fx_X} {Y : fx_Y} {B : fx_B} {d : Nat} {cod : List fx_I} {K : rx_K} {loc : fx_L} {stk : List fx_V} {h : fx_H} {pc a b c nx : Nat}
theorem mo_cell : ∃ fs, ai_cell ai_T0 67 = some (.inl (10, fs)) := ⟨_, rfl⟩
/-- fields of the reference's object: ints, arrays -/
theorem w_gi (p : Nat) {lo hi : Nat} (he : ai_env X B) (hu : ru_u cod = true) (hI : ai_inv ai_T0 h) (hat : ru_e cod pc = some (1, a, 10, c, nx)) (hl : nx = pc + (2 + 1)) (hp : (Nat.beq (67 * 4096 + c) p && Nat.blt c 4096) = true) (ht : ai_tab ai_T0 p = some (.inr (.inl (lo, hi)))) (k : ru l X Y B d cod nx loc (fc (gv h p) :: stk) h K) : ru l X Y B d cod pc loc (fr 67 :: stk) h K := by
  obtain ⟨h1, h2⟩ := fx_and hp
  obtain ⟨fs, hc⟩ := mo_cell
  have e := fx_beq h1
  subst e
  exact w_get he hu hI hat hl hc h2 (gv_int hI ht).1 k
theorem w_gr (p r : Nat) (he : ai_env X B) (hu : ru_u cod = true) (hI : ai_inv ai_T0 h) (hat : ru_e cod pc = some (1, a, 10, c, nx)) (hl : nx = pc + (2 + 1)) (hp : (Nat.beq (67 * 4096 + c) p && Nat.blt c 4096) = true) (ht : ai_tab ai_T0 p = some (.inr (.inr [some r]))) (k : ru l X Y B d cod nx loc (fr r :: stk) h K) : ru l X Y B d cod pc loc (fr 67 :: stk) h K := by
  obtain ⟨h1, h2⟩ := fx_and hp
  obtain ⟨fs, hc⟩ := mo_cell
  have e := fx_beq h1
  subst e
  exact w_get he hu hI hat hl hc h2 (gv_ref hI ht) k
theorem w_pi (p : Nat) {x lo hi : Nat} (he : ai_env X B) (hu : ru_u cod = true) (hI : ai_inv ai_T0 h) (hat : ru_e cod pc = some (14, a, 10, c, nx)) (hl : nx = pc + (2 + 1)) (hp : ((Nat.beq (67 * 4096 + c / 8) p && Nat.blt (c / 8) 4096) && Nat.beq (c % 8) 0) = true) (ht : ai_tab ai_T0 p = some (.inr (.inl (lo, hi)))) (hx : x < 4294967296) (h1 : lo ≤ fx_b x) (h2 : fx_b x ≤ hi) (k : ∀ h', ru_upd h h' p (fc x) → ai_inv ai_T0 h' → ru l X Y B d cod nx loc stk h' K) : ru l X Y B d cod pc loc (fc x :: fr 67 :: stk) h K := by
  obtain ⟨h3, h4⟩ := fx_and hp
  obtain ⟨h5, h6⟩ := fx_and h3
  obtain ⟨fs, hc⟩ := mo_cell
  have e := fx_beq h5
  subst e
  have hs : fx_nth fs (c / 8) = some (.inr (.inl (lo, hi))) := by
    unfold ai_tab at ht
    have e1 : Nat.div (67 * 4096 + c / 8) 4096 = 67 := by
      have := fx_blt h6
      show (67 * 4096 + c / 8) / 4096 = 67
      omega
    have e2 : Nat.mod (67 * 4096 + c / 8) 4096 = c / 8 := by
      have := fx_blt h6
      show (67 * 4096 + c / 8) % 4096 = c / 8
      omega
    rw [e1, hc, e2] at ht
    exact ht
  exact w_put he hu hI hat hl hc hs (fx_beq h4) h6 hx h1 h2 k
end RW
/-- fewer locals are enough -/
def ru_subs : fx_L → fx_L → Prop
  | [], _ => True
  | q :: t, loc => fx_look loc q.1 = some q.2 ∧ ru_subs t loc
theorem ru_sub {l : Launch} {X : fx_X} {Y : fx_Y} {B : fx_B} {d : Nat} {cod : List fx_I} {K : rx_K} {stk : List fx_V} {h : fx_H} {pc : Nat} {loc : fx_L} (loc' : fx_L) (hs : ru_subs loc' loc) (k : ru l X Y B d cod pc loc' stk h K) : ru l X Y B d cod pc loc stk h K := by
  intro p e R s m args below meth c0 Q cc nL own ini rt F hR hsub hrt H locs ls st hst
  refine k p e R s m args below meth c0 Q cc nL own ini rt F hR hsub hrt H locs ls st ?_
  obtain ⟨⟨lv, hlv, hrn⟩, rest⟩ := hst
  refine ⟨?_, rest⟩
  have key : ∀ (l2 : fx_L), ru_subs l2 loc → ∃ lv2, fx_rn X l2 lv2 ∧ ∀ q ∈ lv2, q ∈ lv := by
    intro l2
    induction l2 with
    | nil => intro _; exact ⟨[], trivial, fun q hq => by cases hq⟩
    | cons q l2 ih =>
      intro hq
      obtain ⟨lv2, h1, h2⟩ := ih hq.2
      obtain ⟨i, x, h3, h4⟩ := fx_rn_look hrn hq.1
      refine ⟨(q.1, x) :: lv2, ⟨⟨rfl, h4⟩, h1⟩, fun z hz => ?_⟩
      rcases List.mem_cons.mp hz with rfl | hz
      · exact List.mem_of_getElem? h3
      · exact h2 z hz
  obtain ⟨lv2, h1, h2⟩ := key loc' hs
  exact ⟨lv2, ⟨hlv.1, hlv.2.1, fun q hq => hlv.2.2 q (h2 q hq)⟩, h1⟩
theorem hu_168 : ru_u fm_168.1 = true := by decide +kernel
theorem ic_h_bitsOf {l : Launch} {X : fx_X} {Y : fx_Y} {B : fx_B} {P : fx_H → Prop} (he : ai_env X B) : ai_con l X Y B ai_T0 P 168 ii_h_bitsOf := by
  intro ws h h1 h2 h3 h4
  have h1 : ai_as [.inl (0, 4294967295)] ws := h1
  rcases ws with _ | ⟨w, _ | ⟨w2, ws⟩⟩
  · exact h1.elim
  · obtain ⟨⟨n, rfl, hn, -⟩, -⟩ := h1
    refine ru_met (M := fm_168) rfl rfl (by simp [fm_168]) ?_
    have hu := hu_168
    have loop : ∀ k m c, m ≤ k → m < 4294967296 → c < 4294967296 → ru l X Y B 0 fm_168.1 4 [(2, fc m), (1, fc c), (0, fc n)] [] h (fun v h' => ai_res ii_h_bitsOf.2.1.1 v ∧ (∀ q ∈ ii_h_bitsOf.2.1.2, ai_at h' q) ∧ ai_inv ai_T0 h' ∧ ai_fr ii_h_bitsOf.2.2.1 h h' ∧ P h') := by
      intro k
      induction k with
      | zero =>
        intro m c hm hm2 hc
        have : m = 0 := by omega
        subst this
        refine w_ld he hu rfl rfl rfl rfl rfl ?_
        refine w_cmp0 he hu rfl rfl rfl (ru_ne rfl) (fun c1 => ?_) (fun c1 => by cases c1)
        refine w_ld he hu rfl rfl rfl rfl rfl ?_
        exact w_iret he hu rfl rfl ⟨⟨c, rfl, hc, Nat.zero_le _, Nat.le_of_lt_succ (rx_b_lt c)⟩, fun q hq => (by cases hq), h3, ai_fr_refl, h4⟩
      | succ k ih =>
        intro m c hm hm2 hc
        refine w_ld he hu rfl rfl rfl rfl rfl ?_
        refine w_cmp0 he hu rfl rfl rfl (ru_ne rfl) (fun c1 => ?_) (fun c1 => ?_)
        · refine w_ld he hu rfl rfl rfl rfl rfl ?_
          exact w_iret he hu rfl rfl ⟨⟨c, rfl, hc, Nat.zero_le _, Nat.le_of_lt_succ (rx_b_lt c)⟩, fun q hq => (by cases hq), h3, ai_fr_refl, h4⟩
        · have hm0 : m ≠ 0 := fun q => by
            rw [q] at c1
            cases c1
          refine w_inc he hu rfl rfl rfl ?_
          refine w_ld he hu rfl rfl rfl rfl rfl ?_
          refine w_ld he hu rfl rfl rfl rfl rfl ?_
          refine w_c he hu rfl rfl rfl rfl ?_
          refine w_bin hu rfl rfl (fun q => by omega) ?_
          refine w_bin hu rfl rfl (fun q => by omega) ?_
          refine w_st he hu rfl rfl rfl rfl ?_
          refine w_go he hu rfl (ru_ne rfl) ?_
          rw [rop_sub (by omega) hm2, rop_and hm2]
          have hle : Nat.land m (m - 1) ≤ m - 1 := Nat.and_le_right
          exact ih _ _ (by omega) (by omega) (Nat.mod_lt _ (by decide))
    refine w_c he hu rfl rfl rfl rfl ?_
    refine w_st he hu rfl rfl rfl rfl ?_
    refine w_ld he hu rfl rfl rfl rfl rfl ?_
    refine w_st he hu rfl rfl rfl rfl ?_
    exact loop n n 0 (Nat.le_refl _) hn (by decide)
  · exact h1.2.elim
