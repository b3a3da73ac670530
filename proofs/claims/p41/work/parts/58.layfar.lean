/-- what layFar has laid: the one is at 0 alone, each other one that was reached has a neighbour one nearer -/
def lf_inv (h : fx_H) (to : Nat) : Prop := gv h (99 * 4096 + to) = 0 ∧ ∀ m, m < 7 → gv h (99 * 4096 + m) ≤ 100 ∧ (gv h (99 * 4096 + m) = 0 → m = to) ∧ (gv h (99 * 4096 + m) ≠ 0 → gv h (99 * 4096 + m) ≠ 100 → ∃ o, o < mo_n h ∧ mo_ab h m o = 1 ∧ gv h (99 * 4096 + o) + 1 = gv h (99 * 4096 + m))
theorem mo_fr99 {h h' : fx_H} (hI : ai_inv ai_T0 h) (hf : ai_fr ([], [99]) h h') : mo_n h' = mo_n h ∧ (∀ m o, m < 7 → o < 7 → mo_ab h' m o = mo_ab h m o) ∧ gv h' 274469 = gv h 274469 ∧ gv h' 286721 = gv h 286721 := by
  have e0 : gv h' 274469 = gv h 274469 := gv_fr (hf _ rfl rfl)
  have e1 : ∀ r i, i < 4096 → r ≠ 99 → gv h' (r * 4096 + i) = gv h (r * 4096 + i) := fun r i hi hr => gv_fr (hf _ rfl (by
    rw [ai_p1 hi]
    show (Nat.beq 99 r || false) = false
    cases hb : Nat.beq 99 r with
    | true => exact absurd (fx_beq hb).symm hr
    | false => rfl))
  obtain ⟨hb, -⟩ := mo_n_le hI
  refine ⟨?_, fun m o hm ho => ?_, e0, gv_fr (hf _ rfl rfl)⟩
  · unfold mo_n
    rw [e0]
    exact e1 74 _ (by omega) (by decide)
  · unfold mo_ab
    rw [e0, e1 96 (7 + m) (by omega) (by decide), e1 96 (7 + o) (by omega) (by decide)]
    congr 1
    exact e1 70 _ (by omega) (by decide)
section LF
variable {l : Launch} {X : fx_X} {Y : fx_Y} {B : fx_B} {K : rx_K} {d : Nat}
theorem lf_q {i : Nat} : ([(2147483648, 2147483748)] : List (Nat × Nat))[i % ([(2147483648, 2147483748)] : List (Nat × Nat)).length]? = some (2147483648, 2147483748) := by
  rw [show i % ([(2147483648, 2147483748)] : List (Nat × Nat)).length = 0 by show i % 1 = 0; omega]
  rfl
theorem lf_fr {h h1 : fx_H} {i : Nat} {v : fx_V} (hi : i < 7) (u : ru_upd h h1 (99 * 4096 + i) v) : ai_fr ([], [99]) h h1 := u.fr (Or.inr (by rw [ai_p1 (by omega)]; rfl))
/-- the beginning: 0 for the one, 100 for the others -/
theorem lf_first (he : ai_env X B) {to : Nat} (hto : to < 7) : ∀ n k h, n + k = 7 → ai_inv ai_T0 h → (∀ m, m < k → gv h (99 * 4096 + m) = if m = to then 0 else 100) → (∀ h', ai_inv ai_T0 h' → (∀ m, m < 7 → gv h' (99 * 4096 + m) = if m = to then 0 else 100) → ai_fr ([], [99]) h h' → ru l X Y B d fm_174.1 31 [(1, fc to), (0, fr 67)] [] h' K) → ru l X Y B d fm_174.1 2 [(2, fc k), (1, fc to), (0, fr 67)] [] h K := by
  have hu := hu_174
  intro n
  induction n with
  | zero =>
    intro k h hk hI hm kk
    refine w_ld he hu rfl rfl rfl rfl rfl ?_
    refine w_c he hu rfl rfl rfl rfl ?_
    refine w_cmp he hu rfl rfl rfl (ru_ne rfl) (fun c1 => ?_) (fun c1 => ?_)
    · exact ru_sub [(1, fc to), (0, fr 67)] ⟨rfl, rfl, trivial⟩ (kk h hI (fun m h1 => hm m (by omega)) ai_fr_refl)
    · rw [rc_ge (by omega) (by omega)] at c1
      have := fx_nle c1
      omega
  | succ n ih =>
    intro k h hk hI hm kk
    refine w_ld he hu rfl rfl rfl rfl rfl ?_
    refine w_c he hu rfl rfl rfl rfl ?_
    refine w_cmp he hu rfl rfl rfl (ru_ne rfl) (fun c1 => ?_) (fun c1 => ?_)
    · rw [rc_ge (by omega) (by omega)] at c1
      have := fx_ble c1
      omega
    refine w_ld he hu rfl rfl rfl rfl rfl ?_
    refine w_gr 274487 99 he hu hI rfl rfl rfl rfl ?_
    refine w_ld he hu rfl rfl rfl rfl rfl ?_
    refine w_ld he hu rfl rfl rfl rfl rfl ?_
    refine w_ld he hu rfl rfl rfl rfl rfl ?_
    have sto : ∀ z, z = (if k = to then 0 else 100) → ru l X Y B d fm_174.1 24 [(2, fc k), (1, fc to), (0, fr 67)] [fc z, fc k, fr 99] h K := fun z hz => by
      have hz2 : z ≤ 100 := by
        rw [hz]
        split <;> omega
      have ez := rb_small (x := z) (by omega)
      refine w_ast he hu hI rfl rfl rfl rfl (by omega) lf_q (by omega) (by omega) (by omega) (fun h1 u1 hI1 => ?_)
      refine w_inc he hu rfl rfl rfl ?_
      rw [rm_inc (by omega)]
      refine w_go he hu rfl (ru_ne rfl) ?_
      have f1 := lf_fr (by omega) u1
      refine ih (k + 1) h1 (by omega) hI1 (fun m h2 => ?_) (fun h' i1 i2 i3 => kk h' i1 i2 (ai_fr_trans f1 i3))
      by_cases hq : m = k
      · subst hq
        rw [u1.at, hz]
      · rw [u1.off (by omega)]
        exact hm m (by omega)
    refine w_cmp he hu rfl rfl rfl (ru_ne rfl) (fun c2 => ?_) (fun c2 => ?_)
    · rw [rc_ne (by omega) (by omega)] at c2
      have c2 := bb_ne c2
      refine w_c he hu rfl rfl rfl rfl ?_
      exact sto 100 (by rw [if_neg c2])
    · rw [rc_ne (by omega) (by omega)] at c2
      have c2 := bb_eq c2
      refine w_c he hu rfl rfl rfl rfl ?_
      refine w_go he hu rfl (ru_ne rfl) ?_
      exact sto 0 (by rw [if_pos c2])
/-- one more is reached -/
theorem lf_set {h h1 : fx_H} {to n m o : Nat} (hI : ai_inv ai_T0 h) (hto : to < 7) (hm : m < 7) (ho : o < 7) (hon : o < mo_n h) (hinv : lf_inv h to) (e1 : gv h (99 * 4096 + m) = 100) (e2 : gv h (99 * 4096 + o) = n) (hn : n ≤ 6) (hab : mo_ab h m o = 1) (u : ru_upd h h1 (99 * 4096 + m) (fc (n + 1))) : lf_inv h1 to := by
  obtain ⟨g1, g2, -, -⟩ := mo_fr99 hI (lf_fr hm u)
  obtain ⟨i1, i2⟩ := hinv
  have hmt : to ≠ m := fun q => by
    rw [q] at i1
    omega
  refine ⟨by rw [u.off (by omega)]; exact i1, fun m' hm' => ?_⟩
  by_cases hq : m' = m
  · subst hq
    rw [u.at]
    refine ⟨by omega, fun q => by omega, fun _ _ => ⟨o, by rw [g1]; exact hon, by rw [g2 _ _ hm' ho]; exact hab, ?_⟩⟩
    have hom : o ≠ m' := fun q => by
      rw [q] at e2
      omega
    rw [u.off (by omega), e2]
  · rw [u.off (by omega)]
    obtain ⟨j1, j2, j3⟩ := i2 m' hm'
    refine ⟨j1, j2, fun q1 q2 => ?_⟩
    obtain ⟨o', k1, k2, k3⟩ := j3 q1 q2
    have ho' : o' ≠ m := fun q => by
      rw [q] at k3
      omega
    have h7 : o' < 7 := by
      have := (mo_n_le hI).2
      omega
    exact ⟨o', by rw [g1]; exact k1, by rw [g2 _ _ hm' h7]; exact k2, by rw [u.off (by omega)]; exact k3⟩
/-- the inner loop: one other after the other -/
theorem lf_in (he : ai_env X B) {to n m : Nat} (hto : to < 7) (hn : n < 7) (hm : m < 7) : ∀ c o h, c + o = 7 → ai_inv ai_T0 h → (gv h 274469 = 1 → 1 ≤ gv h 286721) → m < mo_n h → lf_inv h to → (∀ h', ai_inv ai_T0 h' → lf_inv h' to → ai_fr ([], [99]) h h' → ru l X Y B (d + 2) fm_174.1 108 [(3, fc m), (2, fc n), (1, fc to), (0, fr 67)] [] h' K) → ru l X Y B (d + 2) fm_174.1 52 [(4, fc o), (3, fc m), (2, fc n), (1, fc to), (0, fr 67)] [] h K := by
  have hu := hu_174
  intro c
  induction c with
  | zero =>
    intro o h hk hI hcol hmn hinv kk
    have h7 := (mo_n_le hI).2
    refine w_ld he hu rfl rfl rfl rfl rfl ?_
    refine w_ld he hu rfl rfl rfl rfl rfl ?_
    refine w_callM he hu hI rfl rfl rfl rfl (ny_met he hI) (fun v h1 q => ?_)
    obtain ⟨rfl, rfl⟩ := q
    refine w_cmp he hu rfl rfl rfl (ru_ne rfl) (fun c1 => ?_) (fun c1 => ?_)
    · exact ru_sub [(3, fc m), (2, fc n), (1, fc to), (0, fr 67)] ⟨rfl, rfl, rfl, rfl, trivial⟩ (kk _ hI hinv ai_fr_refl)
    · rw [rc_ge (by omega) (by omega)] at c1
      have := fx_nle c1
      omega
  | succ c ih =>
    intro o h hk hI hcol hmn hinv kk
    have h7 := (mo_n_le hI).2
    refine w_ld he hu rfl rfl rfl rfl rfl ?_
    refine w_ld he hu rfl rfl rfl rfl rfl ?_
    refine w_callM he hu hI rfl rfl rfl rfl (ny_met he hI) (fun v h1 q => ?_)
    obtain ⟨rfl, rfl⟩ := q
    refine w_cmp he hu rfl rfl rfl (ru_ne rfl) (fun c1 => ?_) (fun c1 => ?_)
    · exact ru_sub [(3, fc m), (2, fc n), (1, fc to), (0, fr 67)] ⟨rfl, rfl, rfl, rfl, trivial⟩ (kk _ hI hinv ai_fr_refl)
    rw [rc_ge (by omega) (by omega)] at c1
    have c1 := fx_nle c1
    -- the next one
    have next : ∀ h2, ai_inv ai_T0 h2 → lf_inv h2 to → ai_fr ([], [99]) h1 h2 → ru l X Y B (d + 2) fm_174.1 102 [(4, fc o), (3, fc m), (2, fc n), (1, fc to), (0, fr 67)] [] h2 K := fun h2 i1 i2 i3 => by
      obtain ⟨g1, g2, g3, g4⟩ := mo_fr99 hI i3
      refine w_inc he hu rfl rfl rfl ?_
      rw [rm_inc (by omega)]
      refine w_go he hu rfl (ru_ne rfl) ?_
      exact ih (o + 1) h2 (by omega) i1 (by rw [g3, g4]; exact hcol) (by omega) i2 (fun h' j1 j2 j3 => kk h' j1 j2 (ai_fr_trans i3 j3))
    have fm := (hinv.2 m hm).1
    have fo := (hinv.2 o (by omega)).1
    refine w_ld he hu rfl rfl rfl rfl rfl ?_
    refine w_gr 274487 99 he hu hI rfl rfl rfl rfl ?_
    refine w_ld he hu rfl rfl rfl rfl rfl ?_
    refine w_ald he hu hI rfl rfl rfl rfl (by omega) ?_
    refine w_c he hu rfl rfl rfl rfl ?_
    refine w_cmp he hu rfl rfl rfl (ru_ne rfl) (fun c2 => next _ hI hinv ai_fr_refl) (fun c2 => ?_)
    rw [rc_ne (by omega) (by omega)] at c2
    have c2 := bb_eq c2
    refine w_ld he hu rfl rfl rfl rfl rfl ?_
    refine w_gr 274487 99 he hu hI rfl rfl rfl rfl ?_
    refine w_ld he hu rfl rfl rfl rfl rfl ?_
    refine w_ald he hu hI rfl rfl rfl rfl (by omega) ?_
    refine w_ld he hu rfl rfl rfl rfl rfl ?_
    refine w_cmp he hu rfl rfl rfl (ru_ne rfl) (fun c3 => next _ hI hinv ai_fr_refl) (fun c3 => ?_)
    rw [rc_ne (by omega) (by omega)] at c3
    have c3 := bb_eq c3
    refine w_ld he hu rfl rfl rfl rfl rfl ?_
    refine w_ld he hu rfl rfl rfl rfl rfl ?_
    refine w_ld he hu rfl rfl rfl rfl rfl ?_
    refine w_callM he hu hI rfl rfl rfl rfl (ab_met he hI hcol hm (by omega)) (fun v h2 q => ?_)
    obtain ⟨rfl, rfl⟩ := q
    refine w_cmp0 he hu rfl rfl rfl (ru_ne rfl) (fun c4 => next _ hI hinv ai_fr_refl) (fun c4 => ?_)
    have hab : mo_ab h2 m o = 1 := by
      have hle : mo_ab h2 m o = 0 ∨ mo_ab h2 m o = 1 := by
        unfold mo_ab mo_abv
        split
        · exact Or.inl rfl
        · split
          · split
            · exact Or.inl rfl
            · exact Or.inr rfl
          · exact Or.inl rfl
      rcases hle with q | q
      · rw [q] at c4
        cases c4
      · exact q
    refine w_ld he hu rfl rfl rfl rfl rfl ?_
    refine w_gr 274487 99 he hu hI rfl rfl rfl rfl ?_
    refine w_ld he hu rfl rfl rfl rfl rfl ?_
    refine w_ld he hu rfl rfl rfl rfl rfl ?_
    refine w_c he hu rfl rfl rfl rfl ?_
    refine w_bin hu rfl rfl (fun q => by omega) ?_
    rw [rop_add (by omega)]
    have ez := rb_small (x := n + 1) (by omega)
    refine w_ast he hu hI rfl rfl rfl rfl (by omega) lf_q (by omega) (by omega) (by omega) (fun h3 u3 hI3 => ?_)
    exact next h3 hI3 (lf_set hI hto hm (by omega) c1 hinv c2 c3 (by omega) hab u3) (lf_fr hm u3)
/-- the loop over those that may be reached -/
theorem lf_mid (he : ai_env X B) {to n : Nat} (hto : to < 7) (hn : n < 7) : ∀ c m h, c + m = 7 → ai_inv ai_T0 h → (gv h 274469 = 1 → 1 ≤ gv h 286721) → lf_inv h to → (∀ h', ai_inv ai_T0 h' → lf_inv h' to → ai_fr ([], [99]) h h' → ru l X Y B (d + 2) fm_174.1 114 [(2, fc n), (1, fc to), (0, fr 67)] [] h' K) → ru l X Y B (d + 2) fm_174.1 41 [(3, fc m), (2, fc n), (1, fc to), (0, fr 67)] [] h K := by
  have hu := hu_174
  intro c
  induction c with
  | zero =>
    intro m h hk hI hcol hinv kk
    have h7 := (mo_n_le hI).2
    refine w_ld he hu rfl rfl rfl rfl rfl ?_
    refine w_ld he hu rfl rfl rfl rfl rfl ?_
    refine w_callM he hu hI rfl rfl rfl rfl (ny_met he hI) (fun v h1 q => ?_)
    obtain ⟨rfl, rfl⟩ := q
    refine w_cmp he hu rfl rfl rfl (ru_ne rfl) (fun c1 => ?_) (fun c1 => ?_)
    · exact ru_sub [(2, fc n), (1, fc to), (0, fr 67)] ⟨rfl, rfl, rfl, trivial⟩ (kk _ hI hinv ai_fr_refl)
    · rw [rc_ge (by omega) (by omega)] at c1
      have := fx_nle c1
      omega
  | succ c ih =>
    intro m h hk hI hcol hinv kk
    have h7 := (mo_n_le hI).2
    refine w_ld he hu rfl rfl rfl rfl rfl ?_
    refine w_ld he hu rfl rfl rfl rfl rfl ?_
    refine w_callM he hu hI rfl rfl rfl rfl (ny_met he hI) (fun v h1 q => ?_)
    obtain ⟨rfl, rfl⟩ := q
    refine w_cmp he hu rfl rfl rfl (ru_ne rfl) (fun c1 => ?_) (fun c1 => ?_)
    · exact ru_sub [(2, fc n), (1, fc to), (0, fr 67)] ⟨rfl, rfl, rfl, trivial⟩ (kk _ hI hinv ai_fr_refl)
    rw [rc_ge (by omega) (by omega)] at c1
    have c1 := fx_nle c1
    refine w_c he hu rfl rfl rfl rfl ?_
    refine w_st he hu rfl rfl rfl rfl ?_
    refine lf_in he hto hn (by omega) 7 0 h1 rfl hI hcol c1 hinv (fun h2 i1 i2 i3 => ?_)
    obtain ⟨g1, g2, g3, g4⟩ := mo_fr99 hI i3
    refine w_inc he hu rfl rfl rfl ?_
    rw [rm_inc (by omega)]
    refine w_go he hu rfl (ru_ne rfl) ?_
    exact ih (m + 1) h2 (by omega) i1 (by rw [g3, g4]; exact hcol) i2 (fun h' j1 j2 j3 => kk h' j1 j2 (ai_fr_trans i3 j3))
/-- round by round -/
theorem lf_out (he : ai_env X B) {to : Nat} (hto : to < 7) : ∀ c n h, c + n = 7 → ai_inv ai_T0 h → (gv h 274469 = 1 → 1 ≤ gv h 286721) → lf_inv h to → (∀ h', ai_inv ai_T0 h' → lf_inv h' to → ai_fr ([], [99]) h h' → K none h') → ru l X Y B (d + 2) fm_174.1 33 [(2, fc n), (1, fc to), (0, fr 67)] [] h K := by
  have hu := hu_174
  intro c
  induction c with
  | zero =>
    intro n h hk hI hcol hinv kk
    refine w_ld he hu rfl rfl rfl rfl rfl ?_
    refine w_c he hu rfl rfl rfl rfl ?_
    refine w_cmp he hu rfl rfl rfl (ru_ne rfl) (fun c1 => ?_) (fun c1 => ?_)
    · exact w_vret he hu rfl (kk h hI hinv ai_fr_refl)
    · rw [rc_ge (by omega) (by omega)] at c1
      have := fx_nle c1
      omega
  | succ c ih =>
    intro n h hk hI hcol hinv kk
    refine w_ld he hu rfl rfl rfl rfl rfl ?_
    refine w_c he hu rfl rfl rfl rfl ?_
    refine w_cmp he hu rfl rfl rfl (ru_ne rfl) (fun c1 => ?_) (fun c1 => ?_)
    · rw [rc_ge (by omega) (by omega)] at c1
      have := fx_ble c1
      omega
    refine w_c he hu rfl rfl rfl rfl ?_
    refine w_st he hu rfl rfl rfl rfl ?_
    refine lf_mid he hto (by omega) 7 0 h rfl hI hcol hinv (fun h2 i1 i2 i3 => ?_)
    obtain ⟨g1, g2, g3, g4⟩ := mo_fr99 hI i3
    refine w_inc he hu rfl rfl rfl ?_
    rw [rm_inc (by omega)]
    refine w_go he hu rfl (ru_ne rfl) ?_
    exact ih (n + 1) h2 (by omega) i1 (by rw [g3, g4]; exact hcol) i2 (fun h' j1 j2 j3 => kk h' j1 j2 (ai_fr_trans i3 j3))
theorem lf_met (he : ai_env X B) {h : fx_H} (hI : ai_inv ai_T0 h) (hcol : gv h 274469 = 1 → 1 ≤ gv h 286721) {to : Nat} (hto : to < 7) : rx_met l X Y B 174 (d + 2) [fr 67, fc to] h (fun v h' => v = none ∧ ai_inv ai_T0 h' ∧ lf_inv h' to ∧ ai_fr ([], [99]) h h') := by
  refine ru_met (M := fm_174) rfl rfl (by simp [fm_174]) ?_
  have hu := hu_174
  refine w_c he hu rfl rfl rfl rfl ?_
  refine w_st he hu rfl rfl rfl rfl ?_
  refine ru_sub [(2, fc 0), (1, fc to), (0, fr 67)] ⟨rfl, rfl, rfl, trivial⟩ ?_
  refine lf_first he hto 7 0 h rfl hI (fun m hm => by omega) (fun h1 i1 i2 i3 => ?_)
  refine w_c he hu rfl rfl rfl rfl ?_
  refine w_st he hu rfl rfl rfl rfl ?_
  obtain ⟨g1, g2, g3, g4⟩ := mo_fr99 hI i3
  refine lf_out he hto 7 0 h1 rfl i1 (by rw [g3, g4]; exact hcol) ⟨?_, fun m hm => ?_⟩ (fun h' j1 j2 j3 => ⟨rfl, j1, j2, ai_fr_trans i3 j3⟩)
  · rw [i2 to hto, if_pos rfl]
  · rw [i2 m hm]
    by_cases hq : m = to
    · rw [if_pos hq]
      exact ⟨by decide, fun _ => hq, fun q => absurd rfl q⟩
    · rw [if_neg hq]
      exact ⟨by decide, fun q => (by cases q), fun _ q => absurd rfl q⟩
end LF
theorem ic_lf {l : Launch} {X : fx_X} {Y : fx_Y} {B : fx_B} (he : ai_env X B) {b : Nat} (hb : b < 2) {I : ai_I} (h1 : I.1.1 = [.inr (fr 67), .inl (2147483648, 2147483654)]) (hbk : (274469, .inl (b + 2147483648, b + 2147483648)) ∈ I.1.2) (hcol : b = 1 → (286721, .inl (2147483649, 2147483652)) ∈ I.1.2) (hp : I.2 = ((none, []), (([], [99]), 4))) : ai_con l X Y B ai_T0 mo_P 174 I := by
  intro ws h g1 g2 hI hP
  rw [h1] at g1
  have num : ∀ {p lo hi : Nat}, (p, .inl (lo + 2147483648, hi + 2147483648)) ∈ I.1.2 → hi < 2147483648 → lo ≤ gv h p ∧ gv h p ≤ hi := fun {p lo hi} hm hh => by
    obtain ⟨w, e1, n, e2, e3, e4, e5⟩ := g2 _ hm
    subst e2
    have e6 : gv h p = n := by
      unfold gv
      rw [show ai_pl h p = some (fc n) from e1]
    rw [e6]
    have e7 : fx_b n = (n + 2147483648) % 4294967296 := rfl
    omega
  rcases ws with _ | ⟨w, _ | ⟨w2, _ | ⟨w3, ws⟩⟩⟩
  · exact g1.elim
  · exact g1.2.elim
  · obtain ⟨hw, ⟨n, rfl, n1, n2, n3⟩, -⟩ := g1
    have hw : w = fr 67 := hw
    subst hw
    have en : fx_b n = (n + 2147483648) % 4294967296 := rfl
    have b1 := num hbk (by omega)
    have key := lf_met (l := l) (Y := Y) (d := 2) he hI (fun q => (num (lo := 1) (hi := 4) (hcol (by omega)) (by decide)).1) (to := n) (by omega)
    rw [hp]
    refine rx_met_mono key (fun v h' q => ?_)
    obtain ⟨rfl, i1, -, i2⟩ := q
    exact ⟨trivial, fun q hq => (by cases hq), i1, i2, mo_P_fr (by decide) _ _ hP i2⟩
  · exact g1.2.2.elim
theorem ic_h_layFar_b0 {l : Launch} {X : fx_X} {Y : fx_Y} {B : fx_B} (he : ai_env X B) : ai_con l X Y B ai_T0 mo_P 174 ii_h_layFar_b0 := ic_lf he (b := 0) (by decide) rfl (List.mem_of_getElem? (i := 0) rfl) (fun q => by cases q) rfl
theorem ic_h_layFar_b1 {l : Launch} {X : fx_X} {Y : fx_Y} {B : fx_B} (he : ai_env X B) : ai_con l X Y B ai_T0 mo_P 174 ii_h_layFar_b1 := ic_lf he (b := 1) (by decide) rfl (List.mem_of_getElem? (i := 0) rfl) (fun _ => List.mem_of_getElem? (i := 1) rfl) rfl
