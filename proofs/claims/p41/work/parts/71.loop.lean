/-! the heap that the constructors leave, held against the table -/
noncomputable def ck_up (f : Nat → Bool) (n : Nat) : Bool := Nat.rec (motive := fun _ => Bool) true (fun m ih => f m && ih) n
theorem ck_up_ok {f : Nat → Bool} : ∀ {n : Nat}, ck_up f n = true → ∀ i, i < n → f i = true := by
  intro n
  induction n with
  | zero => intro _ i hi; omega
  | succ n ih =>
    intro h i hi
    obtain ⟨h1, h2⟩ := fx_and (a := f n) (b := ck_up f n) h
    by_cases e : i = n
    · rw [e]; exact h1
    · exact ih h2 i (by omega)
noncomputable def ck_iv (lo hi : Nat) (w : fx_V) : Bool := match w with
  | .inl n => Nat.blt n 4294967296 && (Nat.ble lo (fx_b n) && Nat.ble (fx_b n) hi)
  | _ => false
theorem ck_iv_ok {lo hi : Nat} {w : fx_V} (h : ck_iv lo hi w = true) : ai_iv lo hi w := by
  rcases w with n | w
  · obtain ⟨h1, h2⟩ := fx_and (a := Nat.blt n 4294967296) h
    obtain ⟨h2, h3⟩ := fx_and h2
    exact ⟨n, rfl, fx_blt h1, fx_ble h2, fx_ble h3⟩
  · cases h
def ck_lg (w : fx_V) : Bool := match w with
  | .inr (.inr (.inr _)) => true
  | _ => false
theorem ck_lg_ok {w : fx_V} (h : ck_lg w = true) : ∃ n, w = fl n := by
  rcases w with n | n | n | n
  · cases h
  · cases h
  · cases h
  · exact ⟨n, rfl⟩
noncomputable def ck_oq (x y : Option Nat) : Bool := match x, y with
  | none, none => true
  | some a, some b => Nat.beq a b
  | _, _ => false
theorem ck_oq_ok {x y : Option Nat} (h : ck_oq x y = true) : x = y := by
  cases x with
  | none => cases y with
    | none => rfl
    | some b => cases h
  | some a => cases y with
    | none => cases h
    | some b => rw [fx_beq (show Nat.beq a b = true from h)]
noncomputable def ck_fo (s : ai_F) (w : fx_V) : Bool := match s with
  | .inl _ => ck_lg w
  | .inr (.inl (lo, hi)) => ck_iv lo hi w
  | .inr (.inr rs) => match w with
    | .inr (.inr (.inl o)) => rs.any (fun r => ck_oq r o)
    | _ => false
theorem ck_fo_ok {s : ai_F} {w : fx_V} (h : ck_fo s w = true) : ai_fo s w := by
  rcases s with s | ⟨lo, hi⟩ | rs
  · exact ck_lg_ok h
  · exact ck_iv_ok h
  · rcases w with n | n | o | n
    · cases h
    · cases h
    · obtain ⟨r, h1, h2⟩ := List.any_eq_true.mp (show rs.any (fun r => ck_oq r o) = true from h)
      exact ⟨o, rfl, by rw [← ck_oq_ok h2]; exact h1⟩
    · cases h
noncomputable def ck_fs (fs : List ai_F) (ws : List fx_V) : Bool := match fs, ws with
  | [], _ => true
  | _ :: _, [] => false
  | s :: fs, w :: ws => ck_fo s w && ck_fs fs ws
theorem ck_fs_ok : ∀ {fs : List ai_F} {ws : List fx_V}, ck_fs fs ws = true → ∀ (i : Nat) (s : ai_F), fs[i]? = some s → ∃ w : fx_V, ws[i]? = some w ∧ ai_fo s w := by
  intro fs
  induction fs with
  | nil => intro ws _ i s h; simp at h
  | cons s0 fs ih =>
    intro ws h i s hi
    cases ws with
    | nil => simp [ck_fs] at h
    | cons w ws =>
      rw [ck_fs] at h
      obtain ⟨h1, h2⟩ := fx_and h
      cases i with
      | zero =>
        have e : s0 = s := by simpa using hi
        subst e
        exact ⟨w, rfl, ck_fo_ok h1⟩
      | succ i => exact ih h2 i s (by simpa using hi)
noncomputable def ck_el (ty : Nat) (L : List (Nat × Nat)) (u : List (Nat × fx_V)) (i : Nat) : Bool := fx_if (Nat.beq ty 3) (ck_lg (fx_aget ty u i)) (match fx_nth L (Nat.mod i L.length) with
  | some q => ck_iv q.1 q.2 (fx_aget ty u i)
  | none => false)
theorem ck_el_ok {ty : Nat} {L : List (Nat × Nat)} {u : List (Nat × fx_V)} {i : Nat} (h : ck_el ty L u i = true) : if ty = 3 then ∃ n, fx_aget ty u i = fl n else ∃ q, L[i % L.length]? = some q ∧ ai_iv q.1 q.2 (fx_aget ty u i) := by
  unfold ck_el at h
  cases ht : Nat.beq ty 3 with
  | true =>
    rw [ht, fx_if_t] at h
    rw [if_pos (fx_beq ht)]
    exact ck_lg_ok h
  | false =>
    rw [ht, fx_if_f] at h
    rw [if_neg (fun e => by rw [e] at ht; cases ht)]
    rw [fx_nth_eq] at h
    cases hq : L[Nat.mod i L.length]? with
    | none => rw [hq] at h; cases h
    | some q =>
      rw [hq] at h
      exact ⟨q, rfl, ck_iv_ok h⟩
noncomputable def ck_co (c : ai_C) (x : fx_C) : Bool := match c, x with
  | .inl (ci, fs), .inr (.inl (cj, ws)) => Nat.beq ci cj && ck_fs fs ws
  | .inr (ty, len, L), .inr (.inr (ty2, len2, u)) => Nat.beq ty ty2 && (Nat.beq len len2 && ck_up (ck_el ty L u) len)
  | _, _ => false
theorem ck_co_ok {c : ai_C} {x : fx_C} (h : ck_co c x = true) : ai_co c x := by
  rcases c with ⟨ci, fs⟩ | ⟨ty, len, L⟩ <;> rcases x with x | ⟨cj, ws⟩ | ⟨ty2, len2, u⟩
  · cases h
  · obtain ⟨h1, h2⟩ := fx_and (a := Nat.beq ci cj) h
    exact ⟨fx_beq h1, ck_fs_ok h2⟩
  · cases h
  · cases h
  · cases h
  · obtain ⟨h1, h2⟩ := fx_and (a := Nat.beq ty ty2) h
    obtain ⟨h2, h3⟩ := fx_and h2
    exact ⟨fx_beq h1, fx_beq h2, fun i hi => ck_el_ok (ck_up_ok h3 i hi)⟩
noncomputable def ck_at (T : ai_T) (h : fx_H) (k : Nat) : Bool := match ai_cell T k with
  | none => true
  | some c => match fx_hget h k with
    | none => false
    | some x => ck_co c x
theorem ck_inv_ok {T : ai_T} {h : fx_H} (hT : T.length ≤ 8) (g : ck_up (ck_at T h) 128 = true) : ai_inv T h := by
  intro k c hc
  have hk : k < 128 := by
    unfold ai_cell at hc
    cases hr : fx_nth T (Nat.div k 16) with
    | none => rw [hr] at hc; cases hc
    | some r =>
      rw [fx_nth_eq] at hr
      have := (List.getElem?_eq_some_iff.mp hr).1
      have e : Nat.div k 16 = k / 16 := rfl
      omega
  have h1 := ck_up_ok g k hk
  unfold ck_at at h1
  rw [hc] at h1
  cases hx : fx_hget h k with
  | none => rw [hx] at h1; cases h1
  | some x =>
    rw [hx] at h1
    exact ⟨x, rfl, ck_co_ok h1⟩
set_option maxRecDepth 100000 in
theorem g0_ck : ck_up (ck_at ai_T0 fx_g0) 128 = true := by decide +kernel
theorem g0_inv : ai_inv ai_T0 fx_g0 := ck_inv_ok (by decide) g0_ck
set_option maxRecDepth 100000 in
theorem g0_nums : gv fx_g0 352256 = 0 ∧ gv fx_g0 352257 = 0 ∧ gv fx_g0 352258 = 0 ∧ gv fx_g0 352259 = 0 ∧ gv fx_g0 274469 = 0 ∧ gv fx_g0 274485 = 0 ∧ gv fx_g0 274486 = 0 ∧ gv fx_g0 12 = 0 ∧ gv fx_g0 274502 = 0 := by decide +kernel
theorem g0_J : la_J fx_g0 := by
  obtain ⟨n1, n2, n3, n4, n5, n6, n7, n8, n9⟩ := g0_nums
  refine ⟨⟨g0_inv, fun b r hb hr q => ?_, fun q => by omega, by omega⟩, by omega, by omega⟩
  have hb : b = 0 ∨ b = 1 := by omega
  have hr : r = 0 ∨ r = 1 := by omega
  rcases hb with rfl | rfl <;> rcases hr with rfl | rfl
  · exact absurd (q.symm.trans n1) (by decide)
  · exact absurd (q.symm.trans n2) (by decide)
  · exact absurd (q.symm.trans n3) (by decide)
  · exact absurd (q.symm.trans n4) (by decide)
theorem lw_six {L : Nat} (hL : L ≤ 3072) : fx_b (rop 1 L 6) = L + 2147483648 - 6 := by
  by_cases h : 6 ≤ L
  · rw [rop_sub h (by omega), rb_small (by omega)]
    omega
  · have e : rop 1 L 6 = L + 4294967290 := rop_of (by
      have h6 : L = 0 ∨ L = 1 ∨ L = 2 ∨ L = 3 ∨ L = 4 ∨ L = 5 := by omega
      rcases h6 with rfl | rfl | rfl | rfl | rfl | rfl <;> decide) (by omega)
    rw [e]
    show (L + 4294967290 + 2147483648) % 4294967296 = _
    omega
section LO
variable {l : Launch} {X : fx_X} {Y : fx_Y} {B : fx_B}
set_option maxRecDepth 100000 in
theorem lw_case (he : ai_env X B) (hL : B.2.1 ≤ 3072) {i n : Nat} (hi : i + 6 ≤ B.2.1) (hn : n < 64) (kk : ∀ h, la_J h → rv l X Y B 64 fw_law 1409 (lw_l i) [] h lw_K) {h : fx_H} (hJ : la_J h) : rv l X Y B 64 fw_law 33 (lw_l i) [fc n] h lw_K := by
  have hu := hu_law
  by_cases h45 : 45 ≤ n
  · refine v_sw he hu rfl rfl (by omega) 1409 ?_ ne_law (kk h hJ)
    rw [fx_nth_eq]
    have e : (fx_swt 0)[n]? = none := List.getElem?_eq_none (by rw [show (fx_swt 0).length = 45 from rfl]; exact h45)
    rw [e]
  by_cases h22 : n < 22
  · skip
    by_cases h11 : n < 11
    · skip
      by_cases h5 : n < 5
      · skip
        by_cases h2 : n < 2
        · skip
          by_cases h1 : n < 1
          · skip
            obtain rfl : n = 0 := by omega
            exact v_sw he hu rfl rfl (by decide) 228 rfl (ru_ne (by decide +kernel)) (lc_feed he hL hi kk hJ)
          · skip
            obtain rfl : n = 1 := by omega
            exact v_sw he hu rfl rfl (by decide) 291 rfl (ru_ne (by decide +kernel)) (lc_end he hL hi kk hJ)
        · skip
          by_cases h3 : n < 3
          · skip
            obtain rfl : n = 2 := by omega
            exact v_sw he hu rfl rfl (by decide) 314 rfl (ru_ne (by decide +kernel)) (lc_senate he hL hi kk hJ)
          · skip
            by_cases h4 : n < 4
            · skip
              obtain rfl : n = 3 := by omega
              exact v_sw he hu rfl rfl (by decide) 327 rfl (ru_ne (by decide +kernel)) (lc_fault he hL hi kk hJ)
            · skip
              obtain rfl : n = 4 := by omega
              exact v_sw he hu rfl rfl (by decide) 350 rfl (ru_ne (by decide +kernel)) (lc_member he hL hi kk hJ)
      · skip
        by_cases h8 : n < 8
        · skip
          by_cases h6 : n < 6
          · skip
            obtain rfl : n = 5 := by omega
            exact v_sw he hu rfl rfl (by decide) 383 rfl (ru_ne (by decide +kernel)) (lc_district he hL hi kk hJ)
          · skip
            by_cases h7 : n < 7
            · skip
              obtain rfl : n = 6 := by omega
              exact v_sw he hu rfl rfl (by decide) 416 rfl (ru_ne (by decide +kernel)) (lc_seat he hL hi kk hJ)
            · skip
              obtain rfl : n = 7 := by omega
              exact v_sw he hu rfl rfl (by decide) 449 rfl (ru_ne (by decide +kernel)) (lc_report he hL hi kk hJ)
        · skip
          by_cases h9 : n < 9
          · skip
            obtain rfl : n = 8 := by omega
            exact v_sw he hu rfl rfl (by decide) 462 rfl (ru_ne (by decide +kernel)) (lc_off he hL hi kk hJ)
          · skip
            by_cases h10 : n < 10
            · skip
              obtain rfl : n = 9 := by omega
              exact v_sw he hu rfl rfl (by decide) 475 rfl (ru_ne (by decide +kernel)) (lc_step he hL hi kk hJ)
            · skip
              obtain rfl : n = 10 := by omega
              exact v_sw he hu rfl rfl (by decide) 488 rfl (ru_ne (by decide +kernel)) (lc_news he hL hi kk hJ)
    · skip
      by_cases h16 : n < 16
      · skip
        by_cases h13 : n < 13
        · skip
          by_cases h12 : n < 12
          · skip
            obtain rfl : n = 11 := by omega
            exact v_sw he hu rfl rfl (by decide) 511 rfl (ru_ne (by decide +kernel)) (lc_sit he hL hi kk hJ)
          · skip
            obtain rfl : n = 12 := by omega
            exact v_sw he hu rfl rfl (by decide) 544 rfl (ru_ne (by decide +kernel)) (lc_change he hL hi kk hJ)
        · skip
          by_cases h14 : n < 14
          · skip
            obtain rfl : n = 13 := by omega
            exact v_sw he hu rfl rfl (by decide) 577 rfl (ru_ne (by decide +kernel)) (lc_unseat he hL hi kk hJ)
          · skip
            by_cases h15 : n < 15
            · skip
              obtain rfl : n = 14 := by omega
              exact v_sw he hu rfl rfl (by decide) 600 rfl (ru_ne (by decide +kernel)) (lc_undo he hL hi kk hJ)
            · skip
              obtain rfl : n = 15 := by omega
              exact v_sw he hu rfl rfl (by decide) 613 rfl (ru_ne (by decide +kernel)) (lc_redo he hL hi kk hJ)
      · skip
        by_cases h19 : n < 19
        · skip
          by_cases h17 : n < 17
          · skip
            obtain rfl : n = 16 := by omega
            exact v_sw he hu rfl rfl (by decide) 626 rfl (ru_ne (by decide +kernel)) (lc_stand he hL hi kk hJ)
          · skip
            by_cases h18 : n < 18
            · skip
              obtain rfl : n = 17 := by omega
              exact v_sw he hu rfl rfl (by decide) 659 rfl (ru_ne (by decide +kernel)) (lc_sample he hL hi kk hJ)
            · skip
              obtain rfl : n = 18 := by omega
              exact v_sw he hu rfl rfl (by decide) 692 rfl (ru_ne (by decide +kernel)) (lc_samples he hL hi kk hJ)
        · skip
          by_cases h20 : n < 20
          · skip
            obtain rfl : n = 19 := by omega
            exact v_sw he hu rfl rfl (by decide) 715 rfl (ru_ne (by decide +kernel)) (lc_chain he hL hi kk hJ)
          · skip
            by_cases h21 : n < 21
            · skip
              obtain rfl : n = 20 := by omega
              exact v_sw he hu rfl rfl (by decide) 748 rfl (ru_ne (by decide +kernel)) (lc_groups he hL hi kk hJ)
            · skip
              obtain rfl : n = 21 := by omega
              exact v_sw he hu rfl rfl (by decide) 761 rfl (ru_ne (by decide +kernel)) (lc_place he hL hi kk hJ)
  · skip
    by_cases h33 : n < 33
    · skip
      by_cases h27 : n < 27
      · skip
        by_cases h24 : n < 24
        · skip
          by_cases h23 : n < 23
          · skip
            obtain rfl : n = 22 := by omega
            exact v_sw he hu rfl rfl (by decide) 794 rfl (ru_ne (by decide +kernel)) (lc_move he hL hi kk hJ)
          · skip
            obtain rfl : n = 23 := by omega
            exact v_sw he hu rfl rfl (by decide) 817 rfl (ru_ne (by decide +kernel)) (lc_settled he hL hi kk hJ)
        · skip
          by_cases h25 : n < 25
          · skip
            obtain rfl : n = 24 := by omega
            exact v_sw he hu rfl rfl (by decide) 830 rfl (ru_ne (by decide +kernel)) (lc_will he hL hi kk hJ)
          · skip
            by_cases h26 : n < 26
            · skip
              obtain rfl : n = 25 := by omega
              exact v_sw he hu rfl rfl (by decide) 863 rfl (ru_ne (by decide +kernel)) (lc_ahead he hL hi kk hJ)
            · skip
              obtain rfl : n = 26 := by omega
              exact v_sw he hu rfl rfl (by decide) 886 rfl (ru_ne (by decide +kernel)) (lc_alike he hL hi kk hJ)
      · skip
        by_cases h30 : n < 30
        · skip
          by_cases h28 : n < 28
          · skip
            obtain rfl : n = 27 := by omega
            exact v_sw he hu rfl rfl (by decide) 899 rfl (ru_ne (by decide +kernel)) (lc_unrest he hL hi kk hJ)
          · skip
            by_cases h29 : n < 29
            · skip
              obtain rfl : n = 28 := by omega
              exact v_sw he hu rfl rfl (by decide) 922 rfl (ru_ne (by decide +kernel)) (lc_sways he hL hi kk hJ)
            · skip
              obtain rfl : n = 29 := by omega
              exact v_sw he hu rfl rfl (by decide) 965 rfl (ru_ne (by decide +kernel)) (lc_brightest he hL hi kk hJ)
        · skip
          by_cases h31 : n < 31
          · skip
            obtain rfl : n = 30 := by omega
            exact v_sw he hu rfl rfl (by decide) 978 rfl (ru_ne (by decide +kernel)) (lc_parties he hL hi kk hJ)
          · skip
            by_cases h32 : n < 32
            · skip
              obtain rfl : n = 31 := by omega
              exact v_sw he hu rfl rfl (by decide) 1011 rfl (ru_ne (by decide +kernel)) (lc_least he hL hi kk hJ)
            · skip
              obtain rfl : n = 32 := by omega
              exact v_sw he hu rfl rfl (by decide) 1044 rfl (ru_ne (by decide +kernel)) (lc_best he hL hi kk hJ)
    · skip
      by_cases h39 : n < 39
      · skip
        by_cases h36 : n < 36
        · skip
          by_cases h34 : n < 34
          · skip
            obtain rfl : n = 33 := by omega
            exact v_sw he hu rfl rfl (by decide) 1067 rfl (ru_ne (by decide +kernel)) (lc_odds he hL hi kk hJ)
          · skip
            by_cases h35 : n < 35
            · skip
              obtain rfl : n = 34 := by omega
              exact v_sw he hu rfl rfl (by decide) 1100 rfl (ru_ne (by decide +kernel)) (lc_moved he hL hi kk hJ)
            · skip
              obtain rfl : n = 35 := by omega
              exact v_sw he hu rfl rfl (by decide) 1123 rfl (ru_ne (by decide +kernel)) (lc_key he hL hi kk hJ)
        · skip
          by_cases h37 : n < 37
          · skip
            obtain rfl : n = 36 := by omega
            exact v_sw he hu rfl rfl (by decide) 1136 rfl (ru_ne (by decide +kernel)) (lc_lies he hL hi kk hJ)
          · skip
            by_cases h38 : n < 38
            · skip
              obtain rfl : n = 37 := by omega
              exact v_sw he hu rfl rfl (by decide) 1159 rfl (ru_ne (by decide +kernel)) (lc_looks he hL hi kk hJ)
            · skip
              obtain rfl : n = 38 := by omega
              exact v_sw he hu rfl rfl (by decide) 1228 rfl (ru_ne (by decide +kernel)) (lc_untell he hL hi kk hJ)
      · skip
        by_cases h42 : n < 42
        · skip
          by_cases h40 : n < 40
          · skip
            obtain rfl : n = 39 := by omega
            exact v_sw he hu rfl rfl (by decide) 1251 rfl (ru_ne (by decide +kernel)) (lc_later he hL hi kk hJ)
          · skip
            by_cases h41 : n < 41
            · skip
              obtain rfl : n = 40 := by omega
              exact v_sw he hu rfl rfl (by decide) 1274 rfl (ru_ne (by decide +kernel)) (lc_fits he hL hi kk hJ)
            · skip
              obtain rfl : n = 41 := by omega
              exact v_sw he hu rfl rfl (by decide) 1297 rfl (ru_ne (by decide +kernel)) (lc_ask he hL hi kk hJ)
        · skip
          by_cases h43 : n < 43
          · skip
            obtain rfl : n = 42 := by omega
            exact v_sw he hu rfl rfl (by decide) 1340 rfl (ru_ne (by decide +kernel)) (lc_image he hL hi kk hJ)
          · skip
            by_cases h44 : n < 44
            · skip
              obtain rfl : n = 43 := by omega
              exact v_sw he hu rfl rfl (by decide) 1363 rfl (ru_ne (by decide +kernel)) (lc_back he hL hi kk hJ)
            · skip
              obtain rfl : n = 44 := by omega
              exact v_sw he hu rfl rfl (by decide) 1386 rfl (ru_ne (by decide +kernel)) (lc_about he hL hi kk hJ)
set_option maxRecDepth 100000 in
theorem lw_loop (he : ai_env X B) (hL : B.2.1 ≤ 3072) : ∀ n i h, B.2.1 ≤ i + n → i ≤ 4000 → la_J h → rv l X Y B 64 fw_law 18 (lw_l i) [] h lw_K := by
  have hu := hu_law
  intro n
  induction n with
  | zero =>
    intro i h hn hi4 hJ
    refine v_ld he hu rfl rfl rfl rfl rfl ?_
    refine v_ld he hu rfl rfl rfl rfl rfl ?_
    refine v_len he hu rfl rfl ?_
    refine v_c he hu rfl rfl rfl rfl ?_
    refine v_bin hu rfl rfl (fun q => by omega) ?_
    refine v_cmp he hu rfl rfl rfl (ru_ne (by decide +kernel)) (fun c1 => ?_) (fun c1 => ?_)
    · refine v_c he hu rfl rfl rfl rfl ?_
      exact v_iret he hu rfl rfl rfl
    · rw [ai_con4, lw_six hL, rb_small (x := i) (by omega)] at c1
      have := fx_nlt c1
      omega
  | succ n ih =>
    intro i h hn hi4 hJ
    refine v_ld he hu rfl rfl rfl rfl rfl ?_
    refine v_ld he hu rfl rfl rfl rfl rfl ?_
    refine v_len he hu rfl rfl ?_
    refine v_c he hu rfl rfl rfl rfl ?_
    refine v_bin hu rfl rfl (fun q => by omega) ?_
    refine v_cmp he hu rfl rfl rfl (ru_ne (by decide +kernel)) (fun c1 => ?_) (fun c1 => ?_)
    · refine v_c he hu rfl rfl rfl rfl ?_
      exact v_iret he hu rfl rfl rfl
    · rw [ai_con4, lw_six hL, rb_small (x := i) (by omega)] at c1
      have c1 := fx_nlt c1
      have hi : i + 6 ≤ B.2.1 := by omega
      refine v_ld he hu rfl rfl rfl rfl rfl ?_
      refine v_ld he hu rfl rfl rfl rfl rfl ?_
      refine v_sld he hu rfl rfl (by omega) ?_
      refine v_c he hu rfl rfl rfl rfl ?_
      refine v_bin hu rfl rfl (fun q => by omega) ?_
      rw [rop_and (rx_n_lt _)]
      refine lw_case he hL hi (Nat.lt_succ_of_le Nat.and_le_right) (fun h1 hJ1 => ?_) hJ
      refine v_inc he hu rfl rfl rfl ?_
      rw [show Nat.mod (Nat.add i 6) 4294967296 = i + 6 from Nat.mod_eq_of_lt (by show i + 6 < _; omega)]
      refine v_go he hu rfl (ru_ne (by decide +kernel)) ?_
      exact ih (i + 6) h1 (by omega) (by omega) hJ1
end LO
section FXT
variable {p : Program} {e : Env} {s : State} {m : MethodId} {below : List Frame} {meth : Method} {c : Code} {l : Launch} {b L : Nat} {xs : Nat → Int32} {X : fx_X} {Y : fx_Y} {B : fx_B}
theorem lw_mem : ∀ q ∈ fx_to fw_law 18, q ∈ fw_law := by
  cases hq : fx_to fw_law 18 with
  | nil => intro q h; cases h
  | cons r t => exact (fx_to_ok hq).2
/-- from the loop's head: the law ends with true -/
theorem fx_stage (C0 : lw_At p s m meth c b L xs) (hXX : fx_xx X B) (hcx : fx_cx X Y B s) (hbase : X.2.1 = s.heap.size) {j0 : fx_J} {H : Heap} {locs : List Loc} {ls : Array Slot} (hs : fx_st X Y 4 fx_l0 [] fx_g0 j0 H locs ls []) {ce sl : Nat} (hce : ce ≤ 1000) (hsl : sl ≤ 100000) : W p l e room_1 s m #[Value.ref b] below meth c H locs ce sl (lw_Z below #[Value.ref b] s) (F0 m 18 ls []) := by
  refine W.widen (k := 1000) (n := 100000) hce hsl ?_
  have he : ai_env X B := ⟨hXX, fx_mall_ok, fx_wd_ok, rx_wa_ok⟩
  have K := lw_loop (l := l) (X := X) (Y := Y) (B := B) he hXX.2.2.2.2.1 B.2.1 0 fx_g0 (by omega) (by decide) g0_J
  have K2 := K p e room_1 s m #[Value.ref b] below meth c (lw_Z below #[Value.ref b] s) code 4 R_law false (some .boolean) (fx_lawfs C0 hcx hbase (fun pc kd a b' d hin _ => fx_law_hw pc kd a b' d hin)) ⟨Nat.le_of_ble_eq_true rfl, Nat.le_of_ble_eq_true rfl, Nat.le_of_ble_eq_true rfl, Nat.le_of_ble_eq_true rfl⟩ (fun q hq => lw_mem q hq) (fun v w h' j' H' locs' ce' sl' pc' ls' hk => fx_lawrt C0 hbase (Nat.le_refl _) (Nat.le_refl _) v w h' j' H' locs' ce' sl' pc' ls' (by
    have hk := rx_b_iff.mp hk
    have hk : v = some (fc 1) := hk
    rw [hk]
    rfl)) H locs ls [] ⟨hs.1, hs.2.1, hs.2.2.1, rx_rj0, hs.2.2.2.2⟩
  rw [show fx_pc (fx_to fw_law 18) = 18 from by decide +kernel] at K2
  exact K2
end FXT
/-- YOUR PART: from the entry, for every script of at most 3072 ints, the law comes to its end with true -/
theorem whole_start {p : Program} {e : Env} {s : State} {m : MethodId} {below : List Frame} {meth : Method} {c : Code} (l : Launch) (hflags : l.flags = flags0) {b L : Nat} {xs : Nat → Int32} (hL : L ≤ 3072) (C0 : lw_At p s m meth c b L xs) : W p l e room_1 s m #[Value.ref b] below meth c s.heap [] 0 0 (lw_Z below #[Value.ref b] s) (entryFrame m ([Value.ref b] : List Value).toArray 4) := by
  obtain ⟨hx, hb, hr, hml, hown, hts, hX, hbl, hlocks, hgv⟩ := id C0
  obtain ⟨X, Y, B, hXX, hcx, hbase, hG, hBb, hBL⟩ := fx_enter hts hX hbl hL hgv
  obtain ⟨hxo, h7, hxs, h8, hL6, hb0, -⟩ := id hXX
  have hl := lv_entry ([Value.ref b]) (n := 4) (Nat.le_of_ble_eq_true rfl)
  rw [lg_entry_eq]
  generalize (lg_sl ([Value.ref b]) ++ List.replicate (4 - (lg_sl ([Value.ref b])).length) Slot.unset).toArray = ls at hl ⊢
  have hcd := fx_codB_ok fx_law_new
  have hw : ∀ pc kd a b' d, (pc, kd, a, b', d) ∈ fw_new → kd ≠ 28 → decode code pc = .ok (fx_ins pc kd a b' d) ∧ fx_an fx_mst fx_mt (fx_cn 17) false (some .boolean) 4 kd a b' d := by
    intro pc kd a b' d hin hne
    refine (hcd pc kd a b' d (List.mem_filter.mpr ⟨hin, ?_⟩)).2
    show (!Nat.beq kd 28) = true
    cases hq : Nat.beq kd 28 with
    | true => exact absurd (fx_beq hq) hne
    | false => rfl
  have hrj : fx_rj X fx_jf := fx_rj9 (q7 := (0, 4294967295)) (q8 := (0, 4294967295)) ⟨Nat.zero_le _, Nat.le_of_lt_succ (fx_z_max _)⟩ ⟨Nat.zero_le _, Nat.le_of_lt_succ (fx_z_max _)⟩
  have hrh : fx_rh X Y (0, []) s.heap := ⟨by rw [hbase]; rfl, fun k x hk => by rw [fx_hget_eq] at hk; simp at hk, fun q _ => by rw [hG]⟩
  exact (fx_go_ok (E := fx_ev fx_s0z fx_kc1) hXX fx_mall_ok fx_sum0 rfl rfl fx_wd_ok 20000).2 20 fw_new fw_new [(0, fr 1000000)] [] 0 0 1000 100000 (0, []) fx_jf (fun _ _ _ => false) fx_run_new p e room_1 s m #[Value.ref b] below meth c (lw_Z below #[Value.ref b] s) code 4 R_law false (some .boolean) (fx_lawfs C0 hcx hbase hw) ⟨Nat.le_of_ble_eq_true rfl, Nat.le_of_ble_eq_true rfl, Nat.le_of_ble_eq_true rfl, Nat.le_of_ble_eq_true rfl⟩ (fun _ h => h) (fun v w h j H locs ce sl pc ls hk => by cases hk) (fun q hq h28 loc h j H locs ls ce sl hk hst hce hsl => by
    have hq18 : q.1 = 18 := by
      have key : ∀ q ∈ fw_new, Nat.beq q.2.1 28 = true → Nat.beq q.1 18 = true := by decide +kernel
      exact fx_beq (key q hq (by rw [h28]; rfl))
    rw [hq18]
    obtain ⟨k1, k2⟩ := fx_and hk
    have k1 := fx_lq_ok fx_nq_ok k1
    have k2 := fx_hq_ok k2
    subst k1; subst k2
    exact fx_stage C0 hXX hcx hbase hst hce hsl) s.heap [] ls [] ⟨⟨_, hl, ⟨⟨rfl, by show Value.ref b = fx_ad X 1000000; rw [hb0, hBb]⟩, trivial⟩⟩, trivial, hrh, hrj, fun q hq => by cases hq⟩ (Nat.zero_le _) (Nat.zero_le _)
