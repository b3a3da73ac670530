/-! the law: its script, its cases -/
theorem hu_law : ru_u fw_law = true := by decide +kernel
theorem ne_law : fx_to fw_law 1409 ≠ [] := ru_ne (by decide +kernel)
section LR
variable {l : Launch} {X : fx_X} {Y : fx_Y} {B : fx_B} {d : Nat} {cod : List fx_I} {K : rx_K} {loc : fx_L} {stk : List fx_V} {h : fx_H} {pc a b c nx : Nat} {tl : List fx_I}
theorem ry_len (hXX : fx_xx X B) (hn : ry_nx l X Y B d cod K pc 1 tl loc (fc B.2.1 :: stk) h) : ry_run l X Y B d cod ((pc, 18, a, b, c) :: tl) loc (fr 1000000 :: stk) h K := by
  intro p e R s m args below meth c0 Q cc nL own ini rt F hR hsub hrt H locs ls st hs
  have hgo := ry_gok F hR hrt
  obtain ⟨hx, hb, -, hown, hts, -, -, -, hcx, -, hcod⟩ := F
  obtain ⟨hd, ha⟩ := hcod _ _ _ _ _ (hsub _ List.mem_cons_self) (by decide)
  obtain ⟨hl0, hst, hrh, hrj, hls⟩ := hs
  obtain ⟨w, st1, rfl, hrv, hst1⟩ := fx_rl_cons hst
  have hw : w = fx_ad X 1000000 := hrv
  subst hw
  obtain ⟨hxo, -, hxs, h8, hL, hb0, -, hb2, hbl⟩ := hXX
  obtain ⟨scr, g1, g2, g3, g4, g5⟩ := hcx.2.2.2.2.2.2.2.2.2.2
  rw [hb0]
  exact W.alen (n := Int32.ofNat B.2.1) hx hb (by rw [hrh.2.2 _ hbl]; exact g1) g2 (by rw [g4]) rfl rfl hd (fx_nxt hgo (fun q hq => hsub q (List.mem_cons_of_mem _ hq)) hn ⟨hl0, ⟨rfl, hst1⟩, hrh, hrj, hls⟩ (by decide) (by decide))
theorem ry_sld {n : Nat} (hXX : fx_xx X B) (hnL : n < B.2.1) (hn : ry_nx l X Y B d cod K pc 1 tl loc (fc (rx_n (B.2.2.1 n)) :: stk) h) : ry_run l X Y B d cod ((pc, 6, 0, b, c) :: tl) loc (fc n :: fr 1000000 :: stk) h K := by
  intro p e R s m args below meth c0 Q cc nL own ini rt F hR hsub hrt H locs ls st hs
  have hgo := ry_gok F hR hrt
  obtain ⟨hx, hb, -, hown, hts, -, -, -, hcx, -, hcod⟩ := F
  obtain ⟨hd, ha⟩ := hcod _ _ _ _ _ (hsub _ List.mem_cons_self) (by decide)
  obtain ⟨hl0, hst, hrh, hrj, hls⟩ := hs
  obtain ⟨wi, st1, rfl, hri, hst1⟩ := fx_rl_cons hst
  obtain ⟨wr, st2, rfl, hrr, hst2⟩ := fx_rl_cons hst1
  have hri : wi = .int (Int32.ofNat n) := hri
  subst hri
  have hrr : wr = fx_ad X 1000000 := hrr
  subst hrr
  obtain ⟨hxo, -, hxs, h8, hL, hb0, -, -, hbl⟩ := hXX
  obtain ⟨scr, g1, g2, g3, g4, g5⟩ := hcx.2.2.2.2.2.2.2.2.2.2
  rw [hb0]
  exact fx_wald (ty := 0) (cell := scr) hx hb (by rw [hrh.2.2 _ hbl]; exact g1) g2 g3 rfl (by rw [g4]; exact hnL) (by omega) (g5 n hnL) hd (fx_nxt hgo (fun q hq => hsub q (List.mem_cons_of_mem _ hq)) hn ⟨hl0, ⟨by show Value.int _ = .int (Int32.ofNat (rx_n _)); rw [rx_n_of], hst2⟩, hrh, hrj, hls⟩ (by decide) (by decide))
theorem v_len (he : ai_env X B) (hu : ru_u cod = true) (hat : ru_e cod pc = some (18, a, b, c, nx)) (hl : nx = pc + (0 + 1)) (k : rv l X Y B d cod nx loc (fc B.2.1 :: stk) h K) : rv l X Y B d cod pc loc (fr 1000000 :: stk) h K := rv_raw hu hat (fun tl ht => ry_len he.1 (rv_nx ht hl k))
theorem v_sld {n : Nat} (he : ai_env X B) (hu : ru_u cod = true) (hat : ru_e cod pc = some (6, 0, b, c, nx)) (hl : nx = pc + (0 + 1)) (hn : n < B.2.1) (k : rv l X Y B d cod nx loc (fc (rx_n (B.2.2.1 n)) :: stk) h K) : rv l X Y B d cod pc loc (fc n :: fr 1000000 :: stk) h K := rv_raw hu hat (fun tl ht => ry_sld he.1 hn (rv_nx ht hl k))
set_option maxRecDepth 100000 in
theorem v_sw {n : Nat} (he : ai_env X B) (hu : ru_u cod = true) (hat : ru_e cod pc = some (20, a, 0, c, nx)) (hn : n < 2147483648) (t : Nat) (ht : (match fx_nth (fx_swt c) n with
    | some t => t
    | none => a) = t) (hne : fx_to cod t ≠ []) (k : rv l X Y B d cod t loc stk h K) : rv l X Y B d cod pc loc (fc n :: stk) h K := rv_step he hu hat (fun tl _ => by
  show fx_k20 rx_E (ry_go l X Y B d cod K) cod a 0 c loc (fc n :: stk) 1000 100000 h [] = true
  have e0 : rx_E.2.1 c = fx_swt c := rfl
  unfold fx_k20
  simp only [ru_nz (v := fc n) rfl, e0]
  unfold fx_sw
  simp only
  rw [rb_small hn, rb_small (x := 0) (by decide), show Nat.ble (0 + 2147483648) (n + 2147483648) = true from rx_ble (by omega), fx_if_t, show n + 2147483648 - (0 + 2147483648) = n by omega]
  cases hq : fx_nth (fx_swt c) n with
  | some t' =>
    rw [hq] at ht
    have ht : t' = t := ht
    subst ht
    exact rv_jmp hne k
  | none =>
    rw [hq] at ht
    have ht : a = t := ht
    subst ht
    exact rv_jmp hne k)
end LR
abbrev lw_K : rx_K := fun v _ => v = some (fc 1)
abbrev lw_l (i : Nat) : fx_L := [(3, fc i), (2, fr 67), (1, fr 0), (0, fr 1000000)]
section LC
variable {l : Launch} {X : fx_X} {Y : fx_Y} {B : fx_B} {i : Nat}
set_option maxRecDepth 100000 in
theorem lc_feed (he : ai_env X B) (hL : B.2.1 ≤ 3072) (hi : i + 6 ≤ B.2.1) (kk : ∀ h, la_J h → rv l X Y B 64 fw_law 1409 (lw_l i) [] h lw_K) {h : fx_H} (hJ : la_J h) : rv l X Y B 64 fw_law 228 (lw_l i) [] h lw_K := by
  have hu := hu_law
  refine v_ld he hu rfl rfl rfl rfl rfl ?_
  refine v_ld he hu rfl rfl rfl rfl rfl ?_
  refine v_ld he hu rfl rfl rfl rfl rfl ?_
  refine v_c he hu rfl rfl rfl rfl ?_
  refine v_bin hu rfl rfl (fun q => by omega) ?_
  rw [rop_add (by omega)]
  refine v_sld he hu rfl rfl (by omega) ?_
  refine v_ld he hu rfl rfl rfl rfl rfl ?_
  refine v_ld he hu rfl rfl rfl rfl rfl ?_
  refine v_c he hu rfl rfl rfl rfl ?_
  refine v_bin hu rfl rfl (fun q => by omega) ?_
  rw [rop_add (by omega)]
  refine v_sld he hu rfl rfl (by omega) ?_
  refine v_ld he hu rfl rfl rfl rfl rfl ?_
  refine v_ld he hu rfl rfl rfl rfl rfl ?_
  refine v_c he hu rfl rfl rfl rfl ?_
  refine v_bin hu rfl rfl (fun q => by omega) ?_
  rw [rop_add (by omega)]
  refine v_sld he hu rfl rfl (by omega) ?_
  refine v_ld he hu rfl rfl rfl rfl rfl ?_
  refine v_ld he hu rfl rfl rfl rfl rfl ?_
  refine v_c he hu rfl rfl rfl rfl ?_
  refine v_bin hu rfl rfl (fun q => by omega) ?_
  rw [rop_add (by omega)]
  refine v_sld he hu rfl rfl (by omega) ?_
  refine v_ld he hu rfl rfl rfl rfl rfl ?_
  refine v_ld he hu rfl rfl rfl rfl rfl ?_
  refine v_c he hu rfl rfl rfl rfl ?_
  refine v_bin hu rfl rfl (fun q => by omega) ?_
  rw [rop_add (by omega)]
  refine v_sld he hu rfl rfl (by omega) ?_
  refine v_callX he hu hJ.1.1 rfl rfl rfl rfl (px_feed he hJ (rx_n_lt _) (rx_n_lt _) (rx_n_lt _) (rx_n_lt _) (rx_n_lt _)) (fun v h1 q => ?_)
  obtain ⟨⟨x1, rfl⟩, hJ1⟩ := q
  refine v_pop he hu rfl rfl rfl ?_
  refine v_ld he hu rfl rfl rfl rfl rfl ?_
  refine v_ld he hu rfl rfl rfl rfl rfl ?_
  refine v_ld he hu rfl rfl rfl rfl rfl ?_
  refine v_c he hu rfl rfl rfl rfl ?_
  refine v_bin hu rfl rfl (fun q => by omega) ?_
  rw [rop_add (by omega)]
  refine v_sld he hu rfl rfl (by omega) ?_
  refine v_ld he hu rfl rfl rfl rfl rfl ?_
  refine v_ld he hu rfl rfl rfl rfl rfl ?_
  refine v_c he hu rfl rfl rfl rfl ?_
  refine v_bin hu rfl rfl (fun q => by omega) ?_
  rw [rop_add (by omega)]
  refine v_sld he hu rfl rfl (by omega) ?_
  refine v_ld he hu rfl rfl rfl rfl rfl ?_
  refine v_ld he hu rfl rfl rfl rfl rfl ?_
  refine v_c he hu rfl rfl rfl rfl ?_
  refine v_bin hu rfl rfl (fun q => by omega) ?_
  rw [rop_add (by omega)]
  refine v_sld he hu rfl rfl (by omega) ?_
  refine v_ld he hu rfl rfl rfl rfl rfl ?_
  refine v_ld he hu rfl rfl rfl rfl rfl ?_
  refine v_c he hu rfl rfl rfl rfl ?_
  refine v_bin hu rfl rfl (fun q => by omega) ?_
  rw [rop_add (by omega)]
  refine v_sld he hu rfl rfl (by omega) ?_
  refine v_ld he hu rfl rfl rfl rfl rfl ?_
  refine v_ld he hu rfl rfl rfl rfl rfl ?_
  refine v_c he hu rfl rfl rfl rfl ?_
  refine v_bin hu rfl rfl (fun q => by omega) ?_
  rw [rop_add (by omega)]
  refine v_sld he hu rfl rfl (by omega) ?_
  refine v_callM he hu hJ1.1.1 rfl rfl rfl rfl (pm_feed he hJ1 (rx_n_lt _) (rx_n_lt _) (rx_n_lt _) (rx_n_lt _) (rx_n_lt _)) (fun v h2 q => ?_)
  obtain ⟨⟨x2, rfl⟩, hJ2⟩ := q
  refine v_pop he hu rfl rfl rfl ?_
  refine v_go he hu rfl ne_law ?_
  exact kk _ hJ2
set_option maxRecDepth 100000 in
theorem lc_end (he : ai_env X B) (hL : B.2.1 ≤ 3072) (hi : i + 6 ≤ B.2.1) (kk : ∀ h, la_J h → rv l X Y B 64 fw_law 1409 (lw_l i) [] h lw_K) {h : fx_H} (hJ : la_J h) : rv l X Y B 64 fw_law 291 (lw_l i) [] h lw_K := by
  have hu := hu_law
  refine v_ld he hu rfl rfl rfl rfl rfl ?_
  refine v_ld he hu rfl rfl rfl rfl rfl ?_
  refine v_ld he hu rfl rfl rfl rfl rfl ?_
  refine v_c he hu rfl rfl rfl rfl ?_
  refine v_bin hu rfl rfl (fun q => by omega) ?_
  rw [rop_add (by omega)]
  refine v_sld he hu rfl rfl (by omega) ?_
  refine v_callX he hu hJ.1.1 rfl rfl rfl rfl (px_end he hJ (rx_n_lt _)) (fun v h1 q => ?_)
  obtain ⟨⟨x1, rfl⟩, hJ1⟩ := q
  refine v_pop he hu rfl rfl rfl ?_
  refine v_ld he hu rfl rfl rfl rfl rfl ?_
  refine v_ld he hu rfl rfl rfl rfl rfl ?_
  refine v_ld he hu rfl rfl rfl rfl rfl ?_
  refine v_c he hu rfl rfl rfl rfl ?_
  refine v_bin hu rfl rfl (fun q => by omega) ?_
  rw [rop_add (by omega)]
  refine v_sld he hu rfl rfl (by omega) ?_
  refine v_callM he hu hJ1.1.1 rfl rfl rfl rfl (pm_end he hJ1 (rx_n_lt _)) (fun v h2 q => ?_)
  obtain ⟨⟨x2, rfl⟩, hJ2⟩ := q
  refine v_pop he hu rfl rfl rfl ?_
  refine v_go he hu rfl ne_law ?_
  exact kk _ hJ2
set_option maxRecDepth 100000 in
theorem lc_senate (he : ai_env X B) (hL : B.2.1 ≤ 3072) (hi : i + 6 ≤ B.2.1) (kk : ∀ h, la_J h → rv l X Y B 64 fw_law 1409 (lw_l i) [] h lw_K) {h : fx_H} (hJ : la_J h) : rv l X Y B 64 fw_law 314 (lw_l i) [] h lw_K := by
  have hu := hu_law
  refine v_ld he hu rfl rfl rfl rfl rfl ?_
  refine v_callX he hu hJ.1.1 rfl rfl rfl rfl (px_senate he hJ) (fun v h1 q => ?_)
  obtain ⟨⟨x1, rfl⟩, hJ1⟩ := q
  refine v_pop he hu rfl rfl rfl ?_
  refine v_ld he hu rfl rfl rfl rfl rfl ?_
  refine v_callM he hu hJ1.1.1 rfl rfl rfl rfl (pm_senate he hJ1) (fun v h2 q => ?_)
  obtain ⟨⟨x2, rfl⟩, hJ2⟩ := q
  refine v_pop he hu rfl rfl rfl ?_
  refine v_go he hu rfl ne_law ?_
  exact kk _ hJ2
set_option maxRecDepth 100000 in
theorem lc_fault (he : ai_env X B) (hL : B.2.1 ≤ 3072) (hi : i + 6 ≤ B.2.1) (kk : ∀ h, la_J h → rv l X Y B 64 fw_law 1409 (lw_l i) [] h lw_K) {h : fx_H} (hJ : la_J h) : rv l X Y B 64 fw_law 327 (lw_l i) [] h lw_K := by
  have hu := hu_law
  refine v_ld he hu rfl rfl rfl rfl rfl ?_
  refine v_ld he hu rfl rfl rfl rfl rfl ?_
  refine v_ld he hu rfl rfl rfl rfl rfl ?_
  refine v_c he hu rfl rfl rfl rfl ?_
  refine v_bin hu rfl rfl (fun q => by omega) ?_
  rw [rop_add (by omega)]
  refine v_sld he hu rfl rfl (by omega) ?_
  refine v_callX he hu hJ.1.1 rfl rfl rfl rfl (px_fault he hJ (rx_n_lt _)) (fun v h1 q => ?_)
  obtain ⟨⟨x1, rfl⟩, hJ1⟩ := q
  refine v_pop he hu rfl rfl rfl ?_
  refine v_ld he hu rfl rfl rfl rfl rfl ?_
  refine v_ld he hu rfl rfl rfl rfl rfl ?_
  refine v_ld he hu rfl rfl rfl rfl rfl ?_
  refine v_c he hu rfl rfl rfl rfl ?_
  refine v_bin hu rfl rfl (fun q => by omega) ?_
  rw [rop_add (by omega)]
  refine v_sld he hu rfl rfl (by omega) ?_
  refine v_callM he hu hJ1.1.1 rfl rfl rfl rfl (pm_fault he hJ1 (rx_n_lt _)) (fun v h2 q => ?_)
  obtain ⟨⟨x2, rfl⟩, hJ2⟩ := q
  refine v_pop he hu rfl rfl rfl ?_
  refine v_go he hu rfl ne_law ?_
  exact kk _ hJ2
set_option maxRecDepth 100000 in
theorem lc_member (he : ai_env X B) (hL : B.2.1 ≤ 3072) (hi : i + 6 ≤ B.2.1) (kk : ∀ h, la_J h → rv l X Y B 64 fw_law 1409 (lw_l i) [] h lw_K) {h : fx_H} (hJ : la_J h) : rv l X Y B 64 fw_law 350 (lw_l i) [] h lw_K := by
  have hu := hu_law
  refine v_ld he hu rfl rfl rfl rfl rfl ?_
  refine v_ld he hu rfl rfl rfl rfl rfl ?_
  refine v_ld he hu rfl rfl rfl rfl rfl ?_
  refine v_c he hu rfl rfl rfl rfl ?_
  refine v_bin hu rfl rfl (fun q => by omega) ?_
  rw [rop_add (by omega)]
  refine v_sld he hu rfl rfl (by omega) ?_
  refine v_ld he hu rfl rfl rfl rfl rfl ?_
  refine v_ld he hu rfl rfl rfl rfl rfl ?_
  refine v_c he hu rfl rfl rfl rfl ?_
  refine v_bin hu rfl rfl (fun q => by omega) ?_
  rw [rop_add (by omega)]
  refine v_sld he hu rfl rfl (by omega) ?_
  refine v_callX he hu hJ.1.1 rfl rfl rfl rfl (px_member he hJ (rx_n_lt _) (rx_n_lt _)) (fun v h1 q => ?_)
  obtain ⟨⟨x1, rfl⟩, hJ1⟩ := q
  refine v_pop he hu rfl rfl rfl ?_
  refine v_ld he hu rfl rfl rfl rfl rfl ?_
  refine v_ld he hu rfl rfl rfl rfl rfl ?_
  refine v_ld he hu rfl rfl rfl rfl rfl ?_
  refine v_c he hu rfl rfl rfl rfl ?_
  refine v_bin hu rfl rfl (fun q => by omega) ?_
  rw [rop_add (by omega)]
  refine v_sld he hu rfl rfl (by omega) ?_
  refine v_ld he hu rfl rfl rfl rfl rfl ?_
  refine v_ld he hu rfl rfl rfl rfl rfl ?_
  refine v_c he hu rfl rfl rfl rfl ?_
  refine v_bin hu rfl rfl (fun q => by omega) ?_
  rw [rop_add (by omega)]
  refine v_sld he hu rfl rfl (by omega) ?_
  refine v_callM he hu hJ1.1.1 rfl rfl rfl rfl (pm_member he hJ1 (rx_n_lt _) (rx_n_lt _)) (fun v h2 q => ?_)
  obtain ⟨⟨x2, rfl⟩, hJ2⟩ := q
  refine v_pop he hu rfl rfl rfl ?_
  refine v_go he hu rfl ne_law ?_
  exact kk _ hJ2
set_option maxRecDepth 100000 in
theorem lc_district (he : ai_env X B) (hL : B.2.1 ≤ 3072) (hi : i + 6 ≤ B.2.1) (kk : ∀ h, la_J h → rv l X Y B 64 fw_law 1409 (lw_l i) [] h lw_K) {h : fx_H} (hJ : la_J h) : rv l X Y B 64 fw_law 383 (lw_l i) [] h lw_K := by
  have hu := hu_law
  refine v_ld he hu rfl rfl rfl rfl rfl ?_
  refine v_ld he hu rfl rfl rfl rfl rfl ?_
  refine v_ld he hu rfl rfl rfl rfl rfl ?_
  refine v_c he hu rfl rfl rfl rfl ?_
  refine v_bin hu rfl rfl (fun q => by omega) ?_
  rw [rop_add (by omega)]
  refine v_sld he hu rfl rfl (by omega) ?_
  refine v_ld he hu rfl rfl rfl rfl rfl ?_
  refine v_ld he hu rfl rfl rfl rfl rfl ?_
  refine v_c he hu rfl rfl rfl rfl ?_
  refine v_bin hu rfl rfl (fun q => by omega) ?_
  rw [rop_add (by omega)]
  refine v_sld he hu rfl rfl (by omega) ?_
  refine v_callX he hu hJ.1.1 rfl rfl rfl rfl (px_district he hJ (rx_n_lt _) (rx_n_lt _)) (fun v h1 q => ?_)
  obtain ⟨⟨x1, rfl⟩, hJ1⟩ := q
  refine v_pop he hu rfl rfl rfl ?_
  refine v_ld he hu rfl rfl rfl rfl rfl ?_
  refine v_ld he hu rfl rfl rfl rfl rfl ?_
  refine v_ld he hu rfl rfl rfl rfl rfl ?_
  refine v_c he hu rfl rfl rfl rfl ?_
  refine v_bin hu rfl rfl (fun q => by omega) ?_
  rw [rop_add (by omega)]
  refine v_sld he hu rfl rfl (by omega) ?_
  refine v_ld he hu rfl rfl rfl rfl rfl ?_
  refine v_ld he hu rfl rfl rfl rfl rfl ?_
  refine v_c he hu rfl rfl rfl rfl ?_
  refine v_bin hu rfl rfl (fun q => by omega) ?_
  rw [rop_add (by omega)]
  refine v_sld he hu rfl rfl (by omega) ?_
  refine v_callM he hu hJ1.1.1 rfl rfl rfl rfl (pm_district he hJ1 (rx_n_lt _) (rx_n_lt _)) (fun v h2 q => ?_)
  obtain ⟨⟨x2, rfl⟩, hJ2⟩ := q
  refine v_pop he hu rfl rfl rfl ?_
  refine v_go he hu rfl ne_law ?_
  exact kk _ hJ2
set_option maxRecDepth 100000 in
theorem lc_seat (he : ai_env X B) (hL : B.2.1 ≤ 3072) (hi : i + 6 ≤ B.2.1) (kk : ∀ h, la_J h → rv l X Y B 64 fw_law 1409 (lw_l i) [] h lw_K) {h : fx_H} (hJ : la_J h) : rv l X Y B 64 fw_law 416 (lw_l i) [] h lw_K := by
  have hu := hu_law
  refine v_ld he hu rfl rfl rfl rfl rfl ?_
  refine v_ld he hu rfl rfl rfl rfl rfl ?_
  refine v_ld he hu rfl rfl rfl rfl rfl ?_
  refine v_c he hu rfl rfl rfl rfl ?_
  refine v_bin hu rfl rfl (fun q => by omega) ?_
  rw [rop_add (by omega)]
  refine v_sld he hu rfl rfl (by omega) ?_
  refine v_ld he hu rfl rfl rfl rfl rfl ?_
  refine v_ld he hu rfl rfl rfl rfl rfl ?_
  refine v_c he hu rfl rfl rfl rfl ?_
  refine v_bin hu rfl rfl (fun q => by omega) ?_
  rw [rop_add (by omega)]
  refine v_sld he hu rfl rfl (by omega) ?_
  refine v_callX he hu hJ.1.1 rfl rfl rfl rfl (px_seat he hJ (rx_n_lt _) (rx_n_lt _)) (fun v h1 q => ?_)
  obtain ⟨⟨x1, rfl⟩, hJ1⟩ := q
  refine v_pop he hu rfl rfl rfl ?_
  refine v_ld he hu rfl rfl rfl rfl rfl ?_
  refine v_ld he hu rfl rfl rfl rfl rfl ?_
  refine v_ld he hu rfl rfl rfl rfl rfl ?_
  refine v_c he hu rfl rfl rfl rfl ?_
  refine v_bin hu rfl rfl (fun q => by omega) ?_
  rw [rop_add (by omega)]
  refine v_sld he hu rfl rfl (by omega) ?_
  refine v_ld he hu rfl rfl rfl rfl rfl ?_
  refine v_ld he hu rfl rfl rfl rfl rfl ?_
  refine v_c he hu rfl rfl rfl rfl ?_
  refine v_bin hu rfl rfl (fun q => by omega) ?_
  rw [rop_add (by omega)]
  refine v_sld he hu rfl rfl (by omega) ?_
  refine v_callM he hu hJ1.1.1 rfl rfl rfl rfl (pm_seat he hJ1 (rx_n_lt _) (rx_n_lt _)) (fun v h2 q => ?_)
  obtain ⟨⟨x2, rfl⟩, hJ2⟩ := q
  refine v_pop he hu rfl rfl rfl ?_
  refine v_go he hu rfl ne_law ?_
  exact kk _ hJ2
set_option maxRecDepth 100000 in
theorem lc_report (he : ai_env X B) (hL : B.2.1 ≤ 3072) (hi : i + 6 ≤ B.2.1) (kk : ∀ h, la_J h → rv l X Y B 64 fw_law 1409 (lw_l i) [] h lw_K) {h : fx_H} (hJ : la_J h) : rv l X Y B 64 fw_law 449 (lw_l i) [] h lw_K := by
  have hu := hu_law
  refine v_ld he hu rfl rfl rfl rfl rfl ?_
  refine v_callX he hu hJ.1.1 rfl rfl rfl rfl (px_report he hJ) (fun v h1 q => ?_)
  obtain ⟨⟨x1, rfl⟩, hJ1⟩ := q
  refine v_pop he hu rfl rfl rfl ?_
  refine v_ld he hu rfl rfl rfl rfl rfl ?_
  refine v_callM he hu hJ1.1.1 rfl rfl rfl rfl (pm_report he hJ1) (fun v h2 q => ?_)
  obtain ⟨⟨x2, rfl⟩, hJ2⟩ := q
  refine v_pop he hu rfl rfl rfl ?_
  refine v_go he hu rfl ne_law ?_
  exact kk _ hJ2
set_option maxRecDepth 100000 in
theorem lc_off (he : ai_env X B) (hL : B.2.1 ≤ 3072) (hi : i + 6 ≤ B.2.1) (kk : ∀ h, la_J h → rv l X Y B 64 fw_law 1409 (lw_l i) [] h lw_K) {h : fx_H} (hJ : la_J h) : rv l X Y B 64 fw_law 462 (lw_l i) [] h lw_K := by
  have hu := hu_law
  refine v_ld he hu rfl rfl rfl rfl rfl ?_
  refine v_callX he hu hJ.1.1 rfl rfl rfl rfl (px_off he hJ) (fun v h1 q => ?_)
  obtain ⟨⟨x1, rfl⟩, hJ1⟩ := q
  refine v_pop he hu rfl rfl rfl ?_
  refine v_ld he hu rfl rfl rfl rfl rfl ?_
  refine v_callM he hu hJ1.1.1 rfl rfl rfl rfl (pm_off he hJ1) (fun v h2 q => ?_)
  obtain ⟨⟨x2, rfl⟩, hJ2⟩ := q
  refine v_pop he hu rfl rfl rfl ?_
  refine v_go he hu rfl ne_law ?_
  exact kk _ hJ2
set_option maxRecDepth 100000 in
theorem lc_step (he : ai_env X B) (hL : B.2.1 ≤ 3072) (hi : i + 6 ≤ B.2.1) (kk : ∀ h, la_J h → rv l X Y B 64 fw_law 1409 (lw_l i) [] h lw_K) {h : fx_H} (hJ : la_J h) : rv l X Y B 64 fw_law 475 (lw_l i) [] h lw_K := by
  have hu := hu_law
  refine v_ld he hu rfl rfl rfl rfl rfl ?_
  refine v_callX he hu hJ.1.1 rfl rfl rfl rfl (px_step he hJ) (fun v h1 q => ?_)
  obtain ⟨⟨x1, rfl⟩, hJ1⟩ := q
  refine v_pop he hu rfl rfl rfl ?_
  refine v_ld he hu rfl rfl rfl rfl rfl ?_
  refine v_callM he hu hJ1.1.1 rfl rfl rfl rfl (pm_step he hJ1) (fun v h2 q => ?_)
  obtain ⟨⟨x2, rfl⟩, hJ2⟩ := q
  refine v_pop he hu rfl rfl rfl ?_
  refine v_go he hu rfl ne_law ?_
  exact kk _ hJ2
set_option maxRecDepth 100000 in
theorem lc_news (he : ai_env X B) (hL : B.2.1 ≤ 3072) (hi : i + 6 ≤ B.2.1) (kk : ∀ h, la_J h → rv l X Y B 64 fw_law 1409 (lw_l i) [] h lw_K) {h : fx_H} (hJ : la_J h) : rv l X Y B 64 fw_law 488 (lw_l i) [] h lw_K := by
  have hu := hu_law
  refine v_ld he hu rfl rfl rfl rfl rfl ?_
  refine v_ld he hu rfl rfl rfl rfl rfl ?_
  refine v_ld he hu rfl rfl rfl rfl rfl ?_
  refine v_c he hu rfl rfl rfl rfl ?_
  refine v_bin hu rfl rfl (fun q => by omega) ?_
  rw [rop_add (by omega)]
  refine v_sld he hu rfl rfl (by omega) ?_
  refine v_callX he hu hJ.1.1 rfl rfl rfl rfl (px_news he hJ (rx_n_lt _)) (fun v h1 q => ?_)
  obtain ⟨⟨x1, rfl⟩, hJ1⟩ := q
  refine v_pop he hu rfl rfl rfl ?_
  refine v_ld he hu rfl rfl rfl rfl rfl ?_
  refine v_ld he hu rfl rfl rfl rfl rfl ?_
  refine v_ld he hu rfl rfl rfl rfl rfl ?_
  refine v_c he hu rfl rfl rfl rfl ?_
  refine v_bin hu rfl rfl (fun q => by omega) ?_
  rw [rop_add (by omega)]
  refine v_sld he hu rfl rfl (by omega) ?_
  refine v_callM he hu hJ1.1.1 rfl rfl rfl rfl (pm_news he hJ1 (rx_n_lt _)) (fun v h2 q => ?_)
  obtain ⟨⟨x2, rfl⟩, hJ2⟩ := q
  refine v_pop he hu rfl rfl rfl ?_
  refine v_go he hu rfl ne_law ?_
  exact kk _ hJ2
set_option maxRecDepth 100000 in
theorem lc_sit (he : ai_env X B) (hL : B.2.1 ≤ 3072) (hi : i + 6 ≤ B.2.1) (kk : ∀ h, la_J h → rv l X Y B 64 fw_law 1409 (lw_l i) [] h lw_K) {h : fx_H} (hJ : la_J h) : rv l X Y B 64 fw_law 511 (lw_l i) [] h lw_K := by
  have hu := hu_law
  refine v_ld he hu rfl rfl rfl rfl rfl ?_
  refine v_ld he hu rfl rfl rfl rfl rfl ?_
  refine v_ld he hu rfl rfl rfl rfl rfl ?_
  refine v_c he hu rfl rfl rfl rfl ?_
  refine v_bin hu rfl rfl (fun q => by omega) ?_
  rw [rop_add (by omega)]
  refine v_sld he hu rfl rfl (by omega) ?_
  refine v_ld he hu rfl rfl rfl rfl rfl ?_
  refine v_ld he hu rfl rfl rfl rfl rfl ?_
  refine v_c he hu rfl rfl rfl rfl ?_
  refine v_bin hu rfl rfl (fun q => by omega) ?_
  rw [rop_add (by omega)]
  refine v_sld he hu rfl rfl (by omega) ?_
  refine v_callX he hu hJ.1.1 rfl rfl rfl rfl (px_sit he hJ (rx_n_lt _) (rx_n_lt _)) (fun v h1 q => ?_)
  obtain ⟨⟨x1, rfl⟩, hJ1⟩ := q
  refine v_pop he hu rfl rfl rfl ?_
  refine v_ld he hu rfl rfl rfl rfl rfl ?_
  refine v_ld he hu rfl rfl rfl rfl rfl ?_
  refine v_ld he hu rfl rfl rfl rfl rfl ?_
  refine v_c he hu rfl rfl rfl rfl ?_
  refine v_bin hu rfl rfl (fun q => by omega) ?_
  rw [rop_add (by omega)]
  refine v_sld he hu rfl rfl (by omega) ?_
  refine v_ld he hu rfl rfl rfl rfl rfl ?_
  refine v_ld he hu rfl rfl rfl rfl rfl ?_
  refine v_c he hu rfl rfl rfl rfl ?_
  refine v_bin hu rfl rfl (fun q => by omega) ?_
  rw [rop_add (by omega)]
  refine v_sld he hu rfl rfl (by omega) ?_
  refine v_callM he hu hJ1.1.1 rfl rfl rfl rfl (pm_sit he hJ1 (rx_n_lt _) (rx_n_lt _)) (fun v h2 q => ?_)
  obtain ⟨⟨x2, rfl⟩, hJ2⟩ := q
  refine v_pop he hu rfl rfl rfl ?_
  refine v_go he hu rfl ne_law ?_
  exact kk _ hJ2
set_option maxRecDepth 100000 in
theorem lc_change (he : ai_env X B) (hL : B.2.1 ≤ 3072) (hi : i + 6 ≤ B.2.1) (kk : ∀ h, la_J h → rv l X Y B 64 fw_law 1409 (lw_l i) [] h lw_K) {h : fx_H} (hJ : la_J h) : rv l X Y B 64 fw_law 544 (lw_l i) [] h lw_K := by
  have hu := hu_law
  refine v_ld he hu rfl rfl rfl rfl rfl ?_
  refine v_ld he hu rfl rfl rfl rfl rfl ?_
  refine v_ld he hu rfl rfl rfl rfl rfl ?_
  refine v_c he hu rfl rfl rfl rfl ?_
  refine v_bin hu rfl rfl (fun q => by omega) ?_
  rw [rop_add (by omega)]
  refine v_sld he hu rfl rfl (by omega) ?_
  refine v_ld he hu rfl rfl rfl rfl rfl ?_
  refine v_ld he hu rfl rfl rfl rfl rfl ?_
  refine v_c he hu rfl rfl rfl rfl ?_
  refine v_bin hu rfl rfl (fun q => by omega) ?_
  rw [rop_add (by omega)]
  refine v_sld he hu rfl rfl (by omega) ?_
  refine v_callX he hu hJ.1.1 rfl rfl rfl rfl (px_change he hJ (rx_n_lt _) (rx_n_lt _)) (fun v h1 q => ?_)
  obtain ⟨⟨x1, rfl⟩, hJ1⟩ := q
  refine v_pop he hu rfl rfl rfl ?_
  refine v_ld he hu rfl rfl rfl rfl rfl ?_
  refine v_ld he hu rfl rfl rfl rfl rfl ?_
  refine v_ld he hu rfl rfl rfl rfl rfl ?_
  refine v_c he hu rfl rfl rfl rfl ?_
  refine v_bin hu rfl rfl (fun q => by omega) ?_
  rw [rop_add (by omega)]
  refine v_sld he hu rfl rfl (by omega) ?_
  refine v_ld he hu rfl rfl rfl rfl rfl ?_
  refine v_ld he hu rfl rfl rfl rfl rfl ?_
  refine v_c he hu rfl rfl rfl rfl ?_
  refine v_bin hu rfl rfl (fun q => by omega) ?_
  rw [rop_add (by omega)]
  refine v_sld he hu rfl rfl (by omega) ?_
  refine v_callM he hu hJ1.1.1 rfl rfl rfl rfl (pm_change he hJ1 (rx_n_lt _) (rx_n_lt _)) (fun v h2 q => ?_)
  obtain ⟨⟨x2, rfl⟩, hJ2⟩ := q
  refine v_pop he hu rfl rfl rfl ?_
  refine v_go he hu rfl ne_law ?_
  exact kk _ hJ2
set_option maxRecDepth 100000 in
theorem lc_unseat (he : ai_env X B) (hL : B.2.1 ≤ 3072) (hi : i + 6 ≤ B.2.1) (kk : ∀ h, la_J h → rv l X Y B 64 fw_law 1409 (lw_l i) [] h lw_K) {h : fx_H} (hJ : la_J h) : rv l X Y B 64 fw_law 577 (lw_l i) [] h lw_K := by
  have hu := hu_law
  refine v_ld he hu rfl rfl rfl rfl rfl ?_
  refine v_ld he hu rfl rfl rfl rfl rfl ?_
  refine v_ld he hu rfl rfl rfl rfl rfl ?_
  refine v_c he hu rfl rfl rfl rfl ?_
  refine v_bin hu rfl rfl (fun q => by omega) ?_
  rw [rop_add (by omega)]
  refine v_sld he hu rfl rfl (by omega) ?_
  refine v_callX he hu hJ.1.1 rfl rfl rfl rfl (px_unseat he hJ (rx_n_lt _)) (fun v h1 q => ?_)
  obtain ⟨⟨x1, rfl⟩, hJ1⟩ := q
  refine v_pop he hu rfl rfl rfl ?_
  refine v_ld he hu rfl rfl rfl rfl rfl ?_
  refine v_ld he hu rfl rfl rfl rfl rfl ?_
  refine v_ld he hu rfl rfl rfl rfl rfl ?_
  refine v_c he hu rfl rfl rfl rfl ?_
  refine v_bin hu rfl rfl (fun q => by omega) ?_
  rw [rop_add (by omega)]
  refine v_sld he hu rfl rfl (by omega) ?_
  refine v_callM he hu hJ1.1.1 rfl rfl rfl rfl (pm_unseat he hJ1 (rx_n_lt _)) (fun v h2 q => ?_)
  obtain ⟨⟨x2, rfl⟩, hJ2⟩ := q
  refine v_pop he hu rfl rfl rfl ?_
  refine v_go he hu rfl ne_law ?_
  exact kk _ hJ2
set_option maxRecDepth 100000 in
theorem lc_undo (he : ai_env X B) (hL : B.2.1 ≤ 3072) (hi : i + 6 ≤ B.2.1) (kk : ∀ h, la_J h → rv l X Y B 64 fw_law 1409 (lw_l i) [] h lw_K) {h : fx_H} (hJ : la_J h) : rv l X Y B 64 fw_law 600 (lw_l i) [] h lw_K := by
  have hu := hu_law
  refine v_ld he hu rfl rfl rfl rfl rfl ?_
  refine v_callX he hu hJ.1.1 rfl rfl rfl rfl (px_undo he hJ) (fun v h1 q => ?_)
  obtain ⟨⟨x1, rfl⟩, hJ1⟩ := q
  refine v_pop he hu rfl rfl rfl ?_
  refine v_ld he hu rfl rfl rfl rfl rfl ?_
  refine v_callM he hu hJ1.1.1 rfl rfl rfl rfl (pm_undo he hJ1) (fun v h2 q => ?_)
  obtain ⟨⟨x2, rfl⟩, hJ2⟩ := q
  refine v_pop he hu rfl rfl rfl ?_
  refine v_go he hu rfl ne_law ?_
  exact kk _ hJ2
set_option maxRecDepth 100000 in
theorem lc_redo (he : ai_env X B) (hL : B.2.1 ≤ 3072) (hi : i + 6 ≤ B.2.1) (kk : ∀ h, la_J h → rv l X Y B 64 fw_law 1409 (lw_l i) [] h lw_K) {h : fx_H} (hJ : la_J h) : rv l X Y B 64 fw_law 613 (lw_l i) [] h lw_K := by
  have hu := hu_law
  refine v_ld he hu rfl rfl rfl rfl rfl ?_
  refine v_callX he hu hJ.1.1 rfl rfl rfl rfl (px_redo he hJ) (fun v h1 q => ?_)
  obtain ⟨⟨x1, rfl⟩, hJ1⟩ := q
  refine v_pop he hu rfl rfl rfl ?_
  refine v_ld he hu rfl rfl rfl rfl rfl ?_
  refine v_callM he hu hJ1.1.1 rfl rfl rfl rfl (pm_redo he hJ1) (fun v h2 q => ?_)
  obtain ⟨⟨x2, rfl⟩, hJ2⟩ := q
  refine v_pop he hu rfl rfl rfl ?_
  refine v_go he hu rfl ne_law ?_
  exact kk _ hJ2
set_option maxRecDepth 100000 in
theorem lc_stand (he : ai_env X B) (hL : B.2.1 ≤ 3072) (hi : i + 6 ≤ B.2.1) (kk : ∀ h, la_J h → rv l X Y B 64 fw_law 1409 (lw_l i) [] h lw_K) {h : fx_H} (hJ : la_J h) : rv l X Y B 64 fw_law 626 (lw_l i) [] h lw_K := by
  have hu := hu_law
  refine v_ld he hu rfl rfl rfl rfl rfl ?_
  refine v_ld he hu rfl rfl rfl rfl rfl ?_
  refine v_ld he hu rfl rfl rfl rfl rfl ?_
  refine v_c he hu rfl rfl rfl rfl ?_
  refine v_bin hu rfl rfl (fun q => by omega) ?_
  rw [rop_add (by omega)]
  refine v_sld he hu rfl rfl (by omega) ?_
  refine v_ld he hu rfl rfl rfl rfl rfl ?_
  refine v_ld he hu rfl rfl rfl rfl rfl ?_
  refine v_c he hu rfl rfl rfl rfl ?_
  refine v_bin hu rfl rfl (fun q => by omega) ?_
  rw [rop_add (by omega)]
  refine v_sld he hu rfl rfl (by omega) ?_
  refine v_callX he hu hJ.1.1 rfl rfl rfl rfl (px_stand he hJ (rx_n_lt _) (rx_n_lt _)) (fun v h1 q => ?_)
  obtain ⟨⟨x1, rfl⟩, hJ1⟩ := q
  refine v_pop he hu rfl rfl rfl ?_
  refine v_ld he hu rfl rfl rfl rfl rfl ?_
  refine v_ld he hu rfl rfl rfl rfl rfl ?_
  refine v_ld he hu rfl rfl rfl rfl rfl ?_
  refine v_c he hu rfl rfl rfl rfl ?_
  refine v_bin hu rfl rfl (fun q => by omega) ?_
  rw [rop_add (by omega)]
  refine v_sld he hu rfl rfl (by omega) ?_
  refine v_ld he hu rfl rfl rfl rfl rfl ?_
  refine v_ld he hu rfl rfl rfl rfl rfl ?_
  refine v_c he hu rfl rfl rfl rfl ?_
  refine v_bin hu rfl rfl (fun q => by omega) ?_
  rw [rop_add (by omega)]
  refine v_sld he hu rfl rfl (by omega) ?_
  refine v_callM he hu hJ1.1.1 rfl rfl rfl rfl (pm_stand he hJ1 (rx_n_lt _) (rx_n_lt _)) (fun v h2 q => ?_)
  obtain ⟨⟨x2, rfl⟩, hJ2⟩ := q
  refine v_pop he hu rfl rfl rfl ?_
  refine v_go he hu rfl ne_law ?_
  exact kk _ hJ2
set_option maxRecDepth 100000 in
theorem lc_sample (he : ai_env X B) (hL : B.2.1 ≤ 3072) (hi : i + 6 ≤ B.2.1) (kk : ∀ h, la_J h → rv l X Y B 64 fw_law 1409 (lw_l i) [] h lw_K) {h : fx_H} (hJ : la_J h) : rv l X Y B 64 fw_law 659 (lw_l i) [] h lw_K := by
  have hu := hu_law
  refine v_ld he hu rfl rfl rfl rfl rfl ?_
  refine v_ld he hu rfl rfl rfl rfl rfl ?_
  refine v_ld he hu rfl rfl rfl rfl rfl ?_
  refine v_c he hu rfl rfl rfl rfl ?_
  refine v_bin hu rfl rfl (fun q => by omega) ?_
  rw [rop_add (by omega)]
  refine v_sld he hu rfl rfl (by omega) ?_
  refine v_ld he hu rfl rfl rfl rfl rfl ?_
  refine v_ld he hu rfl rfl rfl rfl rfl ?_
  refine v_c he hu rfl rfl rfl rfl ?_
  refine v_bin hu rfl rfl (fun q => by omega) ?_
  rw [rop_add (by omega)]
  refine v_sld he hu rfl rfl (by omega) ?_
  refine v_callX he hu hJ.1.1 rfl rfl rfl rfl (px_sample he hJ (rx_n_lt _) (rx_n_lt _)) (fun v h1 q => ?_)
  obtain ⟨⟨x1, rfl⟩, hJ1⟩ := q
  refine v_pop he hu rfl rfl rfl ?_
  refine v_ld he hu rfl rfl rfl rfl rfl ?_
  refine v_ld he hu rfl rfl rfl rfl rfl ?_
  refine v_ld he hu rfl rfl rfl rfl rfl ?_
  refine v_c he hu rfl rfl rfl rfl ?_
  refine v_bin hu rfl rfl (fun q => by omega) ?_
  rw [rop_add (by omega)]
  refine v_sld he hu rfl rfl (by omega) ?_
  refine v_ld he hu rfl rfl rfl rfl rfl ?_
  refine v_ld he hu rfl rfl rfl rfl rfl ?_
  refine v_c he hu rfl rfl rfl rfl ?_
  refine v_bin hu rfl rfl (fun q => by omega) ?_
  rw [rop_add (by omega)]
  refine v_sld he hu rfl rfl (by omega) ?_
  refine v_callM he hu hJ1.1.1 rfl rfl rfl rfl (pm_sample he hJ1 (rx_n_lt _) (rx_n_lt _)) (fun v h2 q => ?_)
  obtain ⟨⟨x2, rfl⟩, hJ2⟩ := q
  refine v_pop he hu rfl rfl rfl ?_
  refine v_go he hu rfl ne_law ?_
  exact kk _ hJ2
set_option maxRecDepth 100000 in
theorem lc_samples (he : ai_env X B) (hL : B.2.1 ≤ 3072) (hi : i + 6 ≤ B.2.1) (kk : ∀ h, la_J h → rv l X Y B 64 fw_law 1409 (lw_l i) [] h lw_K) {h : fx_H} (hJ : la_J h) : rv l X Y B 64 fw_law 692 (lw_l i) [] h lw_K := by
  have hu := hu_law
  refine v_ld he hu rfl rfl rfl rfl rfl ?_
  refine v_ld he hu rfl rfl rfl rfl rfl ?_
  refine v_ld he hu rfl rfl rfl rfl rfl ?_
  refine v_c he hu rfl rfl rfl rfl ?_
  refine v_bin hu rfl rfl (fun q => by omega) ?_
  rw [rop_add (by omega)]
  refine v_sld he hu rfl rfl (by omega) ?_
  refine v_callX he hu hJ.1.1 rfl rfl rfl rfl (px_samples he hJ (rx_n_lt _)) (fun v h1 q => ?_)
  obtain ⟨⟨x1, rfl⟩, hJ1⟩ := q
  refine v_pop he hu rfl rfl rfl ?_
  refine v_ld he hu rfl rfl rfl rfl rfl ?_
  refine v_ld he hu rfl rfl rfl rfl rfl ?_
  refine v_ld he hu rfl rfl rfl rfl rfl ?_
  refine v_c he hu rfl rfl rfl rfl ?_
  refine v_bin hu rfl rfl (fun q => by omega) ?_
  rw [rop_add (by omega)]
  refine v_sld he hu rfl rfl (by omega) ?_
  refine v_callM he hu hJ1.1.1 rfl rfl rfl rfl (pm_samples he hJ1 (rx_n_lt _)) (fun v h2 q => ?_)
  obtain ⟨⟨x2, rfl⟩, hJ2⟩ := q
  refine v_pop he hu rfl rfl rfl ?_
  refine v_go he hu rfl ne_law ?_
  exact kk _ hJ2
set_option maxRecDepth 100000 in
theorem lc_chain (he : ai_env X B) (hL : B.2.1 ≤ 3072) (hi : i + 6 ≤ B.2.1) (kk : ∀ h, la_J h → rv l X Y B 64 fw_law 1409 (lw_l i) [] h lw_K) {h : fx_H} (hJ : la_J h) : rv l X Y B 64 fw_law 715 (lw_l i) [] h lw_K := by
  have hu := hu_law
  refine v_ld he hu rfl rfl rfl rfl rfl ?_
  refine v_ld he hu rfl rfl rfl rfl rfl ?_
  refine v_ld he hu rfl rfl rfl rfl rfl ?_
  refine v_c he hu rfl rfl rfl rfl ?_
  refine v_bin hu rfl rfl (fun q => by omega) ?_
  rw [rop_add (by omega)]
  refine v_sld he hu rfl rfl (by omega) ?_
  refine v_ld he hu rfl rfl rfl rfl rfl ?_
  refine v_ld he hu rfl rfl rfl rfl rfl ?_
  refine v_c he hu rfl rfl rfl rfl ?_
  refine v_bin hu rfl rfl (fun q => by omega) ?_
  rw [rop_add (by omega)]
  refine v_sld he hu rfl rfl (by omega) ?_
  refine v_callX he hu hJ.1.1 rfl rfl rfl rfl (px_chain he hJ (rx_n_lt _) (rx_n_lt _)) (fun v h1 q => ?_)
  obtain ⟨⟨x1, rfl⟩, hJ1⟩ := q
  refine v_pop he hu rfl rfl rfl ?_
  refine v_ld he hu rfl rfl rfl rfl rfl ?_
  refine v_ld he hu rfl rfl rfl rfl rfl ?_
  refine v_ld he hu rfl rfl rfl rfl rfl ?_
  refine v_c he hu rfl rfl rfl rfl ?_
  refine v_bin hu rfl rfl (fun q => by omega) ?_
  rw [rop_add (by omega)]
  refine v_sld he hu rfl rfl (by omega) ?_
  refine v_ld he hu rfl rfl rfl rfl rfl ?_
  refine v_ld he hu rfl rfl rfl rfl rfl ?_
  refine v_c he hu rfl rfl rfl rfl ?_
  refine v_bin hu rfl rfl (fun q => by omega) ?_
  rw [rop_add (by omega)]
  refine v_sld he hu rfl rfl (by omega) ?_
  refine v_callM he hu hJ1.1.1 rfl rfl rfl rfl (pm_chain he hJ1 (rx_n_lt _) (rx_n_lt _)) (fun v h2 q => ?_)
  obtain ⟨⟨x2, rfl⟩, hJ2⟩ := q
  refine v_pop he hu rfl rfl rfl ?_
  refine v_go he hu rfl ne_law ?_
  exact kk _ hJ2
set_option maxRecDepth 100000 in
theorem lc_groups (he : ai_env X B) (hL : B.2.1 ≤ 3072) (hi : i + 6 ≤ B.2.1) (kk : ∀ h, la_J h → rv l X Y B 64 fw_law 1409 (lw_l i) [] h lw_K) {h : fx_H} (hJ : la_J h) : rv l X Y B 64 fw_law 748 (lw_l i) [] h lw_K := by
  have hu := hu_law
  refine v_ld he hu rfl rfl rfl rfl rfl ?_
  refine v_callX he hu hJ.1.1 rfl rfl rfl rfl (px_groups he hJ) (fun v h1 q => ?_)
  obtain ⟨⟨x1, rfl⟩, hJ1⟩ := q
  refine v_pop he hu rfl rfl rfl ?_
  refine v_ld he hu rfl rfl rfl rfl rfl ?_
  refine v_callM he hu hJ1.1.1 rfl rfl rfl rfl (pm_groups he hJ1) (fun v h2 q => ?_)
  obtain ⟨⟨x2, rfl⟩, hJ2⟩ := q
  refine v_pop he hu rfl rfl rfl ?_
  refine v_go he hu rfl ne_law ?_
  exact kk _ hJ2
set_option maxRecDepth 100000 in
theorem lc_place (he : ai_env X B) (hL : B.2.1 ≤ 3072) (hi : i + 6 ≤ B.2.1) (kk : ∀ h, la_J h → rv l X Y B 64 fw_law 1409 (lw_l i) [] h lw_K) {h : fx_H} (hJ : la_J h) : rv l X Y B 64 fw_law 761 (lw_l i) [] h lw_K := by
  have hu := hu_law
  refine v_ld he hu rfl rfl rfl rfl rfl ?_
  refine v_ld he hu rfl rfl rfl rfl rfl ?_
  refine v_ld he hu rfl rfl rfl rfl rfl ?_
  refine v_c he hu rfl rfl rfl rfl ?_
  refine v_bin hu rfl rfl (fun q => by omega) ?_
  rw [rop_add (by omega)]
  refine v_sld he hu rfl rfl (by omega) ?_
  refine v_ld he hu rfl rfl rfl rfl rfl ?_
  refine v_ld he hu rfl rfl rfl rfl rfl ?_
  refine v_c he hu rfl rfl rfl rfl ?_
  refine v_bin hu rfl rfl (fun q => by omega) ?_
  rw [rop_add (by omega)]
  refine v_sld he hu rfl rfl (by omega) ?_
  refine v_callX he hu hJ.1.1 rfl rfl rfl rfl (px_place he hJ (rx_n_lt _) (rx_n_lt _)) (fun v h1 q => ?_)
  obtain ⟨⟨x1, rfl⟩, hJ1⟩ := q
  refine v_pop he hu rfl rfl rfl ?_
  refine v_ld he hu rfl rfl rfl rfl rfl ?_
  refine v_ld he hu rfl rfl rfl rfl rfl ?_
  refine v_ld he hu rfl rfl rfl rfl rfl ?_
  refine v_c he hu rfl rfl rfl rfl ?_
  refine v_bin hu rfl rfl (fun q => by omega) ?_
  rw [rop_add (by omega)]
  refine v_sld he hu rfl rfl (by omega) ?_
  refine v_ld he hu rfl rfl rfl rfl rfl ?_
  refine v_ld he hu rfl rfl rfl rfl rfl ?_
  refine v_c he hu rfl rfl rfl rfl ?_
  refine v_bin hu rfl rfl (fun q => by omega) ?_
  rw [rop_add (by omega)]
  refine v_sld he hu rfl rfl (by omega) ?_
  refine v_callM he hu hJ1.1.1 rfl rfl rfl rfl (pm_place he hJ1 (rx_n_lt _) (rx_n_lt _)) (fun v h2 q => ?_)
  obtain ⟨⟨x2, rfl⟩, hJ2⟩ := q
  refine v_pop he hu rfl rfl rfl ?_
  refine v_go he hu rfl ne_law ?_
  exact kk _ hJ2
set_option maxRecDepth 100000 in
theorem lc_move (he : ai_env X B) (hL : B.2.1 ≤ 3072) (hi : i + 6 ≤ B.2.1) (kk : ∀ h, la_J h → rv l X Y B 64 fw_law 1409 (lw_l i) [] h lw_K) {h : fx_H} (hJ : la_J h) : rv l X Y B 64 fw_law 794 (lw_l i) [] h lw_K := by
  have hu := hu_law
  refine v_ld he hu rfl rfl rfl rfl rfl ?_
  refine v_ld he hu rfl rfl rfl rfl rfl ?_
  refine v_ld he hu rfl rfl rfl rfl rfl ?_
  refine v_c he hu rfl rfl rfl rfl ?_
  refine v_bin hu rfl rfl (fun q => by omega) ?_
  rw [rop_add (by omega)]
  refine v_sld he hu rfl rfl (by omega) ?_
  refine v_callX he hu hJ.1.1 rfl rfl rfl rfl (px_move he hJ (rx_n_lt _)) (fun v h1 q => ?_)
  obtain ⟨⟨x1, rfl⟩, hJ1⟩ := q
  refine v_pop he hu rfl rfl rfl ?_
  refine v_ld he hu rfl rfl rfl rfl rfl ?_
  refine v_ld he hu rfl rfl rfl rfl rfl ?_
  refine v_ld he hu rfl rfl rfl rfl rfl ?_
  refine v_c he hu rfl rfl rfl rfl ?_
  refine v_bin hu rfl rfl (fun q => by omega) ?_
  rw [rop_add (by omega)]
  refine v_sld he hu rfl rfl (by omega) ?_
  refine v_callM he hu hJ1.1.1 rfl rfl rfl rfl (pm_move he hJ1 (rx_n_lt _)) (fun v h2 q => ?_)
  obtain ⟨⟨x2, rfl⟩, hJ2⟩ := q
  refine v_pop he hu rfl rfl rfl ?_
  refine v_go he hu rfl ne_law ?_
  exact kk _ hJ2
set_option maxRecDepth 100000 in
theorem lc_settled (he : ai_env X B) (hL : B.2.1 ≤ 3072) (hi : i + 6 ≤ B.2.1) (kk : ∀ h, la_J h → rv l X Y B 64 fw_law 1409 (lw_l i) [] h lw_K) {h : fx_H} (hJ : la_J h) : rv l X Y B 64 fw_law 817 (lw_l i) [] h lw_K := by
  have hu := hu_law
  refine v_ld he hu rfl rfl rfl rfl rfl ?_
  refine v_callX he hu hJ.1.1 rfl rfl rfl rfl (px_settled he hJ) (fun v h1 q => ?_)
  obtain ⟨⟨x1, rfl⟩, hJ1⟩ := q
  refine v_pop he hu rfl rfl rfl ?_
  refine v_ld he hu rfl rfl rfl rfl rfl ?_
  refine v_callM he hu hJ1.1.1 rfl rfl rfl rfl (pm_settled he hJ1) (fun v h2 q => ?_)
  obtain ⟨⟨x2, rfl⟩, hJ2⟩ := q
  refine v_pop he hu rfl rfl rfl ?_
  refine v_go he hu rfl ne_law ?_
  exact kk _ hJ2
set_option maxRecDepth 100000 in
theorem lc_will (he : ai_env X B) (hL : B.2.1 ≤ 3072) (hi : i + 6 ≤ B.2.1) (kk : ∀ h, la_J h → rv l X Y B 64 fw_law 1409 (lw_l i) [] h lw_K) {h : fx_H} (hJ : la_J h) : rv l X Y B 64 fw_law 830 (lw_l i) [] h lw_K := by
  have hu := hu_law
  refine v_ld he hu rfl rfl rfl rfl rfl ?_
  refine v_ld he hu rfl rfl rfl rfl rfl ?_
  refine v_ld he hu rfl rfl rfl rfl rfl ?_
  refine v_c he hu rfl rfl rfl rfl ?_
  refine v_bin hu rfl rfl (fun q => by omega) ?_
  rw [rop_add (by omega)]
  refine v_sld he hu rfl rfl (by omega) ?_
  refine v_ld he hu rfl rfl rfl rfl rfl ?_
  refine v_ld he hu rfl rfl rfl rfl rfl ?_
  refine v_c he hu rfl rfl rfl rfl ?_
  refine v_bin hu rfl rfl (fun q => by omega) ?_
  rw [rop_add (by omega)]
  refine v_sld he hu rfl rfl (by omega) ?_
  refine v_callX he hu hJ.1.1 rfl rfl rfl rfl (px_will he hJ (rx_n_lt _) (rx_n_lt _)) (fun v h1 q => ?_)
  obtain ⟨⟨x1, rfl⟩, hJ1⟩ := q
  refine v_pop he hu rfl rfl rfl ?_
  refine v_ld he hu rfl rfl rfl rfl rfl ?_
  refine v_ld he hu rfl rfl rfl rfl rfl ?_
  refine v_ld he hu rfl rfl rfl rfl rfl ?_
  refine v_c he hu rfl rfl rfl rfl ?_
  refine v_bin hu rfl rfl (fun q => by omega) ?_
  rw [rop_add (by omega)]
  refine v_sld he hu rfl rfl (by omega) ?_
  refine v_ld he hu rfl rfl rfl rfl rfl ?_
  refine v_ld he hu rfl rfl rfl rfl rfl ?_
  refine v_c he hu rfl rfl rfl rfl ?_
  refine v_bin hu rfl rfl (fun q => by omega) ?_
  rw [rop_add (by omega)]
  refine v_sld he hu rfl rfl (by omega) ?_
  refine v_callM he hu hJ1.1.1 rfl rfl rfl rfl (pm_will he hJ1 (rx_n_lt _) (rx_n_lt _)) (fun v h2 q => ?_)
  obtain ⟨⟨x2, rfl⟩, hJ2⟩ := q
  refine v_pop he hu rfl rfl rfl ?_
  refine v_go he hu rfl ne_law ?_
  exact kk _ hJ2
set_option maxRecDepth 100000 in
theorem lc_ahead (he : ai_env X B) (hL : B.2.1 ≤ 3072) (hi : i + 6 ≤ B.2.1) (kk : ∀ h, la_J h → rv l X Y B 64 fw_law 1409 (lw_l i) [] h lw_K) {h : fx_H} (hJ : la_J h) : rv l X Y B 64 fw_law 863 (lw_l i) [] h lw_K := by
  have hu := hu_law
  refine v_ld he hu rfl rfl rfl rfl rfl ?_
  refine v_ld he hu rfl rfl rfl rfl rfl ?_
  refine v_ld he hu rfl rfl rfl rfl rfl ?_
  refine v_c he hu rfl rfl rfl rfl ?_
  refine v_bin hu rfl rfl (fun q => by omega) ?_
  rw [rop_add (by omega)]
  refine v_sld he hu rfl rfl (by omega) ?_
  refine v_callX he hu hJ.1.1 rfl rfl rfl rfl (px_ahead he hJ (rx_n_lt _)) (fun v h1 q => ?_)
  obtain ⟨⟨x1, rfl⟩, hJ1⟩ := q
  refine v_pop he hu rfl rfl rfl ?_
  refine v_ld he hu rfl rfl rfl rfl rfl ?_
  refine v_ld he hu rfl rfl rfl rfl rfl ?_
  refine v_ld he hu rfl rfl rfl rfl rfl ?_
  refine v_c he hu rfl rfl rfl rfl ?_
  refine v_bin hu rfl rfl (fun q => by omega) ?_
  rw [rop_add (by omega)]
  refine v_sld he hu rfl rfl (by omega) ?_
  refine v_callM he hu hJ1.1.1 rfl rfl rfl rfl (pm_ahead he hJ1 (rx_n_lt _)) (fun v h2 q => ?_)
  obtain ⟨⟨x2, rfl⟩, hJ2⟩ := q
  refine v_pop he hu rfl rfl rfl ?_
  refine v_go he hu rfl ne_law ?_
  exact kk _ hJ2
set_option maxRecDepth 100000 in
theorem lc_alike (he : ai_env X B) (hL : B.2.1 ≤ 3072) (hi : i + 6 ≤ B.2.1) (kk : ∀ h, la_J h → rv l X Y B 64 fw_law 1409 (lw_l i) [] h lw_K) {h : fx_H} (hJ : la_J h) : rv l X Y B 64 fw_law 886 (lw_l i) [] h lw_K := by
  have hu := hu_law
  refine v_ld he hu rfl rfl rfl rfl rfl ?_
  refine v_callX he hu hJ.1.1 rfl rfl rfl rfl (px_alike he hJ) (fun v h1 q => ?_)
  obtain ⟨⟨x1, rfl⟩, hJ1⟩ := q
  refine v_pop he hu rfl rfl rfl ?_
  refine v_ld he hu rfl rfl rfl rfl rfl ?_
  refine v_callM he hu hJ1.1.1 rfl rfl rfl rfl (pm_alike he hJ1) (fun v h2 q => ?_)
  obtain ⟨⟨x2, rfl⟩, hJ2⟩ := q
  refine v_pop he hu rfl rfl rfl ?_
  refine v_go he hu rfl ne_law ?_
  exact kk _ hJ2
set_option maxRecDepth 100000 in
theorem lc_unrest (he : ai_env X B) (hL : B.2.1 ≤ 3072) (hi : i + 6 ≤ B.2.1) (kk : ∀ h, la_J h → rv l X Y B 64 fw_law 1409 (lw_l i) [] h lw_K) {h : fx_H} (hJ : la_J h) : rv l X Y B 64 fw_law 899 (lw_l i) [] h lw_K := by
  have hu := hu_law
  refine v_ld he hu rfl rfl rfl rfl rfl ?_
  refine v_ld he hu rfl rfl rfl rfl rfl ?_
  refine v_ld he hu rfl rfl rfl rfl rfl ?_
  refine v_c he hu rfl rfl rfl rfl ?_
  refine v_bin hu rfl rfl (fun q => by omega) ?_
  rw [rop_add (by omega)]
  refine v_sld he hu rfl rfl (by omega) ?_
  refine v_callX he hu hJ.1.1 rfl rfl rfl rfl (px_unrest he hJ (rx_n_lt _)) (fun v h1 q => ?_)
  obtain ⟨⟨x1, rfl⟩, hJ1⟩ := q
  refine v_pop he hu rfl rfl rfl ?_
  refine v_ld he hu rfl rfl rfl rfl rfl ?_
  refine v_ld he hu rfl rfl rfl rfl rfl ?_
  refine v_ld he hu rfl rfl rfl rfl rfl ?_
  refine v_c he hu rfl rfl rfl rfl ?_
  refine v_bin hu rfl rfl (fun q => by omega) ?_
  rw [rop_add (by omega)]
  refine v_sld he hu rfl rfl (by omega) ?_
  refine v_callM he hu hJ1.1.1 rfl rfl rfl rfl (pm_unrest he hJ1 (rx_n_lt _)) (fun v h2 q => ?_)
  obtain ⟨⟨x2, rfl⟩, hJ2⟩ := q
  refine v_pop he hu rfl rfl rfl ?_
  refine v_go he hu rfl ne_law ?_
  exact kk _ hJ2
set_option maxRecDepth 100000 in
theorem lc_sways (he : ai_env X B) (hL : B.2.1 ≤ 3072) (hi : i + 6 ≤ B.2.1) (kk : ∀ h, la_J h → rv l X Y B 64 fw_law 1409 (lw_l i) [] h lw_K) {h : fx_H} (hJ : la_J h) : rv l X Y B 64 fw_law 922 (lw_l i) [] h lw_K := by
  have hu := hu_law
  refine v_ld he hu rfl rfl rfl rfl rfl ?_
  refine v_ld he hu rfl rfl rfl rfl rfl ?_
  refine v_ld he hu rfl rfl rfl rfl rfl ?_
  refine v_c he hu rfl rfl rfl rfl ?_
  refine v_bin hu rfl rfl (fun q => by omega) ?_
  rw [rop_add (by omega)]
  refine v_sld he hu rfl rfl (by omega) ?_
  refine v_ld he hu rfl rfl rfl rfl rfl ?_
  refine v_ld he hu rfl rfl rfl rfl rfl ?_
  refine v_c he hu rfl rfl rfl rfl ?_
  refine v_bin hu rfl rfl (fun q => by omega) ?_
  rw [rop_add (by omega)]
  refine v_sld he hu rfl rfl (by omega) ?_
  refine v_ld he hu rfl rfl rfl rfl rfl ?_
  refine v_ld he hu rfl rfl rfl rfl rfl ?_
  refine v_c he hu rfl rfl rfl rfl ?_
  refine v_bin hu rfl rfl (fun q => by omega) ?_
  rw [rop_add (by omega)]
  refine v_sld he hu rfl rfl (by omega) ?_
  refine v_callX he hu hJ.1.1 rfl rfl rfl rfl (px_sways he hJ (rx_n_lt _) (rx_n_lt _) (rx_n_lt _)) (fun v h1 q => ?_)
  obtain ⟨⟨x1, rfl⟩, hJ1⟩ := q
  refine v_pop he hu rfl rfl rfl ?_
  refine v_ld he hu rfl rfl rfl rfl rfl ?_
  refine v_ld he hu rfl rfl rfl rfl rfl ?_
  refine v_ld he hu rfl rfl rfl rfl rfl ?_
  refine v_c he hu rfl rfl rfl rfl ?_
  refine v_bin hu rfl rfl (fun q => by omega) ?_
  rw [rop_add (by omega)]
  refine v_sld he hu rfl rfl (by omega) ?_
  refine v_ld he hu rfl rfl rfl rfl rfl ?_
  refine v_ld he hu rfl rfl rfl rfl rfl ?_
  refine v_c he hu rfl rfl rfl rfl ?_
  refine v_bin hu rfl rfl (fun q => by omega) ?_
  rw [rop_add (by omega)]
  refine v_sld he hu rfl rfl (by omega) ?_
  refine v_ld he hu rfl rfl rfl rfl rfl ?_
  refine v_ld he hu rfl rfl rfl rfl rfl ?_
  refine v_c he hu rfl rfl rfl rfl ?_
  refine v_bin hu rfl rfl (fun q => by omega) ?_
  rw [rop_add (by omega)]
  refine v_sld he hu rfl rfl (by omega) ?_
  refine v_callM he hu hJ1.1.1 rfl rfl rfl rfl (pm_sways he hJ1 (rx_n_lt _) (rx_n_lt _) (rx_n_lt _)) (fun v h2 q => ?_)
  obtain ⟨⟨x2, rfl⟩, hJ2⟩ := q
  refine v_pop he hu rfl rfl rfl ?_
  refine v_go he hu rfl ne_law ?_
  exact kk _ hJ2
set_option maxRecDepth 100000 in
theorem lc_brightest (he : ai_env X B) (hL : B.2.1 ≤ 3072) (hi : i + 6 ≤ B.2.1) (kk : ∀ h, la_J h → rv l X Y B 64 fw_law 1409 (lw_l i) [] h lw_K) {h : fx_H} (hJ : la_J h) : rv l X Y B 64 fw_law 965 (lw_l i) [] h lw_K := by
  have hu := hu_law
  refine v_ld he hu rfl rfl rfl rfl rfl ?_
  refine v_callX he hu hJ.1.1 rfl rfl rfl rfl (px_brightest he hJ) (fun v h1 q => ?_)
  obtain ⟨⟨x1, rfl⟩, hJ1⟩ := q
  refine v_pop he hu rfl rfl rfl ?_
  refine v_ld he hu rfl rfl rfl rfl rfl ?_
  refine v_callM he hu hJ1.1.1 rfl rfl rfl rfl (pm_brightest he hJ1) (fun v h2 q => ?_)
  obtain ⟨⟨x2, rfl⟩, hJ2⟩ := q
  refine v_pop he hu rfl rfl rfl ?_
  refine v_go he hu rfl ne_law ?_
  exact kk _ hJ2
set_option maxRecDepth 100000 in
theorem lc_parties (he : ai_env X B) (hL : B.2.1 ≤ 3072) (hi : i + 6 ≤ B.2.1) (kk : ∀ h, la_J h → rv l X Y B 64 fw_law 1409 (lw_l i) [] h lw_K) {h : fx_H} (hJ : la_J h) : rv l X Y B 64 fw_law 978 (lw_l i) [] h lw_K := by
  have hu := hu_law
  refine v_ld he hu rfl rfl rfl rfl rfl ?_
  refine v_ld he hu rfl rfl rfl rfl rfl ?_
  refine v_ld he hu rfl rfl rfl rfl rfl ?_
  refine v_c he hu rfl rfl rfl rfl ?_
  refine v_bin hu rfl rfl (fun q => by omega) ?_
  rw [rop_add (by omega)]
  refine v_sld he hu rfl rfl (by omega) ?_
  refine v_ld he hu rfl rfl rfl rfl rfl ?_
  refine v_ld he hu rfl rfl rfl rfl rfl ?_
  refine v_c he hu rfl rfl rfl rfl ?_
  refine v_bin hu rfl rfl (fun q => by omega) ?_
  rw [rop_add (by omega)]
  refine v_sld he hu rfl rfl (by omega) ?_
  refine v_callX he hu hJ.1.1 rfl rfl rfl rfl (px_parties he hJ (rx_n_lt _) (rx_n_lt _)) (fun v h1 q => ?_)
  obtain ⟨⟨x1, rfl⟩, hJ1⟩ := q
  refine v_pop he hu rfl rfl rfl ?_
  refine v_ld he hu rfl rfl rfl rfl rfl ?_
  refine v_ld he hu rfl rfl rfl rfl rfl ?_
  refine v_ld he hu rfl rfl rfl rfl rfl ?_
  refine v_c he hu rfl rfl rfl rfl ?_
  refine v_bin hu rfl rfl (fun q => by omega) ?_
  rw [rop_add (by omega)]
  refine v_sld he hu rfl rfl (by omega) ?_
  refine v_ld he hu rfl rfl rfl rfl rfl ?_
  refine v_ld he hu rfl rfl rfl rfl rfl ?_
  refine v_c he hu rfl rfl rfl rfl ?_
  refine v_bin hu rfl rfl (fun q => by omega) ?_
  rw [rop_add (by omega)]
  refine v_sld he hu rfl rfl (by omega) ?_
  refine v_callM he hu hJ1.1.1 rfl rfl rfl rfl (pm_parties he hJ1 (rx_n_lt _) (rx_n_lt _)) (fun v h2 q => ?_)
  obtain ⟨⟨x2, rfl⟩, hJ2⟩ := q
  refine v_pop he hu rfl rfl rfl ?_
  refine v_go he hu rfl ne_law ?_
  exact kk _ hJ2
set_option maxRecDepth 100000 in
theorem lc_least (he : ai_env X B) (hL : B.2.1 ≤ 3072) (hi : i + 6 ≤ B.2.1) (kk : ∀ h, la_J h → rv l X Y B 64 fw_law 1409 (lw_l i) [] h lw_K) {h : fx_H} (hJ : la_J h) : rv l X Y B 64 fw_law 1011 (lw_l i) [] h lw_K := by
  have hu := hu_law
  refine v_ld he hu rfl rfl rfl rfl rfl ?_
  refine v_ld he hu rfl rfl rfl rfl rfl ?_
  refine v_ld he hu rfl rfl rfl rfl rfl ?_
  refine v_c he hu rfl rfl rfl rfl ?_
  refine v_bin hu rfl rfl (fun q => by omega) ?_
  rw [rop_add (by omega)]
  refine v_sld he hu rfl rfl (by omega) ?_
  refine v_ld he hu rfl rfl rfl rfl rfl ?_
  refine v_ld he hu rfl rfl rfl rfl rfl ?_
  refine v_c he hu rfl rfl rfl rfl ?_
  refine v_bin hu rfl rfl (fun q => by omega) ?_
  rw [rop_add (by omega)]
  refine v_sld he hu rfl rfl (by omega) ?_
  refine v_callX he hu hJ.1.1 rfl rfl rfl rfl (px_least he hJ (rx_n_lt _) (rx_n_lt _)) (fun v h1 q => ?_)
  obtain ⟨⟨x1, rfl⟩, hJ1⟩ := q
  refine v_pop he hu rfl rfl rfl ?_
  refine v_ld he hu rfl rfl rfl rfl rfl ?_
  refine v_ld he hu rfl rfl rfl rfl rfl ?_
  refine v_ld he hu rfl rfl rfl rfl rfl ?_
  refine v_c he hu rfl rfl rfl rfl ?_
  refine v_bin hu rfl rfl (fun q => by omega) ?_
  rw [rop_add (by omega)]
  refine v_sld he hu rfl rfl (by omega) ?_
  refine v_ld he hu rfl rfl rfl rfl rfl ?_
  refine v_ld he hu rfl rfl rfl rfl rfl ?_
  refine v_c he hu rfl rfl rfl rfl ?_
  refine v_bin hu rfl rfl (fun q => by omega) ?_
  rw [rop_add (by omega)]
  refine v_sld he hu rfl rfl (by omega) ?_
  refine v_callM he hu hJ1.1.1 rfl rfl rfl rfl (pm_least he hJ1 (rx_n_lt _) (rx_n_lt _)) (fun v h2 q => ?_)
  obtain ⟨⟨x2, rfl⟩, hJ2⟩ := q
  refine v_pop he hu rfl rfl rfl ?_
  refine v_go he hu rfl ne_law ?_
  exact kk _ hJ2
set_option maxRecDepth 100000 in
theorem lc_best (he : ai_env X B) (hL : B.2.1 ≤ 3072) (hi : i + 6 ≤ B.2.1) (kk : ∀ h, la_J h → rv l X Y B 64 fw_law 1409 (lw_l i) [] h lw_K) {h : fx_H} (hJ : la_J h) : rv l X Y B 64 fw_law 1044 (lw_l i) [] h lw_K := by
  have hu := hu_law
  refine v_ld he hu rfl rfl rfl rfl rfl ?_
  refine v_ld he hu rfl rfl rfl rfl rfl ?_
  refine v_ld he hu rfl rfl rfl rfl rfl ?_
  refine v_c he hu rfl rfl rfl rfl ?_
  refine v_bin hu rfl rfl (fun q => by omega) ?_
  rw [rop_add (by omega)]
  refine v_sld he hu rfl rfl (by omega) ?_
  refine v_callX he hu hJ.1.1 rfl rfl rfl rfl (px_best he hJ (rx_n_lt _)) (fun v h1 q => ?_)
  obtain ⟨⟨x1, rfl⟩, hJ1⟩ := q
  refine v_pop he hu rfl rfl rfl ?_
  refine v_ld he hu rfl rfl rfl rfl rfl ?_
  refine v_ld he hu rfl rfl rfl rfl rfl ?_
  refine v_ld he hu rfl rfl rfl rfl rfl ?_
  refine v_c he hu rfl rfl rfl rfl ?_
  refine v_bin hu rfl rfl (fun q => by omega) ?_
  rw [rop_add (by omega)]
  refine v_sld he hu rfl rfl (by omega) ?_
  refine v_callM he hu hJ1.1.1 rfl rfl rfl rfl (pm_best he hJ1 (rx_n_lt _)) (fun v h2 q => ?_)
  obtain ⟨⟨x2, rfl⟩, hJ2⟩ := q
  refine v_pop he hu rfl rfl rfl ?_
  refine v_go he hu rfl ne_law ?_
  exact kk _ hJ2
set_option maxRecDepth 100000 in
theorem lc_odds (he : ai_env X B) (hL : B.2.1 ≤ 3072) (hi : i + 6 ≤ B.2.1) (kk : ∀ h, la_J h → rv l X Y B 64 fw_law 1409 (lw_l i) [] h lw_K) {h : fx_H} (hJ : la_J h) : rv l X Y B 64 fw_law 1067 (lw_l i) [] h lw_K := by
  have hu := hu_law
  refine v_ld he hu rfl rfl rfl rfl rfl ?_
  refine v_ld he hu rfl rfl rfl rfl rfl ?_
  refine v_ld he hu rfl rfl rfl rfl rfl ?_
  refine v_c he hu rfl rfl rfl rfl ?_
  refine v_bin hu rfl rfl (fun q => by omega) ?_
  rw [rop_add (by omega)]
  refine v_sld he hu rfl rfl (by omega) ?_
  refine v_ld he hu rfl rfl rfl rfl rfl ?_
  refine v_ld he hu rfl rfl rfl rfl rfl ?_
  refine v_c he hu rfl rfl rfl rfl ?_
  refine v_bin hu rfl rfl (fun q => by omega) ?_
  rw [rop_add (by omega)]
  refine v_sld he hu rfl rfl (by omega) ?_
  refine v_callX he hu hJ.1.1 rfl rfl rfl rfl (px_odds he hJ (rx_n_lt _) (rx_n_lt _)) (fun v h1 q => ?_)
  obtain ⟨⟨x1, rfl⟩, hJ1⟩ := q
  refine v_pop he hu rfl rfl rfl ?_
  refine v_ld he hu rfl rfl rfl rfl rfl ?_
  refine v_ld he hu rfl rfl rfl rfl rfl ?_
  refine v_ld he hu rfl rfl rfl rfl rfl ?_
  refine v_c he hu rfl rfl rfl rfl ?_
  refine v_bin hu rfl rfl (fun q => by omega) ?_
  rw [rop_add (by omega)]
  refine v_sld he hu rfl rfl (by omega) ?_
  refine v_ld he hu rfl rfl rfl rfl rfl ?_
  refine v_ld he hu rfl rfl rfl rfl rfl ?_
  refine v_c he hu rfl rfl rfl rfl ?_
  refine v_bin hu rfl rfl (fun q => by omega) ?_
  rw [rop_add (by omega)]
  refine v_sld he hu rfl rfl (by omega) ?_
  refine v_callM he hu hJ1.1.1 rfl rfl rfl rfl (pm_odds he hJ1 (rx_n_lt _) (rx_n_lt _)) (fun v h2 q => ?_)
  obtain ⟨⟨x2, rfl⟩, hJ2⟩ := q
  refine v_pop he hu rfl rfl rfl ?_
  refine v_go he hu rfl ne_law ?_
  exact kk _ hJ2
set_option maxRecDepth 100000 in
theorem lc_moved (he : ai_env X B) (hL : B.2.1 ≤ 3072) (hi : i + 6 ≤ B.2.1) (kk : ∀ h, la_J h → rv l X Y B 64 fw_law 1409 (lw_l i) [] h lw_K) {h : fx_H} (hJ : la_J h) : rv l X Y B 64 fw_law 1100 (lw_l i) [] h lw_K := by
  have hu := hu_law
  refine v_ld he hu rfl rfl rfl rfl rfl ?_
  refine v_ld he hu rfl rfl rfl rfl rfl ?_
  refine v_ld he hu rfl rfl rfl rfl rfl ?_
  refine v_c he hu rfl rfl rfl rfl ?_
  refine v_bin hu rfl rfl (fun q => by omega) ?_
  rw [rop_add (by omega)]
  refine v_sld he hu rfl rfl (by omega) ?_
  refine v_callX he hu hJ.1.1 rfl rfl rfl rfl (px_moved he hJ (rx_n_lt _)) (fun v h1 q => ?_)
  obtain ⟨⟨x1, rfl⟩, hJ1⟩ := q
  refine v_pop he hu rfl rfl rfl ?_
  refine v_ld he hu rfl rfl rfl rfl rfl ?_
  refine v_ld he hu rfl rfl rfl rfl rfl ?_
  refine v_ld he hu rfl rfl rfl rfl rfl ?_
  refine v_c he hu rfl rfl rfl rfl ?_
  refine v_bin hu rfl rfl (fun q => by omega) ?_
  rw [rop_add (by omega)]
  refine v_sld he hu rfl rfl (by omega) ?_
  refine v_callM he hu hJ1.1.1 rfl rfl rfl rfl (pm_moved he hJ1 (rx_n_lt _)) (fun v h2 q => ?_)
  obtain ⟨⟨x2, rfl⟩, hJ2⟩ := q
  refine v_pop he hu rfl rfl rfl ?_
  refine v_go he hu rfl ne_law ?_
  exact kk _ hJ2
set_option maxRecDepth 100000 in
theorem lc_key (he : ai_env X B) (hL : B.2.1 ≤ 3072) (hi : i + 6 ≤ B.2.1) (kk : ∀ h, la_J h → rv l X Y B 64 fw_law 1409 (lw_l i) [] h lw_K) {h : fx_H} (hJ : la_J h) : rv l X Y B 64 fw_law 1123 (lw_l i) [] h lw_K := by
  have hu := hu_law
  refine v_ld he hu rfl rfl rfl rfl rfl ?_
  refine v_callX he hu hJ.1.1 rfl rfl rfl rfl (px_key he hJ) (fun v h1 q => ?_)
  obtain ⟨⟨x1, rfl⟩, hJ1⟩ := q
  refine v_pop he hu rfl rfl rfl ?_
  refine v_ld he hu rfl rfl rfl rfl rfl ?_
  refine v_callM he hu hJ1.1.1 rfl rfl rfl rfl (pm_key he hJ1) (fun v h2 q => ?_)
  obtain ⟨⟨x2, rfl⟩, hJ2⟩ := q
  refine v_pop he hu rfl rfl rfl ?_
  refine v_go he hu rfl ne_law ?_
  exact kk _ hJ2
set_option maxRecDepth 100000 in
theorem lc_lies (he : ai_env X B) (hL : B.2.1 ≤ 3072) (hi : i + 6 ≤ B.2.1) (kk : ∀ h, la_J h → rv l X Y B 64 fw_law 1409 (lw_l i) [] h lw_K) {h : fx_H} (hJ : la_J h) : rv l X Y B 64 fw_law 1136 (lw_l i) [] h lw_K := by
  have hu := hu_law
  refine v_ld he hu rfl rfl rfl rfl rfl ?_
  refine v_ld he hu rfl rfl rfl rfl rfl ?_
  refine v_ld he hu rfl rfl rfl rfl rfl ?_
  refine v_c he hu rfl rfl rfl rfl ?_
  refine v_bin hu rfl rfl (fun q => by omega) ?_
  rw [rop_add (by omega)]
  refine v_sld he hu rfl rfl (by omega) ?_
  refine v_callX he hu hJ.1.1 rfl rfl rfl rfl (px_lies he hJ (rx_n_lt _)) (fun v h1 q => ?_)
  obtain ⟨⟨x1, rfl⟩, hJ1⟩ := q
  refine v_pop he hu rfl rfl rfl ?_
  refine v_ld he hu rfl rfl rfl rfl rfl ?_
  refine v_ld he hu rfl rfl rfl rfl rfl ?_
  refine v_ld he hu rfl rfl rfl rfl rfl ?_
  refine v_c he hu rfl rfl rfl rfl ?_
  refine v_bin hu rfl rfl (fun q => by omega) ?_
  rw [rop_add (by omega)]
  refine v_sld he hu rfl rfl (by omega) ?_
  refine v_callM he hu hJ1.1.1 rfl rfl rfl rfl (pm_lies he hJ1 (rx_n_lt _)) (fun v h2 q => ?_)
  obtain ⟨⟨x2, rfl⟩, hJ2⟩ := q
  refine v_pop he hu rfl rfl rfl ?_
  refine v_go he hu rfl ne_law ?_
  exact kk _ hJ2
set_option maxRecDepth 100000 in
theorem lc_looks (he : ai_env X B) (hL : B.2.1 ≤ 3072) (hi : i + 6 ≤ B.2.1) (kk : ∀ h, la_J h → rv l X Y B 64 fw_law 1409 (lw_l i) [] h lw_K) {h : fx_H} (hJ : la_J h) : rv l X Y B 64 fw_law 1159 (lw_l i) [] h lw_K := by
  have hu := hu_law
  refine v_ld he hu rfl rfl rfl rfl rfl ?_
  refine v_ld he hu rfl rfl rfl rfl rfl ?_
  refine v_ld he hu rfl rfl rfl rfl rfl ?_
  refine v_c he hu rfl rfl rfl rfl ?_
  refine v_bin hu rfl rfl (fun q => by omega) ?_
  rw [rop_add (by omega)]
  refine v_sld he hu rfl rfl (by omega) ?_
  refine v_ld he hu rfl rfl rfl rfl rfl ?_
  refine v_ld he hu rfl rfl rfl rfl rfl ?_
  refine v_c he hu rfl rfl rfl rfl ?_
  refine v_bin hu rfl rfl (fun q => by omega) ?_
  rw [rop_add (by omega)]
  refine v_sld he hu rfl rfl (by omega) ?_
  refine v_ld he hu rfl rfl rfl rfl rfl ?_
  refine v_ld he hu rfl rfl rfl rfl rfl ?_
  refine v_c he hu rfl rfl rfl rfl ?_
  refine v_bin hu rfl rfl (fun q => by omega) ?_
  rw [rop_add (by omega)]
  refine v_sld he hu rfl rfl (by omega) ?_
  refine v_ld he hu rfl rfl rfl rfl rfl ?_
  refine v_ld he hu rfl rfl rfl rfl rfl ?_
  refine v_c he hu rfl rfl rfl rfl ?_
  refine v_bin hu rfl rfl (fun q => by omega) ?_
  rw [rop_add (by omega)]
  refine v_sld he hu rfl rfl (by omega) ?_
  refine v_cmp0 he hu rfl rfl rfl (ru_ne rfl) (fun c1 => ?_) (fun c1 => ?_)
  · -- taken
    refine v_c he hu rfl rfl rfl rfl ?_
    refine v_callX he hu hJ.1.1 rfl rfl rfl rfl (px_looks he hJ (rx_n_lt _) (rx_n_lt _) (rx_n_lt _) (by decide : 0 < 2)) (fun v h1 q => ?_)
    obtain ⟨⟨x1, rfl⟩, hJ1⟩ := q
    refine v_pop he hu rfl rfl rfl ?_
    refine v_ld he hu rfl rfl rfl rfl rfl ?_
    refine v_ld he hu rfl rfl rfl rfl rfl ?_
    refine v_ld he hu rfl rfl rfl rfl rfl ?_
    refine v_c he hu rfl rfl rfl rfl ?_
    refine v_bin hu rfl rfl (fun q => by omega) ?_
    rw [rop_add (by omega)]
    refine v_sld he hu rfl rfl (by omega) ?_
    refine v_ld he hu rfl rfl rfl rfl rfl ?_
    refine v_ld he hu rfl rfl rfl rfl rfl ?_
    refine v_c he hu rfl rfl rfl rfl ?_
    refine v_bin hu rfl rfl (fun q => by omega) ?_
    rw [rop_add (by omega)]
    refine v_sld he hu rfl rfl (by omega) ?_
    refine v_ld he hu rfl rfl rfl rfl rfl ?_
    refine v_ld he hu rfl rfl rfl rfl rfl ?_
    refine v_c he hu rfl rfl rfl rfl ?_
    refine v_bin hu rfl rfl (fun q => by omega) ?_
    rw [rop_add (by omega)]
    refine v_sld he hu rfl rfl (by omega) ?_
    refine v_ld he hu rfl rfl rfl rfl rfl ?_
    refine v_ld he hu rfl rfl rfl rfl rfl ?_
    refine v_c he hu rfl rfl rfl rfl ?_
    refine v_bin hu rfl rfl (fun q => by omega) ?_
    rw [rop_add (by omega)]
    refine v_sld he hu rfl rfl (by omega) ?_
    refine v_cmp0 he hu rfl rfl rfl (ru_ne rfl) (fun c1 => ?_) (fun c1 => ?_)
    · -- taken
      refine v_c he hu rfl rfl rfl rfl ?_
      refine v_callM he hu hJ1.1.1 rfl rfl rfl rfl (pm_looks he hJ1 (rx_n_lt _) (rx_n_lt _) (rx_n_lt _) (by decide : 0 < 2)) (fun v h2 q => ?_)
      obtain ⟨⟨x2, rfl⟩, hJ2⟩ := q
      refine v_pop he hu rfl rfl rfl ?_
      refine v_go he hu rfl ne_law ?_
      exact kk _ hJ2
    · -- not taken
      refine v_c he hu rfl rfl rfl rfl ?_
      refine v_go he hu rfl (ru_ne rfl) ?_
      refine v_callM he hu hJ1.1.1 rfl rfl rfl rfl (pm_looks he hJ1 (rx_n_lt _) (rx_n_lt _) (rx_n_lt _) (by decide : 1 < 2)) (fun v h2 q => ?_)
      obtain ⟨⟨x2, rfl⟩, hJ2⟩ := q
      refine v_pop he hu rfl rfl rfl ?_
      refine v_go he hu rfl ne_law ?_
      exact kk _ hJ2
  · -- not taken
    refine v_c he hu rfl rfl rfl rfl ?_
    refine v_go he hu rfl (ru_ne rfl) ?_
    refine v_callX he hu hJ.1.1 rfl rfl rfl rfl (px_looks he hJ (rx_n_lt _) (rx_n_lt _) (rx_n_lt _) (by decide : 1 < 2)) (fun v h1 q => ?_)
    obtain ⟨⟨x1, rfl⟩, hJ1⟩ := q
    refine v_pop he hu rfl rfl rfl ?_
    refine v_ld he hu rfl rfl rfl rfl rfl ?_
    refine v_ld he hu rfl rfl rfl rfl rfl ?_
    refine v_ld he hu rfl rfl rfl rfl rfl ?_
    refine v_c he hu rfl rfl rfl rfl ?_
    refine v_bin hu rfl rfl (fun q => by omega) ?_
    rw [rop_add (by omega)]
    refine v_sld he hu rfl rfl (by omega) ?_
    refine v_ld he hu rfl rfl rfl rfl rfl ?_
    refine v_ld he hu rfl rfl rfl rfl rfl ?_
    refine v_c he hu rfl rfl rfl rfl ?_
    refine v_bin hu rfl rfl (fun q => by omega) ?_
    rw [rop_add (by omega)]
    refine v_sld he hu rfl rfl (by omega) ?_
    refine v_ld he hu rfl rfl rfl rfl rfl ?_
    refine v_ld he hu rfl rfl rfl rfl rfl ?_
    refine v_c he hu rfl rfl rfl rfl ?_
    refine v_bin hu rfl rfl (fun q => by omega) ?_
    rw [rop_add (by omega)]
    refine v_sld he hu rfl rfl (by omega) ?_
    refine v_ld he hu rfl rfl rfl rfl rfl ?_
    refine v_ld he hu rfl rfl rfl rfl rfl ?_
    refine v_c he hu rfl rfl rfl rfl ?_
    refine v_bin hu rfl rfl (fun q => by omega) ?_
    rw [rop_add (by omega)]
    refine v_sld he hu rfl rfl (by omega) ?_
    refine v_cmp0 he hu rfl rfl rfl (ru_ne rfl) (fun c1 => ?_) (fun c1 => ?_)
    · -- taken
      refine v_c he hu rfl rfl rfl rfl ?_
      refine v_callM he hu hJ1.1.1 rfl rfl rfl rfl (pm_looks he hJ1 (rx_n_lt _) (rx_n_lt _) (rx_n_lt _) (by decide : 0 < 2)) (fun v h2 q => ?_)
      obtain ⟨⟨x2, rfl⟩, hJ2⟩ := q
      refine v_pop he hu rfl rfl rfl ?_
      refine v_go he hu rfl ne_law ?_
      exact kk _ hJ2
    · -- not taken
      refine v_c he hu rfl rfl rfl rfl ?_
      refine v_go he hu rfl (ru_ne rfl) ?_
      refine v_callM he hu hJ1.1.1 rfl rfl rfl rfl (pm_looks he hJ1 (rx_n_lt _) (rx_n_lt _) (rx_n_lt _) (by decide : 1 < 2)) (fun v h2 q => ?_)
      obtain ⟨⟨x2, rfl⟩, hJ2⟩ := q
      refine v_pop he hu rfl rfl rfl ?_
      refine v_go he hu rfl ne_law ?_
      exact kk _ hJ2
set_option maxRecDepth 100000 in
theorem lc_untell (he : ai_env X B) (hL : B.2.1 ≤ 3072) (hi : i + 6 ≤ B.2.1) (kk : ∀ h, la_J h → rv l X Y B 64 fw_law 1409 (lw_l i) [] h lw_K) {h : fx_H} (hJ : la_J h) : rv l X Y B 64 fw_law 1228 (lw_l i) [] h lw_K := by
  have hu := hu_law
  refine v_ld he hu rfl rfl rfl rfl rfl ?_
  refine v_ld he hu rfl rfl rfl rfl rfl ?_
  refine v_ld he hu rfl rfl rfl rfl rfl ?_
  refine v_c he hu rfl rfl rfl rfl ?_
  refine v_bin hu rfl rfl (fun q => by omega) ?_
  rw [rop_add (by omega)]
  refine v_sld he hu rfl rfl (by omega) ?_
  refine v_callX he hu hJ.1.1 rfl rfl rfl rfl (px_untell he hJ (rx_n_lt _)) (fun v h1 q => ?_)
  obtain ⟨⟨x1, rfl⟩, hJ1⟩ := q
  refine v_pop he hu rfl rfl rfl ?_
  refine v_ld he hu rfl rfl rfl rfl rfl ?_
  refine v_ld he hu rfl rfl rfl rfl rfl ?_
  refine v_ld he hu rfl rfl rfl rfl rfl ?_
  refine v_c he hu rfl rfl rfl rfl ?_
  refine v_bin hu rfl rfl (fun q => by omega) ?_
  rw [rop_add (by omega)]
  refine v_sld he hu rfl rfl (by omega) ?_
  refine v_callM he hu hJ1.1.1 rfl rfl rfl rfl (pm_untell he hJ1 (rx_n_lt _)) (fun v h2 q => ?_)
  obtain ⟨⟨x2, rfl⟩, hJ2⟩ := q
  refine v_pop he hu rfl rfl rfl ?_
  refine v_go he hu rfl ne_law ?_
  exact kk _ hJ2
set_option maxRecDepth 100000 in
theorem lc_later (he : ai_env X B) (hL : B.2.1 ≤ 3072) (hi : i + 6 ≤ B.2.1) (kk : ∀ h, la_J h → rv l X Y B 64 fw_law 1409 (lw_l i) [] h lw_K) {h : fx_H} (hJ : la_J h) : rv l X Y B 64 fw_law 1251 (lw_l i) [] h lw_K := by
  have hu := hu_law
  refine v_ld he hu rfl rfl rfl rfl rfl ?_
  refine v_ld he hu rfl rfl rfl rfl rfl ?_
  refine v_ld he hu rfl rfl rfl rfl rfl ?_
  refine v_c he hu rfl rfl rfl rfl ?_
  refine v_bin hu rfl rfl (fun q => by omega) ?_
  rw [rop_add (by omega)]
  refine v_sld he hu rfl rfl (by omega) ?_
  obtain ⟨⟨j1, j2, j3, j4⟩, j5, j6⟩ := hJ
  refine v_callX he hu j1 rfl rfl rfl rfl (lx_met (d := 62) he j1 (rx_n_lt _) j6) (fun v h1 q => ?_)
  obtain ⟨q1, q2, q3⟩ := q
  have e1 : gv h1 274502 = gv h 274502 := gv_fr (q2 _ rfl rfl)
  have e2 : gv h1 274469 = gv h 274469 := gv_fr (q2 _ rfl rfl)
  have e3 : gv h1 286721 = gv h 286721 := gv_fr (q2 _ rfl rfl)
  have e4 : gv h1 274485 = gv h 274485 := gv_fr (q2 _ rfl rfl)
  have e5 : gv h1 274486 = gv h 274486 := gv_fr (q2 _ rfl rfl)
  have P1 : mo_P h1 := mo_P_fr rfl _ _ j2 q2
  obtain ⟨z1, rfl⟩ : ∃ z1, v = some (fc z1) := by
    rcases q3 with ⟨-, -, rfl, -⟩ | ⟨-, rfl, -⟩
    · exact ⟨_, rfl⟩
    · exact ⟨_, rfl⟩
  refine v_ld he hu rfl rfl rfl rfl rfl ?_
  refine v_ld he hu rfl rfl rfl rfl rfl ?_
  refine v_ld he hu rfl rfl rfl rfl rfl ?_
  refine v_c he hu rfl rfl rfl rfl ?_
  refine v_bin hu rfl rfl (fun q => by omega) ?_
  rw [rop_add (by omega)]
  refine v_sld he hu rfl rfl (by omega) ?_
  refine v_callM he hu q1 rfl rfl rfl rfl (lm_met (d := 62) he q1 (rx_n_lt _) (by omega)) (fun v h2 r => ?_)
  obtain ⟨r1, r2, r3⟩ := r
  have g1 : gv h2 12 = gv h1 12 := gv_fr (r2 _ rfl rfl)
  have g2 : gv h2 274469 = gv h1 274469 := gv_fr (r2 _ rfl rfl)
  have g3 : gv h2 286721 = gv h1 286721 := gv_fr (r2 _ rfl rfl)
  have g4 : gv h2 274485 = gv h1 274485 := gv_fr (r2 _ rfl rfl)
  have g5 : gv h2 274486 = gv h1 274486 := gv_fr (r2 _ rfl rfl)
  have P2 : mo_P h2 := mo_P_fr rfl _ _ P1 r2
  have fin : v = some (fc z1) ∧ gv h2 12 = gv h2 274502 ∧ gv h2 12 ≤ 100000 := by
    generalize rx_n (B.2.2.1 (i + 1)) = w at q3 r3
    rcases q3 with ⟨a1, a2, a3, a4⟩ | ⟨a1, a3, a4⟩ <;> rcases r3 with ⟨b1, b2, b3, b4⟩ | ⟨b1, b3, b4⟩
    · have a3 : z1 = gv h 12 + w := by injection (Option.some.inj a3)
      refine ⟨by rw [b3, a3, e1, j5], by omega, by omega⟩
    · omega
    · omega
    · have a3 : z1 = 4294967295 := by injection (Option.some.inj a3)
      refine ⟨by rw [b3, a3], by omega, by omega⟩
  obtain ⟨rfl, f1, f2⟩ := fin
  refine v_cmp he hu rfl rfl rfl (ru_ne rfl) (fun c1 => ?_) (fun c1 => ?_)
  rotate_left
  · rw [show fx_con 0 (fx_b z1) (fx_b z1) = Nat.beq (fx_b z1) (fx_b z1) from rfl, Nat.beq_refl] at c1
    cases c1
  -- (1269, 3, 0, 1409, 0)
  exact kk _ ⟨⟨r1, P2, fun q => by have := j3 (by omega); omega, by omega⟩, f1, f2⟩
set_option maxRecDepth 100000 in
theorem lc_fits (he : ai_env X B) (hL : B.2.1 ≤ 3072) (hi : i + 6 ≤ B.2.1) (kk : ∀ h, la_J h → rv l X Y B 64 fw_law 1409 (lw_l i) [] h lw_K) {h : fx_H} (hJ : la_J h) : rv l X Y B 64 fw_law 1274 (lw_l i) [] h lw_K := by
  have hu := hu_law
  refine v_ld he hu rfl rfl rfl rfl rfl ?_
  refine v_ld he hu rfl rfl rfl rfl rfl ?_
  refine v_ld he hu rfl rfl rfl rfl rfl ?_
  refine v_c he hu rfl rfl rfl rfl ?_
  refine v_bin hu rfl rfl (fun q => by omega) ?_
  rw [rop_add (by omega)]
  refine v_sld he hu rfl rfl (by omega) ?_
  refine v_callX he hu hJ.1.1 rfl rfl rfl rfl (px_fits he hJ (rx_n_lt _)) (fun v h1 q => ?_)
  obtain ⟨⟨x1, rfl⟩, hJ1⟩ := q
  refine v_pop he hu rfl rfl rfl ?_
  refine v_ld he hu rfl rfl rfl rfl rfl ?_
  refine v_ld he hu rfl rfl rfl rfl rfl ?_
  refine v_ld he hu rfl rfl rfl rfl rfl ?_
  refine v_c he hu rfl rfl rfl rfl ?_
  refine v_bin hu rfl rfl (fun q => by omega) ?_
  rw [rop_add (by omega)]
  refine v_sld he hu rfl rfl (by omega) ?_
  refine v_callM he hu hJ1.1.1 rfl rfl rfl rfl (pm_fits he hJ1 (rx_n_lt _)) (fun v h2 q => ?_)
  obtain ⟨⟨x2, rfl⟩, hJ2⟩ := q
  refine v_pop he hu rfl rfl rfl ?_
  refine v_go he hu rfl ne_law ?_
  exact kk _ hJ2
set_option maxRecDepth 100000 in
theorem lc_ask (he : ai_env X B) (hL : B.2.1 ≤ 3072) (hi : i + 6 ≤ B.2.1) (kk : ∀ h, la_J h → rv l X Y B 64 fw_law 1409 (lw_l i) [] h lw_K) {h : fx_H} (hJ : la_J h) : rv l X Y B 64 fw_law 1297 (lw_l i) [] h lw_K := by
  have hu := hu_law
  refine v_ld he hu rfl rfl rfl rfl rfl ?_
  refine v_ld he hu rfl rfl rfl rfl rfl ?_
  refine v_ld he hu rfl rfl rfl rfl rfl ?_
  refine v_c he hu rfl rfl rfl rfl ?_
  refine v_bin hu rfl rfl (fun q => by omega) ?_
  rw [rop_add (by omega)]
  refine v_sld he hu rfl rfl (by omega) ?_
  refine v_ld he hu rfl rfl rfl rfl rfl ?_
  refine v_ld he hu rfl rfl rfl rfl rfl ?_
  refine v_c he hu rfl rfl rfl rfl ?_
  refine v_bin hu rfl rfl (fun q => by omega) ?_
  rw [rop_add (by omega)]
  refine v_sld he hu rfl rfl (by omega) ?_
  refine v_ld he hu rfl rfl rfl rfl rfl ?_
  refine v_ld he hu rfl rfl rfl rfl rfl ?_
  refine v_c he hu rfl rfl rfl rfl ?_
  refine v_bin hu rfl rfl (fun q => by omega) ?_
  rw [rop_add (by omega)]
  refine v_sld he hu rfl rfl (by omega) ?_
  refine v_callX he hu hJ.1.1 rfl rfl rfl rfl (px_ask he hJ (rx_n_lt _) (rx_n_lt _) (rx_n_lt _)) (fun v h1 q => ?_)
  obtain ⟨⟨x1, rfl⟩, hJ1⟩ := q
  refine v_pop he hu rfl rfl rfl ?_
  refine v_ld he hu rfl rfl rfl rfl rfl ?_
  refine v_ld he hu rfl rfl rfl rfl rfl ?_
  refine v_ld he hu rfl rfl rfl rfl rfl ?_
  refine v_c he hu rfl rfl rfl rfl ?_
  refine v_bin hu rfl rfl (fun q => by omega) ?_
  rw [rop_add (by omega)]
  refine v_sld he hu rfl rfl (by omega) ?_
  refine v_ld he hu rfl rfl rfl rfl rfl ?_
  refine v_ld he hu rfl rfl rfl rfl rfl ?_
  refine v_c he hu rfl rfl rfl rfl ?_
  refine v_bin hu rfl rfl (fun q => by omega) ?_
  rw [rop_add (by omega)]
  refine v_sld he hu rfl rfl (by omega) ?_
  refine v_ld he hu rfl rfl rfl rfl rfl ?_
  refine v_ld he hu rfl rfl rfl rfl rfl ?_
  refine v_c he hu rfl rfl rfl rfl ?_
  refine v_bin hu rfl rfl (fun q => by omega) ?_
  rw [rop_add (by omega)]
  refine v_sld he hu rfl rfl (by omega) ?_
  refine v_callM he hu hJ1.1.1 rfl rfl rfl rfl (pm_ask he hJ1 (rx_n_lt _) (rx_n_lt _) (rx_n_lt _)) (fun v h2 q => ?_)
  obtain ⟨⟨x2, rfl⟩, hJ2⟩ := q
  refine v_pop he hu rfl rfl rfl ?_
  refine v_go he hu rfl ne_law ?_
  exact kk _ hJ2
set_option maxRecDepth 100000 in
theorem lc_image (he : ai_env X B) (hL : B.2.1 ≤ 3072) (hi : i + 6 ≤ B.2.1) (kk : ∀ h, la_J h → rv l X Y B 64 fw_law 1409 (lw_l i) [] h lw_K) {h : fx_H} (hJ : la_J h) : rv l X Y B 64 fw_law 1340 (lw_l i) [] h lw_K := by
  have hu := hu_law
  refine v_ld he hu rfl rfl rfl rfl rfl ?_
  refine v_ld he hu rfl rfl rfl rfl rfl ?_
  refine v_ld he hu rfl rfl rfl rfl rfl ?_
  refine v_c he hu rfl rfl rfl rfl ?_
  refine v_bin hu rfl rfl (fun q => by omega) ?_
  rw [rop_add (by omega)]
  refine v_sld he hu rfl rfl (by omega) ?_
  refine v_callX he hu hJ.1.1 rfl rfl rfl rfl (px_image he hJ (rx_n_lt _)) (fun v h1 q => ?_)
  obtain ⟨⟨x1, rfl⟩, hJ1⟩ := q
  refine v_pop he hu rfl rfl rfl ?_
  refine v_ld he hu rfl rfl rfl rfl rfl ?_
  refine v_ld he hu rfl rfl rfl rfl rfl ?_
  refine v_ld he hu rfl rfl rfl rfl rfl ?_
  refine v_c he hu rfl rfl rfl rfl ?_
  refine v_bin hu rfl rfl (fun q => by omega) ?_
  rw [rop_add (by omega)]
  refine v_sld he hu rfl rfl (by omega) ?_
  refine v_callM he hu hJ1.1.1 rfl rfl rfl rfl (pm_image he hJ1 (rx_n_lt _)) (fun v h2 q => ?_)
  obtain ⟨⟨x2, rfl⟩, hJ2⟩ := q
  refine v_pop he hu rfl rfl rfl ?_
  refine v_go he hu rfl ne_law ?_
  exact kk _ hJ2
set_option maxRecDepth 100000 in
theorem lc_back (he : ai_env X B) (hL : B.2.1 ≤ 3072) (hi : i + 6 ≤ B.2.1) (kk : ∀ h, la_J h → rv l X Y B 64 fw_law 1409 (lw_l i) [] h lw_K) {h : fx_H} (hJ : la_J h) : rv l X Y B 64 fw_law 1363 (lw_l i) [] h lw_K := by
  have hu := hu_law
  refine v_ld he hu rfl rfl rfl rfl rfl ?_
  refine v_ld he hu rfl rfl rfl rfl rfl ?_
  refine v_ld he hu rfl rfl rfl rfl rfl ?_
  refine v_c he hu rfl rfl rfl rfl ?_
  refine v_bin hu rfl rfl (fun q => by omega) ?_
  rw [rop_add (by omega)]
  refine v_sld he hu rfl rfl (by omega) ?_
  refine v_callX he hu hJ.1.1 rfl rfl rfl rfl (px_back he hJ (rx_n_lt _)) (fun v h1 q => ?_)
  obtain ⟨⟨x1, rfl⟩, hJ1⟩ := q
  refine v_pop he hu rfl rfl rfl ?_
  refine v_ld he hu rfl rfl rfl rfl rfl ?_
  refine v_ld he hu rfl rfl rfl rfl rfl ?_
  refine v_ld he hu rfl rfl rfl rfl rfl ?_
  refine v_c he hu rfl rfl rfl rfl ?_
  refine v_bin hu rfl rfl (fun q => by omega) ?_
  rw [rop_add (by omega)]
  refine v_sld he hu rfl rfl (by omega) ?_
  refine v_callM he hu hJ1.1.1 rfl rfl rfl rfl (pm_back he hJ1 (rx_n_lt _)) (fun v h2 q => ?_)
  obtain ⟨⟨x2, rfl⟩, hJ2⟩ := q
  refine v_pop he hu rfl rfl rfl ?_
  refine v_go he hu rfl ne_law ?_
  exact kk _ hJ2
set_option maxRecDepth 100000 in
theorem lc_about (he : ai_env X B) (hL : B.2.1 ≤ 3072) (hi : i + 6 ≤ B.2.1) (kk : ∀ h, la_J h → rv l X Y B 64 fw_law 1409 (lw_l i) [] h lw_K) {h : fx_H} (hJ : la_J h) : rv l X Y B 64 fw_law 1386 (lw_l i) [] h lw_K := by
  have hu := hu_law
  refine v_ld he hu rfl rfl rfl rfl rfl ?_
  refine v_ld he hu rfl rfl rfl rfl rfl ?_
  refine v_ld he hu rfl rfl rfl rfl rfl ?_
  refine v_c he hu rfl rfl rfl rfl ?_
  refine v_bin hu rfl rfl (fun q => by omega) ?_
  rw [rop_add (by omega)]
  refine v_sld he hu rfl rfl (by omega) ?_
  refine v_callX he hu hJ.1.1 rfl rfl rfl rfl (px_about he hJ (rx_n_lt _)) (fun v h1 q => ?_)
  obtain ⟨⟨x1, rfl⟩, hJ1⟩ := q
  refine v_pop he hu rfl rfl rfl ?_
  refine v_ld he hu rfl rfl rfl rfl rfl ?_
  refine v_ld he hu rfl rfl rfl rfl rfl ?_
  refine v_ld he hu rfl rfl rfl rfl rfl ?_
  refine v_c he hu rfl rfl rfl rfl ?_
  refine v_bin hu rfl rfl (fun q => by omega) ?_
  rw [rop_add (by omega)]
  refine v_sld he hu rfl rfl (by omega) ?_
  refine v_callM he hu hJ1.1.1 rfl rfl rfl rfl (pm_about he hJ1 (rx_n_lt _)) (fun v h2 q => ?_)
  obtain ⟨⟨x2, rfl⟩, hJ2⟩ := q
  refine v_pop he hu rfl rfl rfl ?_
  refine v_go he hu rfl ne_law ?_
  exact kk _ hJ2
end LC
