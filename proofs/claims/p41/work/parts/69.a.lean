section LR
variable {l : Launch} {X : fx_X} {Y : fx_Y} {B : fx_B} {d : Nat} {cod : List fx_I} {K : rx_K} {loc : fx_L} {stk : List fx_V} {h : fx_H} {pc a b c nx : Nat} {tl : List fx_I}
theorem ry_len (hXX : fx_xx X B) (hn : ry_nx l X Y B d cod K pc 1 tl loc (fc B.2.1 :: stk) h) : ry_run l X Y B d cod ((pc, 18, a, b, c) :: tl) loc (fr 1000000 :: stk) h K := by
  intro p e R s m args below meth c0 Q cc nL own ini rt F hR hsub hrt H locs ls st hs
  have hgo := ry_gok F hR hrt
  obtain ⟨hx, hb, -, hown, hts, -, -, -, hcx, -, hcod⟩ := F
  obtain ⟨hd, ha⟩ := hcod _ _ _ _ _ (hsub _ List.mem_cons_self) (by decide)
  obtain ⟨hl0, hst, hrh, hrj, hls⟩ := hs
  obtain ⟨w, st1, rfl, hrv, hst1⟩ := fx_rl_cons hst
  have hw : w = fx_ad X 1000000 := hrv
  subst hw
  obtain ⟨hxo, -, hxs, h8, hL, hb0, -, hb2, hbl⟩ := hXX
  obtain ⟨scr, g1, g2, g3, g4, g5⟩ := hcx.2.2.2.2.2.2.2.2.2.2
  rw [hb0]
  exact W.alen (n := Int32.ofNat B.2.1) hx hb (by rw [hrh.2.2 _ hbl]; exact g1) g2 (by rw [g4]) rfl rfl hd (fx_nxt hgo (fun q hq => hsub q (List.mem_cons_of_mem _ hq)) hn ⟨hl0, ⟨rfl, hst1⟩, hrh, hrj, hls⟩ (by decide) (by decide))
theorem ry_sld {n : Nat} (hXX : fx_xx X B) (hnL : n < B.2.1) (hn : ry_nx l X Y B d cod K pc 1 tl loc (fc (rx_n (B.2.2.1 n)) :: stk) h) : ry_run l X Y B d cod ((pc, 6, 0, b, c) :: tl) loc (fc n :: fr 1000000 :: stk) h K := by
  intro p e R s m args below meth c0 Q cc nL own ini rt F hR hsub hrt H locs ls st hs
  have hgo := ry_gok F hR hrt
  obtain ⟨hx, hb, -, hown, hts, -, -, -, hcx, -, hcod⟩ := F
  obtain ⟨hd, ha⟩ := hcod _ _ _ _ _ (hsub _ List.mem_cons_self) (by decide)
  obtain ⟨hl0, hst, hrh, hrj, hls⟩ := hs
  obtain ⟨wi, st1, rfl, hri, hst1⟩ := fx_rl_cons hst
  obtain ⟨wr, st2, rfl, hrr, hst2⟩ := fx_rl_cons hst1
  have hri : wi = .int (Int32.ofNat n) := hri
  subst hri
  have hrr : wr = fx_ad X 1000000 := hrr
  subst hrr
  obtain ⟨hxo, -, hxs, h8, hL, hb0, -, -, hbl⟩ := hXX
  obtain ⟨scr, g1, g2, g3, g4, g5⟩ := hcx.2.2.2.2.2.2.2.2.2.2
  rw [hb0]
  exact fx_wald (ty := 0) (cell := scr) hx hb (by rw [hrh.2.2 _ hbl]; exact g1) g2 g3 rfl (by rw [g4]; exact hnL) (by omega) (g5 n hnL) hd (fx_nxt hgo (fun q hq => hsub q (List.mem_cons_of_mem _ hq)) hn ⟨hl0, ⟨by show Value.int _ = .int (Int32.ofNat (rx_n _)); rw [rx_n_of], hst2⟩, hrh, hrj, hls⟩ (by decide) (by decide))
theorem v_len (he : ai_env X B) (hu : ru_u cod = true) (hat : ru_e cod pc = some (18, a, b, c, nx)) (hl : nx = pc + (0 + 1)) (k : rv l X Y B d cod nx loc (fc B.2.1 :: stk) h K) : rv l X Y B d cod pc loc (fr 1000000 :: stk) h K := rv_raw hu hat (fun tl ht => ry_len he.1 (rv_nx ht hl k))
theorem v_sld {n : Nat} (he : ai_env X B) (hu : ru_u cod = true) (hat : ru_e cod pc = some (6, 0, b, c, nx)) (hl : nx = pc + (0 + 1)) (hn : n < B.2.1) (k : rv l X Y B d cod nx loc (fc (rx_n (B.2.2.1 n)) :: stk) h K) : rv l X Y B d cod pc loc (fc n :: fr 1000000 :: stk) h K := rv_raw hu hat (fun tl ht => ry_sld he.1 hn (rv_nx ht hl k))
theorem v_swk {n : Nat} (hb : b = 0) (hn : n < 2147483648) (t : Nat) (ht : (match fx_nth (fx_swt c) n with
    | some t => t
    | none => a) = t) (hne : fx_to cod t ≠ []) (k : rv l X Y B d cod t loc stk h K) : fx_k20 rx_E (ry_go l X Y B d cod K) cod a b c loc (fc n :: stk) 1000 100000 h [] = true := by
  show fx_if (Nat.ble (fx_b b) (fx_b n)) (match fx_nth (fx_swt c) (fx_b n - fx_b b) with
    | some t => ry_go l X Y B d cod K (fx_to cod t) loc stk 1000 100000 h []
    | none => ry_go l X Y B d cod K (fx_to cod a) loc stk 1000 100000 h []) (ry_go l X Y B d cod K (fx_to cod a) loc stk 1000 100000 h []) = true
  have e1 : fx_b b = 2147483648 := by rw [rb_small (by omega)]; omega
  have e2 := rb_small hn
  rw [rx_ble (by omega : fx_b b ≤ fx_b n), fx_if_t, show fx_b n - fx_b b = n by omega]
  cases hq : fx_nth (fx_swt c) n with
  | some t' =>
    rw [hq] at ht
    have ht : t' = t := ht
    subst ht
    exact rv_jmp hne k
  | none =>
    rw [hq] at ht
    have ht : a = t := ht
    subst ht
    exact rv_jmp hne k
theorem ry_sw (key : fx_k20 rx_E (ry_go l X Y B d cod K) cod a b c loc stk 1000 100000 h [] = true) : ry_run l X Y B d cod ((pc, 20, a, b, c) :: tl) loc stk h K := by
  intro p e R s m args below meth c0 Q cc nL own ini rt F hR hsub hrt H locs ls st hs
  exact fx_s20 (E := rx_E) rfl F (Or.inl rfl) (ry_gok F hR hrt) (hsub _ List.mem_cons_self) key hs (by decide) (by decide)
theorem v_swg {n : Nat} (he : ai_env X B) (hu : ru_u cod = true) (hat : ru_e cod pc = some (20, a, b, c, nx)) (key : fx_k20 rx_E (ry_go l X Y B d cod K) cod a b c loc (fc n :: stk) 1000 100000 h [] = true) : rv l X Y B d cod pc loc (fc n :: stk) h K := rv_raw hu hat (fun tl _ => ry_sw key)
theorem v_sw {n : Nat} (he : ai_env X B) (hu : ru_u cod = true) (hat : ru_e cod pc = some (20, a, b, c, nx)) (hb : b = 0) (hn : n < 2147483648) (t : Nat) (ht : (match fx_nth (fx_swt c) n with
    | some t => t
    | none => a) = t) (hne : fx_to cod t ≠ []) (k : rv l X Y B d cod t loc stk h K) : rv l X Y B d cod pc loc (fc n :: stk) h K := v_swg he hu hat (v_swk hb hn t ht hne k)
end LR
abbrev lw_K : rx_K := fun v _ => v = some (fc 1)
abbrev lw_l (i : Nat) : fx_L := [(3, fc i), (2, fr 67), (1, fr 0), (0, fr 1000000)]
