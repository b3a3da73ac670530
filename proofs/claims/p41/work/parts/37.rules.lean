section RXD
variable {l : Launch} {X : fx_X} {Y : fx_Y} {B : fx_B} {d : Nat} {cod : List fx_I} {K : rx_K} {loc : fx_L} {stk : List fx_V} {h : fx_H} {pc a b c : Nat} {tl : List fx_I}
theorem rx_lit2 (hn : rx_nx l X Y B d cod K pc 2 tl loc (fr 1000004 :: stk) h) : rx_run l X Y B d cod ((pc, 27, 73, b, c) :: tl) loc stk h K := by
  intro p e R s m args below meth c0 Q cc nL own ini rt F hR hsub hrt H locs ls st hs
  have hgo := rx_gok F hR hrt
  obtain ⟨hx, hb, -, hown, -, -, -, -, hcx, -, hcod⟩ := F
  obtain ⟨hd, ha⟩ := hcod _ _ _ _ _ (hsub _ List.mem_cons_self) (by decide)
  obtain ⟨ho, -⟩ := ha.2.2.2.2.2.2.2.2.2.2.2.2.2.2.2.1 rfl
  subst ho
  obtain ⟨hl0, hst, hrh, hrj, hls⟩ := hs
  obtain ⟨a2, b2, h1, h2, h3, -⟩ := hcx.2.2.2.1.2
  exact va_ldcS hx hb hown h3 hd (fx_nxt hgo (fun q hq => hsub q (List.mem_cons_of_mem _ hq)) hn ⟨hl0, ⟨h1.symm, hst⟩, hrh, hrj, hls⟩ (Nat.le_refl _) (Nat.le_refl _))
theorem rx_gstr (hn : rx_nx l X Y B d cod K pc 3 tl loc (fx_if (Nat.beq b 0) (fr 1000005) (fc 0) :: stk) h) (hb2 : b < 2) : rx_run l X Y B d cod ((pc, 25, a, b, c) :: tl) loc (fr 1000004 :: stk) h K := by
  intro p e R s m args below meth c0 Q cc nL own ini rt F hR hsub hrt H locs ls st hs
  have hgo := rx_gok F hR hrt
  obtain ⟨hx, hb, -, hown, hts, -, -, -, hcx, -, hcod⟩ := F
  obtain ⟨hd, ha⟩ := hcod _ _ _ _ _ (hsub _ List.mem_cons_self) (by decide)
  have ha := ha.2.2.2.2.2.2.2.2.2.2.2.2.2.1 rfl
  obtain ⟨hl0, hst, hrh, hrj, hls⟩ := hs
  obtain ⟨w, st1, rfl, hrv, hst1⟩ := fx_rl_cons hst
  have hw : w = fx_ad X 1000004 := hrv
  subst hw
  obtain ⟨a2, b2, h1, h2, h3, h4, h5, h6, h7⟩ := hcx.2.2.2.1.2
  rw [h1]
  rcases (by omega : b = 0 ∨ b = 1) with rfl | rfl
  · obtain ⟨cf, kf, fi, f, cell, g1, g2, g3, g4, g5, g6⟩ := h5
    exact W.getf hx hb hown (hts _ (ha.1 rfl)) g1 g2 (by rw [hrh.2.2 _ (Nat.not_le.mp g6)]; exact g3) g4 g5 rfl rfl hd (fx_nxt hgo (fun q hq => hsub q (List.mem_cons_of_mem _ hq)) hn ⟨hl0, ⟨h2.symm, hst1⟩, hrh, hrj, hls⟩ (Nat.le_refl _) (Nat.le_refl _))
  · obtain ⟨cf, kf, fi, f, cell, g1, g2, g3, g4, g5, g6⟩ := h6
    exact W.getf hx hb hown (hts _ (ha.2 rfl)) g1 g2 (by rw [hrh.2.2 _ (Nat.not_le.mp g6)]; exact g3) g4 g5 rfl rfl hd (fx_nxt hgo (fun q hq => hsub q (List.mem_cons_of_mem _ hq)) hn ⟨hl0, ⟨rfl, hst1⟩, hrh, hrj, hls⟩ (Nat.le_refl _) (Nat.le_refl _))
theorem rx_len2 (hn : rx_nx l X Y B d cod K pc 1 tl loc (fc 11 :: stk) h) : rx_run l X Y B d cod ((pc, 18, a, b, c) :: tl) loc (fr 1000005 :: stk) h K := by
  intro p e R s m args below meth c0 Q cc nL own ini rt F hR hsub hrt H locs ls st hs
  have hgo := rx_gok F hR hrt
  obtain ⟨hx, hb, -, hown, hts, -, -, -, hcx, -, hcod⟩ := F
  obtain ⟨hd, ha⟩ := hcod _ _ _ _ _ (hsub _ List.mem_cons_self) (by decide)
  obtain ⟨hl0, hst, hrh, hrj, hls⟩ := hs
  obtain ⟨w, st1, rfl, hrv, hst1⟩ := fx_rl_cons hst
  have hw : w = fx_ad X 1000005 := hrv
  subst hw
  obtain ⟨a2, b2, h1, h2, h3, h4, h5, h6, cell, g1, g2, g3, g4, g5, g6, g7⟩ := hcx.2.2.2.1.2
  rw [h2]
  exact W.alen (n := Int32.ofNat 11) hx hb (by rw [hrh.2.2 _ (Nat.not_le.mp g7)]; exact g1) g2 g5 rfl rfl hd (fx_nxt hgo (fun q hq => hsub q (List.mem_cons_of_mem _ hq)) hn ⟨hl0, ⟨rfl, hst1⟩, hrh, hrj, hls⟩ (Nat.le_refl _) (Nat.le_refl _))
theorem rx_txt2_lt : ∀ n, n < 11 → fx_txt2.getD n 0 < 128 := by decide +kernel
theorem rx_ld2 {m : Nat} (hm : m < 11) (hn : ∀ z, z < 128 → rx_nx l X Y B d cod K pc 1 tl loc (fc z :: stk) h) : rx_run l X Y B d cod ((pc, 6, 1, b, c) :: tl) loc (fc m :: fr 1000005 :: stk) h K := by
  intro p e R s mm args below meth c0 Q cc nL own ini rt F hR hsub hrt H locs ls st hs
  have hgo := rx_gok F hR hrt
  obtain ⟨hx, hb, -, hown, hts, -, -, -, hcx, -, hcod⟩ := F
  obtain ⟨hd, ha⟩ := hcod _ _ _ _ _ (hsub _ List.mem_cons_self) (by decide)
  obtain ⟨hl0, hst, hrh, hrj, hls⟩ := hs
  obtain ⟨wi, st1, rfl, hri, hst1⟩ := fx_rl_cons hst
  obtain ⟨w, st2, rfl, hrv, hst2⟩ := fx_rl_cons hst1
  have hri : wi = .int (Int32.ofNat m) := hri
  have hw : w = fx_ad X 1000005 := hrv
  subst hw; subst hri
  obtain ⟨a2, b2, h1, h2, h3, h4, h5, h6, cell, g1, g2, g3, g4, g5, g6, g7⟩ := hcx.2.2.2.1.2
  rw [h2]
  exact fx_wald (ty := 1) (cell := cell) hx hb (by rw [hrh.2.2 _ (Nat.not_le.mp g7)]; exact g1) g2 g3 rfl (by omega) (by omega) (g6 m hm) hd (fx_nxt hgo (fun q hq => hsub q (List.mem_cons_of_mem _ hq)) (hn _ (rx_txt2_lt m hm)) ⟨hl0, ⟨rfl, hst2⟩, hrh, hrj, hls⟩ (Nat.le_refl _) (Nat.le_refl _))
/-- words for Math.abs -/
def rx_wa : Prop := Cond.static Lib.Math.abs.name ∈ fx_tb ∧ Cond.code Lib.Math.abs.name Lib.Math.abs.code 1 (some .int) ∈ fx_tb ∧ Cond.initialized "java/lang/Math" ∈ fx_tb
theorem rx_abs (hX : fx_xo X) (hw : rx_wa) (hd0 : 0 < d) (h8 : fx_cats stk ≤ 8) {x : Nat} (hn : rx_nx l X Y B d cod K pc 3 tl loc (fc (rx_n (if 0 ≤ Int32.ofNat x then Int32.ofNat x else 0 - Int32.ofNat x)) :: stk) h) : rx_run l X Y B d cod ((pc, 29, a, 2, c) :: tl) loc (fc x :: stk) h K := by
  intro p e R s m args below meth c0 Q cc nL own ini rt F hR hsub hrt H locs ls st hs
  have hgo := rx_gok F hR hrt
  obtain ⟨hx, hb, hml, hown, hts, -, -, -, hcx, -, hcod⟩ := F
  obtain ⟨hd, ha⟩ := hcod _ _ _ _ _ (hsub _ List.mem_cons_self) (by decide)
  have ha := ha.2.2.2.2.2.2.2.2.2.2.2.2.2.2.2.2.2.2 rfl
  obtain ⟨hl0, hst, hrh, hrj, hls⟩ := hs
  obtain ⟨wx, st2, rfl, hrx, hst2⟩ := fx_rl_cons hst
  have hrx : wx = .int (Int32.ofNat x) := hrx
  subst hrx
  have hsum := fx_cats_ok hX hst2
  obtain ⟨lv, hlv, hrn⟩ := hl0
  obtain ⟨r1, r2, r3, r4⟩ := hR
  exact va_mabs hx hb (by rw [hml]; exact hlv.1.symm) hown (hts _ (ha.2.2 rfl)) (hts _ hw.1) (hts _ hw.2.2) (hts _ hw.2.1) (by omega) (by omega) (by omega) (by omega) hd (fx_nxt hgo (fun q hq => hsub q (List.mem_cons_of_mem _ hq)) hn ⟨⟨lv, hlv, hrn⟩, ⟨by show Value.int _ = .int (Int32.ofNat (rx_n _)); rw [rx_n_of], hst2⟩, hrh, hrj, hls⟩ (Nat.le_refl _) (Nat.le_refl _))
theorem rx_lcmp {x y : Nat} (h1 : Int64.ofNat y < Int64.ofNat x → rx_nx l X Y B d cod K pc 1 tl loc (fc 1 :: stk) h) (h2 : Int64.ofNat x = Int64.ofNat y → rx_nx l X Y B d cod K pc 1 tl loc (fc 0 :: stk) h) (h3 : ¬ Int64.ofNat y < Int64.ofNat x → ¬ Int64.ofNat x = Int64.ofNat y → rx_nx l X Y B d cod K pc 1 tl loc (fc 4294967295 :: stk) h) : rx_run l X Y B d cod ((pc, 30, a, b, c) :: tl) loc (fl y :: fl x :: stk) h K := by
  intro p e R s m args below meth c0 Q cc nL own ini rt F hR hsub hrt H locs ls st hs
  have hgo := rx_gok F hR hrt
  obtain ⟨hx, hb, -, -, -, -, -, -, -, -, hcod⟩ := F
  obtain ⟨hd, ha⟩ := hcod _ _ _ _ _ (hsub _ List.mem_cons_self) (by decide)
  obtain ⟨hl0, hst, hrh, hrj, hls⟩ := hs
  obtain ⟨wy, st1, rfl, hry, hst1⟩ := fx_rl_cons hst
  obtain ⟨wx, st, rfl, hrx, hst2⟩ := fx_rl_cons hst1
  have hry : wy = .long (Int64.ofNat y) := hry
  have hrx : wx = .long (Int64.ofNat x) := hrx
  subst hry; subst hrx
  have KK : ∀ z, rx_nx l X Y B d cod K pc 1 tl loc (fc z :: stk) h → W p l e R s m args below meth c0 H locs 0 0 Q (F0 m (pc + 1) ls (.int (Int32.ofNat z) :: st)) := fun z q1 => fx_nxt hgo (fun q hq => hsub q (List.mem_cons_of_mem _ hq)) q1 ⟨hl0, ⟨rfl, hst2⟩, hrh, hrj, hls⟩ (Nat.le_refl _) (Nat.le_refl _)
  refine W.lcmp hx hb hd ?_
  by_cases q1 : Int64.ofNat y < Int64.ofNat x
  · have e1 : lg_cmp (Int64.ofNat x) (Int64.ofNat y) = Int32.ofNat 1 := by simp [lg_cmp, q1]
    rw [e1]
    exact KK 1 (h1 q1)
  · by_cases q2 : Int64.ofNat x = Int64.ofNat y
    · have e1 : lg_cmp (Int64.ofNat x) (Int64.ofNat y) = Int32.ofNat 0 := by simp [lg_cmp, q1, q2]
      rw [e1]
      exact KK 0 (h2 q2)
    · have e1 : lg_cmp (Int64.ofNat x) (Int64.ofNat y) = Int32.ofNat 4294967295 := by
        simp only [lg_cmp, q1, q2, if_false]
        rfl
      rw [e1]
      exact KK 4294967295 (h3 q1 q2)
/-- a store of an int into bytes or booleans -/
theorem rx_bst {ty len i x r : Nat} {u : List (Nat × fx_V)} (hg : fx_hget h r = some (.inr (.inr (ty, len, u)))) (hty : ty = 1 ∨ ty = 2) (hi : i < len) (hn : ∀ z, z < 4294967296 → (ty = 1 → 2147483520 ≤ fx_b z ∧ fx_b z ≤ 2147483775 ∧ (2147483520 ≤ fx_b x → fx_b x ≤ 2147483775 → x < 4294967296 → z = x)) → (ty = 2 → 2147483648 ≤ fx_b z ∧ fx_b z ≤ 2147483649 ∧ (x < 2 → z = x)) → fx_aset ty u i (fc z) (fun u' => fx_hset h r (.inr (.inr (ty, len, u'))) (fun h' => fx_nx (fun t => rx_go l X Y B d cod K t loc stk 0 0 h' []) pc 1 tl)) = true) : rx_run l X Y B d cod ((pc, 8, 1, b, c) :: tl) loc (fc x :: fc i :: fr r :: stk) h K := by
  intro p e R s m args below meth c0 Q cc nL own ini rt F hR hsub hrt H locs ls st hs
  have hgo := rx_gok F hR hrt
  obtain ⟨hx, hb, -, hown, hts, -, -, -, hcx, -, hcod⟩ := F
  obtain ⟨hd, -⟩ := hcod _ _ _ _ _ (hsub _ List.mem_cons_self) (by decide)
  obtain ⟨hl0, hst, hrh, hrj, hls⟩ := hs
  obtain ⟨wv, st1, rfl, hrv, hst1⟩ := fx_rl_cons hst
  obtain ⟨wi, st2, rfl, hri, hst2⟩ := fx_rl_cons hst1
  obtain ⟨wr, st3, rfl, hrr, hst3⟩ := fx_rl_cons hst2
  have hrv : wv = .int (Int32.ofNat x) := hrv
  have hri : wi = .int (Int32.ofNat i) := hri
  have hrr : wr = fx_ad X r := hrr
  subst hrv; subst hri; subst hrr
  obtain ⟨f, g1, g2, g3, g4, g5⟩ := fx_arr hrh hg
  rw [g5]
  have hin : ¬ (Int32.ofNat i < 0 ∨ (arrV (Y.2.1 ty) len f).slots.size ≤ (Int32.ofNat i).toNatClampNeg) := by rw [arrV_size]; exact fx_inb hi g2
  have hcn : (Int32.ofNat i).toNatClampNeg = i := fx_clamp (by omega)
  have harr := (hcx.2.1 ty g3).1 len f
  -- what goes on, for a number that is held
  have fin : ∀ (z : Nat), fx_aset ty u i (fc z) (fun u' => fx_hset h r (.inr (.inr (ty, len, u'))) (fun h' => fx_nx (fun t => rx_go l X Y B d cod K t loc stk 0 0 h' []) pc 1 tl)) = true → ∀ (H1 : Heap) (lc : Loc), lc.base = X.2.1 + r → H1[X.2.1 + r]? = some (arrV (Y.2.1 ty) len (updV f i (.int (Int32.ofNat z)))) → H1.size = H.size → (∀ q : Nat, q ≠ X.2.1 + r → H1[q]? = H[q]?) → W p l e R s m args below meth c0 H1 (locs ++ [lc]) 0 0 Q (F0 m (pc + 1) ls st3) := fun z ez H1 lc hlc q1 q2 q3 => by
    obtain ⟨u', e7, k1, k2⟩ := fx_aset_ok ez
    obtain ⟨h', e8, f1, ⟨c00, f2⟩, f3, f4⟩ := fx_hset_ok e7
    refine fx_nxt hgo (fun q hq => hsub q (List.mem_cons_of_mem _ hq)) e8 ⟨hl0, hst3, fx_rh_set hrh f1 f2 f3 f4 q2 q3 ⟨_, q1, g2, g3, fun y => ?_⟩, hrj, fx_ls_add hls hlc⟩ (Nat.le_refl _) (Nat.le_refl _)
    by_cases hy : y = i
    · subst hy
      rw [k1]
      simp only [updV, if_true]
      rfl
    · rw [k2 y hy]
      simp only [updV, if_neg hy]
      exact g4 y
  rcases hty with rfl | rfl
  · obtain ⟨z1, z2, z3⟩ := ai_z_i2b (Int32.ofNat x)
    refine W.bast hx hb g1 harr fx_known hin rfl rfl hd (fun H1 q1 q2 q3 => fin (rx_n (Int32.ofNat x).toInt8.toInt32) (hn _ (rx_n_lt _) (fun _ => ?_) (fun q => by cases q)) H1 _ rfl ?_ q2 q3)
    · rw [rx_n_b]
      refine ⟨z1, z2, fun q1 q2 q3 => ?_⟩
      rw [z3 (by rw [fx_z_of]; exact q1) (by rw [fx_z_of]; exact q2)]
      unfold rx_n
      rw [fx_z_of, ai_b_b q3]
    · rw [q1, hcn, arrV_store, narrow_byte, rx_n_of]
  · refine W.zast hx hb g1 harr fx_known hin rfl rfl hd (fun H1 q1 q2 q3 => fin (rx_n (Int32.ofNat x &&& 1)) (hn _ (rx_n_lt _) (fun q => by cases q) (fun _ => ?_)) H1 _ rfl ?_ q2 q3)
    · have e1 : Int32.ofNat x &&& 1 = Int32.ofNat (Nat.land x 1) := (fx_o_and x 1).symm
      have e2 : Nat.land x 1 ≤ 1 := Nat.and_le_right
      rw [rx_n_b, e1, ai_z_of (by omega)]
      refine ⟨by omega, by omega, fun q => ?_⟩
      unfold rx_n
      rw [ai_z_of (by omega)]
      rcases (by omega : x = 0 ∨ x = 1) with rfl | rfl
      · rfl
      · rfl
    · rw [q1, hcn, arrV_store, rx_n_of]
      rfl
end RXD
