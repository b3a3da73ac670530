section FXE
variable {l : Launch} {X : fx_X} {Y : fx_Y} {B : fx_B} {mst : Nat → Option fx_S} {mt : Nat → Option fx_M} {p : Program} {e : Env} {R : Room} {s : State} {m : MethodId} {args : Array Value} {below : List Frame} {meth : Method} {c : Code} {Q : State → Prop} {cc : ByteArray} {nL : Nat} {own : String} {ini : Bool} {rt : Option FieldType} {cod : List fx_I} {mc msl : Nat}
variable {go : fx_O} {pc a b d ce sl dd : Nat} {tl : List fx_I} {loc : fx_L} {stk : List fx_V} {h h' : fx_H} {j : fx_J} {H H1 : Heap} {locs : List Loc} {ls : Array Slot} {st : List Value} {k : fx_K}
theorem fx_s15 (F : fx_fs X Y B mst mt p s m args meth c cc nL own ini rt cod) (hX : fx_xo X) (hgo : fx_gok l X Y p e R s m args below meth c Q nL cod mc msl go) (hin : (pc, 15, a, b, d) ∈ cod) (htl : ∀ q ∈ tl, q ∈ cod) (ee : fx_k15 go pc a tl loc stk ce sl h j = true) (hs : fx_st X Y nL loc stk h j H locs ls st) (hce : ce ≤ mc) (hsl : sl ≤ msl) : W p l e R s m args below meth c H locs ce sl Q (F0 m pc ls st) := by
  obtain ⟨hx, hb, -, hown, hts, -, -, -, hcx, -, hcod⟩ := F
  obtain ⟨hd, ha⟩ := hcod _ _ _ _ _ hin (by decide)
  obtain ⟨hl0, hst, hrh, hrj, hls⟩ := hs
  unfold fx_k15 at ee
  cases hq : fx_stk a stk with
  | none => rw [hq] at ee; cases ee
  | some stk2 =>
    rw [hq] at ee
    simp only at ee
    have K : ∀ st2, fx_rl X stk2 st2 → W p l e R s m args below meth c H locs ce sl Q (F0 m (pc + 1) ls st2) := fun st2 h2 => fx_nxt hgo htl ee ⟨hl0, h2, hrh, hrj, hls⟩ hce hsl
    rcases stk with _ | ⟨v, stk⟩
    · cases hq
    obtain ⟨w, st1, rfl, hrv, hst1⟩ := fx_rl_cons hst
    have hcv := fx_cat_of hX hrv
    unfold fx_stk at hq
    simp only at hq
    cases h1 : Nat.beq (fx_cat v) 1 with
    | false => rw [h1, fx_if_f] at hq; cases hq
    | true =>
      rw [h1, fx_if_t] at hq
      have h1 := fx_beq h1
      have hcw : w.category = 1 := by rw [hcv, h1]
      rcases a with _ | _ | a
      · have hq : some (v :: v :: stk) = some stk2 := hq
        cases hq
        exact lv_dup hx hb hd hcw (K _ ⟨hrv, hrv, hst1⟩)
      · have hq : some stk = some stk2 := hq
        cases hq
        exact lv_pop hx hb hd hcw (K _ hst1)
      · rcases stk with _ | ⟨v2, stk⟩
        · cases hq
        obtain ⟨w2, st2, rfl, hrv2, hst2⟩ := fx_rl_cons hst1
        have hcv2 := fx_cat_of hX hrv2
        cases h2 : Nat.beq (fx_cat v2) 1 with
        | false =>
          rcases a with _ | _ | a
          · have hq : fx_if (Nat.beq (fx_cat v2) 1) (some (v :: v2 :: v :: v2 :: stk)) none = some stk2 := hq
            rw [h2, fx_if_f] at hq; cases hq
          · have hq : fx_if (Nat.beq (fx_cat v2) 1) (some (v :: v2 :: v :: stk)) none = some stk2 := hq
            rw [h2, fx_if_f] at hq; cases hq
          · rcases stk with _ | ⟨v3, stk⟩
            · have hq : fx_if (Nat.beq (fx_cat v2) 1) (none : Option (List fx_V)) none = some stk2 := hq
              rw [h2, fx_if_f] at hq; cases hq
            · have hq : fx_if (Nat.beq (fx_cat v2) 1) (fx_if (Nat.beq (fx_cat v3) 1 && Nat.beq (a + 4) 4) (some (v :: v2 :: v3 :: v :: stk)) none) none = some stk2 := hq
              rw [h2, fx_if_f] at hq; cases hq
        | true =>
          have h2' := fx_beq h2
          have hcw2 : w2.category = 1 := by rw [hcv2, h2']
          rcases a with _ | _ | a
          · have hq : fx_if (Nat.beq (fx_cat v2) 1) (some (v :: v2 :: v :: v2 :: stk)) none = some stk2 := hq
            rw [h2, fx_if_t] at hq
            cases hq
            exact lv_dup2_11 hx hb hd hcw hcw2 (K _ ⟨hrv, hrv2, hrv, hrv2, hst2⟩)
          · have hq : fx_if (Nat.beq (fx_cat v2) 1) (some (v :: v2 :: v :: stk)) none = some stk2 := hq
            rw [h2, fx_if_t] at hq
            cases hq
            exact lv_dup_x1 hx hb hd hcw hcw2 (K _ ⟨hrv, hrv2, hrv, hst2⟩)
          · rcases stk with _ | ⟨v3, stk⟩
            · have hq : fx_if (Nat.beq (fx_cat v2) 1) (none : Option (List fx_V)) none = some stk2 := hq
              rw [h2, fx_if_t] at hq; cases hq
            · have hq : fx_if (Nat.beq (fx_cat v2) 1) (fx_if (Nat.beq (fx_cat v3) 1 && Nat.beq (a + 4) 4) (some (v :: v2 :: v3 :: v :: stk)) none) none = some stk2 := hq
              rw [h2, fx_if_t] at hq
              obtain ⟨w3, st3, rfl, hrv3, hst3⟩ := fx_rl_cons hst2
              have hcv3 := fx_cat_of hX hrv3
              cases h3 : (Nat.beq (fx_cat v3) 1 && Nat.beq (a + 4) 4) with
              | false => rw [h3, fx_if_f] at hq; cases hq
              | true =>
                rw [h3, fx_if_t] at hq
                have hq3 := Option.some.inj hq
                obtain ⟨h4, h5⟩ := fx_and h3
                have h4 := fx_beq h4
                have h5 := fx_beq h5
                have h5 : a = 0 := by omega
                subst h5
                have hcw3 : w3.category = 1 := by rw [hcv3, h4]
                subst hq3
                exact lv_dup_x2 hx hb hd hcw hcw2 hcw3 (K _ ⟨hrv, hrv2, hrv3, hrv, hst3⟩)
theorem fx_s16 {E : fx_E} (hE : E.2.2.1 = fx_cd) (F : fx_fs X Y B mst mt p s m args meth c cc nL own ini rt cod) (hR : mc ≤ R.cells ∧ msl ≤ R.slots) (hgo : fx_gok l X Y p e R s m args below meth c Q nL cod mc msl go) (hin : (pc, 16, a, b, d) ∈ cod) (htl : ∀ q ∈ tl, q ∈ cod) (ee : fx_k16 E go pc b tl loc stk ce sl mc msl h j = true) (hs : fx_st X Y nL loc stk h j H locs ls st) : W p l e R s m args below meth c H locs ce sl Q (F0 m pc ls st) := by
  obtain ⟨hx, hb, -, hown, hts, -, -, -, hcx, -, hcod⟩ := F
  obtain ⟨hd, ha⟩ := hcod _ _ _ _ _ hin (by decide)
  obtain ⟨C, T, N, hcl, hlink⟩ := ha.2.2.2.2.2.2.2.2.1 rfl
  obtain ⟨hl0, hst, hrh, hrj, hls⟩ := hs
  obtain ⟨fs, hfs, hu, ⟨ty, hty, hdf⟩, -, hins, hini, hlen, hisd⟩ := fx_clok hcl
  have hfs' : E.2.2.1 b = some fs := by rw [hE]; show fx_nth fx_cdl b = _; rw [fx_nth_eq]; exact hfs
  simp only [fx_k16, hfs'] at ee
  obtain ⟨e1, e2⟩ := fx_and ee
  obtain ⟨e3, e4⟩ := fx_and e1
  have e3 := fx_ble e3
  have e4 := fx_ble e4
  obtain ⟨h', e5, f1, f2, f3, f4⟩ := fx_hnew_ok e2
  rw [fx_num_eq, fx_num_eq, fx_num_eq] at e5
  have hKn := hcx.1 b _ hcl
  refine W.newcK hx hb hown (hts _ hlink) (hts _ hins) (hts _ hini) rfl hd (by omega) (by rw [← hlen]; omega) hKn.2.1 (h := X.2.1 + h.1) hrh.1 (fun H1 kC hkC g1 g2 g3 => ?_)
  have hob := (u_born ty hts hu hKn hkC g1 hty).to (V' := vp_V (fs.map fx_dv)) hdf
  have K := fx_nxt hgo htl e5 (H := H1) (locs := locs) (ls := ls) (st := .ref (X.2.1 + h.1) :: st) ⟨hl0, ⟨(fx_ad_lt f2).symm, hst⟩, fx_rh_new hrh f1 f2 f3 f4 (by rw [g2, hrh.1]) (fun q hq => g3 q (by rw [← hrh.1]; exact hq)) ⟨_, _, hcl, by rw [List.length_map]; exact hlen, fx_isd_ok hisd, hob⟩, hrj, hls⟩ e3 e4
  rw [hlen] at K
  exact K
theorem fx_s17 (F : fx_fs X Y B mst mt p s m args meth c cc nL own ini rt cod) (hat : ∀ t, t < 4 → Cond.arrayClass (fx_ty t) ∈ fx_tb) (hR : mc ≤ R.cells ∧ msl ≤ R.slots) (hgo : fx_gok l X Y p e R s m args below meth c Q nL cod mc msl go) (hin : (pc, 17, a, b, d) ∈ cod) (htl : ∀ q ∈ tl, q ∈ cod) (ee : fx_k17 go pc a tl loc stk ce sl mc msl h j = true) (hs : fx_st X Y nL loc stk h j H locs ls st) : W p l e R s m args below meth c H locs ce sl Q (F0 m pc ls st) := by
  obtain ⟨hx, hb, -, hown, hts, -, -, -, hcx, -, hcod⟩ := F
  obtain ⟨hd, ha⟩ := hcod _ _ _ _ _ hin (by decide)
  obtain ⟨hl0, hst, hrh, hrj, hls⟩ := hs
  rcases stk with _ | ⟨v, stk⟩
  · cases ee
  rcases v with n | v | v | v
  · obtain ⟨w, st1, rfl, hrv, hst1⟩ := fx_rl_cons hst
    have hw : w = .int (Int32.ofNat n) := hrv
    subst hw
    simp only [fx_k17] at ee
    obtain ⟨e1, e2⟩ := fx_and ee
    obtain ⟨e3, e4⟩ := fx_and e1
    obtain ⟨e5, e6⟩ := fx_and e3
    obtain ⟨e7, e8⟩ := fx_and e4
    have hn := fx_ble e5
    have ha4 := fx_blt e6
    have e7 := fx_ble e7
    have e8 := fx_ble e8
    obtain ⟨h', e9, f1, f2, f3, f4⟩ := fx_hnew_ok e2
    rw [fx_num_eq, fx_num_eq, fx_num_eq] at e9
    have key : newarray.typeOf (fx_at a) = fx_ty a ∧ componentBytes (fx_ty a) ≤ 8 ∧ fx_rv X (fx_dft a) (defaultValue (fx_ty a)) := by
      rcases (by omega : a = 0 ∨ a = 1 ∨ a = 2 ∨ a = 3) with rfl | rfl | rfl | rfl
      · exact ⟨rfl, by decide, rfl⟩
      · exact ⟨rfl, by decide, rfl⟩
      · exact ⟨rfl, by decide, rfl⟩
      · exact ⟨rfl, by decide, rfl⟩
    obtain ⟨k1, k2, k3⟩ := key
    refine va_newaK (N := n) hx hb (by rw [k1]; exact hts _ (hat a ha4)) rfl hd rfl (nI_pos (by omega)) (fx_clamp (by omega)) ?_ (by omega) (by omega) (h := X.2.1 + h.1) hrh.1 (fun H1 cA g1 g2 g3 g4 g5 => ?_)
    · rw [k1]
      calc n * componentBytes (fx_ty a) ≤ n * 8 := Nat.mul_le_mul_left _ k2
        _ ≤ 536870912 := by omega
    · rw [k1] at g1 g5
      have hcA : cA = Y.2.1 a := Option.some.inj (g5.symm.trans (hcx.2.1 a ha4).2)
      subst hcA
      exact fx_nxt hgo htl e9 ⟨hl0, ⟨(fx_ad_lt f2).symm, hst1⟩, fx_rh_new hrh f1 f2 f3 f4 (by rw [g2, hrh.1]) (fun q hq => g3 q (by rw [← hrh.1]; exact hq)) ⟨_, g1, by omega, ha4, fun i => k3⟩, hrj, hls⟩ e7 e8
  · cases ee
  · cases ee
  · cases ee
theorem fx_s18 (F : fx_fs X Y B mst mt p s m args meth c cc nL own ini rt cod) (hXX : fx_xx X B) (hgo : fx_gok l X Y p e R s m args below meth c Q nL cod mc msl go) (hin : (pc, 18, a, b, d) ∈ cod) (htl : ∀ q ∈ tl, q ∈ cod) (ee : fx_k18 go pc tl loc stk ce sl h j = true) (hs : fx_st X Y nL loc stk h j H locs ls st) (hce : ce ≤ mc) (hsl : sl ≤ msl) : W p l e R s m args below meth c H locs ce sl Q (F0 m pc ls st) := by
  obtain ⟨hx, hb, -, hown, hts, -, -, -, hcx, -, hcod⟩ := F
  obtain ⟨hd, ha⟩ := hcod _ _ _ _ _ hin (by decide)
  obtain ⟨hl0, hst, hrh, hrj, hls⟩ := hs
  rcases stk with _ | ⟨v, stk⟩
  · cases ee
  rcases v with n | v | (_ | r) | v
  · cases ee
  · cases ee
  · cases ee
  · obtain ⟨w, st1, rfl, hrv, hst1⟩ := fx_rl_cons hst
    have hw : w = fx_ad X r := hrv
    subst hw
    cases hq : fx_len h r with
    | none => simp [fx_k18, hq] at ee
    | some v =>
      simp only [fx_k18, hq] at ee
      have K : ∀ w, fx_rv X v w → W p l e R s m args below meth c H locs ce sl Q (F0 m (pc + 1) ls (w :: st1)) := fun w hw => by
        obtain ⟨v', e1, hrv', -⟩ := fx_nz_ok hrj hw ee
        exact fx_nxt hgo htl e1 ⟨hl0, ⟨hrv', hst1⟩, hrh, hrj, hls⟩ hce hsl
      unfold fx_len at hq
      cases hg : fx_hget h r with
      | some q =>
        rw [hg] at hq
        rcases q with u | u | ⟨ty, len, u⟩
        · cases hq
        · cases hq
        · cases hq
          obtain ⟨f, g1, g2, g3, g4, g5⟩ := fx_arr hrh hg
          rw [g5]
          exact W.alen (n := Int32.ofNat len) hx hb g1 ((hcx.2.1 ty g3).1 len f) (by rw [arrV_size]) rfl rfl hd (K _ rfl)
      | none =>
        rw [hg] at hq
        simp only at hq
        obtain ⟨hxo, -, hxs, h8, hL, hb0, -, hb2, hbl⟩ := hXX
        cases hr : Nat.beq r 1000000 with
        | true =>
          have := fx_beq hr
          subst this
          rw [hr, fx_if_t] at hq
          cases hq
          obtain ⟨scr, g1, g2, g3, g4, g5⟩ := hcx.2.2.2.2.2.2.2.2.2.2
          rw [hb0]
          exact W.alen (n := Int32.ofNat B.2.1) hx hb (by rw [hrh.2.2 _ hbl]; exact g1) g2 (by rw [g4]) rfl rfl hd (K _ (by show Value.int _ = .int _; rw [h8]))
        | false =>
          rw [hr, fx_if_f] at hq
          cases hr2 : Nat.beq r 1000002 with
          | true =>
            have := fx_beq hr2
            subst this
            rw [hr2, fx_if_t] at hq
            cases hq
            obtain ⟨cell, g1, g2, g3, g4, g5, g6, g7⟩ := hcx.2.2.2.2.2.2.2.2.2.1
            rw [hb2]
            exact W.alen (n := Int32.ofNat 123) hx hb (by rw [hrh.2.2 _ (Nat.not_le.mp g7)]; exact g1) g2 g5 rfl rfl hd (K _ rfl)
          | false =>
            rw [hr2, fx_if_f] at hq
            cases hq
  · cases ee
theorem fx_s19 (F : fx_fs X Y B mst mt p s m args meth c cc nL own ini rt cod) (hgo : fx_gok l X Y p e R s m args below meth c Q nL cod mc msl go) (hin : (pc, 19, a, b, d) ∈ cod) (htl : ∀ q ∈ tl, q ∈ cod) (ee : fx_k19 go cod pc a b tl loc stk ce sl h j = true) (hs : fx_st X Y nL loc stk h j H locs ls st) (hce : ce ≤ mc) (hsl : sl ≤ msl) : W p l e R s m args below meth c H locs ce sl Q (F0 m pc ls st) := by
  obtain ⟨hx, hb, -, hown, hts, -, -, -, hcx, -, hcod⟩ := F
  obtain ⟨hd, ha⟩ := hcod _ _ _ _ _ hin (by decide)
  obtain ⟨hl0, hst, hrh, hrj, hls⟩ := hs
  rcases stk with _ | ⟨v, stk⟩
  · cases ee
  rcases v with n | v | (_ | r) | v
  · cases ee
  · cases ee
  · obtain ⟨w, st1, rfl, hrv, hst1⟩ := fx_rl_cons hst
    have hw : w = .null := hrv
    subst hw
    simp only [fx_k19] at ee
    rcases a with _ | a
    · exact lv_ifnullN hx hb hd (fx_off pc b) (fx_jmp hgo ee ⟨hl0, hst1, hrh, hrj, hls⟩ hce hsl)
    · obtain ⟨e1, e2⟩ := fx_and (a := Nat.beq (a + 1) 1) (b := fx_nx (fun t => go t loc stk ce sl h j) pc 3 tl) ee
      have := fx_beq e1
      have : a = 0 := by omega
      subst this
      exact lv_ifnonnullN hx hb hd (fx_nxt hgo htl e2 ⟨hl0, hst1, hrh, hrj, hls⟩ hce hsl)
  · obtain ⟨w, st1, rfl, hrv, hst1⟩ := fx_rl_cons hst
    have hw : w = fx_ad X r := hrv
    subst hw
    simp only [fx_k19] at ee
    obtain ⟨e0, ee⟩ := fx_and ee
    rw [fx_ad_lt (fx_blt e0)]
    rcases a with _ | _ | a
    · obtain ⟨e1, e2⟩ := fx_and (a := Nat.beq 0 0) (b := fx_nx (fun t => go t loc stk ce sl h j) pc 3 tl) ee
      exact lv_ifnull hx hb hd (fx_nxt hgo htl e2 ⟨hl0, hst1, hrh, hrj, hls⟩ hce hsl)
    · exact lv_ifnonnull hx hb hd (fx_off pc b) (fx_jmp hgo ee ⟨hl0, hst1, hrh, hrj, hls⟩ hce hsl)
    · obtain ⟨e1, e2⟩ := fx_and (a := Nat.beq (a + 2) 0) (b := fx_nx (fun t => go t loc stk ce sl h j) pc 3 tl) ee
      cases e1
  · cases ee
end FXE
