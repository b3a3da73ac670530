section FXC
variable {l : Launch} {X : fx_X} {Y : fx_Y} {B : fx_B} {mst : Nat → Option fx_S} {mt : Nat → Option fx_M} {p : Program} {e : Env} {R : Room} {s : State} {m : MethodId} {args : Array Value} {below : List Frame} {meth : Method} {c : Code} {Q : State → Prop} {cc : ByteArray} {nL : Nat} {own : String} {ini : Bool} {rt : Option FieldType} {cod : List fx_I} {mc msl : Nat}
variable {go : fx_O} {pc a b d ce sl : Nat} {tl : List fx_I} {loc : fx_L} {stk : List fx_V} {h h' : fx_H} {j : fx_J} {H H1 : Heap} {locs : List Loc} {ls : Array Slot} {st : List Value}
theorem fx_rc.kept {cl : fx_C} {q : Nat} (hh : fx_rc X Y cl q H) (hq : H1[q]? = H[q]?) : fx_rc X Y cl q H1 := by
  rcases cl with u | ⟨ci, fs⟩ | ⟨ty, n, u⟩
  · exact hq.trans hh
  · obtain ⟨r, vs, h1, h2, h3, h4⟩ := hh
    exact ⟨r, vs, h1, h2, h3, h4.kept hq⟩
  · obtain ⟨f, h1, h2⟩ := hh
    exact ⟨f, hq.trans h1, h2⟩
theorem fx_rh_set (hrh : fx_rh X Y h H) {r : Nat} {c0 cl : fx_C} (e1 : h'.1 = h.1) (e2 : fx_hget h r = some c0) (e3 : fx_hget h' r = some cl) (e4 : ∀ i, i ≠ r → fx_hget h' i = fx_hget h i) (z : H1.size = H.size) (oq : ∀ q : Nat, q ≠ X.2.1 + r → H1[q]? = H[q]?) (hc : fx_rc X Y cl (X.2.1 + r) H1) : fx_rh X Y h' H1 := by
  obtain ⟨g1, g2, g3⟩ := hrh
  refine ⟨by rw [z, g1, e1], fun k x hk => ?_, fun q hq => ?_⟩
  · by_cases hkr : k = r
    · subst hkr
      rw [e3] at hk
      cases hk
      obtain ⟨b1, b2, -⟩ := g2 k _ e2
      exact ⟨by rw [e1]; exact b1, b2, hc⟩
    · rw [e4 k hkr] at hk
      obtain ⟨b1, b2, b3⟩ := g2 k x hk
      exact ⟨by rw [e1]; exact b1, b2, b3.kept (oq _ (by omega))⟩
  · rw [oq q (by omega)]
    exact g3 q hq
theorem fx_rh_new (hrh : fx_rh X Y h H) {cl : fx_C} (e1 : h'.1 = h.1 + 1) (e2 : h.1 < 1000000) (e3 : fx_hget h' h.1 = some cl) (e4 : ∀ i, i ≠ h.1 → fx_hget h' i = fx_hget h i) (z : H1.size = H.size + 1) (oq : ∀ q : Nat, q < H.size → H1[q]? = H[q]?) (hc : fx_rc X Y cl (X.2.1 + h.1) H1) : fx_rh X Y h' H1 := by
  obtain ⟨g1, g2, g3⟩ := hrh
  refine ⟨by rw [z, g1, e1]; omega, fun k x hk => ?_, fun q hq => ?_⟩
  · by_cases hkr : k = h.1
    · subst hkr
      rw [e3] at hk
      cases hk
      exact ⟨by omega, e2, hc⟩
    · rw [e4 k hkr] at hk
      obtain ⟨b1, b2, b3⟩ := g2 k x hk
      exact ⟨by omega, b2, b3.kept (oq _ (by omega))⟩
  · rw [oq q (by omega)]
    exact g3 q hq
theorem fx_clamp {n : Nat} (hn : n < 2147483648) : (Int32.ofNat n).toNatClampNeg = n := nI_clamp hn
theorem fx_inb {n len : Nat} (hn : n < len) (hl : len < 2147483648) : ¬ (Int32.ofNat n < 0 ∨ len ≤ (Int32.ofNat n).toNatClampNeg) := nI_in hn hl
theorem fx_arr (hrh : fx_rh X Y h H) {r ty n : Nat} {u : List (Nat × fx_V)} (hg : fx_hget h r = some (.inr (.inr (ty, n, u)))) : ∃ f : Nat → Value, H[X.2.1 + r]? = some (arrV (Y.2.1 ty) n f) ∧ n < 2147483648 ∧ ty < 4 ∧ (∀ i, fx_rv X (fx_aget ty u i) (f i)) ∧ fx_ad X r = .ref (X.2.1 + r) := by
  obtain ⟨h1, h2, f, h3, h4, h5, h6⟩ := hrh.2.1 r _ hg
  exact ⟨f, h3, h4, h5, h6, fx_ad_lt h2⟩
theorem fx_known {cA : ClassId} {n : Nat} {f : Nat → Value} : (arrV cA n f).vm ≠ .unknown := fun q => by cases q
/-- a load from an array, by the type of it -/
theorem fx_wald (hx : p.tables.exec = Jvm.exec) (hb : c.code = cc) {ty q : Nat} {cell : Cell} {n : Nat} {v : Value} {rest : List Value} (hcell : H[q]? = some cell) (harr : s.isArrayOf cell (fx_ty ty)) (hkn : cell.vm ≠ .unknown) (hty : fx_aty a ty = true) (hlt : n < cell.slots.size) (hsz : n < 2147483648) (hv : cell.slots[n]? = some v) (hd : decode cc pc = .ok (fx_aop a, 1)) (K : W p l e R s m args below meth c H locs ce sl Q (F0 m (pc + 1) ls (v :: rest))) : W p l e R s m args below meth c H locs ce sl Q (F0 m pc ls (.int (Int32.ofNat n) :: .ref q :: rest)) := by
  have hin : ¬ (Int32.ofNat n < 0 ∨ cell.slots.size ≤ (Int32.ofNat n).toNatClampNeg) := by
    rintro (h1 | h1)
    · exact nI_pos hsz h1
    · rw [fx_clamp hsz] at h1
      omega
  have hv' : cell.slots[(Int32.ofNat n).toNatClampNeg]? = some v := by rw [fx_clamp hsz]; exact hv
  rcases a with _ | _ | _ | a
  · have := fx_beq (show Nat.beq ty 0 = true from hty)
    subst this
    exact W.iald hx hb hcell harr hkn hin hv' rfl rfl hd K
  · rcases fx_or (show (Nat.beq ty 1 || Nat.beq ty 2) = true from hty) with q1 | q1
    · have := fx_beq q1
      subst this
      exact W.bald hx hb hcell harr hkn hin hv' rfl rfl hd K
    · have := fx_beq q1
      subst this
      exact W.zald hx hb hcell harr hkn hin hv' rfl rfl hd K
  · have := fx_beq (show Nat.beq ty 3 = true from hty)
    subst this
    exact W.lald hx hb hcell harr hkn hin hv' rfl rfl hd K
  · cases hty
theorem fx_s6 (F : fx_fs X Y B mst mt p s m args meth c cc nL own ini rt cod) (hXX : fx_xx X B) (hgo : fx_gok l X Y p e R s m args below meth c Q nL cod mc msl go) (hin : (pc, 6, a, b, d) ∈ cod) (htl : ∀ q ∈ tl, q ∈ cod) (ee : fx_k6 go (pc, 6, a, b, d) pc a tl loc stk ce sl h j = true) (hs : fx_st X Y nL loc stk h j H locs ls st) (hce : ce ≤ mc) (hsl : sl ≤ msl) : W p l e R s m args below meth c H locs ce sl Q (F0 m pc ls st) := by
  obtain ⟨hx, hb, -, hown, hts, -, -, -, hcx, -, hcod⟩ := F
  obtain ⟨hd, -⟩ := hcod _ _ _ _ _ hin (by decide)
  have hs0 := hs
  obtain ⟨hl0, hst, hrh, hrj, hls⟩ := hs
  rcases stk with _ | ⟨i, _ | ⟨v, stk⟩⟩
  · cases ee
  · cases ee
  rcases v with n | n | (_ | r) | n
  · cases ee
  · cases ee
  · cases ee
  · obtain ⟨wi, st1, rfl, hri, hst1⟩ := fx_rl_cons hst
    obtain ⟨wr, st2, rfl, hrr, hst2⟩ := fx_rl_cons hst1
    simp only [fx_k6] at ee
    obtain ⟨i', e1, hri', -⟩ := fx_nz_ok hrj hri ee
    rcases i' with n | n | n | n
    · have hri' : wi = .int (Int32.ofNat n) := hri'
      subst hri'
      have hrr : wr = fx_ad X r := hrr
      subst hrr
      simp only at e1
      have KK : ∀ v w, fx_rv X v w → fx_nx (fun t => go t loc (v :: stk) ce sl h j) pc 1 tl = true → W p l e R s m args below meth c H locs ce sl Q (F0 m (pc + 1) ls (w :: st2)) := fun v w hw e9 => fx_nxt hgo htl e9 ⟨hl0, ⟨hw, hst2⟩, hrh, hrj, hls⟩ hce hsl
      unfold fx_ld at e1
      cases hg : fx_hget h r with
      | none =>
        rw [hg] at e1
        simp only at e1
        cases hr : Nat.beq r 1000000 with
        | true =>
          have := fx_beq hr
          subst this
          rw [hr, fx_if_t] at e1
          obtain ⟨e2, e3⟩ := fx_and e1
          obtain ⟨e4, e5⟩ := fx_and e2
          obtain ⟨e6, e7⟩ := fx_and e3
          have ha0 := fx_beq e4
          subst ha0
          have hn6 := fx_blt e5
          have hn8 := fx_blt e6
          obtain ⟨hxo, -, hxs, h8, hL, hb0, -, -, hbl⟩ := hXX
          have hq := fx_iv_ok hrj 8
          rw [h8, fx_z_of] at hq
          have hbL : fx_b B.2.1 = B.2.1 + 2147483648 := by
            show (B.2.1 + 2147483648) % 4294967296 = _
            omega
          have hnL : n < B.2.1 := by omega
          obtain ⟨v', e8, hrv', -⟩ := fx_nz_ok (v := fv (n + 1)) (w := .int (X.1 (n + 1))) hrj rfl e7
          obtain ⟨scr, g1, g2, g3, g4, g5⟩ := hcx.2.2.2.2.2.2.2.2.2.2
          rw [hb0]
          refine fx_wald (ty := 0) (cell := scr) hx hb (by rw [hrh.2.2 _ hbl]; exact g1) g2 g3 rfl (by rw [g4]; exact hnL) (by omega) (g5 n hnL) hd (KK v' _ ?_ e8)
          rw [← hxs n hn6]
          exact hrv'
        | false =>
          rw [hr, fx_if_f] at e1
          obtain ⟨e2, e3⟩ := fx_and e1
          have := fx_beq e2
          subst this
          obtain ⟨e4, e5⟩ := fx_and e3
          have ha0 := fx_beq e4
          subst ha0
          obtain ⟨hxo, -, hxs, h8, hL, -, -, hb0, hbl⟩ := hXX
          cases hz : fx_nth fx_txt n with
          | none => rw [hz] at e5; cases e5
          | some z =>
            rw [hz] at e5
            simp only at e5
            rw [fx_nth_eq] at hz
            have hn : n < 123 := (List.getElem?_eq_some_iff.mp hz).1
            obtain ⟨cell, g1, g2, g3, g4, g5, g6, g7⟩ := hcx.2.2.2.2.2.2.2.2.2.1
            rw [hb0]
            refine fx_wald (ty := 1) (cell := cell) hx hb (by rw [hrh.2.2 _ (Nat.not_le.mp g7)]; exact g1) g2 g3 rfl (by omega) (by omega) (g6 n hn) hd (KK (fc z) _ ?_ e5)
            show Value.int _ = .int _
            rw [List.getD_eq_getElem?_getD, hz]
            rfl
      | some q =>
        rw [hg] at e1
        rcases q with u | u | ⟨ty, len, u⟩
        · cases e1
        · cases e1
        · simp only at e1
          obtain ⟨e2, e3⟩ := fx_and e1
          obtain ⟨e4, e5⟩ := fx_and e2
          have hlt := fx_blt e5
          obtain ⟨f, g1, g2, g3, g4, g5⟩ := fx_arr hrh hg
          rw [g5]
          have hrd : (arrV (Y.2.1 ty) len f).slots[n]? = some (f n) := arrV_read _ _ hlt
          have h4 := g4 n
          rw [fx_aget_def] at h4
          have K : W p l e R s m args below meth c H locs ce sl Q (F0 m (pc + 1) ls (f n :: st2)) := by
            cases hk : fx_look u n with
            | none =>
              rw [hk] at e3 h4
              exact KK _ _ h4 e3
            | some v =>
              rw [hk] at e3 h4
              simp only at e3 h4
              obtain ⟨-, e6⟩ := fx_and e3
              obtain ⟨v', e7, hrv', -⟩ := fx_nz_ok hrj h4 e6
              exact KK _ _ hrv' e7
          exact fx_wald hx hb g1 ((hcx.2.1 ty g3).1 len f) fx_known e4 (by rw [arrV_size]; exact hlt) (by omega) hrd hd K
    · simp only at e1
      cases hf : fx_few j (.inr (.inl n)) with
      | none => rw [hf] at e1; cases e1
      | some q =>
        obtain ⟨i2, lo, n2⟩ := q
        rw [hf] at e1
        exact fx_again hgo hin htl hf e1 hs0 hce hsl
    · cases e1
    · cases e1
  · cases ee
/-- a store into an array, by the type of it -/
theorem fx_wast (hx : p.tables.exec = Jvm.exec) (hb : c.code = cc) {ty q n len : Nat} {f : Nat → Value} {v : fx_V} {w : fx_V} {x : Value} {rest : List Value} (hcell : H[q]? = some (arrV (Y.2.1 ty) len f)) (harr : s.isArrayOf (arrV (Y.2.1 ty) len f) (fx_ty ty)) (hty : fx_aty a ty = true) (hlt : n < len) (hsz : len < 2147483648) (hrv : fx_rv X v x) (hn : fx_nar ty v = some w) (hd : decode cc pc = .ok (fx_asp a, 1)) (K : ∀ (H1 : Heap) (y : Value) (lc : Loc), lc.base = q → fx_rv X w y → H1[q]? = some (arrV (Y.2.1 ty) len (updV f n y)) → H1.size = H.size → (∀ z : Nat, z ≠ q → H1[z]? = H[z]?) → W p l e R s m args below meth c H1 (locs ++ [lc]) ce sl Q (F0 m (pc + 1) ls rest)) : W p l e R s m args below meth c H locs ce sl Q (F0 m pc ls (x :: .int (Int32.ofNat n) :: .ref q :: rest)) := by
  have hin : ¬ (Int32.ofNat n < 0 ∨ (arrV (Y.2.1 ty) len f).slots.size ≤ (Int32.ofNat n).toNatClampNeg) := by rw [arrV_size]; exact fx_inb hlt hsz
  have hcn : (Int32.ofNat n).toNatClampNeg = n := fx_clamp (by omega)
  rcases a with _ | _ | _ | a
  · have := fx_beq (show Nat.beq ty 0 = true from hty)
    subst this
    have hn : fx_if (fx_int v) (some v) none = some w := hn
    cases hi : fx_int v with
    | false => rw [hi, fx_if_f] at hn; cases hn
    | true =>
      rw [hi, fx_if_t] at hn
      cases hn
      obtain ⟨z, rfl⟩ := fx_rv_int hrv hi
      refine W.iast hx hb hcell harr fx_known hin rfl rfl hd (fun H1 g1 g2 g3 => K H1 (.int z) _ rfl hrv ?_ g2 g3)
      rw [g1, hcn, arrV_store]
  · rcases fx_or (show (Nat.beq ty 1 || Nat.beq ty 2) = true from hty) with q1 | q1
    · have := fx_beq q1
      subst this
      rcases v with k | k | k | k
      · have hn : fx_if (Nat.blt k 128) (some (fc k)) none = some w := hn
        cases hi : Nat.blt k 128 with
        | false => rw [hi, fx_if_f] at hn; cases hn
        | true =>
          rw [hi, fx_if_t] at hn
          cases hn
          have hrv : x = .int (Int32.ofNat k) := hrv
          subst hrv
          refine W.bast hx hb hcell harr fx_known hin rfl rfl hd (fun H1 g1 g2 g3 => K H1 (.int (Int32.ofNat k)) _ rfl rfl ?_ g2 g3)
          rw [g1, hcn, arrV_store, narrow_byte, fx_o_i2b (fx_blt hi)]
      · cases hn
        obtain ⟨z, rfl⟩ := fx_rv_var hrv
        refine W.bast hx hb hcell harr fx_known hin rfl rfl hd (fun H1 g1 g2 g3 => K H1 (.int z.toInt8.toInt32) _ rfl ⟨_, rfl⟩ ?_ g2 g3)
        rw [g1, hcn, arrV_store, narrow_byte]
      · cases hn
      · cases hn
    · have := fx_beq q1
      subst this
      rcases v with k | k | k | k
      · have hn : fx_if (Nat.blt k 2) (some (fc k)) none = some w := hn
        cases hi : Nat.blt k 2 with
        | false => rw [hi, fx_if_f] at hn; cases hn
        | true =>
          rw [hi, fx_if_t] at hn
          cases hn
          have hrv : x = .int (Int32.ofNat k) := hrv
          subst hrv
          refine W.zast hx hb hcell harr fx_known hin rfl rfl hd (fun H1 g1 g2 g3 => K H1 (.int (Int32.ofNat k)) _ rfl rfl ?_ g2 g3)
          have hk2 := fx_blt hi
          have : narrow .boolean (.int (Int32.ofNat k)) = .int (Int32.ofNat k) := by
            rcases (by omega : k = 0 ∨ k = 1) with rfl | rfl <;> rfl
          rw [g1, hcn, arrV_store, this]
      · cases hn
        obtain ⟨z, rfl⟩ := fx_rv_var hrv
        refine W.zast hx hb hcell harr fx_known hin rfl rfl hd (fun H1 g1 g2 g3 => K H1 (.int (z &&& 1)) _ rfl ⟨_, rfl⟩ ?_ g2 g3)
        rw [g1, hcn, arrV_store]
        rfl
      · cases hn
      · cases hn
  · have := fx_beq (show Nat.beq ty 3 = true from hty)
    subst this
    rcases v with k | k | k | k
    · cases hn
    · cases hn
    · cases hn
    · cases hn
      have hrv : x = .long (Int64.ofNat k) := hrv
      subst hrv
      refine W.last hx hb hcell harr fx_known hin rfl rfl hd (fun H1 g1 g2 g3 => K H1 (.long (Int64.ofNat k)) _ rfl rfl ?_ g2 g3)
      rw [g1, hcn, arrV_store]
  · cases hty
theorem fx_ls_add (hls : fx_ls X locs) {lc : Loc} {r : Nat} (hl : lc.base = X.2.1 + r) : fx_ls X (locs ++ [lc]) := by
  intro q hq
  rcases List.mem_append.mp hq with h1 | h1
  · exact hls q h1
  · rw [List.mem_singleton.mp h1, hl]
    omega
theorem fx_s8 (F : fx_fs X Y B mst mt p s m args meth c cc nL own ini rt cod) (hgo : fx_gok l X Y p e R s m args below meth c Q nL cod mc msl go) (hin : (pc, 8, a, b, d) ∈ cod) (htl : ∀ q ∈ tl, q ∈ cod) (ee : fx_k8 go (pc, 8, a, b, d) pc a tl loc stk ce sl h j = true) (hs : fx_st X Y nL loc stk h j H locs ls st) (hce : ce ≤ mc) (hsl : sl ≤ msl) : W p l e R s m args below meth c H locs ce sl Q (F0 m pc ls st) := by
  obtain ⟨hx, hb, -, hown, hts, -, -, -, hcx, -, hcod⟩ := F
  obtain ⟨hd, -⟩ := hcod _ _ _ _ _ hin (by decide)
  have hs0 := hs
  obtain ⟨hl0, hst, hrh, hrj, hls⟩ := hs
  rcases stk with _ | ⟨v, _ | ⟨i, _ | ⟨rf, stk⟩⟩⟩
  · cases ee
  · cases ee
  · cases ee
  rcases rf with n | n | (_ | r) | n
  · cases ee
  · cases ee
  · cases ee
  · obtain ⟨wv, st1, rfl, hrv, hst1⟩ := fx_rl_cons hst
    obtain ⟨wi, st2, rfl, hri, hst2⟩ := fx_rl_cons hst1
    obtain ⟨wr, st3, rfl, hrr, hst3⟩ := fx_rl_cons hst2
    simp only [fx_k8] at ee
    obtain ⟨i', e1, hri', -⟩ := fx_nz_ok hrj hri ee
    rcases i' with n | n | n | n
    · have hri' : wi = .int (Int32.ofNat n) := hri'
      subst hri'
      have hrr : wr = fx_ad X r := hrr
      subst hrr
      simp only at e1
      obtain ⟨v', e2, hrv', -⟩ := fx_nz_ok hrj hrv e1
      unfold fx_sto at e2
      cases hg : fx_hget h r with
      | none => rw [hg] at e2; cases e2
      | some q =>
        rw [hg] at e2
        rcases q with u | u | ⟨ty, len, u⟩
        · cases e2
        · cases e2
        · simp only at e2
          obtain ⟨e3, e4⟩ := fx_and e2
          obtain ⟨e5, e6⟩ := fx_and e3
          have hlt := fx_blt e6
          cases hn : fx_nar ty v' with
          | none => rw [hn] at e4; cases e4
          | some w =>
            rw [hn] at e4
            simp only at e4
            obtain ⟨u', e7, k1, k2⟩ := fx_aset_ok e4
            obtain ⟨h', e8, f1, ⟨c0, f2⟩, f3, f4⟩ := fx_hset_ok e7
            obtain ⟨f, g1, g2, g3, g4, g5⟩ := fx_arr hrh hg
            rw [g5]
            refine fx_wast (X := X) (Y := Y) hx hb g1 ((hcx.2.1 ty g3).1 len f) e5 hlt g2 hrv' hn hd (fun H1 y lc hlc hy q1 q2 q3 => ?_)
            refine fx_nxt hgo htl e8 ⟨hl0, hst3, fx_rh_set hrh f1 f2 f3 f4 q2 q3 ⟨_, q1, g2, g3, fun z => ?_⟩, hrj, fx_ls_add hls hlc⟩ hce hsl
            by_cases hz : z = n
            · subst hz
              rw [k1]
              simp only [updV, if_true]
              exact hy
            · rw [k2 z hz]
              simp only [updV, if_neg hz]
              exact g4 z
    · simp only at e1
      cases hf : fx_few j (.inr (.inl n)) with
      | none => rw [hf] at e1; cases e1
      | some q =>
        obtain ⟨i2, lo, n2⟩ := q
        rw [hf] at e1
        exact fx_again hgo hin htl hf e1 hs0 hce hsl
    · cases e1
    · cases e1
  · cases ee
end FXC
