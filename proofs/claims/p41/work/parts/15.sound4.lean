section FXD
variable {l : Launch} {X : fx_X} {Y : fx_Y} {B : fx_B} {mst : Nat → Option fx_S} {mt : Nat → Option fx_M} {p : Program} {e : Env} {R : Room} {s : State} {m : MethodId} {args : Array Value} {below : List Frame} {meth : Method} {c : Code} {Q : State → Prop} {cc : ByteArray} {nL : Nat} {own : String} {ini : Bool} {rt : Option FieldType} {cod : List fx_I} {mc msl : Nat}
variable {go : fx_O} {pc a b d ce sl dd : Nat} {tl : List fx_I} {loc : fx_L} {stk : List fx_V} {h h' : fx_H} {j : fx_J} {H H1 : Heap} {locs : List Loc} {ls : Array Slot} {st : List Value} {k : fx_K}
/-- what the end of the method gives -/
def fx_rt (l : Launch) (X : fx_X) (Y : fx_Y) (p : Program) (e : Env) (R : Room) (s : State) (m : MethodId) (args : Array Value) (below : List Frame) (meth : Method) (c : Code) (Q : State → Prop) (cc : ByteArray) (rt : Option FieldType) (mc msl : Nat) (k : fx_K) : Prop :=
  ∀ v w h j H locs ce sl pc ls, k v h j = true → fx_ro X v w → fx_rh X Y h H → fx_rj X j → fx_ls X locs → ce ≤ mc → sl ≤ msl → fx_rets rt cc pc w → W p l e R s m args below meth c H locs ce sl Q (F0 m pc ls w.toList)
theorem fx_s10 (F : fx_fs X Y B mst mt p s m args meth c cc nL own ini rt cod) (hrt : fx_rt l X Y p e R s m args below meth c Q cc rt mc msl k) (hin : (pc, 10, a, b, d) ∈ cod) (ee : fx_k10 k a b stk h j = true) (hs : fx_st X Y nL loc stk h j H locs ls st) (hce : ce ≤ mc) (hsl : sl ≤ msl) : W p l e R s m args below meth c H locs ce sl Q (F0 m pc ls st) := by
  obtain ⟨hx, hb, -, hown, hts, -, -, -, hcx, -, hcod⟩ := F
  obtain ⟨hd, ha⟩ := hcod _ _ _ _ _ hin (by decide)
  obtain ⟨hrk, hab⟩ := ha.2.2.2.2.1 rfl
  obtain ⟨hl0, hst, hrh, hrj, hls⟩ := hs
  unfold fx_k10 at ee
  cases h0 : Nat.beq a 0 with
  | true =>
    have := fx_beq h0
    subst this
    rw [h0, fx_if_t] at ee
    rcases stk with _ | ⟨v, _ | ⟨v2, stk⟩⟩
    · cases ee
    · simp only at ee
      obtain ⟨w, st1, rfl, hrv, hst1⟩ := fx_rl_cons hst
      have := fx_rl_nil hst1
      subst this
      obtain ⟨v', e1, hrv', -⟩ := fx_nz_ok hrj hrv ee
      obtain ⟨e2, e3⟩ := fx_and e1
      rcases v' with n | i | r | n
      · have hw : w = .int (Int32.ofNat n) := hrv'
        subst hw
        refine hrt (some (fc n)) (some (.int (Int32.ofNat n))) h j H locs ce sl pc ls e3 rfl hrh hrj hls hce hsl (Or.inr (Or.inl ?_))
        have e2 : (Nat.beq b 1 || ((Nat.beq b 2 && Nat.blt n 2) || ((Nat.beq b 4 && Nat.blt n 65536) || (Nat.beq b 5 && Nat.blt n 128)))) = true := e2
        rcases hrk with ⟨rfl, rfl⟩ | ⟨rfl, rfl⟩ | ⟨rfl, rfl⟩ | ⟨rfl, rfl⟩ | ⟨rfl, rfl⟩ | ⟨rfl, rfl⟩
        · cases e2
        · exact ⟨_, .int, rfl, rfl, rfl, hd⟩
        · have hn : n < 2 := by simpa using e2
          refine ⟨_, .boolean, rfl, rfl, ?_, hd⟩
          rcases (by omega : n = 0 ∨ n = 1) with rfl | rfl <;> rfl
        · cases e2
        · have hn : n < 65536 := by simpa using e2
          exact ⟨_, .char, rfl, rfl, fx_o_nc hn, hd⟩
        · have hn : n < 128 := by simpa using e2
          refine ⟨_, .byte, rfl, rfl, ?_, hd⟩
          rw [narrow_byte, fx_o_i2b hn]
      · have e2 : Nat.beq b 1 = true := e2
        have := fx_beq e2
        subst this
        obtain ⟨z, hz⟩ := fx_rv_var hrv'
        subst hz
        refine hrt (some (fv i)) (some (.int z)) h j H locs ce sl pc ls e3 hrv' hrh hrj hls hce hsl (Or.inr (Or.inl ?_))
        rcases hrk with ⟨q, rfl⟩ | ⟨q, rfl⟩ | ⟨q, rfl⟩ | ⟨q, rfl⟩ | ⟨q, rfl⟩ | ⟨q, rfl⟩
        · cases q
        · exact ⟨_, .int, rfl, rfl, rfl, hd⟩
        · cases q
        · cases q
        · cases q
        · cases q
      · cases e2
      · cases e2
    · cases ee
  | false =>
    rw [h0, fx_if_f] at ee
    cases h1 : Nat.beq a 1 with
    | true =>
      have := fx_beq h1
      subst this
      rw [h1, fx_if_t] at ee
      rcases stk with _ | ⟨v, stk⟩
      · simp only at ee
        have := fx_rl_nil hst
        subst this
        rcases hab with q | ⟨-, rfl⟩ | ⟨q, -⟩
        · cases q
        · refine hrt none none h j H locs ce sl pc ls ee trivial hrh hrj hls hce hsl (Or.inl ⟨rfl, ?_, hd⟩)
          rcases hrk with ⟨-, q⟩ | ⟨q, -⟩ | ⟨q, -⟩ | ⟨q, -⟩ | ⟨q, -⟩ | ⟨q, -⟩
          · exact q
          · cases q
          · cases q
          · cases q
          · cases q
          · cases q
        · cases q
      · cases ee
    | false =>
      rw [h1, fx_if_f] at ee
      rcases hab with q | ⟨q, -⟩ | ⟨q, hb3⟩
      · subst q; cases h0
      · subst q; cases h1
      · subst q
        subst hb3
        rcases stk with _ | ⟨v, _ | ⟨v2, stk⟩⟩
        · cases ee
        · rcases v with n | i | r | n
          · cases ee
          · cases ee
          · cases ee
          · simp only at ee
            obtain ⟨w, st1, rfl, hrv, hst1⟩ := fx_rl_cons hst
            have := fx_rl_nil hst1
            subst this
            have hw : w = .long (Int64.ofNat n) := hrv
            subst hw
            refine hrt (some (fl n)) (some (.long (Int64.ofNat n))) h j H locs ce sl pc ls ee rfl hrh hrj hls hce hsl (Or.inr (Or.inr ⟨_, rfl, ?_, hd⟩))
            rcases hrk with ⟨q, -⟩ | ⟨q, -⟩ | ⟨q, -⟩ | ⟨-, q⟩ | ⟨q, -⟩ | ⟨q, -⟩
            · cases q
            · cases q
            · cases q
            · exact q
            · cases q
            · cases q
        · rcases v with n | i | r | n <;> cases ee
theorem fx_s13 (F : fx_fs X Y B mst mt p s m args meth c cc nL own ini rt cod) (hgo : fx_gok l X Y p e R s m args below meth c Q nL cod mc msl go) (hin : (pc, 13, a, b, d) ∈ cod) (htl : ∀ q ∈ tl, q ∈ cod) (ee : fx_k13 go pc a tl loc stk ce sl h j = true) (hs : fx_st X Y nL loc stk h j H locs ls st) (hce : ce ≤ mc) (hsl : sl ≤ msl) : W p l e R s m args below meth c H locs ce sl Q (F0 m pc ls st) := by
  obtain ⟨hx, hb, -, hown, hts, -, -, -, hcx, -, hcod⟩ := F
  obtain ⟨hd, ha⟩ := hcod _ _ _ _ _ hin (by decide)
  have ho := ha.2.2.2.2.2.2.1 rfl
  obtain ⟨hl0, hst, hrh, hrj, hls⟩ := hs
  rcases stk with _ | ⟨x, stk⟩
  · cases ee
  obtain ⟨w, st1, rfl, hrv, hst1⟩ := fx_rl_cons hst
  simp only [fx_k13] at ee
  obtain ⟨x', e1, hrv', -⟩ := fx_nz_ok hrj hrv ee
  cases hu : fx_un a x' with
  | none => rw [hu] at e1; cases e1
  | some v =>
    rw [hu] at e1
    simp only at e1
    rw [fx_val_eq] at e1
    have K : ∀ w, fx_rv X v w → W p l e R s m args below meth c H locs ce sl Q (F0 m (pc + 1) ls (w :: st1)) := fun w hw => fx_nxt hgo htl e1 ⟨hl0, ⟨hw, hst1⟩, hrh, hrj, hls⟩ hce hsl
    rcases x' with n | i | r | n
    · have hw : w = .int (Int32.ofNat n) := hrv'
      subst hw
      rcases (by omega : a = 0 ∨ a = 1 ∨ a = 2 ∨ a = 3) with rfl | rfl | rfl | rfl
      · have hu : some (fc ((4294967296 - n % 4294967296) % 4294967296)) = some v := hu
        cases hu
        exact lv_ineg hx hb hd (K _ (by show Value.int _ = .int _; rw [fx_o_neg]))
      · have hu : fx_if (Nat.blt n 128) (some (fc n)) none = some v := hu
        cases hc : Nat.blt n 128 with
        | false => rw [hc, fx_if_f] at hu; cases hu
        | true =>
          rw [hc, fx_if_t] at hu
          cases hu
          exact lv_i2b hx hb hd (fx_o_i2b (fx_blt hc)) (K _ rfl)
      · have hu : fx_if (Nat.blt n 65536) (some (fc n)) none = some v := hu
        cases hc : Nat.blt n 65536 with
        | false => rw [hc, fx_if_f] at hu; cases hu
        | true =>
          rw [hc, fx_if_t] at hu
          cases hu
          exact lv_i2c hx hb hd (fx_o_i2c (fx_blt hc)) (K _ rfl)
      · have hu : fx_if (Nat.beq 3 3 && Nat.blt n 2147483648) (some (fl n)) none = some v := hu
        cases hc : Nat.blt n 2147483648 with
        | false => rw [hc] at hu; cases hu
        | true =>
          rw [hc] at hu
          cases hu
          exact lv_i2l hx hb hd (fx_o_i2l (fx_blt hc)) (K _ rfl)
    · obtain ⟨z, hz⟩ := fx_rv_var hrv'
      subst hz
      rcases (by omega : a = 0 ∨ a = 1 ∨ a = 2 ∨ a = 3) with rfl | rfl | rfl | rfl
      · cases hu
        exact lv_ineg hx hb hd (K _ ⟨_, rfl⟩)
      · cases hu
        exact lv_i2b hx hb hd rfl (K _ ⟨_, rfl⟩)
      · cases hu
        exact lv_i2c hx hb hd rfl (K _ ⟨_, rfl⟩)
      · cases hu
    · cases hu
    · cases hu
theorem fx_wput {ci f0 : Nat} {C : String} {T : u_T} {N : Nat} {vs : List Value} {q : Nat} {v : Value} {rest : List Value} (F : fx_fs X Y B mst mt p s m args meth c cc nL own ini rt cod) (hcl : fx_cl[ci]? = some (C, T, N)) (hk : f0 < N) (hlen : vs.length = N) (hob : t_OB q (Y.1.1 ci) N (Y.1.2 ci) H (vp_V vs)) (hlink : Cond.fieldLink own a (T f0).1 (T f0).2.1 (T f0).2.2.1 ∈ fx_tb) {ty : FieldType} (hp : parseFieldDescriptor (T f0).2.2.1 = some ty) (hn : narrow ty v = v) (hfit : fits ty v = true) (hfin : (T f0).2.2.2 = true → ini = true ∧ (T f0).1 = own) (hd : decode cc pc = .ok (.putfield a, 3))
    (K : ∀ (H1 : Heap) (lc : Loc), lc.base = q → t_OB q (Y.1.1 ci) N (Y.1.2 ci) H1 (vp_V (vs.set f0 v)) → H1.size = H.size → (∀ z : Nat, z ≠ q → H1[z]? = H[z]?) → W p l e R s m args below meth c H1 (locs ++ [lc]) ce sl Q (F0 m (pc + 3) ls rest)) : W p l e R s m args below meth c H locs ce sl Q (F0 m pc ls (v :: .ref q :: rest)) := by
  obtain ⟨hx, hb, -, hown, hts, -, hinit, -, hcx, -, -⟩ := F
  obtain ⟨fs0, -, hin, ⟨ty0, hty, -⟩, hnm, -⟩ := fx_clok hcl
  have hK := fx_vaK hcx
  have hap := va_apart (own := own) hts hin ty0 hty hnm hK hcl
  obtain ⟨cell, q1, q2, q3, q4⟩ := hob
  obtain ⟨hS, hfc, kC, hkC, hkind⟩ := hK.1 ci _ hcl
  obtain ⟨cf, kf, fi, f, hi, hsl⟩ := hS f0 hk
  have hlay := hts _ (hin _ (u_in_lay hk))
  unfold u_lay at hlay
  have hst := (u_facts hfc hkC (u_lays hts hin hk) hi).1
  have hl : f0 < vs.length := by omega
  have KK : ∀ H1 : Heap, H1[q]? = some (cell.setSlot f.slot v) → H1.size = H.size → (∀ z : Nat, z ≠ q → H1[z]? = H[z]?) → W p l e R s m args below meth c H1 (locs ++ [⟨q, f.slot⟩]) ce sl Q (F0 m (pc + 3) ls rest) := fun H1 g1 g2 g3 => by
    rw [hsl] at g1 ⊢
    exact K H1 _ rfl (t_OB.to (V := updV (vp_V vs) f0 v) ⟨_, g1, q2, q3, t_set q4 hap hk v⟩ (fun j _ => vp_updV_set hl v j)) g2 g3
  cases hff : (T f0).2.2.2 with
  | false =>
    rw [if_neg (by rw [hff]; decide)] at hlay
    have h6 := u_store hfc hkC hkind hlay hi hp hn hfit
    exact W.putK hx hb (f := f) ⟨hown, hts _ hlink, ⟨_, _, _, hi⟩, hst⟩ (by rw [q2]; exact h6) q1 q3 (by rw [hsl]; exact k2_hasslot (q4 f0 hk)) rfl rfl hd KK
  | true =>
    rw [if_pos hff] at hlay
    obtain ⟨hi0, hdecl⟩ := hfin hff
    have hcf : m.cls = cf := by
      obtain ⟨_, _, c', _, _, _, -, -, hf', -, -, -, hown2, -⟩ := Cond.laysFinal_spec hlay
      have e1 : c' = cf := by have := hi.symm.trans hf'; simp at this; exact this.1.symm
      rw [hdecl] at hown2
      rw [← e1]; exact Option.some.inj (hown.symm.trans hown2)
    have h6 := u_fits hfc hkC hkind (Or.inr hlay) hi hp hn hfit
    exact W.putFinK hx hb hown (hts _ hlink) hi hst hcf (hinit hi0) (by rw [q2]; exact h6) q1 q3 (by rw [hsl]; exact k2_hasslot (q4 f0 hk)) rfl rfl hd KK
theorem fx_fit_ok (hX : fx_xo X) {t : Nat} {ty : FieldType} (ht : fx_tag t ty) {v : fx_V} {w : Value} (hrv : fx_rv X v w) (hf : fx_fit t v = true) : narrow ty w = w ∧ fits ty w = true := by
  rcases ht with ⟨rfl, rfl⟩ | ⟨rfl, rfl⟩ | ⟨rfl, rfl⟩ | ⟨rfl, ht⟩
  · rcases v with n | i | r | n
    · have : w = _ := hrv
      subst this
      exact ⟨rfl, rfl⟩
    · obtain ⟨z, rfl⟩ := fx_rv_var hrv
      exact ⟨rfl, rfl⟩
    · cases hf
    · cases hf
  · rcases v with n | i | r | n
    · have hn : n < 2 := by
        have hf : (Nat.beq 2 0 || (Nat.beq 2 2 && Nat.blt n 2)) = true := hf
        simpa using hf
      have : w = _ := hrv
      subst this
      rcases (by omega : n = 0 ∨ n = 1) with rfl | rfl
      · exact ⟨rfl, rfl⟩
      · exact ⟨rfl, rfl⟩
    · cases hf
    · cases hf
    · cases hf
  · rcases v with n | i | r | n
    · cases hf
    · cases hf
    · cases hf
    · have : w = _ := hrv
      subst this
      exact ⟨rfl, rfl⟩
  · have hw : w = .null ∨ ∃ q, w = .ref q := by
      rcases v with n | i | r | n
      · cases hf
      · cases hf
      · cases r with
        | none => exact Or.inl hrv
        | some k =>
          have : w = _ := hrv
          subst this
          exact (hX k).2
      · cases hf
    rcases ht with ⟨n, rfl⟩ | ⟨n, rfl⟩ <;> rcases hw with rfl | ⟨q, rfl⟩ <;> exact ⟨rfl, rfl⟩
theorem fx_s14 (F : fx_fs X Y B mst mt p s m args meth c cc nL own ini rt cod) (hX : fx_xo X) (hgo : fx_gok l X Y p e R s m args below meth c Q nL cod mc msl go) (hin : (pc, 14, a, b, d) ∈ cod) (htl : ∀ q ∈ tl, q ∈ cod) (ee : fx_k14 go pc b d tl loc stk ce sl h j = true) (hs : fx_st X Y nL loc stk h j H locs ls st) (hce : ce ≤ mc) (hsl : sl ≤ msl) : W p l e R s m args below meth c H locs ce sl Q (F0 m pc ls st) := by
  have F0 := F
  obtain ⟨hx, hb, -, hown, hts, -, -, -, hcx, -, hcod⟩ := F
  obtain ⟨hd, ha⟩ := hcod _ _ _ _ _ hin (by decide)
  obtain ⟨⟨C, T, N, hcl, hk, hlink⟩, ⟨C2, T2, N2, ty, hcl2, -, hp, htag, hfin⟩⟩ := ha.2.2.2.2.2.2.2.1 rfl
  have e9 : (C2, T2, N2) = (C, T, N) := Option.some.inj (hcl2.symm.trans hcl)
  cases e9
  obtain ⟨hl0, hst, hrh, hrj, hls⟩ := hs
  rcases stk with _ | ⟨v, _ | ⟨rf, stk⟩⟩
  · cases ee
  · cases ee
  rcases rf with n | n | (_ | r) | n
  · cases ee
  · cases ee
  · cases ee
  · obtain ⟨wv, st1, rfl, hrv, hst1⟩ := fx_rl_cons hst
    obtain ⟨wr, st2, rfl, hrr, hst2⟩ := fx_rl_cons hst1
    have hrr : wr = fx_ad X r := hrr
    subst hrr
    cases hg : fx_hget h r with
    | none => simp [fx_k14, hg] at ee
    | some q =>
      rcases q with u | ⟨ci, fs⟩ | u
      · simp [fx_k14, hg] at ee
      · simp only [fx_k14, hg] at ee
        obtain ⟨e1, e2⟩ := fx_and ee
        obtain ⟨e3, e4⟩ := fx_and e1
        have e3 := fx_beq e3
        subst e3
        obtain ⟨e5, e6⟩ := fx_put_ok e2
        obtain ⟨h', e7, f1, ⟨c0, f2⟩, f3, f4⟩ := fx_hset_ok e6
        obtain ⟨g1, g2, ⟨C', T', N'⟩, vs, g3, g4, g5, g6⟩ := hrh.2.1 r _ hg
        have e8 : (C', T', N') = (C, T, N) := Option.some.inj (g3.symm.trans hcl)
        cases e8
        obtain ⟨hn, hfit⟩ := fx_fit_ok hX htag hrv e4
        rw [fx_ad_lt g2]
        refine fx_wput F0 hcl hk g4 g6 hlink hp hn hfit hfin hd (fun H1 lc hlc hob q2 q3 => ?_)
        exact fx_nxt hgo htl e7 ⟨hl0, hst2, fx_rh_set hrh f1 f2 f3 f4 q2 q3 ⟨_, vs.set (d / 8) wv, hcl, by rw [List.length_set]; exact g4, fx_rl_set hrv g5 (d / 8), hob⟩, hrj, fx_ls_add hls hlc⟩ hce hsl
      · simp [fx_k14, hg] at ee
  · cases ee
end FXD
