section FXB
variable {l : Launch} {X : fx_X} {Y : fx_Y} {B : fx_B} {mst : Nat → Option fx_S} {mt : Nat → Option fx_M} {p : Program} {e : Env} {R : Room} {s : State} {m : MethodId} {args : Array Value} {below : List Frame} {meth : Method} {c : Code} {Q : State → Prop} {cc : ByteArray} {nL : Nat} {own : String} {ini : Bool} {rt : Option FieldType} {cod : List fx_I} {mc msl : Nat}
variable {go : fx_O} {pc a b d ce sl : Nat} {tl : List fx_I} {loc : fx_L} {stk : List fx_V} {h : fx_H} {j : fx_J} {H : Heap} {locs : List Loc} {ls : Array Slot} {st : List Value}
theorem fx_vaK (hc : fx_cx X Y B s) : va_K Y.1 fx_cl [] s := ⟨hc.1, fun k q hk => by simp at hk⟩
/-- an object of the picture, for the kit's rows -/
theorem fx_obj (hrh : fx_rh X Y h H) {r ci : Nat} {fs : List fx_V} (hg : fx_hget h r = some (.inr (.inl (ci, fs)))) : ∃ (C : String) (T : u_T) (N : Nat) (vs : List Value), fx_cl[ci]? = some (C, T, N) ∧ vs.length = N ∧ fx_rl X fs vs ∧ fx_ad X r = .ref (X.2.1 + r) ∧ va_P Y.1 fx_cl [(X.2.1 + r, .inr (ci, vs))] H ∧ r < h.1 := by
  obtain ⟨h1, h2, ⟨C, T, N⟩, vs, h3, h4, h5, h6⟩ := hrh.2.1 r _ hg
  refine ⟨C, T, N, vs, h3, h4, h5, fx_ad_lt h2, ?_, h1⟩
  intro k q hk
  cases k with
  | zero => cases hk; exact ⟨_, h3, h6⟩
  | succ k => simp at hk
theorem fx_s1 (F : fx_fs X Y B mst mt p s m args meth c cc nL own ini rt cod) (hgo : fx_gok l X Y p e R s m args below meth c Q nL cod mc msl go) (hin : (pc, 1, a, b, d) ∈ cod) (htl : ∀ q ∈ tl, q ∈ cod) (ee : fx_k1 go pc b d tl loc stk ce sl h j = true) (hs : fx_st X Y nL loc stk h j H locs ls st) (hce : ce ≤ mc) (hsl : sl ≤ msl) : W p l e R s m args below meth c H locs ce sl Q (F0 m pc ls st) := by
  obtain ⟨hx, hb, -, hown, hts, -, -, -, hcx, -, hcod⟩ := F
  obtain ⟨hd, ha⟩ := hcod _ _ _ _ _ hin (by decide)
  obtain ⟨C, T, N, hcl, hk, hlink⟩ := ha.2.1 rfl
  obtain ⟨hl0, hst, hrh, hrj, hls⟩ := hs
  rcases stk with _ | ⟨v, stk⟩
  · cases ee
  rcases v with n | i | (_ | r) | n
  · cases ee
  · cases ee
  · cases ee
  · obtain ⟨x, st, rfl, hrv, hst⟩ := fx_rl_cons hst
    cases hg : fx_hget h r with
    | none => simp [fx_k1, hg] at ee
    | some q =>
      rcases q with u | ⟨ci, fs⟩ | u
      · simp [fx_k1, hg] at ee
      · obtain ⟨C', T', N', vs, h1, h2, h3, h4, h5, -⟩ := fx_obj hrh hg
        cases hf : fx_nth fs d with
        | none => simp [fx_k1, hg, hf] at ee
        | some v =>
          simp only [fx_k1, hg, hf] at ee
          obtain ⟨e1, e2⟩ := fx_and ee
          have e1 := fx_beq e1
          subst e1
          have e3 : (C', T', N') = (C, T, N) := Option.some.inj (h1.symm.trans hcl)
          cases e3
          rw [fx_nth_eq] at hf
          obtain ⟨w, hw, hrw⟩ := fx_rl_get h3 hf
          have hrv : x = fx_ad X r := hrv
          rw [hrv, h4]
          obtain ⟨fs0, -, hkf⟩ := fx_clok hcl
          exact va_get (D := Y.1) (cl := fx_cl) (tys := []) (ci := ci) (C := C) (T := T) (N := N) (Ts := fx_tb) (v := w) hx hb hts hkf.1 hown (fx_vaK hcx) h5 0 rfl hcl d hk (hts _ hlink) (fun _ h9 => h9) hw hd (fx_nxt hgo htl e2 ⟨hl0, ⟨hrw, hst⟩, hrh, hrj, hls⟩ hce hsl)
      · simp [fx_k1, hg] at ee
  · cases ee
theorem fx_clen0 : fx_clen 0 = 1 ∧ fx_clen 1 = 2 ∧ fx_clen 2 = 3 ∧ fx_clen 3 = 2 ∧ fx_clen 4 = 3 ∧ fx_clen 5 = 1 ∧ fx_clen 6 = 3 ∧ fx_clen 7 = 1 := ⟨rfl, rfl, rfl, rfl, rfl, rfl, rfl, rfl⟩
theorem fx_s2 (F : fx_fs X Y B mst mt p s m args meth c cc nL own ini rt cod) (hgo : fx_gok l X Y p e R s m args below meth c Q nL cod mc msl go) (hin : (pc, 2, a, b, d) ∈ cod) (htl : ∀ q ∈ tl, q ∈ cod) (ee : (Nat.blt a 8 && fx_nx (fun t => go t loc (fx_cst a d :: stk) ce sl h j) pc (fx_clen a) tl) = true) (hs : fx_st X Y nL loc stk h j H locs ls st) (hce : ce ≤ mc) (hsl : sl ≤ msl) : W p l e R s m args below meth c H locs ce sl Q (F0 m pc ls st) := by
  obtain ⟨hx, hb, -, hown, hts, -, -, -, -, -, hcod⟩ := F
  obtain ⟨hd, ha⟩ := hcod _ _ _ _ _ hin (by decide)
  have ha := ha.2.2.1 rfl
  obtain ⟨hl0, hst, hrh, hrj, hls⟩ := hs
  obtain ⟨e1, e2⟩ := fx_and ee
  have hlt := fx_blt e1
  have K : ∀ w, fx_rv X (fx_cst a d) w → W p l e R s m args below meth c H locs ce sl Q (F0 m (pc + fx_clen a) ls (w :: st)) := fun w hw => fx_nxt hgo htl e2 ⟨hl0, ⟨hw, hst⟩, hrh, hrj, hls⟩ hce hsl
  rcases (by omega : a = 0 ∨ a = 1 ∨ a = 2 ∨ a = 3 ∨ a = 4 ∨ a = 5 ∨ a = 6 ∨ a = 7) with rfl | rfl | rfl | rfl | rfl | rfl | rfl | rfl
  · exact lv_iconst (v := Int32.ofNat d) hx hb hd (Int32.ofInt_toInt _) (K (.int (Int32.ofNat d)) rfl)
  · exact lv_bipush (v := Int32.ofNat d) hx hb hd (ha.1 rfl) (K (.int (Int32.ofNat d)) rfl)
  · exact lv_sipush (v := Int32.ofNat d) hx hb hd (ha.2.1 rfl) (K (.int (Int32.ofNat d)) rfl)
  · exact lv_ldc hx hb hown (hts _ (ha.2.2.1 (Or.inl rfl))) hd (K (.int (Int32.ofNat d)) rfl)
  · exact lv_ldcw hx hb hown (hts _ (ha.2.2.1 (Or.inr rfl))) hd (K (.int (Int32.ofNat d)) rfl)
  · exact lv_lconst (v := Int64.ofNat d) hx hb hd (by rw [show ((Fin.ofNat 2 d : Fin 2) : Nat) = d from Nat.mod_eq_of_lt (ha.2.2.2.1 rfl)]) (K (.long (Int64.ofNat d)) rfl)
  · exact lv_ldc2 hx hb hown (hts _ (ha.2.2.2.2 rfl)) hd (K (.long (Int64.ofNat d)) rfl)
  · exact lv_null hx hb hd (K .null rfl)
/-- the conditions, by what they say -/
theorem fx_con_ok (x y : Int32) : (fx_con 0 (fx_z x) (fx_z y) = decide (x = y)) ∧ (fx_con 1 (fx_z x) (fx_z y) = decide (¬ x = y)) ∧ (fx_con 2 (fx_z x) (fx_z y) = decide (x < y)) ∧ (fx_con 3 (fx_z x) (fx_z y) = decide (y ≤ x)) ∧ (fx_con 4 (fx_z x) (fx_z y) = decide (y < x)) ∧ (fx_con 5 (fx_z x) (fx_z y) = decide (x ≤ y)) := by
  have b1 : Nat.beq (fx_z x) (fx_z y) = decide (x = y) := by
    rw [Bool.eq_iff_iff, decide_eq_true_iff, fx_z_eq]
    exact ⟨fx_beq, fun q => by rw [q]; exact Nat.beq_refl _⟩
  have b2 : ∀ u v : Int32, Nat.blt (fx_z u) (fx_z v) = decide (u < v) := fun u v => by
    rw [Bool.eq_iff_iff, decide_eq_true_iff, fx_z_lt]
    exact ⟨fx_blt, fun q => Nat.ble_eq_true_of_le q⟩
  have b3 : ∀ u v : Int32, Nat.ble (fx_z u) (fx_z v) = decide (u ≤ v) := fun u v => by
    rw [Bool.eq_iff_iff, decide_eq_true_iff, fx_z_le]
    exact ⟨fx_ble, fun q => Nat.ble_eq_true_of_le q⟩
  refine ⟨b1, ?_, b2 x y, b3 y x, b2 y x, b3 x y⟩
  show (!Nat.beq (fx_z x) (fx_z y)) = _
  rw [b1]
  simp
theorem fx_off (pc b : Nat) : (pc : Int) + ((b : Int) - (pc : Int)) = (b : Int) := by omega
theorem fx_s3 (F : fx_fs X Y B mst mt p s m args meth c cc nL own ini rt cod) (hgo : fx_gok l X Y p e R s m args below meth c Q nL cod mc msl go) (hin : (pc, 3, a, b, d) ∈ cod) (htl : ∀ q ∈ tl, q ∈ cod) (ee : fx_k3 go cod pc a b tl loc stk ce sl h j = true) (hs : fx_st X Y nL loc stk h j H locs ls st) (hce : ce ≤ mc) (hsl : sl ≤ msl) : W p l e R s m args below meth c H locs ce sl Q (F0 m pc ls st) := by
  obtain ⟨hx, hb, -, hown, hts, -, -, -, -, -, hcod⟩ := F
  obtain ⟨hd, -⟩ := hcod _ _ _ _ _ hin (by decide)
  obtain ⟨hl0, hst, hrh, hrj, hls⟩ := hs
  rcases stk with _ | ⟨y, _ | ⟨x, stk⟩⟩
  · cases ee
  · cases ee
  obtain ⟨wy, st1, rfl, hry, hst1⟩ := fx_rl_cons hst
  obtain ⟨wx, st, rfl, hrx, hst2⟩ := fx_rl_cons hst1
  simp only [fx_k3] at ee
  obtain ⟨y', e1, hry', -⟩ := fx_nz_ok hrj hry ee
  obtain ⟨x', e2, hrx', -⟩ := fx_nz_ok hrj hrx e1
  obtain ⟨e3, e4⟩ := fx_and e2
  have ho := fx_blt e3
  obtain ⟨u, v, j', rfl, rfl, e5, hj'⟩ := fx_cmp_ok hrj ho hrx' hry' e4
  have KT : fx_con a (fx_z u) (fx_z v) = true → W p l e R s m args below meth c H locs ce sl Q (F0 m b ls st) := fun q => by
    rw [q, fx_if_t] at e5
    exact fx_jmp hgo e5 ⟨hl0, hst2, hrh, hj', hls⟩ hce hsl
  have KF : fx_con a (fx_z u) (fx_z v) = false → W p l e R s m args below meth c H locs ce sl Q (F0 m (pc + 3) ls st) := fun q => by
    rw [q, fx_if_f] at e5
    exact fx_nxt hgo htl e5 ⟨hl0, hst2, hrh, hj', hls⟩ hce hsl
  obtain ⟨c0, c1, c2, c3, c4, c5⟩ := fx_con_ok u v
  rcases (by omega : a = 0 ∨ a = 1 ∨ a = 2 ∨ a = 3 ∨ a = 4 ∨ a = 5) with rfl | rfl | rfl | rfl | rfl | rfl
  · exact lv_icmp_eq hx hb hd (fx_off pc b) (fun q => KT (by rw [c0]; exact decide_eq_true q)) (fun q => KF (by rw [c0]; exact decide_eq_false q))
  · exact lv_icmp_ne hx hb hd (fx_off pc b) (fun q => KT (by rw [c1]; exact decide_eq_true q)) (fun q => KF (by rw [c1]; exact decide_eq_false (fun q2 => q2 q)))
  · exact lv_icmp_lt hx hb hd (fx_off pc b) (fun q => KT (by rw [c2]; exact decide_eq_true q)) (fun q => KF (by rw [c2]; exact decide_eq_false q))
  · exact lv_icmp_ge hx hb hd (fx_off pc b) (fun q => KT (by rw [c3]; exact decide_eq_true q)) (fun q => KF (by rw [c3]; exact decide_eq_false q))
  · exact lv_icmp_gt hx hb hd (fx_off pc b) (fun q => KT (by rw [c4]; exact decide_eq_true q)) (fun q => KF (by rw [c4]; exact decide_eq_false q))
  · exact lv_icmp_le hx hb hd (fx_off pc b) (fun q => KT (by rw [c5]; exact decide_eq_true q)) (fun q => KF (by rw [c5]; exact decide_eq_false q))
theorem fx_s4 (F : fx_fs X Y B mst mt p s m args meth c cc nL own ini rt cod) (hgo : fx_gok l X Y p e R s m args below meth c Q nL cod mc msl go) (hin : (pc, 4, a, b, d) ∈ cod) (htl : ∀ q ∈ tl, q ∈ cod) (ee : fx_k4 go cod pc a b tl loc stk ce sl h j = true) (hs : fx_st X Y nL loc stk h j H locs ls st) (hce : ce ≤ mc) (hsl : sl ≤ msl) : W p l e R s m args below meth c H locs ce sl Q (F0 m pc ls st) := by
  obtain ⟨hx, hb, -, hown, hts, -, -, -, -, -, hcod⟩ := F
  obtain ⟨hd, -⟩ := hcod _ _ _ _ _ hin (by decide)
  obtain ⟨hl0, hst, hrh, hrj, hls⟩ := hs
  rcases stk with _ | ⟨x, stk⟩
  · cases ee
  obtain ⟨wx, st, rfl, hrx, hst2⟩ := fx_rl_cons hst
  simp only [fx_k4] at ee
  obtain ⟨x', e2, hrx', -⟩ := fx_nz_ok hrj hrx ee
  obtain ⟨e3, e4⟩ := fx_and e2
  have ho := fx_blt e3
  obtain ⟨u, v, j', rfl, hv, e5, hj'⟩ := fx_cmp_ok hrj ho hrx' (y := fc 0) (u := .int 0) rfl e4
  cases hv
  have KT : fx_con a (fx_z u) (fx_z 0) = true → W p l e R s m args below meth c H locs ce sl Q (F0 m b ls st) := fun q => by
    rw [q, fx_if_t] at e5
    exact fx_jmp hgo e5 ⟨hl0, hst2, hrh, hj', hls⟩ hce hsl
  have KF : fx_con a (fx_z u) (fx_z 0) = false → W p l e R s m args below meth c H locs ce sl Q (F0 m (pc + 3) ls st) := fun q => by
    rw [q, fx_if_f] at e5
    exact fx_nxt hgo htl e5 ⟨hl0, hst2, hrh, hj', hls⟩ hce hsl
  obtain ⟨c0, c1, c2, c3, c4, c5⟩ := fx_con_ok u 0
  rcases (by omega : a = 0 ∨ a = 1 ∨ a = 2 ∨ a = 3 ∨ a = 4 ∨ a = 5) with rfl | rfl | rfl | rfl | rfl | rfl
  · exact lv_if_eq hx hb hd (fx_off pc b) (fun q => KT (by rw [c0]; exact decide_eq_true q)) (fun q => KF (by rw [c0]; exact decide_eq_false q))
  · exact lv_if_ne hx hb hd (fx_off pc b) (fun q => KT (by rw [c1]; exact decide_eq_true q)) (fun q => KF (by rw [c1]; exact decide_eq_false (fun q2 => q2 q)))
  · exact lv_if_lt hx hb hd (fx_off pc b) (fun q => KT (by rw [c2]; exact decide_eq_true q)) (fun q => KF (by rw [c2]; exact decide_eq_false q))
  · exact lv_if_ge hx hb hd (fx_off pc b) (fun q => KT (by rw [c3]; exact decide_eq_true q)) (fun q => KF (by rw [c3]; exact decide_eq_false q))
  · exact lv_if_gt hx hb hd (fx_off pc b) (fun q => KT (by rw [c4]; exact decide_eq_true q)) (fun q => KF (by rw [c4]; exact decide_eq_false q))
  · exact lv_if_le hx hb hd (fx_off pc b) (fun q => KT (by rw [c5]; exact decide_eq_true q)) (fun q => KF (by rw [c5]; exact decide_eq_false q))
theorem fx_s5 (F : fx_fs X Y B mst mt p s m args meth c cc nL own ini rt cod) (hgo : fx_gok l X Y p e R s m args below meth c Q nL cod mc msl go) (hin : (pc, 5, a, b, d) ∈ cod) (ee : go (fx_to cod b) loc stk ce sl h j = true) (hs : fx_st X Y nL loc stk h j H locs ls st) (hce : ce ≤ mc) (hsl : sl ≤ msl) : W p l e R s m args below meth c H locs ce sl Q (F0 m pc ls st) := by
  obtain ⟨hx, hb, -, hown, hts, -, -, -, -, -, hcod⟩ := F
  obtain ⟨hd, -⟩ := hcod _ _ _ _ _ hin (by decide)
  exact lv_goto hx hb hd (fx_off pc b) (fx_jmp hgo ee hs hce hsl)
/-- the same place again, with what is known besides -/
theorem fx_again (hgo : fx_gok l X Y p e R s m args below meth c Q nL cod mc msl go) {q : fx_I} (hq : q ∈ cod) (htl : ∀ q ∈ tl, q ∈ cod) {v : fx_V} {i lo n : Nat} (hf : fx_few j v = some (i, lo, n)) (ee : fx_each j i lo n (fun j => go (q :: tl) loc stk ce sl h j) = true) (hs : fx_st X Y nL loc stk h j H locs ls st) (hce : ce ≤ mc) (hsl : sl ≤ msl) : W p l e R s m args below meth c H locs ce sl Q (F0 m q.1 ls st) := by
  obtain ⟨hl0, hst, hrh, hrj, hls⟩ := hs
  obtain ⟨h1, h2⟩ := fx_few_ok hrj hf
  obtain ⟨j', e1, hj'⟩ := fx_each_ok hrj ee h1 h2
  exact hgo.2 _ _ _ _ _ _ _ e1 (fun x hx => by
    rcases List.mem_cons.mp hx with rfl | hx
    · exact hq
    · exact htl x hx) H locs ls st ⟨hl0, hst, hrh, hj', hls⟩ hce hsl
theorem fx_s7 (F : fx_fs X Y B mst mt p s m args meth c cc nL own ini rt cod) (hX : fx_xo X) (h7 : X.1 7 = X.1 1 &&& 63) (hgo : fx_gok l X Y p e R s m args below meth c Q nL cod mc msl go) (hin : (pc, 7, a, b, d) ∈ cod) (htl : ∀ q ∈ tl, q ∈ cod) (ee : fx_k7 go pc a b tl loc stk ce sl h j = true) (hs : fx_st X Y nL loc stk h j H locs ls st) (hce : ce ≤ mc) (hsl : sl ≤ msl) : W p l e R s m args below meth c H locs ce sl Q (F0 m pc ls st) := by
  obtain ⟨hx, hb, -, hown, hts, -, -, -, -, -, hcod⟩ := F
  obtain ⟨hd, -⟩ := hcod _ _ _ _ _ hin (by decide)
  obtain ⟨⟨lv, hlv, hrn⟩, hst, hrh, hrj, hls⟩ := hs
  unfold fx_k7 at ee
  cases hv : fx_look loc a with
  | none => rw [hv] at ee; cases ee
  | some v =>
    rw [hv] at ee
    simp only at ee
    obtain ⟨k, x, hk, hrv⟩ := fx_rn_look hrn hv
    obtain ⟨v', e3, hrv', -⟩ := fx_nz_ok hrj hrv ee
    cases hw : fx_bis 0 v' (fc b) with
    | none => rw [hw] at e3; cases e3
    | some w =>
      rw [hw] at e3
      simp only at e3
      rw [fx_val_eq] at e3
      obtain ⟨z, z2, rfl, h2, hrw, -⟩ := fx_bis_ok h7 (by decide) hrv' (y := fc b) (t := .int (Int32.ofNat b)) rfl hw
      cases h2
      have hl := lv_at hlv k hk
      have hnL : a < nL := by rw [← hlv.1]; exact lv_lt hl
      refine lv_iinc (v := z + Int32.ofNat b) hx hb hd hlv hk (by rw [Int32.ofInt_toInt]) hnL rfl (fun ls' hl' => ?_)
      rcases fx_store_ok e3 with ⟨-, e4⟩ | ⟨hc, -⟩
      · exact fx_nxt hgo htl e4 ⟨⟨_, hl', fx_rn_store1 hX hrn hrw⟩, hst, hrh, hrj, hls⟩ hce hsl
      · rw [← fx_cat_of hX hrw] at hc
        cases hc
theorem fx_wbin {H : Heap} (hx : p.tables.exec = Jvm.exec) (hb : c.code = cc) {o : Nat} (ho : o < 11) {u v : Int32} {rest : List Value} (hd : decode cc pc = .ok (fx_bop o, 1)) (hne : o = 3 ∨ o = 4 → ¬ v = 0) (K : W p l e R s m args below meth c H locs ce sl Q (F0 m (pc + 1) ls (.int (fx_op o u v) :: rest))) : W p l e R s m args below meth c H locs ce sl Q (F0 m pc ls (.int v :: .int u :: rest)) := by
  rcases (by omega : o = 0 ∨ o = 1 ∨ o = 2 ∨ o = 3 ∨ o = 4 ∨ o = 5 ∨ o = 6 ∨ o = 7 ∨ o = 8 ∨ o = 9 ∨ o = 10) with rfl | rfl | rfl | rfl | rfl | rfl | rfl | rfl | rfl | rfl | rfl
  · exact lv_iadd hx hb hd K
  · exact lv_isub hx hb hd K
  · exact lv_imul hx hb hd K
  · exact lv_idiv hx hb hd (hne (by omega)) K
  · exact lv_irem hx hb hd (hne (by omega)) K
  · exact lv_iand hx hb hd K
  · exact lv_ior hx hb hd K
  · exact lv_ixor hx hb hd K
  · exact lv_ishl hx hb hd K
  · exact lv_ishr hx hb hd K
  · exact lv_iushr hx hb hd rfl K
theorem fx_s12 (F : fx_fs X Y B mst mt p s m args meth c cc nL own ini rt cod) (h7 : X.1 7 = X.1 1 &&& 63) (hgo : fx_gok l X Y p e R s m args below meth c Q nL cod mc msl go) (hin : (pc, 12, a, b, d) ∈ cod) (htl : ∀ q ∈ tl, q ∈ cod) (ee : fx_k12 go (pc, 12, a, b, d) pc a tl loc stk ce sl h j = true) (hs : fx_st X Y nL loc stk h j H locs ls st) (hce : ce ≤ mc) (hsl : sl ≤ msl) : W p l e R s m args below meth c H locs ce sl Q (F0 m pc ls st) := by
  obtain ⟨hx, hb, -, hown, hts, -, -, -, -, -, hcod⟩ := F
  obtain ⟨hd, ha⟩ := hcod _ _ _ _ _ hin (by decide)
  have ho := ha.2.2.2.2.2.1 rfl
  have hs0 := hs
  obtain ⟨hl0, hst, hrh, hrj, hls⟩ := hs
  rcases stk with _ | ⟨y, _ | ⟨x, stk⟩⟩
  · cases ee
  · cases ee
  obtain ⟨wy, st1, rfl, hry, hst1⟩ := fx_rl_cons hst
  obtain ⟨wx, st, rfl, hrx, hst2⟩ := fx_rl_cons hst1
  simp only [fx_k12] at ee
  obtain ⟨y', e1, hry', -⟩ := fx_nz_ok hrj hry ee
  obtain ⟨x', e2, hrx', -⟩ := fx_nz_ok hrj hrx e1
  cases hw : fx_bis a x' y' with
  | none => rw [hw] at e2; cases e2
  | some w =>
    rw [hw] at e2
    simp only at e2
    obtain ⟨u, v, rfl, rfl, hrw, hne⟩ := fx_bis_ok h7 ho hrx' hry' hw
    cases ht : fx_top w with
    | true =>
      rw [ht, fx_if_t] at e2
      cases hfx : fx_few j x' with
      | some q =>
        obtain ⟨i, lo, n⟩ := q
        rw [hfx] at e2
        exact fx_again hgo hin htl hfx e2 hs0 hce hsl
      | none =>
        rw [hfx] at e2
        simp only at e2
        cases hfy : fx_few j y' with
        | some q =>
          obtain ⟨i, lo, n⟩ := q
          rw [hfy] at e2
          exact fx_again hgo hin htl hfy e2 hs0 hce hsl
        | none =>
          rw [hfy] at e2
          exact fx_wbin hx hb ho hd hne (fx_nxt hgo htl e2 ⟨hl0, ⟨hrw, hst2⟩, hrh, hrj, hls⟩ hce hsl)
    | false =>
      rw [ht, fx_if_f, fx_val_eq] at e2
      exact fx_wbin hx hb ho hd hne (fx_nxt hgo htl e2 ⟨hl0, ⟨hrw, hst2⟩, hrh, hrj, hls⟩ hce hsl)
end FXB
