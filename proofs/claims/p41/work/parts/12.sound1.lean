section FXA
variable {l : Launch} {X : fx_X} {Y : fx_Y} {B : fx_B} {mst : Nat → Option fx_S} {mt : Nat → Option fx_M} {p : Program} {e : Env} {R : Room} {s : State} {m : MethodId} {args : Array Value} {below : List Frame} {meth : Method} {c : Code} {Q : State → Prop} {cc : ByteArray} {nL : Nat} {own : String} {ini : Bool} {rt : Option FieldType} {cod : List fx_I} {mc msl : Nat}
variable {go : fx_O} {pc a b d ce sl : Nat} {tl : List fx_I} {loc : fx_L} {stk : List fx_V} {h : fx_H} {j : fx_J} {H : Heap} {locs : List Loc} {ls : Array Slot} {st : List Value}
def fx_gok (l : Launch) (X : fx_X) (Y : fx_Y) (p : Program) (e : Env) (R : Room) (s : State) (m : MethodId) (args : Array Value) (below : List Frame) (meth : Method) (c : Code) (Q : State → Prop) (nL : Nat) (cod : List fx_I) (mc msl : Nat) (go : fx_O) : Prop :=
  (∀ loc stk ce sl h j, go [] loc stk ce sl h j = false) ∧ ∀ at_ loc stk ce sl h j, go at_ loc stk ce sl h j = true → (∀ q ∈ at_, q ∈ cod) → ∀ H locs ls st, fx_st X Y nL loc stk h j H locs ls st → ce ≤ mc → sl ≤ msl → W p l e R s m args below meth c H locs ce sl Q (F0 m (fx_pc at_) ls st)
theorem fx_nxt (hgo : fx_gok l X Y p e R s m args below meth c Q nL cod mc msl go) (htl : ∀ q ∈ tl, q ∈ cod) {len : Nat} (ee : fx_nx (fun t => go t loc stk ce sl h j) pc len tl = true) (hs : fx_st X Y nL loc stk h j H locs ls st) (hce : ce ≤ mc) (hsl : sl ≤ msl) : W p l e R s m args below meth c H locs ce sl Q (F0 m (pc + len) ls st) := by
  obtain ⟨r, t, rfl, h1, h2⟩ := fx_nx_ok ee
  have K := hgo.2 _ _ _ _ _ _ _ h2 htl H locs ls st hs hce hsl
  rw [show fx_pc (r :: t) = pc + len from h1] at K
  exact K
theorem fx_jmp (hgo : fx_gok l X Y p e R s m args below meth c Q nL cod mc msl go) {t : Nat} (ee : go (fx_to cod t) loc stk ce sl h j = true) (hs : fx_st X Y nL loc stk h j H locs ls st) (hce : ce ≤ mc) (hsl : sl ≤ msl) : W p l e R s m args below meth c H locs ce sl Q (F0 m t ls st) := by
  cases ht : fx_to cod t with
  | nil => rw [ht, hgo.1] at ee; cases ee
  | cons q r =>
    obtain ⟨h1, h2⟩ := fx_to_ok ht
    rw [ht] at ee
    have K := hgo.2 _ _ _ _ _ _ _ ee h2 H locs ls st hs hce hsl
    rw [show fx_pc (q :: r) = t from h1] at K
    exact K
theorem fx_fin4 {a : Nat} (h : a < 4) : ((Fin.ofNat 4 a : Fin 4) : Nat) = a := Nat.mod_eq_of_lt h
theorem fx_six {b : Nat} (h : b < 6) : b = 0 ∨ b = 1 ∨ b = 2 ∨ b = 3 ∨ b = 4 ∨ b = 5 := by omega
theorem fx_form_int {b : Nat} {v : fx_V} (h : fx_form b v = true) (hb : b = 0 ∨ b = 1) : fx_int v = true := by
  rcases v with n | i | r | n
  · rfl
  · rfl
  · rcases hb with rfl | rfl <;> cases h
  · rcases hb with rfl | rfl <;> cases h
theorem fx_form_ref {X : fx_X} (hX : fx_xo X) {b : Nat} {v : fx_V} {w : Value} (h : fx_form b v = true) (hb : b = 2 ∨ b = 3) (hr : fx_rv X v w) : w = .null ∨ ∃ a, w = .ref a := by
  rcases v with n | i | r | n
  · rcases hb with rfl | rfl <;> cases h
  · rcases hb with rfl | rfl <;> cases h
  · cases r with
    | none => exact Or.inl hr
    | some k =>
      have hr : w = fx_ad X k := hr
      rw [hr]
      exact (hX k).2
  · rcases hb with rfl | rfl <;> cases h
theorem fx_form_long {X : fx_X} {b : Nat} {v : fx_V} {w : Value} (h : fx_form b v = true) (hb : b = 4 ∨ b = 5) (hr : fx_rv X v w) : ∃ z, w = .long z := by
  rcases v with n | i | r | n
  · rcases hb with rfl | rfl <;> cases h
  · rcases hb with rfl | rfl <;> cases h
  · rcases hb with rfl | rfl <;> cases h
  · exact ⟨_, hr⟩
theorem fx_s0 (F : fx_fs X Y B mst mt p s m args meth c cc nL own ini rt cod) (hX : fx_xo X) (hgo : fx_gok l X Y p e R s m args below meth c Q nL cod mc msl go) (hin : (pc, 0, a, b, d) ∈ cod) (htl : ∀ q ∈ tl, q ∈ cod) (ee : fx_k0 go pc a b tl loc stk ce sl h j = true) (hs : fx_st X Y nL loc stk h j H locs ls st) (hce : ce ≤ mc) (hsl : sl ≤ msl) : W p l e R s m args below meth c H locs ce sl Q (F0 m pc ls st) := by
  obtain ⟨hx, hb, -, -, -, -, -, -, -, -, hcod⟩ := F
  obtain ⟨hd, ha⟩ := hcod _ _ _ _ _ hin (by decide)
  have ha := ha.1 (Or.inl rfl)
  obtain ⟨⟨lv, hlv, hrn⟩, hst, hrh, hrj, hls⟩ := hs
  unfold fx_k0 at ee
  cases hv : fx_look loc a with
  | none => rw [hv] at ee; cases ee
  | some v =>
    rw [hv] at ee
    simp only at ee
    obtain ⟨e1, e2⟩ := fx_and ee
    obtain ⟨ef, eb⟩ := fx_and e1
    obtain ⟨k, x, hk, hrv⟩ := fx_rn_look hrn hv
    obtain ⟨v', e3, hrv', -⟩ := fx_nz_ok hrj hrv e2
    have hl := lv_at hlv k hk
    have K := fx_nxt hgo htl e3 (H := H) (locs := locs) (ls := ls) (st := x :: st) ⟨⟨lv, hlv, hrn⟩, ⟨hrv', hst⟩, hrh, hrj, hls⟩ hce hsl
    rcases fx_six (fx_blt eb) with rfl | rfl | rfl | rfl | rfl | rfl
    · obtain ⟨z, rfl⟩ := fx_rv_int hrv (fx_form_int ef (Or.inl rfl))
      exact lv_iload_n hx hb hd (fx_fin4 (ha (by omega))) hl K
    · obtain ⟨z, rfl⟩ := fx_rv_int hrv (fx_form_int ef (Or.inr rfl))
      exact lv_iload hx hb hd hl K
    · rcases fx_form_ref hX ef (Or.inl rfl) hrv with rfl | ⟨q, rfl⟩
      · exact lv_aload_nN hx hb hd (fx_fin4 (ha (by omega))) hl K
      · exact lv_aload_n hx hb hd (fx_fin4 (ha (by omega))) hl K
    · rcases fx_form_ref hX ef (Or.inr rfl) hrv with rfl | ⟨q, rfl⟩
      · exact lv_aloadN hx hb hd hl K
      · exact lv_aload hx hb hd hl K
    · obtain ⟨z, rfl⟩ := fx_form_long ef (Or.inl rfl) hrv
      exact lv_lload_n hx hb hd (fx_fin4 (ha (by omega))) hl K
    · obtain ⟨z, rfl⟩ := fx_form_long ef (Or.inr rfl) hrv
      exact lv_lload hx hb hd hl K
theorem fx_beqd (a b : Nat) : Nat.beq a b = (a == b) := by
  rw [Bool.eq_iff_iff]
  simp [Nat.beq_eq]
/-- a store into a slot of one -/
theorem fx_rn_store1 {X : fx_X} (hX : fx_xo X) {loc : fx_L} {lv : List (Nat × Value)} (hrn : fx_rn X loc lv) {a : Nat} {v : fx_V} {x : Value} (hrv : fx_rv X v x) : fx_rn X ((a, v) :: loc.filter (fun q => !(Nat.beq q.1 a || (Nat.beq (q.1 + 1) a && Nat.beq (fx_cat q.2) 2)))) ((a, x) :: lv.filter (fun q => !(q.1 == a) && !(q.1 + 1 == a && q.2.category == 2))) := by
  refine ⟨⟨rfl, hrv⟩, ?_⟩
  have h1 := fx_rn_filter hX (fun i k => !(i == a) && !(i + 1 == a && k == 2)) hrn
  have e : (fun q : Nat × fx_V => !(Nat.beq q.1 a || (Nat.beq (q.1 + 1) a && Nat.beq (fx_cat q.2) 2))) = (fun q : Nat × fx_V => !(q.1 == a) && !(q.1 + 1 == a && fx_cat q.2 == 2)) := by
    funext q
    rw [Bool.not_or]
    simp only [fx_beqd]
  rw [e]
  exact h1
theorem fx_rn_store2 {X : fx_X} (hX : fx_xo X) {loc : fx_L} {lv : List (Nat × Value)} (hrn : fx_rn X loc lv) {a : Nat} {v : fx_V} {x : Value} (hrv : fx_rv X v x) : fx_rn X ((a, v) :: loc.filter (fun q => !(Nat.beq q.1 a || (Nat.beq q.1 (a + 1) || (Nat.beq (q.1 + 1) a && Nat.beq (fx_cat q.2) 2))))) ((a, x) :: lv.filter (fun q => !(q.1 == a) && (!(q.1 == a + 1) && !(q.1 + 1 == a && q.2.category == 2)))) := by
  refine ⟨⟨rfl, hrv⟩, ?_⟩
  have h1 := fx_rn_filter hX (fun i k => !(i == a) && (!(i == a + 1) && !(i + 1 == a && k == 2))) hrn
  have e : (fun q : Nat × fx_V => !(Nat.beq q.1 a || (Nat.beq q.1 (a + 1) || (Nat.beq (q.1 + 1) a && Nat.beq (fx_cat q.2) 2)))) = (fun q : Nat × fx_V => !(q.1 == a) && (!(q.1 == a + 1) && !(q.1 + 1 == a && fx_cat q.2 == 2))) := by
    funext q
    rw [Bool.not_or, Bool.not_or]
    simp only [fx_beqd]
  rw [e]
  exact h1
theorem fx_store_ok {loc : fx_L} {a : Nat} {v : fx_V} {k : fx_L → Bool} (ee : fx_store loc a v k = true) : (fx_cat v = 1 ∧ k ((a, v) :: loc.filter (fun q => !(Nat.beq q.1 a || (Nat.beq (q.1 + 1) a && Nat.beq (fx_cat q.2) 2)))) = true) ∨ (fx_cat v = 2 ∧ k ((a, v) :: loc.filter (fun q => !(Nat.beq q.1 a || (Nat.beq q.1 (a + 1) || (Nat.beq (q.1 + 1) a && Nat.beq (fx_cat q.2) 2))))) = true) := by
  rcases v with n | i | r | n
  · have ee : fx_drop loc a (fun t => k ((a, fc n) :: t)) = true := ee
    rw [fx_drop_eq] at ee
    exact Or.inl ⟨rfl, ee⟩
  · have ee : fx_drop loc a (fun t => k ((a, fv i) :: t)) = true := ee
    rw [fx_drop_eq] at ee
    exact Or.inl ⟨rfl, ee⟩
  · have ee : fx_drop loc a (fun t => k ((a, .inr (.inr (.inl r))) :: t)) = true := ee
    rw [fx_drop_eq] at ee
    exact Or.inl ⟨rfl, ee⟩
  · have ee : fx_drop2 loc a (fun t => k ((a, fl n) :: t)) = true := ee
    rw [fx_drop2_eq] at ee
    exact Or.inr ⟨rfl, ee⟩
theorem fx_s11 (F : fx_fs X Y B mst mt p s m args meth c cc nL own ini rt cod) (hX : fx_xo X) (hgo : fx_gok l X Y p e R s m args below meth c Q nL cod mc msl go) (hin : (pc, 11, a, b, d) ∈ cod) (htl : ∀ q ∈ tl, q ∈ cod) (ee : fx_k11 go pc a b tl loc stk ce sl h j = true) (hs : fx_st X Y nL loc stk h j H locs ls st) (hce : ce ≤ mc) (hsl : sl ≤ msl) : W p l e R s m args below meth c H locs ce sl Q (F0 m pc ls st) := by
  obtain ⟨hx, hb, -, -, -, -, -, -, -, -, hcod⟩ := F
  obtain ⟨hd, ha⟩ := hcod _ _ _ _ _ hin (by decide)
  have hn := ha.2.2.2.2.2.2.2.2.2.2.2.2.2.2.2.2.1 rfl
  have ha := ha.1 (Or.inr rfl)
  obtain ⟨⟨lv, hlv, hrn⟩, hst, hrh, hrj, hls⟩ := hs
  cases stk with
  | nil => cases ee
  | cons v stk =>
    obtain ⟨x, st, rfl, hrv, hst⟩ := fx_rl_cons hst
    have ee : ((fx_form b v && Nat.blt b 6) && fx_store loc a v (fun loc => fx_nx (fun t => go t loc stk ce sl h j) pc (fx_odd b) tl)) = true := ee
    obtain ⟨e1, e2⟩ := fx_and ee
    obtain ⟨ef, eb⟩ := fx_and e1
    have hcat := fx_cat_of hX hrv
    have K1 : ∀ ls' : Array Slot, fx_cat v = 1 → lv_has ls' nL ((a, x) :: lv.filter (fun q => !(q.1 == a) && !(q.1 + 1 == a && q.2.category == 2))) → W p l e R s m args below meth c H locs ce sl Q (F0 m (pc + fx_odd b) ls' st) := by
      intro ls' hc hl'
      rcases fx_store_ok e2 with ⟨-, e3⟩ | ⟨hc2, -⟩
      · exact fx_nxt hgo htl e3 ⟨⟨_, hl', fx_rn_store1 hX hrn hrv⟩, hst, hrh, hrj, hls⟩ hce hsl
      · omega
    have K2 : ∀ ls' : Array Slot, fx_cat v = 2 → lv_has ls' nL ((a, x) :: lv.filter (fun q => !(q.1 == a) && (!(q.1 == a + 1) && !(q.1 + 1 == a && q.2.category == 2)))) → W p l e R s m args below meth c H locs ce sl Q (F0 m (pc + fx_odd b) ls' st) := by
      intro ls' hc hl'
      rcases fx_store_ok e2 with ⟨hc2, -⟩ | ⟨-, e3⟩
      · omega
      · exact fx_nxt hgo htl e3 ⟨⟨_, hl', fx_rn_store2 hX hrn hrv⟩, hst, hrh, hrj, hls⟩ hce hsl
    rcases fx_six (fx_blt eb) with rfl | rfl | rfl | rfl | rfl | rfl
    · obtain ⟨z, rfl⟩ := fx_rv_int hrv (fx_form_int ef (Or.inl rfl))
      exact lv_istore_n hx hb hd (fx_fin4 (ha (by omega))) hlv (by omega) rfl (fun ls' hl' => K1 ls' hcat.symm hl')
    · obtain ⟨z, rfl⟩ := fx_rv_int hrv (fx_form_int ef (Or.inr rfl))
      exact lv_istore hx hb hd hlv (by omega) rfl (fun ls' hl' => K1 ls' hcat.symm hl')
    · rcases fx_form_ref hX ef (Or.inl rfl) hrv with rfl | ⟨q, rfl⟩
      · exact lv_astore_nN hx hb hd (fx_fin4 (ha (by omega))) hlv (by omega) rfl (fun ls' hl' => K1 ls' hcat.symm hl')
      · exact lv_astore_n hx hb hd (fx_fin4 (ha (by omega))) hlv (by omega) rfl (fun ls' hl' => K1 ls' hcat.symm hl')
    · rcases fx_form_ref hX ef (Or.inr rfl) hrv with rfl | ⟨q, rfl⟩
      · exact lv_astoreN hx hb hd hlv (by omega) rfl (fun ls' hl' => K1 ls' hcat.symm hl')
      · exact lv_astore hx hb hd hlv (by omega) rfl (fun ls' hl' => K1 ls' hcat.symm hl')
    · obtain ⟨z, rfl⟩ := fx_form_long ef (Or.inl rfl) hrv
      exact lv_lstore_n hx hb hd (fx_fin4 (ha (by omega))) hlv (by omega) rfl (fun ls' hl' => K2 ls' hcat.symm hl')
    · obtain ⟨z, rfl⟩ := fx_form_long ef (Or.inr rfl) hrv
      exact lv_lstore hx hb hd hlv (by omega) rfl (fun ls' hl' => K2 ls' hcat.symm hl')
end FXA
