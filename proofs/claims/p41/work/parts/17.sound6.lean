section FXF
variable {l : Launch} {X : fx_X} {Y : fx_Y} {B : fx_B} {mst : Nat → Option fx_S} {mt : Nat → Option fx_M} {p : Program} {e : Env} {R : Room} {s : State} {m : MethodId} {args : Array Value} {below : List Frame} {meth : Method} {c : Code} {Q : State → Prop} {cc : ByteArray} {nL : Nat} {own : String} {ini : Bool} {rt : Option FieldType} {cod : List fx_I} {mc msl : Nat}
variable {go : fx_O} {pc a b d ce sl dd : Nat} {tl : List fx_I} {loc : fx_L} {stk : List fx_V} {h h' : fx_H} {j : fx_J} {H H1 : Heap} {locs : List Loc} {ls : Array Slot} {st : List Value} {k : fx_K}
/-- where a switch goes: keys from lo on, biased -/
def fx_tgt (ts : List Nat) (dft lo z : Nat) (t : Nat) : Prop := (lo ≤ z ∧ ts[z - lo]? = some t) ∨ ((z < lo ∨ lo + ts.length ≤ z) ∧ t = dft)
theorem fx_keys_ok (hj : fx_rj X j) {i : Nat} {g : Nat → fx_J → Bool} : ∀ {ts : List Nat} {lo : Nat}, fx_keys j i g ts lo = true → lo ≤ fx_z (X.1 i) → ∀ t, ts[fx_z (X.1 i) - lo]? = some t → ∃ j', g t j' = true ∧ fx_rj X j' := by
  intro ts
  induction ts with
  | nil => intro lo _ _ t ht; simp at ht
  | cons u ts ih =>
    intro lo ee hlo t ht
    obtain ⟨e1, e2⟩ := fx_and (a := fx_if (Nat.ble (fx_iv j i).1 lo && Nat.ble lo (fx_iv j i).2) (fx_with j i lo lo (g u)) true) (b := fx_keys j i g ts (lo + 1)) ee
    by_cases hz : fx_z (X.1 i) = lo
    · rw [hz, Nat.sub_self, List.getElem?_cons_zero] at ht
      cases ht
      have hq := fx_iv_ok hj i
      rw [hz] at hq
      rw [Nat.ble_eq_true_of_le hq.1, Nat.ble_eq_true_of_le hq.2] at e1
      exact fx_with_ok hj ⟨by omega, by omega⟩ e1
    · have e3 : fx_z (X.1 i) - lo = (fx_z (X.1 i) - (lo + 1)) + 1 := by omega
      rw [e3, List.getElem?_cons_succ] at ht
      exact ih e2 (by omega) t ht
theorem fx_sw_ok (hj : fx_rj X j) {x : fx_V} {w : Value} (hrv : fx_rv X x w) {dft lo : Nat} {ts : List Nat} {g : Nat → fx_J → Bool} (ee : fx_sw j x dft lo ts g = true) : ∃ (z : Int32) (t : Nat) (j' : fx_J), w = .int z ∧ fx_tgt ts dft lo (fx_z z) t ∧ g t j' = true ∧ fx_rj X j' := by
  rcases x with n | i | r | n
  · refine ⟨Int32.ofNat n, ?_⟩
    have ee : fx_if (Nat.ble lo (fx_b n)) (match fx_nth ts (fx_b n - lo) with
      | some t => g t j
      | none => g dft j) (g dft j) = true := ee
    cases hc : Nat.ble lo (fx_b n) with
    | false =>
      rw [hc, fx_if_f] at ee
      exact ⟨dft, j, hrv, Or.inr ⟨Or.inl (by rw [fx_z_of]; exact fx_nle hc), rfl⟩, ee, hj⟩
    | true =>
      rw [hc, fx_if_t] at ee
      have hc := fx_ble hc
      cases ht : fx_nth ts (fx_b n - lo) with
      | none =>
        rw [ht] at ee
        rw [fx_nth_eq] at ht
        have := List.getElem?_eq_none_iff.mp ht
        exact ⟨dft, j, hrv, Or.inr ⟨Or.inr (by rw [fx_z_of]; omega), rfl⟩, ee, hj⟩
      | some t =>
        rw [ht] at ee
        rw [fx_nth_eq] at ht
        exact ⟨t, j, hrv, Or.inl ⟨by rw [fx_z_of]; exact hc, by rw [fx_z_of]; exact ht⟩, ee, hj⟩
  · cases i with
    | zero => cases ee
    | succ i =>
      refine ⟨X.1 (i + 1), ?_⟩
      have ee : (fx_keys j (i + 1) g ts lo && ((Nat.beq lo 0 || fx_with j (i + 1) (fx_iv j (i + 1)).1 (fx_if (Nat.ble (fx_iv j (i + 1)).2 (lo - 1)) (fx_iv j (i + 1)).2 (lo - 1)) (g dft)) && fx_with j (i + 1) (fx_if (Nat.ble (lo + ts.length) (fx_iv j (i + 1)).1) (fx_iv j (i + 1)).1 (lo + ts.length)) (fx_iv j (i + 1)).2 (g dft))) = true := ee
      obtain ⟨e1, e2⟩ := fx_and ee
      obtain ⟨e3, e4⟩ := fx_and e2
      have hq := fx_iv_ok hj (i + 1)
      by_cases h1 : fx_z (X.1 (i + 1)) < lo
      · rcases fx_or e3 with e3 | e3
        · have := fx_beq e3
          omega
        · have hb : (fx_iv j (i + 1)).1 ≤ fx_z (X.1 (i + 1)) ∧ fx_z (X.1 (i + 1)) ≤ fx_if (Nat.ble (fx_iv j (i + 1)).2 (lo - 1)) (fx_iv j (i + 1)).2 (lo - 1) := by
            refine ⟨hq.1, ?_⟩
            cases hc : Nat.ble (fx_iv j (i + 1)).2 (lo - 1) with
            | true => rw [fx_if_t]; exact hq.2
            | false => rw [fx_if_f]; omega
          obtain ⟨j', g1, g2⟩ := fx_with_ok hj hb e3
          exact ⟨dft, j', hrv, Or.inr ⟨Or.inl h1, rfl⟩, g1, g2⟩
      · by_cases h2 : lo + ts.length ≤ fx_z (X.1 (i + 1))
        · have hb : fx_if (Nat.ble (lo + ts.length) (fx_iv j (i + 1)).1) (fx_iv j (i + 1)).1 (lo + ts.length) ≤ fx_z (X.1 (i + 1)) ∧ fx_z (X.1 (i + 1)) ≤ (fx_iv j (i + 1)).2 := by
            refine ⟨?_, hq.2⟩
            cases hc : Nat.ble (lo + ts.length) (fx_iv j (i + 1)).1 with
            | true => rw [fx_if_t]; exact hq.1
            | false => rw [fx_if_f]; omega
          obtain ⟨j', g1, g2⟩ := fx_with_ok hj hb e4
          exact ⟨dft, j', hrv, Or.inr ⟨Or.inr h2, rfl⟩, g1, g2⟩
        · have hl : fx_z (X.1 (i + 1)) - lo < ts.length := by omega
          obtain ⟨j', g1, g2⟩ := fx_keys_ok hj e1 (by omega) _ (List.getElem?_eq_getElem hl)
          exact ⟨_, j', hrv, Or.inl ⟨by omega, List.getElem?_eq_getElem hl⟩, g1, g2⟩
  · cases ee
  · cases ee
theorem fx_z_int (z : Int32) : (fx_z z : Int) = z.toInt + 2147483648 := by
  have h1 := z.le_toInt
  unfold fx_z
  omega
theorem fx_s20 {E : fx_E} (hE : E.2.1 = fx_swt) (F : fx_fs X Y B mst mt p s m args meth c cc nL own ini rt cod) {kd : Nat} (hkd : kd = 20 ∨ kd = 21) (hgo : fx_gok l X Y p e R s m args below meth c Q nL cod mc msl go) (hin : (pc, kd, a, b, d) ∈ cod) (ee : fx_k20 E go cod a b d loc stk ce sl h j = true) (hs : fx_st X Y nL loc stk h j H locs ls st) (hce : ce ≤ mc) (hsl : sl ≤ msl) : W p l e R s m args below meth c H locs ce sl Q (F0 m pc ls st) := by
  obtain ⟨hx, hb, -, hown, hts, -, -, -, hcx, -, hcod⟩ := F
  obtain ⟨hd, ha⟩ := hcod _ _ _ _ _ hin (by omega)
  obtain ⟨hb1, hb2, hb3⟩ := ha.2.2.2.2.2.2.2.2.2.1 hkd
  have hl2 := ha.2.2.2.2.2.2.2.2.2.2.2.2.2.2.2.2.2.1
  obtain ⟨hl0, hst, hrh, hrj, hls⟩ := hs
  rcases stk with _ | ⟨x, stk⟩
  · cases ee
  obtain ⟨w, st1, rfl, hrv, hst1⟩ := fx_rl_cons hst
  simp only [fx_k20] at ee
  obtain ⟨x', e1, hrv', -⟩ := fx_nz_ok hrj hrv ee
  obtain ⟨z, t, j', rfl, htg, e2, hj'⟩ := fx_sw_ok hrj hrv' e1
  rw [hE] at htg
  have K := fx_jmp hgo e2 (H := H) (locs := locs) (ls := ls) (st := st1) ⟨hl0, hst1, hrh, hj', hls⟩ hce hsl
  have hlo : fx_b b = b + 2147483648 := by
    show (b + 2147483648) % 4294967296 = _
    omega
  have hzi := fx_z_int z
  rw [hlo] at htg
  rcases hkd with rfl | rfl
  · rcases htg with ⟨h1, h2⟩ | ⟨h1, rfl⟩
    · have h3 : fx_z z - (b + 2147483648) < (fx_swt d).length := (List.getElem?_eq_some_iff.mp h2).1
      refine lv_tableIn (off := (t : Int) - (pc : Int)) hx hb hd (by omega) (by omega) ?_ (fx_off pc t) K
      have e5 : (z.toInt - (b : Int)).toNat = fx_z z - (b + 2147483648) := by omega
      rw [e5, List.getElem?_toArray, List.getElem?_map, h2]
      rfl
    · exact lv_tableOut hx hb hd (by omega) (fx_off pc t) K
  · have hl2 := hl2 rfl
    obtain ⟨t0, t1, hts2⟩ : ∃ t0 t1, fx_swt d = [t0, t1] := by
      rcases hq : fx_swt d with _ | ⟨t0, _ | ⟨t1, _ | ⟨t2, r⟩⟩⟩
      · rw [hq] at hl2; cases hl2
      · rw [hq] at hl2; cases hl2
      · exact ⟨t0, t1, rfl⟩
      · rw [hq] at hl2; simp at hl2
    have hd : decode cc pc = .ok (.lookupswitch ((a : Int) - (pc : Int)) #[((b : Int) + 0, (t0 : Int) - (pc : Int)), ((b : Int) + 1, (t1 : Int) - (pc : Int))], 9 + (3 - pc % 4) + 8 * (fx_swt d).length) := by
      rw [hd]
      simp only [fx_ins]
      rw [hts2]
      rfl
    rw [hts2] at htg
    refine lv_lookup (off := (t : Int) - (pc : Int)) hx hb hd (by simp; omega) ?_ (fx_off pc t) K
    simp only [Op.lookupswitch.offset_cons, Op.lookupswitch.offset_nil]
    rcases htg with ⟨h1, h2⟩ | ⟨h1, rfl⟩
    · have h3 : fx_z z - (b + 2147483648) < 2 := (List.getElem?_eq_some_iff.mp h2).1
      rcases (by omega : fx_z z - (b + 2147483648) = 0 ∨ fx_z z - (b + 2147483648) = 1) with h4 | h4
      · rw [h4] at h2
        cases h2
        rw [if_pos (by omega)]
      · rw [h4] at h2
        cases h2
        rw [if_neg (by omega), if_pos (by omega)]
    · have h1 : fx_z z < b + 2147483648 ∨ b + 2147483648 + 2 ≤ fx_z z := h1
      rw [if_neg (by omega), if_neg (by omega)]
theorem fx_cats_ok (hX : fx_xo X) : ∀ {stk : List fx_V} {st : List Value}, fx_rl X stk st → (st.map fun v => v.category).sum = fx_cats stk := by
  intro stk
  induction stk with
  | nil => intro st hh; rw [fx_rl_nil hh]; rfl
  | cons v stk ih =>
    intro st hh
    obtain ⟨w, st1, rfl, h1, h2⟩ := fx_rl_cons hh
    rw [List.map_cons, List.sum_cons, ih h2, fx_cat_of hX h1]
    rfl
theorem fx_s22 (F : fx_fs X Y B mst mt p s m args meth c cc nL own ini rt cod) (hX : fx_xo X) (hoi : Cond.instanceMethod Lib.objectInit ∈ fx_tb ∧ Cond.code Lib.objectInit ⟨#[0xb1]⟩ 1 none ∈ fx_tb) (hR : dd ≤ R.frames ∧ 60 * dd ≤ R.locals) (hgo : fx_gok l X Y p e R s m args below meth c Q nL cod mc msl go) (hin : (pc, 22, a, b, d) ∈ cod) (htl : ∀ q ∈ tl, q ∈ cod) (ee : fx_k22 go dd pc tl loc stk ce sl h j = true) (hs : fx_st X Y nL loc stk h j H locs ls st) (hce : ce ≤ mc) (hsl : sl ≤ msl) : W p l e R s m args below meth c H locs ce sl Q (F0 m pc ls st) := by
  obtain ⟨hx, hb, hml, hown, hts, -, -, -, hcx, -, hcod⟩ := F
  obtain ⟨hd, ha⟩ := hcod _ _ _ _ _ hin (by decide)
  have hlink := ha.2.2.2.2.2.2.2.2.2.2.1 rfl
  obtain ⟨hl0, hst, hrh, hrj, hls⟩ := hs
  rcases stk with _ | ⟨v, stk⟩
  · cases ee
  rcases v with n | v | (_ | r) | v
  · cases ee
  · cases ee
  · cases ee
  · obtain ⟨w, st1, rfl, hrv, hst1⟩ := fx_rl_cons hst
    have hw : w = fx_ad X r := hrv
    subst hw
    simp only [fx_k22] at ee
    obtain ⟨e1, e2⟩ := fx_and ee
    obtain ⟨e3, e4⟩ := fx_and e1
    obtain ⟨e5, e6⟩ := fx_and e4
    have e3 := fx_blt e3
    have e6 := fx_ble e6
    rw [fx_ad_lt (fx_blt e5)]
    have hsum := fx_cats_ok hX hst1
    obtain ⟨lv, hlv, hrn⟩ := hl0
    refine W.objInit hx hb hown (hts _ hlink) (hts _ hoi.1) (hts _ hoi.2) rfl (by rw [hml]; exact hlv.1) rfl hd (by omega) ?_ (fx_nxt hgo htl e2 ⟨⟨lv, hlv, hrn⟩, hst1, hrh, hrj, hls⟩ hce hsl)
    show 2 * 0 + (st1.map fun v => v.category).sum + 12 ≤ R.locals
    omega
  · cases ee
theorem fx_ints_ok {u : List (Nat × fx_V)} {sp : Nat} : ∀ {n : Nat}, fx_ints u sp n = true → ∀ i, i < n → fx_int (fx_aget 0 u (sp + i)) = true := by
  intro n
  induction n with
  | zero => intro _ i hi; omega
  | succ n ih =>
    intro ee i hi
    obtain ⟨e1, e2⟩ := fx_and (a := fx_int (fx_aget 0 u (sp + n))) (b := fx_ints u sp n) ee
    by_cases hn : i = n
    · subst hn; exact e1
    · exact ih e2 i (by omega)
theorem fx_s23 (F : fx_fs X Y B mst mt p s m args meth c cc nL own ini rt cod) (hX : fx_xo X) (hac : Cond.native arraycopyName ∈ fx_tb ∧ Cond.static arraycopyName ∈ fx_tb ∧ Cond.initialized "java/lang/System" ∈ fx_tb) (hR : dd ≤ R.frames ∧ 60 * dd ≤ R.locals) (hgo : fx_gok l X Y p e R s m args below meth c Q nL cod mc msl go) (hin : (pc, 23, a, b, d) ∈ cod) (htl : ∀ q ∈ tl, q ∈ cod) (ee : fx_k23 go dd pc tl loc stk ce sl h j = true) (hs : fx_st X Y nL loc stk h j H locs ls st) (hce : ce ≤ mc) (hsl : sl ≤ msl) : W p l e R s m args below meth c H locs ce sl Q (F0 m pc ls st) := by
  obtain ⟨hx, hb, hml, hown, hts, -, -, -, hcx, -, hcod⟩ := F
  obtain ⟨hd, ha⟩ := hcod _ _ _ _ _ hin (by decide)
  have hlink := ha.2.2.2.2.2.2.2.2.2.2.2.1 rfl
  obtain ⟨hl0, hst, hrh, hrj, hls⟩ := hs
  rcases stk with _ | ⟨v1, _ | ⟨v2, _ | ⟨v3, _ | ⟨v4, _ | ⟨v5, stk⟩⟩⟩⟩⟩
  · cases ee
  · rcases v1 with n | v | r | v <;> cases ee
  · rcases v1 with n | v | r | v
    · rcases v2 with dp | v | r | v <;> cases ee
    · cases ee
    · cases ee
    · cases ee
  · rcases v1 with n | v | r | v
    · rcases v2 with dp | v | r | v
      · rcases v3 with q | v | (_ | r) | v <;> cases ee
      · cases ee
      · cases ee
      · cases ee
    · cases ee
    · cases ee
    · cases ee
  · rcases v1 with n | v | r | v
    · rcases v2 with dp | v | r | v
      · rcases v3 with q | v | (_ | r) | v
        · cases ee
        · cases ee
        · cases ee
        · rcases v4 with sp | v | r4 | v <;> cases ee
        · cases ee
      · cases ee
      · cases ee
      · cases ee
    · cases ee
    · cases ee
    · cases ee
  · rcases v1 with n | v | r | v
    rotate_left
    · cases ee
    · cases ee
    · cases ee
    rcases v2 with dp | v | r | v
    rotate_left
    · cases ee
    · cases ee
    · cases ee
    rcases v3 with q | v | (_ | r) | v
    · cases ee
    · cases ee
    · cases ee
    rotate_left
    · cases ee
    rcases v4 with sp | v | r4 | v
    rotate_left
    · cases ee
    · cases ee
    · cases ee
    rcases v5 with q | v | (_ | r0) | v
    · cases ee
    · cases ee
    · cases ee
    rotate_left
    · cases ee
    obtain ⟨w1, st1, rfl, hr1, hst1⟩ := fx_rl_cons hst
    obtain ⟨w2, st2, rfl, hr2, hst2⟩ := fx_rl_cons hst1
    obtain ⟨w3, st3, rfl, hr3, hst3⟩ := fx_rl_cons hst2
    obtain ⟨w4, st4, rfl, hr4, hst4⟩ := fx_rl_cons hst3
    obtain ⟨w5, st5, rfl, hr5, hst5⟩ := fx_rl_cons hst4
    have hr1 : w1 = .int (Int32.ofNat n) := hr1
    have hr2 : w2 = .int (Int32.ofNat dp) := hr2
    have hr3 : w3 = fx_ad X r := hr3
    have hr4 : w4 = .int (Int32.ofNat sp) := hr4
    have hr5 : w5 = fx_ad X r0 := hr5
    subst hr1; subst hr2; subst hr3; subst hr4; subst hr5
    cases hg0 : fx_hget h r0 with
    | none => simp [fx_k23, hg0] at ee
    | some q0 =>
      rcases q0 with u | u | ⟨ty0, len0, u0⟩
      · simp [fx_k23, hg0] at ee
      · simp [fx_k23, hg0] at ee
      · cases ty0 with
        | succ t => simp [fx_k23, hg0] at ee
        | zero =>
          cases hg : fx_hget h r with
          | none => simp [fx_k23, hg0, hg] at ee
          | some q =>
            rcases q with u | u | ⟨ty, len, u⟩
            · simp [fx_k23, hg0, hg] at ee
            · simp [fx_k23, hg0, hg] at ee
            · cases ty with
              | succ t => simp [fx_k23, hg0, hg] at ee
              | zero =>
                simp only [fx_k23, hg0, hg] at ee
                obtain ⟨e1, e2⟩ := fx_and ee
                obtain ⟨e3, e4⟩ := fx_and e1
                obtain ⟨e5, e6⟩ := fx_and e3
                obtain ⟨e7, e8⟩ := fx_and e4
                obtain ⟨e9, e10⟩ := fx_and e8
                have e5 := fx_blt e5
                have e6 := fx_ble e6
                have e7 := fx_ble e7
                have e9 := fx_ble e9
                obtain ⟨u', e11, hu'⟩ := fx_copy_ok e2
                obtain ⟨h', e12, f1, ⟨c0, f2⟩, f3, f4⟩ := fx_hset_ok e11
                obtain ⟨fa, g1, g2, g3, g4, g5⟩ := fx_arr hrh hg0
                obtain ⟨fb, k1, k2, k3, k4, k5⟩ := fx_arr hrh hg
                rw [g5, k5]
                have hsum := fx_cats_ok hX hst5
                obtain ⟨lv, hlv, hrn⟩ := hl0
                have cn := fx_clamp (n := n) (by omega)
                have cs := fx_clamp (n := sp) (by omega)
                have cd := fx_clamp (n := dp) (by omega)
                have in_ := fx_o_int (n := n) (by omega)
                have is_ := fx_o_int (n := sp) (by omega)
                have id_ := fx_o_int (n := dp) (by omega)
                intro T hT XS
                obtain ⟨-, ks, hks, cm0, hkk0⟩ := (hcx.2.1 0 g3).1 len0 fa
                obtain ⟨vm', X', step⟩ := XS.arraycopy hx hown (hts _ hlink) (hts _ hac.1) (hts _ hac.2.1) (hts _ hac.2.2) (src := X.2.1 + r0) (dst := X.2.1 + r) (cs := arrV (Y.2.1 0) len0 fa) (cd := arrV (Y.2.1 0) len fb) (srcPos := Int32.ofNat sp) (destPos := Int32.ofNat dp) (n := Int32.ofNat n) (by rw [hT]; exact g1) (by rw [hT]; exact k1)
                  (fun _ h => by cases h) (fun _ h => by cases h) (fun h => by cases h) (fun h => by cases h) hks hks hkk0 hkk0 (by simp [refKind, fx_ty]) (nI_pos (by omega)) (nI_pos (by omega)) (nI_pos (by omega))
                  (by rw [in_, is_, arrV_size]; omega) (by rw [in_, id_, arrV_size]; omega)
                  (fun vm₁ _ i hi => by
                    rw [cn] at hi
                    have e : (arrV (Y.2.1 0) len0 fa).slots.getD ((Int32.ofNat sp).toNatClampNeg + i) .null = fa (sp + i) := by
                      rw [cs, Array.getD_eq_getD_getElem?, arrV_read _ _ (by omega)]
                      rfl
                    obtain ⟨z, hz⟩ := fx_rv_int (g4 (sp + i)) (fx_ints_ok e10 i hi)
                    rw [e, hz]
                    exact ⟨rfl, trivial⟩)
                  (g := F0 m pc ls (.int (Int32.ofNat n) :: .int (Int32.ofNat dp) :: .ref (X.2.1 + r) :: .int (Int32.ofNat sp) :: .ref (X.2.1 + r0) :: st5)) rfl (by rw [hml]; exact hlv.1) (rest := st5) rfl (by rw [hb]; exact hd) (by omega) (by
                    have hnw : nativeFrameWords "java/lang/System" "arraycopy" 5 = 7 := by decide
                    rw [hnw]
                    show 2 * 0 + _ + _ ≤ _
                    omega)
                have ec : copied (arrV (Y.2.1 0) len0 fa) (arrV (Y.2.1 0) len fb) (Int32.ofNat sp) (Int32.ofNat dp) (Int32.ofNat n) = arrV (Y.2.1 0) len (va_cpy fa fb sp dp n) := by
                  have := va_copied (fun z : Value => z) (Y.2.1 0) (Y.2.1 0) (n0 := len0) (n1 := len) (sp := sp) (dp := dp) (n := n) fa fb e7
                  show (arrV (Y.2.1 0) len fb).storeRun (Int32.ofNat dp).toNatClampNeg ((arrV (Y.2.1 0) len0 fa).stretch (Int32.ofNat sp).toNatClampNeg (Int32.ofNat n).toNatClampNeg) = _
                  rw [cn, cs, cd]
                  exact this
                rw [ec] at X' step
                have hl : X.2.1 + r < H.size := (Array.getElem?_eq_some_iff.mp k1).1
                have hheap : ((T.setVm vm').setCell (X.2.1 + r) (arrV (Y.2.1 0) len (va_cpy fa fb sp dp n))).heap = H.setIfInBounds (X.2.1 + r) (arrV (Y.2.1 0) len (va_cpy fa fb sp dp n)) := by rw [← hT]; rfl
                have oq : ∀ q : Nat, q ≠ X.2.1 + r → (H.setIfInBounds (X.2.1 + r) (arrV (Y.2.1 0) len (va_cpy fa fb sp dp n)))[q]? = H[q]? := fun q hq => by simp [Array.getElem?_setIfInBounds, Ne.symm hq]
                have K := fx_nxt hgo htl e12 (H := H.setIfInBounds (X.2.1 + r) (arrV (Y.2.1 0) len (va_cpy fa fb sp dp n))) (locs := locs ++ ((arrV (Y.2.1 0) len0 fa).stretch (Int32.ofNat sp).toNatClampNeg (Int32.ofNat n).toNatClampNeg).zipIdx.map fun q => ⟨X.2.1 + r, (Int32.ofNat dp).toNatClampNeg + q.2⟩) (ls := ls) (st := st5)
                  ⟨⟨lv, hlv, hrn⟩, hst5, fx_rh_set hrh f1 f2 f3 f4 (by simp) oq ⟨va_cpy fa fb sp dp n, by simp [Array.getElem?_setIfInBounds, hl], k2, k3, fun i => by
                    rw [hu' i]
                    unfold va_cpy
                    by_cases hi : dp ≤ i ∧ i < dp + n
                    · rw [if_pos hi, if_pos hi]; exact g4 _
                    · rw [if_neg hi, if_neg hi]; exact k4 _⟩, hrj, fun q hq => by
                    rcases List.mem_append.mp hq with h1 | h1
                    · exact hls q h1
                    · obtain ⟨z, -, hz⟩ := List.mem_map.mp h1
                      rw [← hz]
                      exact Nat.le_add_right _ _⟩ hce hsl
                obtain ⟨t, a1, b1⟩ := K _ hheap X'
                exact ⟨t, step t a1, b1⟩
theorem fx_s24 (F : fx_fs X Y B mst mt p s m args meth c cc nL own ini rt cod) (hgo : fx_gok l X Y p e R s m args below meth c Q nL cod mc msl go) (hin : (pc, 24, a, b, d) ∈ cod) (htl : ∀ q ∈ tl, q ∈ cod) (ee : fx_k24 go pc a tl loc stk ce sl h j = true) (hs : fx_st X Y nL loc stk h j H locs ls st) (hce : ce ≤ mc) (hsl : sl ≤ msl) : W p l e R s m args below meth c H locs ce sl Q (F0 m pc ls st) := by
  obtain ⟨hx, hb, hml, hown, hts, -, -, -, hcx, -, hcod⟩ := F
  obtain ⟨hd, ha⟩ := hcod _ _ _ _ _ hin (by decide)
  have ho := ha.2.2.2.2.2.2.2.2.2.2.2.2.1 rfl
  obtain ⟨hl0, hst, hrh, hrj, hls⟩ := hs
  rcases stk with _ | ⟨v1, _ | ⟨v2, stk⟩⟩
  · cases ee
  · rcases v1 with n | v | r | v <;> cases ee
  · rcases v1 with n | v | r | y
    · cases ee
    · cases ee
    · cases ee
    · rcases v2 with n | v | r | x
      · cases ee
      · cases ee
      · cases ee
      · obtain ⟨w1, st1, rfl, hr1, hst1⟩ := fx_rl_cons hst
        obtain ⟨w2, st2, rfl, hr2, hst2⟩ := fx_rl_cons hst1
        have hr1 : w1 = .long (Int64.ofNat y) := hr1
        have hr2 : w2 = .long (Int64.ofNat x) := hr2
        subst hr1; subst hr2
        cases hl : fx_lbin a x y with
        | none => simp [fx_k24, hl] at ee
        | some n =>
          simp only [fx_k24, hl] at ee
          rw [fx_num_eq] at ee
          have K := fx_nxt hgo htl ee (H := H) (locs := locs) (ls := ls) (st := .long (Int64.ofNat n) :: st2) ⟨hl0, ⟨rfl, hst2⟩, hrh, hrj, hls⟩ hce hsl
          rcases (by omega : a = 0 ∨ a = 1 ∨ a = 2 ∨ a = 3) with rfl | rfl | rfl | rfl
          · cases hl
            rw [fl_add] at K
            exact lv_ladd hx hb hd K
          · cases hl
            rw [fl_sub] at K
            exact lv_lsub hx hb hd K
          · cases hl
            rw [fl_mul] at K
            exact lv_lmul hx hb hd K
          · cases hl
theorem fx_s25 (F : fx_fs X Y B mst mt p s m args meth c cc nL own ini rt cod) (hXX : fx_xx X B) (hgo : fx_gok l X Y p e R s m args below meth c Q nL cod mc msl go) (hin : (pc, 25, a, b, d) ∈ cod) (htl : ∀ q ∈ tl, q ∈ cod) (ee : fx_k25 go pc b tl loc stk ce sl h j = true) (hs : fx_st X Y nL loc stk h j H locs ls st) (hce : ce ≤ mc) (hsl : sl ≤ msl) : W p l e R s m args below meth c H locs ce sl Q (F0 m pc ls st) := by
  obtain ⟨hx, hb, hml, hown, hts, -, -, -, hcx, -, hcod⟩ := F
  obtain ⟨hd, ha⟩ := hcod _ _ _ _ _ hin (by decide)
  have ha := ha.2.2.2.2.2.2.2.2.2.2.2.2.2.1 rfl
  obtain ⟨hl0, hst, hrh, hrj, hls⟩ := hs
  obtain ⟨hxo, -, hxs, h8, hL, hb0, hb1, hb2, hbl⟩ := hXX
  rcases stk with _ | ⟨v, stk⟩
  · cases ee
  rcases v with n | v | (_ | r) | v
  · cases ee
  · cases ee
  · cases ee
  · obtain ⟨w, st1, rfl, hrv, hst1⟩ := fx_rl_cons hst
    have hw : w = fx_ad X r := hrv
    subst hw
    simp only [fx_k25] at ee
    obtain ⟨e1, e2⟩ := fx_and ee
    have := fx_beq e1
    subst this
    rw [hb1]
    cases h0 : Nat.beq b 0 with
    | true =>
      have := fx_beq h0
      subst this
      rw [h0, fx_if_t] at e2
      obtain ⟨cf, kf, fi, f, cell, g1, g2, g3, g4, g5, g6⟩ := hcx.2.2.2.2.2.2.2.1
      exact W.getf hx hb hown (hts _ (ha.1 rfl)) g1 g2 (by rw [hrh.2.2 _ (Nat.not_le.mp g6)]; exact g3) g4 g5 rfl rfl hd (fx_nxt hgo htl e2 ⟨hl0, ⟨hb2.symm, hst1⟩, hrh, hrj, hls⟩ hce hsl)
    | false =>
      rw [h0, fx_if_f] at e2
      obtain ⟨e3, e4⟩ := fx_and e2
      have := fx_beq e3
      subst this
      obtain ⟨cf, kf, fi, f, cell, g1, g2, g3, g4, g5, g6⟩ := hcx.2.2.2.2.2.2.2.2.1
      exact W.getf hx hb hown (hts _ (ha.2 rfl)) g1 g2 (by rw [hrh.2.2 _ (Nat.not_le.mp g6)]; exact g3) g4 g5 rfl rfl hd (fx_nxt hgo htl e4 ⟨hl0, ⟨rfl, hst1⟩, hrh, hrj, hls⟩ hce hsl)
  · cases ee
theorem fx_wgs {C n d0 : String} {v : Value} {stt : List Value} (hx : p.tables.exec = Jvm.exec) (hb : c.code = cc) (hrh : fx_rh X Y h H) (hown : s.vm.findClass own = some m.cls) (hZ : va_Z C n d0 v (fun q => X.2.1 ≤ q) s Y.2.2.1) (hlink : (Cond.fieldLink own a C n d0).before args s = true) (hd : decode cc pc = .ok (.getstatic a, 3)) (K : W p l e R s m args below meth c H locs ce sl Q (F0 m (pc + 3) ls (v :: stt))) : W p l e R s m args below meth c H locs ce sl Q (F0 m pc ls stt) := by
  obtain ⟨cf, kf, fi, f, q, cell, h1, h2, h3, h4, h5, h6, h7, h8⟩ := hZ
  exact W.gets hx hb hown hlink h1 h2 h3 h4 (by rw [hrh.2.2 _ (Nat.not_le.mp h8)]; exact h5) (fun e => by rw [e] at h6; cases h6) h7 rfl hd K
theorem fx_s26 (F : fx_fs X Y B mst mt p s m args meth c cc nL own ini rt cod) (hgo : fx_gok l X Y p e R s m args below meth c Q nL cod mc msl go) (hin : (pc, 26, a, b, d) ∈ cod) (htl : ∀ q ∈ tl, q ∈ cod) (ee : fx_k26 go pc b tl loc stk ce sl h j = true) (hs : fx_st X Y nL loc stk h j H locs ls st) (hce : ce ≤ mc) (hsl : sl ≤ msl) : W p l e R s m args below meth c H locs ce sl Q (F0 m pc ls st) := by
  obtain ⟨hx, hb, hml, hown, hts, -, -, -, hcx, -, hcod⟩ := F
  obtain ⟨hd, ha⟩ := hcod _ _ _ _ _ hin (by decide)
  have ha := ha.2.2.2.2.2.2.2.2.2.2.2.2.2.2.1 rfl
  obtain ⟨hl0, hst, hrh, hrj, hls⟩ := hs
  unfold fx_k26 at ee
  cases h0 : Nat.beq b 0 with
  | true =>
    have := fx_beq h0
    subst this
    rw [h0, fx_if_t] at ee
    exact fx_wgs hx hb hrh hown hcx.2.2.2.2.1 (hts _ (ha.1 rfl)) hd (fx_nxt hgo htl ee ⟨hl0, ⟨rfl, hst⟩, hrh, hrj, hls⟩ hce hsl)
  | false =>
    rw [h0, fx_if_f] at ee
    obtain ⟨e3, e4⟩ := fx_and ee
    have := fx_beq e3
    subst this
    exact fx_wgs hx hb hrh hown hcx.2.2.2.2.2.1 (hts _ (ha.2 rfl)) hd (fx_nxt hgo htl e4 ⟨hl0, ⟨rfl, hst⟩, hrh, hrj, hls⟩ hce hsl)
theorem fx_s27 (F : fx_fs X Y B mst mt p s m args meth c cc nL own ini rt cod) (hXX : fx_xx X B) (hgo : fx_gok l X Y p e R s m args below meth c Q nL cod mc msl go) (hin : (pc, 27, a, b, d) ∈ cod) (htl : ∀ q ∈ tl, q ∈ cod) (ee : (Nat.beq a 39 && fx_nx (fun t => go t loc (fr 1000001 :: stk) ce sl h j) pc 2 tl) = true) (hs : fx_st X Y nL loc stk h j H locs ls st) (hce : ce ≤ mc) (hsl : sl ≤ msl) : W p l e R s m args below meth c H locs ce sl Q (F0 m pc ls st) := by
  obtain ⟨hx, hb, hml, hown, hts, -, -, -, hcx, -, hcod⟩ := F
  obtain ⟨hd, ha⟩ := hcod _ _ _ _ _ hin (by decide)
  obtain ⟨ho, -⟩ := ha.2.2.2.2.2.2.2.2.2.2.2.2.2.2.2.1 rfl
  obtain ⟨e0, ee⟩ := fx_and ee
  have e0 := fx_beq e0
  subst e0
  subst ho
  obtain ⟨hl0, hst, hrh, hrj, hls⟩ := hs
  obtain ⟨hxo, -, hxs, h8, hL, hb0, hb1, hb2, hbl⟩ := hXX
  exact va_ldcS hx hb hown hcx.2.2.2.1.1 hd (fx_nxt hgo htl ee ⟨hl0, ⟨hb1.symm, hst⟩, hrh, hrj, hls⟩ hce hsl)
theorem fx_s29 (F : fx_fs X Y B mst mt p s m args meth c cc nL own ini rt cod) (hX : fx_xo X) (hma : (Cond.static Lib.Math.max.name ∈ fx_tb ∧ Cond.code Lib.Math.max.name Lib.Math.max.code 2 (some .int) ∈ fx_tb) ∧ (Cond.static Lib.Math.min.name ∈ fx_tb ∧ Cond.code Lib.Math.min.name Lib.Math.min.code 2 (some .int) ∈ fx_tb) ∧ Cond.initialized "java/lang/Math" ∈ fx_tb) (hR : dd ≤ R.frames ∧ 60 * dd ≤ R.locals ∧ mc ≤ R.cells ∧ msl ≤ R.slots) (hgo : fx_gok l X Y p e R s m args below meth c Q nL cod mc msl go) (hin : (pc, 29, a, b, d) ∈ cod) (htl : ∀ q ∈ tl, q ∈ cod) (ee : fx_k29 go dd pc b tl loc stk ce sl h j = true) (hs : fx_st X Y nL loc stk h j H locs ls st) (hce : ce ≤ mc) (hsl : sl ≤ msl) : W p l e R s m args below meth c H locs ce sl Q (F0 m pc ls st) := by
  obtain ⟨hx, hb, hml, hown, hts, -, -, -, hcx, -, hcod⟩ := F
  obtain ⟨hd, ha⟩ := hcod _ _ _ _ _ hin (by decide)
  have ha := ha.2.2.2.2.2.2.2.2.2.2.2.2.2.2.2.2.2.2 rfl
  obtain ⟨hl0, hst, hrh, hrj, hls⟩ := hs
  rcases stk with _ | ⟨y, _ | ⟨x, stk⟩⟩
  · cases ee
  · cases ee
  obtain ⟨wy, st1, rfl, hry, hst1⟩ := fx_rl_cons hst
  obtain ⟨wx, st2, rfl, hrx, hst2⟩ := fx_rl_cons hst1
  simp only [fx_k29] at ee
  obtain ⟨y', e1, hry', -⟩ := fx_nz_ok hrj hry ee
  obtain ⟨x', e2, hrx', -⟩ := fx_nz_ok hrj hrx e1
  rcases y' with v | v | v | v
  · rcases x' with u | u | u | u
    · have hry' : wy = .int (Int32.ofNat v) := hry'
      have hrx' : wx = .int (Int32.ofNat u) := hrx'
      subst hry'; subst hrx'
      simp only at e2
      obtain ⟨e3, e4⟩ := fx_and e2
      obtain ⟨e5, e6⟩ := fx_and e3
      have e5 := fx_blt e5
      have e6 := fx_ble e6
      have hsum := fx_cats_ok hX hst2
      obtain ⟨lv, hlv, hrn⟩ := hl0
      have K : ∀ n, fx_nx (fun t => go t loc (fc n :: stk) ce sl h j) pc 3 tl = true → W p l e R s m args below meth c H locs ce sl Q (F0 m (pc + 3) ls (.int (Int32.ofNat n) :: st2)) := fun n q => fx_nxt hgo htl q ⟨⟨lv, hlv, hrn⟩, ⟨rfl, hst2⟩, hrh, hrj, hls⟩ hce hsl
      have hlt : ∀ n k : Nat, Nat.blt (fx_b n) (fx_b k) = decide (Int32.ofNat n < Int32.ofNat k) := fun n k => by
        rw [Bool.eq_iff_iff, decide_eq_true_iff, fx_z_lt, fx_z_of, fx_z_of]
        exact ⟨fx_blt, fun q => Nat.ble_eq_true_of_le q⟩
      cases h0 : Nat.beq b 0 with
      | true =>
        have := fx_beq h0
        subst this
        rw [h0, fx_if_t] at e4
        refine va_mmax hx hb (by rw [hml]; exact hlv.1.symm) hown (hts _ (ha.1 rfl)) (hts _ hma.1.1) (hts _ hma.2.2) (hts _ hma.1.2) (by omega) (by omega) (by omega) (by omega) hd ?_
        by_cases hq : Int32.ofNat u < Int32.ofNat v
        · rw [hlt, decide_eq_true hq, fx_if_t] at e4
          rw [if_pos hq]
          exact K v e4
        · rw [hlt, decide_eq_false hq, fx_if_f] at e4
          rw [if_neg hq]
          exact K u e4
      | false =>
        rw [h0, fx_if_f] at e4
        obtain ⟨e7, e8⟩ := fx_and e4
        have := fx_beq e7
        subst this
        refine va_mmin hx hb (by rw [hml]; exact hlv.1.symm) hown (hts _ (ha.2.1 rfl)) (hts _ hma.2.1.1) (hts _ hma.2.2) (hts _ hma.2.1.2) (by omega) (by omega) (by omega) (by omega) hd ?_
        by_cases hq : Int32.ofNat v < Int32.ofNat u
        · rw [hlt, decide_eq_true hq, fx_if_t] at e8
          rw [if_pos hq]
          exact K v e8
        · rw [hlt, decide_eq_false hq, fx_if_f] at e8
          rw [if_neg hq]
          exact K u e8
    · cases e2
    · cases e2
    · cases e2
  · cases e2
  · cases e2
  · cases e2
end FXF
