abbrev fx_ws (S : fx_S) : List Cond := Cond.code S.1 S.2.1 S.2.2.1 S.2.2.2 :: fx_tb
theorem fx_goodin {S : fx_S} (hc : Cond.code S.1 S.2.1 S.2.2.1 S.2.2.2 ∈ fx_tb) : GoodIn fx_tb (fx_ws S) := fun w hw => by
  have hm : w ∈ fx_tb := by
    rcases List.mem_cons.mp hw with rfl | h1
    · exact hc
    · exact h1
  exact ⟨hm, good_of_word (List.mem_filter.mp hm).2⟩
def fx_rmx (d mc ms : Nat) : Room := { frames := d, cells := mc, slots := ms, locals := 60 * d }
def fx_mok (ms : Nat → Option fx_S) (mt : Nat → Option fx_M) (S : fx_S) (M : fx_M) : Prop := plainName S.1.cls = true ∧ Cond.code S.1 S.2.1 S.2.2.1 S.2.2.2 ∈ fx_tb ∧ Cond.initialized S.1.cls ∈ fx_tb ∧ (S.1.cls ≠ "java/lang/invoke/MethodHandle" ∧ S.1.cls ≠ "java/lang/invoke/VarHandle") ∧ S.2.2.1 ≤ 41 ∧ M.2.2.2.2.2 = S.2.2.1 ∧ (parseMethodDescriptor S.1.desc).map (fun d => d.parameters.length) = some (if M.2.2.2.2.1 = 0 then M.2.1 else M.2.1 - 1) ∧ fx_pc M.1 = 0 ∧
  ∀ pc kd a b d, (pc, kd, a, b, d) ∈ M.1 → kd ≠ 28 ∧ decode S.2.1 pc = .ok (fx_ins pc kd a b d) ∧ fx_an ms mt S.1.cls (S.1.name == "<init>") S.2.2.2 S.2.2.1 kd a b d
def fx_mall (ms : Nat → Option fx_S) (mt : Nat → Option fx_M) : Prop := ∀ c M, mt c = some M → ∃ S, ms c = some S ∧ fx_mok ms mt S M
def fx_Pc (X : fx_X) (Y : fx_Y) (B : fx_B) (as : List Value) (H : Heap) : Array Value → State → Prop := fun v U => v = as.toArray ∧ U.heap = H ∧ fx_cx X Y B U
def fx_Qc (KQ : Option Value → Heap → Prop) : Array Value → State → Outcome → State → Prop := fun _ _ o t => ∃ w, o = .returned w ∧ KQ w t.heap
def fx_met (l : Launch) (X : fx_X) (Y : fx_Y) (B : fx_B) (S : fx_S) (d mc ms : Nat) (as : List Value) (H : Heap) (KQ : Option Value → Heap → Prop) : Prop := Met l S.1 (fx_ws S) (fx_rmx d mc ms) (fx_Pc X Y B as H) (fx_Qc KQ) mc ms (fun q => X.2.1 ≤ q)
def fx_cu (l : Launch) (X : fx_X) (Y : fx_Y) (E : fx_E) (p : Program) (e : Env) (R : Room) (s : State) (m : MethodId) (args : Array Value) (below : List Frame) (meth : Method) (c : Code) (Q : State → Prop) (nL : Nat) (cod : List fx_I) (mc ms : Nat) : Prop :=
  ∀ q ∈ cod, q.2.1 = 28 → ∀ loc h j H locs ls ce sl, E.2.2.2.2 loc h j = true → fx_st X Y nL loc [] h j H locs ls [] → ce ≤ mc → sl ≤ ms → W p l e R s m args below meth c H locs ce sl Q (F0 m q.1 ls [])
def fx_snd (l : Launch) (X : fx_X) (Y : fx_Y) (B : fx_B) (mst : Nat → Option fx_S) (E : fx_E) (f : fx_G) : Prop :=
  (∀ d cod loc stk ce sl mc ms h j k, f d cod [] loc stk ce sl mc ms h j k = false) ∧
  ∀ d cod at_ loc stk ce sl mc ms h j k, f d cod at_ loc stk ce sl mc ms h j k = true → ∀ (p : Program) (e : Env) (R : Room) (s : State) (m : MethodId) (args : Array Value) (below : List Frame) (meth : Method) (c : Code) (Q : State → Prop) (cc : ByteArray) (nL : Nat) (own : String) (ini : Bool) (rt : Option FieldType),
    fx_fs X Y B mst E.1 p s m args meth c cc nL own ini rt cod → fx_rm R d mc ms → (∀ q ∈ at_, q ∈ cod) → fx_rt l X Y p e R s m args below meth c Q cc rt mc ms k → fx_cu l X Y E p e R s m args below meth c Q nL cod mc ms →
    ∀ H locs ls st, fx_st X Y nL loc stk h j H locs ls st → ce ≤ mc → sl ≤ ms → W p l e R s m args below meth c H locs ce sl Q (F0 m (fx_pc at_) ls st)
theorem fx_args_ok {X : fx_X} (hX : fx_xo X) : ∀ {as : List fx_V} {av : List Value} (i : Nat), fx_rl X as av → fx_rn X (fx_args as i) (lv_args i av) := by
  intro as
  induction as with
  | nil => intro av i h; rw [fx_rl_nil h]; trivial
  | cons v as ih =>
    intro av i h
    obtain ⟨w, av, rfl, h1, h2⟩ := fx_rl_cons h
    refine ⟨⟨rfl, h1⟩, ?_⟩
    have hc := fx_cat_of hX h1
    have e : (if w.category = 2 then i + 2 else i + 1) = i + fx_cat v := by
      rcases lv_cat w with q | q
      · rw [if_neg (by omega)]; omega
      · rw [if_pos q]; omega
    show fx_rn X (fx_args as (i + fx_cat v)) (lv_args (if w.category = 2 then i + 2 else i + 1) av)
    rw [e]
    exact ih _ h2
theorem fx_sl_len {X : fx_X} (hX : fx_xo X) : ∀ {as : List fx_V} {av : List Value}, fx_rl X as av → (lg_sl av).length = fx_cats as := by
  intro as
  induction as with
  | nil => intro av h; rw [fx_rl_nil h]; rfl
  | cons v as ih =>
    intro av h
    obtain ⟨w, av, rfl, h1, h2⟩ := fx_rl_cons h
    have hc := fx_cat_of hX h1
    have e : lg_sl (w :: av) = (if w.category = 2 then [.val w, .second] else [.val w]) ++ lg_sl av := rfl
    rw [e, List.length_append, ih h2]
    show _ = fx_cat v + fx_cats as
    rcases lv_cat w with q | q
    · rw [if_neg (by omega)]
      show 1 + _ = _
      omega
    · rw [if_pos q]
      show 2 + _ = _
      omega
theorem fx_blind {X : fx_X} {Y : fx_Y} {B : fx_B} {as : List Value} {H : Heap} : FrameBlind (fx_Pc X Y B as H) := fun a U g mk h => ⟨h.1, h.2.1, fx_cx.moved (U := U.calling g mk a) (State.WarmedH.refl U) h.2.2⟩
/-- a method's contract, by the executor -/
theorem fx_met_of {l : Launch} {X : fx_X} {Y : fx_Y} {B : fx_B} {mst : Nat → Option fx_S} {E : fx_E} {f : fx_G} (hf : fx_snd l X Y B mst E f) (hX : fx_xo X) {S : fx_S} {M : fx_M} (hM : fx_mok mst E.1 S M) {d mc ms : Nat} {as : List fx_V} {av : List Value} {h : fx_H} {j : fx_J} {k : fx_K} {H : Heap} (ee : f d M.1 M.1 (fx_args as 0) [] 0 0 mc ms h j k = true) (hra : fx_rl X as av) (hrh : fx_rh X Y h H) (hrj : fx_rj X j) (hcat : fx_cats as ≤ M.2.2.2.2.2) {KQ : Option Value → Heap → Prop} (hK : ∀ v w h' j' H', k v h' j' = true → fx_ro X v w → fx_rh X Y h' H' → fx_rj X j' → KQ w H') : fx_met l X Y B S d mc ms av H KQ := by
  obtain ⟨hpl, hcode, hini, hne, h41, hnl, hdesc, hpc, hall⟩ := hM
  refine Met.ofW (cc := S.2.1) (maxL := S.2.2.1) (ret := S.2.2.2) hpl rfl ?_
  intro p e s m args below meth c s₁ BB hml hv
  obtain ⟨rfl, hH, hcx⟩ := hv
  have hts0 := atoms_spec (ws := fx_ws S) BB.pre
  have hown : s.vm.findClass S.1.cls = some m.cls := findClass_of_methodNamed BB.named
  have hnm : meth.name = S.1.name := (name_of_methodNamed BB.named BB.method).1
  have hl := lv_entry av (n := S.2.2.1) (by rw [fx_sl_len hX hra, ← hnl]; exact hcat)
  rw [lg_entry_eq]
  generalize (lg_sl av ++ List.replicate (S.2.2.1 - (lg_sl av).length) Slot.unset).toArray = ls at hl ⊢
  have F : fx_fs X Y B mst E.1 p s m av.toArray meth c S.2.1 S.2.2.1 S.1.cls (S.1.name == "<init>") S.2.2.2 M.1 := ⟨BB.exec, BB.bytes, hml, hown, fun w hw => hts0 w (List.mem_cons_of_mem _ hw), BB.notSynchronized, fun q => by rw [hnm]; simpa using q, BB.returns, hcx, by rw [hH, hrh.1]; omega, fun pc kd a b d hin _ => (hall pc kd a b d hin).2⟩
  have K := hf.2 d M.1 M.1 (fx_args as 0) [] 0 0 mc ms h j k ee p e (fx_rmx d mc ms) s m av.toArray below meth c (MQ below (fx_Qc KQ) av.toArray s mc ms (fun q => X.2.1 ≤ q)) S.2.1 S.2.2.1 S.1.cls (S.1.name == "<init>") S.2.2.2 F ⟨Nat.le_refl _, Nat.le_refl _, Nat.le_refl _, Nat.le_refl _⟩ (fun _ hq => hq) ?_ ?_ s.heap [] ls [] ⟨⟨_, hl, fx_args_ok hX 0 hra⟩, trivial, by rw [hH]; exact hrh, hrj, fun q hq => by cases hq⟩ (Nat.zero_le _) (Nat.zero_le _)
  · rw [hpc] at K
    exact K
  · intro v w h' j' H' locs ce sl pc ls' hk hro hrh' hrj' hls hce hsl hrets
    have hb := BB.bytes
    have hx := BB.exec
    have hr := BB.returns
    have hlocks := BB.notSynchronized
    have hkq := hK v w h' j' H' hk hro hrh' hrj'
    refine W.widen (k := mc) (n := ms) hce hsl ?_
    rcases hrets with ⟨rfl, hrt, hd⟩ | ⟨z, ty, rfl, hrt, hn, hd⟩ | ⟨z, rfl, hrt, hd⟩
    · rw [hrt] at hr
      exact W.vret hx hb hr (fun t ht hW => ⟨none, rfl, by rw [ht]; exact hkq⟩) hls hd
    · rw [hrt] at hr
      exact W.zret hx hb hr hn (fun t ht hW => ⟨some (.int z), rfl, by rw [ht]; exact hkq⟩) hls hd
    · rw [hrt] at hr
      exact W.lret hx hb hr (fun t ht hW => ⟨some (.long z), rfl, by rw [ht]; exact hkq⟩) hls hd
  · intro q hq h28
    obtain ⟨pc, kd, a, b, d'⟩ := q
    exact absurd h28 (hall pc kd a b d' hq).1
/-- what a summary must be -/
def fx_sum (l : Launch) (X : fx_X) (Y : fx_Y) (B : fx_B) (mst : Nat → Option fx_S) (E : fx_E) : Prop := ∀ c S M as h v h', mst c = some S → E.1 c = some M → E.2.2.2.1 c as h = some (v, h') → ∀ av H, fx_rl X as av → fx_rh X Y h H → ∀ KQ : Option Value → Heap → Prop, (∀ w H', fx_ro X v w → fx_rh X Y h' H' → KQ w H') → fx_met l X Y B S 10 M.2.2.1 M.2.2.2.1 av H KQ
theorem fx_wcall {l : Launch} {X : fx_X} {p : Program} {e : Env} {R : Room} {s : State} {m : MethodId} {args : Array Value} {below : List Frame} {meth : Method} {c : Code} {Q : State → Prop} {H : Heap} {locs : List Loc} {ls : Array Slot} {ce sl mc ms pc : Nat} {st rest : List Value} {a0 : Array Value} {KQ : Option Value → Heap → Prop} (hls : fx_ls X locs) (hr : va_Run p l e R s m args below meth c H locs ce sl mc ms (F0 m pc ls st) rest (fx_Qc KQ a0) (fun q => X.2.1 ≤ q)) (hK : ∀ w H', KQ w H' → ∀ locs1, fx_ls X locs1 → W p l e R s m args below meth c H' locs1 (ce + mc) (sl + ms) Q (F0 m (pc + 3) ls (w.toList ++ rest))) : W p l e R s m args below meth c H locs ce sl Q (F0 m pc ls st) := by
  intro T hT XS
  obtain ⟨v, st₀, t, T', L, h0, X', hL, e1, e2, ⟨w, hw, hkq⟩, go⟩ := hr T hT XS
  cases hw
  obtain ⟨t2, a1, b1⟩ := hK v t.heap hkq (locs ++ L) (fun q hq => by
    rcases List.mem_append.mp hq with h1 | h1
    · exact hls q h1
    · exact hL q h1) T' e1 X'
  exact ⟨t2, go t2 a1, b1⟩
theorem fx_s9 {l : Launch} {X : fx_X} {Y : fx_Y} {B : fx_B} {mst : Nat → Option fx_S} {E : fx_E} {ih : fx_G} {p : Program} {e : Env} {R : Room} {s : State} {m : MethodId} {args : Array Value} {below : List Frame} {meth : Method} {c : Code} {Q : State → Prop} {cc : ByteArray} {nL : Nat} {own : String} {ini : Bool} {rt : Option FieldType} {cod : List fx_I} {mc msl : Nat} {go : fx_O} {pc a b d ce sl dd : Nat} {tl : List fx_I} {loc : fx_L} {stk : List fx_V} {h : fx_H} {j : fx_J} {H : Heap} {locs : List Loc} {ls : Array Slot} {st : List Value}
    (hf : fx_snd l X Y B mst E ih) (hXX : fx_xx X B) (hma : fx_mall mst E.1) (hsum : fx_sum l X Y B mst E) (F : fx_fs X Y B mst E.1 p s m args meth c cc nL own ini rt cod) (hR : fx_rm R dd mc msl) (hgo : fx_gok l X Y p e R s m args below meth c Q nL cod mc msl go) (hin : (pc, 9, a, b, d) ∈ cod) (htl : ∀ q ∈ tl, q ∈ cod) (ee : (Nat.blt a 5 && fx_call E ih dd (fun stk ce sl h j => fx_nx (fun t => go t loc stk ce sl h j) pc 3 tl) d stk ce sl mc msl h j) = true) (hs : fx_st X Y nL loc stk h j H locs ls st) : W p l e R s m args below meth c H locs ce sl Q (F0 m pc ls st) := by
  have hX := hXX.1
  obtain ⟨hx, hb, hml, hown, hts, -, -, -, hcx, hbs, hcod⟩ := F
  obtain ⟨hd, ha⟩ := hcod _ _ _ _ _ hin (by decide)
  obtain ⟨y, cc', nL', rt', M, hms, hmt, c0, c1, c2, c3, c4⟩ := ha.2.2.2.1 rfl
  obtain ⟨hl0, hst, hrh, hrj, hls⟩ := hs
  obtain ⟨e0, ee⟩ := fx_and ee
  have ha5 := fx_blt e0
  unfold fx_call at ee
  cases dd with
  | zero => cases ee
  | succ dd =>
    simp only [hmt] at ee
    obtain ⟨S, hS, hM⟩ := hma d M hmt
    cases hms.symm.trans hS
    obtain ⟨cod', na, mc', ms', t', nl'⟩ := M
    simp only at ee
    cases hsp : fx_split na stk with
    | none => rw [hsp] at ee; cases ee
    | some q =>
      obtain ⟨as, stk'⟩ := q
      rw [hsp] at ee
      simp only at ee
      obtain ⟨e1, e2⟩ := fx_and ee
      obtain ⟨e3, e4⟩ := fx_and e1
      obtain ⟨e5, e6⟩ := fx_and e4
      obtain ⟨e7, e8⟩ := fx_and e6
      obtain ⟨e9, e10⟩ := fx_and e8
      have e3 := fx_ble e3
      have e5 := fx_ble e5
      have e7 := fx_ble e7
      have e9 := fx_ble e9
      obtain ⟨bs, b1, b2, b3⟩ := fx_split_ok na [] stk as stk' hsp
      rw [List.append_nil] at b2
      subst b2
      subst b3
      obtain ⟨w1, w2, rfl, hw1, hw2⟩ := fx_rl_app hst
      have hra : fx_rl X as w1.reverse := by
        have := fx_rl_rev hw1
        rwa [List.reverse_reverse] at this
      generalize hav : w1.reverse = av at hra
      have hw1e : w1 = av.reverse := by rw [← hav, List.reverse_reverse]
      subst hw1e
      have hlen := fx_rl_len hra
      have hrest := fx_cats_ok hX hw2
      have hw8 : 2 * (F0 m pc ls (av.reverse ++ w2)).monitorRoom + (w2.map fun v => v.category).sum ≤ 8 := lv_room (by omega)
      obtain ⟨lv, hlv, hrn⟩ := hl0
      have h41 := hM.2.2.2.2.1
      have hdesc := hM.2.2.2.2.2.2.1
      -- what goes on behind it
      have hCont : ∀ (v : Option fx_V) (w : Option Value) (h' : fx_H) (j' : fx_J) (H' : Heap), fx_nx (fun t => go t loc (fx_ret stk' v) (ce + mc') (sl + ms') h' j') pc 3 tl = true → fx_ro X v w → fx_rh X Y h' H' → fx_rj X j' → ∀ locs1, fx_ls X locs1 → W p l e R s m args below meth c H' locs1 (ce + mc') (sl + ms') Q (F0 m (pc + 3) ls (w.toList ++ w2)) := by
        intro v w h' j' H' ek hro hrh' hrj' locs1 hls1
        refine fx_nxt hgo htl ek ⟨⟨lv, hlv, hrn⟩, ?_, hrh', hrj', hls1⟩ e5 e7
        cases v with
        | none =>
          cases w with
          | none => exact hw2
          | some w => exact False.elim hro
        | some v =>
          cases w with
          | none => exact False.elim hro
          | some w => exact ⟨hro, hw2⟩
      -- the contract
      obtain ⟨dm, KQ, hdm, hmet, hKQ⟩ : ∃ (dm : Nat) (KQ : Option Value → Heap → Prop), dm ≤ dd ∧ fx_met l X Y B (y, cc', nL', rt') dm mc' ms' av H KQ ∧ ∀ w H', KQ w H' → ∀ locs1, fx_ls X locs1 → W p l e R s m args below meth c H' locs1 (ce + mc') (sl + ms') Q (F0 m (pc + 3) ls (w.toList ++ w2)) := by
        cases hsm : fx_if (Nat.ble 10 dd) (E.2.2.2.1 d as h) none with
        | some q =>
          obtain ⟨v, h'⟩ := q
          rw [hsm] at e2
          simp only at e2
          rw [fx_num_eq, fx_num_eq] at e2
          cases h10 : Nat.ble 10 dd with
          | false => rw [h10, fx_if_f] at hsm; cases hsm
          | true =>
            rw [h10, fx_if_t] at hsm
            refine ⟨10, fun w H' => ∀ locs1, fx_ls X locs1 → W p l e R s m args below meth c H' locs1 (ce + mc') (sl + ms') Q (F0 m (pc + 3) ls (w.toList ++ w2)), fx_ble h10, hsum d _ _ as h v h' hms hmt hsm av H hra hrh _ (fun w H' hro hrh' => ?_), fun _ _ q => q⟩
            exact hCont v w h' j H' e2 hro hrh' hrj
        | none =>
          rw [hsm] at e2
          simp only at e2
          refine ⟨dd, fun w H' => ∀ locs1, fx_ls X locs1 → W p l e R s m args below meth c H' locs1 (ce + mc') (sl + ms') Q (F0 m (pc + 3) ls (w.toList ++ w2)), Nat.le_refl _, ?_, fun _ _ q => q⟩
          refine fx_met_of hf hX hM e2 hra hrh hrj e9 (fun v w h' j' H' hk hro hrh' hrj' => ?_)
          rw [fx_num_eq, fx_num_eq] at hk
          exact hCont v w h' j' H' hk hro hrh' hrj'
      obtain ⟨r1, r2, r3, r4⟩ := hR
      have hroom : (fx_rmx dm mc' ms').frames + 1 ≤ R.frames ∧ 8 + (nL' + 11) + (fx_rmx dm mc' ms').locals ≤ R.locals := by
        refine ⟨?_, ?_⟩
        · show dm + 1 ≤ R.frames
          omega
        · show 8 + (nL' + 11) + 60 * dm ≤ R.locals
          have : nL' ≤ 41 := h41
          omega
      have hGood := fx_goodin hM.2.1
      have hfit : ce + mc' ≤ R.cells ∧ sl + ms' ≤ R.slots := ⟨by omega, by omega⟩
      have hPS : ∀ U : State, U.heap = H → s.WarmedH U.vm → fx_Pc X Y B av H av.toArray U := fun U hU hW => ⟨rfl, hU, hcx.moved hW⟩
      have CF : CallFix p m c cc nL s args fx_tb own := ⟨hx, hb, hml, hown, hts⟩
      have hini : (Cond.initialized y.cls).before args s = true := hts _ hM.2.2.1
      have hne := hM.2.2.2.1
      have hdg : decode cc pc = .ok (fx_cop a b, 3) := hd
      rcases (by omega : a = 0 ∨ a = 1 ∨ a = 2 ∨ a = 3 ∨ a = 4) with rfl | rfl | rfl | rfl | rfl
      · obtain ⟨q1, q2, q3, q4⟩ := c0 rfl
        -- the first value
        have hrc : ∃ (r : Nat) (as' : List fx_V) (bA : Nat), as = fr r :: as' ∧ fx_ad X r = .ref bA ∧ ∃ cell : Cell, H[bA]? = some cell ∧ cell.vm.isStatics = false ∧ s.vm.findClass y.cls = some cell.cls := by
          have e10 : fx_rcv t' h as = true := e10
          have htn : t' ≠ 0 ∧ t' ≠ 1 := by
            rcases q4 with ⟨ci, T, N, g1, -, -⟩ | ⟨g1, -⟩
            · have g1 : t' = ci + 2 := g1
              omega
            · have g1 : t' = 99 := g1
              omega
          unfold fx_rcv at e10
          have h0 : Nat.beq t' 0 = false := by
            cases hb0 : Nat.beq t' 0 with
            | true => exact absurd (fx_beq hb0) htn.1
            | false => rfl
          have h1 : Nat.beq t' 1 = false := by
            cases hb0 : Nat.beq t' 1 with
            | true => exact absurd (fx_beq hb0) htn.2
            | false => rfl
          rw [h0, fx_if_f] at e10
          rcases as with _ | ⟨v, as'⟩
          · cases e10
          rcases v with n | n | (_ | r) | n
          · cases e10
          · cases e10
          · cases e10
          · simp only at e10
            rw [h1, fx_if_f] at e10
            rcases q4 with ⟨ci, T, N, g1, g2, g3⟩ | ⟨g1, g2⟩
            · have g1 : t' = ci + 2 := g1
              have g2 : t' ≠ 99 := g2
              have h99 : Nat.beq t' 99 = false := by
                cases hb0 : Nat.beq t' 99 with
                | true => exact absurd (fx_beq hb0) g2
                | false => rfl
              rw [h99, fx_if_f] at e10
              cases hg : fx_hget h r with
              | none => rw [hg] at e10; cases e10
              | some q =>
                rw [hg] at e10
                rcases q with u | ⟨ci', fs⟩ | u
                · cases e10
                · simp only at e10
                  have := fx_beq e10
                  have : ci' = ci := by omega
                  subst this
                  obtain ⟨C, T2, N2, vs, k1, k2, k3, k4, k5, k6⟩ := fx_obj hrh hg
                  have e8 : (C, T2, N2) = (y.cls, T, N) := Option.some.inj (k1.symm.trans g3)
                  cases e8
                  exact ⟨r, as', X.2.1 + r, rfl, k4, va_recv (fx_vaK hcx) k5 (ci := ci') (q0 := 0) k1 rfl⟩
                · cases e10
            · have g1 : t' = 99 := g1
              rw [show Nat.beq t' 99 = true by rw [g1]; rfl, fx_if_t] at e10
              rcases fx_or e10 with e10 | e10
              · have := fx_beq e10
                subst this
                obtain ⟨-, -, -, -, -, -, hb1, -, -⟩ := hXX
                obtain ⟨cell, k1, k2, k3, k4⟩ := hcx.2.2.2.2.2.2.1
                have hlt : B.2.2.2.1 < X.2.1 := Nat.not_le.mp k4
                exact ⟨1000001, as', B.2.2.2.1, rfl, hb1, cell, by rw [hrh.2.2 _ hlt]; exact k1, k2, by rw [g2]; exact k3⟩
              · have := fx_beq e10
                subst this
                obtain ⟨a2, b2, hb1, -, -, ⟨cell, k1, k2, k3, k4⟩, -⟩ := hcx.2.2.2.1.2
                have hlt : a2 < X.2.1 := Nat.not_le.mp k4
                exact ⟨1000004, as', a2, rfl, hb1, cell, by rw [hrh.2.2 _ hlt]; exact k1, k2, by rw [g2]; exact k3⟩
          · cases e10
        obtain ⟨r, as', bA, rfl, hbA, hcell⟩ := hrc
        obtain ⟨x0, As, rfl, hx0, hAs⟩ := fx_rl_cons hra
        have hx0 : x0 = fx_ad X r := hx0
        rw [hbA] at hx0
        subst hx0
        have hn : As.length = na - 1 := by
          simp only [List.length_cons] at hlen b1
          omega
        have htn : t' ≠ 0 := by
          rcases q4 with ⟨ci, T, N, g1, -, -⟩ | ⟨g1, -⟩
          · have g1 : t' = ci + 2 := g1
            omega
          · have g1 : t' = 99 := g1
            omega
        have hdesc : (parseMethodDescriptor y.desc).map (fun d => d.parameters.length) = some (na - 1) := by
          have := hdesc
          rw [if_neg htn] at this
          exact this
        have hrun := va_runV (e := e) (below := below) (meth := meth) (locs := locs) (cells := ce) (slots := sl) CF hmet ⟨callB_of (na - 1) hts hGood rfl rfl rfl hini (hts _ q1) ⟨hne.1, hne.2, hdesc⟩ hroom, hts _ q2, hts _ q3⟩ (b := bA) (As := As) ⟨fx_blind, hcell, hPS⟩ (g := F0 m pc ls ((Value.ref bA :: As).reverse ++ w2)) rfl hn hlv.1 (rest := w2) (by rw [List.reverse_cons, List.append_assoc]; rfl) hw8 hdg hfit
        exact fx_wcall hls hrun hKQ
      · obtain ⟨q1, q2, q3, q4, q5⟩ := c1 rfl
        have q4 : rt' = none := q4
        subst q4
        have q5 : t' = 1 := q5
        subst q5
        have hdesc : (parseMethodDescriptor y.desc).map (fun d => d.parameters.length) = some (na - 1) := hdesc
        have hrc : ∃ (r : Nat) (as' : List fx_V), as = fr r :: as' ∧ fx_ad X r = .ref (X.2.1 + r) := by
          have e10 : fx_rcv 1 h as = true := e10
          rcases as with _ | ⟨v, as'⟩
          · cases e10
          rcases v with n | n | (_ | r) | n
          · cases e10
          · cases e10
          · cases e10
          · cases hg : fx_hget h r with
            | none => simp [fx_rcv, hg, fx_if] at e10
            | some q =>
              obtain ⟨-, k2, -⟩ := hrh.2.1 r q hg
              exact ⟨r, as', rfl, fx_ad_lt k2⟩
          · cases e10
        obtain ⟨r, as', rfl, hbA⟩ := hrc
        obtain ⟨x0, As, rfl, hx0, hAs⟩ := fx_rl_cons hra
        have hx0 : x0 = fx_ad X r := hx0
        rw [hbA] at hx0
        subst hx0
        have hn : As.length = na - 1 := by
          simp only [List.length_cons] at hlen b1
          omega
        have hrun := va_runI (e := e) (below := below) (meth := meth) (locs := locs) (cells := ce) (slots := sl) CF hmet ⟨callB_of (na - 1) hts hGood rfl rfl rfl hini (hts _ q1) ⟨hne.1, hne.2, hdesc⟩ hroom, q3, hts _ q2⟩ (b := X.2.1 + r) (As := As) ⟨fx_blind, hPS⟩ (g := F0 m pc ls ((Value.ref (X.2.1 + r) :: As).reverse ++ w2)) rfl hn hlv.1 (rest := w2) (by rw [List.reverse_cons, List.append_assoc]; rfl) hw8 hdg hfit
        exact fx_wcall hls hrun hKQ
      · obtain ⟨q1, q2, q5⟩ := c2 rfl
        have q5 : t' = 0 := q5
        subst q5
        have hdesc : (parseMethodDescriptor y.desc).map (fun d => d.parameters.length) = some na := hdesc
        have hn : av.length = na := by omega
        have hrun := va_runS (e := e) (below := below) (meth := meth) (locs := locs) (cells := ce) (slots := sl) CF hmet ⟨callB_of na hts hGood rfl rfl rfl hini (hts _ q1) ⟨hne.1, hne.2, hdesc⟩ hroom, hts _ q2⟩ (As := av) ⟨fx_blind, hPS⟩ (g := F0 m pc ls (av.reverse ++ w2)) rfl hn hlv.1 (rest := w2) rfl hw8 hdg hfit
        exact fx_wcall hls hrun hKQ
      · obtain ⟨q1, q2, q3, q4, q5⟩ := c3 rfl
        have q4 : rt' = none := q4
        subst q4
        have q5 : t' = 1 := q5
        subst q5
        have hdesc : (parseMethodDescriptor y.desc).map (fun d => d.parameters.length) = some (na - 1) := hdesc
        have hnw := hcx.2.2.1 _ q1
        have hrc : ∃ (r : Nat) (as' : List fx_V), as = fr r :: as' ∧ fx_ad X r = .ref (X.2.1 + r) := by
          have e10 : fx_rcv 1 h as = true := e10
          rcases as with _ | ⟨v, as'⟩
          · cases e10
          rcases v with n | n | (_ | r) | n
          · cases e10
          · cases e10
          · cases e10
          · cases hg : fx_hget h r with
            | none => simp [fx_rcv, hg, fx_if] at e10
            | some q =>
              obtain ⟨-, k2, -⟩ := hrh.2.1 r q hg
              exact ⟨r, as', rfl, fx_ad_lt k2⟩
          · cases e10
        obtain ⟨r, as', rfl, hbA⟩ := hrc
        obtain ⟨x0, As, rfl, hx0, hAs⟩ := fx_rl_cons hra
        have hx0 : x0 = fx_ad X r := hx0
        rw [hbA] at hx0
        subst hx0
        have hn : As.length = na - 1 := by
          simp only [List.length_cons] at hlen b1
          omega
        have hrun := va_runIN (e := e) (below := below) (meth := meth) (locs := locs) (cells := ce) (slots := sl) CF hmet ⟨va_cnB (na - 1) hts hGood rfl rfl rfl hnw hini ⟨hne.1, hne.2, hdesc⟩ hroom, q3, hts _ q2⟩ (b := X.2.1 + r) (As := As) ⟨fx_blind, hPS⟩ (g := F0 m pc ls ((Value.ref (X.2.1 + r) :: As).reverse ++ w2)) rfl hn hlv.1 (rest := w2) (by rw [List.reverse_cons, List.append_assoc]; rfl) hw8 hdg hfit
        exact fx_wcall hls hrun hKQ
      · obtain ⟨q1, q2, q5⟩ := c4 rfl
        have q5 : t' = 0 := q5
        subst q5
        have hnw := hcx.2.2.1 _ q1
        have hdesc : (parseMethodDescriptor y.desc).map (fun d => d.parameters.length) = some na := hdesc
        have hn : av.length = na := by omega
        have hrun := va_runSN (e := e) (below := below) (meth := meth) (locs := locs) (cells := ce) (slots := sl) CF hmet ⟨va_cnB na hts hGood rfl rfl rfl hnw hini ⟨hne.1, hne.2, hdesc⟩ hroom, hts _ q2, trivial⟩ (As := av) ⟨fx_blind, hPS⟩ (g := F0 m pc ls (av.reverse ++ w2)) rfl hn hlv.1 (rest := w2) rfl hw8 hdg hfit
        exact fx_wcall hls hrun hKQ
