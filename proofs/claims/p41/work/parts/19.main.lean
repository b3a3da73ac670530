/-- words that every run takes -/
def fx_wd : Prop := (∀ t, t < 4 → Cond.arrayClass (fx_ty t) ∈ fx_tb) ∧ (Cond.instanceMethod Lib.objectInit ∈ fx_tb ∧ Cond.code Lib.objectInit ⟨#[0xb1]⟩ 1 none ∈ fx_tb) ∧ (Cond.native arraycopyName ∈ fx_tb ∧ Cond.static arraycopyName ∈ fx_tb ∧ Cond.initialized "java/lang/System" ∈ fx_tb) ∧ ((Cond.static Lib.Math.max.name ∈ fx_tb ∧ Cond.code Lib.Math.max.name Lib.Math.max.code 2 (some .int) ∈ fx_tb) ∧ (Cond.static Lib.Math.min.name ∈ fx_tb ∧ Cond.code Lib.Math.min.name Lib.Math.min.code 2 (some .int) ∈ fx_tb) ∧ Cond.initialized "java/lang/Math" ∈ fx_tb)
set_option maxHeartbeats 4000000 in
/-- one instruction, whatever comes behind it -/
theorem fx_one_ok {l : Launch} {X : fx_X} {Y : fx_Y} {B : fx_B} {mst : Nat → Option fx_S} {E : fx_E} {ih : fx_G} (hf : fx_snd l X Y B mst E ih) (hXX : fx_xx X B) (hma : fx_mall mst E.1) (hsum : fx_sum l X Y B mst E) (hE1 : E.2.1 = fx_swt) (hE2 : E.2.2.1 = fx_cd) (hwd : fx_wd)
    {p : Program} {e : Env} {R : Room} {s : State} {m : MethodId} {args : Array Value} {below : List Frame} {meth : Method} {c : Code} {Q : State → Prop} {cc : ByteArray} {nL : Nat} {own : String} {ini : Bool} {rt : Option FieldType} {cod tl : List fx_I} {d mc ms pc kd a b c0 ce sl : Nat} {loc : fx_L} {stk : List fx_V} {h : fx_H} {j : fx_J} {k : fx_K} {go : fx_O} {H : Heap} {locs : List Loc} {ls : Array Slot} {st : List Value}
    (F : fx_fs X Y B mst E.1 p s m args meth c cc nL own ini rt cod) (hR : fx_rm R d mc ms) (hrt : fx_rt l X Y p e R s m args below meth c Q cc rt mc ms k) (hcu : fx_cu l X Y E p e R s m args below meth c Q nL cod mc ms) (hgo : fx_gok l X Y p e R s m args below meth c Q nL cod mc ms go) (hin : (pc, kd, a, b, c0) ∈ cod) (htl : ∀ q ∈ tl, q ∈ cod)
    (ee : fx_one E ih go d cod pc kd a b c0 tl loc stk ce sl mc ms h j k = true) (hs : fx_st X Y nL loc stk h j H locs ls st) (hce : ce ≤ mc) (hsl : sl ≤ ms) : W p l e R s m args below meth c H locs ce sl Q (F0 m pc ls st) := by
  obtain ⟨hX, h7, -⟩ := id hXX
  obtain ⟨w1, w2, w3, w4⟩ := hwd
  rcases Nat.lt_or_ge kd 30 with hk | hk
  · rcases (by omega : kd = 0 ∨ kd = 1 ∨ kd = 2 ∨ kd = 3 ∨ kd = 4 ∨ kd = 5 ∨ kd = 6 ∨ kd = 7 ∨ kd = 8 ∨ kd = 9 ∨ kd = 10 ∨ kd = 11 ∨ kd = 12 ∨ kd = 13 ∨ kd = 14 ∨ kd = 15 ∨ kd = 16 ∨ kd = 17 ∨ kd = 18 ∨ kd = 19 ∨ kd = 20 ∨ kd = 21 ∨ kd = 22 ∨ kd = 23 ∨ kd = 24 ∨ kd = 25 ∨ kd = 26 ∨ kd = 27 ∨ kd = 28 ∨ kd = 29) with rfl | rfl | rfl | rfl | rfl | rfl | rfl | rfl | rfl | rfl | rfl | rfl | rfl | rfl | rfl | rfl | rfl | rfl | rfl | rfl | rfl | rfl | rfl | rfl | rfl | rfl | rfl | rfl | rfl | rfl
    · exact fx_s0 F hX hgo hin htl ee hs hce hsl
    · exact fx_s1 F hgo hin htl ee hs hce hsl
    · exact fx_s2 F hgo hin htl ee hs hce hsl
    · exact fx_s3 F hgo hin htl ee hs hce hsl
    · exact fx_s4 F hgo hin htl ee hs hce hsl
    · exact fx_s5 F hgo hin ee hs hce hsl
    · exact fx_s6 F hXX hgo hin htl ee hs hce hsl
    · exact fx_s7 F hX h7 hgo hin htl ee hs hce hsl
    · exact fx_s8 F hgo hin htl ee hs hce hsl
    · exact fx_s9 hf hXX hma hsum F hR hgo hin htl ee hs
    · exact fx_s10 F hrt hin ee hs hce hsl
    · exact fx_s11 F hX hgo hin htl ee hs hce hsl
    · exact fx_s12 F h7 hgo hin htl ee hs hce hsl
    · exact fx_s13 F hgo hin htl ee hs hce hsl
    · exact fx_s14 F hX hgo hin htl ee hs hce hsl
    · exact fx_s15 F hX hgo hin htl ee hs hce hsl
    · exact fx_s16 hE2 F ⟨hR.2.2.1, hR.2.2.2⟩ hgo hin htl ee hs
    · exact fx_s17 F w1 ⟨hR.2.2.1, hR.2.2.2⟩ hgo hin htl ee hs
    · exact fx_s18 F hXX hgo hin htl ee hs hce hsl
    · exact fx_s19 F hgo hin htl ee hs hce hsl
    · exact fx_s20 hE1 F (Or.inl rfl) hgo hin ee hs hce hsl
    · exact fx_s20 hE1 F (Or.inr rfl) hgo hin ee hs hce hsl
    · exact fx_s22 F hX w2 ⟨hR.1, hR.2.1⟩ hgo hin htl ee hs hce hsl
    · exact fx_s23 F hX w3 ⟨hR.1, hR.2.1⟩ hgo hin htl ee hs hce hsl
    · exact fx_s24 F hgo hin htl ee hs hce hsl
    · exact fx_s25 F hXX hgo hin htl ee hs hce hsl
    · exact fx_s26 F hgo hin htl ee hs hce hsl
    · exact fx_s27 F hXX hgo hin htl ee hs hce hsl
    · have ee : fx_k28 E loc stk h j = true := ee
      obtain ⟨hl0, hst, hrh, hrj, hls⟩ := hs
      rcases stk with _ | ⟨v, stk⟩
      · have := fx_rl_nil hst
        subst this
        exact hcu _ hin rfl loc h j H locs ls ce sl ee ⟨hl0, hst, hrh, hrj, hls⟩ hce hsl
      · cases ee
    · exact fx_s29 F hX w4 hR hgo hin htl ee hs hce hsl
  · obtain ⟨q, rfl⟩ : ∃ q, kd = q + 30 := ⟨kd - 30, by omega⟩
    have ee : false = true := ee
    cases ee
theorem fx_step_ok {l : Launch} {X : fx_X} {Y : fx_Y} {B : fx_B} {mst : Nat → Option fx_S} {E : fx_E} {ih : fx_G} (hf : fx_snd l X Y B mst E ih) (hXX : fx_xx X B) (hma : fx_mall mst E.1) (hsum : fx_sum l X Y B mst E) (hE1 : E.2.1 = fx_swt) (hE2 : E.2.2.1 = fx_cd) (hwd : fx_wd) : fx_snd l X Y B mst E (fx_step E ih) := by
  refine ⟨fun d cod loc stk ce sl mc ms h j k => rfl, ?_⟩
  intro d cod at_ loc stk ce sl mc ms h j k ee p e R s m args below meth c Q cc nL own ini rt F hR hsub hrt hcu H locs ls st hs hce hsl
  rcases at_ with _ | ⟨⟨pc, kd, a, b, c0⟩, tl⟩
  · cases ee
  have hin : (pc, kd, a, b, c0) ∈ cod := hsub _ List.mem_cons_self
  have htl : ∀ q ∈ tl, q ∈ cod := fun q hq => hsub q (List.mem_cons_of_mem _ hq)
  have hgo : fx_gok l X Y p e R s m args below meth c Q nL cod mc ms (fun t loc stk ce sl h j => ih d cod t loc stk ce sl mc ms h j k) := ⟨fun loc stk ce sl h j => hf.1 _ _ _ _ _ _ _ _ _ _ _, fun at_ loc stk ce sl h j e9 hs9 H locs ls st hst h1 h2 => hf.2 _ _ _ _ _ _ _ _ _ _ _ _ e9 p e R s m args below meth c Q cc nL own ini rt F hR hs9 hrt hcu H locs ls st hst h1 h2⟩
  have ee : fx_one E ih (fun t loc stk ce sl h j => ih d cod t loc stk ce sl mc ms h j k) d cod pc kd a b c0 tl loc stk ce sl mc ms h j k = true := ee
  show W p l e R s m args below meth c H locs ce sl Q (F0 m pc ls st)
  exact fx_one_ok hf hXX hma hsum hE1 hE2 hwd F hR hrt hcu hgo hin htl ee hs hce hsl
theorem fx_go_ok {l : Launch} {X : fx_X} {Y : fx_Y} {B : fx_B} {mst : Nat → Option fx_S} {E : fx_E} (hXX : fx_xx X B) (hma : fx_mall mst E.1) (hsum : fx_sum l X Y B mst E) (hE1 : E.2.1 = fx_swt) (hE2 : E.2.2.1 = fx_cd) (hwd : fx_wd) : ∀ n, fx_snd l X Y B mst E (fx_go E n) := by
  intro n
  induction n with
  | zero => exact ⟨fun d cod loc stk ce sl mc ms h j k => rfl, fun d cod at_ loc stk ce sl mc ms h j k ee => by cases ee⟩
  | succ n ih => exact fx_step_ok ih hXX hma hsum hE1 hE2 hwd
