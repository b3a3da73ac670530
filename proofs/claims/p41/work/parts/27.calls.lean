/-- what a code must do from here, for every frame (the executor's soundness, as a property of one place) -/
def rx_sem (l : Launch) (X : fx_X) (Y : fx_Y) (B : fx_B) (d : Nat) (cod at_ : List fx_I) (loc : fx_L) (stk : List fx_V) (ce sl mc ms : Nat) (h : fx_H) (j : fx_J) (k : fx_K) : Prop :=
  ∀ (p : Program) (e : Env) (R : Room) (s : State) (m : MethodId) (args : Array Value) (below : List Frame) (meth : Method) (c : Code) (Q : State → Prop) (cc : ByteArray) (nL : Nat) (own : String) (ini : Bool) (rt : Option FieldType),
    fx_fs X Y B fx_mst fx_mt p s m args meth c cc nL own ini rt cod → fx_rm R d mc ms → (∀ q ∈ at_, q ∈ cod) → fx_rt l X Y p e R s m args below meth c Q cc rt mc ms k → fx_cu l X Y rx_E p e R s m args below meth c Q nL cod mc ms →
    ∀ H locs ls st, fx_st X Y nL loc stk h j H locs ls st → ce ≤ mc → sl ≤ ms → W p l e R s m args below meth c H locs ce sl Q (F0 m (fx_pc at_) ls st)
noncomputable def rx_ihs (l : Launch) (X : fx_X) (Y : fx_Y) (B : fx_B) : fx_G := fun d cod at_ loc stk ce sl mc ms h j k => rx_b (at_ ≠ [] ∧ rx_sem l X Y B d cod at_ loc stk ce sl mc ms h j k)
theorem rx_snd {l : Launch} {X : fx_X} {Y : fx_Y} {B : fx_B} : fx_snd l X Y B fx_mst rx_E (rx_ihs l X Y B) := by
  refine ⟨fun d cod loc stk ce sl mc ms h j k => ?_, fun d cod at_ loc stk ce sl mc ms h j k ee p e R s m args below meth c Q cc nL own ini rt F hR hs hrt hcu H locs ls st hst h1 h2 => ?_⟩
  · cases hq : rx_ihs l X Y B d cod [] loc stk ce sl mc ms h j k with
    | false => rfl
    | true => exact absurd rfl (rx_b_iff.mp hq).1
  · exact (rx_b_iff.mp ee).2 p e R s m args below meth c Q cc nL own ini rt F hR hs hrt hcu H locs ls st hst h1 h2
/-- a method's contract: a code (its own, cuts put in) that runs so from its start -/
def rx_met (l : Launch) (X : fx_X) (Y : fx_Y) (B : fx_B) (c d : Nat) (as : List fx_V) (h : fx_H) (K : rx_K) : Prop := ∀ M, fx_mt c = some M → ∃ cod, (∀ q ∈ cod, q.2.1 ≠ 28 → q ∈ M.1) ∧ cod ≠ [] ∧ fx_pc cod = fx_pc M.1 ∧ rx_run l X Y B d cod cod (fx_args as 0) [] h K
section RXC
variable {l : Launch} {X : fx_X} {Y : fx_Y} {B : fx_B} {d : Nat} {cod : List fx_I} {K : rx_K} {loc : fx_L} {stk : List fx_V} {h : fx_H} {pc a b c : Nat} {tl : List fx_I}
theorem rx_deep {d2 : Nat} (hd : d ≤ d2) {at_ : List fx_I} (k : rx_run l X Y B d cod at_ loc stk h K) : rx_run l X Y B d2 cod at_ loc stk h K := by
  intro p e R s m args below meth c0 Q cc nL own ini rt F hR hsub hrt H locs ls st hs
  exact k p e R s m args below meth c0 Q cc nL own ini rt F ⟨by have := hR.1; omega, by have := hR.2.1; omega, hR.2.2.1, hR.2.2.2⟩ hsub hrt H locs ls st hs
theorem rx_met_deep {d2 : Nat} (hd : d ≤ d2) {as : List fx_V} (k : rx_met l X Y B c d as h K) : rx_met l X Y B c d2 as h K := by
  intro M hM
  obtain ⟨cod, h1, h2, h3, h4⟩ := k M hM
  exact ⟨cod, h1, h2, h3, rx_deep hd h4⟩
theorem rx_met_mono {as : List fx_V} {K2 : rx_K} (k : rx_met l X Y B c d as h K) (hK : ∀ v h', K v h' → K2 v h') : rx_met l X Y B c d as h K2 := by
  intro M hM
  obtain ⟨cod, h1, h2, h3, h4⟩ := k M hM
  exact ⟨cod, h1, h2, h3, rx_mono h4 hK⟩
theorem rx_rj0 {X : fx_X} : fx_rj X [] := fun i q hq => by simp at hq
theorem rx_ble {a b : Nat} (h : a ≤ b) : Nat.ble a b = true := Nat.ble_eq_true_of_le h
theorem rx_call (hXX : fx_xx X B) (hma : fx_mall fx_mst fx_mt) {M : fx_M} (hmt : fx_mt c = some M) {as st : List fx_V} (hsp : fx_split M.2.1 stk = some (as, st)) (h8 : fx_cats st ≤ 8) (hm0 : M.2.2.1 = 0) (hs0 : M.2.2.2.1 = 0) (hM1 : M.1 ≠ []) (hnl : fx_cats as ≤ M.2.2.2.2.2) (hrc : fx_rcv M.2.2.2.2.1 h as = true) (ha5 : a < 5) {Kc : rx_K} (hk : rx_met l X Y B c d as h Kc) (hn : ∀ v h', Kc v h' → rx_nx l X Y B (d + 1) cod K pc 3 tl loc (fx_ret st v) h') : rx_run l X Y B (d + 1) cod ((pc, 9, a, b, c) :: tl) loc stk h K := by
  intro p e R s m args below meth c0 Q cc nL own ini rt F hR hsub hrt H locs ls st0 hs
  have hsum : fx_sum l X Y B fx_mst rx_E := fun _ _ _ _ _ _ _ _ _ q => by cases q
  refine fx_s9 rx_snd hXX hma hsum F hR (rx_gok F hR hrt) (hsub _ List.mem_cons_self) (fun q hq => hsub q (List.mem_cons_of_mem _ hq)) ?_ hs
  obtain ⟨cod2, g1, g2, g3, g4⟩ := hk M hmt
  obtain ⟨cod', na, mc', ms', t', nl'⟩ := M
  have hm0 : mc' = 0 := hm0
  have hs0 : ms' = 0 := hs0
  subst hm0; subst hs0
  have hne : cod' ≠ [] := hM1
  have hsp : fx_split na stk = some (as, st) := hsp
  have hnl : fx_cats as ≤ nl' := hnl
  have hrc : fx_rcv t' h as = true := hrc
  have hmt : fx_mt c = some (cod', na, 0, 0, t', nl') := hmt
  have g1 : ∀ q ∈ cod2, q.2.1 ≠ 28 → q ∈ cod' := g1
  have g3 : fx_pc cod2 = fx_pc cod' := g3
  have key : rx_ihs l X Y B d cod' cod' (fx_args as 0) [] 0 0 0 0 h [] (fun v h' j' => fx_num (0 + 0) (fun ce => fx_num (0 + 0) (fun sl => fx_nx (fun t => rx_go l X Y B (d + 1) cod K t loc (fx_ret st v) ce sl h' j') pc 3 tl))) = true := by
    refine rx_b_iff.mpr ⟨hne, ?_⟩
    intro p e R s m args below meth c0 Q cc nL own ini rt F hR hsub hrt hcu H locs ls st0 hs _ _
    rw [← g3]
    refine g4 p e R s m args below meth c0 Q cc nL own ini rt ?_ hR (fun q hq => hq) ?_ H locs ls st0 hs
    · obtain ⟨f1, f2, f3, f4, f5, f6, f7, f8, f9, f10, f11⟩ := F
      exact ⟨f1, f2, f3, f4, f5, f6, f7, f8, f9, f10, fun pc kd a b d hin hk => f11 pc kd a b d (g1 _ hin hk) hk⟩
    · intro v w h' j' H' locs' ce sl pc' ls' hk' hro hrh hrj hls hce hsl hrets
      exact hrt v w h' [] H' locs' ce sl pc' ls' (hn v h' (rx_b_iff.mp hk')) hro hrh rx_rj0 hls hce hsl hrets
  have e8 : Nat.ble (fx_cats st) 8 = true := rx_ble h8
  have e9 : Nat.ble (fx_cats as) nl' = true := rx_ble hnl
  rw [show Nat.blt a 5 = true from rx_ble ha5, Bool.true_and]
  unfold fx_call
  simp only [show rx_E.1 c = some (cod', na, 0, 0, t', nl') from hmt, hsp, e8, e9, hrc, Bool.true_and, Nat.add_zero]
  have e10 : fx_if (Nat.ble 10 d) (rx_E.2.2.2.1 c as h) none = none := by
    cases Nat.ble 10 d <;> rfl
  rw [e10]
  exact key
end RXC
