def ry_run (l : Launch) (X : fx_X) (Y : fx_Y) (B : fx_B) (d : Nat) (cod at_ : List fx_I) (loc : fx_L) (stk : List fx_V) (h : fx_H) (K : rx_K) : Prop :=
  ∀ (p : Program) (e : Env) (R : Room) (s : State) (m : MethodId) (args : Array Value) (below : List Frame) (meth : Method) (c : Code) (Q : State → Prop) (cc : ByteArray) (nL : Nat) (own : String) (ini : Bool) (rt : Option FieldType),
    fx_fs X Y B fx_mst fx_mt p s m args meth c cc nL own ini rt cod → fx_rm R d 600000 7302250 → (∀ q ∈ at_, q ∈ cod) → fx_rt l X Y p e R s m args below meth c Q cc rt 600000 7302250 (fun v h' _ => rx_b (K v h')) →
    ∀ H locs ls st, fx_st X Y nL loc stk h [] H locs ls st → W p l e R s m args below meth c H locs 1000 100000 Q (F0 m (fx_pc at_) ls st)
noncomputable def ry_go (l : Launch) (X : fx_X) (Y : fx_Y) (B : fx_B) (d : Nat) (cod : List fx_I) (K : rx_K) : fx_O := fun at_ loc stk ce sl h j => rx_b (at_ ≠ [] ∧ ce = 1000 ∧ sl = 100000 ∧ j = [] ∧ ry_run l X Y B d cod at_ loc stk h K)
section RY
variable {l : Launch} {X : fx_X} {Y : fx_Y} {B : fx_B} {d : Nat} {cod : List fx_I} {K : rx_K} {loc : fx_L} {stk : List fx_V} {h : fx_H} {pc a b c : Nat} {tl : List fx_I}
theorem ry_go_iff {at_ : List fx_I} : ry_go l X Y B d cod K at_ loc stk 1000 100000 h [] = true ↔ (at_ ≠ [] ∧ ry_run l X Y B d cod at_ loc stk h K) := by
  unfold ry_go
  rw [rx_b_iff]
  exact ⟨fun q => ⟨q.1, q.2.2.2.2⟩, fun q => ⟨q.1, rfl, rfl, rfl, q.2⟩⟩
theorem ry_gok {p : Program} {e : Env} {R : Room} {s : State} {m : MethodId} {args : Array Value} {below : List Frame} {meth : Method} {c : Code} {Q : State → Prop} {cc : ByteArray} {nL : Nat} {own : String} {ini : Bool} {rt : Option FieldType} (F : fx_fs X Y B fx_mst fx_mt p s m args meth c cc nL own ini rt cod) (hR : fx_rm R d 600000 7302250) (hrt : fx_rt l X Y p e R s m args below meth c Q cc rt 600000 7302250 (fun v h' _ => rx_b (K v h'))) : fx_gok l X Y p e R s m args below meth c Q nL cod 600000 7302250 (ry_go l X Y B d cod K) := by
  refine ⟨fun loc stk ce sl h j => ?_, fun at_ loc stk ce sl h j e9 hs9 H locs ls st hst h1 h2 => ?_⟩
  · cases hq : ry_go l X Y B d cod K [] loc stk ce sl h j with
    | false => rfl
    | true => exact absurd rfl (rx_b_iff.mp hq).1
  · obtain ⟨-, rfl, rfl, rfl, hr⟩ := rx_b_iff.mp e9
    exact hr p e R s m args below meth c Q cc nL own ini rt F hR hs9 hrt H locs ls st hst
theorem ry_one (hXX : fx_xx X B) (hma : fx_mall fx_mst fx_mt) (hwd : fx_wd) {kd : Nat} (ee : fx_one rx_E rx_ih (ry_go l X Y B d cod K) d cod pc kd a b c tl loc stk 1000 100000 600000 7302250 h [] (fun v h' _ => rx_b (K v h')) = true) : ry_run l X Y B d cod ((pc, kd, a, b, c) :: tl) loc stk h K := by
  intro p e R s m args below meth c0 Q cc nL own ini rt F hR hsub hrt H locs ls st hs
  have hf : fx_snd l X Y B fx_mst rx_E rx_ih := ⟨fun _ _ _ _ _ _ _ _ _ _ _ => rfl, fun _ _ _ _ _ _ _ _ _ _ _ _ q => by cases q⟩
  have hsum : fx_sum l X Y B fx_mst rx_E := fun _ _ _ _ _ _ _ _ _ q => by cases q
  have hcu : fx_cu l X Y rx_E p e R s m args below meth c0 Q nL cod 600000 7302250 := fun _ _ _ _ _ _ _ _ _ _ _ q => by cases q
  exact fx_one_ok hf hXX hma hsum rfl rfl hwd F hR hrt hcu (ry_gok F hR hrt) (hsub _ List.mem_cons_self) (fun q hq => hsub q (List.mem_cons_of_mem _ hq)) ee hs (by decide) (by decide)
abbrev ry_nx (l : Launch) (X : fx_X) (Y : fx_Y) (B : fx_B) (d : Nat) (cod : List fx_I) (K : rx_K) (pc len : Nat) (tl : List fx_I) (loc : fx_L) (stk : List fx_V) (h : fx_H) : Prop := fx_nx (fun t => ry_go l X Y B d cod K t loc stk 1000 100000 h []) pc len tl = true
theorem ry_bin {o x y : Nat} (hne : o = 3 ∨ o = 4 → ¬ Int32.ofNat y = 0) (hn : ry_nx l X Y B d cod K pc 1 tl loc (fc (rx_n (fx_op o (Int32.ofNat x) (Int32.ofNat y))) :: stk) h) : ry_run l X Y B d cod ((pc, 12, o, b, c) :: tl) loc (fc y :: fc x :: stk) h K := by
  intro p e R s m args below meth c0 Q cc nL own ini rt F hR hsub hrt H locs ls st hs
  have hgo := ry_gok F hR hrt
  obtain ⟨hx, hb, -, -, -, -, -, -, -, -, hcod⟩ := F
  obtain ⟨hd, ha⟩ := hcod _ _ _ _ _ (hsub _ List.mem_cons_self) (by decide)
  have ho := ha.2.2.2.2.2.1 rfl
  obtain ⟨hl0, hst, hrh, hrj, hls⟩ := hs
  obtain ⟨wy, st1, rfl, hry, hst1⟩ := fx_rl_cons hst
  obtain ⟨wx, st, rfl, hrx, hst2⟩ := fx_rl_cons hst1
  have hry : wy = .int (Int32.ofNat y) := hry
  have hrx : wx = .int (Int32.ofNat x) := hrx
  subst hry; subst hrx
  exact fx_wbin hx hb ho hd hne (fx_nxt hgo (fun q hq => hsub q (List.mem_cons_of_mem _ hq)) hn ⟨hl0, ⟨by show Value.int _ = .int (Int32.ofNat (rx_n _)); rw [rx_n_of], hst2⟩, hrh, hrj, hls⟩ (by decide) (by decide))
theorem ry_call (hXX : fx_xx X B) (hma : fx_mall fx_mst fx_mt) {M : fx_M} (hmt : fx_mt c = some M) {as st : List fx_V} (hsp : fx_split M.2.1 stk = some (as, st)) (h8 : fx_cats st ≤ 8) (hm0 : M.2.2.1 = 0) (hs0 : M.2.2.2.1 = 0) (hM1 : M.1 ≠ []) (hnl : fx_cats as ≤ M.2.2.2.2.2) (hrc : fx_rcv M.2.2.2.2.1 h as = true) (ha5 : a < 5) {Kc : rx_K} (hk : rx_met l X Y B c d as h Kc) (hn : ∀ v h', Kc v h' → ry_nx l X Y B (d + 1) cod K pc 3 tl loc (fx_ret st v) h') : ry_run l X Y B (d + 1) cod ((pc, 9, a, b, c) :: tl) loc stk h K := by
  intro p e R s m args below meth c0 Q cc nL own ini rt F hR hsub hrt H locs ls st0 hs
  have hsum : fx_sum l X Y B fx_mst rx_E := fun _ _ _ _ _ _ _ _ _ q => by cases q
  refine fx_s9 rx_snd hXX hma hsum F hR (ry_gok F hR hrt) (hsub _ List.mem_cons_self) (fun q hq => hsub q (List.mem_cons_of_mem _ hq)) ?_ hs
  obtain ⟨cod2, g1, g2, g3, g4⟩ := hk M hmt
  obtain ⟨cod', na, mc', ms', t', nl'⟩ := M
  have hm0 : mc' = 0 := hm0
  have hs0 : ms' = 0 := hs0
  subst hm0; subst hs0
  have hne : cod' ≠ [] := hM1
  have hsp : fx_split na stk = some (as, st) := hsp
  have hnl : fx_cats as ≤ nl' := hnl
  have hrc : fx_rcv t' h as = true := hrc
  have hmt : fx_mt c = some (cod', na, 0, 0, t', nl') := hmt
  have g1 : ∀ q ∈ cod2, q.2.1 ≠ 28 → q ∈ cod' := g1
  have g3 : fx_pc cod2 = fx_pc cod' := g3
  have key : rx_ihs l X Y B d cod' cod' (fx_args as 0) [] 0 0 0 0 h [] (fun v h' j' => fx_num (1000 + 0) (fun ce => fx_num (100000 + 0) (fun sl => fx_nx (fun t => ry_go l X Y B (d + 1) cod K t loc (fx_ret st v) ce sl h' j') pc 3 tl))) = true := by
    refine rx_b_iff.mpr ⟨hne, ?_⟩
    intro p e R s m args below meth c0 Q cc nL own ini rt F hR hsub hrt hcu H locs ls st0 hs _ _
    rw [← g3]
    refine g4 p e R s m args below meth c0 Q cc nL own ini rt ?_ hR (fun q hq => hq) ?_ H locs ls st0 hs
    · obtain ⟨f1, f2, f3, f4, f5, f6, f7, f8, f9, f10, f11⟩ := F
      exact ⟨f1, f2, f3, f4, f5, f6, f7, f8, f9, f10, fun pc kd a b d hin hk => f11 pc kd a b d (g1 _ hin hk) hk⟩
    · intro v w h' j' H' locs' ce sl pc' ls' hk' hro hrh hrj hls hce hsl hrets
      exact hrt v w h' [] H' locs' ce sl pc' ls' (hn v h' (rx_b_iff.mp hk')) hro hrh rx_rj0 hls hce hsl hrets
  have e8 : Nat.ble (fx_cats st) 8 = true := rx_ble h8
  have e9 : Nat.ble (fx_cats as) nl' = true := rx_ble hnl
  rw [show Nat.blt a 5 = true from rx_ble ha5, Bool.true_and]
  unfold fx_call
  simp only [show rx_E.1 c = some (cod', na, 0, 0, t', nl') from hmt, hsp, e8, e9, hrc, Bool.true_and, Nat.add_zero]
  have e10 : fx_if (Nat.ble 10 d) (rx_E.2.2.2.1 c as h) none = none := by
    cases Nat.ble 10 d <;> rfl
  rw [e10]
  exact key
end RY
def rv (l : Launch) (X : fx_X) (Y : fx_Y) (B : fx_B) (d : Nat) (cod : List fx_I) (pc : Nat) (loc : fx_L) (stk : List fx_V) (h : fx_H) (K : rx_K) : Prop := ry_run l X Y B d cod (fx_to cod pc) loc stk h K
section RV
variable {l : Launch} {X : fx_X} {Y : fx_Y} {B : fx_B} {d : Nat} {cod : List fx_I} {K : rx_K} {loc : fx_L} {stk : List fx_V} {h : fx_H} {pc a b c nx : Nat}
theorem rv_nx {len : Nat} {tl : List fx_I} (ht : ru_t cod nx tl) (hl : nx = pc + (len + 1)) (k : rv l X Y B d cod nx loc stk h K) : ry_nx l X Y B d cod K pc (len + 1) tl loc stk h := by
  rcases ht with ⟨-, h0⟩ | ⟨h1, r, t, h2, h3⟩
  · omega
  · have k : ry_run l X Y B d cod (fx_to cod nx) loc stk h K := k
    rw [← h1] at k
    show fx_nx (fun t => ry_go l X Y B d cod K t loc stk 1000 100000 h []) pc (len + 1) tl = true
    rw [h2] at k ⊢
    show (Nat.beq r.1 (pc + (len + 1)) && ry_go l X Y B d cod K (r :: t) loc stk 1000 100000 h []) = true
    rw [h3, hl, Nat.beq_refl, Bool.true_and]
    exact ry_go_iff.mpr ⟨by simp, k⟩
theorem rv_jmp {t : Nat} (hne : fx_to cod t ≠ []) (k : rv l X Y B d cod t loc stk h K) : ry_go l X Y B d cod K (fx_to cod t) loc stk 1000 100000 h [] = true := ry_go_iff.mpr ⟨hne, k⟩
theorem rv_step {kd : Nat} (he : ai_env X B) (hu : ru_u cod = true) (hat : ru_e cod pc = some (kd, a, b, c, nx)) (k : ∀ tl, ru_t cod nx tl → fx_one rx_E rx_ih (ry_go l X Y B d cod K) d cod pc kd a b c tl loc stk 1000 100000 600000 7302250 h [] (fun v h' _ => rx_b (K v h')) = true) : rv l X Y B d cod pc loc stk h K := by
  obtain ⟨tl, h1, h2⟩ := ru_in hu hat
  show ry_run l X Y B d cod (fx_to cod pc) loc stk h K
  rw [h1]
  exact ry_one he.1 he.2.1 he.2.2.1 (k tl h2)
theorem rv_raw {kd : Nat} (hu : ru_u cod = true) (hat : ru_e cod pc = some (kd, a, b, c, nx)) (k : ∀ tl, ru_t cod nx tl → ry_run l X Y B d cod ((pc, kd, a, b, c) :: tl) loc stk h K) : rv l X Y B d cod pc loc stk h K := by
  obtain ⟨tl, h1, h2⟩ := ru_in hu hat
  show ry_run l X Y B d cod (fx_to cod pc) loc stk h K
  rw [h1]
  exact k tl h2
theorem v_ld {v : fx_V} (he : ai_env X B) (hu : ru_u cod = true) (hat : ru_e cod pc = some (0, a, b, c, nx)) (hl : nx = pc + (b % 2 + 1)) (hv : fx_look loc a = some v) (hf : (fx_form b v && Nat.blt b 6) = true) (hz : ru_pl v = true) (k : rv l X Y B d cod nx loc (v :: stk) h K) : rv l X Y B d cod pc loc stk h K := rv_step he hu hat (fun tl ht => by
  show fx_k0 (ry_go l X Y B d cod K) pc a b tl loc stk 1000 100000 h [] = true
  unfold fx_k0
  rw [hv]
  simp only
  rw [hf, Bool.true_and, ru_nz hz]
  exact rv_nx ht hl k)
theorem v_st {v : fx_V} (he : ai_env X B) (hu : ru_u cod = true) (hat : ru_e cod pc = some (11, a, b, c, nx)) (hl : nx = pc + (b % 2 + 1)) (hf : (fx_form b v && Nat.blt b 6) = true) (hc : fx_cat v = 1) (k : rv l X Y B d cod nx (ru_sto loc a v) stk h K) : rv l X Y B d cod pc loc (v :: stk) h K := rv_step he hu hat (fun tl ht => by
  show ((fx_form b v && Nat.blt b 6) && fx_store loc a v (fun loc => fx_nx (fun t => ry_go l X Y B d cod K t loc stk 1000 100000 h []) pc (fx_odd b) tl)) = true
  rw [hf, Bool.true_and, ru_store hc]
  exact rv_nx ht hl k)
theorem v_c (he : ai_env X B) (hu : ru_u cod = true) (hat : ru_e cod pc = some (2, a, b, c, nx)) (ha : Nat.blt a 5 = true) {len : Nat} (hlen : fx_clen a = len + 1) (hl : nx = pc + (len + 1)) (k : rv l X Y B d cod nx loc (fc c :: stk) h K) : rv l X Y B d cod pc loc stk h K := rv_step he hu hat (fun tl ht => by
  show (Nat.blt a 8 && fx_nx (fun t => ry_go l X Y B d cod K t loc (fx_cst a c :: stk) 1000 100000 h []) pc (fx_clen a) tl) = true
  have h5 := fx_blt ha
  rw [show Nat.blt a 8 = true from rx_ble (by omega), Bool.true_and, hlen]
  have e : fx_cst a c = fc c := by
    unfold fx_cst
    rw [ha, fx_if_t]
  rw [e]
  exact rv_nx ht hl k)
theorem v_cmp {x y : Nat} (he : ai_env X B) (hu : ru_u cod = true) (hat : ru_e cod pc = some (3, a, b, c, nx)) (hl : nx = pc + (2 + 1)) (ha : Nat.blt a 6 = true) (hne : fx_to cod b ≠ []) (k1 : fx_con a (fx_b x) (fx_b y) = true → rv l X Y B d cod b loc stk h K) (k2 : fx_con a (fx_b x) (fx_b y) = false → rv l X Y B d cod nx loc stk h K) : rv l X Y B d cod pc loc (fc y :: fc x :: stk) h K := rv_step he hu hat (fun tl ht => by
  show (Nat.blt a 6 && fx_if (fx_con a (fx_b x) (fx_b y)) (ry_go l X Y B d cod K (fx_to cod b) loc stk 1000 100000 h []) (fx_nx (fun t => ry_go l X Y B d cod K t loc stk 1000 100000 h []) pc 3 tl)) = true
  rw [ha, Bool.true_and]
  cases hq : fx_con a (fx_b x) (fx_b y) with
  | true => rw [fx_if_t]; exact rv_jmp hne (k1 hq)
  | false => rw [fx_if_f]; exact rv_nx ht hl (k2 hq))
theorem v_cmp0 {x : Nat} (he : ai_env X B) (hu : ru_u cod = true) (hat : ru_e cod pc = some (4, a, b, c, nx)) (hl : nx = pc + (2 + 1)) (ha : Nat.blt a 6 = true) (hne : fx_to cod b ≠ []) (k1 : fx_con a (fx_b x) 2147483648 = true → rv l X Y B d cod b loc stk h K) (k2 : fx_con a (fx_b x) 2147483648 = false → rv l X Y B d cod nx loc stk h K) : rv l X Y B d cod pc loc (fc x :: stk) h K := rv_step he hu hat (fun tl ht => by
  show (Nat.blt a 6 && fx_if (fx_con a (fx_b x) 2147483648) (ry_go l X Y B d cod K (fx_to cod b) loc stk 1000 100000 h []) (fx_nx (fun t => ry_go l X Y B d cod K t loc stk 1000 100000 h []) pc 3 tl)) = true
  rw [ha, Bool.true_and]
  cases hq : fx_con a (fx_b x) 2147483648 with
  | true => rw [fx_if_t]; exact rv_jmp hne (k1 hq)
  | false => rw [fx_if_f]; exact rv_nx ht hl (k2 hq))
theorem v_go (he : ai_env X B) (hu : ru_u cod = true) (hat : ru_e cod pc = some (5, a, b, c, nx)) (hne : fx_to cod b ≠ []) (k : rv l X Y B d cod b loc stk h K) : rv l X Y B d cod pc loc stk h K := rv_step he hu hat (fun tl ht => rv_jmp hne k)
theorem v_bin {x y : Nat} (hu : ru_u cod = true) (hat : ru_e cod pc = some (12, a, b, c, nx)) (hl : nx = pc + (0 + 1)) (hne : a = 3 ∨ a = 4 → ¬ Int32.ofNat y = 0) (k : rv l X Y B d cod nx loc (fc (rop a x y) :: stk) h K) : rv l X Y B d cod pc loc (fc y :: fc x :: stk) h K := rv_raw hu hat (fun tl ht => ry_bin hne (rv_nx ht hl k))
theorem v_inc {x : Nat} (he : ai_env X B) (hu : ru_u cod = true) (hat : ru_e cod pc = some (7, a, b, c, nx)) (hl : nx = pc + (2 + 1)) (hv : fx_look loc a = some (fc x)) (k : rv l X Y B d cod nx (ru_sto loc a (fc (Nat.mod (Nat.add x b) 4294967296))) stk h K) : rv l X Y B d cod pc loc stk h K := rv_step he hu hat (fun tl ht => by
  show fx_k7 (ry_go l X Y B d cod K) pc a b tl loc stk 1000 100000 h [] = true
  unfold fx_k7
  rw [hv]
  show fx_val (fc (Nat.mod (Nat.add x b) 4294967296)) (fun w => fx_store loc a w (fun loc => fx_nx (fun t => ry_go l X Y B d cod K t loc stk 1000 100000 h []) pc 3 tl)) = true
  rw [fx_val_eq, ru_store rfl]
  exact rv_nx ht hl k)
theorem v_iret {x : Nat} (he : ai_env X B) (hu : ru_u cod = true) (hat : ru_e cod pc = some (10, 0, b, c, nx)) (hb : fx_rok b (fc x) = true) (k : K (some (fc x)) h) : rv l X Y B d cod pc loc [fc x] h K := rv_step he hu hat (fun tl _ => by
  show (fx_rok b (fc x) && rx_b (K (some (fc x)) h)) = true
  rw [hb, Bool.true_and]
  exact rx_b_iff.mpr k)
theorem v_pop {v : fx_V} (he : ai_env X B) (hu : ru_u cod = true) (hat : ru_e cod pc = some (15, 1, b, c, nx)) (hl : nx = pc + (0 + 1)) (hc : fx_cat v = 1) (k : rv l X Y B d cod nx loc stk h K) : rv l X Y B d cod pc loc (v :: stk) h K := rv_step he hu hat (fun tl ht => by
  show (match fx_stk 1 (v :: stk) with
    | some stk => fx_nx (fun t => ry_go l X Y B d cod K t loc stk 1000 100000 h []) pc 1 tl
    | none => false) = true
  have e : fx_stk 1 (v :: stk) = some stk := by
    unfold fx_stk
    simp only [hc]
    rfl
  rw [e]
  exact rv_nx ht hl k)
theorem v_callM {Kc : rx_K} {as' st : List fx_V} (he : ai_env X B) (hu : ru_u cod = true) (hI : ai_inv ai_T0 h) (hat : ru_e cod pc = some (9, a, b, c, nx)) (hl : nx = pc + (2 + 1)) (ha : Nat.blt a 5 = true) (hs : ru_c c 12 stk = some (fr 67 :: as', st)) (hk : rx_met l X Y B c d (fr 67 :: as') h Kc) (k : ∀ v h', Kc v h' → rv l X Y B (d + 1) cod nx loc (fx_ret st v) h' K) : rv l X Y B (d + 1) cod pc loc stk h K := rv_raw hu hat (fun tl ht => by
  unfold ru_c at hs
  cases hm : fx_mt c with
  | none => rw [hm] at hs; cases hs
  | some M =>
    rw [hm] at hs
    simp only at hs
    cases hp : fx_split M.2.1 stk with
    | none => rw [hp] at hs; cases hs
    | some q =>
      rw [hp] at hs
      simp only at hs
      cases hb : ((Nat.ble (fx_cats q.2) 8 && (Nat.beq M.2.2.1 0 && Nat.beq M.2.2.2.1 0)) && ((Nat.ble (fx_cats q.1) M.2.2.2.2.2 && Nat.beq M.2.2.2.2.1 12) && !(M.1.isEmpty))) with
      | false => rw [hb, fx_if_f] at hs; cases hs
      | true =>
        rw [hb, fx_if_t] at hs
        cases hs
        obtain ⟨b1, b2⟩ := fx_and hb
        obtain ⟨b3, b4⟩ := fx_and b1
        obtain ⟨b5, b6⟩ := fx_and b4
        obtain ⟨b7, b8⟩ := fx_and b2
        obtain ⟨b9, b10⟩ := fx_and b7
        refine ry_call he.1 he.2.1 hm hp (fx_ble b3) (fx_beq b5) (fx_beq b6) (fun q => by rw [q] at b8; cases b8) (fx_ble b9) ?_ (fx_blt ha) hk (fun v h' e => rv_nx ht hl (k v h' e))
        rw [fx_beq b10]
        obtain ⟨fs, hc⟩ : ∃ fs, ai_cell ai_T0 67 = some (.inl (10, fs)) := ⟨_, rfl⟩
        obtain ⟨ws, k3, -⟩ := ai_obj hI hc
        unfold fx_rcv
        rw [show Nat.beq 12 0 = false from rfl, fx_if_f]
        simp only
        rw [show Nat.beq 12 1 = false from rfl, fx_if_f, show Nat.beq 12 99 = false from rfl, fx_if_f, k3]
        rfl)
theorem v_callX {Kc : rx_K} {as' st : List fx_V} (he : ai_env X B) (hu : ru_u cod = true) (hI : ai_inv ai_T0 h) (hat : ru_e cod pc = some (9, a, b, c, nx)) (hl : nx = pc + (2 + 1)) (ha : Nat.blt a 5 = true) (hs : ru_c c 11 stk = some (fr 0 :: as', st)) (hk : rx_met l X Y B c d (fr 0 :: as') h Kc) (k : ∀ v h', Kc v h' → rv l X Y B (d + 1) cod nx loc (fx_ret st v) h' K) : rv l X Y B (d + 1) cod pc loc stk h K := rv_raw hu hat (fun tl ht => by
  unfold ru_c at hs
  cases hm : fx_mt c with
  | none => rw [hm] at hs; cases hs
  | some M =>
    rw [hm] at hs
    simp only at hs
    cases hp : fx_split M.2.1 stk with
    | none => rw [hp] at hs; cases hs
    | some q =>
      rw [hp] at hs
      simp only at hs
      cases hb : ((Nat.ble (fx_cats q.2) 8 && (Nat.beq M.2.2.1 0 && Nat.beq M.2.2.2.1 0)) && ((Nat.ble (fx_cats q.1) M.2.2.2.2.2 && Nat.beq M.2.2.2.2.1 11) && !(M.1.isEmpty))) with
      | false => rw [hb, fx_if_f] at hs; cases hs
      | true =>
        rw [hb, fx_if_t] at hs
        cases hs
        obtain ⟨b1, b2⟩ := fx_and hb
        obtain ⟨b3, b4⟩ := fx_and b1
        obtain ⟨b5, b6⟩ := fx_and b4
        obtain ⟨b7, b8⟩ := fx_and b2
        obtain ⟨b9, b10⟩ := fx_and b7
        refine ry_call he.1 he.2.1 hm hp (fx_ble b3) (fx_beq b5) (fx_beq b6) (fun q => by rw [q] at b8; cases b8) (fx_ble b9) ?_ (fx_blt ha) hk (fun v h' e => rv_nx ht hl (k v h' e))
        rw [fx_beq b10]
        obtain ⟨fs, hc⟩ : ∃ fs, ai_cell ai_T0 0 = some (.inl (9, fs)) := ⟨_, rfl⟩
        obtain ⟨ws, k3, -⟩ := ai_obj hI hc
        unfold fx_rcv
        rw [show Nat.beq 11 0 = false from rfl, fx_if_f]
        simp only
        rw [show Nat.beq 11 1 = false from rfl, fx_if_f, show Nat.beq 11 99 = false from rfl, fx_if_f, k3]
        rfl)
end RV
