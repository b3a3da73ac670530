/-! runs over plain numbers, no picture of unknown ones: rx_run says that the machine comes to an end from here, with an answer and a heap that K allows -/
noncomputable def rx_b (P : Prop) : Bool := @decide P (Classical.propDecidable P)
theorem rx_b_iff {P : Prop} : rx_b P = true ↔ P := by
  unfold rx_b
  exact @decide_eq_true_iff P (Classical.propDecidable P)
noncomputable def rx_n (z : Int32) : Nat := fx_b (fx_z z)
theorem rx_n_of (z : Int32) : Int32.ofNat (rx_n z) = z := fx_of_z z
theorem rx_b_lt (n : Nat) : fx_b n < 4294967296 := Nat.mod_lt _ (by decide)
theorem rx_n_lt (z : Int32) : rx_n z < 4294967296 := rx_b_lt _
theorem rx_n_b (z : Int32) : fx_b (rx_n z) = fx_z z := fx_b_b _ (fx_z_max z)
def rx_l (z : Int64) : Nat := z.toUInt64.toNat
theorem rx_l_of (z : Int64) : Int64.ofNat (rx_l z) = z := by
  unfold rx_l
  apply Int64.toBitVec_inj.1
  simp
abbrev rx_K : Type := Option fx_V → fx_H → Prop
def rx_run (l : Launch) (X : fx_X) (Y : fx_Y) (B : fx_B) (d : Nat) (cod at_ : List fx_I) (loc : fx_L) (stk : List fx_V) (h : fx_H) (K : rx_K) : Prop :=
  ∀ (p : Program) (e : Env) (R : Room) (s : State) (m : MethodId) (args : Array Value) (below : List Frame) (meth : Method) (c : Code) (Q : State → Prop) (cc : ByteArray) (nL : Nat) (own : String) (ini : Bool) (rt : Option FieldType),
    fx_fs X Y B fx_mst fx_mt p s m args meth c cc nL own ini rt cod → fx_rm R d 0 0 → (∀ q ∈ at_, q ∈ cod) → fx_rt l X Y p e R s m args below meth c Q cc rt 0 0 (fun v h' _ => rx_b (K v h')) →
    ∀ H locs ls st, fx_st X Y nL loc stk h [] H locs ls st → W p l e R s m args below meth c H locs 0 0 Q (F0 m (fx_pc at_) ls st)
noncomputable def rx_go (l : Launch) (X : fx_X) (Y : fx_Y) (B : fx_B) (d : Nat) (cod : List fx_I) (K : rx_K) : fx_O := fun at_ loc stk ce sl h j => rx_b (at_ ≠ [] ∧ ce = 0 ∧ sl = 0 ∧ j = [] ∧ rx_run l X Y B d cod at_ loc stk h K)
def rx_ih : fx_G := fun _ _ _ _ _ _ _ _ _ _ _ _ => false
noncomputable def rx_E : fx_E := (fx_mt, fx_swt, fx_cd, (fun _ _ _ => none), (fun _ _ _ => false))
section RX
variable {l : Launch} {X : fx_X} {Y : fx_Y} {B : fx_B} {d : Nat} {cod : List fx_I} {K : rx_K} {loc : fx_L} {stk : List fx_V} {h : fx_H} {pc a b c : Nat} {tl : List fx_I}
theorem rx_go_iff {at_ : List fx_I} : rx_go l X Y B d cod K at_ loc stk 0 0 h [] = true ↔ (at_ ≠ [] ∧ rx_run l X Y B d cod at_ loc stk h K) := by
  unfold rx_go
  rw [rx_b_iff]
  exact ⟨fun q => ⟨q.1, q.2.2.2.2⟩, fun q => ⟨q.1, rfl, rfl, rfl, q.2⟩⟩
theorem rx_gok {p : Program} {e : Env} {R : Room} {s : State} {m : MethodId} {args : Array Value} {below : List Frame} {meth : Method} {c : Code} {Q : State → Prop} {cc : ByteArray} {nL : Nat} {own : String} {ini : Bool} {rt : Option FieldType} (F : fx_fs X Y B fx_mst fx_mt p s m args meth c cc nL own ini rt cod) (hR : fx_rm R d 0 0) (hrt : fx_rt l X Y p e R s m args below meth c Q cc rt 0 0 (fun v h' _ => rx_b (K v h'))) : fx_gok l X Y p e R s m args below meth c Q nL cod 0 0 (rx_go l X Y B d cod K) := by
  refine ⟨fun loc stk ce sl h j => ?_, fun at_ loc stk ce sl h j e9 hs9 H locs ls st hst h1 h2 => ?_⟩
  · cases hq : rx_go l X Y B d cod K [] loc stk ce sl h j with
    | false => rfl
    | true => exact absurd rfl (rx_b_iff.mp hq).1
  · obtain ⟨-, rfl, rfl, rfl, hr⟩ := rx_b_iff.mp e9
    exact hr p e R s m args below meth c Q cc nL own ini rt F hR hs9 hrt H locs ls st hst
/-- one instruction of the executor, the rest any run -/
theorem rx_one (hXX : fx_xx X B) (hma : fx_mall fx_mst fx_mt) (hwd : fx_wd) {kd : Nat} (ee : fx_one rx_E rx_ih (rx_go l X Y B d cod K) d cod pc kd a b c tl loc stk 0 0 0 0 h [] (fun v h' _ => rx_b (K v h')) = true) : rx_run l X Y B d cod ((pc, kd, a, b, c) :: tl) loc stk h K := by
  intro p e R s m args below meth c0 Q cc nL own ini rt F hR hsub hrt H locs ls st hs
  have hf : fx_snd l X Y B fx_mst rx_E rx_ih := ⟨fun _ _ _ _ _ _ _ _ _ _ _ => rfl, fun _ _ _ _ _ _ _ _ _ _ _ _ q => by cases q⟩
  have hsum : fx_sum l X Y B fx_mst rx_E := fun _ _ _ _ _ _ _ _ _ q => by cases q
  have hcu : fx_cu l X Y rx_E p e R s m args below meth c0 Q nL cod 0 0 := fun _ _ _ _ _ _ _ _ _ _ _ q => by cases q
  exact fx_one_ok hf hXX hma hsum rfl rfl hwd F hR hrt hcu (rx_gok F hR hrt) (hsub _ List.mem_cons_self) (fun q hq => hsub q (List.mem_cons_of_mem _ hq)) ee hs (Nat.le_refl _) (Nat.le_refl _)
/-- a cut in front of an instruction -/
theorem rx_skip {r : fx_I} {t : List fx_I} (hr : r.1 = pc) (k : rx_run l X Y B d cod (r :: t) loc stk h K) : rx_run l X Y B d cod ((pc, 28, a, b, c) :: r :: t) loc stk h K := by
  intro p e R s m args below meth c0 Q cc nL own ini rt F hR hsub hrt H locs ls st hs
  have K1 := k p e R s m args below meth c0 Q cc nL own ini rt F hR (fun q hq => hsub q (List.mem_cons_of_mem _ hq)) hrt H locs ls st hs
  rw [show fx_pc (r :: t) = pc from hr] at K1
  exact K1
/-- weaker ends -/
theorem rx_mono {at_ : List fx_I} {K2 : rx_K} (k : rx_run l X Y B d cod at_ loc stk h K) (hK : ∀ v h', K v h' → K2 v h') : rx_run l X Y B d cod at_ loc stk h K2 := by
  intro p e R s m args below meth c0 Q cc nL own ini rt F hR hsub hrt H locs ls st hs
  exact k p e R s m args below meth c0 Q cc nL own ini rt F hR hsub (fun v w h' j' H' locs' ce sl pc' ls' hk => hrt v w h' j' H' locs' ce sl pc' ls' (rx_b_iff.mpr (hK _ _ (rx_b_iff.mp hk)))) H locs ls st hs
abbrev rx_nx (l : Launch) (X : fx_X) (Y : fx_Y) (B : fx_B) (d : Nat) (cod : List fx_I) (K : rx_K) (pc len : Nat) (tl : List fx_I) (loc : fx_L) (stk : List fx_V) (h : fx_H) : Prop := fx_nx (fun t => rx_go l X Y B d cod K t loc stk 0 0 h []) pc len tl = true
theorem rx_bin {o x y : Nat} (hne : o = 3 ∨ o = 4 → ¬ Int32.ofNat y = 0) (hn : rx_nx l X Y B d cod K pc 1 tl loc (fc (rx_n (fx_op o (Int32.ofNat x) (Int32.ofNat y))) :: stk) h) : rx_run l X Y B d cod ((pc, 12, o, b, c) :: tl) loc (fc y :: fc x :: stk) h K := by
  intro p e R s m args below meth c0 Q cc nL own ini rt F hR hsub hrt H locs ls st hs
  have hgo := rx_gok F hR hrt
  obtain ⟨hx, hb, -, -, -, -, -, -, -, -, hcod⟩ := F
  obtain ⟨hd, ha⟩ := hcod _ _ _ _ _ (hsub _ List.mem_cons_self) (by decide)
  have ho := ha.2.2.2.2.2.1 rfl
  obtain ⟨hl0, hst, hrh, hrj, hls⟩ := hs
  obtain ⟨wy, st1, rfl, hry, hst1⟩ := fx_rl_cons hst
  obtain ⟨wx, st, rfl, hrx, hst2⟩ := fx_rl_cons hst1
  have hry : wy = .int (Int32.ofNat y) := hry
  have hrx : wx = .int (Int32.ofNat x) := hrx
  subst hry; subst hrx
  exact fx_wbin hx hb ho hd hne (fx_nxt hgo (fun q hq => hsub q (List.mem_cons_of_mem _ hq)) hn ⟨hl0, ⟨by show Value.int _ = .int (Int32.ofNat (rx_n _)); rw [rx_n_of], hst2⟩, hrh, hrj, hls⟩ (Nat.le_refl _) (Nat.le_refl _))
def rx_uop (o : Nat) (z : Int32) : Int32 := match o with
  | 0 => - z
  | 1 => z.toInt8.toInt32
  | _ => (z.toUInt32 % 65536).toInt32
theorem rx_un {o x : Nat} (ho : o < 3) (hn : rx_nx l X Y B d cod K pc 1 tl loc (fc (rx_n (rx_uop o (Int32.ofNat x))) :: stk) h) : rx_run l X Y B d cod ((pc, 13, o, b, c) :: tl) loc (fc x :: stk) h K := by
  intro p e R s m args below meth c0 Q cc nL own ini rt F hR hsub hrt H locs ls st hs
  have hgo := rx_gok F hR hrt
  obtain ⟨hx, hb, -, -, -, -, -, -, -, -, hcod⟩ := F
  obtain ⟨hd, ha⟩ := hcod _ _ _ _ _ (hsub _ List.mem_cons_self) (by decide)
  obtain ⟨hl0, hst, hrh, hrj, hls⟩ := hs
  obtain ⟨wx, st, rfl, hrx, hst2⟩ := fx_rl_cons hst
  have hrx : wx = .int (Int32.ofNat x) := hrx
  subst hrx
  have KK := fx_nxt hgo (fun q hq => hsub q (List.mem_cons_of_mem _ hq)) hn (H := H) (locs := locs) (ls := ls) (st := .int (rx_uop o (Int32.ofNat x)) :: st) ⟨hl0, ⟨by show Value.int _ = .int (Int32.ofNat (rx_n _)); rw [rx_n_of], hst2⟩, hrh, hrj, hls⟩ (Nat.le_refl _) (Nat.le_refl _)
  rcases (by omega : o = 0 ∨ o = 1 ∨ o = 2) with rfl | rfl | rfl
  · exact lv_ineg hx hb hd KK
  · exact lv_i2b hx hb hd rfl KK
  · exact lv_i2c hx hb hd rfl KK
theorem rx_i2l {x : Nat} (hn : ∀ n, rx_nx l X Y B d cod K pc 1 tl loc (fl n :: stk) h) : rx_run l X Y B d cod ((pc, 13, 3, b, c) :: tl) loc (fc x :: stk) h K := by
  intro p e R s m args below meth c0 Q cc nL own ini rt F hR hsub hrt H locs ls st hs
  have hgo := rx_gok F hR hrt
  obtain ⟨hx, hb, -, -, -, -, -, -, -, -, hcod⟩ := F
  obtain ⟨hd, ha⟩ := hcod _ _ _ _ _ (hsub _ List.mem_cons_self) (by decide)
  obtain ⟨hl0, hst, hrh, hrj, hls⟩ := hs
  obtain ⟨wx, st, rfl, hrx, hst2⟩ := fx_rl_cons hst
  have hrx : wx = .int (Int32.ofNat x) := hrx
  subst hrx
  exact lv_i2l hx hb hd rfl (fx_nxt hgo (fun q hq => hsub q (List.mem_cons_of_mem _ hq)) (hn (rx_l (Int32.ofNat x).toInt64)) ⟨hl0, ⟨by show Value.long _ = .long (Int64.ofNat (rx_l _)); rw [rx_l_of], hst2⟩, hrh, hrj, hls⟩ (Nat.le_refl _) (Nat.le_refl _))
theorem rx_lbin {o x y : Nat} (hn : ∀ n, rx_nx l X Y B d cod K pc 1 tl loc (fl n :: stk) h) : rx_run l X Y B d cod ((pc, 24, o, b, c) :: tl) loc (fl y :: fl x :: stk) h K := by
  intro p e R s m args below meth c0 Q cc nL own ini rt F hR hsub hrt H locs ls st hs
  have hgo := rx_gok F hR hrt
  obtain ⟨hx, hb, -, -, -, -, -, -, -, -, hcod⟩ := F
  obtain ⟨hd, ha⟩ := hcod _ _ _ _ _ (hsub _ List.mem_cons_self) (by decide)
  have ho := ha.2.2.2.2.2.2.2.2.2.2.2.2.1 rfl
  obtain ⟨hl0, hst, hrh, hrj, hls⟩ := hs
  obtain ⟨wy, st1, rfl, hry, hst1⟩ := fx_rl_cons hst
  obtain ⟨wx, st, rfl, hrx, hst2⟩ := fx_rl_cons hst1
  have hry : wy = .long (Int64.ofNat y) := hry
  have hrx : wx = .long (Int64.ofNat x) := hrx
  subst hry; subst hrx
  have KK : ∀ z : Int64, W p l e R s m args below meth c0 H locs 0 0 Q (F0 m (pc + 1) ls (.long z :: st)) := fun z => fx_nxt hgo (fun q hq => hsub q (List.mem_cons_of_mem _ hq)) (hn (rx_l z)) ⟨hl0, ⟨by show Value.long _ = .long (Int64.ofNat (rx_l _)); rw [rx_l_of], hst2⟩, hrh, hrj, hls⟩ (Nat.le_refl _) (Nat.le_refl _)
  rcases (by omega : o = 0 ∨ o = 1 ∨ o = 2 ∨ o = 3) with rfl | rfl | rfl | rfl
  · exact lv_ladd hx hb hd (KK _)
  · exact lv_lsub hx hb hd (KK _)
  · exact lv_lmul hx hb hd (KK _)
  · exact lv_lor hx hb hd (KK _)
theorem rx_lshl {x y : Nat} (hn : ∀ n, rx_nx l X Y B d cod K pc 1 tl loc (fl n :: stk) h) : rx_run l X Y B d cod ((pc, 31, a, b, c) :: tl) loc (fc y :: fl x :: stk) h K := by
  intro p e R s m args below meth c0 Q cc nL own ini rt F hR hsub hrt H locs ls st hs
  have hgo := rx_gok F hR hrt
  obtain ⟨hx, hb, -, -, -, -, -, -, -, -, hcod⟩ := F
  obtain ⟨hd, ha⟩ := hcod _ _ _ _ _ (hsub _ List.mem_cons_self) (by decide)
  obtain ⟨hl0, hst, hrh, hrj, hls⟩ := hs
  obtain ⟨wy, st1, rfl, hry, hst1⟩ := fx_rl_cons hst
  obtain ⟨wx, st, rfl, hrx, hst2⟩ := fx_rl_cons hst1
  have hry : wy = .int (Int32.ofNat y) := hry
  have hrx : wx = .long (Int64.ofNat x) := hrx
  subst hry; subst hrx
  exact lv_lshl hx hb hd rfl (fx_nxt hgo (fun q hq => hsub q (List.mem_cons_of_mem _ hq)) (hn (rx_l _)) ⟨hl0, ⟨by show Value.long _ = .long (Int64.ofNat (rx_l _)); rw [rx_l_of], hst2⟩, hrh, hrj, hls⟩ (Nat.le_refl _) (Nat.le_refl _))
end RX
