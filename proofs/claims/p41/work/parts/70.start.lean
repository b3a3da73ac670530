def fx_g0 : fx_H := (114, [[.inr (.inl (9, [fr 1, fr 19, fr 33, fr 36, fr 49, fr 53, fr 56, fr 63, fr 64, fr 65, fr 66, fc 0, fc 0, fc 0, fc 4294967295, fc 4294967295])), .inr (.inl (4, [fr 2, fr 5, fc 0, fc 4294967295])), .inr (.inl (7, [fr 3, fr 4, fc 0, fc 0, fc 0, fc 0, fc 0, fl 0])), .inr (.inr (1, 1600, [])), .inr (.inr (3, 24, [(23, fl 51270206), (22, fl 13550), (21, fl 388708), (20, fl 279847), (19, fl 10502220), (18, fl 38446238), (17, fl 31735670), (16, fl 279252), (15, fl 118913), (14, fl 10631), (13, fl 1111), (12, fl 423), (11, fl 91904), (10, fl 411), (9, fl 10935548), (8, fl 6559778), (7, fl 247547), (6, fl 47), (5, fl 4797), (4, fl 189450486), (3, fl 267223), (2, fl 45611816222), (1, fl 79), (0, fl 158529)])), .inr (.inl (3, [fr 6, fr 7, fr 8, fr 9, fr 10, fr 11, fr 12, fr 13, fr 16, fc 4, fc 4, fc 0, fc 0, fc 0, fc 1, fc 0, fc 0, fc 0])), .inr (.inr (3, 4, [])), .inr (.inr (0, 4, [])), .inr (.inr (3, 7, [])), .inr (.inr (0, 7, [])), .inr (.inr (0, 7, [])), .inr (.inr (0, 7, [])), .inr (.inr (0, 7, [(6, fc 4294967295), (5, fc 4294967295), (4, fc 4294967295), (3, fc 4294967295), (2, fc 4294967295), (1, fc 4294967295), (0, fc 4294967295)])), .inr (.inl (1, [fr 14, fr 15, fc 1, fc 0])), .inr (.inr (0, 320, [])), .inr (.inr (0, 40, []))],
  [.inr (.inl (1, [fr 17, fr 18, fc 1, fc 0])), .inr (.inr (0, 320, [(0, fc 37)])), .inr (.inr (0, 40, [])), .inr (.inl (3, [fr 20, fr 21, fr 22, fr 23, fr 24, fr 25, fr 26, fr 27, fr 30, fc 4, fc 4, fc 0, fc 0, fc 0, fc 1, fc 0, fc 0, fc 0])), .inr (.inr (3, 4, [])), .inr (.inr (0, 4, [])), .inr (.inr (3, 7, [])), .inr (.inr (0, 7, [])), .inr (.inr (0, 7, [])), .inr (.inr (0, 7, [])), .inr (.inr (0, 7, [(6, fc 4294967295), (5, fc 4294967295), (4, fc 4294967295), (3, fc 4294967295), (2, fc 4294967295), (1, fc 4294967295), (0, fc 4294967295)])), .inr (.inl (1, [fr 28, fr 29, fc 1, fc 0])), .inr (.inr (0, 320, [])), .inr (.inr (0, 40, [])), .inr (.inl (1, [fr 31, fr 32, fc 1, fc 0])), .inr (.inr (0, 320, [(0, fc 37)]))],
  [.inr (.inr (0, 40, [])), .inr (.inl (6, [fr 34, fr 35, fc 0, fc 0, fc 0])), .inr (.inr (0, 7, [])), .inr (.inr (0, 7, [(6, fc 4294967295), (5, fc 4294967295), (4, fc 4294967295), (3, fc 4294967295), (2, fc 4294967295), (1, fc 4294967295), (0, fc 4294967295)])), .inr (.inl (8, [fr 37, fr 40, fr 41, fr 42, fr 43, fr 44, fr 45, fr 46, fr 47, fr 48, fz])), .inr (.inl (6, [fr 38, fr 39, fc 0, fc 0, fc 0])), .inr (.inr (0, 7, [])), .inr (.inr (0, 7, [])), .inr (.inr (0, 7, [])), .inr (.inr (0, 7, [])), .inr (.inr (0, 7, [])), .inr (.inr (0, 7, [])), .inr (.inr (0, 21, [])), .inr (.inr (0, 9, [])), .inr (.inr (0, 9, [])), .inr (.inr (0, 1024, []))],
  [.inr (.inr (0, 1024, [])), .inr (.inl (0, [fr 50, fc 0, fc 0])), .inr (.inl (5, [fc 41, fr 51, fr 52])), .inr (.inr (0, 697, [])), .inr (.inr (2, 41, [])), .inr (.inl (5, [fc 3, fr 54, fr 55])), .inr (.inr (0, 51, [])), .inr (.inr (2, 3, [])), .inr (.inl (2, [fr 57, fr 58, fr 59, fr 60, fr 61, fr 62, fc 0])), .inr (.inr (0, 30, [])), .inr (.inr (0, 30, [])), .inr (.inr (0, 30, [])), .inr (.inr (2, 30, [])), .inr (.inr (0, 30, [])), .inr (.inr (0, 30, [])), .inr (.inr (0, 7, []))],
  [.inr (.inr (0, 7, [])), .inr (.inr (0, 10, [])), .inr (.inr (0, 70, [])), .inr (.inl (10, [fr 68, fr 69, fc 0, fc 0, fc 0, fc 4294967295, fc 0, fc 0, fc 0, fc 0, fl 0, fr 70, fr 71, fr 72, fr 73, fr 74, fr 75, fr 76, fr 77, fr 78, fr 79, fr 80, fr 81, fr 82, fr 83, fr 84, fr 85, fr 86, fr 87, fr 88, fr 89, fr 90, fr 91, fr 92, fr 93, fr 94, fr 95, fc 0, fc 0, fc 0, fc 0, fc 0, fc 0, fc 0, fc 0, fc 0, fc 0, fc 0, fc 0, fc 0, fr 96, fr 97, fr 98, fc 0, fc 0, fr 99, fr 100, fc 0, fr 101, fr 102, fr 103, fr 104, fr 105, fr 106, fr 107, fr 108, fr 109, fr 110, fr 111, fc 0, fc 0, fr 112, fr 113])), .inr (.inr (1, 1620, [])), .inr (.inr (1, 1600, [])), .inr (.inr (0, 2, [(0, fc 4)])), .inr (.inr (0, 2, [(0, fc 4)])), .inr (.inr (0, 2, [])), .inr (.inr (0, 2, [])), .inr (.inr (0, 2, [])), .inr (.inr (0, 2, [])), .inr (.inr (0, 2, [])), .inr (.inr (0, 2, [(0, fc 1)])), .inr (.inr (0, 2, [])), .inr (.inr (0, 8, []))],
  [.inr (.inr (0, 14, [])), .inr (.inr (0, 14, [])), .inr (.inr (0, 14, [])), .inr (.inr (0, 14, [])), .inr (.inr (0, 4, [])), .inr (.inr (0, 4, [])), .inr (.inr (2, 4, [])), .inr (.inr (2, 2, [])), .inr (.inr (2, 2, [])), .inr (.inr (3, 8, [])), .inr (.inr (3, 14, [])), .inr (.inr (0, 1120, [])), .inr (.inr (0, 1120, [])), .inr (.inr (0, 90, [])), .inr (.inr (0, 90, [])), .inr (.inr (0, 60, []))],
  [.inr (.inr (0, 17, [(13, fc 4294967295), (12, fc 4294967295), (11, fc 4294967295), (10, fc 4294967295), (9, fc 4294967295), (8, fc 4294967295), (7, fc 4294967295)])), .inr (.inr (0, 7, [])), .inr (.inr (0, 697, [])), .inr (.inr (0, 7, [])), .inr (.inr (0, 7, [])), .inr (.inr (0, 17, [])), .inr (.inr (0, 7, [])), .inr (.inr (0, 7, [])), .inr (.inr (0, 1000, [])), .inr (.inr (0, 30, [])), .inr (.inr (0, 30, [])), .inr (.inr (0, 30, [])), .inr (.inr (0, 30, [])), .inr (.inr (0, 30, [])), .inr (.inr (0, 30, [])), .inr (.inr (0, 10, []))],
  [.inr (.inr (0, 51, [])), .inr (.inr (2, 3, []))]])
def fx_l0 : fx_L := [(3, fc 0), (2, fr 67), (1, fr 0), (0, fr 1000000)]
def fx_jf : fx_J := [(0, 4294967295), (0, 4294967295), (0, 4294967295), (0, 4294967295), (0, 4294967295), (0, 4294967295), (0, 4294967295), (0, 4294967295), (0, 4294967295)]
def fx_jo (a b : Nat) : fx_J := [(0, 4294967295), (0, 4294967295), (0, 4294967295), (0, 4294967295), (0, 4294967295), (0, 4294967295), (0, 4294967295), (a, b), (2147483654, 2147483654)]
def fx_jl : fx_J := [(0, 4294967295), (0, 4294967295), (0, 4294967295), (0, 4294967295), (0, 4294967295), (0, 4294967295), (0, 4294967295), (0, 4294967295), (2147483648, 2147483653)]
noncomputable def fx_ev (S : fx_Z) (kc : fx_L → fx_H → fx_J → Bool) : fx_E := (fx_mt, fx_swt, fx_cd, S, kc)
noncomputable def fx_s0z : fx_Z := fun _ _ _ => none
noncomputable def fx_kt1 (v : Option fx_V) : Bool := match v with
  | some (.inl n) => Nat.beq n 1
  | _ => false
noncomputable def fx_vq (x y : fx_V) : Bool := match x, y with
  | .inl a, .inl b => Nat.beq a b
  | .inr (.inl a), .inr (.inl b) => Nat.beq a b
  | .inr (.inr (.inl none)), .inr (.inr (.inl none)) => true
  | .inr (.inr (.inl (some a))), .inr (.inr (.inl (some b))) => Nat.beq a b
  | .inr (.inr (.inr a)), .inr (.inr (.inr b)) => Nat.beq a b
  | _, _ => false
theorem fx_vq_ok {x y : fx_V} (h : fx_vq x y = true) : x = y := by
  rcases x with a | a | a | a <;> rcases y with b | b | b | b
  · have := fx_beq (show Nat.beq a b = true from h); rw [this]
  · cases h
  · cases h
  · cases h
  · cases h
  · have := fx_beq (show Nat.beq a b = true from h); rw [this]
  · cases h
  · cases h
  · cases a <;> cases h
  · cases a <;> cases h
  · cases a with
    | none =>
      cases b with
      | none => rfl
      | some b => cases h
    | some a =>
      cases b with
      | none => cases h
      | some b => have := fx_beq (show Nat.beq a b = true from h); rw [this]
  · cases a <;> cases h
  · cases h
  · cases h
  · cases h
  · have := fx_beq (show Nat.beq a b = true from h); rw [this]
noncomputable def fx_lq {α : Type} (f : α → α → Bool) (l : List α) : List α → Bool := List.rec (motive := fun _ => List α → Bool) (fun m => match m with
    | [] => true
    | _ :: _ => false) (fun a _ ih m => match m with
    | [] => false
    | b :: m => f a b && ih m) l
theorem fx_lq_ok {α : Type} {f : α → α → Bool} (hf : ∀ a b, f a b = true → a = b) : ∀ {l m : List α}, fx_lq f l m = true → l = m := by
  intro l
  induction l with
  | nil =>
    intro m h
    cases m with
    | nil => rfl
    | cons b m => cases h
  | cons a l ih =>
    intro m h
    cases m with
    | nil => cases h
    | cons b m =>
      obtain ⟨h1, h2⟩ := fx_and (a := f a b) (b := fx_lq f l m) h
      rw [hf a b h1, ih h2]
noncomputable def fx_nq (a b : Nat × fx_V) : Bool := Nat.beq a.1 b.1 && fx_vq a.2 b.2
theorem fx_nq_ok (a b : Nat × fx_V) (h : fx_nq a b = true) : a = b := by
  obtain ⟨h1, h2⟩ := fx_and h
  exact Prod.ext (fx_beq h1) (fx_vq_ok h2)
noncomputable def fx_cq (x y : fx_C) : Bool := match x, y with
  | .inl _, .inl _ => true
  | .inr (.inl (a, f)), .inr (.inl (b, g)) => Nat.beq a b && fx_lq fx_vq f g
  | .inr (.inr (a, n, f)), .inr (.inr (b, k, g)) => Nat.beq a b && (Nat.beq n k && fx_lq fx_nq f g)
  | _, _ => false
theorem fx_cq_ok (x y : fx_C) (h : fx_cq x y = true) : x = y := by
  rcases x with a | ⟨a, f⟩ | ⟨a, n, f⟩ <;> rcases y with b | ⟨b, g⟩ | ⟨b, k, g⟩
  · rfl
  · cases h
  · cases h
  · cases h
  · obtain ⟨h1, h2⟩ := fx_and (a := Nat.beq a b) (b := fx_lq fx_vq f g) h
    rw [fx_beq h1, fx_lq_ok (fun _ _ => fx_vq_ok) h2]
  · cases h
  · cases h
  · cases h
  · obtain ⟨h1, h2⟩ := fx_and (a := Nat.beq a b) (b := (Nat.beq n k && fx_lq fx_nq f g)) h
    obtain ⟨h2, h3⟩ := fx_and h2
    rw [fx_beq h1, fx_beq h2, fx_lq_ok fx_nq_ok h3]
noncomputable def fx_hq (x y : fx_H) : Bool := Nat.beq x.1 y.1 && fx_lq (fx_lq fx_cq) x.2 y.2
theorem fx_hq_ok {x y : fx_H} (h : fx_hq x y = true) : x = y := by
  obtain ⟨h1, h2⟩ := fx_and h
  exact Prod.ext (fx_beq h1) (fx_lq_ok (fun _ _ => fx_lq_ok fx_cq_ok) h2)
noncomputable def fx_kc1 : fx_L → fx_H → fx_J → Bool := fun loc h _ => fx_lq fx_nq loc fx_l0 && fx_hq h fx_g0
set_option maxRecDepth 100000 in
theorem fx_run_new : fx_go (fx_ev fx_s0z fx_kc1) 20000 20 fw_new fw_new [(0, fr 1000000)] [] 0 0 1000 100000 (0, []) fx_jf (fun _ _ _ => false) = true := by decide +kernel
-- ===== end of PART A; then your names; then what follows =====
/-! THE CLAIM OUT OF ONE WALK OF THE LAW'S BODY. Your part is whole_start (and what it stands on); all else here is the same for every law, but numbers. -/
def R_law : String := "FaceSenateLaw"
def lw_P (b : Addr) (xs : List Int32) (args : Array Value) (s : State) : Prop := args = #[.ref b] ∧ s.IntsAt b xs ∧ xs.length ≤ 3072 ∧ (Jvm.Cond.and given_1 narrow_1).before args s = true
def lw_Q (_ : Array Value) (s : State) (o : Outcome) (t : State) : Prop := o = .returned (some (.int 1)) ∧ Framed s o t [] 600000 7302250
def lw_Z (below : List Frame) (a : Array Value) (s : State) : State → Prop := fun t => ∃ o, t.status = .running ∧ Ended t below o ∧ lw_Q a s o t
/-- the law's own end, with 1 on the stack, nothing written that was there before, its room as the claim has it -/
theorem lw_ret {p : Program} {l : Launch} {e : Env} {s : State} {m : MethodId} {below : List Frame} {meth : Method} {c : Code} {b : Nat} (hx : p.tables.exec = Jvm.exec) (hb : c.code = code) (hr : meth.sig.returnType = ret) (hlocks : meth.locks = false) {pc : Nat} {H : Heap} {ls : Array Slot} (hdg : decode code pc = .ok (.ireturn, 1)) : W p l e room_1 s m #[Value.ref b] below meth c H [] 600000 7302250 (lw_Z below #[Value.ref b] s) (F0 m pc ls [.int 1]) := by
  intro T hT X
  obtain ⟨fs, hret, hrun, hended, hW, hframe⟩ := X.leave (v := some (.int 1)) (hlocks := hlocks) (fun h => by rw [hr] at h; cases h)
  have hmeth' : T.vm.method? m = some meth := X.method'
  refine ⟨T.setFrames fs, ?_, .returned (some (.int 1)), hrun, hended, rfl, ⟨_, rfl⟩, hW, hframe⟩
  jvm_step X.here [X.here.top, hx, hb, hdg, hmeth', hr, ret, narrow_b1]
  (try refine ⟨rfl, ?_⟩); (try refine ⟨rfl, ?_⟩)
  first | (intro acts; rw [hret _ acts rfl rfl rfl]) | rw [hret _ _ rfl rfl rfl]
  exact Steps.refl _
/-- what holds at the law's entry: the machine, the code, the tables' words (any of lw_tbl by 'hts w (by decide +kernel)'), the script of L ints xs at the cell b, what the Statement gives of the start (any of its parts by flat_of_before) -/
def lw_At (p : Program) (s : State) (m : MethodId) (meth : Method) (c : Code) (b L : Nat) (xs : Nat → Int32) : Prop :=
  p.tables.exec = Jvm.exec ∧ c.code = code ∧ meth.sig.returnType = ret ∧ c.maxLocals = 4 ∧ s.vm.findClass R_law = some m.cls ∧ (∀ w ∈ lw_tbl, w.before #[Value.ref b] s = true) ∧ va_X b L xs s s.heap ∧ b < s.heap.size ∧ meth.locks = false ∧ (Jvm.Cond.and given_1 narrow_1).before #[Value.ref b] s = true
theorem fx_law_new : fx_codB 17 false (some .boolean) 4 code (fw_new.filter (fun q => !Nat.beq q.2.1 28)) = true := by decide +kernel
theorem fx_nst_in : ∀ q ∈ fx_nst, Cond.methodLinkNest q.1 q.2.1 q.2.2.1 q.2.2.2 ∈ lw_tbl := by decide +kernel
theorem fx_str_in : Cond.stringRef "FaceSenate$Tape" 39 fx_lit ∈ lw_tbl := by decide +kernel
theorem fx_sts_in : Cond.laysStatic "java/lang/String" "COMPACT_STRINGS" "Z" ∈ lw_tbl ∧ Cond.initialized "java/lang/String" ∈ lw_tbl ∧ Cond.laysStatic "jdk/internal/util/Preconditions" "SIOOBE_FORMATTER" "Ljava/util/function/BiFunction;" ∈ lw_tbl ∧ Cond.initialized "jdk/internal/util/Preconditions" ∈ lw_tbl := by decide +kernel
abbrev fx_tm : Term := Term.string "FaceSenate$Tape" 39
abbrev fx_tv : Term := Term.field fx_tm "java/lang/String" "value" "[B"
set_option maxRecDepth 100000 in
theorem fx_nar_in : Cond.exactly fx_tm "java/lang/String" ∈ flatC (Jvm.Cond.and given_1 narrow_1) ∧ Cond.eq (.field fx_tm "java/lang/String" "coder" "B") (.int 0) ∈ flatC (Jvm.Cond.and given_1 narrow_1) ∧ Cond.arrayOf fx_tv .byte ∈ flatC (Jvm.Cond.and given_1 narrow_1) ∧ Cond.eq (.length fx_tv) (.int (Int32.ofNat 123)) ∈ flatC (Jvm.Cond.and given_1 narrow_1) ∧ Cond.eq (.static "java/lang/String" "COMPACT_STRINGS" "Z") (.int 1) ∈ flatC (Jvm.Cond.and given_1 narrow_1) ∧ Cond.isRef (.static "jdk/internal/util/Preconditions" "SIOOBE_FORMATTER" "Ljava/util/function/BiFunction;") ∈ flatC (Jvm.Cond.and given_1 narrow_1) := by decide +kernel
set_option maxRecDepth 100000 in
theorem fx_nar_el : ∀ j, j < 123 → Cond.eq (.elem fx_tv (.int (Int32.ofNat j))) (.int (Int32.ofNat (fx_txt.getD j 0))) ∈ flatC (Jvm.Cond.and given_1 narrow_1) := by decide +kernel
theorem fx_str_in2 : Cond.stringRef "FaceSenate$Tape" 73 fx_lit2 ∈ lw_tbl := by decide +kernel
abbrev fx_tm2 : Term := Term.string "FaceSenate$Tape" 73
abbrev fx_tv2 : Term := Term.field fx_tm2 "java/lang/String" "value" "[B"
set_option maxRecDepth 100000 in
theorem fx_nar_in2 : Cond.exactly fx_tm2 "java/lang/String" ∈ flatC (Jvm.Cond.and given_1 narrow_1) ∧ Cond.eq (.field fx_tm2 "java/lang/String" "coder" "B") (.int 0) ∈ flatC (Jvm.Cond.and given_1 narrow_1) ∧ Cond.arrayOf fx_tv2 .byte ∈ flatC (Jvm.Cond.and given_1 narrow_1) ∧ Cond.eq (.length fx_tv2) (.int (Int32.ofNat 11)) ∈ flatC (Jvm.Cond.and given_1 narrow_1) := by decide +kernel
set_option maxRecDepth 100000 in
theorem fx_nar_el2 : ∀ j, j < 11 → Cond.eq (.elem fx_tv2 (.int (Int32.ofNat j))) (.int (Int32.ofNat (fx_txt2.getD j 0))) ∈ flatC (Jvm.Cond.and given_1 narrow_1) := by decide +kernel
theorem fx_txt_map2 (j : Nat) : (fx_txt2.map Int32.ofNat).getD j 0 = Int32.ofNat (fx_txt2.getD j 0) := by
  rw [List.getD_eq_getElem?_getD, List.getD_eq_getElem?_getD, List.getElem?_map]
  cases fx_txt2[j]? <;> rfl
theorem fx_tbs {b : Nat} {s : State} (hts : ∀ w ∈ lw_tbl, w.before #[Value.ref b] s = true) : ∀ w ∈ fx_tb, w.before #[Value.ref b] s = true := fun w hw => hts w (List.mem_filter.mp hw).1
theorem fx_txt_map (j : Nat) : (fx_txt.map Int32.ofNat).getD j 0 = Int32.ofNat (fx_txt.getD j 0) := by
  rw [List.getD_eq_getElem?_getD, List.getD_eq_getElem?_getD, List.getElem?_map]
  cases fx_txt[j]? <;> rfl
/-- what the law's start gives -/
theorem fx_enter {s : State} {b L : Nat} {xs : Nat → Int32} (hts : ∀ w ∈ lw_tbl, w.before #[Value.ref b] s = true) (hX : va_X b L xs s s.heap) (hbl : b < s.heap.size) (hL : L ≤ 3072) (hgv : (Jvm.Cond.and given_1 narrow_1).before #[Value.ref b] s = true) : ∃ (X : fx_X) (Y : fx_Y) (B : fx_B), fx_xx X B ∧ fx_cx X Y B s ∧ X.2.1 = s.heap.size ∧ Y.2.2.1 = s.heap ∧ B.1 = b ∧ B.2.1 = L := by
  have hs := flat_of_before _ hgv
  have htb := fx_tbs hts
  have hno : ∀ q : Nat, q < s.heap.size → ¬ (fun q : Nat => s.heap.size ≤ q) q := fun q h1 h2 => Nat.not_le.mpr h1 h2
  have hK : ∀ ci : Nat, ∃ q : ClassId × (Nat → Nat), ∀ r : vw_C, fx_cl[ci]? = some r → u_Kn s r.1 r.2.1 r.2.2 q.1 q.2 := by
    intro ci
    cases hc : fx_cl[ci]? with
    | none => exact ⟨(0, fun _ => 0), fun r hr => by cases hr⟩
    | some r =>
      obtain ⟨C, T, N⟩ := r
      obtain ⟨fs, -, hu, -, -, hins, -⟩ := fx_clok hc
      obtain ⟨cC, iS, h⟩ := u_known (n := N) htb hu (htb _ hins)
      exact ⟨(cC, iS), fun r hr => by cases hr; exact h⟩
  obtain ⟨D, hD⟩ := Classical.axiomOfChoice hK
  have hA : ∀ t : Nat, ∃ cA : ClassId, t < 4 → ArrOfT s cA (fx_ty t) ∧ s.vm.findClass ("[" ++ (fx_ty t).toString) = some cA := by
    intro t
    by_cases ht : t < 4
    · obtain ⟨cA, kA, comp, h1, h2, h3⟩ := Cond.arrayClass_spec (htb _ (fx_wd_ok.1 t ht))
      exact ⟨cA, fun _ => ⟨fun n z => ⟨fun k h => (by cases h), kA, h2, comp, h3⟩, h1⟩⟩
    · exact ⟨0, fun h => absurd h ht⟩
  obtain ⟨cy, hcy⟩ := Classical.axiomOfChoice hA
  obtain ⟨n1, n2, n3, n4, n5, n6⟩ := fx_nar_in
  obtain ⟨adK, adV, hS, hev⟩ := vk_Sof (args := #[Value.ref b]) (s := s) (N := 1) (tm := fun _ => fx_tm) (len := [123]) (byt := [fx_txt.map Int32.ofNat]) (A := fun q => s.heap.size ≤ q)
    (fun i hi => by obtain rfl : i = 0 := by omega
                    decide) (fun i hi => hs _ n1) (fun i hi => hs _ n2) (fun i hi => hs _ n3)
    (fun i hi => by obtain rfl : i = 0 := by omega
                    exact hs _ n4)
    (fun i hi j hj => by
      obtain rfl : i = 0 := by omega
      have h1 := hs _ (fx_nar_el j hj)
      show (Cond.eq (.elem fx_tv (.int (Int32.ofNat j))) (.int ((fx_txt.map Int32.ofNat).getD j 0))).before _ s = true
      rw [fx_txt_map]
      exact h1) (fun i j hi hj hij => absurd (by omega : i = j) hij) hno
  obtain ⟨k1, k2, k3, k4⟩ := hS.1 0 (by decide)
  have k4 : va_T .byte (adV 0) 123 (fun j => .int (Int32.ofNat (fx_txt.getD j 0))) (fun q => s.heap.size ≤ q) s s.heap := by
    have e : (fun j : Nat => Value.int (Int32.ofNat (fx_txt.getD j 0))) = (fun j : Nat => Value.int ((fx_txt.map Int32.ofNat).getD j 0)) := by
      funext j
      rw [fx_txt_map]
    rw [e]
    exact k4
  obtain ⟨o1, o2, o3, o4⟩ := fx_nar_in2
  obtain ⟨adK2, adV2, hS2, hev2⟩ := vk_Sof (args := #[Value.ref b]) (s := s) (N := 1) (tm := fun _ => fx_tm2) (len := [11]) (byt := [fx_txt2.map Int32.ofNat]) (A := fun q => s.heap.size ≤ q)
    (fun i hi => by obtain rfl : i = 0 := by omega
                    decide) (fun i hi => hs _ o1) (fun i hi => hs _ o2) (fun i hi => hs _ o3)
    (fun i hi => by obtain rfl : i = 0 := by omega
                    exact hs _ o4)
    (fun i hi j hj => by
      obtain rfl : i = 0 := by omega
      have h1 := hs _ (fx_nar_el2 j hj)
      show (Cond.eq (.elem fx_tv2 (.int (Int32.ofNat j))) (.int ((fx_txt2.map Int32.ofNat).getD j 0))).before _ s = true
      rw [fx_txt_map2]
      exact h1) (fun i j hi hj hij => absurd (by omega : i = j) hij) hno
  obtain ⟨kk1, kk2, kk3, kk4⟩ := hS2.1 0 (by decide)
  have kk4 : va_T .byte (adV2 0) 11 (fun j => .int (Int32.ofNat (fx_txt2.getD j 0))) (fun q => s.heap.size ≤ q) s s.heap := by
    have e : (fun j : Nat => Value.int (Int32.ofNat (fx_txt2.getD j 0))) = (fun j : Nat => Value.int ((fx_txt2.map Int32.ofNat).getD j 0)) := by
      funext j
      rw [fx_txt_map2]
    rw [e]
    exact kk4
  obtain ⟨s1, s2, s3, s4⟩ := fx_sts_in
  have hz1 := va_Zof (A := fun q => s.heap.size ≤ q) (hts _ s1) (hts _ s2) (va_eqi (hs _ n5)) hno
  have hz2 := va_Zqof (A := fun q => s.heap.size ≤ q) (hts _ s3) (hts _ s4) (hs _ n6) hno
  obtain ⟨v3, hv3, hz3⟩ : ∃ v3 : Value, (v3 = .null ∨ ∃ t, v3 = .ref t) ∧ va_Z "jdk/internal/util/Preconditions" "SIOOBE_FORMATTER" "Ljava/util/function/BiFunction;" v3 (fun q => s.heap.size ≤ q) s s.heap := by
    rcases hz2 with h | ⟨t, h⟩
    · exact ⟨_, Or.inl rfl, h⟩
    · exact ⟨_, Or.inr ⟨t, rfl⟩, h⟩
  refine ⟨(fun i => if i = 7 then xs 0 &&& 63 else if i = 8 then Int32.ofNat L else xs (i - 1), s.heap.size, fun k => if k = 0 then .ref b else if k = 1 then .ref (adK 0) else if k = 2 then .ref (adV 0) else if k = 3 then v3 else if k = 4 then .ref (adK2 0) else if k = 5 then .ref (adV2 0) else .null), ((fun ci => (D ci).1, fun ci => (D ci).2), cy, s.heap, s.heap), (b, L, xs, adK 0, adV 0), ?_, ?_, rfl, rfl, rfl, rfl⟩
  · refine ⟨fun k => ?_, rfl, fun n hn => ?_, rfl, hL, rfl, rfl, rfl, hbl⟩
    · unfold fx_ad
      by_cases hk : k < 1000000
      · rw [if_pos hk]
        exact ⟨rfl, Or.inr ⟨_, rfl⟩⟩
      · rw [if_neg hk]
        simp only
        split
        · exact ⟨rfl, Or.inr ⟨_, rfl⟩⟩
        · split
          · exact ⟨rfl, Or.inr ⟨_, rfl⟩⟩
          · split
            · exact ⟨rfl, Or.inr ⟨_, rfl⟩⟩
            · split
              · rcases hv3 with rfl | ⟨t, rfl⟩
                · exact ⟨rfl, Or.inl rfl⟩
                · exact ⟨rfl, Or.inr ⟨_, rfl⟩⟩
              · split
                · exact ⟨rfl, Or.inr ⟨_, rfl⟩⟩
                · split
                  · exact ⟨rfl, Or.inr ⟨_, rfl⟩⟩
                  · exact ⟨rfl, Or.inl rfl⟩
    · show (if n + 1 = 7 then _ else if n + 1 = 8 then _ else xs (n + 1 - 1)) = xs n
      rw [if_neg (by omega), if_neg (by omega)]
      rfl
  · exact ⟨fun ci q hq => hD ci q hq, fun t ht => hcy t ht, fun q hq => va_Nw.of rfl (hts _ (fx_nst_in q hq)), ⟨vk_R.of (hts _ fx_str_in) (hev 0 (by decide)), adK2 0, adV2 0, rfl, rfl, vk_R.of (hts _ fx_str_in2) (hev2 0 (by decide)), kk1, kk3, kk2, kk4⟩, hz1, hz3, k1, k3, k2, k4, hX⟩
/-- no int but those below 64 -/
theorem fx_and63 (x : Int32) : ∃ n, n < 64 ∧ x &&& 63 = Int32.ofNat n := by
  refine ⟨(x &&& 63).toBitVec.toNat, ?_, ?_⟩
  · rw [Int32.toBitVec_and]
    show (x.toBitVec.toNat &&& 63) < 64
    exact Nat.lt_succ_of_le Nat.and_le_right
  · apply Int32.toBitVec_inj.1
    rw [Int32.toBitVec_ofNat']
    apply BitVec.eq_of_toNat_eq
    rw [BitVec.toNat_ofNat]
    exact (Nat.mod_eq_of_lt (x &&& 63).toBitVec.isLt).symm
theorem fx_bsm {n : Nat} (h : n < 2147483648) : fx_b n = n + 2147483648 := by
  show (n + 2147483648) % 4294967296 = _
  omega
/-- intervals: whatever the script is; its length and what is called told -/
theorem fx_rj9 {X : fx_X} {q7 q8 : Nat × Nat} (h7 : q7.1 ≤ fx_z (X.1 7) ∧ fx_z (X.1 7) ≤ q7.2) (h8 : q8.1 ≤ fx_z (X.1 8) ∧ fx_z (X.1 8) ≤ q8.2) : fx_rj X [(0, 4294967295), (0, 4294967295), (0, 4294967295), (0, 4294967295), (0, 4294967295), (0, 4294967295), (0, 4294967295), q7, q8] := by
  have hf : ∀ i, (0 : Nat) ≤ fx_z (X.1 i) ∧ fx_z (X.1 i) ≤ 4294967295 := fun i => ⟨Nat.zero_le _, Nat.le_of_lt_succ (fx_z_max _)⟩
  intro i q hq
  rcases i with _ | _ | _ | _ | _ | _ | _ | _ | _ | i
  · cases hq; exact hf _
  · cases hq; exact hf _
  · cases hq; exact hf _
  · cases hq; exact hf _
  · cases hq; exact hf _
  · cases hq; exact hf _
  · cases hq; exact hf _
  · cases hq; exact h7
  · cases hq; exact h8
  · simp at hq
section FXS
variable {p : Program} {e : Env} {s : State} {m : MethodId} {below : List Frame} {meth : Method} {c : Code} {l : Launch} {b L : Nat} {xs : Nat → Int32} {X : fx_X} {Y : fx_Y} {B : fx_B}
theorem fx_lawfs {w : List fx_I} (C0 : lw_At p s m meth c b L xs) (hcx : fx_cx X Y B s) (hbase : X.2.1 = s.heap.size) (hw : ∀ pc kd a b' d, (pc, kd, a, b', d) ∈ w → kd ≠ 28 → decode code pc = .ok (fx_ins pc kd a b' d) ∧ fx_an fx_mst fx_mt (fx_cn 17) false (some .boolean) 4 kd a b' d) : fx_fs X Y B fx_mst fx_mt p s m #[Value.ref b] meth c code 4 R_law false (some .boolean) w := by
  obtain ⟨hx, hb, hr, hml, hown, hts, hX, hbl, hlocks, hgv⟩ := C0
  exact ⟨hx, hb, hml, hown, fx_tbs hts, hlocks, (fun q => by cases q), hr, hcx, (by rw [hbase]; exact Nat.le_refl _), hw⟩
theorem fx_lawrt (C0 : lw_At p s m meth c b L xs) (hbase : X.2.1 = s.heap.size) {mc ms : Nat} (hmc : mc ≤ 600000) (hms : ms ≤ 7302250) : fx_rt l X Y p e room_1 s m #[Value.ref b] below meth c (lw_Z below #[Value.ref b] s) code (some .boolean) mc ms (fun v _ _ => fx_kt1 v) := by
  obtain ⟨hx, hb, hr, hml, hown, hts, hX, hbl, hlocks, hgv⟩ := C0
  intro v w h j H locs ce sl pc ls hk hro hrh hrj hls hce hsl hrets
  rcases v with _ | v
  · cases hk
  rcases v with n | n | n | n
  · have hn := fx_beq (show Nat.beq n 1 = true from hk)
    subst hn
    rcases w with _ | w
    · exact False.elim hro
    have hw : w = .int (Int32.ofNat 1) := hro
    subst hw
    rcases hrets with ⟨q, -⟩ | ⟨z, ty, q, -, -, hd⟩ | ⟨z, q, -⟩
    · cases q
    · refine va_forget (fun q hq => by rw [← hbase]; exact hls q hq) ?_
      refine W.widen (k := 600000) (n := 7302250) (by omega) (by omega) ?_
      exact lw_ret hx hb hr hlocks hd
    · cases q
  · cases hk
  · cases hk
  · cases hk
end FXS
theorem fx_sum0 {l : Launch} {X : fx_X} {Y : fx_Y} {B : fx_B} {kc : fx_L → fx_H → fx_J → Bool} : fx_sum l X Y B fx_mst (fx_ev fx_s0z kc) := fun c S M as h v h' _ _ hs => by cases hs
