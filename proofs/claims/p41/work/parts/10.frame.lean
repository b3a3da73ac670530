/-- the words that stay -/
def fx_tb : List Cond := lw_tbl.filter goodWord
theorem fx_tbi {w : Cond} (h1 : w ∈ lw_tbl) (h2 : goodWord w = true) : w ∈ fx_tb := List.mem_filter.mpr ⟨h1, h2⟩
abbrev fx_cl : List vw_C := [(RX0, TX0, 3), (RX1, TX1, 4), (RX2, TX2, 7), (RX3, TX3, 18), (RX4, TX4, 4), (RX5, TX5, 3), (RX6, TX6, 5), (RX7, TX7, 8), (RX8, TX8, 11), (RX9, TX9, 16), (RX10, TX10, 73)]
def fx_ty (t : Nat) : FieldType := match t with
  | 0 => .int
  | 1 => .byte
  | 2 => .boolean
  | _ => .long
def fx_i0 (a b : Nat) : Instr × Nat := match b with
  | 0 => (.iload_n (Fin.ofNat 4 a), 1)
  | 1 => (.iload a, 2)
  | 2 => (.aload_n (Fin.ofNat 4 a), 1)
  | 3 => (.aload a, 2)
  | 4 => (.lload_n (Fin.ofNat 4 a), 1)
  | _ => (.lload a, 2)
def fx_i11 (a b : Nat) : Instr × Nat := match b with
  | 0 => (.istore_n (Fin.ofNat 4 a), 1)
  | 1 => (.istore a, 2)
  | 2 => (.astore_n (Fin.ofNat 4 a), 1)
  | 3 => (.astore a, 2)
  | 4 => (.lstore_n (Fin.ofNat 4 a), 1)
  | _ => (.lstore a, 2)
def fx_i2 (a b c : Nat) : Instr × Nat := match a with
  | 0 => (.iconst (Int32.ofNat c).toInt, 1)
  | 1 => (.bipush (Int32.ofNat c).toInt, 2)
  | 2 => (.sipush (Int32.ofNat c).toInt, 3)
  | 3 => (.ldc b, 2)
  | 4 => (.ldc_w b, 3)
  | 5 => (.lconst (Fin.ofNat 2 c), 1)
  | 6 => (.ldc2_w b, 3)
  | _ => (.aconst_null, 1)
def fx_cc (a : Nat) : Jvm.ClassFile.Cond := match a with
  | 0 => .eq
  | 1 => .ne
  | 2 => .lt
  | 3 => .ge
  | 4 => .gt
  | _ => .le
def fx_bop (o : Nat) : Instr := match o with
  | 0 => .iadd
  | 1 => .isub
  | 2 => .imul
  | 3 => .idiv
  | 4 => .irem
  | 5 => .iand
  | 6 => .ior
  | 7 => .ixor
  | 8 => .ishl
  | 9 => .ishr
  | _ => .iushr
def fx_uop (o : Nat) : Instr := match o with
  | 0 => .ineg
  | 1 => .i2b
  | 2 => .i2c
  | _ => .i2l
def fx_lop (o : Nat) : Instr := match o with
  | 0 => .ladd
  | 1 => .lsub
  | 2 => .lmul
  | _ => .lor
def fx_sop (o : Nat) : Instr := match o with
  | 0 => .dup
  | 1 => .pop
  | 2 => .dup2
  | 3 => .dup_x1
  | _ => .dup_x2
def fx_aop (o : Nat) : Instr := match o with
  | 0 => .iaload
  | 1 => .baload
  | _ => .laload
def fx_asp (o : Nat) : Instr := match o with
  | 0 => .iastore
  | 1 => .bastore
  | _ => .lastore
def fx_at (o : Nat) : ArrayType := match o with
  | 0 => .int
  | 1 => .byte
  | 2 => .boolean
  | _ => .long
def fx_rop (o : Nat) : Instr := match o with
  | 0 => .ireturn
  | 1 => .return_
  | _ => .lreturn
def fx_cop (a b : Nat) : Instr := match a with
  | 0 => .invokevirtual b
  | 1 => .invokespecial b
  | 2 => .invokestatic b
  | 3 => .invokespecial b
  | _ => .invokestatic b
noncomputable def fx_tl (c : Nat) : List Nat := fx_swt c
noncomputable def fx_ins (pc kd a b c : Nat) : Instr × Nat := match kd with
  | 0 => fx_i0 a b
  | 1 => (.getfield a, 3)
  | 2 => fx_i2 a b c
  | 3 => (.if_icmp (fx_cc a) ((b : Int) - (pc : Int)), 3)
  | 4 => (.ifCond (fx_cc a) ((b : Int) - (pc : Int)), 3)
  | 5 => (.goto ((b : Int) - (pc : Int)), 3)
  | 6 => (fx_aop a, 1)
  | 7 => (.iinc a (Int32.ofNat b).toInt, 3)
  | 8 => (fx_asp a, 1)
  | 9 => (fx_cop a b, 3)
  | 10 => (fx_rop a, 1)
  | 11 => fx_i11 a b
  | 12 => (fx_bop a, 1)
  | 13 => (fx_uop a, 1)
  | 14 => (.putfield a, 3)
  | 15 => (fx_sop a, 1)
  | 16 => (.new a, 3)
  | 17 => (.newarray (fx_at a), 2)
  | 18 => (.arraylength, 1)
  | 19 => (match a with
    | 0 => .ifnull ((b : Int) - (pc : Int))
    | _ => .ifnonnull ((b : Int) - (pc : Int)), 3)
  | 20 => (.tableswitch ((a : Int) - (pc : Int)) b ((b : Int) + (fx_swt c).length - 1) ((fx_swt c).map (fun (t : Nat) => (t : Int) - (pc : Int))).toArray, 13 + (3 - pc % 4) + 4 * (fx_swt c).length)
  | 21 => (.lookupswitch ((a : Int) - (pc : Int)) ((fx_swt c).mapIdx (fun i (t : Nat) => ((b : Int) + i, (t : Int) - (pc : Int)))).toArray, 9 + (3 - pc % 4) + 8 * (fx_swt c).length)
  | 22 => (.invokespecial a, 3)
  | 23 => (.invokestatic a, 3)
  | 24 => (fx_lop a, 1)
  | 25 => (.getfield a, 3)
  | 26 => (.getstatic a, 3)
  | 29 => (.invokestatic a, 3)
  | 30 => (.lcmp, 1)
  | 31 => (.lshl, 1)
  | _ => (.ldc a, 2)
/-- the methods by number: name, bytes, slots, type -/
abbrev fx_S : Type := MethodName × (ByteArray × (Nat × Option FieldType))
abbrev fx_nst : List (String × (Nat × (MethodName × String))) := [("FaceSenate", 9, yX4_init, "FaceSenate"), ("FaceSenate$Plan", 36, yX1_init, "FaceSenate"), ("FaceSenate", 25, yX6_init, "FaceSenate"), ("FaceSenate", 32, yX8_init, "FaceSenate"), ("FaceSenate$Trial", 11, yX6_init, "FaceSenate"), ("FaceSenate", 39, yX0_init, "FaceSenate"), ("FaceSenate", 55, yX2_init, "FaceSenate"), ("FaceSenate$Trial", 132, yX9_within, "FaceSenate")]
abbrev fx_lit : String := "hall by district mood member for at look light tooth of draw or and not face near beside bright stoic news step row column "
/-- a field by its number, as an instruction of own names it -/
def fx_fo (own : String) (a ci k : Nat) : Prop := ∃ (C : String) (T : u_T) (N : Nat), fx_cl[ci]? = some (C, T, N) ∧ k < N ∧ Cond.fieldLink own a (T k).1 (T k).2.1 (T k).2.2.1 ∈ fx_tb
def fx_tag (t : Nat) (ty : FieldType) : Prop := (t = 0 ∧ ty = .int) ∨ (t = 2 ∧ ty = .boolean) ∨ (t = 3 ∧ ty = .long) ∨ (t = 4 ∧ ((∃ n, ty = .object n) ∨ ∃ n, ty = .array n))
def fx_pf (own : String) (ini : Bool) (ci k t : Nat) : Prop := ∃ (C : String) (T : u_T) (N : Nat) (ty : FieldType), fx_cl[ci]? = some (C, T, N) ∧ k < N ∧ parseFieldDescriptor (T k).2.2.1 = some ty ∧ fx_tag t ty ∧ ((T k).2.2.2 = true → ini = true ∧ (T k).1 = own)
def fx_kw (own : String) (a b c : Nat) : Prop := (a = 1 → (Int8.ofInt (Int32.ofNat c).toInt).toInt32 = Int32.ofNat c) ∧ (a = 2 → (Int16.ofInt (Int32.ofNat c).toInt).toInt32 = Int32.ofNat c) ∧ (a = 3 ∨ a = 4 → Cond.constant own b (Int32.ofNat c) ∈ fx_tb) ∧ (a = 5 → c < 2) ∧ (a = 6 → Cond.constantLong own b (Int64.ofNat c) ∈ fx_tb)
/-- a call of the method number c -/
def fx_ca (ms : Nat → Option fx_S) (mt : Nat → Option fx_M) (own : String) (a b c : Nat) : Prop := ∃ (y : MethodName) (cc : ByteArray) (nL : Nat) (rt : Option FieldType) (M : fx_M), ms c = some (y, cc, nL, rt) ∧ mt c = some M ∧
  (a = 0 → Cond.methodLink own b y ∈ fx_tb ∧ Cond.instanceMethod y ∈ fx_tb ∧ Cond.selects y.cls y y ∈ fx_tb ∧ ((∃ ci T N, M.2.2.2.2.1 = ci + 2 ∧ M.2.2.2.2.1 ≠ 99 ∧ fx_cl[ci]? = some (y.cls, T, N)) ∨ (M.2.2.2.2.1 = 99 ∧ y.cls = "java/lang/String"))) ∧
  (a = 1 → Cond.methodLink own b y ∈ fx_tb ∧ Cond.instanceMethod y ∈ fx_tb ∧ y.name = "<init>" ∧ rt = none ∧ M.2.2.2.2.1 = 1) ∧
  (a = 2 → Cond.methodLink own b y ∈ fx_tb ∧ Cond.static y ∈ fx_tb ∧ M.2.2.2.2.1 = 0) ∧
  (a = 3 → (own, b, y, "FaceSenate") ∈ fx_nst ∧ Cond.instanceMethod y ∈ fx_tb ∧ y.name = "<init>" ∧ rt = none ∧ M.2.2.2.2.1 = 1) ∧
  (a = 4 → (own, b, y, "FaceSenate") ∈ fx_nst ∧ Cond.static y ∈ fx_tb ∧ M.2.2.2.2.1 = 0)
def fx_rk (b : Nat) (rt : Option FieldType) : Prop := (b = 0 ∧ rt = none) ∨ (b = 1 ∧ rt = some .int) ∨ (b = 2 ∧ rt = some .boolean) ∨ (b = 3 ∧ rt = some .long) ∨ (b = 4 ∧ rt = some .char) ∨ (b = 5 ∧ rt = some .byte)
def fx_an (ms : Nat → Option fx_S) (mt : Nat → Option fx_M) (own : String) (ini : Bool) (rt : Option FieldType) (nL kd a b c : Nat) : Prop :=
  (kd = 0 ∨ kd = 11 → b = 0 ∨ b = 2 ∨ b = 4 → a < 4) ∧ (kd = 1 → fx_fo own a b c) ∧ (kd = 2 → fx_kw own a b c) ∧ (kd = 9 → fx_ca ms mt own a b c) ∧
  (kd = 10 → fx_rk b rt ∧ (a = 0 ∨ (a = 1 ∧ b = 0) ∨ (a = 2 ∧ b = 3))) ∧ (kd = 12 → a < 11) ∧ (kd = 13 → a < 4) ∧ (kd = 14 → fx_fo own a b (c / 8) ∧ fx_pf own ini b (c / 8) (c % 8)) ∧
  (kd = 16 → ∃ C T N, fx_cl[b]? = some (C, T, N) ∧ Cond.classLink own a C ∈ fx_tb) ∧ (kd = 20 ∨ kd = 21 → b < 2147483648 ∧ b + (fx_swt c).length < 2147483648 ∧ 0 < (fx_swt c).length) ∧
  (kd = 22 → Cond.methodLink own a Lib.objectInit ∈ fx_tb) ∧ (kd = 23 → Cond.methodLink own a arraycopyName ∈ fx_tb) ∧ (kd = 24 → a < 4) ∧
  (kd = 25 → (b = 0 → Cond.fieldLink own a "java/lang/String" "value" "[B" ∈ fx_tb) ∧ (b = 1 → Cond.fieldLink own a "java/lang/String" "coder" "B" ∈ fx_tb)) ∧
  (kd = 26 → (b = 0 → Cond.fieldLink own a "java/lang/String" "COMPACT_STRINGS" "Z" ∈ fx_tb) ∧ (b = 1 → Cond.fieldLink own a "jdk/internal/util/Preconditions" "SIOOBE_FORMATTER" "Ljava/util/function/BiFunction;" ∈ fx_tb)) ∧
  (kd = 27 → own = "FaceSenate$Tape" ∧ (a = 39 ∨ a = 73)) ∧ (kd = 11 → a + 1 < nL ∨ (a < nL ∧ b < 4)) ∧ (kd = 21 → (fx_swt c).length = 2) ∧ (kd = 29 → (b = 0 → Cond.methodLink own a Lib.Math.max.name ∈ fx_tb) ∧ (b = 1 → Cond.methodLink own a Lib.Math.min.name ∈ fx_tb) ∧ (b = 2 → Cond.methodLink own a Lib.Math.abs.name ∈ fx_tb))
abbrev fx_Y : Type := va_G × ((Nat → ClassId) × (Heap × Heap))
def fx_rc (X : fx_X) (Y : fx_Y) (c : fx_C) (a : Nat) (H : Heap) : Prop := match c with
  | .inl _ => H[a]? = Y.2.2.2[a]?
  | .inr (.inl (ci, fs)) => ∃ (q : vw_C) (vs : List Value), fx_cl[ci]? = some q ∧ vs.length = q.2.2 ∧ fx_rl X fs vs ∧ t_OB a (Y.1.1 ci) q.2.2 (Y.1.2 ci) H (vp_V vs)
  | .inr (.inr (ty, n, u)) => ∃ f : Nat → Value, H[a]? = some (arrV (Y.2.1 ty) n f) ∧ n < 2147483648 ∧ ty < 4 ∧ ∀ i, fx_rv X (fx_aget ty u i) (f i)
def fx_rh (X : fx_X) (Y : fx_Y) (h : fx_H) (H : Heap) : Prop := H.size = X.2.1 + h.1 ∧ (∀ (k : Nat) (c : fx_C), fx_hget h k = some c → k < h.1 ∧ k < 1000000 ∧ fx_rc X Y c (X.2.1 + k) H) ∧ ∀ q : Nat, q < X.2.1 → H[q]? = Y.2.2.1[q]?
/-- what lies outside: the script, a text and its bytes, a static that is passed on -/
abbrev fx_B : Type := Nat × (Nat × ((Nat → Int32) × (Nat × Nat)))
abbrev fx_lit2 : String := ";()<>=+-*/%"
def fx_txt2 : List Nat := [59, 40, 41, 60, 62, 61, 43, 45, 42, 47, 37]
/-- the other text -/
def fx_l2 (X : fx_X) (Y : fx_Y) (U : State) : Prop := ∃ a2 b2 : Nat, fx_ad X 1000004 = .ref a2 ∧ fx_ad X 1000005 = .ref b2 ∧ vk_R "FaceSenate$Tape" 73 fx_lit2 a2 U ∧
  va_O "java/lang/String" a2 (fun q => X.2.1 ≤ q) U Y.2.2.1 ∧ va_OF "java/lang/String" "value" "[B" (.ref b2) a2 (fun q => X.2.1 ≤ q) U Y.2.2.1 ∧ va_OF "java/lang/String" "coder" "B" (.int 0) a2 (fun q => X.2.1 ≤ q) U Y.2.2.1 ∧
  va_T .byte b2 11 (fun j => .int (Int32.ofNat (fx_txt2.getD j 0))) (fun q => X.2.1 ≤ q) U Y.2.2.1
def fx_cx (X : fx_X) (Y : fx_Y) (B : fx_B) (U : State) : Prop :=
  (∀ (ci : Nat) (q : vw_C), fx_cl[ci]? = some q → u_Kn U q.1 q.2.1 q.2.2 (Y.1.1 ci) (Y.1.2 ci)) ∧
  (∀ t, t < 4 → ArrOfT U (Y.2.1 t) (fx_ty t) ∧ U.vm.findClass ("[" ++ (fx_ty t).toString) = some (Y.2.1 t)) ∧
  (∀ q ∈ fx_nst, va_Nw (.methodLinkNest q.1 q.2.1 q.2.2.1 q.2.2.2) U) ∧
  (vk_R "FaceSenate$Tape" 39 fx_lit B.2.2.2.1 U ∧ fx_l2 X Y U) ∧
  va_Z "java/lang/String" "COMPACT_STRINGS" "Z" (.int 1) (fun q => X.2.1 ≤ q) U Y.2.2.1 ∧
  va_Z "jdk/internal/util/Preconditions" "SIOOBE_FORMATTER" "Ljava/util/function/BiFunction;" (fx_ad X 1000003) (fun q => X.2.1 ≤ q) U Y.2.2.1 ∧
  va_O "java/lang/String" B.2.2.2.1 (fun q => X.2.1 ≤ q) U Y.2.2.1 ∧
  va_OF "java/lang/String" "value" "[B" (.ref B.2.2.2.2) B.2.2.2.1 (fun q => X.2.1 ≤ q) U Y.2.2.1 ∧
  va_OF "java/lang/String" "coder" "B" (.int 0) B.2.2.2.1 (fun q => X.2.1 ≤ q) U Y.2.2.1 ∧
  va_T .byte B.2.2.2.2 123 (fun j => .int (Int32.ofNat (fx_txt.getD j 0))) (fun q => X.2.1 ≤ q) U Y.2.2.1 ∧
  va_X B.1 B.2.1 B.2.2.1 U Y.2.2.1
/-- what holds of the numbers for good -/
def fx_xx (X : fx_X) (B : fx_B) : Prop := fx_xo X ∧ X.1 7 = X.1 1 &&& 63 ∧ (∀ n, n < 6 → X.1 (n + 1) = B.2.2.1 n) ∧ X.1 8 = Int32.ofNat B.2.1 ∧ B.2.1 ≤ 3072 ∧ fx_ad X 1000000 = .ref B.1 ∧ fx_ad X 1000001 = .ref B.2.2.2.1 ∧ fx_ad X 1000002 = .ref B.2.2.2.2 ∧ B.1 < X.2.1
theorem fx_l2.moved {X : fx_X} {Y : fx_Y} {u U : State} (hW : u.WarmedH U.vm) (h : fx_l2 X Y u) : fx_l2 X Y U := by
  have hvm : u.vm.Alike U.vm := hW.alike
  obtain ⟨a2, b2, h1, h2, h3, h4, h5, h6, h7⟩ := h
  exact ⟨a2, b2, h1, h2, vk_R.warm hW h3, va_O.moved hvm h4, va_OF.moved hvm h5, va_OF.moved hvm h6, va_T.moved hvm h7⟩
theorem fx_cx.moved {X : fx_X} {Y : fx_Y} {B : fx_B} {u U : State} (hW : u.WarmedH U.vm) (h : fx_cx X Y B u) : fx_cx X Y B U := by
  have hvm : u.vm.Alike U.vm := hW.alike
  obtain ⟨h1, h2, h3, h4, h5, h6, h7, h8, h9, h10, h11⟩ := h
  exact ⟨fun ci q hq => u_Kn_moved hvm (h1 ci q hq), fun t ht => ⟨arrOfT_moved hvm (h2 t ht).1, by rw [hvm.findClass]; exact (h2 t ht).2⟩, fun q hq => va_Nw.warmM hW (h3 q hq), ⟨vk_R.warm hW h4.1, fx_l2.moved hW h4.2⟩, va_Z.moved hvm h5, va_Z.moved hvm h6, va_O.moved hvm h7, va_OF.moved hvm h8, va_OF.moved hvm h9, va_T.moved hvm h10, va_X.moved hvm h11⟩
def fx_rets (rt : Option FieldType) (cc : ByteArray) (pc : Nat) (w : Option Value) : Prop := (w = none ∧ rt = none ∧ decode cc pc = .ok (.return_, 1)) ∨ (∃ (z : Int32) (ty : FieldType), w = some (.int z) ∧ rt = some ty ∧ narrow ty (.int z) = .int z ∧ decode cc pc = .ok (.ireturn, 1)) ∨ (∃ z : Int64, w = some (.long z) ∧ rt = some .long ∧ decode cc pc = .ok (.lreturn, 1))
def fx_ro (X : fx_X) (v : Option fx_V) (w : Option Value) : Prop := match v, w with
  | none, none => True
  | some v, some w => fx_rv X v w
  | _, _ => False
def fx_fs (X : fx_X) (Y : fx_Y) (B : fx_B) (ms : Nat → Option fx_S) (mt : Nat → Option fx_M) (p : Program) (s : State) (m : MethodId) (args : Array Value) (meth : Method) (c : Code) (cc : ByteArray) (nL : Nat) (own : String) (ini : Bool) (rt : Option FieldType) (cod : List fx_I) : Prop :=
  p.tables.exec = Jvm.exec ∧ c.code = cc ∧ c.maxLocals = nL ∧ s.vm.findClass own = some m.cls ∧ (∀ w ∈ fx_tb, w.before args s = true) ∧ meth.locks = false ∧ (ini = true → meth.name = "<init>") ∧ meth.sig.returnType = rt ∧ fx_cx X Y B s ∧ X.2.1 ≤ s.heap.size ∧
  ∀ pc kd a b d, (pc, kd, a, b, d) ∈ cod → kd ≠ 28 → decode cc pc = .ok (fx_ins pc kd a b d) ∧ fx_an ms mt own ini rt nL kd a b d
def fx_pc (l : List fx_I) : Nat := match l with
  | [] => 0
  | q :: _ => q.1
/-- frames, room, what is held -/
def fx_rm (R : Room) (d mc ms : Nat) : Prop := d ≤ R.frames ∧ 60 * d ≤ R.locals ∧ mc ≤ R.cells ∧ ms ≤ R.slots
def fx_ls (X : fx_X) (locs : List Loc) : Prop := ∀ q ∈ locs, X.2.1 ≤ q.base
def fx_st (X : fx_X) (Y : fx_Y) (nL : Nat) (loc : fx_L) (stk : List fx_V) (h : fx_H) (j : fx_J) (H : Heap) (locs : List Loc) (ls : Array Slot) (st : List Value) : Prop := (∃ lv, lv_has ls nL lv ∧ fx_rn X loc lv) ∧ fx_rl X stk st ∧ fx_rh X Y h H ∧ fx_rj X j ∧ fx_ls X locs
