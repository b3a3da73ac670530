def fx_g0 : fx_H := (114, [[.inr (.inl (9, [fr 1, fr 19, fr 33, fr 36, fr 49, fr 53, fr 56, fr 63, fr 64, fr 65, fr 66, fc 0, fc 0, fc 0, fc 4294967295, fc 4294967295])), .inr (.inl (4, [fr 2, fr 5, fc 0, fc 4294967295])), .inr (.inl (7, [fr 3, fr 4, fc 0, fc 0, fc 0, fc 0, fc 0, fl 0])), .inr (.inr (1, 1600, [])), .inr (.inr (3, 24, [(23, fl 51270206), (22, fl 13550), (21, fl 388708), (20, fl 279847), (19, fl 10502220), (18, fl 38446238), (17, fl 31735670), (16, fl 279252), (15, fl 118913), (14, fl 10631), (13, fl 1111), (12, fl 423), (11, fl 91904), (10, fl 411), (9, fl 10935548), (8, fl 6559778), (7, fl 247547), (6, fl 47), (5, fl 4797), (4, fl 189450486), (3, fl 267223), (2, fl 45611816222), (1, fl 79), (0, fl 158529)])), .inr (.inl (3, [fr 6, fr 7, fr 8, fr 9, fr 10, fr 11, fr 12, fr 13, fr 16, fc 4, fc 4, fc 0, fc 0, fc 0, fc 1, fc 0, fc 0, fc 0])), .inr (.inr (3, 4, [])), .inr (.inr (0, 4, [])), .inr (.inr (3, 7, [])), .inr (.inr (0, 7, [])), .inr (.inr (0, 7, [])), .inr (.inr (0, 7, [])), .inr (.inr (0, 7, [(6, fc 4294967295), (5, fc 4294967295), (4, fc 4294967295), (3, fc 4294967295), (2, fc 4294967295), (1, fc 4294967295), (0, fc 4294967295)])), .inr (.inl (1, [fr 14, fr 15, fc 1, fc 0])), .inr (.inr (0, 320, [])), .inr (.inr (0, 40, []))],
  [.inr (.inl (1, [fr 17, fr 18, fc 1, fc 0])), .inr (.inr (0, 320, [(0, fc 37)])), .inr (.inr (0, 40, [])), .inr (.inl (3, [fr 20, fr 21, fr 22, fr 23, fr 24, fr 25, fr 26, fr 27, fr 30, fc 4, fc 4, fc 0, fc 0, fc 0, fc 1, fc 0, fc 0, fc 0])), .inr (.inr (3, 4, [])), .inr (.inr (0, 4, [])), .inr (.inr (3, 7, [])), .inr (.inr (0, 7, [])), .inr (.inr (0, 7, [])), .inr (.inr (0, 7, [])), .inr (.inr (0, 7, [(6, fc 4294967295), (5, fc 4294967295), (4, fc 4294967295), (3, fc 4294967295), (2, fc 4294967295), (1, fc 4294967295), (0, fc 4294967295)])), .inr (.inl (1, [fr 28, fr 29, fc 1, fc 0])), .inr (.inr (0, 320, [])), .inr (.inr (0, 40, [])), .inr (.inl (1, [fr 31, fr 32, fc 1, fc 0])), .inr (.inr (0, 320, [(0, fc 37)]))],
  [.inr (.inr (0, 40, [])), .inr (.inl (6, [fr 34, fr 35, fc 0, fc 0, fc 0])), .inr (.inr (0, 7, [])), .inr (.inr (0, 7, [(6, fc 4294967295), (5, fc 4294967295), (4, fc 4294967295), (3, fc 4294967295), (2, fc 4294967295), (1, fc 4294967295), (0, fc 4294967295)])), .inr (.inl (8, [fr 37, fr 40, fr 41, fr 42, fr 43, fr 44, fr 45, fr 46, fr 47, fr 48, fz])), .inr (.inl (6, [fr 38, fr 39, fc 0, fc 0, fc 0])), .inr (.inr (0, 7, [])), .inr (.inr (0, 7, [])), .inr (.inr (0, 7, [])), .inr (.inr (0, 7, [])), .inr (.inr (0, 7, [])), .inr (.inr (0, 7, [])), .inr (.inr (0, 21, [])), .inr (.inr (0, 9, [])), .inr (.inr (0, 9, [])), .inr (.inr (0, 1024, []))],
  [.inr (.inr (0, 1024, [])), .inr (.inl (0, [fr 50, fc 0, fc 0])), .inr (.inl (5, [fc 41, fr 51, fr 52])), .inr (.inr (0, 697, [])), .inr (.inr (2, 41, [])), .inr (.inl (5, [fc 3, fr 54, fr 55])), .inr (.inr (0, 51, [])), .inr (.inr (2, 3, [])), .inr (.inl (2, [fr 57, fr 58, fr 59, fr 60, fr 61, fr 62, fc 0])), .inr (.inr (0, 30, [])), .inr (.inr (0, 30, [])), .inr (.inr (0, 30, [])), .inr (.inr (2, 30, [])), .inr (.inr (0, 30, [])), .inr (.inr (0, 30, [])), .inr (.inr (0, 7, []))],
  [.inr (.inr (0, 7, [])), .inr (.inr (0, 10, [])), .inr (.inr (0, 70, [])), .inr (.inl (10, [fr 68, fr 69, fc 0, fc 0, fc 0, fc 4294967295, fc 0, fc 0, fc 0, fc 0, fl 0, fr 70, fr 71, fr 72, fr 73, fr 74, fr 75, fr 76, fr 77, fr 78, fr 79, fr 80, fr 81, fr 82, fr 83, fr 84, fr 85, fr 86, fr 87, fr 88, fr 89, fr 90, fr 91, fr 92, fr 93, fr 94, fr 95, fc 0, fc 0, fc 0, fc 0, fc 0, fc 0, fc 0, fc 0, fc 0, fc 0, fc 0, fc 0, fc 0, fr 96, fr 97, fr 98, fc 0, fc 0, fr 99, fr 100, fc 0, fr 101, fr 102, fr 103, fr 104, fr 105, fr 106, fr 107, fr 108, fr 109, fr 110, fr 111, fc 0, fc 0, fr 112, fr 113])), .inr (.inr (1, 1620, [])), .inr (.inr (1, 1600, [])), .inr (.inr (0, 2, [(0, fc 4)])), .inr (.inr (0, 2, [(0, fc 4)])), .inr (.inr (0, 2, [])), .inr (.inr (0, 2, [])), .inr (.inr (0, 2, [])), .inr (.inr (0, 2, [])), .inr (.inr (0, 2, [])), .inr (.inr (0, 2, [(0, fc 1)])), .inr (.inr (0, 2, [])), .inr (.inr (0, 8, []))],
  [.inr (.inr (0, 14, [])), .inr (.inr (0, 14, [])), .inr (.inr (0, 14, [])), .inr (.inr (0, 14, [])), .inr (.inr (0, 4, [])), .inr (.inr (0, 4, [])), .inr (.inr (2, 4, [])), .inr (.inr (2, 2, [])), .inr (.inr (2, 2, [])), .inr (.inr (3, 8, [])), .inr (.inr (3, 14, [])), .inr (.inr (0, 1120, [])), .inr (.inr (0, 1120, [])), .inr (.inr (0, 90, [])), .inr (.inr (0, 90, [])), .inr (.inr (0, 60, []))],
  [.inr (.inr (0, 17, [(13, fc 4294967295), (12, fc 4294967295), (11, fc 4294967295), (10, fc 4294967295), (9, fc 4294967295), (8, fc 4294967295), (7, fc 4294967295)])), .inr (.inr (0, 7, [])), .inr (.inr (0, 697, [])), .inr (.inr (0, 7, [])), .inr (.inr (0, 7, [])), .inr (.inr (0, 17, [])), .inr (.inr (0, 7, [])), .inr (.inr (0, 7, [])), .inr (.inr (0, 1000, [])), .inr (.inr (0, 30, [])), .inr (.inr (0, 30, [])), .inr (.inr (0, 30, [])), .inr (.inr (0, 30, [])), .inr (.inr (0, 30, [])), .inr (.inr (0, 30, [])), .inr (.inr (0, 10, []))],
  [.inr (.inr (0, 51, [])), .inr (.inr (2, 3, []))]])
def fx_l0 : fx_L := [(3, fc 0), (2, fr 67), (1, fr 0), (0, fr 1000000)]
def fx_jf : fx_J := [(0, 4294967295), (0, 4294967295), (0, 4294967295), (0, 4294967295), (0, 4294967295), (0, 4294967295), (0, 4294967295), (0, 4294967295), (0, 4294967295)]
def fx_jo (a b : Nat) : fx_J := [(0, 4294967295), (0, 4294967295), (0, 4294967295), (0, 4294967295), (0, 4294967295), (0, 4294967295), (0, 4294967295), (a, b), (2147483654, 2147483654)]
def fx_jl : fx_J := [(0, 4294967295), (0, 4294967295), (0, 4294967295), (0, 4294967295), (0, 4294967295), (0, 4294967295), (0, 4294967295), (0, 4294967295), (2147483648, 2147483653)]
noncomputable def fx_ev (S : fx_Z) (kc : fx_L → fx_H → fx_J → Bool) : fx_E := (fx_mt, fx_swt, fx_cd, S, kc)
noncomputable def fx_s0z : fx_Z := fun _ _ _ => none
noncomputable def fx_kt1 (v : Option fx_V) : Bool := match v with
  | some (.inl n) => Nat.beq n 1
  | _ => false
noncomputable def fx_vq (x y : fx_V) : Bool := match x, y with
  | .inl a, .inl b => Nat.beq a b
  | .inr (.inl a), .inr (.inl b) => Nat.beq a b
  | .inr (.inr (.inl none)), .inr (.inr (.inl none)) => true
  | .inr (.inr (.inl (some a))), .inr (.inr (.inl (some b))) => Nat.beq a b
  | .inr (.inr (.inr a)), .inr (.inr (.inr b)) => Nat.beq a b
  | _, _ => false
theorem fx_vq_ok {x y : fx_V} (h : fx_vq x y = true) : x = y := by
  rcases x with a | a | a | a <;> rcases y with b | b | b | b
  · have := fx_beq (show Nat.beq a b = true from h); rw [this]
  · cases h
  · cases h
  · cases h
  · cases h
  · have := fx_beq (show Nat.beq a b = true from h); rw [this]
  · cases h
  · cases h
  · cases a <;> cases h
  · cases a <;> cases h
  · cases a with
    | none =>
      cases b with
      | none => rfl
      | some b => cases h
    | some a =>
      cases b with
      | none => cases h
      | some b => have := fx_beq (show Nat.beq a b = true from h); rw [this]
  · cases a <;> cases h
  · cases h
  · cases h
  · cases h
  · have := fx_beq (show Nat.beq a b = true from h); rw [this]
noncomputable def fx_lq {α : Type} (f : α → α → Bool) (l : List α) : List α → Bool := List.rec (motive := fun _ => List α → Bool) (fun m => match m with
    | [] => true
    | _ :: _ => false) (fun a _ ih m => match m with
    | [] => false
    | b :: m => f a b && ih m) l
theorem fx_lq_ok {α : Type} {f : α → α → Bool} (hf : ∀ a b, f a b = true → a = b) : ∀ {l m : List α}, fx_lq f l m = true → l = m := by
  intro l
  induction l with
  | nil =>
    intro m h
    cases m with
    | nil => rfl
    | cons b m => cases h
  | cons a l ih =>
    intro m h
    cases m with
    | nil => cases h
    | cons b m =>
      obtain ⟨h1, h2⟩ := fx_and (a := f a b) (b := fx_lq f l m) h
      rw [hf a b h1, ih h2]
noncomputable def fx_nq (a b : Nat × fx_V) : Bool := Nat.beq a.1 b.1 && fx_vq a.2 b.2
theorem fx_nq_ok (a b : Nat × fx_V) (h : fx_nq a b = true) : a = b := by
  obtain ⟨h1, h2⟩ := fx_and h
  exact Prod.ext (fx_beq h1) (fx_vq_ok h2)
noncomputable def fx_cq (x y : fx_C) : Bool := match x, y with
  | .inl _, .inl _ => true
  | .inr (.inl (a, f)), .inr (.inl (b, g)) => Nat.beq a b && fx_lq fx_vq f g
  | .inr (.inr (a, n, f)), .inr (.inr (b, k, g)) => Nat.beq a b && (Nat.beq n k && fx_lq fx_nq f g)
  | _, _ => false
theorem fx_cq_ok (x y : fx_C) (h : fx_cq x y = true) : x = y := by
  rcases x with a | ⟨a, f⟩ | ⟨a, n, f⟩ <;> rcases y with b | ⟨b, g⟩ | ⟨b, k, g⟩
  · rfl
  · cases h
  · cases h
  · cases h
  · obtain ⟨h1, h2⟩ := fx_and (a := Nat.beq a b) (b := fx_lq fx_vq f g) h
    rw [fx_beq h1, fx_lq_ok (fun _ _ => fx_vq_ok) h2]
  · cases h
  · cases h
  · cases h
  · obtain ⟨h1, h2⟩ := fx_and (a := Nat.beq a b) (b := (Nat.beq n k && fx_lq fx_nq f g)) h
    obtain ⟨h2, h3⟩ := fx_and h2
    rw [fx_beq h1, fx_beq h2, fx_lq_ok fx_nq_ok h3]
noncomputable def fx_hq (x y : fx_H) : Bool := Nat.beq x.1 y.1 && fx_lq (fx_lq fx_cq) x.2 y.2
theorem fx_hq_ok {x y : fx_H} (h : fx_hq x y = true) : x = y := by
  obtain ⟨h1, h2⟩ := fx_and h
  exact Prod.ext (fx_beq h1) (fx_lq_ok (fun _ _ => fx_lq_ok fx_cq_ok) h2)
noncomputable def fx_kc1 : fx_L → fx_H → fx_J → Bool := fun loc h _ => fx_lq fx_nq loc fx_l0 && fx_hq h fx_g0
set_option maxRecDepth 100000 in
theorem fx_run_new : fx_go (fx_ev fx_s0z fx_kc1) 20000 20 fw_new fw_new [(0, fr 1000000)] [] 0 0 1000 100000 (0, []) fx_jf (fun _ _ _ => false) = true := by decide +kernel
/-- from the head of the loop on -/
abbrev fx_run (S : fx_Z) (n : Nat) (w : List fx_I) (j : fx_J) : Prop := fx_go (fx_ev S (fun _ _ _ => false)) n 20 w w fx_l0 [] 1000 100000 600000 7302250 fx_g0 j (fun v _ _ => fx_kt1 v) = true
set_option maxRecDepth 100000 in
theorem fx_run_short : fx_run fx_s0z 1000 fw_short fx_jl := by decide +kernel
set_option maxRecDepth 100000 in
theorem fx_run_45 : fx_run fx_s0z 1000 fw_45 (fx_jo 2147483693 2147483711) := by decide +kernel
