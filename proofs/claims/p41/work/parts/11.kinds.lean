noncomputable def fx_cd (c : Nat) : Option (List fx_V) := fx_nth fx_cdl c
def fx_dv (v : fx_V) : Value := match v with
  | .inl _ => .int 0
  | .inr (.inr (.inr _)) => .long 0
  | _ => .null
def fx_isd (v : fx_V) : Bool := match v with
  | .inl n => Nat.beq n 0
  | .inr (.inr (.inr n)) => Nat.beq n 0
  | .inr (.inr (.inl none)) => true
  | _ => false
theorem fx_isd_ok {X : fx_X} : ∀ {fs : List fx_V}, fs.all fx_isd = true → fx_rl X fs (fs.map fx_dv) := by
  intro fs
  induction fs with
  | nil => intro _; trivial
  | cons v fs ih =>
    intro hh
    rw [List.all_cons] at hh
    obtain ⟨h1, h2⟩ := fx_and hh
    refine ⟨?_, ih h2⟩
    rcases v with n | i | r | n
    · have := fx_beq h1
      subst this
      rfl
    · cases h1
    · cases r with
      | none => rfl
      | some k => cases h1
    · have := fx_beq h1
      subst this
      rfl
def fx_kf (C : String) (T : u_T) (N : Nat) (fs : List fx_V) : Prop := (∀ w ∈ u_ws C T N, w ∈ fx_tb) ∧ (∃ ty : Nat → FieldType, (∀ k, k < N → parseFieldDescriptor (T k).2.2.1 = some (ty k)) ∧ ∀ j, j < N → defaultValue (ty j) = vp_V (fs.map fx_dv) j) ∧ (∀ a, a < N → ∀ b, b < N → a ≠ b → (T a).2.1 ≠ (T b).2.1) ∧ Cond.instantiable C N ∈ fx_tb ∧ Cond.initialized C ∈ fx_tb ∧ fs.length = N ∧ fs.all fx_isd = true
theorem fk_in0 : ∀ w ∈ u_ws RX0 TX0 3, w ∈ lw_tbl := by decide +kernel
theorem fk_ii0 : Cond.instantiable RX0 3 ∈ lw_tbl ∧ Cond.initialized RX0 ∈ lw_tbl := by decide +kernel
abbrev fk_d0 : List fx_V := [fz, fc 0, fc 0]
theorem fk_v0 : ∀ j, j < 3 → defaultValue (tyX0 j) = vp_V (fk_d0.map fx_dv) j := by decide +kernel
theorem fk_g0 : ∀ w ∈ u_ws RX0 TX0 3, goodWord w = true := by decide +kernel
theorem fk_0 : fx_kf RX0 TX0 3 fk_d0 := ⟨fun w hw => fx_tbi (fk_in0 w hw) (fk_g0 w hw), ⟨tyX0, tyX0_ok, fk_v0⟩, nmX0, fx_tbi fk_ii0.1 rfl, fx_tbi fk_ii0.2 rfl, rfl, by decide +kernel⟩
theorem fk_in1 : ∀ w ∈ u_ws RX1 TX1 4, w ∈ lw_tbl := by decide +kernel
theorem fk_ii1 : Cond.instantiable RX1 4 ∈ lw_tbl ∧ Cond.initialized RX1 ∈ lw_tbl := by decide +kernel
abbrev fk_d1 : List fx_V := [fz, fz, fc 0, fc 0]
theorem fk_v1 : ∀ j, j < 4 → defaultValue (tyX1 j) = vp_V (fk_d1.map fx_dv) j := by decide +kernel
theorem fk_g1 : ∀ w ∈ u_ws RX1 TX1 4, goodWord w = true := by decide +kernel
theorem fk_1 : fx_kf RX1 TX1 4 fk_d1 := ⟨fun w hw => fx_tbi (fk_in1 w hw) (fk_g1 w hw), ⟨tyX1, tyX1_ok, fk_v1⟩, nmX1, fx_tbi fk_ii1.1 rfl, fx_tbi fk_ii1.2 rfl, rfl, by decide +kernel⟩
theorem fk_in2 : ∀ w ∈ u_ws RX2 TX2 7, w ∈ lw_tbl := by decide +kernel
theorem fk_ii2 : Cond.instantiable RX2 7 ∈ lw_tbl ∧ Cond.initialized RX2 ∈ lw_tbl := by decide +kernel
abbrev fk_d2 : List fx_V := [fz, fz, fz, fz, fz, fz, fc 0]
theorem fk_v2 : ∀ j, j < 7 → defaultValue (tyX2 j) = vp_V (fk_d2.map fx_dv) j := by decide +kernel
theorem fk_g2 : ∀ w ∈ u_ws RX2 TX2 7, goodWord w = true := by decide +kernel
theorem fk_2 : fx_kf RX2 TX2 7 fk_d2 := ⟨fun w hw => fx_tbi (fk_in2 w hw) (fk_g2 w hw), ⟨tyX2, tyX2_ok, fk_v2⟩, nmX2, fx_tbi fk_ii2.1 rfl, fx_tbi fk_ii2.2 rfl, rfl, by decide +kernel⟩
theorem fk_in3 : ∀ w ∈ u_ws RX3 TX3 18, w ∈ lw_tbl := by decide +kernel
theorem fk_ii3 : Cond.instantiable RX3 18 ∈ lw_tbl ∧ Cond.initialized RX3 ∈ lw_tbl := by decide +kernel
abbrev fk_d3 : List fx_V := [fz, fz, fz, fz, fz, fz, fz, fz, fz, fc 0, fc 0, fc 0, fc 0, fc 0, fc 0, fc 0, fc 0, fc 0]
theorem fk_v3 : ∀ j, j < 18 → defaultValue (tyX3 j) = vp_V (fk_d3.map fx_dv) j := by decide +kernel
theorem fk_g3 : ∀ w ∈ u_ws RX3 TX3 18, goodWord w = true := by decide +kernel
theorem fk_3 : fx_kf RX3 TX3 18 fk_d3 := ⟨fun w hw => fx_tbi (fk_in3 w hw) (fk_g3 w hw), ⟨tyX3, tyX3_ok, fk_v3⟩, nmX3, fx_tbi fk_ii3.1 rfl, fx_tbi fk_ii3.2 rfl, rfl, by decide +kernel⟩
theorem fk_in4 : ∀ w ∈ u_ws RX4 TX4 4, w ∈ lw_tbl := by decide +kernel
theorem fk_ii4 : Cond.instantiable RX4 4 ∈ lw_tbl ∧ Cond.initialized RX4 ∈ lw_tbl := by decide +kernel
abbrev fk_d4 : List fx_V := [fz, fz, fc 0, fc 0]
theorem fk_v4 : ∀ j, j < 4 → defaultValue (tyX4 j) = vp_V (fk_d4.map fx_dv) j := by decide +kernel
theorem fk_g4 : ∀ w ∈ u_ws RX4 TX4 4, goodWord w = true := by decide +kernel
theorem fk_4 : fx_kf RX4 TX4 4 fk_d4 := ⟨fun w hw => fx_tbi (fk_in4 w hw) (fk_g4 w hw), ⟨tyX4, tyX4_ok, fk_v4⟩, nmX4, fx_tbi fk_ii4.1 rfl, fx_tbi fk_ii4.2 rfl, rfl, by decide +kernel⟩
theorem fk_in5 : ∀ w ∈ u_ws RX5 TX5 3, w ∈ lw_tbl := by decide +kernel
theorem fk_ii5 : Cond.instantiable RX5 3 ∈ lw_tbl ∧ Cond.initialized RX5 ∈ lw_tbl := by decide +kernel
abbrev fk_d5 : List fx_V := [fc 0, fz, fz]
theorem fk_v5 : ∀ j, j < 3 → defaultValue (tyX5 j) = vp_V (fk_d5.map fx_dv) j := by decide +kernel
theorem fk_g5 : ∀ w ∈ u_ws RX5 TX5 3, goodWord w = true := by decide +kernel
theorem fk_5 : fx_kf RX5 TX5 3 fk_d5 := ⟨fun w hw => fx_tbi (fk_in5 w hw) (fk_g5 w hw), ⟨tyX5, tyX5_ok, fk_v5⟩, nmX5, fx_tbi fk_ii5.1 rfl, fx_tbi fk_ii5.2 rfl, rfl, by decide +kernel⟩
theorem fk_in6 : ∀ w ∈ u_ws RX6 TX6 5, w ∈ lw_tbl := by decide +kernel
theorem fk_ii6 : Cond.instantiable RX6 5 ∈ lw_tbl ∧ Cond.initialized RX6 ∈ lw_tbl := by decide +kernel
abbrev fk_d6 : List fx_V := [fz, fz, fc 0, fc 0, fc 0]
theorem fk_v6 : ∀ j, j < 5 → defaultValue (tyX6 j) = vp_V (fk_d6.map fx_dv) j := by decide +kernel
theorem fk_g6 : ∀ w ∈ u_ws RX6 TX6 5, goodWord w = true := by decide +kernel
theorem fk_6 : fx_kf RX6 TX6 5 fk_d6 := ⟨fun w hw => fx_tbi (fk_in6 w hw) (fk_g6 w hw), ⟨tyX6, tyX6_ok, fk_v6⟩, nmX6, fx_tbi fk_ii6.1 rfl, fx_tbi fk_ii6.2 rfl, rfl, by decide +kernel⟩
theorem fk_in7 : ∀ w ∈ u_ws RX7 TX7 8, w ∈ lw_tbl := by decide +kernel
theorem fk_ii7 : Cond.instantiable RX7 8 ∈ lw_tbl ∧ Cond.initialized RX7 ∈ lw_tbl := by decide +kernel
abbrev fk_d7 : List fx_V := [fz, fz, fc 0, fc 0, fc 0, fc 0, fc 0, fl 0]
theorem fk_v7 : ∀ j, j < 8 → defaultValue (tyX7 j) = vp_V (fk_d7.map fx_dv) j := by decide +kernel
theorem fk_g7 : ∀ w ∈ u_ws RX7 TX7 8, goodWord w = true := by decide +kernel
theorem fk_7 : fx_kf RX7 TX7 8 fk_d7 := ⟨fun w hw => fx_tbi (fk_in7 w hw) (fk_g7 w hw), ⟨tyX7, tyX7_ok, fk_v7⟩, nmX7, fx_tbi fk_ii7.1 rfl, fx_tbi fk_ii7.2 rfl, rfl, by decide +kernel⟩
theorem fk_in8 : ∀ w ∈ u_ws RX8 TX8 11, w ∈ lw_tbl := by decide +kernel
theorem fk_ii8 : Cond.instantiable RX8 11 ∈ lw_tbl ∧ Cond.initialized RX8 ∈ lw_tbl := by decide +kernel
abbrev fk_d8 : List fx_V := [fz, fz, fz, fz, fz, fz, fz, fz, fz, fz, fz]
theorem fk_v8 : ∀ j, j < 11 → defaultValue (tyX8 j) = vp_V (fk_d8.map fx_dv) j := by decide +kernel
theorem fk_g8 : ∀ w ∈ u_ws RX8 TX8 11, goodWord w = true := by decide +kernel
theorem fk_8 : fx_kf RX8 TX8 11 fk_d8 := ⟨fun w hw => fx_tbi (fk_in8 w hw) (fk_g8 w hw), ⟨tyX8, tyX8_ok, fk_v8⟩, nmX8, fx_tbi fk_ii8.1 rfl, fx_tbi fk_ii8.2 rfl, rfl, by decide +kernel⟩
theorem fk_in9 : ∀ w ∈ u_ws RX9 TX9 16, w ∈ lw_tbl := by decide +kernel
theorem fk_ii9 : Cond.instantiable RX9 16 ∈ lw_tbl ∧ Cond.initialized RX9 ∈ lw_tbl := by decide +kernel
abbrev fk_d9 : List fx_V := [fz, fz, fz, fz, fz, fz, fz, fz, fz, fz, fz, fc 0, fc 0, fc 0, fc 0, fc 0]
theorem fk_v9 : ∀ j, j < 16 → defaultValue (tyX9 j) = vp_V (fk_d9.map fx_dv) j := by decide +kernel
theorem fk_g9 : ∀ w ∈ u_ws RX9 TX9 16, goodWord w = true := by decide +kernel
theorem fk_9 : fx_kf RX9 TX9 16 fk_d9 := ⟨fun w hw => fx_tbi (fk_in9 w hw) (fk_g9 w hw), ⟨tyX9, tyX9_ok, fk_v9⟩, nmX9, fx_tbi fk_ii9.1 rfl, fx_tbi fk_ii9.2 rfl, rfl, by decide +kernel⟩
theorem fk_in10 : ∀ w ∈ u_ws RX10 TX10 73, w ∈ lw_tbl := by decide +kernel
theorem fk_ii10 : Cond.instantiable RX10 73 ∈ lw_tbl ∧ Cond.initialized RX10 ∈ lw_tbl := by decide +kernel
abbrev fk_d10 : List fx_V := [fz, fz, fc 0, fc 0, fc 0, fc 0, fc 0, fc 0, fc 0, fc 0, fl 0, fz, fz, fz, fz, fz, fz, fz, fz, fz, fz, fz, fz, fz, fz, fz, fz, fz, fz, fz, fz, fz, fz, fz, fz, fz, fz, fc 0, fc 0, fc 0, fc 0, fc 0, fc 0, fc 0, fc 0, fc 0, fc 0, fc 0, fc 0, fc 0, fz, fz, fz, fc 0, fc 0, fz, fz, fc 0, fz, fz, fz, fz, fz, fz, fz, fz, fz, fz, fz, fc 0, fc 0, fz, fz]
theorem fk_v10 : ∀ j, j < 73 → defaultValue (tyX10 j) = vp_V (fk_d10.map fx_dv) j := by decide +kernel
theorem fk_g10 : ∀ w ∈ u_ws RX10 TX10 73, goodWord w = true := by decide +kernel
theorem fk_10 : fx_kf RX10 TX10 73 fk_d10 := ⟨fun w hw => fx_tbi (fk_in10 w hw) (fk_g10 w hw), ⟨tyX10, tyX10_ok, fk_v10⟩, nmX10, fx_tbi fk_ii10.1 rfl, fx_tbi fk_ii10.2 rfl, rfl, by decide +kernel⟩
theorem fx_clok {ci : Nat} {C : String} {T : u_T} {N : Nat} (hh : fx_cl[ci]? = some (C, T, N)) : ∃ fs, fx_cdl[ci]? = some fs ∧ fx_kf C T N fs := by
  rcases ci with _ | _ | _ | _ | _ | _ | _ | _ | _ | _ | _ | ci
  · cases hh; exact ⟨fk_d0, rfl, fk_0⟩
  · cases hh; exact ⟨fk_d1, rfl, fk_1⟩
  · cases hh; exact ⟨fk_d2, rfl, fk_2⟩
  · cases hh; exact ⟨fk_d3, rfl, fk_3⟩
  · cases hh; exact ⟨fk_d4, rfl, fk_4⟩
  · cases hh; exact ⟨fk_d5, rfl, fk_5⟩
  · cases hh; exact ⟨fk_d6, rfl, fk_6⟩
  · cases hh; exact ⟨fk_d7, rfl, fk_7⟩
  · cases hh; exact ⟨fk_d8, rfl, fk_8⟩
  · cases hh; exact ⟨fk_d9, rfl, fk_9⟩
  · cases hh; exact ⟨fk_d10, rfl, fk_10⟩
  · rw [List.getElem?_eq_none (by simp)] at hh
    cases hh
