def fx_jf : fx_J := [(0, 4294967295), (0, 4294967295), (0, 4294967295), (0, 4294967295), (0, 4294967295), (0, 4294967295), (0, 4294967295), (0, 4294967295), (0, 4294967295)]
noncomputable def fx_cd (c : Nat) : Option (List fx_V) := fx_nth fx_cdl c
noncomputable def fx_e0 (kc : fx_L → fx_H → fx_J → Bool) : fx_E := (fx_mt, fx_swt, fx_cd, (fun _ _ _ => none), kc)
noncomputable def fx_gq (E : fx_E) (n : Nat) : fx_G := Nat.rec (motive := fun _ => fx_G) (fun _ _ _ _ _ _ _ _ _ _ _ _ => true) (fun _ ih => fx_step E ih) n
noncomputable def fx_jo (op hi : Nat) : fx_J := [(0, 4294967295), (0, 4294967295), (0, 4294967295), (0, 4294967295), (0, 4294967295), (0, 4294967295), (0, 4294967295), (op + 2147483648, hi + 2147483648), (2147483654, 2147483654)]
noncomputable def fx_kt (v : Option fx_V) : Bool := match v with
  | some (.inl n) => Nat.beq n 1
  | _ => false
abbrev fx_run (n op : Nat) (w : List fx_I) : Prop := fx_go (fx_e0 (fun _ _ _ => false)) n 20 w w [(3, fc 0), (2, fr 67), (1, fr 0), (0, fr 1000000)] [] 0 0 600000 7302250 fx_h0 (fx_jo op op) (fun v _ _ => fx_kt v) = true

set_option maxRecDepth 100000 in
theorem ft_1 : fx_go (fx_e0 (fun _ _ _ => true)) 20000 20 fw_new fw_new [(0, fr 1000000)] [] 0 0 600000 7302250 (0, []) fx_jf (fun _ _ _ => false) = true := by decide +kernel
