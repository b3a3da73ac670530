def fx_q0 : fx_sm := (62, [fr 36, fr 19, fr 33], (114, [[.inl (), .inl (), .inl (), .inl (), .inl (), .inl (), .inl (), .inl (), .inl (), .inl (), .inl (), .inl (), .inl (), .inl (), .inl (), .inl ()],
  [.inl (), .inl (), .inl (), .inr (.inl (3, [fr 20, fr 21, fr 22, fr 23, fr 24, fr 25, fr 26, fr 27, fr 30, fc 4, fc 4, fc 0, fc 0, fc 0, fc 1, fc 0, fc 0, fc 0])), .inl (), .inl (), .inl (), .inl (), .inl (), .inl (), .inl (), .inl (), .inl (), .inl (), .inl (), .inl ()],
  [.inl (), .inr (.inl (6, [fr 34, fr 35, fc 0, fc 0, fc 0])), .inr (.inr (0, 7, [])), .inr (.inr (0, 7, [(6, fc 4294967295), (5, fc 4294967295), (4, fc 4294967295), (3, fc 4294967295), (2, fc 4294967295), (1, fc 4294967295), (0, fc 4294967295)])), .inr (.inl (8, [fr 37, fr 40, fr 41, fr 42, fr 43, fr 44, fr 45, fr 46, fr 47, fr 48, fr 19])), .inr (.inl (6, [fr 38, fr 39, fv 0, fv 0, fv 0])), .inr (.inr (0, 7, [])), .inr (.inr (0, 7, [(6, fc 4294967295), (5, fc 4294967295), (4, fc 4294967295), (3, fc 4294967295), (2, fc 4294967295), (1, fc 4294967295), (0, fc 4294967295)])), .inr (.inr (0, 7, [])), .inr (.inr (0, 7, [])), .inr (.inr (0, 7, [])), .inl (), .inl (), .inl (), .inl (), .inl ()],
  [.inl (), .inl (), .inl (), .inl (), .inl (), .inl (), .inl (), .inl (), .inl (), .inl (), .inl (), .inl (), .inl (), .inl (), .inl (), .inl ()],
  [.inl (), .inl (), .inl (), .inl (), .inl (), .inl (), .inl (), .inl (), .inl (), .inl (), .inl (), .inl (), .inl (), .inl (), .inl (), .inl ()],
  [.inl (), .inl (), .inl (), .inl (), .inl (), .inl (), .inl (), .inl (), .inl (), .inl (), .inl (), .inl (), .inl (), .inl (), .inl (), .inl ()],
  [.inl (), .inl (), .inl (), .inl (), .inl (), .inl (), .inl (), .inl (), .inl (), .inl (), .inl (), .inl (), .inl (), .inl (), .inl (), .inl ()],
  [.inl (), .inl ()]]), none, (114, [[.inl (), .inl (), .inl (), .inl (), .inl (), .inl (), .inl (), .inl (), .inl (), .inl (), .inl (), .inl (), .inl (), .inl (), .inl (), .inl ()],
  [.inl (), .inl (), .inl (), .inr (.inl (3, [fr 20, fr 21, fr 22, fr 23, fr 24, fr 25, fr 26, fr 27, fr 30, fc 4, fc 4, fc 0, fc 0, fc 0, fc 1, fc 0, fc 0, fc 0])), .inl (), .inl (), .inl (), .inl (), .inl (), .inl (), .inl (), .inl (), .inl (), .inl (), .inl (), .inl ()],
  [.inl (), .inr (.inl (6, [fr 34, fr 35, fc 0, fc 0, fc 0])), .inr (.inr (0, 7, [])), .inr (.inr (0, 7, [(6, fc 4294967295), (5, fc 4294967295), (4, fc 4294967295), (3, fc 4294967295), (2, fc 4294967295), (1, fc 4294967295), (0, fc 4294967295)])), .inr (.inl (8, [fr 37, fr 40, fr 41, fr 42, fr 43, fr 44, fr 45, fr 46, fr 47, fr 48, fr 19])), .inr (.inl (6, [fr 38, fr 39, fc 0, fc 0, fc 0])), .inr (.inr (0, 7, [])), .inr (.inr (0, 7, [(6, fc 4294967295), (5, fc 4294967295), (4, fc 4294967295), (3, fc 4294967295), (2, fc 4294967295), (1, fc 4294967295), (0, fc 4294967295)])), .inr (.inr (0, 7, [])), .inr (.inr (0, 7, [])), .inr (.inr (0, 7, [])), .inl (), .inl (), .inl (), .inl (), .inl ()],
  [.inl (), .inl (), .inl (), .inl (), .inl (), .inl (), .inl (), .inl (), .inl (), .inl (), .inl (), .inl (), .inl (), .inl (), .inl (), .inl ()],
  [.inl (), .inl (), .inl (), .inl (), .inl (), .inl (), .inl (), .inl (), .inl (), .inl (), .inl (), .inl (), .inl (), .inl (), .inl (), .inl ()],
  [.inl (), .inl (), .inl (), .inl (), .inl (), .inl (), .inl (), .inl (), .inl (), .inl (), .inl (), .inl (), .inl (), .inl (), .inl (), .inl ()],
  [.inl (), .inl (), .inl (), .inl (), .inl (), .inl (), .inl (), .inl (), .inl (), .inl (), .inl (), .inl (), .inl (), .inl (), .inl (), .inl ()],
  [.inl (), .inl ()]]))
set_option maxRecDepth 100000 in
theorem fx_qb0 : fx_go (fx_ev fx_s0z (fun _ _ _ => false)) 10000 10 fm_62.1 fm_62.1 (fx_args fx_q0.2.1 0) [] 0 0 fm_62.2.2.1 fm_62.2.2.2.1 fx_q0.2.2.1 [] (fun v h _ => fx_ovq v fx_q0.2.2.2.1 && fx_hq h fx_q0.2.2.2.2) = true := by decide +kernel
theorem fx_qr0 : fx_smr fx_q0 := ⟨fm_62, 10000, rfl, Nat.le_of_ble_eq_true rfl, fx_qb0⟩
def fx_q1 : fx_sm := (85, [fr 36], (114, [[.inl (), .inl (), .inl (), .inl (), .inl (), .inl (), .inl (), .inl (), .inl (), .inl (), .inl (), .inl (), .inl (), .inl (), .inl (), .inl ()],
  [.inl (), .inl (), .inl (), .inr (.inl (3, [fr 20, fr 21, fr 22, fr 23, fr 24, fr 25, fr 26, fr 27, fr 30, fc 4, fc 4, fc 0, fc 0, fc 0, fc 1, fc 0, fc 0, fc 0])), .inl (), .inl (), .inl (), .inl (), .inl (), .inl (), .inl (), .inl (), .inl (), .inl (), .inl (), .inl ()],
  [.inl (), .inl (), .inl (), .inl (), .inr (.inl (8, [fr 37, fr 40, fr 41, fr 42, fr 43, fr 44, fr 45, fr 46, fr 47, fr 48, fr 19])), .inr (.inl (6, [fr 38, fr 39, fv 0, fv 0, fv 0])), .inr (.inr (0, 7, [])), .inl (), .inl (), .inl (), .inl (), .inr (.inr (0, 7, [])), .inl (), .inl (), .inl (), .inl ()],
  [.inl (), .inl (), .inl (), .inl (), .inl (), .inl (), .inl (), .inl (), .inl (), .inl (), .inl (), .inl (), .inl (), .inl (), .inl (), .inl ()],
  [.inl (), .inl (), .inl (), .inl (), .inl (), .inl (), .inl (), .inl (), .inl (), .inl (), .inl (), .inl (), .inl (), .inl (), .inl (), .inl ()],
  [.inl (), .inl (), .inl (), .inl (), .inl (), .inl (), .inl (), .inl (), .inl (), .inl (), .inl (), .inl (), .inl (), .inl (), .inl (), .inl ()],
  [.inl (), .inl (), .inl (), .inl (), .inl (), .inl (), .inl (), .inl (), .inl (), .inl (), .inl (), .inl (), .inl (), .inl (), .inl (), .inl ()],
  [.inl (), .inl ()]]), some (fc 0), (114, [[.inl (), .inl (), .inl (), .inl (), .inl (), .inl (), .inl (), .inl (), .inl (), .inl (), .inl (), .inl (), .inl (), .inl (), .inl (), .inl ()],
  [.inl (), .inl (), .inl (), .inr (.inl (3, [fr 20, fr 21, fr 22, fr 23, fr 24, fr 25, fr 26, fr 27, fr 30, fc 4, fc 4, fc 0, fc 0, fc 0, fc 1, fc 0, fc 0, fc 0])), .inl (), .inl (), .inl (), .inl (), .inl (), .inl (), .inl (), .inl (), .inl (), .inl (), .inl (), .inl ()],
  [.inl (), .inl (), .inl (), .inl (), .inr (.inl (8, [fr 37, fr 40, fr 41, fr 42, fr 43, fr 44, fr 45, fr 46, fr 47, fr 48, fr 19])), .inr (.inl (6, [fr 38, fr 39, fv 0, fv 0, fv 0])), .inr (.inr (0, 7, [])), .inl (), .inl (), .inl (), .inl (), .inr (.inr (0, 7, [])), .inl (), .inl (), .inl (), .inl ()],
  [.inl (), .inl (), .inl (), .inl (), .inl (), .inl (), .inl (), .inl (), .inl (), .inl (), .inl (), .inl (), .inl (), .inl (), .inl (), .inl ()],
  [.inl (), .inl (), .inl (), .inl (), .inl (), .inl (), .inl (), .inl (), .inl (), .inl (), .inl (), .inl (), .inl (), .inl (), .inl (), .inl ()],
  [.inl (), .inl (), .inl (), .inl (), .inl (), .inl (), .inl (), .inl (), .inl (), .inl (), .inl (), .inl (), .inl (), .inl (), .inl (), .inl ()],
  [.inl (), .inl (), .inl (), .inl (), .inl (), .inl (), .inl (), .inl (), .inl (), .inl (), .inl (), .inl (), .inl (), .inl (), .inl (), .inl ()],
  [.inl (), .inl ()]]))
set_option maxRecDepth 100000 in
theorem fx_qb1 : fx_go (fx_ev fx_s0z (fun _ _ _ => false)) 10000 10 fm_85.1 fm_85.1 (fx_args fx_q1.2.1 0) [] 0 0 fm_85.2.2.1 fm_85.2.2.2.1 fx_q1.2.2.1 [] (fun v h _ => fx_ovq v fx_q1.2.2.2.1 && fx_hq h fx_q1.2.2.2.2) = true := by decide +kernel
theorem fx_qr1 : fx_smr fx_q1 := ⟨fm_85, 10000, rfl, Nat.le_of_ble_eq_true rfl, fx_qb1⟩
def fx_q2 : fx_sm := (72, [fr 37], (114, [[.inl (), .inl (), .inl (), .inl (), .inl (), .inl (), .inl (), .inl (), .inl (), .inl (), .inl (), .inl (), .inl (), .inl (), .inl (), .inl ()],
  [.inl (), .inl (), .inl (), .inl (), .inl (), .inl (), .inl (), .inl (), .inl (), .inl (), .inl (), .inl (), .inl (), .inl (), .inl (), .inl ()],
  [.inl (), .inl (), .inl (), .inl (), .inl (), .inr (.inl (6, [fr 38, fr 39, fv 0, fv 0, fv 0])), .inr (.inr (0, 7, [])), .inl (), .inl (), .inl (), .inl (), .inl (), .inl (), .inl (), .inl (), .inl ()],
  [.inl (), .inl (), .inl (), .inl (), .inl (), .inl (), .inl (), .inl (), .inl (), .inl (), .inl (), .inl (), .inl (), .inl (), .inl (), .inl ()],
  [.inl (), .inl (), .inl (), .inl (), .inl (), .inl (), .inl (), .inl (), .inl (), .inl (), .inl (), .inl (), .inl (), .inl (), .inl (), .inl ()],
  [.inl (), .inl (), .inl (), .inl (), .inl (), .inl (), .inl (), .inl (), .inl (), .inl (), .inl (), .inl (), .inl (), .inl (), .inl (), .inl ()],
  [.inl (), .inl (), .inl (), .inl (), .inl (), .inl (), .inl (), .inl (), .inl (), .inl (), .inl (), .inl (), .inl (), .inl (), .inl (), .inl ()],
  [.inl (), .inl ()]]), some (fc 0), (114, [[.inl (), .inl (), .inl (), .inl (), .inl (), .inl (), .inl (), .inl (), .inl (), .inl (), .inl (), .inl (), .inl (), .inl (), .inl (), .inl ()],
  [.inl (), .inl (), .inl (), .inl (), .inl (), .inl (), .inl (), .inl (), .inl (), .inl (), .inl (), .inl (), .inl (), .inl (), .inl (), .inl ()],
  [.inl (), .inl (), .inl (), .inl (), .inl (), .inr (.inl (6, [fr 38, fr 39, fv 0, fv 0, fv 0])), .inr (.inr (0, 7, [])), .inl (), .inl (), .inl (), .inl (), .inl (), .inl (), .inl (), .inl (), .inl ()],
  [.inl (), .inl (), .inl (), .inl (), .inl (), .inl (), .inl (), .inl (), .inl (), .inl (), .inl (), .inl (), .inl (), .inl (), .inl (), .inl ()],
  [.inl (), .inl (), .inl (), .inl (), .inl (), .inl (), .inl (), .inl (), .inl (), .inl (), .inl (), .inl (), .inl (), .inl (), .inl (), .inl ()],
  [.inl (), .inl (), .inl (), .inl (), .inl (), .inl (), .inl (), .inl (), .inl (), .inl (), .inl (), .inl (), .inl (), .inl (), .inl (), .inl ()],
  [.inl (), .inl (), .inl (), .inl (), .inl (), .inl (), .inl (), .inl (), .inl (), .inl (), .inl (), .inl (), .inl (), .inl (), .inl (), .inl ()],
  [.inl (), .inl ()]]))
set_option maxRecDepth 100000 in
theorem fx_qb2 : fx_go (fx_ev fx_s0z (fun _ _ _ => false)) 10000 10 fm_72.1 fm_72.1 (fx_args fx_q2.2.1 0) [] 0 0 fm_72.2.2.1 fm_72.2.2.2.1 fx_q2.2.2.1 [] (fun v h _ => fx_ovq v fx_q2.2.2.2.1 && fx_hq h fx_q2.2.2.2.2) = true := by decide +kernel
theorem fx_qr2 : fx_smr fx_q2 := ⟨fm_72, 10000, rfl, Nat.le_of_ble_eq_true rfl, fx_qb2⟩
def fx_q3 : fx_sm := (90, [fr 67], (114, [[.inl (), .inl (), .inl (), .inl (), .inl (), .inl (), .inl (), .inl (), .inl (), .inl (), .inl (), .inl (), .inl (), .inl (), .inl (), .inl ()],
  [.inl (), .inl (), .inl (), .inl (), .inl (), .inl (), .inl (), .inl (), .inl (), .inl (), .inl (), .inl (), .inl (), .inl (), .inl (), .inl ()],
  [.inl (), .inl (), .inl (), .inl (), .inl (), .inl (), .inl (), .inl (), .inl (), .inl (), .inl (), .inl (), .inl (), .inl (), .inl (), .inl ()],
  [.inl (), .inl (), .inl (), .inl (), .inl (), .inl (), .inl (), .inl (), .inl (), .inl (), .inl (), .inl (), .inl (), .inl (), .inl (), .inl ()],
  [.inl (), .inl (), .inl (), .inr (.inl (10, [fr 68, fr 69, fc 0, fc 0, fc 0, fc 4294967295, fc 0, fc 0, fc 0, fc 0, fl 0, fr 70, fr 71, fr 72, fr 73, fr 74, fr 75, fr 76, fr 77, fr 78, fr 79, fr 80, fr 81, fr 82, fr 83, fr 84, fr 85, fr 86, fr 87, fr 88, fr 89, fr 90, fr 91, fr 92, fr 93, fr 94, fr 95, fc 0, fc 0, fc 0, fc 0, fc 0, fc 0, fc 0, fc 0, fc 0, fc 0, fc 0, fc 0, fc 0, fr 96, fr 97, fr 98, fc 0, fc 0, fr 99, fr 100, fc 0, fr 101, fr 102, fr 103, fr 104, fr 105, fr 106, fr 107, fr 108, fr 109, fr 110, fr 111, fc 0, fc 0, fr 112, fr 113])), .inl (), .inl (), .inl (), .inl (), .inl (), .inl (), .inr (.inr (0, 2, [])), .inl (), .inl (), .inl (), .inl (), .inl ()],
  [.inl (), .inl (), .inl (), .inl (), .inl (), .inl (), .inl (), .inl (), .inl (), .inl (), .inl (), .inl (), .inl (), .inl (), .inl (), .inl ()],
  [.inr (.inr (0, 17, [(15, fv 0), (13, fc 4294967295), (12, fc 4294967295), (11, fc 4294967295), (10, fc 4294967295), (9, fc 4294967295), (8, fc 4294967295), (7, fc 4294967295)])), .inl (), .inl (), .inl (), .inl (), .inl (), .inl (), .inl (), .inl (), .inl (), .inl (), .inl (), .inl (), .inl (), .inl (), .inl ()],
  [.inl (), .inl ()]]), some (fc 0), (114, [[.inl (), .inl (), .inl (), .inl (), .inl (), .inl (), .inl (), .inl (), .inl (), .inl (), .inl (), .inl (), .inl (), .inl (), .inl (), .inl ()],
  [.inl (), .inl (), .inl (), .inl (), .inl (), .inl (), .inl (), .inl (), .inl (), .inl (), .inl (), .inl (), .inl (), .inl (), .inl (), .inl ()],
  [.inl (), .inl (), .inl (), .inl (), .inl (), .inl (), .inl (), .inl (), .inl (), .inl (), .inl (), .inl (), .inl (), .inl (), .inl (), .inl ()],
  [.inl (), .inl (), .inl (), .inl (), .inl (), .inl (), .inl (), .inl (), .inl (), .inl (), .inl (), .inl (), .inl (), .inl (), .inl (), .inl ()],
  [.inl (), .inl (), .inl (), .inr (.inl (10, [fr 68, fr 69, fc 0, fc 0, fc 0, fc 4294967295, fc 0, fc 0, fc 0, fc 0, fl 0, fr 70, fr 71, fr 72, fr 73, fr 74, fr 75, fr 76, fr 77, fr 78, fr 79, fr 80, fr 81, fr 82, fr 83, fr 84, fr 85, fr 86, fr 87, fr 88, fr 89, fr 90, fr 91, fr 92, fr 93, fr 94, fr 95, fc 0, fc 0, fc 0, fc 0, fc 0, fc 0, fc 0, fc 0, fc 0, fc 0, fc 0, fc 0, fc 0, fr 96, fr 97, fr 98, fc 0, fc 0, fr 99, fr 100, fc 0, fr 101, fr 102, fr 103, fr 104, fr 105, fr 106, fr 107, fr 108, fr 109, fr 110, fr 111, fc 0, fc 0, fr 112, fr 113])), .inl (), .inl (), .inl (), .inl (), .inl (), .inl (), .inr (.inr (0, 2, [])), .inl (), .inl (), .inl (), .inl (), .inl ()],
  [.inl (), .inl (), .inl (), .inl (), .inl (), .inl (), .inl (), .inl (), .inl (), .inl (), .inl (), .inl (), .inl (), .inl (), .inl (), .inl ()],
  [.inr (.inr (0, 17, [(15, fv 0), (13, fc 4294967295), (12, fc 4294967295), (11, fc 4294967295), (10, fc 4294967295), (9, fc 4294967295), (8, fc 4294967295), (7, fc 4294967295)])), .inl (), .inl (), .inl (), .inl (), .inl (), .inl (), .inl (), .inl (), .inl (), .inl (), .inl (), .inl (), .inl (), .inl (), .inl ()],
  [.inl (), .inl ()]]))
set_option maxRecDepth 100000 in
theorem fx_qb3 : fx_go (fx_ev fx_s0z (fun _ _ _ => false)) 10000 10 fm_90.1 fm_90.1 (fx_args fx_q3.2.1 0) [] 0 0 fm_90.2.2.1 fm_90.2.2.2.1 fx_q3.2.2.1 [] (fun v h _ => fx_ovq v fx_q3.2.2.2.1 && fx_hq h fx_q3.2.2.2.2) = true := by decide +kernel
theorem fx_qr3 : fx_smr fx_q3 := ⟨fm_90, 10000, rfl, Nat.le_of_ble_eq_true rfl, fx_qb3⟩
def fx_q4 : fx_sm := (90, [fr 67], (114, [[.inl (), .inl (), .inl (), .inl (), .inl (), .inl (), .inl (), .inl (), .inl (), .inl (), .inl (), .inl (), .inl (), .inl (), .inl (), .inl ()],
  [.inl (), .inl (), .inl (), .inl (), .inl (), .inl (), .inl (), .inl (), .inl (), .inl (), .inl (), .inl (), .inl (), .inl (), .inl (), .inl ()],
  [.inl (), .inl (), .inl (), .inl (), .inl (), .inl (), .inl (), .inl (), .inl (), .inl (), .inl (), .inl (), .inl (), .inl (), .inl (), .inl ()],
  [.inl (), .inl (), .inl (), .inl (), .inl (), .inl (), .inl (), .inl (), .inl (), .inl (), .inl (), .inl (), .inl (), .inl (), .inl (), .inl ()],
  [.inl (), .inl (), .inl (), .inr (.inl (10, [fr 68, fr 69, fc 0, fc 0, fc 0, fc 4294967295, fc 0, fc 0, fc 0, fc 0, fl 0, fr 70, fr 71, fr 72, fr 73, fr 74, fr 75, fr 76, fr 77, fr 78, fr 79, fr 80, fr 81, fr 82, fr 83, fr 84, fr 85, fr 86, fr 87, fr 88, fr 89, fr 90, fr 91, fr 92, fr 93, fr 94, fr 95, fc 0, fc 0, fc 0, fc 0, fc 0, fc 0, fc 0, fc 0, fc 0, fc 0, fc 0, fc 0, fc 0, fr 96, fr 97, fr 98, fc 0, fc 0, fr 99, fr 100, fc 0, fr 101, fr 102, fr 103, fr 104, fr 105, fr 106, fr 107, fr 108, fr 109, fr 110, fr 111, fc 0, fc 0, fr 112, fr 113])), .inl (), .inl (), .inl (), .inl (), .inl (), .inl (), .inr (.inr (0, 2, [])), .inl (), .inl (), .inl (), .inl (), .inl ()],
  [.inl (), .inl (), .inl (), .inl (), .inl (), .inl (), .inl (), .inl (), .inl (), .inl (), .inl (), .inl (), .inl (), .inl (), .inl (), .inl ()],
  [.inr (.inr (0, 17, [(15, fv 0), (14, fv 0), (13, fc 4294967295), (12, fc 4294967295), (11, fc 4294967295), (10, fc 4294967295), (9, fc 4294967295), (8, fc 4294967295), (7, fc 4294967295)])), .inl (), .inl (), .inl (), .inl (), .inl (), .inl (), .inl (), .inl (), .inl (), .inl (), .inl (), .inl (), .inl (), .inl (), .inl ()],
  [.inl (), .inl ()]]), some (fc 0), (114, [[.inl (), .inl (), .inl (), .inl (), .inl (), .inl (), .inl (), .inl (), .inl (), .inl (), .inl (), .inl (), .inl (), .inl (), .inl (), .inl ()],
  [.inl (), .inl (), .inl (), .inl (), .inl (), .inl (), .inl (), .inl (), .inl (), .inl (), .inl (), .inl (), .inl (), .inl (), .inl (), .inl ()],
  [.inl (), .inl (), .inl (), .inl (), .inl (), .inl (), .inl (), .inl (), .inl (), .inl (), .inl (), .inl (), .inl (), .inl (), .inl (), .inl ()],
  [.inl (), .inl (), .inl (), .inl (), .inl (), .inl (), .inl (), .inl (), .inl (), .inl (), .inl (), .inl (), .inl (), .inl (), .inl (), .inl ()],
  [.inl (), .inl (), .inl (), .inr (.inl (10, [fr 68, fr 69, fc 0, fc 0, fc 0, fc 4294967295, fc 0, fc 0, fc 0, fc 0, fl 0, fr 70, fr 71, fr 72, fr 73, fr 74, fr 75, fr 76, fr 77, fr 78, fr 79, fr 80, fr 81, fr 82, fr 83, fr 84, fr 85, fr 86, fr 87, fr 88, fr 89, fr 90, fr 91, fr 92, fr 93, fr 94, fr 95, fc 0, fc 0, fc 0, fc 0, fc 0, fc 0, fc 0, fc 0, fc 0, fc 0, fc 0, fc 0, fc 0, fr 96, fr 97, fr 98, fc 0, fc 0, fr 99, fr 100, fc 0, fr 101, fr 102, fr 103, fr 104, fr 105, fr 106, fr 107, fr 108, fr 109, fr 110, fr 111, fc 0, fc 0, fr 112, fr 113])), .inl (), .inl (), .inl (), .inl (), .inl (), .inl (), .inr (.inr (0, 2, [])), .inl (), .inl (), .inl (), .inl (), .inl ()],
  [.inl (), .inl (), .inl (), .inl (), .inl (), .inl (), .inl (), .inl (), .inl (), .inl (), .inl (), .inl (), .inl (), .inl (), .inl (), .inl ()],
  [.inr (.inr (0, 17, [(15, fv 0), (14, fv 0), (13, fc 4294967295), (12, fc 4294967295), (11, fc 4294967295), (10, fc 4294967295), (9, fc 4294967295), (8, fc 4294967295), (7, fc 4294967295)])), .inl (), .inl (), .inl (), .inl (), .inl (), .inl (), .inl (), .inl (), .inl (), .inl (), .inl (), .inl (), .inl (), .inl (), .inl ()],
  [.inl (), .inl ()]]))
set_option maxRecDepth 100000 in
theorem fx_qb4 : fx_go (fx_ev fx_s0z (fun _ _ _ => false)) 10000 10 fm_90.1 fm_90.1 (fx_args fx_q4.2.1 0) [] 0 0 fm_90.2.2.1 fm_90.2.2.2.1 fx_q4.2.2.1 [] (fun v h _ => fx_ovq v fx_q4.2.2.2.1 && fx_hq h fx_q4.2.2.2.2) = true := by decide +kernel
theorem fx_qr4 : fx_smr fx_q4 := ⟨fm_90, 10000, rfl, Nat.le_of_ble_eq_true rfl, fx_qb4⟩
def fx_q5 : fx_sm := (128, [fr 67], (114, [[.inl (), .inl (), .inl (), .inl (), .inl (), .inl (), .inl (), .inl (), .inl (), .inl (), .inl (), .inl (), .inl (), .inl (), .inl (), .inl ()],
  [.inl (), .inl (), .inl (), .inl (), .inl (), .inl (), .inl (), .inl (), .inl (), .inl (), .inl (), .inl (), .inl (), .inl (), .inl (), .inl ()],
  [.inl (), .inl (), .inl (), .inl (), .inl (), .inl (), .inl (), .inl (), .inl (), .inl (), .inl (), .inl (), .inl (), .inl (), .inl (), .inl ()],
  [.inl (), .inl (), .inl (), .inl (), .inl (), .inl (), .inl (), .inl (), .inl (), .inl (), .inl (), .inl (), .inl (), .inl (), .inl (), .inl ()],
  [.inl (), .inl (), .inl (), .inr (.inl (10, [fr 68, fr 69, fc 0, fc 0, fc 0, fc 4294967295, fc 0, fc 0, fc 0, fc 0, fl 0, fr 70, fr 71, fr 72, fr 73, fr 74, fr 75, fr 76, fr 77, fr 78, fr 79, fr 80, fr 81, fr 82, fr 83, fr 84, fr 85, fr 86, fr 87, fr 88, fr 89, fr 90, fr 91, fr 92, fr 93, fr 94, fr 95, fc 0, fc 0, fc 0, fc 0, fc 0, fc 0, fc 0, fc 0, fc 0, fc 0, fc 0, fc 0, fc 0, fr 96, fr 97, fr 98, fc 0, fc 0, fr 99, fr 100, fc 0, fr 101, fr 102, fr 103, fr 104, fr 105, fr 106, fr 107, fr 108, fr 109, fr 110, fr 111, fc 0, fc 0, fr 112, fr 113])), .inl (), .inl (), .inl (), .inl (), .inl (), .inl (), .inl (), .inl (), .inl (), .inl (), .inl (), .inl ()],
  [.inl (), .inl (), .inl (), .inl (), .inl (), .inl (), .inl (), .inl (), .inl (), .inl (), .inl (), .inl (), .inl (), .inl (), .inl (), .inl ()],
  [.inr (.inr (0, 17, [(13, fc 4294967295), (12, fc 4294967295), (11, fc 4294967295), (10, fc 4294967295), (9, fc 4294967295), (8, fc 4294967295), (7, fc 4294967295)])), .inl (), .inl (), .inl (), .inl (), .inr (.inr (0, 17, [(13, fc 4294967295), (12, fc 4294967295), (11, fc 4294967295), (10, fc 4294967295), (9, fc 4294967295), (8, fc 4294967295), (7, fc 4294967295)])), .inl (), .inl (), .inl (), .inl (), .inl (), .inl (), .inl (), .inl (), .inl (), .inl ()],
  [.inl (), .inl ()]]), none, (114, [[.inl (), .inl (), .inl (), .inl (), .inl (), .inl (), .inl (), .inl (), .inl (), .inl (), .inl (), .inl (), .inl (), .inl (), .inl (), .inl ()],
  [.inl (), .inl (), .inl (), .inl (), .inl (), .inl (), .inl (), .inl (), .inl (), .inl (), .inl (), .inl (), .inl (), .inl (), .inl (), .inl ()],
  [.inl (), .inl (), .inl (), .inl (), .inl (), .inl (), .inl (), .inl (), .inl (), .inl (), .inl (), .inl (), .inl (), .inl (), .inl (), .inl ()],
  [.inl (), .inl (), .inl (), .inl (), .inl (), .inl (), .inl (), .inl (), .inl (), .inl (), .inl (), .inl (), .inl (), .inl (), .inl (), .inl ()],
  [.inl (), .inl (), .inl (), .inr (.inl (10, [fr 68, fr 69, fc 0, fc 0, fc 0, fc 4294967295, fc 0, fc 0, fc 0, fc 0, fl 0, fr 70, fr 71, fr 72, fr 73, fr 74, fr 75, fr 76, fr 77, fr 78, fr 79, fr 80, fr 81, fr 82, fr 83, fr 84, fr 85, fr 86, fr 87, fr 88, fr 89, fr 90, fr 91, fr 92, fr 93, fr 94, fr 95, fc 0, fc 0, fc 0, fc 0, fc 0, fc 0, fc 0, fc 0, fc 0, fc 0, fc 0, fc 0, fc 0, fr 96, fr 97, fr 98, fc 0, fc 0, fr 99, fr 100, fc 0, fr 101, fr 102, fr 103, fr 104, fr 105, fr 106, fr 107, fr 108, fr 109, fr 110, fr 111, fc 0, fc 0, fr 112, fr 113])), .inl (), .inl (), .inl (), .inl (), .inl (), .inl (), .inl (), .inl (), .inl (), .inl (), .inl (), .inl ()],
  [.inl (), .inl (), .inl (), .inl (), .inl (), .inl (), .inl (), .inl (), .inl (), .inl (), .inl (), .inl (), .inl (), .inl (), .inl (), .inl ()],
  [.inr (.inr (0, 17, [(13, fc 4294967295), (12, fc 4294967295), (11, fc 4294967295), (10, fc 4294967295), (9, fc 4294967295), (8, fc 4294967295), (7, fc 4294967295)])), .inl (), .inl (), .inl (), .inl (), .inr (.inr (0, 17, [(13, fc 4294967295), (12, fc 4294967295), (11, fc 4294967295), (10, fc 4294967295), (9, fc 4294967295), (8, fc 4294967295), (7, fc 4294967295)])), .inl (), .inl (), .inl (), .inl (), .inl (), .inl (), .inl (), .inl (), .inl (), .inl ()],
  [.inl (), .inl ()]]))
set_option maxRecDepth 100000 in
theorem fx_qb5 : fx_go (fx_ev fx_s0z (fun _ _ _ => false)) 10000 10 fm_128.1 fm_128.1 (fx_args fx_q5.2.1 0) [] 0 0 fm_128.2.2.1 fm_128.2.2.2.1 fx_q5.2.2.1 [] (fun v h _ => fx_ovq v fx_q5.2.2.2.1 && fx_hq h fx_q5.2.2.2.2) = true := by decide +kernel
theorem fx_qr5 : fx_smr fx_q5 := ⟨fm_128, 10000, rfl, Nat.le_of_ble_eq_true rfl, fx_qb5⟩
def fx_q6 : fx_sm := (129, [fr 67], (114, [[.inl (), .inl (), .inl (), .inl (), .inl (), .inl (), .inl (), .inl (), .inl (), .inl (), .inl (), .inl (), .inl (), .inl (), .inl (), .inl ()],
  [.inl (), .inl (), .inl (), .inl (), .inl (), .inl (), .inl (), .inl (), .inl (), .inl (), .inl (), .inl (), .inl (), .inl (), .inl (), .inl ()],
  [.inl (), .inl (), .inl (), .inl (), .inl (), .inl (), .inl (), .inl (), .inl (), .inl (), .inl (), .inl (), .inl (), .inl (), .inl (), .inl ()],
  [.inl (), .inl (), .inl (), .inl (), .inl (), .inl (), .inl (), .inl (), .inl (), .inl (), .inl (), .inl (), .inl (), .inl (), .inl (), .inl ()],
  [.inl (), .inl (), .inl (), .inr (.inl (10, [fr 68, fr 69, fc 0, fc 0, fc 0, fc 4294967295, fc 0, fc 0, fc 0, fc 0, fl 0, fr 70, fr 71, fr 72, fr 73, fr 74, fr 75, fr 76, fr 77, fr 78, fr 79, fr 80, fr 81, fr 82, fr 83, fr 84, fr 85, fr 86, fr 87, fr 88, fr 89, fr 90, fr 91, fr 92, fr 93, fr 94, fr 95, fc 0, fc 0, fc 0, fc 0, fc 0, fc 0, fc 0, fc 0, fc 0, fc 0, fc 0, fc 0, fc 0, fr 96, fr 97, fr 98, fc 0, fc 0, fr 99, fr 100, fc 0, fr 101, fr 102, fr 103, fr 104, fr 105, fr 106, fr 107, fr 108, fr 109, fr 110, fr 111, fc 0, fc 0, fr 112, fr 113])), .inl (), .inl (), .inl (), .inl (), .inl (), .inl (), .inl (), .inl (), .inl (), .inl (), .inl (), .inl ()],
  [.inl (), .inl (), .inl (), .inl (), .inl (), .inl (), .inl (), .inl (), .inl (), .inl (), .inl (), .inl (), .inl (), .inl (), .inl (), .inl ()],
  [.inr (.inr (0, 17, [(15, fv 0), (13, fc 4294967295), (12, fc 4294967295), (11, fc 4294967295), (10, fc 4294967295), (9, fc 4294967295), (8, fc 4294967295), (7, fc 4294967295)])), .inl (), .inl (), .inl (), .inl (), .inr (.inr (0, 17, [(13, fc 4294967295), (12, fc 4294967295), (11, fc 4294967295), (10, fc 4294967295), (9, fc 4294967295), (8, fc 4294967295), (7, fc 4294967295)])), .inl (), .inl (), .inl (), .inl (), .inl (), .inl (), .inl (), .inl (), .inl (), .inl ()],
  [.inl (), .inl ()]]), none, (114, [[.inl (), .inl (), .inl (), .inl (), .inl (), .inl (), .inl (), .inl (), .inl (), .inl (), .inl (), .inl (), .inl (), .inl (), .inl (), .inl ()],
  [.inl (), .inl (), .inl (), .inl (), .inl (), .inl (), .inl (), .inl (), .inl (), .inl (), .inl (), .inl (), .inl (), .inl (), .inl (), .inl ()],
  [.inl (), .inl (), .inl (), .inl (), .inl (), .inl (), .inl (), .inl (), .inl (), .inl (), .inl (), .inl (), .inl (), .inl (), .inl (), .inl ()],
  [.inl (), .inl (), .inl (), .inl (), .inl (), .inl (), .inl (), .inl (), .inl (), .inl (), .inl (), .inl (), .inl (), .inl (), .inl (), .inl ()],
  [.inl (), .inl (), .inl (), .inr (.inl (10, [fr 68, fr 69, fc 0, fc 0, fc 0, fc 4294967295, fc 0, fc 0, fc 0, fc 0, fl 0, fr 70, fr 71, fr 72, fr 73, fr 74, fr 75, fr 76, fr 77, fr 78, fr 79, fr 80, fr 81, fr 82, fr 83, fr 84, fr 85, fr 86, fr 87, fr 88, fr 89, fr 90, fr 91, fr 92, fr 93, fr 94, fr 95, fc 0, fc 0, fc 0, fc 0, fc 0, fc 0, fc 0, fc 0, fc 0, fc 0, fc 0, fc 0, fc 0, fr 96, fr 97, fr 98, fc 0, fc 0, fr 99, fr 100, fc 0, fr 101, fr 102, fr 103, fr 104, fr 105, fr 106, fr 107, fr 108, fr 109, fr 110, fr 111, fc 0, fc 0, fr 112, fr 113])), .inl (), .inl (), .inl (), .inl (), .inl (), .inl (), .inl (), .inl (), .inl (), .inl (), .inl (), .inl ()],
  [.inl (), .inl (), .inl (), .inl (), .inl (), .inl (), .inl (), .inl (), .inl (), .inl (), .inl (), .inl (), .inl (), .inl (), .inl (), .inl ()],
  [.inr (.inr (0, 17, [(13, fc 4294967295), (12, fc 4294967295), (11, fc 4294967295), (10, fc 4294967295), (9, fc 4294967295), (8, fc 4294967295), (7, fc 4294967295)])), .inl (), .inl (), .inl (), .inl (), .inr (.inr (0, 17, [(13, fc 4294967295), (12, fc 4294967295), (11, fc 4294967295), (10, fc 4294967295), (9, fc 4294967295), (8, fc 4294967295), (7, fc 4294967295)])), .inl (), .inl (), .inl (), .inl (), .inl (), .inl (), .inl (), .inl (), .inl (), .inl ()],
  [.inl (), .inl ()]]))
set_option maxRecDepth 100000 in
theorem fx_qb6 : fx_go (fx_ev fx_s0z (fun _ _ _ => false)) 10000 10 fm_129.1 fm_129.1 (fx_args fx_q6.2.1 0) [] 0 0 fm_129.2.2.1 fm_129.2.2.2.1 fx_q6.2.2.1 [] (fun v h _ => fx_ovq v fx_q6.2.2.2.1 && fx_hq h fx_q6.2.2.2.2) = true := by decide +kernel
theorem fx_qr6 : fx_smr fx_q6 := ⟨fm_129, 10000, rfl, Nat.le_of_ble_eq_true rfl, fx_qb6⟩
def fx_q7 : fx_sm := (129, [fr 67], (114, [[.inl (), .inl (), .inl (), .inl (), .inl (), .inl (), .inl (), .inl (), .inl (), .inl (), .inl (), .inl (), .inl (), .inl (), .inl (), .inl ()],
  [.inl (), .inl (), .inl (), .inl (), .inl (), .inl (), .inl (), .inl (), .inl (), .inl (), .inl (), .inl (), .inl (), .inl (), .inl (), .inl ()],
  [.inl (), .inl (), .inl (), .inl (), .inl (), .inl (), .inl (), .inl (), .inl (), .inl (), .inl (), .inl (), .inl (), .inl (), .inl (), .inl ()],
  [.inl (), .inl (), .inl (), .inl (), .inl (), .inl (), .inl (), .inl (), .inl (), .inl (), .inl (), .inl (), .inl (), .inl (), .inl (), .inl ()],
  [.inl (), .inl (), .inl (), .inr (.inl (10, [fr 68, fr 69, fc 0, fc 0, fc 0, fc 4294967295, fc 0, fc 0, fc 0, fc 0, fl 0, fr 70, fr 71, fr 72, fr 73, fr 74, fr 75, fr 76, fr 77, fr 78, fr 79, fr 80, fr 81, fr 82, fr 83, fr 84, fr 85, fr 86, fr 87, fr 88, fr 89, fr 90, fr 91, fr 92, fr 93, fr 94, fr 95, fc 0, fc 0, fc 0, fc 0, fc 0, fc 0, fc 0, fc 0, fc 0, fc 0, fc 0, fc 0, fc 0, fr 96, fr 97, fr 98, fc 0, fc 0, fr 99, fr 100, fc 0, fr 101, fr 102, fr 103, fr 104, fr 105, fr 106, fr 107, fr 108, fr 109, fr 110, fr 111, fc 0, fc 0, fr 112, fr 113])), .inl (), .inl (), .inl (), .inl (), .inl (), .inl (), .inl (), .inl (), .inl (), .inl (), .inl (), .inl ()],
  [.inl (), .inl (), .inl (), .inl (), .inl (), .inl (), .inl (), .inl (), .inl (), .inl (), .inl (), .inl (), .inl (), .inl (), .inl (), .inl ()],
  [.inr (.inr (0, 17, [(15, fv 0), (14, fv 0), (13, fc 4294967295), (12, fc 4294967295), (11, fc 4294967295), (10, fc 4294967295), (9, fc 4294967295), (8, fc 4294967295), (7, fc 4294967295)])), .inl (), .inl (), .inl (), .inl (), .inr (.inr (0, 17, [(13, fc 4294967295), (12, fc 4294967295), (11, fc 4294967295), (10, fc 4294967295), (9, fc 4294967295), (8, fc 4294967295), (7, fc 4294967295)])), .inl (), .inl (), .inl (), .inl (), .inl (), .inl (), .inl (), .inl (), .inl (), .inl ()],
  [.inl (), .inl ()]]), none, (114, [[.inl (), .inl (), .inl (), .inl (), .inl (), .inl (), .inl (), .inl (), .inl (), .inl (), .inl (), .inl (), .inl (), .inl (), .inl (), .inl ()],
  [.inl (), .inl (), .inl (), .inl (), .inl (), .inl (), .inl (), .inl (), .inl (), .inl (), .inl (), .inl (), .inl (), .inl (), .inl (), .inl ()],
  [.inl (), .inl (), .inl (), .inl (), .inl (), .inl (), .inl (), .inl (), .inl (), .inl (), .inl (), .inl (), .inl (), .inl (), .inl (), .inl ()],
  [.inl (), .inl (), .inl (), .inl (), .inl (), .inl (), .inl (), .inl (), .inl (), .inl (), .inl (), .inl (), .inl (), .inl (), .inl (), .inl ()],
  [.inl (), .inl (), .inl (), .inr (.inl (10, [fr 68, fr 69, fc 0, fc 0, fc 0, fc 4294967295, fc 0, fc 0, fc 0, fc 0, fl 0, fr 70, fr 71, fr 72, fr 73, fr 74, fr 75, fr 76, fr 77, fr 78, fr 79, fr 80, fr 81, fr 82, fr 83, fr 84, fr 85, fr 86, fr 87, fr 88, fr 89, fr 90, fr 91, fr 92, fr 93, fr 94, fr 95, fc 0, fc 0, fc 0, fc 0, fc 0, fc 0, fc 0, fc 0, fc 0, fc 0, fc 0, fc 0, fc 0, fr 96, fr 97, fr 98, fc 0, fc 0, fr 99, fr 100, fc 0, fr 101, fr 102, fr 103, fr 104, fr 105, fr 106, fr 107, fr 108, fr 109, fr 110, fr 111, fc 0, fc 0, fr 112, fr 113])), .inl (), .inl (), .inl (), .inl (), .inl (), .inl (), .inl (), .inl (), .inl (), .inl (), .inl (), .inl ()],
  [.inl (), .inl (), .inl (), .inl (), .inl (), .inl (), .inl (), .inl (), .inl (), .inl (), .inl (), .inl (), .inl (), .inl (), .inl (), .inl ()],
  [.inr (.inr (0, 17, [(13, fc 4294967295), (12, fc 4294967295), (11, fc 4294967295), (10, fc 4294967295), (9, fc 4294967295), (8, fc 4294967295), (7, fc 4294967295)])), .inl (), .inl (), .inl (), .inl (), .inr (.inr (0, 17, [(13, fc 4294967295), (12, fc 4294967295), (11, fc 4294967295), (10, fc 4294967295), (9, fc 4294967295), (8, fc 4294967295), (7, fc 4294967295)])), .inl (), .inl (), .inl (), .inl (), .inl (), .inl (), .inl (), .inl (), .inl (), .inl ()],
  [.inl (), .inl ()]]))
set_option maxRecDepth 100000 in
theorem fx_qb7 : fx_go (fx_ev fx_s0z (fun _ _ _ => false)) 10000 10 fm_129.1 fm_129.1 (fx_args fx_q7.2.1 0) [] 0 0 fm_129.2.2.1 fm_129.2.2.2.1 fx_q7.2.2.1 [] (fun v h _ => fx_ovq v fx_q7.2.2.2.1 && fx_hq h fx_q7.2.2.2.2) = true := by decide +kernel
theorem fx_qr7 : fx_smr fx_q7 := ⟨fm_129, 10000, rfl, Nat.le_of_ble_eq_true rfl, fx_qb7⟩
def fx_q8 : fx_sm := (129, [fr 67], (114, [[.inl (), .inl (), .inl (), .inl (), .inl (), .inl (), .inl (), .inl (), .inl (), .inl (), .inl (), .inl (), .inl (), .inl (), .inl (), .inl ()],
  [.inl (), .inl (), .inl (), .inl (), .inl (), .inl (), .inl (), .inl (), .inl (), .inl (), .inl (), .inl (), .inl (), .inl (), .inl (), .inl ()],
  [.inl (), .inl (), .inl (), .inl (), .inl (), .inl (), .inl (), .inl (), .inl (), .inl (), .inl (), .inl (), .inl (), .inl (), .inl (), .inl ()],
  [.inl (), .inl (), .inl (), .inl (), .inl (), .inl (), .inl (), .inl (), .inl (), .inl (), .inl (), .inl (), .inl (), .inl (), .inl (), .inl ()],
  [.inl (), .inl (), .inl (), .inr (.inl (10, [fr 68, fr 69, fc 0, fc 0, fc 0, fc 4294967295, fc 0, fc 0, fc 0, fc 0, fl 0, fr 70, fr 71, fr 72, fr 73, fr 74, fr 75, fr 76, fr 77, fr 78, fr 79, fr 80, fr 81, fr 82, fr 83, fr 84, fr 85, fr 86, fr 87, fr 88, fr 89, fr 90, fr 91, fr 92, fr 93, fr 94, fr 95, fc 0, fc 0, fc 0, fc 0, fc 0, fc 0, fc 0, fc 0, fc 0, fc 0, fc 0, fc 0, fc 0, fr 96, fr 97, fr 98, fc 0, fc 0, fr 99, fr 100, fc 0, fr 101, fr 102, fr 103, fr 104, fr 105, fr 106, fr 107, fr 108, fr 109, fr 110, fr 111, fc 0, fc 0, fr 112, fr 113])), .inl (), .inl (), .inl (), .inl (), .inl (), .inl (), .inl (), .inl (), .inl (), .inl (), .inl (), .inl ()],
  [.inl (), .inl (), .inl (), .inl (), .inl (), .inl (), .inl (), .inl (), .inl (), .inl (), .inl (), .inl (), .inl (), .inl (), .inl (), .inl ()],
  [.inr (.inr (0, 17, [(14, fv 0), (13, fc 4294967295), (12, fc 4294967295), (11, fc 4294967295), (10, fc 4294967295), (9, fc 4294967295), (8, fc 4294967295), (7, fc 4294967295)])), .inl (), .inl (), .inl (), .inl (), .inr (.inr (0, 17, [(13, fc 4294967295), (12, fc 4294967295), (11, fc 4294967295), (10, fc 4294967295), (9, fc 4294967295), (8, fc 4294967295), (7, fc 4294967295)])), .inl (), .inl (), .inl (), .inl (), .inl (), .inl (), .inl (), .inl (), .inl (), .inl ()],
  [.inl (), .inl ()]]), none, (114, [[.inl (), .inl (), .inl (), .inl (), .inl (), .inl (), .inl (), .inl (), .inl (), .inl (), .inl (), .inl (), .inl (), .inl (), .inl (), .inl ()],
  [.inl (), .inl (), .inl (), .inl (), .inl (), .inl (), .inl (), .inl (), .inl (), .inl (), .inl (), .inl (), .inl (), .inl (), .inl (), .inl ()],
  [.inl (), .inl (), .inl (), .inl (), .inl (), .inl (), .inl (), .inl (), .inl (), .inl (), .inl (), .inl (), .inl (), .inl (), .inl (), .inl ()],
  [.inl (), .inl (), .inl (), .inl (), .inl (), .inl (), .inl (), .inl (), .inl (), .inl (), .inl (), .inl (), .inl (), .inl (), .inl (), .inl ()],
  [.inl (), .inl (), .inl (), .inr (.inl (10, [fr 68, fr 69, fc 0, fc 0, fc 0, fc 4294967295, fc 0, fc 0, fc 0, fc 0, fl 0, fr 70, fr 71, fr 72, fr 73, fr 74, fr 75, fr 76, fr 77, fr 78, fr 79, fr 80, fr 81, fr 82, fr 83, fr 84, fr 85, fr 86, fr 87, fr 88, fr 89, fr 90, fr 91, fr 92, fr 93, fr 94, fr 95, fc 0, fc 0, fc 0, fc 0, fc 0, fc 0, fc 0, fc 0, fc 0, fc 0, fc 0, fc 0, fc 0, fr 96, fr 97, fr 98, fc 0, fc 0, fr 99, fr 100, fc 0, fr 101, fr 102, fr 103, fr 104, fr 105, fr 106, fr 107, fr 108, fr 109, fr 110, fr 111, fc 0, fc 0, fr 112, fr 113])), .inl (), .inl (), .inl (), .inl (), .inl (), .inl (), .inl (), .inl (), .inl (), .inl (), .inl (), .inl ()],
  [.inl (), .inl (), .inl (), .inl (), .inl (), .inl (), .inl (), .inl (), .inl (), .inl (), .inl (), .inl (), .inl (), .inl (), .inl (), .inl ()],
  [.inr (.inr (0, 17, [(13, fc 4294967295), (12, fc 4294967295), (11, fc 4294967295), (10, fc 4294967295), (9, fc 4294967295), (8, fc 4294967295), (7, fc 4294967295)])), .inl (), .inl (), .inl (), .inl (), .inr (.inr (0, 17, [(13, fc 4294967295), (12, fc 4294967295), (11, fc 4294967295), (10, fc 4294967295), (9, fc 4294967295), (8, fc 4294967295), (7, fc 4294967295)])), .inl (), .inl (), .inl (), .inl (), .inl (), .inl (), .inl (), .inl (), .inl (), .inl ()],
  [.inl (), .inl ()]]))
set_option maxRecDepth 100000 in
theorem fx_qb8 : fx_go (fx_ev fx_s0z (fun _ _ _ => false)) 10000 10 fm_129.1 fm_129.1 (fx_args fx_q8.2.1 0) [] 0 0 fm_129.2.2.1 fm_129.2.2.2.1 fx_q8.2.2.1 [] (fun v h _ => fx_ovq v fx_q8.2.2.2.1 && fx_hq h fx_q8.2.2.2.2) = true := by decide +kernel
theorem fx_qr8 : fx_smr fx_q8 := ⟨fm_129, 10000, rfl, Nat.le_of_ble_eq_true rfl, fx_qb8⟩
def fx_q9 : fx_sm := (129, [fr 67], (114, [[.inl (), .inl (), .inl (), .inl (), .inl (), .inl (), .inl (), .inl (), .inl (), .inl (), .inl (), .inl (), .inl (), .inl (), .inl (), .inl ()],
  [.inl (), .inl (), .inl (), .inl (), .inl (), .inl (), .inl (), .inl (), .inl (), .inl (), .inl (), .inl (), .inl (), .inl (), .inl (), .inl ()],
  [.inl (), .inl (), .inl (), .inl (), .inl (), .inl (), .inl (), .inl (), .inl (), .inl (), .inl (), .inl (), .inl (), .inl (), .inl (), .inl ()],
  [.inl (), .inl (), .inl (), .inl (), .inl (), .inl (), .inl (), .inl (), .inl (), .inl (), .inl (), .inl (), .inl (), .inl (), .inl (), .inl ()],
  [.inl (), .inl (), .inl (), .inr (.inl (10, [fr 68, fr 69, fc 0, fc 0, fc 0, fc 4294967295, fc 0, fc 0, fc 0, fc 0, fl 0, fr 70, fr 71, fr 72, fr 73, fr 74, fr 75, fr 76, fr 77, fr 78, fr 79, fr 80, fr 81, fr 82, fr 83, fr 84, fr 85, fr 86, fr 87, fr 88, fr 89, fr 90, fr 91, fr 92, fr 93, fr 94, fr 95, fc 0, fc 0, fc 0, fc 0, fc 0, fc 0, fc 0, fc 0, fc 0, fc 0, fc 0, fc 0, fc 0, fr 96, fr 97, fr 98, fc 0, fc 0, fr 99, fr 100, fc 0, fr 101, fr 102, fr 103, fr 104, fr 105, fr 106, fr 107, fr 108, fr 109, fr 110, fr 111, fc 0, fc 0, fr 112, fr 113])), .inl (), .inl (), .inl (), .inl (), .inl (), .inl (), .inl (), .inl (), .inl (), .inl (), .inl (), .inl ()],
  [.inl (), .inl (), .inl (), .inl (), .inl (), .inl (), .inl (), .inl (), .inl (), .inl (), .inl (), .inl (), .inl (), .inl (), .inl (), .inl ()],
  [.inr (.inr (0, 17, [(13, fc 4294967295), (12, fc 4294967295), (11, fc 4294967295), (10, fc 4294967295), (9, fc 4294967295), (8, fc 4294967295), (7, fc 4294967295)])), .inl (), .inl (), .inl (), .inl (), .inr (.inr (0, 17, [(13, fc 4294967295), (12, fc 4294967295), (11, fc 4294967295), (10, fc 4294967295), (9, fc 4294967295), (8, fc 4294967295), (7, fc 4294967295)])), .inl (), .inl (), .inl (), .inl (), .inl (), .inl (), .inl (), .inl (), .inl (), .inl ()],
  [.inl (), .inl ()]]), none, (114, [[.inl (), .inl (), .inl (), .inl (), .inl (), .inl (), .inl (), .inl (), .inl (), .inl (), .inl (), .inl (), .inl (), .inl (), .inl (), .inl ()],
  [.inl (), .inl (), .inl (), .inl (), .inl (), .inl (), .inl (), .inl (), .inl (), .inl (), .inl (), .inl (), .inl (), .inl (), .inl (), .inl ()],
  [.inl (), .inl (), .inl (), .inl (), .inl (), .inl (), .inl (), .inl (), .inl (), .inl (), .inl (), .inl (), .inl (), .inl (), .inl (), .inl ()],
  [.inl (), .inl (), .inl (), .inl (), .inl (), .inl (), .inl (), .inl (), .inl (), .inl (), .inl (), .inl (), .inl (), .inl (), .inl (), .inl ()],
  [.inl (), .inl (), .inl (), .inr (.inl (10, [fr 68, fr 69, fc 0, fc 0, fc 0, fc 4294967295, fc 0, fc 0, fc 0, fc 0, fl 0, fr 70, fr 71, fr 72, fr 73, fr 74, fr 75, fr 76, fr 77, fr 78, fr 79, fr 80, fr 81, fr 82, fr 83, fr 84, fr 85, fr 86, fr 87, fr 88, fr 89, fr 90, fr 91, fr 92, fr 93, fr 94, fr 95, fc 0, fc 0, fc 0, fc 0, fc 0, fc 0, fc 0, fc 0, fc 0, fc 0, fc 0, fc 0, fc 0, fr 96, fr 97, fr 98, fc 0, fc 0, fr 99, fr 100, fc 0, fr 101, fr 102, fr 103, fr 104, fr 105, fr 106, fr 107, fr 108, fr 109, fr 110, fr 111, fc 0, fc 0, fr 112, fr 113])), .inl (), .inl (), .inl (), .inl (), .inl (), .inl (), .inl (), .inl (), .inl (), .inl (), .inl (), .inl ()],
  [.inl (), .inl (), .inl (), .inl (), .inl (), .inl (), .inl (), .inl (), .inl (), .inl (), .inl (), .inl (), .inl (), .inl (), .inl (), .inl ()],
  [.inr (.inr (0, 17, [(13, fc 4294967295), (12, fc 4294967295), (11, fc 4294967295), (10, fc 4294967295), (9, fc 4294967295), (8, fc 4294967295), (7, fc 4294967295)])), .inl (), .inl (), .inl (), .inl (), .inr (.inr (0, 17, [(13, fc 4294967295), (12, fc 4294967295), (11, fc 4294967295), (10, fc 4294967295), (9, fc 4294967295), (8, fc 4294967295), (7, fc 4294967295)])), .inl (), .inl (), .inl (), .inl (), .inl (), .inl (), .inl (), .inl (), .inl (), .inl ()],
  [.inl (), .inl ()]]))
set_option maxRecDepth 100000 in
theorem fx_qb9 : fx_go (fx_ev fx_s0z (fun _ _ _ => false)) 10000 10 fm_129.1 fm_129.1 (fx_args fx_q9.2.1 0) [] 0 0 fm_129.2.2.1 fm_129.2.2.2.1 fx_q9.2.2.1 [] (fun v h _ => fx_ovq v fx_q9.2.2.2.1 && fx_hq h fx_q9.2.2.2.2) = true := by decide +kernel
theorem fx_qr9 : fx_smr fx_q9 := ⟨fm_129, 10000, rfl, Nat.le_of_ble_eq_true rfl, fx_qb9⟩
def fx_q10 : fx_sm := (153, [fr 67, fc 2, fv 0], (114, [[.inl (), .inl (), .inl (), .inl (), .inl (), .inl (), .inl (), .inl (), .inl (), .inl (), .inl (), .inl (), .inl (), .inl (), .inl (), .inl ()],
  [.inl (), .inl (), .inl (), .inl (), .inl (), .inl (), .inl (), .inl (), .inl (), .inl (), .inl (), .inl (), .inl (), .inl (), .inl (), .inl ()],
  [.inl (), .inl (), .inl (), .inl (), .inl (), .inl (), .inl (), .inl (), .inl (), .inl (), .inl (), .inl (), .inl (), .inl (), .inl (), .inl ()],
  [.inl (), .inl (), .inl (), .inl (), .inl (), .inl (), .inl (), .inl (), .inl (), .inl (), .inl (), .inl (), .inl (), .inl (), .inl (), .inl ()],
  [.inl (), .inl (), .inl (), .inr (.inl (10, [fr 68, fr 69, fc 0, fc 0, fc 0, fc 4294967295, fc 0, fc 0, fc 0, fc 0, fl 0, fr 70, fr 71, fr 72, fr 73, fr 74, fr 75, fr 76, fr 77, fr 78, fr 79, fr 80, fr 81, fr 82, fr 83, fr 84, fr 85, fr 86, fr 87, fr 88, fr 89, fr 90, fr 91, fr 92, fr 93, fr 94, fr 95, fc 0, fc 0, fc 0, fc 0, fc 0, fc 0, fc 0, fc 0, fc 0, fc 0, fc 0, fc 0, fc 0, fr 96, fr 97, fr 98, fc 0, fc 0, fr 99, fr 100, fc 0, fr 101, fr 102, fr 103, fr 104, fr 105, fr 106, fr 107, fr 108, fr 109, fr 110, fr 111, fc 0, fc 0, fr 112, fr 113])), .inl (), .inl (), .inl (), .inl (), .inl (), .inl (), .inr (.inr (0, 2, [])), .inl (), .inl (), .inl (), .inl (), .inl ()],
  [.inl (), .inl (), .inl (), .inl (), .inl (), .inl (), .inl (), .inl (), .inl (), .inl (), .inl (), .inl (), .inl (), .inl (), .inl (), .inl ()],
  [.inr (.inr (0, 17, [(13, fc 4294967295), (12, fc 4294967295), (11, fc 4294967295), (10, fc 4294967295), (9, fc 4294967295), (8, fc 4294967295), (7, fc 4294967295)])), .inl (), .inl (), .inl (), .inl (), .inr (.inr (0, 17, [(13, fc 4294967295), (12, fc 4294967295), (11, fc 4294967295), (10, fc 4294967295), (9, fc 4294967295), (8, fc 4294967295), (7, fc 4294967295)])), .inl (), .inl (), .inl (), .inl (), .inl (), .inl (), .inl (), .inl (), .inl (), .inl ()],
  [.inl (), .inl ()]]), some (fc 0), (114, [[.inl (), .inl (), .inl (), .inl (), .inl (), .inl (), .inl (), .inl (), .inl (), .inl (), .inl (), .inl (), .inl (), .inl (), .inl (), .inl ()],
  [.inl (), .inl (), .inl (), .inl (), .inl (), .inl (), .inl (), .inl (), .inl (), .inl (), .inl (), .inl (), .inl (), .inl (), .inl (), .inl ()],
  [.inl (), .inl (), .inl (), .inl (), .inl (), .inl (), .inl (), .inl (), .inl (), .inl (), .inl (), .inl (), .inl (), .inl (), .inl (), .inl ()],
  [.inl (), .inl (), .inl (), .inl (), .inl (), .inl (), .inl (), .inl (), .inl (), .inl (), .inl (), .inl (), .inl (), .inl (), .inl (), .inl ()],
  [.inl (), .inl (), .inl (), .inr (.inl (10, [fr 68, fr 69, fc 0, fc 0, fc 0, fc 4294967295, fc 0, fc 0, fc 0, fc 0, fl 0, fr 70, fr 71, fr 72, fr 73, fr 74, fr 75, fr 76, fr 77, fr 78, fr 79, fr 80, fr 81, fr 82, fr 83, fr 84, fr 85, fr 86, fr 87, fr 88, fr 89, fr 90, fr 91, fr 92, fr 93, fr 94, fr 95, fc 0, fc 0, fc 0, fc 0, fc 0, fc 0, fc 0, fc 0, fc 0, fc 0, fc 0, fc 0, fc 0, fr 96, fr 97, fr 98, fc 0, fc 0, fr 99, fr 100, fc 0, fr 101, fr 102, fr 103, fr 104, fr 105, fr 106, fr 107, fr 108, fr 109, fr 110, fr 111, fc 0, fc 0, fr 112, fr 113])), .inl (), .inl (), .inl (), .inl (), .inl (), .inl (), .inr (.inr (0, 2, [])), .inl (), .inl (), .inl (), .inl (), .inl ()],
  [.inl (), .inl (), .inl (), .inl (), .inl (), .inl (), .inl (), .inl (), .inl (), .inl (), .inl (), .inl (), .inl (), .inl (), .inl (), .inl ()],
  [.inr (.inr (0, 17, [(13, fc 4294967295), (12, fc 4294967295), (11, fc 4294967295), (10, fc 4294967295), (9, fc 4294967295), (8, fc 4294967295), (7, fc 4294967295)])), .inl (), .inl (), .inl (), .inl (), .inr (.inr (0, 17, [(13, fc 4294967295), (12, fc 4294967295), (11, fc 4294967295), (10, fc 4294967295), (9, fc 4294967295), (8, fc 4294967295), (7, fc 4294967295)])), .inl (), .inl (), .inl (), .inl (), .inl (), .inl (), .inl (), .inl (), .inl (), .inl ()],
  [.inl (), .inl ()]]))
set_option maxRecDepth 100000 in
theorem fx_qb10 : fx_go (fx_ev fx_s0z (fun _ _ _ => false)) 10000 10 fm_153.1 fm_153.1 (fx_args fx_q10.2.1 0) [] 0 0 fm_153.2.2.1 fm_153.2.2.2.1 fx_q10.2.2.1 [] (fun v h _ => fx_ovq v fx_q10.2.2.2.1 && fx_hq h fx_q10.2.2.2.2) = true := by decide +kernel
theorem fx_qr10 : fx_smr fx_q10 := ⟨fm_153, 10000, rfl, Nat.le_of_ble_eq_true rfl, fx_qb10⟩
def fx_q11 : fx_sm := (153, [fr 67, fc 3, fv 0], (114, [[.inl (), .inl (), .inl (), .inl (), .inl (), .inl (), .inl (), .inl (), .inl (), .inl (), .inl (), .inl (), .inl (), .inl (), .inl (), .inl ()],
  [.inl (), .inl (), .inl (), .inl (), .inl (), .inl (), .inl (), .inl (), .inl (), .inl (), .inl (), .inl (), .inl (), .inl (), .inl (), .inl ()],
  [.inl (), .inl (), .inl (), .inl (), .inl (), .inl (), .inl (), .inl (), .inl (), .inl (), .inl (), .inl (), .inl (), .inl (), .inl (), .inl ()],
  [.inl (), .inl (), .inl (), .inl (), .inl (), .inl (), .inl (), .inl (), .inl (), .inl (), .inl (), .inl (), .inl (), .inl (), .inl (), .inl ()],
  [.inl (), .inl (), .inl (), .inr (.inl (10, [fr 68, fr 69, fc 0, fc 0, fc 0, fc 4294967295, fc 0, fc 0, fc 0, fc 0, fl 0, fr 70, fr 71, fr 72, fr 73, fr 74, fr 75, fr 76, fr 77, fr 78, fr 79, fr 80, fr 81, fr 82, fr 83, fr 84, fr 85, fr 86, fr 87, fr 88, fr 89, fr 90, fr 91, fr 92, fr 93, fr 94, fr 95, fc 0, fc 0, fc 0, fc 0, fc 0, fc 0, fc 0, fc 0, fc 0, fc 0, fc 0, fc 0, fc 0, fr 96, fr 97, fr 98, fc 0, fc 0, fr 99, fr 100, fc 0, fr 101, fr 102, fr 103, fr 104, fr 105, fr 106, fr 107, fr 108, fr 109, fr 110, fr 111, fc 0, fc 0, fr 112, fr 113])), .inl (), .inl (), .inl (), .inl (), .inl (), .inl (), .inr (.inr (0, 2, [])), .inl (), .inl (), .inl (), .inl (), .inl ()],
  [.inl (), .inl (), .inl (), .inl (), .inl (), .inl (), .inl (), .inl (), .inl (), .inl (), .inl (), .inl (), .inl (), .inl (), .inl (), .inl ()],
  [.inr (.inr (0, 17, [(13, fc 4294967295), (12, fc 4294967295), (11, fc 4294967295), (10, fc 4294967295), (9, fc 4294967295), (8, fc 4294967295), (7, fc 4294967295)])), .inl (), .inl (), .inl (), .inl (), .inr (.inr (0, 17, [(13, fc 4294967295), (12, fc 4294967295), (11, fc 4294967295), (10, fc 4294967295), (9, fc 4294967295), (8, fc 4294967295), (7, fc 4294967295)])), .inl (), .inl (), .inl (), .inl (), .inl (), .inl (), .inl (), .inl (), .inl (), .inl ()],
  [.inl (), .inl ()]]), some (fc 0), (114, [[.inl (), .inl (), .inl (), .inl (), .inl (), .inl (), .inl (), .inl (), .inl (), .inl (), .inl (), .inl (), .inl (), .inl (), .inl (), .inl ()],
  [.inl (), .inl (), .inl (), .inl (), .inl (), .inl (), .inl (), .inl (), .inl (), .inl (), .inl (), .inl (), .inl (), .inl (), .inl (), .inl ()],
  [.inl (), .inl (), .inl (), .inl (), .inl (), .inl (), .inl (), .inl (), .inl (), .inl (), .inl (), .inl (), .inl (), .inl (), .inl (), .inl ()],
  [.inl (), .inl (), .inl (), .inl (), .inl (), .inl (), .inl (), .inl (), .inl (), .inl (), .inl (), .inl (), .inl (), .inl (), .inl (), .inl ()],
  [.inl (), .inl (), .inl (), .inr (.inl (10, [fr 68, fr 69, fc 0, fc 0, fc 0, fc 4294967295, fc 0, fc 0, fc 0, fc 0, fl 0, fr 70, fr 71, fr 72, fr 73, fr 74, fr 75, fr 76, fr 77, fr 78, fr 79, fr 80, fr 81, fr 82, fr 83, fr 84, fr 85, fr 86, fr 87, fr 88, fr 89, fr 90, fr 91, fr 92, fr 93, fr 94, fr 95, fc 0, fc 0, fc 0, fc 0, fc 0, fc 0, fc 0, fc 0, fc 0, fc 0, fc 0, fc 0, fc 0, fr 96, fr 97, fr 98, fc 0, fc 0, fr 99, fr 100, fc 0, fr 101, fr 102, fr 103, fr 104, fr 105, fr 106, fr 107, fr 108, fr 109, fr 110, fr 111, fc 0, fc 0, fr 112, fr 113])), .inl (), .inl (), .inl (), .inl (), .inl (), .inl (), .inr (.inr (0, 2, [])), .inl (), .inl (), .inl (), .inl (), .inl ()],
  [.inl (), .inl (), .inl (), .inl (), .inl (), .inl (), .inl (), .inl (), .inl (), .inl (), .inl (), .inl (), .inl (), .inl (), .inl (), .inl ()],
  [.inr (.inr (0, 17, [(13, fc 4294967295), (12, fc 4294967295), (11, fc 4294967295), (10, fc 4294967295), (9, fc 4294967295), (8, fc 4294967295), (7, fc 4294967295)])), .inl (), .inl (), .inl (), .inl (), .inr (.inr (0, 17, [(13, fc 4294967295), (12, fc 4294967295), (11, fc 4294967295), (10, fc 4294967295), (9, fc 4294967295), (8, fc 4294967295), (7, fc 4294967295)])), .inl (), .inl (), .inl (), .inl (), .inl (), .inl (), .inl (), .inl (), .inl (), .inl ()],
  [.inl (), .inl ()]]))
set_option maxRecDepth 100000 in
theorem fx_qb11 : fx_go (fx_ev fx_s0z (fun _ _ _ => false)) 10000 10 fm_153.1 fm_153.1 (fx_args fx_q11.2.1 0) [] 0 0 fm_153.2.2.1 fm_153.2.2.2.1 fx_q11.2.2.1 [] (fun v h _ => fx_ovq v fx_q11.2.2.2.1 && fx_hq h fx_q11.2.2.2.2) = true := by decide +kernel
theorem fx_qr11 : fx_smr fx_q11 := ⟨fm_153, 10000, rfl, Nat.le_of_ble_eq_true rfl, fx_qb11⟩
def fx_qs : List fx_sm := [fx_q0, fx_q1, fx_q2, fx_q3, fx_q4, fx_q5, fx_q6, fx_q7, fx_q8, fx_q9, fx_q10, fx_q11]
theorem fx_qs_ok : ∀ q ∈ fx_qs, fx_smr q := by
  intro q hq
  rcases List.mem_cons.mp hq with rfl | hq
  · exact fx_qr0
  rcases List.mem_cons.mp hq with rfl | hq
  · exact fx_qr1
  rcases List.mem_cons.mp hq with rfl | hq
  · exact fx_qr2
  rcases List.mem_cons.mp hq with rfl | hq
  · exact fx_qr3
  rcases List.mem_cons.mp hq with rfl | hq
  · exact fx_qr4
  rcases List.mem_cons.mp hq with rfl | hq
  · exact fx_qr5
  rcases List.mem_cons.mp hq with rfl | hq
  · exact fx_qr6
  rcases List.mem_cons.mp hq with rfl | hq
  · exact fx_qr7
  rcases List.mem_cons.mp hq with rfl | hq
  · exact fx_qr8
  rcases List.mem_cons.mp hq with rfl | hq
  · exact fx_qr9
  rcases List.mem_cons.mp hq with rfl | hq
  · exact fx_qr10
  rcases List.mem_cons.mp hq with rfl | hq
  · exact fx_qr11
  cases hq
