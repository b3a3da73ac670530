def fx_h9 : fx_H := (114, [[.inl (), .inl (), .inl (), .inl (), .inl (), .inl (), .inl (), .inl (), .inl (), .inl (), .inl (), .inl (), .inl (), .inl (), .inl (), .inl ()], [.inl (), .inl (), .inl (), .inl (), .inl (), .inl (), .inl (), .inl (), .inl (), .inl (), .inl (), .inl (), .inl (), .inl (), .inl (), .inl ()], [.inl (), .inl (), .inl (), .inl (), .inl (), .inl (), .inl (), .inl (), .inl (), .inl (), .inl (), .inl (), .inl (), .inl (), .inl (), .inl ()], [.inl (), .inl (), .inl (), .inl (), .inl (), .inl (), .inl (), .inl (), .inl (), .inl (), .inl (), .inl (), .inl (), .inl (), .inl (), .inl ()], [.inl (), .inl (), .inl (), .inl (), .inl (), .inl (), .inl (), .inl (), .inl (), .inl (), .inl (), .inl (), .inl (), .inl (), .inl (), .inl ()], [.inl (), .inl (), .inl (), .inl (), .inl (), .inl (), .inl (), .inl (), .inl (), .inl (), .inl (), .inl (), .inl (), .inl (), .inl (), .inl ()], [.inl (), .inl (), .inl (), .inl (), .inl (), .inl (), .inl (), .inl (), .inl (), .inl (), .inl (), .inl (), .inl (), .inl (), .inl (), .inl ()], [.inl (), .inl ()]])
def fx_w0 : fx_sm := (152, [fc 10, fc 0], fx_h9, some (fc 1), fx_h9)
set_option maxRecDepth 100000 in
theorem fx_wb0 : fx_go (fx_ev fx_s0z (fun _ _ _ => false)) 10000 10 fm_152.1 fm_152.1 (fx_args fx_w0.2.1 0) [] 0 0 fm_152.2.2.1 fm_152.2.2.2.1 fx_w0.2.2.1 [] (fun v h _ => fx_ovq v fx_w0.2.2.2.1 && fx_hq h fx_w0.2.2.2.2) = true := by decide +kernel
theorem fx_wr0 : fx_smr fx_w0 := ⟨fm_152, 10000, rfl, Nat.le_of_ble_eq_true rfl, fx_wb0⟩
def fx_w1 : fx_sm := (152, [fc 10, fc 1], fx_h9, some (fc 10), fx_h9)
set_option maxRecDepth 100000 in
theorem fx_wb1 : fx_go (fx_ev fx_s0z (fun _ _ _ => false)) 10000 10 fm_152.1 fm_152.1 (fx_args fx_w1.2.1 0) [] 0 0 fm_152.2.2.1 fm_152.2.2.2.1 fx_w1.2.2.1 [] (fun v h _ => fx_ovq v fx_w1.2.2.2.1 && fx_hq h fx_w1.2.2.2.2) = true := by decide +kernel
theorem fx_wr1 : fx_smr fx_w1 := ⟨fm_152, 10000, rfl, Nat.le_of_ble_eq_true rfl, fx_wb1⟩
def fx_w2 : fx_sm := (152, [fc 10, fc 2], fx_h9, some (fc 100), fx_h9)
set_option maxRecDepth 100000 in
theorem fx_wb2 : fx_go (fx_ev fx_s0z (fun _ _ _ => false)) 10000 10 fm_152.1 fm_152.1 (fx_args fx_w2.2.1 0) [] 0 0 fm_152.2.2.1 fm_152.2.2.2.1 fx_w2.2.2.1 [] (fun v h _ => fx_ovq v fx_w2.2.2.2.1 && fx_hq h fx_w2.2.2.2.2) = true := by decide +kernel
theorem fx_wr2 : fx_smr fx_w2 := ⟨fm_152, 10000, rfl, Nat.le_of_ble_eq_true rfl, fx_wb2⟩
def fx_w3 : fx_sm := (152, [fc 10, fc 3], fx_h9, some (fc 1000), fx_h9)
set_option maxRecDepth 100000 in
theorem fx_wb3 : fx_go (fx_ev fx_s0z (fun _ _ _ => false)) 10000 10 fm_152.1 fm_152.1 (fx_args fx_w3.2.1 0) [] 0 0 fm_152.2.2.1 fm_152.2.2.2.1 fx_w3.2.2.1 [] (fun v h _ => fx_ovq v fx_w3.2.2.2.1 && fx_hq h fx_w3.2.2.2.2) = true := by decide +kernel
theorem fx_wr3 : fx_smr fx_w3 := ⟨fm_152, 10000, rfl, Nat.le_of_ble_eq_true rfl, fx_wb3⟩
def fx_qt : List fx_sm := fx_w0 :: fx_w1 :: fx_w2 :: fx_w3 :: fx_qs
theorem fx_qt_ok : ∀ q ∈ fx_qt, fx_smr q := by
  intro q hq
  rcases List.mem_cons.mp hq with rfl | hq
  · exact fx_wr0
  rcases List.mem_cons.mp hq with rfl | hq
  · exact fx_wr1
  rcases List.mem_cons.mp hq with rfl | hq
  · exact fx_wr2
  rcases List.mem_cons.mp hq with rfl | hq
  · exact fx_wr3
  exact fx_qs_ok q hq
def fx_j30 (a b : Nat) : fx_J := [(0, 4294967295), (0, 4294967295), (0, 4294967295), (a, b), (0, 4294967295), (0, 4294967295), (0, 4294967295), (2147483678, 2147483678), (2147483654, 2147483654)]
set_option maxRecDepth 100000 in
theorem fx_run_30a : fx_run (fx_tab fx_qt) 80000 fw_30 (fx_j30 0 2147483648) := by decide +kernel
