section LC
variable {l : Launch} {X : fx_X} {Y : fx_Y} {B : fx_B} {i : Nat}
set_option maxRecDepth 100000 in
theorem lc_move (he : ai_env X B) (hL : B.2.1 ≤ 3072) (hi : i + 6 ≤ B.2.1) (kk : ∀ h, la_J h → rv l X Y B 64 fw_law 1409 (lw_l i) [] h lw_K) {h : fx_H} (hJ : la_J h) : rv l X Y B 64 fw_law 794 (lw_l i) [] h lw_K := by
  have hu := hu_law
  refine v_ld he hu rfl rfl rfl rfl rfl ?_
  refine v_ld he hu rfl rfl rfl rfl rfl ?_
  refine v_ld he hu rfl rfl rfl rfl rfl ?_
  refine v_c he hu rfl rfl rfl rfl ?_
  refine v_bin hu rfl rfl (fun q => by omega) ?_
  rw [rop_add (by omega)]
  refine v_sld he hu rfl rfl (by omega) ?_
  refine v_callX he hu hJ.1.1 rfl rfl rfl rfl (px_move he hJ (rx_n_lt _)) (fun v h1 q => ?_)
  obtain ⟨⟨x1, rfl⟩, hJ1⟩ := q
  refine v_pop he hu rfl rfl rfl ?_
  refine v_ld he hu rfl rfl rfl rfl rfl ?_
  refine v_ld he hu rfl rfl rfl rfl rfl ?_
  refine v_ld he hu rfl rfl rfl rfl rfl ?_
  refine v_c he hu rfl rfl rfl rfl ?_
  refine v_bin hu rfl rfl (fun q => by omega) ?_
  rw [rop_add (by omega)]
  refine v_sld he hu rfl rfl (by omega) ?_
  refine v_callM he hu hJ1.1.1 rfl rfl rfl rfl (pm_move he hJ1 (rx_n_lt _)) (fun v h2 q => ?_)
  obtain ⟨⟨x2, rfl⟩, hJ2⟩ := q
  refine v_pop he hu rfl rfl rfl ?_
  refine v_go he hu rfl ne_law ?_
  exact kk _ hJ2
set_option maxRecDepth 100000 in
theorem lc_settled (he : ai_env X B) (hL : B.2.1 ≤ 3072) (hi : i + 6 ≤ B.2.1) (kk : ∀ h, la_J h → rv l X Y B 64 fw_law 1409 (lw_l i) [] h lw_K) {h : fx_H} (hJ : la_J h) : rv l X Y B 64 fw_law 817 (lw_l i) [] h lw_K := by
  have hu := hu_law
  refine v_ld he hu rfl rfl rfl rfl rfl ?_
  refine v_callX he hu hJ.1.1 rfl rfl rfl rfl (px_settled he hJ) (fun v h1 q => ?_)
  obtain ⟨⟨x1, rfl⟩, hJ1⟩ := q
  refine v_pop he hu rfl rfl rfl ?_
  refine v_ld he hu rfl rfl rfl rfl rfl ?_
  refine v_callM he hu hJ1.1.1 rfl rfl rfl rfl (pm_settled he hJ1) (fun v h2 q => ?_)
  obtain ⟨⟨x2, rfl⟩, hJ2⟩ := q
  refine v_pop he hu rfl rfl rfl ?_
  refine v_go he hu rfl ne_law ?_
  exact kk _ hJ2
set_option maxRecDepth 100000 in
theorem lc_will (he : ai_env X B) (hL : B.2.1 ≤ 3072) (hi : i + 6 ≤ B.2.1) (kk : ∀ h, la_J h → rv l X Y B 64 fw_law 1409 (lw_l i) [] h lw_K) {h : fx_H} (hJ : la_J h) : rv l X Y B 64 fw_law 830 (lw_l i) [] h lw_K := by
  have hu := hu_law
  refine v_ld he hu rfl rfl rfl rfl rfl ?_
  refine v_ld he hu rfl rfl rfl rfl rfl ?_
  refine v_ld he hu rfl rfl rfl rfl rfl ?_
  refine v_c he hu rfl rfl rfl rfl ?_
  refine v_bin hu rfl rfl (fun q => by omega) ?_
  rw [rop_add (by omega)]
  refine v_sld he hu rfl rfl (by omega) ?_
  refine v_ld he hu rfl rfl rfl rfl rfl ?_
  refine v_ld he hu rfl rfl rfl rfl rfl ?_
  refine v_c he hu rfl rfl rfl rfl ?_
  refine v_bin hu rfl rfl (fun q => by omega) ?_
  rw [rop_add (by omega)]
  refine v_sld he hu rfl rfl (by omega) ?_
  refine v_callX he hu hJ.1.1 rfl rfl rfl rfl (px_will he hJ (rx_n_lt _) (rx_n_lt _)) (fun v h1 q => ?_)
  obtain ⟨⟨x1, rfl⟩, hJ1⟩ := q
  refine v_pop he hu rfl rfl rfl ?_
  refine v_ld he hu rfl rfl rfl rfl rfl ?_
  refine v_ld he hu rfl rfl rfl rfl rfl ?_
  refine v_ld he hu rfl rfl rfl rfl rfl ?_
  refine v_c he hu rfl rfl rfl rfl ?_
  refine v_bin hu rfl rfl (fun q => by omega) ?_
  rw [rop_add (by omega)]
  refine v_sld he hu rfl rfl (by omega) ?_
  refine v_ld he hu rfl rfl rfl rfl rfl ?_
  refine v_ld he hu rfl rfl rfl rfl rfl ?_
  refine v_c he hu rfl rfl rfl rfl ?_
  refine v_bin hu rfl rfl (fun q => by omega) ?_
  rw [rop_add (by omega)]
  refine v_sld he hu rfl rfl (by omega) ?_
  refine v_callM he hu hJ1.1.1 rfl rfl rfl rfl (pm_will he hJ1 (rx_n_lt _) (rx_n_lt _)) (fun v h2 q => ?_)
  obtain ⟨⟨x2, rfl⟩, hJ2⟩ := q
  refine v_pop he hu rfl rfl rfl ?_
  refine v_go he hu rfl ne_law ?_
  exact kk _ hJ2
set_option maxRecDepth 100000 in
theorem lc_ahead (he : ai_env X B) (hL : B.2.1 ≤ 3072) (hi : i + 6 ≤ B.2.1) (kk : ∀ h, la_J h → rv l X Y B 64 fw_law 1409 (lw_l i) [] h lw_K) {h : fx_H} (hJ : la_J h) : rv l X Y B 64 fw_law 863 (lw_l i) [] h lw_K := by
  have hu := hu_law
  refine v_ld he hu rfl rfl rfl rfl rfl ?_
  refine v_ld he hu rfl rfl rfl rfl rfl ?_
  refine v_ld he hu rfl rfl rfl rfl rfl ?_
  refine v_c he hu rfl rfl rfl rfl ?_
  refine v_bin hu rfl rfl (fun q => by omega) ?_
  rw [rop_add (by omega)]
  refine v_sld he hu rfl rfl (by omega) ?_
  refine v_callX he hu hJ.1.1 rfl rfl rfl rfl (px_ahead he hJ (rx_n_lt _)) (fun v h1 q => ?_)
  obtain ⟨⟨x1, rfl⟩, hJ1⟩ := q
  refine v_pop he hu rfl rfl rfl ?_
  refine v_ld he hu rfl rfl rfl rfl rfl ?_
  refine v_ld he hu rfl rfl rfl rfl rfl ?_
  refine v_ld he hu rfl rfl rfl rfl rfl ?_
  refine v_c he hu rfl rfl rfl rfl ?_
  refine v_bin hu rfl rfl (fun q => by omega) ?_
  rw [rop_add (by omega)]
  refine v_sld he hu rfl rfl (by omega) ?_
  refine v_callM he hu hJ1.1.1 rfl rfl rfl rfl (pm_ahead he hJ1 (rx_n_lt _)) (fun v h2 q => ?_)
  obtain ⟨⟨x2, rfl⟩, hJ2⟩ := q
  refine v_pop he hu rfl rfl rfl ?_
  refine v_go he hu rfl ne_law ?_
  exact kk _ hJ2
set_option maxRecDepth 100000 in
theorem lc_alike (he : ai_env X B) (hL : B.2.1 ≤ 3072) (hi : i + 6 ≤ B.2.1) (kk : ∀ h, la_J h → rv l X Y B 64 fw_law 1409 (lw_l i) [] h lw_K) {h : fx_H} (hJ : la_J h) : rv l X Y B 64 fw_law 886 (lw_l i) [] h lw_K := by
  have hu := hu_law
  refine v_ld he hu rfl rfl rfl rfl rfl ?_
  refine v_callX he hu hJ.1.1 rfl rfl rfl rfl (px_alike he hJ) (fun v h1 q => ?_)
  obtain ⟨⟨x1, rfl⟩, hJ1⟩ := q
  refine v_pop he hu rfl rfl rfl ?_
  refine v_ld he hu rfl rfl rfl rfl rfl ?_
  refine v_callM he hu hJ1.1.1 rfl rfl rfl rfl (pm_alike he hJ1) (fun v h2 q => ?_)
  obtain ⟨⟨x2, rfl⟩, hJ2⟩ := q
  refine v_pop he hu rfl rfl rfl ?_
  refine v_go he hu rfl ne_law ?_
  exact kk _ hJ2
set_option maxRecDepth 100000 in
theorem lc_unrest (he : ai_env X B) (hL : B.2.1 ≤ 3072) (hi : i + 6 ≤ B.2.1) (kk : ∀ h, la_J h → rv l X Y B 64 fw_law 1409 (lw_l i) [] h lw_K) {h : fx_H} (hJ : la_J h) : rv l X Y B 64 fw_law 899 (lw_l i) [] h lw_K := by
  have hu := hu_law
  refine v_ld he hu rfl rfl rfl rfl rfl ?_
  refine v_ld he hu rfl rfl rfl rfl rfl ?_
  refine v_ld he hu rfl rfl rfl rfl rfl ?_
  refine v_c he hu rfl rfl rfl rfl ?_
  refine v_bin hu rfl rfl (fun q => by omega) ?_
  rw [rop_add (by omega)]
  refine v_sld he hu rfl rfl (by omega) ?_
  refine v_callX he hu hJ.1.1 rfl rfl rfl rfl (px_unrest he hJ (rx_n_lt _)) (fun v h1 q => ?_)
  obtain ⟨⟨x1, rfl⟩, hJ1⟩ := q
  refine v_pop he hu rfl rfl rfl ?_
  refine v_ld he hu rfl rfl rfl rfl rfl ?_
  refine v_ld he hu rfl rfl rfl rfl rfl ?_
  refine v_ld he hu rfl rfl rfl rfl rfl ?_
  refine v_c he hu rfl rfl rfl rfl ?_
  refine v_bin hu rfl rfl (fun q => by omega) ?_
  rw [rop_add (by omega)]
  refine v_sld he hu rfl rfl (by omega) ?_
  refine v_callM he hu hJ1.1.1 rfl rfl rfl rfl (pm_unrest he hJ1 (rx_n_lt _)) (fun v h2 q => ?_)
  obtain ⟨⟨x2, rfl⟩, hJ2⟩ := q
  refine v_pop he hu rfl rfl rfl ?_
  refine v_go he hu rfl ne_law ?_
  exact kk _ hJ2
set_option maxRecDepth 100000 in
theorem lc_sways (he : ai_env X B) (hL : B.2.1 ≤ 3072) (hi : i + 6 ≤ B.2.1) (kk : ∀ h, la_J h → rv l X Y B 64 fw_law 1409 (lw_l i) [] h lw_K) {h : fx_H} (hJ : la_J h) : rv l X Y B 64 fw_law 922 (lw_l i) [] h lw_K := by
  have hu := hu_law
  refine v_ld he hu rfl rfl rfl rfl rfl ?_
  refine v_ld he hu rfl rfl rfl rfl rfl ?_
  refine v_ld he hu rfl rfl rfl rfl rfl ?_
  refine v_c he hu rfl rfl rfl rfl ?_
  refine v_bin hu rfl rfl (fun q => by omega) ?_
  rw [rop_add (by omega)]
  refine v_sld he hu rfl rfl (by omega) ?_
  refine v_ld he hu rfl rfl rfl rfl rfl ?_
  refine v_ld he hu rfl rfl rfl rfl rfl ?_
  refine v_c he hu rfl rfl rfl rfl ?_
  refine v_bin hu rfl rfl (fun q => by omega) ?_
  rw [rop_add (by omega)]
  refine v_sld he hu rfl rfl (by omega) ?_
  refine v_ld he hu rfl rfl rfl rfl rfl ?_
  refine v_ld he hu rfl rfl rfl rfl rfl ?_
  refine v_c he hu rfl rfl rfl rfl ?_
  refine v_bin hu rfl rfl (fun q => by omega) ?_
  rw [rop_add (by omega)]
  refine v_sld he hu rfl rfl (by omega) ?_
  refine v_callX he hu hJ.1.1 rfl rfl rfl rfl (px_sways he hJ (rx_n_lt _) (rx_n_lt _) (rx_n_lt _)) (fun v h1 q => ?_)
  obtain ⟨⟨x1, rfl⟩, hJ1⟩ := q
  refine v_pop he hu rfl rfl rfl ?_
  refine v_ld he hu rfl rfl rfl rfl rfl ?_
  refine v_ld he hu rfl rfl rfl rfl rfl ?_
  refine v_ld he hu rfl rfl rfl rfl rfl ?_
  refine v_c he hu rfl rfl rfl rfl ?_
  refine v_bin hu rfl rfl (fun q => by omega) ?_
  rw [rop_add (by omega)]
  refine v_sld he hu rfl rfl (by omega) ?_
  refine v_ld he hu rfl rfl rfl rfl rfl ?_
  refine v_ld he hu rfl rfl rfl rfl rfl ?_
  refine v_c he hu rfl rfl rfl rfl ?_
  refine v_bin hu rfl rfl (fun q => by omega) ?_
  rw [rop_add (by omega)]
  refine v_sld he hu rfl rfl (by omega) ?_
  refine v_ld he hu rfl rfl rfl rfl rfl ?_
  refine v_ld he hu rfl rfl rfl rfl rfl ?_
  refine v_c he hu rfl rfl rfl rfl ?_
  refine v_bin hu rfl rfl (fun q => by omega) ?_
  rw [rop_add (by omega)]
  refine v_sld he hu rfl rfl (by omega) ?_
  refine v_callM he hu hJ1.1.1 rfl rfl rfl rfl (pm_sways he hJ1 (rx_n_lt _) (rx_n_lt _) (rx_n_lt _)) (fun v h2 q => ?_)
  obtain ⟨⟨x2, rfl⟩, hJ2⟩ := q
  refine v_pop he hu rfl rfl rfl ?_
  refine v_go he hu rfl ne_law ?_
  exact kk _ hJ2
set_option maxRecDepth 100000 in
theorem lc_brightest (he : ai_env X B) (hL : B.2.1 ≤ 3072) (hi : i + 6 ≤ B.2.1) (kk : ∀ h, la_J h → rv l X Y B 64 fw_law 1409 (lw_l i) [] h lw_K) {h : fx_H} (hJ : la_J h) : rv l X Y B 64 fw_law 965 (lw_l i) [] h lw_K := by
  have hu := hu_law
  refine v_ld he hu rfl rfl rfl rfl rfl ?_
  refine v_callX he hu hJ.1.1 rfl rfl rfl rfl (px_brightest he hJ) (fun v h1 q => ?_)
  obtain ⟨⟨x1, rfl⟩, hJ1⟩ := q
  refine v_pop he hu rfl rfl rfl ?_
  refine v_ld he hu rfl rfl rfl rfl rfl ?_
  refine v_callM he hu hJ1.1.1 rfl rfl rfl rfl (pm_brightest he hJ1) (fun v h2 q => ?_)
  obtain ⟨⟨x2, rfl⟩, hJ2⟩ := q
  refine v_pop he hu rfl rfl rfl ?_
  refine v_go he hu rfl ne_law ?_
  exact kk _ hJ2
set_option maxRecDepth 100000 in
theorem lc_parties (he : ai_env X B) (hL : B.2.1 ≤ 3072) (hi : i + 6 ≤ B.2.1) (kk : ∀ h, la_J h → rv l X Y B 64 fw_law 1409 (lw_l i) [] h lw_K) {h : fx_H} (hJ : la_J h) : rv l X Y B 64 fw_law 978 (lw_l i) [] h lw_K := by
  have hu := hu_law
  refine v_ld he hu rfl rfl rfl rfl rfl ?_
  refine v_ld he hu rfl rfl rfl rfl rfl ?_
  refine v_ld he hu rfl rfl rfl rfl rfl ?_
  refine v_c he hu rfl rfl rfl rfl ?_
  refine v_bin hu rfl rfl (fun q => by omega) ?_
  rw [rop_add (by omega)]
  refine v_sld he hu rfl rfl (by omega) ?_
  refine v_ld he hu rfl rfl rfl rfl rfl ?_
  refine v_ld he hu rfl rfl rfl rfl rfl ?_
  refine v_c he hu rfl rfl rfl rfl ?_
  refine v_bin hu rfl rfl (fun q => by omega) ?_
  rw [rop_add (by omega)]
  refine v_sld he hu rfl rfl (by omega) ?_
  refine v_callX he hu hJ.1.1 rfl rfl rfl rfl (px_parties he hJ (rx_n_lt _) (rx_n_lt _)) (fun v h1 q => ?_)
  obtain ⟨⟨x1, rfl⟩, hJ1⟩ := q
  refine v_pop he hu rfl rfl rfl ?_
  refine v_ld he hu rfl rfl rfl rfl rfl ?_
  refine v_ld he hu rfl rfl rfl rfl rfl ?_
  refine v_ld he hu rfl rfl rfl rfl rfl ?_
  refine v_c he hu rfl rfl rfl rfl ?_
  refine v_bin hu rfl rfl (fun q => by omega) ?_
  rw [rop_add (by omega)]
  refine v_sld he hu rfl rfl (by omega) ?_
  refine v_ld he hu rfl rfl rfl rfl rfl ?_
  refine v_ld he hu rfl rfl rfl rfl rfl ?_
  refine v_c he hu rfl rfl rfl rfl ?_
  refine v_bin hu rfl rfl (fun q => by omega) ?_
  rw [rop_add (by omega)]
  refine v_sld he hu rfl rfl (by omega) ?_
  refine v_callM he hu hJ1.1.1 rfl rfl rfl rfl (pm_parties he hJ1 (rx_n_lt _) (rx_n_lt _)) (fun v h2 q => ?_)
  obtain ⟨⟨x2, rfl⟩, hJ2⟩ := q
  refine v_pop he hu rfl rfl rfl ?_
  refine v_go he hu rfl ne_law ?_
  exact kk _ hJ2
set_option maxRecDepth 100000 in
theorem lc_least (he : ai_env X B) (hL : B.2.1 ≤ 3072) (hi : i + 6 ≤ B.2.1) (kk : ∀ h, la_J h → rv l X Y B 64 fw_law 1409 (lw_l i) [] h lw_K) {h : fx_H} (hJ : la_J h) : rv l X Y B 64 fw_law 1011 (lw_l i) [] h lw_K := by
  have hu := hu_law
  refine v_ld he hu rfl rfl rfl rfl rfl ?_
  refine v_ld he hu rfl rfl rfl rfl rfl ?_
  refine v_ld he hu rfl rfl rfl rfl rfl ?_
  refine v_c he hu rfl rfl rfl rfl ?_
  refine v_bin hu rfl rfl (fun q => by omega) ?_
  rw [rop_add (by omega)]
  refine v_sld he hu rfl rfl (by omega) ?_
  refine v_ld he hu rfl rfl rfl rfl rfl ?_
  refine v_ld he hu rfl rfl rfl rfl rfl ?_
  refine v_c he hu rfl rfl rfl rfl ?_
  refine v_bin hu rfl rfl (fun q => by omega) ?_
  rw [rop_add (by omega)]
  refine v_sld he hu rfl rfl (by omega) ?_
  refine v_callX he hu hJ.1.1 rfl rfl rfl rfl (px_least he hJ (rx_n_lt _) (rx_n_lt _)) (fun v h1 q => ?_)
  obtain ⟨⟨x1, rfl⟩, hJ1⟩ := q
  refine v_pop he hu rfl rfl rfl ?_
  refine v_ld he hu rfl rfl rfl rfl rfl ?_
  refine v_ld he hu rfl rfl rfl rfl rfl ?_
  refine v_ld he hu rfl rfl rfl rfl rfl ?_
  refine v_c he hu rfl rfl rfl rfl ?_
  refine v_bin hu rfl rfl (fun q => by omega) ?_
  rw [rop_add (by omega)]
  refine v_sld he hu rfl rfl (by omega) ?_
  refine v_ld he hu rfl rfl rfl rfl rfl ?_
  refine v_ld he hu rfl rfl rfl rfl rfl ?_
  refine v_c he hu rfl rfl rfl rfl ?_
  refine v_bin hu rfl rfl (fun q => by omega) ?_
  rw [rop_add (by omega)]
  refine v_sld he hu rfl rfl (by omega) ?_
  refine v_callM he hu hJ1.1.1 rfl rfl rfl rfl (pm_least he hJ1 (rx_n_lt _) (rx_n_lt _)) (fun v h2 q => ?_)
  obtain ⟨⟨x2, rfl⟩, hJ2⟩ := q
  refine v_pop he hu rfl rfl rfl ?_
  refine v_go he hu rfl ne_law ?_
  exact kk _ hJ2
set_option maxRecDepth 100000 in
theorem lc_best (he : ai_env X B) (hL : B.2.1 ≤ 3072) (hi : i + 6 ≤ B.2.1) (kk : ∀ h, la_J h → rv l X Y B 64 fw_law 1409 (lw_l i) [] h lw_K) {h : fx_H} (hJ : la_J h) : rv l X Y B 64 fw_law 1044 (lw_l i) [] h lw_K := by
  have hu := hu_law
  refine v_ld he hu rfl rfl rfl rfl rfl ?_
  refine v_ld he hu rfl rfl rfl rfl rfl ?_
  refine v_ld he hu rfl rfl rfl rfl rfl ?_
  refine v_c he hu rfl rfl rfl rfl ?_
  refine v_bin hu rfl rfl (fun q => by omega) ?_
  rw [rop_add (by omega)]
  refine v_sld he hu rfl rfl (by omega) ?_
  refine v_callX he hu hJ.1.1 rfl rfl rfl rfl (px_best he hJ (rx_n_lt _)) (fun v h1 q => ?_)
  obtain ⟨⟨x1, rfl⟩, hJ1⟩ := q
  refine v_pop he hu rfl rfl rfl ?_
  refine v_ld he hu rfl rfl rfl rfl rfl ?_
  refine v_ld he hu rfl rfl rfl rfl rfl ?_
  refine v_ld he hu rfl rfl rfl rfl rfl ?_
  refine v_c he hu rfl rfl rfl rfl ?_
  refine v_bin hu rfl rfl (fun q => by omega) ?_
  rw [rop_add (by omega)]
  refine v_sld he hu rfl rfl (by omega) ?_
  refine v_callM he hu hJ1.1.1 rfl rfl rfl rfl (pm_best he hJ1 (rx_n_lt _)) (fun v h2 q => ?_)
  obtain ⟨⟨x2, rfl⟩, hJ2⟩ := q
  refine v_pop he hu rfl rfl rfl ?_
  refine v_go he hu rfl ne_law ?_
  exact kk _ hJ2
end LC
