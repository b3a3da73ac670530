section LC
variable {l : Launch} {X : fx_X} {Y : fx_Y} {B : fx_B} {i : Nat}
set_option maxRecDepth 100000 in
theorem lc_sit (he : ai_env X B) (hL : B.2.1 ≤ 3072) (hi : i + 6 ≤ B.2.1) (kk : ∀ h, la_J h → rv l X Y B 64 fw_law 1409 (lw_l i) [] h lw_K) {h : fx_H} (hJ : la_J h) : rv l X Y B 64 fw_law 511 (lw_l i) [] h lw_K := by
  have hu := hu_law
  refine v_ld he hu rfl rfl rfl rfl rfl ?_
  refine v_ld he hu rfl rfl rfl rfl rfl ?_
  refine v_ld he hu rfl rfl rfl rfl rfl ?_
  refine v_c he hu rfl rfl rfl rfl ?_
  refine v_bin hu rfl rfl (fun q => by omega) ?_
  rw [rop_add (by omega)]
  refine v_sld he hu rfl rfl (by omega) ?_
  refine v_ld he hu rfl rfl rfl rfl rfl ?_
  refine v_ld he hu rfl rfl rfl rfl rfl ?_
  refine v_c he hu rfl rfl rfl rfl ?_
  refine v_bin hu rfl rfl (fun q => by omega) ?_
  rw [rop_add (by omega)]
  refine v_sld he hu rfl rfl (by omega) ?_
  refine v_callX he hu hJ.1.1 rfl rfl rfl rfl (px_sit he hJ (rx_n_lt _) (rx_n_lt _)) (fun v h1 q => ?_)
  obtain ⟨⟨x1, rfl⟩, hJ1⟩ := q
  refine v_pop he hu rfl rfl rfl ?_
  refine v_ld he hu rfl rfl rfl rfl rfl ?_
  refine v_ld he hu rfl rfl rfl rfl rfl ?_
  refine v_ld he hu rfl rfl rfl rfl rfl ?_
  refine v_c he hu rfl rfl rfl rfl ?_
  refine v_bin hu rfl rfl (fun q => by omega) ?_
  rw [rop_add (by omega)]
  refine v_sld he hu rfl rfl (by omega) ?_
  refine v_ld he hu rfl rfl rfl rfl rfl ?_
  refine v_ld he hu rfl rfl rfl rfl rfl ?_
  refine v_c he hu rfl rfl rfl rfl ?_
  refine v_bin hu rfl rfl (fun q => by omega) ?_
  rw [rop_add (by omega)]
  refine v_sld he hu rfl rfl (by omega) ?_
  refine v_callM he hu hJ1.1.1 rfl rfl rfl rfl (pm_sit he hJ1 (rx_n_lt _) (rx_n_lt _)) (fun v h2 q => ?_)
  obtain ⟨⟨x2, rfl⟩, hJ2⟩ := q
  refine v_pop he hu rfl rfl rfl ?_
  refine v_go he hu rfl ne_law ?_
  exact kk _ hJ2
set_option maxRecDepth 100000 in
theorem lc_change (he : ai_env X B) (hL : B.2.1 ≤ 3072) (hi : i + 6 ≤ B.2.1) (kk : ∀ h, la_J h → rv l X Y B 64 fw_law 1409 (lw_l i) [] h lw_K) {h : fx_H} (hJ : la_J h) : rv l X Y B 64 fw_law 544 (lw_l i) [] h lw_K := by
  have hu := hu_law
  refine v_ld he hu rfl rfl rfl rfl rfl ?_
  refine v_ld he hu rfl rfl rfl rfl rfl ?_
  refine v_ld he hu rfl rfl rfl rfl rfl ?_
  refine v_c he hu rfl rfl rfl rfl ?_
  refine v_bin hu rfl rfl (fun q => by omega) ?_
  rw [rop_add (by omega)]
  refine v_sld he hu rfl rfl (by omega) ?_
  refine v_ld he hu rfl rfl rfl rfl rfl ?_
  refine v_ld he hu rfl rfl rfl rfl rfl ?_
  refine v_c he hu rfl rfl rfl rfl ?_
  refine v_bin hu rfl rfl (fun q => by omega) ?_
  rw [rop_add (by omega)]
  refine v_sld he hu rfl rfl (by omega) ?_
  refine v_callX he hu hJ.1.1 rfl rfl rfl rfl (px_change he hJ (rx_n_lt _) (rx_n_lt _)) (fun v h1 q => ?_)
  obtain ⟨⟨x1, rfl⟩, hJ1⟩ := q
  refine v_pop he hu rfl rfl rfl ?_
  refine v_ld he hu rfl rfl rfl rfl rfl ?_
  refine v_ld he hu rfl rfl rfl rfl rfl ?_
  refine v_ld he hu rfl rfl rfl rfl rfl ?_
  refine v_c he hu rfl rfl rfl rfl ?_
  refine v_bin hu rfl rfl (fun q => by omega) ?_
  rw [rop_add (by omega)]
  refine v_sld he hu rfl rfl (by omega) ?_
  refine v_ld he hu rfl rfl rfl rfl rfl ?_
  refine v_ld he hu rfl rfl rfl rfl rfl ?_
  refine v_c he hu rfl rfl rfl rfl ?_
  refine v_bin hu rfl rfl (fun q => by omega) ?_
  rw [rop_add (by omega)]
  refine v_sld he hu rfl rfl (by omega) ?_
  refine v_callM he hu hJ1.1.1 rfl rfl rfl rfl (pm_change he hJ1 (rx_n_lt _) (rx_n_lt _)) (fun v h2 q => ?_)
  obtain ⟨⟨x2, rfl⟩, hJ2⟩ := q
  refine v_pop he hu rfl rfl rfl ?_
  refine v_go he hu rfl ne_law ?_
  exact kk _ hJ2
set_option maxRecDepth 100000 in
theorem lc_unseat (he : ai_env X B) (hL : B.2.1 ≤ 3072) (hi : i + 6 ≤ B.2.1) (kk : ∀ h, la_J h → rv l X Y B 64 fw_law 1409 (lw_l i) [] h lw_K) {h : fx_H} (hJ : la_J h) : rv l X Y B 64 fw_law 577 (lw_l i) [] h lw_K := by
  have hu := hu_law
  refine v_ld he hu rfl rfl rfl rfl rfl ?_
  refine v_ld he hu rfl rfl rfl rfl rfl ?_
  refine v_ld he hu rfl rfl rfl rfl rfl ?_
  refine v_c he hu rfl rfl rfl rfl ?_
  refine v_bin hu rfl rfl (fun q => by omega) ?_
  rw [rop_add (by omega)]
  refine v_sld he hu rfl rfl (by omega) ?_
  refine v_callX he hu hJ.1.1 rfl rfl rfl rfl (px_unseat he hJ (rx_n_lt _)) (fun v h1 q => ?_)
  obtain ⟨⟨x1, rfl⟩, hJ1⟩ := q
  refine v_pop he hu rfl rfl rfl ?_
  refine v_ld he hu rfl rfl rfl rfl rfl ?_
  refine v_ld he hu rfl rfl rfl rfl rfl ?_
  refine v_ld he hu rfl rfl rfl rfl rfl ?_
  refine v_c he hu rfl rfl rfl rfl ?_
  refine v_bin hu rfl rfl (fun q => by omega) ?_
  rw [rop_add (by omega)]
  refine v_sld he hu rfl rfl (by omega) ?_
  refine v_callM he hu hJ1.1.1 rfl rfl rfl rfl (pm_unseat he hJ1 (rx_n_lt _)) (fun v h2 q => ?_)
  obtain ⟨⟨x2, rfl⟩, hJ2⟩ := q
  refine v_pop he hu rfl rfl rfl ?_
  refine v_go he hu rfl ne_law ?_
  exact kk _ hJ2
set_option maxRecDepth 100000 in
theorem lc_undo (he : ai_env X B) (hL : B.2.1 ≤ 3072) (hi : i + 6 ≤ B.2.1) (kk : ∀ h, la_J h → rv l X Y B 64 fw_law 1409 (lw_l i) [] h lw_K) {h : fx_H} (hJ : la_J h) : rv l X Y B 64 fw_law 600 (lw_l i) [] h lw_K := by
  have hu := hu_law
  refine v_ld he hu rfl rfl rfl rfl rfl ?_
  refine v_callX he hu hJ.1.1 rfl rfl rfl rfl (px_undo he hJ) (fun v h1 q => ?_)
  obtain ⟨⟨x1, rfl⟩, hJ1⟩ := q
  refine v_pop he hu rfl rfl rfl ?_
  refine v_ld he hu rfl rfl rfl rfl rfl ?_
  refine v_callM he hu hJ1.1.1 rfl rfl rfl rfl (pm_undo he hJ1) (fun v h2 q => ?_)
  obtain ⟨⟨x2, rfl⟩, hJ2⟩ := q
  refine v_pop he hu rfl rfl rfl ?_
  refine v_go he hu rfl ne_law ?_
  exact kk _ hJ2
set_option maxRecDepth 100000 in
theorem lc_redo (he : ai_env X B) (hL : B.2.1 ≤ 3072) (hi : i + 6 ≤ B.2.1) (kk : ∀ h, la_J h → rv l X Y B 64 fw_law 1409 (lw_l i) [] h lw_K) {h : fx_H} (hJ : la_J h) : rv l X Y B 64 fw_law 613 (lw_l i) [] h lw_K := by
  have hu := hu_law
  refine v_ld he hu rfl rfl rfl rfl rfl ?_
  refine v_callX he hu hJ.1.1 rfl rfl rfl rfl (px_redo he hJ) (fun v h1 q => ?_)
  obtain ⟨⟨x1, rfl⟩, hJ1⟩ := q
  refine v_pop he hu rfl rfl rfl ?_
  refine v_ld he hu rfl rfl rfl rfl rfl ?_
  refine v_callM he hu hJ1.1.1 rfl rfl rfl rfl (pm_redo he hJ1) (fun v h2 q => ?_)
  obtain ⟨⟨x2, rfl⟩, hJ2⟩ := q
  refine v_pop he hu rfl rfl rfl ?_
  refine v_go he hu rfl ne_law ?_
  exact kk _ hJ2
set_option maxRecDepth 100000 in
theorem lc_stand (he : ai_env X B) (hL : B.2.1 ≤ 3072) (hi : i + 6 ≤ B.2.1) (kk : ∀ h, la_J h → rv l X Y B 64 fw_law 1409 (lw_l i) [] h lw_K) {h : fx_H} (hJ : la_J h) : rv l X Y B 64 fw_law 626 (lw_l i) [] h lw_K := by
  have hu := hu_law
  refine v_ld he hu rfl rfl rfl rfl rfl ?_
  refine v_ld he hu rfl rfl rfl rfl rfl ?_
  refine v_ld he hu rfl rfl rfl rfl rfl ?_
  refine v_c he hu rfl rfl rfl rfl ?_
  refine v_bin hu rfl rfl (fun q => by omega) ?_
  rw [rop_add (by omega)]
  refine v_sld he hu rfl rfl (by omega) ?_
  refine v_ld he hu rfl rfl rfl rfl rfl ?_
  refine v_ld he hu rfl rfl rfl rfl rfl ?_
  refine v_c he hu rfl rfl rfl rfl ?_
  refine v_bin hu rfl rfl (fun q => by omega) ?_
  rw [rop_add (by omega)]
  refine v_sld he hu rfl rfl (by omega) ?_
  refine v_callX he hu hJ.1.1 rfl rfl rfl rfl (px_stand he hJ (rx_n_lt _) (rx_n_lt _)) (fun v h1 q => ?_)
  obtain ⟨⟨x1, rfl⟩, hJ1⟩ := q
  refine v_pop he hu rfl rfl rfl ?_
  refine v_ld he hu rfl rfl rfl rfl rfl ?_
  refine v_ld he hu rfl rfl rfl rfl rfl ?_
  refine v_ld he hu rfl rfl rfl rfl rfl ?_
  refine v_c he hu rfl rfl rfl rfl ?_
  refine v_bin hu rfl rfl (fun q => by omega) ?_
  rw [rop_add (by omega)]
  refine v_sld he hu rfl rfl (by omega) ?_
  refine v_ld he hu rfl rfl rfl rfl rfl ?_
  refine v_ld he hu rfl rfl rfl rfl rfl ?_
  refine v_c he hu rfl rfl rfl rfl ?_
  refine v_bin hu rfl rfl (fun q => by omega) ?_
  rw [rop_add (by omega)]
  refine v_sld he hu rfl rfl (by omega) ?_
  refine v_callM he hu hJ1.1.1 rfl rfl rfl rfl (pm_stand he hJ1 (rx_n_lt _) (rx_n_lt _)) (fun v h2 q => ?_)
  obtain ⟨⟨x2, rfl⟩, hJ2⟩ := q
  refine v_pop he hu rfl rfl rfl ?_
  refine v_go he hu rfl ne_law ?_
  exact kk _ hJ2
set_option maxRecDepth 100000 in
theorem lc_sample (he : ai_env X B) (hL : B.2.1 ≤ 3072) (hi : i + 6 ≤ B.2.1) (kk : ∀ h, la_J h → rv l X Y B 64 fw_law 1409 (lw_l i) [] h lw_K) {h : fx_H} (hJ : la_J h) : rv l X Y B 64 fw_law 659 (lw_l i) [] h lw_K := by
  have hu := hu_law
  refine v_ld he hu rfl rfl rfl rfl rfl ?_
  refine v_ld he hu rfl rfl rfl rfl rfl ?_
  refine v_ld he hu rfl rfl rfl rfl rfl ?_
  refine v_c he hu rfl rfl rfl rfl ?_
  refine v_bin hu rfl rfl (fun q => by omega) ?_
  rw [rop_add (by omega)]
  refine v_sld he hu rfl rfl (by omega) ?_
  refine v_ld he hu rfl rfl rfl rfl rfl ?_
  refine v_ld he hu rfl rfl rfl rfl rfl ?_
  refine v_c he hu rfl rfl rfl rfl ?_
  refine v_bin hu rfl rfl (fun q => by omega) ?_
  rw [rop_add (by omega)]
  refine v_sld he hu rfl rfl (by omega) ?_
  refine v_callX he hu hJ.1.1 rfl rfl rfl rfl (px_sample he hJ (rx_n_lt _) (rx_n_lt _)) (fun v h1 q => ?_)
  obtain ⟨⟨x1, rfl⟩, hJ1⟩ := q
  refine v_pop he hu rfl rfl rfl ?_
  refine v_ld he hu rfl rfl rfl rfl rfl ?_
  refine v_ld he hu rfl rfl rfl rfl rfl ?_
  refine v_ld he hu rfl rfl rfl rfl rfl ?_
  refine v_c he hu rfl rfl rfl rfl ?_
  refine v_bin hu rfl rfl (fun q => by omega) ?_
  rw [rop_add (by omega)]
  refine v_sld he hu rfl rfl (by omega) ?_
  refine v_ld he hu rfl rfl rfl rfl rfl ?_
  refine v_ld he hu rfl rfl rfl rfl rfl ?_
  refine v_c he hu rfl rfl rfl rfl ?_
  refine v_bin hu rfl rfl (fun q => by omega) ?_
  rw [rop_add (by omega)]
  refine v_sld he hu rfl rfl (by omega) ?_
  refine v_callM he hu hJ1.1.1 rfl rfl rfl rfl (pm_sample he hJ1 (rx_n_lt _) (rx_n_lt _)) (fun v h2 q => ?_)
  obtain ⟨⟨x2, rfl⟩, hJ2⟩ := q
  refine v_pop he hu rfl rfl rfl ?_
  refine v_go he hu rfl ne_law ?_
  exact kk _ hJ2
set_option maxRecDepth 100000 in
theorem lc_samples (he : ai_env X B) (hL : B.2.1 ≤ 3072) (hi : i + 6 ≤ B.2.1) (kk : ∀ h, la_J h → rv l X Y B 64 fw_law 1409 (lw_l i) [] h lw_K) {h : fx_H} (hJ : la_J h) : rv l X Y B 64 fw_law 692 (lw_l i) [] h lw_K := by
  have hu := hu_law
  refine v_ld he hu rfl rfl rfl rfl rfl ?_
  refine v_ld he hu rfl rfl rfl rfl rfl ?_
  refine v_ld he hu rfl rfl rfl rfl rfl ?_
  refine v_c he hu rfl rfl rfl rfl ?_
  refine v_bin hu rfl rfl (fun q => by omega) ?_
  rw [rop_add (by omega)]
  refine v_sld he hu rfl rfl (by omega) ?_
  refine v_callX he hu hJ.1.1 rfl rfl rfl rfl (px_samples he hJ (rx_n_lt _)) (fun v h1 q => ?_)
  obtain ⟨⟨x1, rfl⟩, hJ1⟩ := q
  refine v_pop he hu rfl rfl rfl ?_
  refine v_ld he hu rfl rfl rfl rfl rfl ?_
  refine v_ld he hu rfl rfl rfl rfl rfl ?_
  refine v_ld he hu rfl rfl rfl rfl rfl ?_
  refine v_c he hu rfl rfl rfl rfl ?_
  refine v_bin hu rfl rfl (fun q => by omega) ?_
  rw [rop_add (by omega)]
  refine v_sld he hu rfl rfl (by omega) ?_
  refine v_callM he hu hJ1.1.1 rfl rfl rfl rfl (pm_samples he hJ1 (rx_n_lt _)) (fun v h2 q => ?_)
  obtain ⟨⟨x2, rfl⟩, hJ2⟩ := q
  refine v_pop he hu rfl rfl rfl ?_
  refine v_go he hu rfl ne_law ?_
  exact kk _ hJ2
set_option maxRecDepth 100000 in
theorem lc_chain (he : ai_env X B) (hL : B.2.1 ≤ 3072) (hi : i + 6 ≤ B.2.1) (kk : ∀ h, la_J h → rv l X Y B 64 fw_law 1409 (lw_l i) [] h lw_K) {h : fx_H} (hJ : la_J h) : rv l X Y B 64 fw_law 715 (lw_l i) [] h lw_K := by
  have hu := hu_law
  refine v_ld he hu rfl rfl rfl rfl rfl ?_
  refine v_ld he hu rfl rfl rfl rfl rfl ?_
  refine v_ld he hu rfl rfl rfl rfl rfl ?_
  refine v_c he hu rfl rfl rfl rfl ?_
  refine v_bin hu rfl rfl (fun q => by omega) ?_
  rw [rop_add (by omega)]
  refine v_sld he hu rfl rfl (by omega) ?_
  refine v_ld he hu rfl rfl rfl rfl rfl ?_
  refine v_ld he hu rfl rfl rfl rfl rfl ?_
  refine v_c he hu rfl rfl rfl rfl ?_
  refine v_bin hu rfl rfl (fun q => by omega) ?_
  rw [rop_add (by omega)]
  refine v_sld he hu rfl rfl (by omega) ?_
  refine v_callX he hu hJ.1.1 rfl rfl rfl rfl (px_chain he hJ (rx_n_lt _) (rx_n_lt _)) (fun v h1 q => ?_)
  obtain ⟨⟨x1, rfl⟩, hJ1⟩ := q
  refine v_pop he hu rfl rfl rfl ?_
  refine v_ld he hu rfl rfl rfl rfl rfl ?_
  refine v_ld he hu rfl rfl rfl rfl rfl ?_
  refine v_ld he hu rfl rfl rfl rfl rfl ?_
  refine v_c he hu rfl rfl rfl rfl ?_
  refine v_bin hu rfl rfl (fun q => by omega) ?_
  rw [rop_add (by omega)]
  refine v_sld he hu rfl rfl (by omega) ?_
  refine v_ld he hu rfl rfl rfl rfl rfl ?_
  refine v_ld he hu rfl rfl rfl rfl rfl ?_
  refine v_c he hu rfl rfl rfl rfl ?_
  refine v_bin hu rfl rfl (fun q => by omega) ?_
  rw [rop_add (by omega)]
  refine v_sld he hu rfl rfl (by omega) ?_
  refine v_callM he hu hJ1.1.1 rfl rfl rfl rfl (pm_chain he hJ1 (rx_n_lt _) (rx_n_lt _)) (fun v h2 q => ?_)
  obtain ⟨⟨x2, rfl⟩, hJ2⟩ := q
  refine v_pop he hu rfl rfl rfl ?_
  refine v_go he hu rfl ne_law ?_
  exact kk _ hJ2
set_option maxRecDepth 100000 in
theorem lc_groups (he : ai_env X B) (hL : B.2.1 ≤ 3072) (hi : i + 6 ≤ B.2.1) (kk : ∀ h, la_J h → rv l X Y B 64 fw_law 1409 (lw_l i) [] h lw_K) {h : fx_H} (hJ : la_J h) : rv l X Y B 64 fw_law 748 (lw_l i) [] h lw_K := by
  have hu := hu_law
  refine v_ld he hu rfl rfl rfl rfl rfl ?_
  refine v_callX he hu hJ.1.1 rfl rfl rfl rfl (px_groups he hJ) (fun v h1 q => ?_)
  obtain ⟨⟨x1, rfl⟩, hJ1⟩ := q
  refine v_pop he hu rfl rfl rfl ?_
  refine v_ld he hu rfl rfl rfl rfl rfl ?_
  refine v_callM he hu hJ1.1.1 rfl rfl rfl rfl (pm_groups he hJ1) (fun v h2 q => ?_)
  obtain ⟨⟨x2, rfl⟩, hJ2⟩ := q
  refine v_pop he hu rfl rfl rfl ?_
  refine v_go he hu rfl ne_law ?_
  exact kk _ hJ2
set_option maxRecDepth 100000 in
theorem lc_place (he : ai_env X B) (hL : B.2.1 ≤ 3072) (hi : i + 6 ≤ B.2.1) (kk : ∀ h, la_J h → rv l X Y B 64 fw_law 1409 (lw_l i) [] h lw_K) {h : fx_H} (hJ : la_J h) : rv l X Y B 64 fw_law 761 (lw_l i) [] h lw_K := by
  have hu := hu_law
  refine v_ld he hu rfl rfl rfl rfl rfl ?_
  refine v_ld he hu rfl rfl rfl rfl rfl ?_
  refine v_ld he hu rfl rfl rfl rfl rfl ?_
  refine v_c he hu rfl rfl rfl rfl ?_
  refine v_bin hu rfl rfl (fun q => by omega) ?_
  rw [rop_add (by omega)]
  refine v_sld he hu rfl rfl (by omega) ?_
  refine v_ld he hu rfl rfl rfl rfl rfl ?_
  refine v_ld he hu rfl rfl rfl rfl rfl ?_
  refine v_c he hu rfl rfl rfl rfl ?_
  refine v_bin hu rfl rfl (fun q => by omega) ?_
  rw [rop_add (by omega)]
  refine v_sld he hu rfl rfl (by omega) ?_
  refine v_callX he hu hJ.1.1 rfl rfl rfl rfl (px_place he hJ (rx_n_lt _) (rx_n_lt _)) (fun v h1 q => ?_)
  obtain ⟨⟨x1, rfl⟩, hJ1⟩ := q
  refine v_pop he hu rfl rfl rfl ?_
  refine v_ld he hu rfl rfl rfl rfl rfl ?_
  refine v_ld he hu rfl rfl rfl rfl rfl ?_
  refine v_ld he hu rfl rfl rfl rfl rfl ?_
  refine v_c he hu rfl rfl rfl rfl ?_
  refine v_bin hu rfl rfl (fun q => by omega) ?_
  rw [rop_add (by omega)]
  refine v_sld he hu rfl rfl (by omega) ?_
  refine v_ld he hu rfl rfl rfl rfl rfl ?_
  refine v_ld he hu rfl rfl rfl rfl rfl ?_
  refine v_c he hu rfl rfl rfl rfl ?_
  refine v_bin hu rfl rfl (fun q => by omega) ?_
  rw [rop_add (by omega)]
  refine v_sld he hu rfl rfl (by omega) ?_
  refine v_callM he hu hJ1.1.1 rfl rfl rfl rfl (pm_place he hJ1 (rx_n_lt _) (rx_n_lt _)) (fun v h2 q => ?_)
  obtain ⟨⟨x2, rfl⟩, hJ2⟩ := q
  refine v_pop he hu rfl rfl rfl ?_
  refine v_go he hu rfl ne_law ?_
  exact kk _ hJ2
end LC
