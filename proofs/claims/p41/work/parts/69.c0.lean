section LC
variable {l : Launch} {X : fx_X} {Y : fx_Y} {B : fx_B} {i : Nat}
set_option maxRecDepth 100000 in
theorem lc_feed (he : ai_env X B) (hL : B.2.1 ≤ 3072) (hi : i + 6 ≤ B.2.1) (kk : ∀ h, la_J h → rv l X Y B 64 fw_law 1409 (lw_l i) [] h lw_K) {h : fx_H} (hJ : la_J h) : rv l X Y B 64 fw_law 228 (lw_l i) [] h lw_K := by
  have hu := hu_law
  refine v_ld he hu rfl rfl rfl rfl rfl ?_
  refine v_ld he hu rfl rfl rfl rfl rfl ?_
  refine v_ld he hu rfl rfl rfl rfl rfl ?_
  refine v_c he hu rfl rfl rfl rfl ?_
  refine v_bin hu rfl rfl (fun q => by omega) ?_
  rw [rop_add (by omega)]
  refine v_sld he hu rfl rfl (by omega) ?_
  refine v_ld he hu rfl rfl rfl rfl rfl ?_
  refine v_ld he hu rfl rfl rfl rfl rfl ?_
  refine v_c he hu rfl rfl rfl rfl ?_
  refine v_bin hu rfl rfl (fun q => by omega) ?_
  rw [rop_add (by omega)]
  refine v_sld he hu rfl rfl (by omega) ?_
  refine v_ld he hu rfl rfl rfl rfl rfl ?_
  refine v_ld he hu rfl rfl rfl rfl rfl ?_
  refine v_c he hu rfl rfl rfl rfl ?_
  refine v_bin hu rfl rfl (fun q => by omega) ?_
  rw [rop_add (by omega)]
  refine v_sld he hu rfl rfl (by omega) ?_
  refine v_ld he hu rfl rfl rfl rfl rfl ?_
  refine v_ld he hu rfl rfl rfl rfl rfl ?_
  refine v_c he hu rfl rfl rfl rfl ?_
  refine v_bin hu rfl rfl (fun q => by omega) ?_
  rw [rop_add (by omega)]
  refine v_sld he hu rfl rfl (by omega) ?_
  refine v_ld he hu rfl rfl rfl rfl rfl ?_
  refine v_ld he hu rfl rfl rfl rfl rfl ?_
  refine v_c he hu rfl rfl rfl rfl ?_
  refine v_bin hu rfl rfl (fun q => by omega) ?_
  rw [rop_add (by omega)]
  refine v_sld he hu rfl rfl (by omega) ?_
  refine v_callX he hu hJ.1.1 rfl rfl rfl rfl (px_feed he hJ (rx_n_lt _) (rx_n_lt _) (rx_n_lt _) (rx_n_lt _) (rx_n_lt _)) (fun v h1 q => ?_)
  obtain ⟨⟨x1, rfl⟩, hJ1⟩ := q
  refine v_pop he hu rfl rfl rfl ?_
  refine v_ld he hu rfl rfl rfl rfl rfl ?_
  refine v_ld he hu rfl rfl rfl rfl rfl ?_
  refine v_ld he hu rfl rfl rfl rfl rfl ?_
  refine v_c he hu rfl rfl rfl rfl ?_
  refine v_bin hu rfl rfl (fun q => by omega) ?_
  rw [rop_add (by omega)]
  refine v_sld he hu rfl rfl (by omega) ?_
  refine v_ld he hu rfl rfl rfl rfl rfl ?_
  refine v_ld he hu rfl rfl rfl rfl rfl ?_
  refine v_c he hu rfl rfl rfl rfl ?_
  refine v_bin hu rfl rfl (fun q => by omega) ?_
  rw [rop_add (by omega)]
  refine v_sld he hu rfl rfl (by omega) ?_
  refine v_ld he hu rfl rfl rfl rfl rfl ?_
  refine v_ld he hu rfl rfl rfl rfl rfl ?_
  refine v_c he hu rfl rfl rfl rfl ?_
  refine v_bin hu rfl rfl (fun q => by omega) ?_
  rw [rop_add (by omega)]
  refine v_sld he hu rfl rfl (by omega) ?_
  refine v_ld he hu rfl rfl rfl rfl rfl ?_
  refine v_ld he hu rfl rfl rfl rfl rfl ?_
  refine v_c he hu rfl rfl rfl rfl ?_
  refine v_bin hu rfl rfl (fun q => by omega) ?_
  rw [rop_add (by omega)]
  refine v_sld he hu rfl rfl (by omega) ?_
  refine v_ld he hu rfl rfl rfl rfl rfl ?_
  refine v_ld he hu rfl rfl rfl rfl rfl ?_
  refine v_c he hu rfl rfl rfl rfl ?_
  refine v_bin hu rfl rfl (fun q => by omega) ?_
  rw [rop_add (by omega)]
  refine v_sld he hu rfl rfl (by omega) ?_
  refine v_callM he hu hJ1.1.1 rfl rfl rfl rfl (pm_feed he hJ1 (rx_n_lt _) (rx_n_lt _) (rx_n_lt _) (rx_n_lt _) (rx_n_lt _)) (fun v h2 q => ?_)
  obtain ⟨⟨x2, rfl⟩, hJ2⟩ := q
  refine v_pop he hu rfl rfl rfl ?_
  refine v_go he hu rfl ne_law ?_
  exact kk _ hJ2
set_option maxRecDepth 100000 in
theorem lc_end (he : ai_env X B) (hL : B.2.1 ≤ 3072) (hi : i + 6 ≤ B.2.1) (kk : ∀ h, la_J h → rv l X Y B 64 fw_law 1409 (lw_l i) [] h lw_K) {h : fx_H} (hJ : la_J h) : rv l X Y B 64 fw_law 291 (lw_l i) [] h lw_K := by
  have hu := hu_law
  refine v_ld he hu rfl rfl rfl rfl rfl ?_
  refine v_ld he hu rfl rfl rfl rfl rfl ?_
  refine v_ld he hu rfl rfl rfl rfl rfl ?_
  refine v_c he hu rfl rfl rfl rfl ?_
  refine v_bin hu rfl rfl (fun q => by omega) ?_
  rw [rop_add (by omega)]
  refine v_sld he hu rfl rfl (by omega) ?_
  refine v_callX he hu hJ.1.1 rfl rfl rfl rfl (px_end he hJ (rx_n_lt _)) (fun v h1 q => ?_)
  obtain ⟨⟨x1, rfl⟩, hJ1⟩ := q
  refine v_pop he hu rfl rfl rfl ?_
  refine v_ld he hu rfl rfl rfl rfl rfl ?_
  refine v_ld he hu rfl rfl rfl rfl rfl ?_
  refine v_ld he hu rfl rfl rfl rfl rfl ?_
  refine v_c he hu rfl rfl rfl rfl ?_
  refine v_bin hu rfl rfl (fun q => by omega) ?_
  rw [rop_add (by omega)]
  refine v_sld he hu rfl rfl (by omega) ?_
  refine v_callM he hu hJ1.1.1 rfl rfl rfl rfl (pm_end he hJ1 (rx_n_lt _)) (fun v h2 q => ?_)
  obtain ⟨⟨x2, rfl⟩, hJ2⟩ := q
  refine v_pop he hu rfl rfl rfl ?_
  refine v_go he hu rfl ne_law ?_
  exact kk _ hJ2
set_option maxRecDepth 100000 in
theorem lc_senate (he : ai_env X B) (hL : B.2.1 ≤ 3072) (hi : i + 6 ≤ B.2.1) (kk : ∀ h, la_J h → rv l X Y B 64 fw_law 1409 (lw_l i) [] h lw_K) {h : fx_H} (hJ : la_J h) : rv l X Y B 64 fw_law 314 (lw_l i) [] h lw_K := by
  have hu := hu_law
  refine v_ld he hu rfl rfl rfl rfl rfl ?_
  refine v_callX he hu hJ.1.1 rfl rfl rfl rfl (px_senate he hJ) (fun v h1 q => ?_)
  obtain ⟨⟨x1, rfl⟩, hJ1⟩ := q
  refine v_pop he hu rfl rfl rfl ?_
  refine v_ld he hu rfl rfl rfl rfl rfl ?_
  refine v_callM he hu hJ1.1.1 rfl rfl rfl rfl (pm_senate he hJ1) (fun v h2 q => ?_)
  obtain ⟨⟨x2, rfl⟩, hJ2⟩ := q
  refine v_pop he hu rfl rfl rfl ?_
  refine v_go he hu rfl ne_law ?_
  exact kk _ hJ2
set_option maxRecDepth 100000 in
theorem lc_fault (he : ai_env X B) (hL : B.2.1 ≤ 3072) (hi : i + 6 ≤ B.2.1) (kk : ∀ h, la_J h → rv l X Y B 64 fw_law 1409 (lw_l i) [] h lw_K) {h : fx_H} (hJ : la_J h) : rv l X Y B 64 fw_law 327 (lw_l i) [] h lw_K := by
  have hu := hu_law
  refine v_ld he hu rfl rfl rfl rfl rfl ?_
  refine v_ld he hu rfl rfl rfl rfl rfl ?_
  refine v_ld he hu rfl rfl rfl rfl rfl ?_
  refine v_c he hu rfl rfl rfl rfl ?_
  refine v_bin hu rfl rfl (fun q => by omega) ?_
  rw [rop_add (by omega)]
  refine v_sld he hu rfl rfl (by omega) ?_
  refine v_callX he hu hJ.1.1 rfl rfl rfl rfl (px_fault he hJ (rx_n_lt _)) (fun v h1 q => ?_)
  obtain ⟨⟨x1, rfl⟩, hJ1⟩ := q
  refine v_pop he hu rfl rfl rfl ?_
  refine v_ld he hu rfl rfl rfl rfl rfl ?_
  refine v_ld he hu rfl rfl rfl rfl rfl ?_
  refine v_ld he hu rfl rfl rfl rfl rfl ?_
  refine v_c he hu rfl rfl rfl rfl ?_
  refine v_bin hu rfl rfl (fun q => by omega) ?_
  rw [rop_add (by omega)]
  refine v_sld he hu rfl rfl (by omega) ?_
  refine v_callM he hu hJ1.1.1 rfl rfl rfl rfl (pm_fault he hJ1 (rx_n_lt _)) (fun v h2 q => ?_)
  obtain ⟨⟨x2, rfl⟩, hJ2⟩ := q
  refine v_pop he hu rfl rfl rfl ?_
  refine v_go he hu rfl ne_law ?_
  exact kk _ hJ2
set_option maxRecDepth 100000 in
theorem lc_member (he : ai_env X B) (hL : B.2.1 ≤ 3072) (hi : i + 6 ≤ B.2.1) (kk : ∀ h, la_J h → rv l X Y B 64 fw_law 1409 (lw_l i) [] h lw_K) {h : fx_H} (hJ : la_J h) : rv l X Y B 64 fw_law 350 (lw_l i) [] h lw_K := by
  have hu := hu_law
  refine v_ld he hu rfl rfl rfl rfl rfl ?_
  refine v_ld he hu rfl rfl rfl rfl rfl ?_
  refine v_ld he hu rfl rfl rfl rfl rfl ?_
  refine v_c he hu rfl rfl rfl rfl ?_
  refine v_bin hu rfl rfl (fun q => by omega) ?_
  rw [rop_add (by omega)]
  refine v_sld he hu rfl rfl (by omega) ?_
  refine v_ld he hu rfl rfl rfl rfl rfl ?_
  refine v_ld he hu rfl rfl rfl rfl rfl ?_
  refine v_c he hu rfl rfl rfl rfl ?_
  refine v_bin hu rfl rfl (fun q => by omega) ?_
  rw [rop_add (by omega)]
  refine v_sld he hu rfl rfl (by omega) ?_
  refine v_callX he hu hJ.1.1 rfl rfl rfl rfl (px_member he hJ (rx_n_lt _) (rx_n_lt _)) (fun v h1 q => ?_)
  obtain ⟨⟨x1, rfl⟩, hJ1⟩ := q
  refine v_pop he hu rfl rfl rfl ?_
  refine v_ld he hu rfl rfl rfl rfl rfl ?_
  refine v_ld he hu rfl rfl rfl rfl rfl ?_
  refine v_ld he hu rfl rfl rfl rfl rfl ?_
  refine v_c he hu rfl rfl rfl rfl ?_
  refine v_bin hu rfl rfl (fun q => by omega) ?_
  rw [rop_add (by omega)]
  refine v_sld he hu rfl rfl (by omega) ?_
  refine v_ld he hu rfl rfl rfl rfl rfl ?_
  refine v_ld he hu rfl rfl rfl rfl rfl ?_
  refine v_c he hu rfl rfl rfl rfl ?_
  refine v_bin hu rfl rfl (fun q => by omega) ?_
  rw [rop_add (by omega)]
  refine v_sld he hu rfl rfl (by omega) ?_
  refine v_callM he hu hJ1.1.1 rfl rfl rfl rfl (pm_member he hJ1 (rx_n_lt _) (rx_n_lt _)) (fun v h2 q => ?_)
  obtain ⟨⟨x2, rfl⟩, hJ2⟩ := q
  refine v_pop he hu rfl rfl rfl ?_
  refine v_go he hu rfl ne_law ?_
  exact kk _ hJ2
set_option maxRecDepth 100000 in
theorem lc_district (he : ai_env X B) (hL : B.2.1 ≤ 3072) (hi : i + 6 ≤ B.2.1) (kk : ∀ h, la_J h → rv l X Y B 64 fw_law 1409 (lw_l i) [] h lw_K) {h : fx_H} (hJ : la_J h) : rv l X Y B 64 fw_law 383 (lw_l i) [] h lw_K := by
  have hu := hu_law
  refine v_ld he hu rfl rfl rfl rfl rfl ?_
  refine v_ld he hu rfl rfl rfl rfl rfl ?_
  refine v_ld he hu rfl rfl rfl rfl rfl ?_
  refine v_c he hu rfl rfl rfl rfl ?_
  refine v_bin hu rfl rfl (fun q => by omega) ?_
  rw [rop_add (by omega)]
  refine v_sld he hu rfl rfl (by omega) ?_
  refine v_ld he hu rfl rfl rfl rfl rfl ?_
  refine v_ld he hu rfl rfl rfl rfl rfl ?_
  refine v_c he hu rfl rfl rfl rfl ?_
  refine v_bin hu rfl rfl (fun q => by omega) ?_
  rw [rop_add (by omega)]
  refine v_sld he hu rfl rfl (by omega) ?_
  refine v_callX he hu hJ.1.1 rfl rfl rfl rfl (px_district he hJ (rx_n_lt _) (rx_n_lt _)) (fun v h1 q => ?_)
  obtain ⟨⟨x1, rfl⟩, hJ1⟩ := q
  refine v_pop he hu rfl rfl rfl ?_
  refine v_ld he hu rfl rfl rfl rfl rfl ?_
  refine v_ld he hu rfl rfl rfl rfl rfl ?_
  refine v_ld he hu rfl rfl rfl rfl rfl ?_
  refine v_c he hu rfl rfl rfl rfl ?_
  refine v_bin hu rfl rfl (fun q => by omega) ?_
  rw [rop_add (by omega)]
  refine v_sld he hu rfl rfl (by omega) ?_
  refine v_ld he hu rfl rfl rfl rfl rfl ?_
  refine v_ld he hu rfl rfl rfl rfl rfl ?_
  refine v_c he hu rfl rfl rfl rfl ?_
  refine v_bin hu rfl rfl (fun q => by omega) ?_
  rw [rop_add (by omega)]
  refine v_sld he hu rfl rfl (by omega) ?_
  refine v_callM he hu hJ1.1.1 rfl rfl rfl rfl (pm_district he hJ1 (rx_n_lt _) (rx_n_lt _)) (fun v h2 q => ?_)
  obtain ⟨⟨x2, rfl⟩, hJ2⟩ := q
  refine v_pop he hu rfl rfl rfl ?_
  refine v_go he hu rfl ne_law ?_
  exact kk _ hJ2
set_option maxRecDepth 100000 in
theorem lc_seat (he : ai_env X B) (hL : B.2.1 ≤ 3072) (hi : i + 6 ≤ B.2.1) (kk : ∀ h, la_J h → rv l X Y B 64 fw_law 1409 (lw_l i) [] h lw_K) {h : fx_H} (hJ : la_J h) : rv l X Y B 64 fw_law 416 (lw_l i) [] h lw_K := by
  have hu := hu_law
  refine v_ld he hu rfl rfl rfl rfl rfl ?_
  refine v_ld he hu rfl rfl rfl rfl rfl ?_
  refine v_ld he hu rfl rfl rfl rfl rfl ?_
  refine v_c he hu rfl rfl rfl rfl ?_
  refine v_bin hu rfl rfl (fun q => by omega) ?_
  rw [rop_add (by omega)]
  refine v_sld he hu rfl rfl (by omega) ?_
  refine v_ld he hu rfl rfl rfl rfl rfl ?_
  refine v_ld he hu rfl rfl rfl rfl rfl ?_
  refine v_c he hu rfl rfl rfl rfl ?_
  refine v_bin hu rfl rfl (fun q => by omega) ?_
  rw [rop_add (by omega)]
  refine v_sld he hu rfl rfl (by omega) ?_
  refine v_callX he hu hJ.1.1 rfl rfl rfl rfl (px_seat he hJ (rx_n_lt _) (rx_n_lt _)) (fun v h1 q => ?_)
  obtain ⟨⟨x1, rfl⟩, hJ1⟩ := q
  refine v_pop he hu rfl rfl rfl ?_
  refine v_ld he hu rfl rfl rfl rfl rfl ?_
  refine v_ld he hu rfl rfl rfl rfl rfl ?_
  refine v_ld he hu rfl rfl rfl rfl rfl ?_
  refine v_c he hu rfl rfl rfl rfl ?_
  refine v_bin hu rfl rfl (fun q => by omega) ?_
  rw [rop_add (by omega)]
  refine v_sld he hu rfl rfl (by omega) ?_
  refine v_ld he hu rfl rfl rfl rfl rfl ?_
  refine v_ld he hu rfl rfl rfl rfl rfl ?_
  refine v_c he hu rfl rfl rfl rfl ?_
  refine v_bin hu rfl rfl (fun q => by omega) ?_
  rw [rop_add (by omega)]
  refine v_sld he hu rfl rfl (by omega) ?_
  refine v_callM he hu hJ1.1.1 rfl rfl rfl rfl (pm_seat he hJ1 (rx_n_lt _) (rx_n_lt _)) (fun v h2 q => ?_)
  obtain ⟨⟨x2, rfl⟩, hJ2⟩ := q
  refine v_pop he hu rfl rfl rfl ?_
  refine v_go he hu rfl ne_law ?_
  exact kk _ hJ2
set_option maxRecDepth 100000 in
theorem lc_report (he : ai_env X B) (hL : B.2.1 ≤ 3072) (hi : i + 6 ≤ B.2.1) (kk : ∀ h, la_J h → rv l X Y B 64 fw_law 1409 (lw_l i) [] h lw_K) {h : fx_H} (hJ : la_J h) : rv l X Y B 64 fw_law 449 (lw_l i) [] h lw_K := by
  have hu := hu_law
  refine v_ld he hu rfl rfl rfl rfl rfl ?_
  refine v_callX he hu hJ.1.1 rfl rfl rfl rfl (px_report he hJ) (fun v h1 q => ?_)
  obtain ⟨⟨x1, rfl⟩, hJ1⟩ := q
  refine v_pop he hu rfl rfl rfl ?_
  refine v_ld he hu rfl rfl rfl rfl rfl ?_
  refine v_callM he hu hJ1.1.1 rfl rfl rfl rfl (pm_report he hJ1) (fun v h2 q => ?_)
  obtain ⟨⟨x2, rfl⟩, hJ2⟩ := q
  refine v_pop he hu rfl rfl rfl ?_
  refine v_go he hu rfl ne_law ?_
  exact kk _ hJ2
set_option maxRecDepth 100000 in
theorem lc_off (he : ai_env X B) (hL : B.2.1 ≤ 3072) (hi : i + 6 ≤ B.2.1) (kk : ∀ h, la_J h → rv l X Y B 64 fw_law 1409 (lw_l i) [] h lw_K) {h : fx_H} (hJ : la_J h) : rv l X Y B 64 fw_law 462 (lw_l i) [] h lw_K := by
  have hu := hu_law
  refine v_ld he hu rfl rfl rfl rfl rfl ?_
  refine v_callX he hu hJ.1.1 rfl rfl rfl rfl (px_off he hJ) (fun v h1 q => ?_)
  obtain ⟨⟨x1, rfl⟩, hJ1⟩ := q
  refine v_pop he hu rfl rfl rfl ?_
  refine v_ld he hu rfl rfl rfl rfl rfl ?_
  refine v_callM he hu hJ1.1.1 rfl rfl rfl rfl (pm_off he hJ1) (fun v h2 q => ?_)
  obtain ⟨⟨x2, rfl⟩, hJ2⟩ := q
  refine v_pop he hu rfl rfl rfl ?_
  refine v_go he hu rfl ne_law ?_
  exact kk _ hJ2
set_option maxRecDepth 100000 in
theorem lc_step (he : ai_env X B) (hL : B.2.1 ≤ 3072) (hi : i + 6 ≤ B.2.1) (kk : ∀ h, la_J h → rv l X Y B 64 fw_law 1409 (lw_l i) [] h lw_K) {h : fx_H} (hJ : la_J h) : rv l X Y B 64 fw_law 475 (lw_l i) [] h lw_K := by
  have hu := hu_law
  refine v_ld he hu rfl rfl rfl rfl rfl ?_
  refine v_callX he hu hJ.1.1 rfl rfl rfl rfl (px_step he hJ) (fun v h1 q => ?_)
  obtain ⟨⟨x1, rfl⟩, hJ1⟩ := q
  refine v_pop he hu rfl rfl rfl ?_
  refine v_ld he hu rfl rfl rfl rfl rfl ?_
  refine v_callM he hu hJ1.1.1 rfl rfl rfl rfl (pm_step he hJ1) (fun v h2 q => ?_)
  obtain ⟨⟨x2, rfl⟩, hJ2⟩ := q
  refine v_pop he hu rfl rfl rfl ?_
  refine v_go he hu rfl ne_law ?_
  exact kk _ hJ2
set_option maxRecDepth 100000 in
theorem lc_news (he : ai_env X B) (hL : B.2.1 ≤ 3072) (hi : i + 6 ≤ B.2.1) (kk : ∀ h, la_J h → rv l X Y B 64 fw_law 1409 (lw_l i) [] h lw_K) {h : fx_H} (hJ : la_J h) : rv l X Y B 64 fw_law 488 (lw_l i) [] h lw_K := by
  have hu := hu_law
  refine v_ld he hu rfl rfl rfl rfl rfl ?_
  refine v_ld he hu rfl rfl rfl rfl rfl ?_
  refine v_ld he hu rfl rfl rfl rfl rfl ?_
  refine v_c he hu rfl rfl rfl rfl ?_
  refine v_bin hu rfl rfl (fun q => by omega) ?_
  rw [rop_add (by omega)]
  refine v_sld he hu rfl rfl (by omega) ?_
  refine v_callX he hu hJ.1.1 rfl rfl rfl rfl (px_news he hJ (rx_n_lt _)) (fun v h1 q => ?_)
  obtain ⟨⟨x1, rfl⟩, hJ1⟩ := q
  refine v_pop he hu rfl rfl rfl ?_
  refine v_ld he hu rfl rfl rfl rfl rfl ?_
  refine v_ld he hu rfl rfl rfl rfl rfl ?_
  refine v_ld he hu rfl rfl rfl rfl rfl ?_
  refine v_c he hu rfl rfl rfl rfl ?_
  refine v_bin hu rfl rfl (fun q => by omega) ?_
  rw [rop_add (by omega)]
  refine v_sld he hu rfl rfl (by omega) ?_
  refine v_callM he hu hJ1.1.1 rfl rfl rfl rfl (pm_news he hJ1 (rx_n_lt _)) (fun v h2 q => ?_)
  obtain ⟨⟨x2, rfl⟩, hJ2⟩ := q
  refine v_pop he hu rfl rfl rfl ?_
  refine v_go he hu rfl ne_law ?_
  exact kk _ hJ2
end LC
