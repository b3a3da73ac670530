section LC
variable {l : Launch} {X : fx_X} {Y : fx_Y} {B : fx_B} {i : Nat}
set_option maxRecDepth 100000 in
theorem lc_odds (he : ai_env X B) (hL : B.2.1 ≤ 3072) (hi : i + 6 ≤ B.2.1) (kk : ∀ h, la_J h → rv l X Y B 64 fw_law 1409 (lw_l i) [] h lw_K) {h : fx_H} (hJ : la_J h) : rv l X Y B 64 fw_law 1067 (lw_l i) [] h lw_K := by
  have hu := hu_law
  refine v_ld he hu rfl rfl rfl rfl rfl ?_
  refine v_ld he hu rfl rfl rfl rfl rfl ?_
  refine v_ld he hu rfl rfl rfl rfl rfl ?_
  refine v_c he hu rfl rfl rfl rfl ?_
  refine v_bin hu rfl rfl (fun q => by omega) ?_
  rw [rop_add (by omega)]
  refine v_sld he hu rfl rfl (by omega) ?_
  refine v_ld he hu rfl rfl rfl rfl rfl ?_
  refine v_ld he hu rfl rfl rfl rfl rfl ?_
  refine v_c he hu rfl rfl rfl rfl ?_
  refine v_bin hu rfl rfl (fun q => by omega) ?_
  rw [rop_add (by omega)]
  refine v_sld he hu rfl rfl (by omega) ?_
  refine v_callX he hu hJ.1.1 rfl rfl rfl rfl (px_odds he hJ (rx_n_lt _) (rx_n_lt _)) (fun v h1 q => ?_)
  obtain ⟨⟨x1, rfl⟩, hJ1⟩ := q
  refine v_pop he hu rfl rfl rfl ?_
  refine v_ld he hu rfl rfl rfl rfl rfl ?_
  refine v_ld he hu rfl rfl rfl rfl rfl ?_
  refine v_ld he hu rfl rfl rfl rfl rfl ?_
  refine v_c he hu rfl rfl rfl rfl ?_
  refine v_bin hu rfl rfl (fun q => by omega) ?_
  rw [rop_add (by omega)]
  refine v_sld he hu rfl rfl (by omega) ?_
  refine v_ld he hu rfl rfl rfl rfl rfl ?_
  refine v_ld he hu rfl rfl rfl rfl rfl ?_
  refine v_c he hu rfl rfl rfl rfl ?_
  refine v_bin hu rfl rfl (fun q => by omega) ?_
  rw [rop_add (by omega)]
  refine v_sld he hu rfl rfl (by omega) ?_
  refine v_callM he hu hJ1.1.1 rfl rfl rfl rfl (pm_odds he hJ1 (rx_n_lt _) (rx_n_lt _)) (fun v h2 q => ?_)
  obtain ⟨⟨x2, rfl⟩, hJ2⟩ := q
  refine v_pop he hu rfl rfl rfl ?_
  refine v_go he hu rfl ne_law ?_
  exact kk _ hJ2
set_option maxRecDepth 100000 in
theorem lc_moved (he : ai_env X B) (hL : B.2.1 ≤ 3072) (hi : i + 6 ≤ B.2.1) (kk : ∀ h, la_J h → rv l X Y B 64 fw_law 1409 (lw_l i) [] h lw_K) {h : fx_H} (hJ : la_J h) : rv l X Y B 64 fw_law 1100 (lw_l i) [] h lw_K := by
  have hu := hu_law
  refine v_ld he hu rfl rfl rfl rfl rfl ?_
  refine v_ld he hu rfl rfl rfl rfl rfl ?_
  refine v_ld he hu rfl rfl rfl rfl rfl ?_
  refine v_c he hu rfl rfl rfl rfl ?_
  refine v_bin hu rfl rfl (fun q => by omega) ?_
  rw [rop_add (by omega)]
  refine v_sld he hu rfl rfl (by omega) ?_
  refine v_callX he hu hJ.1.1 rfl rfl rfl rfl (px_moved he hJ (rx_n_lt _)) (fun v h1 q => ?_)
  obtain ⟨⟨x1, rfl⟩, hJ1⟩ := q
  refine v_pop he hu rfl rfl rfl ?_
  refine v_ld he hu rfl rfl rfl rfl rfl ?_
  refine v_ld he hu rfl rfl rfl rfl rfl ?_
  refine v_ld he hu rfl rfl rfl rfl rfl ?_
  refine v_c he hu rfl rfl rfl rfl ?_
  refine v_bin hu rfl rfl (fun q => by omega) ?_
  rw [rop_add (by omega)]
  refine v_sld he hu rfl rfl (by omega) ?_
  refine v_callM he hu hJ1.1.1 rfl rfl rfl rfl (pm_moved he hJ1 (rx_n_lt _)) (fun v h2 q => ?_)
  obtain ⟨⟨x2, rfl⟩, hJ2⟩ := q
  refine v_pop he hu rfl rfl rfl ?_
  refine v_go he hu rfl ne_law ?_
  exact kk _ hJ2
set_option maxRecDepth 100000 in
theorem lc_key (he : ai_env X B) (hL : B.2.1 ≤ 3072) (hi : i + 6 ≤ B.2.1) (kk : ∀ h, la_J h → rv l X Y B 64 fw_law 1409 (lw_l i) [] h lw_K) {h : fx_H} (hJ : la_J h) : rv l X Y B 64 fw_law 1123 (lw_l i) [] h lw_K := by
  have hu := hu_law
  refine v_ld he hu rfl rfl rfl rfl rfl ?_
  refine v_callX he hu hJ.1.1 rfl rfl rfl rfl (px_key he hJ) (fun v h1 q => ?_)
  obtain ⟨⟨x1, rfl⟩, hJ1⟩ := q
  refine v_pop he hu rfl rfl rfl ?_
  refine v_ld he hu rfl rfl rfl rfl rfl ?_
  refine v_callM he hu hJ1.1.1 rfl rfl rfl rfl (pm_key he hJ1) (fun v h2 q => ?_)
  obtain ⟨⟨x2, rfl⟩, hJ2⟩ := q
  refine v_pop he hu rfl rfl rfl ?_
  refine v_go he hu rfl ne_law ?_
  exact kk _ hJ2
set_option maxRecDepth 100000 in
theorem lc_lies (he : ai_env X B) (hL : B.2.1 ≤ 3072) (hi : i + 6 ≤ B.2.1) (kk : ∀ h, la_J h → rv l X Y B 64 fw_law 1409 (lw_l i) [] h lw_K) {h : fx_H} (hJ : la_J h) : rv l X Y B 64 fw_law 1136 (lw_l i) [] h lw_K := by
  have hu := hu_law
  refine v_ld he hu rfl rfl rfl rfl rfl ?_
  refine v_ld he hu rfl rfl rfl rfl rfl ?_
  refine v_ld he hu rfl rfl rfl rfl rfl ?_
  refine v_c he hu rfl rfl rfl rfl ?_
  refine v_bin hu rfl rfl (fun q => by omega) ?_
  rw [rop_add (by omega)]
  refine v_sld he hu rfl rfl (by omega) ?_
  refine v_callX he hu hJ.1.1 rfl rfl rfl rfl (px_lies he hJ (rx_n_lt _)) (fun v h1 q => ?_)
  obtain ⟨⟨x1, rfl⟩, hJ1⟩ := q
  refine v_pop he hu rfl rfl rfl ?_
  refine v_ld he hu rfl rfl rfl rfl rfl ?_
  refine v_ld he hu rfl rfl rfl rfl rfl ?_
  refine v_ld he hu rfl rfl rfl rfl rfl ?_
  refine v_c he hu rfl rfl rfl rfl ?_
  refine v_bin hu rfl rfl (fun q => by omega) ?_
  rw [rop_add (by omega)]
  refine v_sld he hu rfl rfl (by omega) ?_
  refine v_callM he hu hJ1.1.1 rfl rfl rfl rfl (pm_lies he hJ1 (rx_n_lt _)) (fun v h2 q => ?_)
  obtain ⟨⟨x2, rfl⟩, hJ2⟩ := q
  refine v_pop he hu rfl rfl rfl ?_
  refine v_go he hu rfl ne_law ?_
  exact kk _ hJ2
set_option maxRecDepth 100000 in
theorem lc_looks (he : ai_env X B) (hL : B.2.1 ≤ 3072) (hi : i + 6 ≤ B.2.1) (kk : ∀ h, la_J h → rv l X Y B 64 fw_law 1409 (lw_l i) [] h lw_K) {h : fx_H} (hJ : la_J h) : rv l X Y B 64 fw_law 1159 (lw_l i) [] h lw_K := by
  have hu := hu_law
  refine v_ld he hu rfl rfl rfl rfl rfl ?_
  refine v_ld he hu rfl rfl rfl rfl rfl ?_
  refine v_ld he hu rfl rfl rfl rfl rfl ?_
  refine v_c he hu rfl rfl rfl rfl ?_
  refine v_bin hu rfl rfl (fun q => by omega) ?_
  rw [rop_add (by omega)]
  refine v_sld he hu rfl rfl (by omega) ?_
  refine v_ld he hu rfl rfl rfl rfl rfl ?_
  refine v_ld he hu rfl rfl rfl rfl rfl ?_
  refine v_c he hu rfl rfl rfl rfl ?_
  refine v_bin hu rfl rfl (fun q => by omega) ?_
  rw [rop_add (by omega)]
  refine v_sld he hu rfl rfl (by omega) ?_
  refine v_ld he hu rfl rfl rfl rfl rfl ?_
  refine v_ld he hu rfl rfl rfl rfl rfl ?_
  refine v_c he hu rfl rfl rfl rfl ?_
  refine v_bin hu rfl rfl (fun q => by omega) ?_
  rw [rop_add (by omega)]
  refine v_sld he hu rfl rfl (by omega) ?_
  refine v_ld he hu rfl rfl rfl rfl rfl ?_
  refine v_ld he hu rfl rfl rfl rfl rfl ?_
  refine v_c he hu rfl rfl rfl rfl ?_
  refine v_bin hu rfl rfl (fun q => by omega) ?_
  rw [rop_add (by omega)]
  refine v_sld he hu rfl rfl (by omega) ?_
  refine v_cmp0 he hu rfl rfl rfl (ru_ne rfl) (fun c1 => ?_) (fun c1 => ?_)
  · -- taken
    refine v_c he hu rfl rfl rfl rfl ?_
    refine v_callX he hu hJ.1.1 rfl rfl rfl rfl (px_looks he hJ (rx_n_lt _) (rx_n_lt _) (rx_n_lt _) (by decide : 0 < 2)) (fun v h1 q => ?_)
    obtain ⟨⟨x1, rfl⟩, hJ1⟩ := q
    refine v_pop he hu rfl rfl rfl ?_
    refine v_ld he hu rfl rfl rfl rfl rfl ?_
    refine v_ld he hu rfl rfl rfl rfl rfl ?_
    refine v_ld he hu rfl rfl rfl rfl rfl ?_
    refine v_c he hu rfl rfl rfl rfl ?_
    refine v_bin hu rfl rfl (fun q => by omega) ?_
    rw [rop_add (by omega)]
    refine v_sld he hu rfl rfl (by omega) ?_
    refine v_ld he hu rfl rfl rfl rfl rfl ?_
    refine v_ld he hu rfl rfl rfl rfl rfl ?_
    refine v_c he hu rfl rfl rfl rfl ?_
    refine v_bin hu rfl rfl (fun q => by omega) ?_
    rw [rop_add (by omega)]
    refine v_sld he hu rfl rfl (by omega) ?_
    refine v_ld he hu rfl rfl rfl rfl rfl ?_
    refine v_ld he hu rfl rfl rfl rfl rfl ?_
    refine v_c he hu rfl rfl rfl rfl ?_
    refine v_bin hu rfl rfl (fun q => by omega) ?_
    rw [rop_add (by omega)]
    refine v_sld he hu rfl rfl (by omega) ?_
    refine v_ld he hu rfl rfl rfl rfl rfl ?_
    refine v_ld he hu rfl rfl rfl rfl rfl ?_
    refine v_c he hu rfl rfl rfl rfl ?_
    refine v_bin hu rfl rfl (fun q => by omega) ?_
    rw [rop_add (by omega)]
    refine v_sld he hu rfl rfl (by omega) ?_
    refine v_cmp0 he hu rfl rfl rfl (ru_ne rfl) (fun c1 => ?_) (fun c1 => ?_)
    · -- taken
      refine v_c he hu rfl rfl rfl rfl ?_
      refine v_callM he hu hJ1.1.1 rfl rfl rfl rfl (pm_looks he hJ1 (rx_n_lt _) (rx_n_lt _) (rx_n_lt _) (by decide : 0 < 2)) (fun v h2 q => ?_)
      obtain ⟨⟨x2, rfl⟩, hJ2⟩ := q
      refine v_pop he hu rfl rfl rfl ?_
      refine v_go he hu rfl ne_law ?_
      exact kk _ hJ2
    · -- not taken
      refine v_c he hu rfl rfl rfl rfl ?_
      refine v_go he hu rfl (ru_ne rfl) ?_
      refine v_callM he hu hJ1.1.1 rfl rfl rfl rfl (pm_looks he hJ1 (rx_n_lt _) (rx_n_lt _) (rx_n_lt _) (by decide : 1 < 2)) (fun v h2 q => ?_)
      obtain ⟨⟨x2, rfl⟩, hJ2⟩ := q
      refine v_pop he hu rfl rfl rfl ?_
      refine v_go he hu rfl ne_law ?_
      exact kk _ hJ2
  · -- not taken
    refine v_c he hu rfl rfl rfl rfl ?_
    refine v_go he hu rfl (ru_ne rfl) ?_
    refine v_callX he hu hJ.1.1 rfl rfl rfl rfl (px_looks he hJ (rx_n_lt _) (rx_n_lt _) (rx_n_lt _) (by decide : 1 < 2)) (fun v h1 q => ?_)
    obtain ⟨⟨x1, rfl⟩, hJ1⟩ := q
    refine v_pop he hu rfl rfl rfl ?_
    refine v_ld he hu rfl rfl rfl rfl rfl ?_
    refine v_ld he hu rfl rfl rfl rfl rfl ?_
    refine v_ld he hu rfl rfl rfl rfl rfl ?_
    refine v_c he hu rfl rfl rfl rfl ?_
    refine v_bin hu rfl rfl (fun q => by omega) ?_
    rw [rop_add (by omega)]
    refine v_sld he hu rfl rfl (by omega) ?_
    refine v_ld he hu rfl rfl rfl rfl rfl ?_
    refine v_ld he hu rfl rfl rfl rfl rfl ?_
    refine v_c he hu rfl rfl rfl rfl ?_
    refine v_bin hu rfl rfl (fun q => by omega) ?_
    rw [rop_add (by omega)]
    refine v_sld he hu rfl rfl (by omega) ?_
    refine v_ld he hu rfl rfl rfl rfl rfl ?_
    refine v_ld he hu rfl rfl rfl rfl rfl ?_
    refine v_c he hu rfl rfl rfl rfl ?_
    refine v_bin hu rfl rfl (fun q => by omega) ?_
    rw [rop_add (by omega)]
    refine v_sld he hu rfl rfl (by omega) ?_
    refine v_ld he hu rfl rfl rfl rfl rfl ?_
    refine v_ld he hu rfl rfl rfl rfl rfl ?_
    refine v_c he hu rfl rfl rfl rfl ?_
    refine v_bin hu rfl rfl (fun q => by omega) ?_
    rw [rop_add (by omega)]
    refine v_sld he hu rfl rfl (by omega) ?_
    refine v_cmp0 he hu rfl rfl rfl (ru_ne rfl) (fun c1 => ?_) (fun c1 => ?_)
    · -- taken
      refine v_c he hu rfl rfl rfl rfl ?_
      refine v_callM he hu hJ1.1.1 rfl rfl rfl rfl (pm_looks he hJ1 (rx_n_lt _) (rx_n_lt _) (rx_n_lt _) (by decide : 0 < 2)) (fun v h2 q => ?_)
      obtain ⟨⟨x2, rfl⟩, hJ2⟩ := q
      refine v_pop he hu rfl rfl rfl ?_
      refine v_go he hu rfl ne_law ?_
      exact kk _ hJ2
    · -- not taken
      refine v_c he hu rfl rfl rfl rfl ?_
      refine v_go he hu rfl (ru_ne rfl) ?_
      refine v_callM he hu hJ1.1.1 rfl rfl rfl rfl (pm_looks he hJ1 (rx_n_lt _) (rx_n_lt _) (rx_n_lt _) (by decide : 1 < 2)) (fun v h2 q => ?_)
      obtain ⟨⟨x2, rfl⟩, hJ2⟩ := q
      refine v_pop he hu rfl rfl rfl ?_
      refine v_go he hu rfl ne_law ?_
      exact kk _ hJ2
set_option maxRecDepth 100000 in
theorem lc_untell (he : ai_env X B) (hL : B.2.1 ≤ 3072) (hi : i + 6 ≤ B.2.1) (kk : ∀ h, la_J h → rv l X Y B 64 fw_law 1409 (lw_l i) [] h lw_K) {h : fx_H} (hJ : la_J h) : rv l X Y B 64 fw_law 1228 (lw_l i) [] h lw_K := by
  have hu := hu_law
  refine v_ld he hu rfl rfl rfl rfl rfl ?_
  refine v_ld he hu rfl rfl rfl rfl rfl ?_
  refine v_ld he hu rfl rfl rfl rfl rfl ?_
  refine v_c he hu rfl rfl rfl rfl ?_
  refine v_bin hu rfl rfl (fun q => by omega) ?_
  rw [rop_add (by omega)]
  refine v_sld he hu rfl rfl (by omega) ?_
  refine v_callX he hu hJ.1.1 rfl rfl rfl rfl (px_untell he hJ (rx_n_lt _)) (fun v h1 q => ?_)
  obtain ⟨⟨x1, rfl⟩, hJ1⟩ := q
  refine v_pop he hu rfl rfl rfl ?_
  refine v_ld he hu rfl rfl rfl rfl rfl ?_
  refine v_ld he hu rfl rfl rfl rfl rfl ?_
  refine v_ld he hu rfl rfl rfl rfl rfl ?_
  refine v_c he hu rfl rfl rfl rfl ?_
  refine v_bin hu rfl rfl (fun q => by omega) ?_
  rw [rop_add (by omega)]
  refine v_sld he hu rfl rfl (by omega) ?_
  refine v_callM he hu hJ1.1.1 rfl rfl rfl rfl (pm_untell he hJ1 (rx_n_lt _)) (fun v h2 q => ?_)
  obtain ⟨⟨x2, rfl⟩, hJ2⟩ := q
  refine v_pop he hu rfl rfl rfl ?_
  refine v_go he hu rfl ne_law ?_
  exact kk _ hJ2
set_option maxRecDepth 100000 in
theorem lc_fits (he : ai_env X B) (hL : B.2.1 ≤ 3072) (hi : i + 6 ≤ B.2.1) (kk : ∀ h, la_J h → rv l X Y B 64 fw_law 1409 (lw_l i) [] h lw_K) {h : fx_H} (hJ : la_J h) : rv l X Y B 64 fw_law 1274 (lw_l i) [] h lw_K := by
  have hu := hu_law
  refine v_ld he hu rfl rfl rfl rfl rfl ?_
  refine v_ld he hu rfl rfl rfl rfl rfl ?_
  refine v_ld he hu rfl rfl rfl rfl rfl ?_
  refine v_c he hu rfl rfl rfl rfl ?_
  refine v_bin hu rfl rfl (fun q => by omega) ?_
  rw [rop_add (by omega)]
  refine v_sld he hu rfl rfl (by omega) ?_
  refine v_callX he hu hJ.1.1 rfl rfl rfl rfl (px_fits he hJ (rx_n_lt _)) (fun v h1 q => ?_)
  obtain ⟨⟨x1, rfl⟩, hJ1⟩ := q
  refine v_pop he hu rfl rfl rfl ?_
  refine v_ld he hu rfl rfl rfl rfl rfl ?_
  refine v_ld he hu rfl rfl rfl rfl rfl ?_
  refine v_ld he hu rfl rfl rfl rfl rfl ?_
  refine v_c he hu rfl rfl rfl rfl ?_
  refine v_bin hu rfl rfl (fun q => by omega) ?_
  rw [rop_add (by omega)]
  refine v_sld he hu rfl rfl (by omega) ?_
  refine v_callM he hu hJ1.1.1 rfl rfl rfl rfl (pm_fits he hJ1 (rx_n_lt _)) (fun v h2 q => ?_)
  obtain ⟨⟨x2, rfl⟩, hJ2⟩ := q
  refine v_pop he hu rfl rfl rfl ?_
  refine v_go he hu rfl ne_law ?_
  exact kk _ hJ2
set_option maxRecDepth 100000 in
theorem lc_ask (he : ai_env X B) (hL : B.2.1 ≤ 3072) (hi : i + 6 ≤ B.2.1) (kk : ∀ h, la_J h → rv l X Y B 64 fw_law 1409 (lw_l i) [] h lw_K) {h : fx_H} (hJ : la_J h) : rv l X Y B 64 fw_law 1297 (lw_l i) [] h lw_K := by
  have hu := hu_law
  refine v_ld he hu rfl rfl rfl rfl rfl ?_
  refine v_ld he hu rfl rfl rfl rfl rfl ?_
  refine v_ld he hu rfl rfl rfl rfl rfl ?_
  refine v_c he hu rfl rfl rfl rfl ?_
  refine v_bin hu rfl rfl (fun q => by omega) ?_
  rw [rop_add (by omega)]
  refine v_sld he hu rfl rfl (by omega) ?_
  refine v_ld he hu rfl rfl rfl rfl rfl ?_
  refine v_ld he hu rfl rfl rfl rfl rfl ?_
  refine v_c he hu rfl rfl rfl rfl ?_
  refine v_bin hu rfl rfl (fun q => by omega) ?_
  rw [rop_add (by omega)]
  refine v_sld he hu rfl rfl (by omega) ?_
  refine v_ld he hu rfl rfl rfl rfl rfl ?_
  refine v_ld he hu rfl rfl rfl rfl rfl ?_
  refine v_c he hu rfl rfl rfl rfl ?_
  refine v_bin hu rfl rfl (fun q => by omega) ?_
  rw [rop_add (by omega)]
  refine v_sld he hu rfl rfl (by omega) ?_
  refine v_callX he hu hJ.1.1 rfl rfl rfl rfl (px_ask he hJ (rx_n_lt _) (rx_n_lt _) (rx_n_lt _)) (fun v h1 q => ?_)
  obtain ⟨⟨x1, rfl⟩, hJ1⟩ := q
  refine v_pop he hu rfl rfl rfl ?_
  refine v_ld he hu rfl rfl rfl rfl rfl ?_
  refine v_ld he hu rfl rfl rfl rfl rfl ?_
  refine v_ld he hu rfl rfl rfl rfl rfl ?_
  refine v_c he hu rfl rfl rfl rfl ?_
  refine v_bin hu rfl rfl (fun q => by omega) ?_
  rw [rop_add (by omega)]
  refine v_sld he hu rfl rfl (by omega) ?_
  refine v_ld he hu rfl rfl rfl rfl rfl ?_
  refine v_ld he hu rfl rfl rfl rfl rfl ?_
  refine v_c he hu rfl rfl rfl rfl ?_
  refine v_bin hu rfl rfl (fun q => by omega) ?_
  rw [rop_add (by omega)]
  refine v_sld he hu rfl rfl (by omega) ?_
  refine v_ld he hu rfl rfl rfl rfl rfl ?_
  refine v_ld he hu rfl rfl rfl rfl rfl ?_
  refine v_c he hu rfl rfl rfl rfl ?_
  refine v_bin hu rfl rfl (fun q => by omega) ?_
  rw [rop_add (by omega)]
  refine v_sld he hu rfl rfl (by omega) ?_
  refine v_callM he hu hJ1.1.1 rfl rfl rfl rfl (pm_ask he hJ1 (rx_n_lt _) (rx_n_lt _) (rx_n_lt _)) (fun v h2 q => ?_)
  obtain ⟨⟨x2, rfl⟩, hJ2⟩ := q
  refine v_pop he hu rfl rfl rfl ?_
  refine v_go he hu rfl ne_law ?_
  exact kk _ hJ2
set_option maxRecDepth 100000 in
theorem lc_image (he : ai_env X B) (hL : B.2.1 ≤ 3072) (hi : i + 6 ≤ B.2.1) (kk : ∀ h, la_J h → rv l X Y B 64 fw_law 1409 (lw_l i) [] h lw_K) {h : fx_H} (hJ : la_J h) : rv l X Y B 64 fw_law 1340 (lw_l i) [] h lw_K := by
  have hu := hu_law
  refine v_ld he hu rfl rfl rfl rfl rfl ?_
  refine v_ld he hu rfl rfl rfl rfl rfl ?_
  refine v_ld he hu rfl rfl rfl rfl rfl ?_
  refine v_c he hu rfl rfl rfl rfl ?_
  refine v_bin hu rfl rfl (fun q => by omega) ?_
  rw [rop_add (by omega)]
  refine v_sld he hu rfl rfl (by omega) ?_
  refine v_callX he hu hJ.1.1 rfl rfl rfl rfl (px_image he hJ (rx_n_lt _)) (fun v h1 q => ?_)
  obtain ⟨⟨x1, rfl⟩, hJ1⟩ := q
  refine v_pop he hu rfl rfl rfl ?_
  refine v_ld he hu rfl rfl rfl rfl rfl ?_
  refine v_ld he hu rfl rfl rfl rfl rfl ?_
  refine v_ld he hu rfl rfl rfl rfl rfl ?_
  refine v_c he hu rfl rfl rfl rfl ?_
  refine v_bin hu rfl rfl (fun q => by omega) ?_
  rw [rop_add (by omega)]
  refine v_sld he hu rfl rfl (by omega) ?_
  refine v_callM he hu hJ1.1.1 rfl rfl rfl rfl (pm_image he hJ1 (rx_n_lt _)) (fun v h2 q => ?_)
  obtain ⟨⟨x2, rfl⟩, hJ2⟩ := q
  refine v_pop he hu rfl rfl rfl ?_
  refine v_go he hu rfl ne_law ?_
  exact kk _ hJ2
set_option maxRecDepth 100000 in
theorem lc_back (he : ai_env X B) (hL : B.2.1 ≤ 3072) (hi : i + 6 ≤ B.2.1) (kk : ∀ h, la_J h → rv l X Y B 64 fw_law 1409 (lw_l i) [] h lw_K) {h : fx_H} (hJ : la_J h) : rv l X Y B 64 fw_law 1363 (lw_l i) [] h lw_K := by
  have hu := hu_law
  refine v_ld he hu rfl rfl rfl rfl rfl ?_
  refine v_ld he hu rfl rfl rfl rfl rfl ?_
  refine v_ld he hu rfl rfl rfl rfl rfl ?_
  refine v_c he hu rfl rfl rfl rfl ?_
  refine v_bin hu rfl rfl (fun q => by omega) ?_
  rw [rop_add (by omega)]
  refine v_sld he hu rfl rfl (by omega) ?_
  refine v_callX he hu hJ.1.1 rfl rfl rfl rfl (px_back he hJ (rx_n_lt _)) (fun v h1 q => ?_)
  obtain ⟨⟨x1, rfl⟩, hJ1⟩ := q
  refine v_pop he hu rfl rfl rfl ?_
  refine v_ld he hu rfl rfl rfl rfl rfl ?_
  refine v_ld he hu rfl rfl rfl rfl rfl ?_
  refine v_ld he hu rfl rfl rfl rfl rfl ?_
  refine v_c he hu rfl rfl rfl rfl ?_
  refine v_bin hu rfl rfl (fun q => by omega) ?_
  rw [rop_add (by omega)]
  refine v_sld he hu rfl rfl (by omega) ?_
  refine v_callM he hu hJ1.1.1 rfl rfl rfl rfl (pm_back he hJ1 (rx_n_lt _)) (fun v h2 q => ?_)
  obtain ⟨⟨x2, rfl⟩, hJ2⟩ := q
  refine v_pop he hu rfl rfl rfl ?_
  refine v_go he hu rfl ne_law ?_
  exact kk _ hJ2
set_option maxRecDepth 100000 in
theorem lc_about (he : ai_env X B) (hL : B.2.1 ≤ 3072) (hi : i + 6 ≤ B.2.1) (kk : ∀ h, la_J h → rv l X Y B 64 fw_law 1409 (lw_l i) [] h lw_K) {h : fx_H} (hJ : la_J h) : rv l X Y B 64 fw_law 1386 (lw_l i) [] h lw_K := by
  have hu := hu_law
  refine v_ld he hu rfl rfl rfl rfl rfl ?_
  refine v_ld he hu rfl rfl rfl rfl rfl ?_
  refine v_ld he hu rfl rfl rfl rfl rfl ?_
  refine v_c he hu rfl rfl rfl rfl ?_
  refine v_bin hu rfl rfl (fun q => by omega) ?_
  rw [rop_add (by omega)]
  refine v_sld he hu rfl rfl (by omega) ?_
  refine v_callX he hu hJ.1.1 rfl rfl rfl rfl (px_about he hJ (rx_n_lt _)) (fun v h1 q => ?_)
  obtain ⟨⟨x1, rfl⟩, hJ1⟩ := q
  refine v_pop he hu rfl rfl rfl ?_
  refine v_ld he hu rfl rfl rfl rfl rfl ?_
  refine v_ld he hu rfl rfl rfl rfl rfl ?_
  refine v_ld he hu rfl rfl rfl rfl rfl ?_
  refine v_c he hu rfl rfl rfl rfl ?_
  refine v_bin hu rfl rfl (fun q => by omega) ?_
  rw [rop_add (by omega)]
  refine v_sld he hu rfl rfl (by omega) ?_
  refine v_callM he hu hJ1.1.1 rfl rfl rfl rfl (pm_about he hJ1 (rx_n_lt _)) (fun v h2 q => ?_)
  obtain ⟨⟨x2, rfl⟩, hJ2⟩ := q
  refine v_pop he hu rfl rfl rfl ?_
  refine v_go he hu rfl ne_law ?_
  exact kk _ hJ2
end LC
