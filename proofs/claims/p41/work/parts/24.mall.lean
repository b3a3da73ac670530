theorem fx_mt_lt {c : Nat} {M : fx_M} (h : fx_mt c = some M) : c < 304 := by
  rcases Nat.lt_or_ge c 304 with q | q
  · exact q
  · exfalso
    unfold fx_mt at h
    rw [fx_nth_eq] at h
    have h1 : fx_mtl.length = 19 := rfl
    have h2 : fx_mtl[c / 16]? = none := List.getElem?_eq_none (by
      rw [h1]
      show 19 ≤ c / 16
      omega)
    rw [h2] at h
    cases h
theorem fx_mall_ok : fx_mall fx_mst fx_mt := by
  intro c M hm
  have hc := fx_mt_lt hm
  have key : fx_mokB c = true := by
    rcases (by omega : c / 16 = 0 ∨ c / 16 = 1 ∨ c / 16 = 2 ∨ c / 16 = 3 ∨ c / 16 = 4 ∨ c / 16 = 5 ∨ c / 16 = 6 ∨ c / 16 = 7 ∨ c / 16 = 8 ∨ c / 16 = 9 ∨ c / 16 = 10 ∨ c / 16 = 11 ∨ c / 16 = 12 ∨ c / 16 = 13 ∨ c / 16 = 14 ∨ c / 16 = 15 ∨ c / 16 = 16 ∨ c / 16 = 17 ∨ c / 16 = 18) with q | q | q | q | q | q | q | q | q | q | q | q | q | q | q | q | q | q | q
    · have := fx_ck0 (c - 0) (by omega)
      rwa [show 0 + (c - 0) = c by omega] at this
    · have := fx_ck1 (c - 16) (by omega)
      rwa [show 16 + (c - 16) = c by omega] at this
    · have := fx_ck2 (c - 32) (by omega)
      rwa [show 32 + (c - 32) = c by omega] at this
    · have := fx_ck3 (c - 48) (by omega)
      rwa [show 48 + (c - 48) = c by omega] at this
    · have := fx_ck4 (c - 64) (by omega)
      rwa [show 64 + (c - 64) = c by omega] at this
    · have := fx_ck5 (c - 80) (by omega)
      rwa [show 80 + (c - 80) = c by omega] at this
    · have := fx_ck6 (c - 96) (by omega)
      rwa [show 96 + (c - 96) = c by omega] at this
    · have := fx_ck7 (c - 112) (by omega)
      rwa [show 112 + (c - 112) = c by omega] at this
    · have := fx_ck8 (c - 128) (by omega)
      rwa [show 128 + (c - 128) = c by omega] at this
    · have := fx_ck9 (c - 144) (by omega)
      rwa [show 144 + (c - 144) = c by omega] at this
    · have := fx_ck10 (c - 160) (by omega)
      rwa [show 160 + (c - 160) = c by omega] at this
    · have := fx_ck11 (c - 176) (by omega)
      rwa [show 176 + (c - 176) = c by omega] at this
    · have := fx_ck12 (c - 192) (by omega)
      rwa [show 192 + (c - 192) = c by omega] at this
    · have := fx_ck13 (c - 208) (by omega)
      rwa [show 208 + (c - 208) = c by omega] at this
    · have := fx_ck14 (c - 224) (by omega)
      rwa [show 224 + (c - 224) = c by omega] at this
    · have := fx_ck15 (c - 240) (by omega)
      rwa [show 240 + (c - 240) = c by omega] at this
    · have := fx_ck16 (c - 256) (by omega)
      rwa [show 256 + (c - 256) = c by omega] at this
    · have := fx_ck17 (c - 272) (by omega)
      rwa [show 272 + (c - 272) = c by omega] at this
    · have := fx_ck18 (c - 288) (by omega)
      rwa [show 288 + (c - 288) = c by omega] at this
  exact fx_mokB_ok key hm
set_option maxRecDepth 100000 in
theorem fx_wd_b : (fx_wq 262 (Cond.arrayClass (fx_ty 0)) && (fx_wq 233 (Cond.arrayClass (fx_ty 1)) && (fx_wq 497 (Cond.arrayClass (fx_ty 2)) && fx_wq 234 (Cond.arrayClass (fx_ty 3))))) = true ∧ (fx_wq 135 (Cond.instanceMethod Lib.objectInit) && fx_wq 136 (Cond.code Lib.objectInit ⟨#[0xb1]⟩ 1 none)) = true ∧ (fx_wq 547 (Cond.native arraycopyName) && (fx_wq 546 (Cond.static arraycopyName) && fx_wq 125 (Cond.initialized "java/lang/System"))) = true ∧ (fx_wq 485 (Cond.static Lib.Math.max.name) && (fx_wq 486 (Cond.code Lib.Math.max.name Lib.Math.max.code 2 (some .int)) && (fx_wq 662 (Cond.static Lib.Math.min.name) && (fx_wq 663 (Cond.code Lib.Math.min.name Lib.Math.min.code 2 (some .int)) && fx_wq 123 (Cond.initialized "java/lang/Math"))))) = true := by decide +kernel
theorem fx_wd_ok : fx_wd := by
  obtain ⟨h1, h2, h3, h4⟩ := fx_wd_b
  obtain ⟨a0, h1⟩ := fx_and h1
  obtain ⟨a1, h1⟩ := fx_and h1
  obtain ⟨a2, a3⟩ := fx_and h1
  obtain ⟨b0, b1⟩ := fx_and h2
  obtain ⟨c0, h3⟩ := fx_and h3
  obtain ⟨c1, c2⟩ := fx_and h3
  obtain ⟨d0, h4⟩ := fx_and h4
  obtain ⟨d1, h4⟩ := fx_and h4
  obtain ⟨d2, h4⟩ := fx_and h4
  obtain ⟨d3, d4⟩ := fx_and h4
  refine ⟨fun t ht => ?_, ⟨fx_wq_ok b0, fx_wq_ok b1⟩, ⟨fx_wq_ok c0, fx_wq_ok c1, fx_wq_ok c2⟩, ⟨fx_wq_ok d0, fx_wq_ok d1⟩, ⟨fx_wq_ok d2, fx_wq_ok d3⟩, fx_wq_ok d4⟩
  rcases (by omega : t = 0 ∨ t = 1 ∨ t = 2 ∨ t = 3) with rfl | rfl | rfl | rfl
  · exact fx_wq_ok a0
  · exact fx_wq_ok a1
  · exact fx_wq_ok a2
  · exact fx_wq_ok a3
