section FXT
variable {p : Program} {e : Env} {s : State} {m : MethodId} {below : List Frame} {meth : Method} {c : Code} {l : Launch} {b L : Nat} {xs : Nat → Int32} {X : fx_X} {Y : fx_Y} {B : fx_B}
theorem fx_j7 {n k : Nat} (hn : n < 64) (h : X.1 7 = Int32.ofNat n) : n + 2147483648 ≤ fx_z (X.1 7) ∧ fx_z (X.1 7) ≤ n + 2147483648 := by
  rw [h, fx_z_of, fx_bsm (by omega)]
  exact ⟨Nat.le_refl _, Nat.le_refl _⟩
theorem fx_rj30 {a b : Nat} (h3 : a ≤ fx_z (X.1 3) ∧ fx_z (X.1 3) ≤ b) (h7 : 2147483678 ≤ fx_z (X.1 7) ∧ fx_z (X.1 7) ≤ 2147483678) (h8 : 2147483654 ≤ fx_z (X.1 8) ∧ fx_z (X.1 8) ≤ 2147483654) : fx_rj X (fx_j30 a b) := by
  have hf : ∀ i, (0 : Nat) ≤ fx_z (X.1 i) ∧ fx_z (X.1 i) ≤ 4294967295 := fun i => ⟨Nat.zero_le _, Nat.le_of_lt_succ (fx_z_max _)⟩
  intro i q hq
  rcases i with _ | _ | _ | _ | _ | _ | _ | _ | _ | i
  · cases hq; exact hf _
  · cases hq; exact hf _
  · cases hq; exact hf _
  · cases hq; exact h3
  · cases hq; exact hf _
  · cases hq; exact hf _
  · cases hq; exact hf _
  · cases hq; exact h7
  · cases hq; exact h8
  · simp [fx_j30] at hq
/-- from the loop's head: the call is made, the law ends -/
theorem fx_stage (C0 : lw_At p s m meth c b L xs) (hXX : fx_xx X B) (hcx : fx_cx X Y B s) (hbase : X.2.1 = s.heap.size) (hBL : B.2.1 = L) {j0 : fx_J} {H : Heap} {locs : List Loc} {ls : Array Slot} (hs : fx_st X Y 4 fx_l0 [] fx_g0 j0 H locs ls []) {ce sl : Nat} (hce : ce ≤ 1000) (hsl : sl ≤ 100000) : W p l e room_1 s m #[Value.ref b] below meth c H locs ce sl (lw_Z below #[Value.ref b] s) (F0 m 18 ls []) := by
  obtain ⟨hxo, h7, hxs, h8, hL6, -⟩ := id hXX
  have hz8 : fx_z (X.1 8) = B.2.1 + 2147483648 := by rw [h8, fx_z_of, fx_bsm (by omega)]
  have hmax := fx_z_max (X.1 7)
  by_cases hl : B.2.1 = 6
  · have h8' : 2147483654 ≤ fx_z (X.1 8) ∧ fx_z (X.1 8) ≤ 2147483654 := by omega
    obtain ⟨n, hn, he⟩ := fx_and63 (X.1 1)
    have h7n : X.1 7 = Int32.ofNat n := by rw [h7, he]
    have hz7 : fx_z (X.1 7) = n + 2147483648 := by rw [h7n, fx_z_of, fx_bsm (by omega)]
    have h0 : fx_sum l X Y B fx_mst (fx_ev fx_s0z (fun _ _ _ => false)) := fx_sum0
    have h1 : fx_sum l X Y B fx_mst (fx_ev (fx_tab fx_qs) (fun _ _ _ => false)) := fx_sum_tab hXX fx_qs_ok
    by_cases h45 : 45 ≤ n
    · exact fx_stage2 C0 hXX hcx hbase h0 fx_lw_45 fx_run_45 rfl (fx_rj9 (q7 := (2147483693, 2147483711)) (q8 := (2147483654, 2147483654)) ⟨by omega, by omega⟩ h8') hs hce hsl
    · have hj : ∀ k, n = k → fx_rj X (fx_jo (k + 2147483648) (k + 2147483648)) := fun k q => fx_rj9 (q7 := (k + 2147483648, k + 2147483648)) (q8 := (2147483654, 2147483654)) ⟨by omega, by omega⟩ h8'
      by_cases h22 : n < 22
      · by_cases h11 : n < 11
        · by_cases h5 : n < 5
          · by_cases h2 : n < 2
            · by_cases h1 : n < 1
              · exact fx_stage2 C0 hXX hcx hbase h0 fx_lw_0 fx_run_0 rfl (hj 0 (by omega)) hs hce hsl
              · exact fx_stage2 C0 hXX hcx hbase h0 fx_lw_1 fx_run_1 rfl (hj 1 (by omega)) hs hce hsl
            · by_cases h3 : n < 3
              · exact fx_stage2 C0 hXX hcx hbase h0 fx_lw_2 fx_run_2 rfl (hj 2 (by omega)) hs hce hsl
              · by_cases h4 : n < 4
                · exact fx_stage2 C0 hXX hcx hbase h0 fx_lw_3 fx_run_3 rfl (hj 3 (by omega)) hs hce hsl
                · exact fx_stage2 C0 hXX hcx hbase h0 fx_lw_4 fx_run_4 rfl (hj 4 (by omega)) hs hce hsl
          · by_cases h8 : n < 8
            · by_cases h6 : n < 6
              · exact fx_stage2 C0 hXX hcx hbase h0 fx_lw_5 fx_run_5 rfl (hj 5 (by omega)) hs hce hsl
              · by_cases h7 : n < 7
                · exact fx_stage2 C0 hXX hcx hbase h0 fx_lw_6 fx_run_6 rfl (hj 6 (by omega)) hs hce hsl
                · exact fx_stage2 C0 hXX hcx hbase h0 fx_lw_7 fx_run_7 rfl (hj 7 (by omega)) hs hce hsl
            · by_cases h9 : n < 9
              · exact fx_stage2 C0 hXX hcx hbase h0 fx_lw_8 fx_run_8 rfl (hj 8 (by omega)) hs hce hsl
              · by_cases h10 : n < 10
                · exact fx_stage2 C0 hXX hcx hbase h0 fx_lw_9 fx_run_9 rfl (hj 9 (by omega)) hs hce hsl
                · exact fx_stage2 C0 hXX hcx hbase h0 fx_lw_10 fx_run_10 rfl (hj 10 (by omega)) hs hce hsl
        · by_cases h16 : n < 16
          · by_cases h13 : n < 13
            · by_cases h12 : n < 12
              · exact fx_stage2 C0 hXX hcx hbase h0 fx_lw_11 fx_run_11 rfl (hj 11 (by omega)) hs hce hsl
              · exact fx_stage2 C0 hXX hcx hbase h0 fx_lw_12 fx_run_12 rfl (hj 12 (by omega)) hs hce hsl
            · by_cases h14 : n < 14
              · exact fx_stage2 C0 hXX hcx hbase h0 fx_lw_13 fx_run_13 rfl (hj 13 (by omega)) hs hce hsl
              · by_cases h15 : n < 15
                · exact fx_stage2 C0 hXX hcx hbase h0 fx_lw_14 fx_run_14 rfl (hj 14 (by omega)) hs hce hsl
                · exact fx_stage2 C0 hXX hcx hbase h0 fx_lw_15 fx_run_15 rfl (hj 15 (by omega)) hs hce hsl
          · by_cases h19 : n < 19
            · by_cases h17 : n < 17
              · exact fx_stage2 C0 hXX hcx hbase h0 fx_lw_16 fx_run_16 rfl (hj 16 (by omega)) hs hce hsl
              · by_cases h18 : n < 18
                · exact fx_stage2 C0 hXX hcx hbase h0 fx_lw_17 fx_run_17 rfl (hj 17 (by omega)) hs hce hsl
                · exact fx_stage2 C0 hXX hcx hbase h0 fx_lw_18 fx_run_18 rfl (hj 18 (by omega)) hs hce hsl
            · by_cases h20 : n < 20
              · exact fx_stage2 C0 hXX hcx hbase h0 fx_lw_19 fx_run_19 rfl (hj 19 (by omega)) hs hce hsl
              · by_cases h21 : n < 21
                · exact fx_stage2 C0 hXX hcx hbase h0 fx_lw_20 fx_run_20 rfl (hj 20 (by omega)) hs hce hsl
                · exact fx_stage2 C0 hXX hcx hbase h0 fx_lw_21 fx_run_21 rfl (hj 21 (by omega)) hs hce hsl
      · by_cases h33 : n < 33
        · by_cases h27 : n < 27
          · by_cases h24 : n < 24
            · by_cases h23 : n < 23
              · exact fx_stage2 C0 hXX hcx hbase h0 fx_lw_22 fx_run_22 rfl (hj 22 (by omega)) hs hce hsl
              · exact fx_stage2 C0 hXX hcx hbase h0 fx_lw_23 fx_run_23 rfl (hj 23 (by omega)) hs hce hsl
            · by_cases h25 : n < 25
              · exact fx_stage2 C0 hXX hcx hbase h0 fx_lw_24 fx_run_24 rfl (hj 24 (by omega)) hs hce hsl
              · by_cases h26 : n < 26
                · exact fx_stage2 C0 hXX hcx hbase h1 fx_lw_25 fx_run_25 rfl (hj 25 (by omega)) hs hce hsl
                · exact fx_stage2 C0 hXX hcx hbase h0 fx_lw_26 fx_run_26 rfl (hj 26 (by omega)) hs hce hsl
          · by_cases h30 : n < 30
            · by_cases h28 : n < 28
              · exact fx_stage2 C0 hXX hcx hbase h1 fx_lw_27 fx_run_27 rfl (hj 27 (by omega)) hs hce hsl
              · by_cases h29 : n < 29
                · exact fx_stage2 C0 hXX hcx hbase h0 fx_lw_28 fx_run_28 rfl (hj 28 (by omega)) hs hce hsl
                · exact fx_stage2 C0 hXX hcx hbase h0 fx_lw_29 fx_run_29 rfl (hj 29 (by omega)) hs hce hsl
            · by_cases h31 : n < 31
              · have h2 : fx_sum l X Y B fx_mst (fx_ev (fx_tab fx_qt) (fun _ _ _ => false)) := fx_sum_tab hXX fx_qt_ok
                by_cases h3 : fx_z (X.1 3) ≤ 2147483648
                · exact fx_stage2 C0 hXX hcx hbase h2 fx_lw_30 fx_run_30a rfl (fx_rj30 ⟨Nat.zero_le _, h3⟩ ⟨by omega, by omega⟩ h8') hs hce hsl
                · exact fx_stage2 C0 hXX hcx hbase h2 fx_lw_30 fx_run_30b rfl (fx_rj30 ⟨by omega, Nat.le_of_lt_succ (fx_z_max _)⟩ ⟨by omega, by omega⟩ h8') hs hce hsl
              · by_cases h32 : n < 32
                · exact fx_stage2 C0 hXX hcx hbase h1 fx_lw_31 fx_run_31 rfl (hj 31 (by omega)) hs hce hsl
                · exact fx_stage2 C0 hXX hcx hbase h1 fx_lw_32 fx_run_32 rfl (hj 32 (by omega)) hs hce hsl
        · by_cases h39 : n < 39
          · by_cases h36 : n < 36
            · by_cases h34 : n < 34
              · exact fx_stage2 C0 hXX hcx hbase h0 fx_lw_33 fx_run_33 rfl (hj 33 (by omega)) hs hce hsl
              · by_cases h35 : n < 35
                · exact fx_stage2 C0 hXX hcx hbase h0 fx_lw_34 fx_run_34 rfl (hj 34 (by omega)) hs hce hsl
                · exact fx_stage2 C0 hXX hcx hbase h0 fx_lw_35 fx_run_35 rfl (hj 35 (by omega)) hs hce hsl
            · by_cases h37 : n < 37
              · exact fx_stage2 C0 hXX hcx hbase h0 fx_lw_36 fx_run_36 rfl (hj 36 (by omega)) hs hce hsl
              · by_cases h38 : n < 38
                · exact fx_stage2 C0 hXX hcx hbase h0 fx_lw_37 fx_run_37 rfl (hj 37 (by omega)) hs hce hsl
                · exact fx_stage2 C0 hXX hcx hbase h0 fx_lw_38 fx_run_38 rfl (hj 38 (by omega)) hs hce hsl
          · by_cases h42 : n < 42
            · by_cases h40 : n < 40
              · exact fx_stage2 C0 hXX hcx hbase h0 fx_lw_39 fx_run_39 rfl (hj 39 (by omega)) hs hce hsl
              · by_cases h41 : n < 41
                · exact fx_stage2 C0 hXX hcx hbase h0 fx_lw_40 fx_run_40 rfl (hj 40 (by omega)) hs hce hsl
                · exact fx_stage2 C0 hXX hcx hbase h1 fx_lw_41 fx_run_41 rfl (hj 41 (by omega)) hs hce hsl
            · by_cases h43 : n < 43
              · exact fx_stage2 C0 hXX hcx hbase h0 fx_lw_42 fx_run_42 rfl (hj 42 (by omega)) hs hce hsl
              · by_cases h44 : n < 44
                · exact fx_stage2 C0 hXX hcx hbase h0 fx_lw_43 fx_run_43 rfl (hj 43 (by omega)) hs hce hsl
                · exact fx_stage2 C0 hXX hcx hbase h0 fx_lw_44 fx_run_44 rfl (hj 44 (by omega)) hs hce hsl
  · exact fx_stage2 C0 hXX hcx hbase fx_sum0 fx_law_short fx_run_short rfl (fx_rj9 (q7 := (0, 4294967295)) (q8 := (2147483648, 2147483653)) ⟨by omega, by omega⟩ ⟨by omega, by omega⟩) hs hce hsl
end FXT
/-- YOUR PART: from the entry, for every script of at most 6 ints, the law comes to its end with true -/
theorem whole_start {p : Program} {e : Env} {s : State} {m : MethodId} {below : List Frame} {meth : Method} {c : Code} (l : Launch) (hflags : l.flags = flags0) {b L : Nat} {xs : Nat → Int32} (hL : L ≤ 6) (C0 : lw_At p s m meth c b L xs) : W p l e room_1 s m #[Value.ref b] below meth c s.heap [] 0 0 (lw_Z below #[Value.ref b] s) (entryFrame m ([Value.ref b] : List Value).toArray 4) := by
  obtain ⟨hx, hb, hr, hml, hown, hts, hX, hbl, hlocks, hgv⟩ := id C0
  obtain ⟨X, Y, B, hXX, hcx, hbase, hG, hBb, hBL⟩ := fx_enter hts hX hbl hL hgv
  obtain ⟨hxo, h7, hxs, h8, hL6, hb0, -⟩ := id hXX
  have hl := lv_entry ([Value.ref b]) (n := 4) (Nat.le_of_ble_eq_true rfl)
  rw [lg_entry_eq]
  generalize (lg_sl ([Value.ref b]) ++ List.replicate (4 - (lg_sl ([Value.ref b])).length) Slot.unset).toArray = ls at hl ⊢
  have hcd := fx_codB_ok fx_law_new
  have hw : ∀ pc kd a b' d, (pc, kd, a, b', d) ∈ fw_new → kd ≠ 28 → decode code pc = .ok (fx_ins pc kd a b' d) ∧ fx_an fx_mst fx_mt (fx_cn 17) false (some .boolean) 4 kd a b' d := by
    intro pc kd a b' d hin hne
    refine (hcd pc kd a b' d (List.mem_filter.mpr ⟨hin, ?_⟩)).2
    show (!Nat.beq kd 28) = true
    cases hq : Nat.beq kd 28 with
    | true => exact absurd (fx_beq hq) hne
    | false => rfl
  have hrj : fx_rj X fx_jf := fx_rj9 (q7 := (0, 4294967295)) (q8 := (0, 4294967295)) ⟨Nat.zero_le _, Nat.le_of_lt_succ (fx_z_max _)⟩ ⟨Nat.zero_le _, Nat.le_of_lt_succ (fx_z_max _)⟩
  have hrh : fx_rh X Y (0, []) s.heap := ⟨by rw [hbase]; rfl, fun k x hk => by rw [fx_hget_eq] at hk; simp at hk, fun q _ => by rw [hG]⟩
  exact (fx_go_ok (E := fx_ev fx_s0z fx_kc1) hXX fx_mall_ok fx_sum0 rfl rfl fx_wd_ok 20000).2 20 fw_new fw_new [(0, fr 1000000)] [] 0 0 1000 100000 (0, []) fx_jf (fun _ _ _ => false) fx_run_new p e room_1 s m #[Value.ref b] below meth c (lw_Z below #[Value.ref b] s) code 4 R_law false (some .boolean) (fx_lawfs C0 hcx hbase hw) ⟨Nat.le_of_ble_eq_true rfl, Nat.le_of_ble_eq_true rfl, Nat.le_of_ble_eq_true rfl, Nat.le_of_ble_eq_true rfl⟩ (fun _ h => h) (fun v w h j H locs ce sl pc ls hk => by cases hk) (fun q hq h28 loc h j H locs ls ce sl hk hst hce hsl => by
    have hq18 : q.1 = 18 := by
      have key : ∀ q ∈ fw_new, Nat.beq q.2.1 28 = true → Nat.beq q.1 18 = true := by decide +kernel
      exact fx_beq (key q hq (by rw [h28]; rfl))
    rw [hq18]
    obtain ⟨k1, k2⟩ := fx_and hk
    have k1 := fx_lq_ok fx_nq_ok k1
    have k2 := fx_hq_ok k2
    subst k1; subst k2
    exact fx_stage C0 hXX hcx hbase hBL hst hce hsl) s.heap [] ls [] ⟨⟨_, hl, ⟨⟨rfl, by show Value.ref b = fx_ad X 1000000; rw [hb0, hBb]⟩, trivial⟩⟩, trivial, hrh, hrj, fun q hq => by cases hq⟩ (Nat.zero_le _) (Nat.zero_le _)
