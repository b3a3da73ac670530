theorem fx_tbs {b : Nat} {s : State} (hts : ∀ w ∈ lw_tbl, w.before #[Value.ref b] s = true) : ∀ w ∈ fx_tb, w.before #[Value.ref b] s = true := fun w hw => hts w (List.mem_filter.mp hw).1
theorem fx_txt_map (j : Nat) : (fx_txt.map Int32.ofNat).getD j 0 = Int32.ofNat (fx_txt.getD j 0) := by
  rw [List.getD_eq_getElem?_getD, List.getD_eq_getElem?_getD, List.getElem?_map]
  cases fx_txt[j]? <;> rfl
/-- what the law's start gives -/
theorem fx_enter {s : State} {b L : Nat} {xs : Nat → Int32} (hts : ∀ w ∈ lw_tbl, w.before #[Value.ref b] s = true) (hX : va_X b L xs s s.heap) (hbl : b < s.heap.size) (hL : L ≤ 6) (hgv : (Jvm.Cond.and given_1 narrow_1).before #[Value.ref b] s = true) : ∃ (X : fx_X) (Y : fx_Y) (B : fx_B), fx_xx X B ∧ fx_cx X Y B s ∧ X.2.1 = s.heap.size ∧ Y.2.2.1 = s.heap ∧ B.1 = b ∧ B.2.1 = L := by
  have hs := flat_of_before _ hgv
  have htb := fx_tbs hts
  have hno : ∀ q : Nat, q < s.heap.size → ¬ (fun q : Nat => s.heap.size ≤ q) q := fun q h1 h2 => Nat.not_le.mpr h1 h2
  have hK : ∀ ci : Nat, ∃ q : ClassId × (Nat → Nat), ∀ r : vw_C, fx_cl[ci]? = some r → u_Kn s r.1 r.2.1 r.2.2 q.1 q.2 := by
    intro ci
    cases hc : fx_cl[ci]? with
    | none => exact ⟨(0, fun _ => 0), fun r hr => by cases hr⟩
    | some r =>
      obtain ⟨C, T, N⟩ := r
      obtain ⟨fs, -, hu, -, -, hins, -⟩ := fx_clok hc
      obtain ⟨cC, iS, h⟩ := u_known (n := N) htb hu (htb _ hins)
      exact ⟨(cC, iS), fun r hr => by cases hr; exact h⟩
  obtain ⟨D, hD⟩ := Classical.axiomOfChoice hK
  have hA : ∀ t : Nat, ∃ cA : ClassId, t < 4 → ArrOfT s cA (fx_ty t) ∧ s.vm.findClass ("[" ++ (fx_ty t).toString) = some cA := by
    intro t
    by_cases ht : t < 4
    · obtain ⟨cA, kA, comp, h1, h2, h3⟩ := Cond.arrayClass_spec (htb _ (fx_wd_ok.1 t ht))
      exact ⟨cA, fun _ => ⟨fun n z => ⟨fun k h => (by cases h), kA, h2, comp, h3⟩, h1⟩⟩
    · exact ⟨0, fun h => absurd h ht⟩
  obtain ⟨cy, hcy⟩ := Classical.axiomOfChoice hA
  obtain ⟨n1, n2, n3, n4, n5, n6⟩ := fx_nar_in
  obtain ⟨adK, adV, hS, hev⟩ := vk_Sof (args := #[Value.ref b]) (s := s) (N := 1) (tm := fun _ => fx_tm) (len := [123]) (byt := [fx_txt.map Int32.ofNat]) (A := fun q => s.heap.size ≤ q)
    (fun i hi => by obtain rfl : i = 0 := by omega
                    decide) (fun i hi => hs _ n1) (fun i hi => hs _ n2) (fun i hi => hs _ n3)
    (fun i hi => by obtain rfl : i = 0 := by omega
                    exact hs _ n4)
    (fun i hi j hj => by
      obtain rfl : i = 0 := by omega
      have h1 := hs _ (fx_nar_el j hj)
      show (Cond.eq (.elem fx_tv (.int (Int32.ofNat j))) (.int ((fx_txt.map Int32.ofNat).getD j 0))).before _ s = true
      rw [fx_txt_map]
      exact h1) (fun i j hi hj hij => absurd (by omega : i = j) hij) hno
  obtain ⟨k1, k2, k3, k4⟩ := hS.1 0 (by decide)
  have k4 : va_T .byte (adV 0) 123 (fun j => .int (Int32.ofNat (fx_txt.getD j 0))) (fun q => s.heap.size ≤ q) s s.heap := by
    have e : (fun j : Nat => Value.int (Int32.ofNat (fx_txt.getD j 0))) = (fun j : Nat => Value.int ((fx_txt.map Int32.ofNat).getD j 0)) := by
      funext j
      rw [fx_txt_map]
    rw [e]
    exact k4
  obtain ⟨s1, s2, s3, s4⟩ := fx_sts_in
  have hz1 := va_Zof (A := fun q => s.heap.size ≤ q) (hts _ s1) (hts _ s2) (va_eqi (hs _ n5)) hno
  have hz2 := va_Zqof (A := fun q => s.heap.size ≤ q) (hts _ s3) (hts _ s4) (hs _ n6) hno
  obtain ⟨v3, hv3, hz3⟩ : ∃ v3 : Value, (v3 = .null ∨ ∃ t, v3 = .ref t) ∧ va_Z "jdk/internal/util/Preconditions" "SIOOBE_FORMATTER" "Ljava/util/function/BiFunction;" v3 (fun q => s.heap.size ≤ q) s s.heap := by
    rcases hz2 with h | ⟨t, h⟩
    · exact ⟨_, Or.inl rfl, h⟩
    · exact ⟨_, Or.inr ⟨t, rfl⟩, h⟩
  refine ⟨(fun i => if i = 7 then xs 0 &&& 63 else if i = 8 then Int32.ofNat L else xs (i - 1), s.heap.size, fun k => if k = 0 then .ref b else if k = 1 then .ref (adK 0) else if k = 2 then .ref (adV 0) else if k = 3 then v3 else .null), ((fun ci => (D ci).1, fun ci => (D ci).2), cy, s.heap, s.heap), (b, L, xs, adK 0, adV 0), ?_, ?_, rfl, rfl, rfl, rfl⟩
  · refine ⟨fun k => ?_, rfl, fun n hn => ?_, rfl, hL, rfl, rfl, rfl, hbl⟩
    · unfold fx_ad
      by_cases hk : k < 1000000
      · rw [if_pos hk]
        exact ⟨rfl, Or.inr ⟨_, rfl⟩⟩
      · rw [if_neg hk]
        simp only
        split
        · exact ⟨rfl, Or.inr ⟨_, rfl⟩⟩
        · split
          · exact ⟨rfl, Or.inr ⟨_, rfl⟩⟩
          · split
            · exact ⟨rfl, Or.inr ⟨_, rfl⟩⟩
            · split
              · rcases hv3 with rfl | ⟨t, rfl⟩
                · exact ⟨rfl, Or.inl rfl⟩
                · exact ⟨rfl, Or.inr ⟨_, rfl⟩⟩
              · exact ⟨rfl, Or.inl rfl⟩
    · show (if n + 1 = 7 then _ else if n + 1 = 8 then _ else xs (n + 1 - 1)) = xs n
      rw [if_neg (by omega), if_neg (by omega)]
      rfl
  · exact ⟨fun ci q hq => hD ci q hq, fun t ht => hcy t ht, fun q hq => va_Nw.of rfl (hts _ (fx_nst_in q hq)), vk_R.of (hts _ fx_str_in) (hev 0 (by decide)), hz1, hz3, k1, k3, k2, k4, hX⟩
/-- no int but those below 64 -/
theorem fx_and63 (x : Int32) : ∃ n, n < 64 ∧ x &&& 63 = Int32.ofNat n := by
  refine ⟨(x &&& 63).toBitVec.toNat, ?_, ?_⟩
  · rw [Int32.toBitVec_and]
    show (x.toBitVec.toNat &&& 63) < 64
    exact Nat.lt_succ_of_le Nat.and_le_right
  · apply Int32.toBitVec_inj.1
    rw [Int32.toBitVec_ofNat']
    apply BitVec.eq_of_toNat_eq
    rw [BitVec.toNat_ofNat]
    exact (Nat.mod_eq_of_lt (x &&& 63).toBitVec.isLt).symm
theorem fx_bsm {n : Nat} (h : n < 2147483648) : fx_b n = n + 2147483648 := by
  show (n + 2147483648) % 4294967296 = _
  omega
/-- intervals: whatever the script is; its length and what is called told -/
theorem fx_rj9 {X : fx_X} {q7 q8 : Nat × Nat} (h7 : q7.1 ≤ fx_z (X.1 7) ∧ fx_z (X.1 7) ≤ q7.2) (h8 : q8.1 ≤ fx_z (X.1 8) ∧ fx_z (X.1 8) ≤ q8.2) : fx_rj X [(0, 4294967295), (0, 4294967295), (0, 4294967295), (0, 4294967295), (0, 4294967295), (0, 4294967295), (0, 4294967295), q7, q8] := by
  have hf : ∀ i, (0 : Nat) ≤ fx_z (X.1 i) ∧ fx_z (X.1 i) ≤ 4294967295 := fun i => ⟨Nat.zero_le _, Nat.le_of_lt_succ (fx_z_max _)⟩
  intro i q hq
  rcases i with _ | _ | _ | _ | _ | _ | _ | _ | _ | i
  · cases hq; exact hf _
  · cases hq; exact hf _
  · cases hq; exact hf _
  · cases hq; exact hf _
  · cases hq; exact hf _
  · cases hq; exact hf _
  · cases hq; exact hf _
  · cases hq; exact h7
  · cases hq; exact h8
  · simp at hq
section FXS
variable {p : Program} {e : Env} {s : State} {m : MethodId} {below : List Frame} {meth : Method} {c : Code} {l : Launch} {b L : Nat} {xs : Nat → Int32} {X : fx_X} {Y : fx_Y} {B : fx_B}
theorem fx_lawfs {w : List fx_I} (C0 : lw_At p s m meth c b L xs) (hcx : fx_cx X Y B s) (hbase : X.2.1 = s.heap.size) (hw : ∀ pc kd a b' d, (pc, kd, a, b', d) ∈ w → kd ≠ 28 → decode code pc = .ok (fx_ins pc kd a b' d) ∧ fx_an fx_mst fx_mt (fx_cn 17) false (some .boolean) 4 kd a b' d) : fx_fs X Y B fx_mst fx_mt p s m #[Value.ref b] meth c code 4 R_law false (some .boolean) w := by
  obtain ⟨hx, hb, hr, hml, hown, hts, hX, hbl, hlocks, hgv⟩ := C0
  exact ⟨hx, hb, hml, hown, fx_tbs hts, hlocks, (fun q => by cases q), hr, hcx, (by rw [hbase]; exact Nat.le_refl _), hw⟩
theorem fx_lawrt (C0 : lw_At p s m meth c b L xs) (hbase : X.2.1 = s.heap.size) {mc ms : Nat} (hmc : mc ≤ 600000) (hms : ms ≤ 7302250) : fx_rt l X Y p e room_1 s m #[Value.ref b] below meth c (lw_Z below #[Value.ref b] s) code (some .boolean) mc ms (fun v _ _ => fx_kt1 v) := by
  obtain ⟨hx, hb, hr, hml, hown, hts, hX, hbl, hlocks, hgv⟩ := C0
  intro v w h j H locs ce sl pc ls hk hro hrh hrj hls hce hsl hrets
  rcases v with _ | v
  · cases hk
  rcases v with n | n | n | n
  · have hn := fx_beq (show Nat.beq n 1 = true from hk)
    subst hn
    rcases w with _ | w
    · exact False.elim hro
    have hw : w = .int (Int32.ofNat 1) := hro
    subst hw
    rcases hrets with ⟨q, -⟩ | ⟨z, ty, q, -, -, hd⟩ | ⟨z, q, -⟩
    · cases q
    · refine va_forget (fun q hq => by rw [← hbase]; exact hls q hq) ?_
      refine W.widen (k := 600000) (n := 7302250) (by omega) (by omega) ?_
      exact lw_ret hx hb hr hlocks hd
    · cases q
  · cases hk
  · cases hk
  · cases hk
theorem fx_stage2 (C0 : lw_At p s m meth c b L xs) (hXX : fx_xx X B) (hcx : fx_cx X Y B s) (hbase : X.2.1 = s.heap.size) {S : fx_Z} (hsum : fx_sum l X Y B fx_mst (fx_ev S (fun _ _ _ => false))) {w : List fx_I} (hw : fx_codB 17 false (some .boolean) 4 code w = true) {n : Nat} {j j0 : fx_J} (run : fx_run S n w j) (hpc : fx_pc w = 18) (hrj : fx_rj X j) {H : Heap} {locs : List Loc} {ls : Array Slot} (hs : fx_st X Y 4 fx_l0 [] fx_g0 j0 H locs ls []) {ce sl : Nat} (hce : ce ≤ 1000) (hsl : sl ≤ 100000) : W p l e room_1 s m #[Value.ref b] below meth c H locs ce sl (lw_Z below #[Value.ref b] s) (F0 m 18 ls []) := by
  refine W.widen (k := 1000) (n := 100000) hce hsl ?_
  have hcd := fx_codB_ok hw
  have K := (fx_go_ok (E := fx_ev S (fun _ _ _ => false)) hXX fx_mall_ok hsum rfl rfl fx_wd_ok n).2 20 w w fx_l0 [] 1000 100000 600000 7302250 fx_g0 j _ run p e room_1 s m #[Value.ref b] below meth c (lw_Z below #[Value.ref b] s) code 4 R_law false (some .boolean) (fx_lawfs C0 hcx hbase (fun pc kd a b' d hin _ => (hcd pc kd a b' d hin).2)) ⟨Nat.le_of_ble_eq_true rfl, Nat.le_of_ble_eq_true rfl, Nat.le_of_ble_eq_true rfl, Nat.le_of_ble_eq_true rfl⟩ (fun _ h => h) (fx_lawrt C0 hbase (Nat.le_refl _) (Nat.le_refl _)) (fun q hq h28 => by
    obtain ⟨pc, kd, a, b', d⟩ := q
    exact absurd h28 (hcd pc kd a b' d hq).1) H locs ls [] ⟨hs.1, hs.2.1, hs.2.2.1, hrj, hs.2.2.2.2⟩ (Nat.le_of_ble_eq_true rfl) (Nat.le_of_ble_eq_true rfl)
  rw [hpc] at K
  exact K
end FXS
