/-! places of the heap as functions, what holds of the reference's rules -/
noncomputable def gv (h : fx_H) (p : Nat) : Nat := match ai_pl h p with
  | some (.inl n) => n
  | _ => 0
/-- a code is well formed: from place k on, n of them, t values lie on the pile -/
def mo_wf (c : Nat → Nat) : Nat → Nat → Nat → Prop
  | _, 0, _ => True
  | k, n + 1, t => (c k = 126 → 1 ≤ t ∧ mo_wf c (k + 1) n t) ∧ (97 ≤ c k ∧ c k ≤ 122 → t < 60 ∧ mo_wf c (k + 1) n (t + 1)) ∧ (c k ≠ 126 → ¬ (97 ≤ c k ∧ c k ≤ 122) → 2 ≤ t ∧ mo_wf c (k + 1) n (t - 1))
noncomputable def mo_code (h : fx_H) (k : Nat) : Nat := gv h (91 * 4096 + k)
def mo_seg (h : fx_H) (b r : Nat) : Prop := gv h (86 * 4096 + (2 * b + r)) = 1 → 560 * b ≤ gv h (84 * 4096 + (2 * b + r)) ∧ gv h (84 * 4096 + (2 * b + r)) ≤ gv h (85 * 4096 + (2 * b + r)) ∧ gv h (85 * 4096 + (2 * b + r)) ≤ 560 * b + 560 ∧ mo_wf (mo_code h) (gv h (84 * 4096 + (2 * b + r))) (gv h (85 * 4096 + (2 * b + r)) - gv h (84 * 4096 + (2 * b + r))) 0
def mo_P (h : fx_H) : Prop := ∀ b r, b < 2 → r < 2 → mo_seg h b r
/-- while a text is read: the bank that is read into -/
def mo_Q (h : fx_H) : Prop := ∀ b : Nat, b < 2 → gv h 274470 = b → 560 * b ≤ gv h 274471 ∧ gv h 274471 ≤ 560 * b + 9 * gv h (75 * 4096 + b) ∧ ∀ r, r < 2 → gv h (86 * 4096 + (2 * b + r)) = 1 → gv h (85 * 4096 + (2 * b + r)) ≤ gv h 274471
def mo_PQ (h : fx_H) : Prop := mo_P h ∧ mo_Q h
/-- places that are not written -/
def mo_ok (m : ai_M) : Bool := m.1.all (fun p => [91, 86, 84, 85].all (fun r => !(p / 4096 == r))) && m.2.all (fun c => [91, 86, 84, 85].all (fun r => !(c == r)))
def mo_ok2 (m : ai_M) : Bool := mo_ok m && (m.1.all (fun p => !(p == 274470) && (!(p == 274471) && !(p / 4096 == 75))) && m.2.all (fun c => !(c == 67) && !(c == 75)))
theorem gv_fr {h h' : fx_H} {p : Nat} (e : ai_pl h' p = ai_pl h p) : gv h' p = gv h p := by
  unfold gv
  rw [e]
theorem mo_mem_no {l : List Nat} {x : Nat} (h : ∀ y ∈ l, y ≠ x) : ai_mem l x = false := by
  cases hc : ai_mem l x with
  | false => rfl
  | true => exact absurd rfl (h x (ai_mem_ok hc))
theorem mo_ok_fr {m : ai_M} (hm : mo_ok m = true) {r : Nat} (hr : r ∈ [91, 86, 84, 85]) {h h' : fx_H} (hf : ai_fr m h h') {i : Nat} (hi : i < 4096) : gv h' (r * 4096 + i) = gv h (r * 4096 + i) := by
  unfold mo_ok at hm
  obtain ⟨h1, h2⟩ := fx_and hm
  have h1 := List.all_eq_true.mp h1
  have h2 := List.all_eq_true.mp h2
  refine gv_fr (hf _ (mo_mem_no (fun y hy e => ?_)) (mo_mem_no (fun y hy e => ?_)))
  · have h3 := List.all_eq_true.mp (h1 y hy) r hr
    rw [e, ai_p1 hi] at h3
    simp at h3
  · have h3 := List.all_eq_true.mp (h2 y hy) r hr
    rw [e, ai_p1 hi] at h3
    simp at h3
theorem mo_wf_ext {c c' : Nat → Nat} : ∀ {n k t : Nat}, (∀ i, k ≤ i → i < k + n → c' i = c i) → mo_wf c k n t → mo_wf c' k n t := by
  intro n
  induction n with
  | zero => intro k t _ _; trivial
  | succ n ih =>
    intro k t he hw
    have e0 := he k (Nat.le_refl _) (by omega)
    unfold mo_wf at hw ⊢
    rw [e0]
    have go : ∀ {t}, mo_wf c (k + 1) n t → mo_wf c' (k + 1) n t := fun q => ih (fun i h1 h2 => he i (by omega) (by omega)) q
    exact ⟨fun q => ⟨(hw.1 q).1, go (hw.1 q).2⟩, fun q => ⟨(hw.2.1 q).1, go (hw.2.1 q).2⟩, fun q1 q2 => ⟨(hw.2.2 q1 q2).1, go (hw.2.2 q1 q2).2⟩⟩
theorem mo_seg_fr {h h' : fx_H} {b r : Nat} (hb : b < 2) (hr : r < 2) (hl : ∀ q, q ∈ [91, 86, 84, 85] → ∀ i, i < 4096 → gv h' (q * 4096 + i) = gv h (q * 4096 + i)) (hs : mo_seg h b r) : mo_seg h' b r := by
  unfold mo_seg at hs ⊢
  rw [hl 86 (by decide) _ (by omega), hl 84 (by decide) _ (by omega), hl 85 (by decide) _ (by omega)]
  intro q
  obtain ⟨h1, h2, h3, h4⟩ := hs q
  refine ⟨h1, h2, h3, mo_wf_ext (fun i h5 h6 => ?_) h4⟩
  unfold mo_code
  exact hl 91 (by decide) i (by omega)
theorem mo_P_fr {m : ai_M} (hm : mo_ok m = true) : ∀ h h', mo_P h → ai_fr m h h' → mo_P h' := fun h h' hp hf b r hb hr => mo_seg_fr hb hr (fun q hq i hi => mo_ok_fr hm hq hf hi) (hp b r hb hr)
theorem mo_PQ_fr {m : ai_M} (hm : mo_ok2 m = true) : ∀ h h', mo_PQ h → ai_fr m h h' → mo_PQ h' := fun h h' hp hf => by
  unfold mo_ok2 at hm
  obtain ⟨h1, h2⟩ := fx_and hm
  obtain ⟨h3, h4⟩ := fx_and h2
  have h3 := List.all_eq_true.mp h3
  have h4 := List.all_eq_true.mp h4
  have e1 : gv h' 274470 = gv h 274470 := gv_fr (hf _ (mo_mem_no (fun y hy e => by have := h3 y hy; rw [e] at this; revert this; decide)) (mo_mem_no (fun y hy e => by have := h4 y hy; rw [e] at this; revert this; decide)))
  have e2 : gv h' 274471 = gv h 274471 := gv_fr (hf _ (mo_mem_no (fun y hy e => by have := h3 y hy; rw [e] at this; revert this; decide)) (mo_mem_no (fun y hy e => by have := h4 y hy; rw [e] at this; revert this; decide)))
  have e3 : ∀ i, i < 4096 → gv h' (75 * 4096 + i) = gv h (75 * 4096 + i) := fun i hi => by
    refine gv_fr (hf _ (mo_mem_no (fun y hy e => ?_)) (mo_mem_no (fun y hy e => ?_)))
    · have := h3 y hy
      rw [e, ai_p1 hi] at this
      simp at this
    · have := h4 y hy
      rw [e, ai_p1 hi] at this
      simp at this
  refine ⟨mo_P_fr h1 h h' hp.1 hf, fun b hb hq => ?_⟩
  rw [e1] at hq
  obtain ⟨q1, q2, q3⟩ := hp.2 b hb hq
  rw [e2, e3 b (by omega)]
  refine ⟨q1, q2, fun r hr => ?_⟩
  rw [mo_ok_fr h1 (r := 86) (by decide) hf (by omega), mo_ok_fr h1 (r := 85) (by decide) hf (by omega)]
  exact q3 r hr
/-- a case that wants nothing holds with anything that its writes leave -/
theorem ai_lift {l : Launch} {X : fx_X} {Y : fx_Y} {B : fx_B} {P : fx_H → Prop} {c : Nat} {I : ai_I} (h : ai_con l X Y B ai_T0 ai_N c I) (hP : ∀ h h', P h → ai_fr I.2.2.1 h h' → P h') : ai_con l X Y B ai_T0 P c I := by
  intro ws h0 h1 h2 h3 h4
  exact rx_met_mono (h ws h0 h1 h2 h3 trivial) (fun v h' q => ⟨q.1, q.2.1, q.2.2.1, q.2.2.2.1, hP _ _ h4 q.2.2.2.1⟩)
