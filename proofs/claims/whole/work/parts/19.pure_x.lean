/-! the class and the reference, unit by unit -/
def um_rel (G : Nat → Nat → Int32) (od : Nat → Nat) (nm j : Nat) (u w : Nat → Int32) : Prop :=
  u 0 = G 0 j ∧ u 1 = G 1 j ∧ u 2 = w 0 ∧ u 3 = w 1 ∧ u 4 = w 2 ∧ u 5 = w 3 ∧ u 6 = w 4 ∧ u 7 = w 5 ∧ u 8 = w 6 ∧ u 13 = w 7 ∧ u 9 = w 8 ∧ (w 8 = -1 ∨ (¬ w 8 < 0 ∧ u 10 = w 9)) ∧ u 11 = w 10 ∧ (um_in (w 0) 3 5 = 0 ∨ ∃ p, p < nm ∧ u 12 = nI p ∧ w 11 = nI (od p)) ∧ (∃ s, s ≤ 10 ∧ w 0 = nI s)
theorem um_can : ∀ s, s < 11 → ∀ n, n < 16 → sp_can (nI s) (nI n) = um_fls (nI s) (nI n) := by decide +kernel
theorem um_spend_o {w : Nat → Int32} {t : Int32} {k : Nat} (hk : k ≠ 7) : um_spend w t k = w k := by
  unfold um_spend
  repeat' split
  all_goals simp [upd, hk]
theorem um_le6 : ∀ s, s < 11 → (nI s ≤ 6 ↔ nI s < 7) := by decide +kernel
theorem um_spend_7 {u w : Nat → Int32} {t : Int32} (h0 : u 2 = w 0) (h1 : u 3 = w 1) (h7 : u 13 = w 7) (hs : ∃ s, s ≤ 10 ∧ w 0 = nI s) : um_spend w t 7 = sp_dr u t := by
  obtain ⟨s, hs, es⟩ := hs
  have h6 := um_le6 s (by omega)
  rw [← es] at h6
  unfold um_spend sp_dr sp_rest
  rw [h0, h1, h7]
  by_cases c2 : w 0 = 2
  · simp [c2, upd]
  · by_cases c6 : w 0 = 6
    · simp [c6, upd]
    · by_cases c0 : w 0 = 0
      · simp only [c2, c6, c0, if_true, if_false]
        by_cases c30 : t - w 1 < 30
        · simp [c30]
        · simp [c30, upd]
      · by_cases cl : w 0 < 7
        · have cl' := h6.mpr cl
          simp [c2, c6, c0, cl, cl']
        · have cl' : ¬ w 0 ≤ 6 := fun h => cl (h6.mp h)
          simp only [c2, c6, c0, cl, cl', if_false]
          by_cases c30 : t - w 1 < 30
          · simp [c30]
          · simp [c30, upd]
theorem um_nc (n : Int32) : sp_nc n = um_in n 2 4 := rfl
theorem um_small : ∀ k, k < 11 → ¬ (11 : Int32) ≤ nI k ∧ ¬ nI k = 11 ∧ ¬ nI k = 12 ∧ ¬ nI k = 13 ∧ ¬ nI k = 14 ∧ ¬ nI k = 15 := by decide +kernel
/-- behind a state that follows: what both keep of it -/
theorem um_go {G : Nat → Nat → Int32} {od : Nat → Nat} {nm j m p k : Nat} {u w : Nat → Int32} (hr : um_rel G od nm j u w) (hp : p < nm) (hm : od p = m) (hk : k ≤ 10) (ek : G 4 m = nI k) (hf : ¬ um_fls (w 0) (nI k) = 0) :
    um_rel G od nm j (sp_go u (G 4 m) (G 5 m) (G 3 m) (nI p)).2 (um_tst G j m (upd w 12 0)) ∧ (sp_go u (G 4 m) (G 5 m) (G 3 m) (nI p)).1 = um_tst G j m (upd w 12 0) 12 := by
  obtain ⟨r0, r1, r2, r3, r4, r5, r6, r7, r8, r9, r10, r11, r12, r13, r14⟩ := hr
  have hs7 : um_spend (upd w 12 0) (G 3 m) 7 = sp_dr u (G 3 m) := um_spend_7 (w := upd w 12 0) r2 r3 r9 r14
  have hso : ∀ i, i ≠ 7 → i ≠ 12 → um_spend (upd w 12 0) (G 3 m) i = w i := fun i h1 h2 => by rw [um_spend_o h1]; simp [upd, h2]
  have o2 := hso 2 (by decide) (by decide)
  have o3 := hso 3 (by decide) (by decide)
  have o4 := hso 4 (by decide) (by decide)
  have o5 := hso 5 (by decide) (by decide)
  have o6 := hso 6 (by decide) (by decide)
  have o8 := hso 8 (by decide) (by decide)
  have o9 := hso 9 (by decide) (by decide)
  have o10 := hso 10 (by decide) (by decide)
  have o11 := hso 11 (by decide) (by decide)
  have hst : ∃ s, s ≤ 10 ∧ G 4 m = nI s := ⟨k, hk, ek⟩
  have h35 : ∀ x : Int32, um_in x 3 5 = 0 ∨ ¬ um_in x 3 5 = 0 := fun x => Decidable.em _
  unfold sp_go um_tst um_become um_be2
  by_cases c1 : G 4 m = 1
  · have e1 : ¬ (1 : Int32) = 0 := by decide
    simp only [c1, e1, if_true, if_false]
    exact ⟨⟨by simp [upd, hs7, o2, o3, o4, o5, o6, o8, o9, o10, o11, r0, r1, r2, r3, r4, r5, r6, r7, r8, r10, r12], by simp [upd, hs7, o2, o3, o4, o5, o6, o8, o9, o10, o11, r0, r1, r2, r3, r4, r5, r6, r7, r8, r10, r12], by simp [upd, hs7, o2, o3, o4, o5, o6, o8, o9, o10, o11, r0, r1, r2, r3, r4, r5, r6, r7, r8, r10, r12], by simp [upd, hs7, o2, o3, o4, o5, o6, o8, o9, o10, o11, r0, r1, r2, r3, r4, r5, r6, r7, r8, r10, r12], by simp [upd, hs7, o2, o3, o4, o5, o6, o8, o9, o10, o11, r0, r1, r2, r3, r4, r5, r6, r7, r8, r10, r12], by simp [upd, hs7, o2, o3, o4, o5, o6, o8, o9, o10, o11, r0, r1, r2, r3, r4, r5, r6, r7, r8, r10, r12], by simp [upd, hs7, o2, o3, o4, o5, o6, o8, o9, o10, o11, r0, r1, r2, r3, r4, r5, r6, r7, r8, r10, r12], by simp [upd, hs7, o2, o3, o4, o5, o6, o8, o9, o10, o11, r0, r1, r2, r3, r4, r5, r6, r7, r8, r10, r12], by simp [upd, hs7, o2, o3, o4, o5, o6, o8, o9, o10, o11, r0, r1, r2, r3, r4, r5, r6, r7, r8, r10, r12], by simp [upd, hs7, o2, o3, o4, o5, o6, o8, o9, o10, o11, r0, r1, r2, r3, r4, r5, r6, r7, r8, r10, r12], by simp [upd, hs7, o2, o3, o4, o5, o6, o8, o9, o10, o11, r0, r1, r2, r3, r4, r5, r6, r7, r8, r10, r12], by simpa [upd, o8, o9] using r11, by simp [upd, hs7, o2, o3, o4, o5, o6, o8, o9, o10, o11, r0, r1, r2, r3, r4, r5, r6, r7, r8, r10, r12], Or.inl (by simp [upd]; decide), ⟨1, by omega, by simp [upd]; decide⟩⟩, by simp [upd, hs7, o2, o3, o4, o5, o6, o8, o9, o10, o11, r0, r1, r2, r3, r4, r5, r6, r7, r8, r10, r12]⟩
  · by_cases c3 : G 4 m = 3
    · have e1 : ¬ (3 : Int32) = 0 := by decide
      have e2 : ¬ (3 : Int32) = 1 := by decide
      simp only [c3, e1, e2, if_true, if_false]
      exact ⟨⟨by simp [upd, hs7, o2, o3, o4, o5, o6, o8, o9, o10, o11, r0, r1, r2, r3, r4, r5, r6, r7, r8, r10, r12], by simp [upd, hs7, o2, o3, o4, o5, o6, o8, o9, o10, o11, r0, r1, r2, r3, r4, r5, r6, r7, r8, r10, r12], by simp [upd, hs7, o2, o3, o4, o5, o6, o8, o9, o10, o11, r0, r1, r2, r3, r4, r5, r6, r7, r8, r10, r12], by simp [upd, hs7, o2, o3, o4, o5, o6, o8, o9, o10, o11, r0, r1, r2, r3, r4, r5, r6, r7, r8, r10, r12], by simp [upd, hs7, o2, o3, o4, o5, o6, o8, o9, o10, o11, r0, r1, r2, r3, r4, r5, r6, r7, r8, r10, r12], by simp [upd, hs7, o2, o3, o4, o5, o6, o8, o9, o10, o11, r0, r1, r2, r3, r4, r5, r6, r7, r8, r10, r12], by simp [upd, hs7, o2, o3, o4, o5, o6, o8, o9, o10, o11, r0, r1, r2, r3, r4, r5, r6, r7, r8, r10, r12], by simp [upd, hs7, o2, o3, o4, o5, o6, o8, o9, o10, o11, r0, r1, r2, r3, r4, r5, r6, r7, r8, r10, r12], by simp [upd, hs7, o2, o3, o4, o5, o6, o8, o9, o10, o11, r0, r1, r2, r3, r4, r5, r6, r7, r8, r10, r12], by simp [upd, hs7, o2, o3, o4, o5, o6, o8, o9, o10, o11, r0, r1, r2, r3, r4, r5, r6, r7, r8, r10, r12], by simp [upd, hs7, o2, o3, o4, o5, o6, o8, o9, o10, o11, r0, r1, r2, r3, r4, r5, r6, r7, r8, r10, r12], by simpa [upd, o8, o9] using r11, by simp [upd, hs7, o2, o3, o4, o5, o6, o8, o9, o10, o11, r0, r1, r2, r3, r4, r5, r6, r7, r8, r10, r12], Or.inr ⟨p, hp, by simp [upd], by simp [upd, hm]⟩, ⟨3, by omega, by simp [upd]; decide⟩⟩, by simp [upd, hs7, o2, o3, o4, o5, o6, o8, o9, o10, o11, r0, r1, r2, r3, r4, r5, r6, r7, r8, r10, r12]⟩
    · by_cases c0 : G 4 m = 0
      · have e1 : ¬ (0 : Int32) = 1 := by decide
        have e3 : ¬ (0 : Int32) = 3 := by decide
        simp only [c0, e1, e3, if_true, if_false, sp_ts]
        by_cases ch : G 5 m = G 0 j
        · simp only [ch, if_true]
          exact ⟨⟨by simp [upd, hs7, o2, o3, o4, o5, o6, o8, o9, o10, o11, r0, r1, r2, r3, r4, r5, r6, r7, r8, r10, r12], by simp [upd, hs7, o2, o3, o4, o5, o6, o8, o9, o10, o11, r0, r1, r2, r3, r4, r5, r6, r7, r8, r10, r12], by simp [upd, hs7, o2, o3, o4, o5, o6, o8, o9, o10, o11, r0, r1, r2, r3, r4, r5, r6, r7, r8, r10, r12], by simp [upd, hs7, o2, o3, o4, o5, o6, o8, o9, o10, o11, r0, r1, r2, r3, r4, r5, r6, r7, r8, r10, r12], by simp [upd, hs7, o2, o3, o4, o5, o6, o8, o9, o10, o11, r0, r1, r2, r3, r4, r5, r6, r7, r8, r10, r12], by simp [upd, hs7, o2, o3, o4, o5, o6, o8, o9, o10, o11, r0, r1, r2, r3, r4, r5, r6, r7, r8, r10, r12], by simp [upd, hs7, o2, o3, o4, o5, o6, o8, o9, o10, o11, r0, r1, r2, r3, r4, r5, r6, r7, r8, r10, r12], by simp [upd, hs7, o2, o3, o4, o5, o6, o8, o9, o10, o11, r0, r1, r2, r3, r4, r5, r6, r7, r8, r10, r12], by simp [upd, hs7, o2, o3, o4, o5, o6, o8, o9, o10, o11, r0, r1, r2, r3, r4, r5, r6, r7, r8, r10, r12], by simp [upd, hs7, o2, o3, o4, o5, o6, o8, o9, o10, o11, r0, r1, r2, r3, r4, r5, r6, r7, r8, r10, r12], by simp [upd, hs7, o2, o3, o4, o5, o6, o8, o9, o10, o11, r0, r1, r2, r3, r4, r5, r6, r7, r8, r10, r12], by simpa [upd, o8, o9] using r11, by simp [upd, hs7, o2, o3, o4, o5, o6, o8, o9, o10, o11, r0, r1, r2, r3, r4, r5, r6, r7, r8, r10, r12], Or.inl (by simp [upd]; decide), ⟨0, by omega, by simp [upd]; decide⟩⟩, by simp [upd, hs7, o2, o3, o4, o5, o6, o8, o9, o10, o11, r0, r1, r2, r3, r4, r5, r6, r7, r8, r10, r12]⟩
        · simp only [ch, if_false]
          exact ⟨⟨by simp [upd, hs7, o2, o3, o4, o5, o6, o8, o9, o10, o11, r0, r1, r2, r3, r4, r5, r6, r7, r8, r10, r12, ch], by simp [upd, hs7, o2, o3, o4, o5, o6, o8, o9, o10, o11, r0, r1, r2, r3, r4, r5, r6, r7, r8, r10, r12, ch], by simp [upd, hs7, o2, o3, o4, o5, o6, o8, o9, o10, o11, r0, r1, r2, r3, r4, r5, r6, r7, r8, r10, r12, ch], by simp [upd, hs7, o2, o3, o4, o5, o6, o8, o9, o10, o11, r0, r1, r2, r3, r4, r5, r6, r7, r8, r10, r12, ch], by simp [upd, hs7, o2, o3, o4, o5, o6, o8, o9, o10, o11, r0, r1, r2, r3, r4, r5, r6, r7, r8, r10, r12, ch], by simp [upd, hs7, o2, o3, o4, o5, o6, o8, o9, o10, o11, r0, r1, r2, r3, r4, r5, r6, r7, r8, r10, r12, ch], by simp [upd, hs7, o2, o3, o4, o5, o6, o8, o9, o10, o11, r0, r1, r2, r3, r4, r5, r6, r7, r8, r10, r12, ch], by simp [upd, hs7, o2, o3, o4, o5, o6, o8, o9, o10, o11, r0, r1, r2, r3, r4, r5, r6, r7, r8, r10, r12, ch], by simp [upd, hs7, o2, o3, o4, o5, o6, o8, o9, o10, o11, r0, r1, r2, r3, r4, r5, r6, r7, r8, r10, r12, ch], by simp [upd, hs7, o2, o3, o4, o5, o6, o8, o9, o10, o11, r0, r1, r2, r3, r4, r5, r6, r7, r8, r10, r12, ch], by simp [upd, hs7, o2, o3, o4, o5, o6, o8, o9, o10, o11, r0, r1, r2, r3, r4, r5, r6, r7, r8, r10, r12, ch], by simpa [upd, o8, o9] using r11, by simp [upd, hs7, o2, o3, o4, o5, o6, o8, o9, o10, o11, r0, r1, r2, r3, r4, r5, r6, r7, r8, r10, r12, ch], Or.inl (by simp [upd]; decide), ⟨0, by omega, by simp [upd]; decide⟩⟩, by simp [upd, hs7, o2, o3, o4, o5, o6, o8, o9, o10, o11, r0, r1, r2, r3, r4, r5, r6, r7, r8, r10, r12, ch]⟩
      · simp only [c0, c1, c3, if_false]
        have a14 : um_in (upd (upd (upd (um_spend (upd w 12 0) (G 3 m)) 0 (G 4 m)) 1 (G 3 m)) 12 0 0) 3 5 = 0 ∨ ∃ p1, p1 < nm ∧ upd (upd (upd u 13 (sp_dr u (G 3 m))) 2 (G 4 m)) 3 (G 3 m) 12 = nI p1 ∧ upd (upd (upd (um_spend (upd w 12 0) (G 3 m)) 0 (G 4 m)) 1 (G 3 m)) 12 0 11 = nI (od p1) := by
          rcases r13 with h | ⟨q, h1, h2, h3⟩
          · refine Or.inl ?_
            obtain ⟨s, hs, es⟩ := r14
            have key : ∀ s, s < 11 → ∀ k, k < 11 → ¬ k = 3 → ¬ um_fls (nI s) (nI k) = 0 → um_in (nI s) 3 5 = 0 → um_in (nI k) 3 5 = 0 := by decide +kernel
            have hk3 : ¬ k = 3 := fun h => c3 (by rw [ek, h]; decide)
            have := key s (by omega) k (by omega) hk3 (by rw [← es]; exact hf) (by rw [← es]; exact h)
            simp [upd, ek, this]
          · exact Or.inr ⟨q, h1, by simp [upd, h2], by simp [upd, o11, h3]⟩
        exact ⟨⟨by simp [upd, hs7, o2, o3, o4, o5, o6, o8, o9, o10, o11, r0, r1, r2, r3, r4, r5, r6, r7, r8, r10, r12], by simp [upd, hs7, o2, o3, o4, o5, o6, o8, o9, o10, o11, r0, r1, r2, r3, r4, r5, r6, r7, r8, r10, r12], by simp [upd, hs7, o2, o3, o4, o5, o6, o8, o9, o10, o11, r0, r1, r2, r3, r4, r5, r6, r7, r8, r10, r12], by simp [upd, hs7, o2, o3, o4, o5, o6, o8, o9, o10, o11, r0, r1, r2, r3, r4, r5, r6, r7, r8, r10, r12], by simp [upd, hs7, o2, o3, o4, o5, o6, o8, o9, o10, o11, r0, r1, r2, r3, r4, r5, r6, r7, r8, r10, r12], by simp [upd, hs7, o2, o3, o4, o5, o6, o8, o9, o10, o11, r0, r1, r2, r3, r4, r5, r6, r7, r8, r10, r12], by simp [upd, hs7, o2, o3, o4, o5, o6, o8, o9, o10, o11, r0, r1, r2, r3, r4, r5, r6, r7, r8, r10, r12], by simp [upd, hs7, o2, o3, o4, o5, o6, o8, o9, o10, o11, r0, r1, r2, r3, r4, r5, r6, r7, r8, r10, r12], by simp [upd, hs7, o2, o3, o4, o5, o6, o8, o9, o10, o11, r0, r1, r2, r3, r4, r5, r6, r7, r8, r10, r12], by simp [upd, hs7, o2, o3, o4, o5, o6, o8, o9, o10, o11, r0, r1, r2, r3, r4, r5, r6, r7, r8, r10, r12], by simp [upd, hs7, o2, o3, o4, o5, o6, o8, o9, o10, o11, r0, r1, r2, r3, r4, r5, r6, r7, r8, r10, r12], by simpa [upd, o8, o9] using r11, by simp [upd, hs7, o2, o3, o4, o5, o6, o8, o9, o10, o11, r0, r1, r2, r3, r4, r5, r6, r7, r8, r10, r12], a14, ⟨k, hk, by simp [upd, ek]⟩⟩, by simp [upd, hs7, o2, o3, o4, o5, o6, o8, o9, o10, o11, r0, r1, r2, r3, r4, r5, r6, r7, r8, r10, r12]⟩
