/-! the reference's order of messages, and what does not matter in its fields -/
theorem um_le_cases {x y : Int32} (h : x ≤ y) : x < y ∨ x = y := by
  rw [Int32.le_iff_toInt_le] at h
  rw [Int32.lt_iff_toInt_lt]
  rcases Int.lt_or_eq_of_le h with h1 | h1
  · exact Or.inl h1
  · exact Or.inr (Int32.toInt_inj.mp h1)
theorem um_not_le {x y : Int32} (h : ¬ x ≤ y) : y < x := Int32.not_le.mp h
theorem um_lt_trans {x y z : Int32} (h1 : x < y) (h2 : y < z) : x < z := Int32.lt_trans h1 h2
theorem um_lt_irr {x : Int32} (h : x < x) : False := Int32.lt_irrefl h
theorem um_lt_asymm {G : Nat → Nat → Int32} {a b : Nat} (h1 : um_lt G a b) (h2 : um_lt G b a) : False := by
  rcases h1 with h1 | ⟨h1, h1'⟩ <;> rcases h2 with h2 | ⟨h2, h2'⟩
  · exact um_lt_irr (um_lt_trans h1 h2)
  · rw [h2] at h1; exact um_lt_irr h1
  · rw [h1] at h2; exact um_lt_irr h2
  · omega
theorem um_nx_or {G : Nat → Nat → Int32} {u b t : Int32} : ∀ m, m ≤ 200 → (um_nx G u b t m = -1 ∧ ∀ k, k < m → um_may G u b t k = 0) ∨ ∃ f, f < m ∧ um_nx G u b t m = nI f ∧ ¬ um_may G u b t f = 0 ∧ ∀ k, k < m → ¬ um_may G u b t k = 0 → k = f ∨ um_lt G f k := by
  intro m
  induction m with
  | zero => intro _; exact Or.inl ⟨rfl, fun k h => absurd h (Nat.not_lt_zero k)⟩
  | succ m ih =>
    intro hm
    have ih := ih (by omega)
    by_cases hy : um_may G u b t m = 0
    · have e : um_nx G u b t (m + 1) = um_nx G u b t m := by rw [um_nx, if_pos hy]
      rcases ih with ⟨h1, h2⟩ | ⟨f, h1, h2, h3, h4⟩
      · refine Or.inl ⟨e.trans h1, fun k hk => ?_⟩
        by_cases hkm : k = m
        · rw [hkm]; exact hy
        · exact h2 k (by omega)
      · refine Or.inr ⟨f, by omega, e.trans h2, h3, fun k hk hky => ?_⟩
        by_cases hkm : k = m
        · rw [hkm] at hky; exact absurd hy hky
        · exact h4 k (by omega) hky
    · rcases ih with ⟨h1, h2⟩ | ⟨f, h1, h2, h3, h4⟩
      · refine Or.inr ⟨m, by omega, by rw [um_nx, if_neg hy, if_pos (by rw [h1]; decide)], hy, fun k hk hky => ?_⟩
        by_cases hkm : k = m
        · exact Or.inl hkm
        · exact absurd (h2 k (by omega)) hky
      · have hn : ¬ um_nx G u b t m < 0 := by rw [h2]; exact nI_pos (by omega)
        have hc : (um_nx G u b t m).toNatClampNeg = f := by rw [h2]; exact nI_clamp (by omega)
        by_cases hle : G 3 f ≤ G 3 m
        · refine Or.inr ⟨f, by omega, by rw [um_nx, if_neg hy, if_neg hn, if_pos (by rw [hc]; exact hle)]; exact h2, h3, fun k hk hky => ?_⟩
          by_cases hkm : k = m
          · subst hkm
            rcases um_le_cases hle with h | h
            · exact Or.inr (Or.inl h)
            · exact Or.inr (Or.inr ⟨h, h1⟩)
          · exact h4 k (by omega) hky
        · have hlt := um_not_le hle
          refine Or.inr ⟨m, by omega, by rw [um_nx, if_neg hy, if_neg hn, if_neg (by rw [hc]; exact hle)], hy, fun k hk hky => ?_⟩
          by_cases hkm : k = m
          · exact Or.inl hkm
          · rcases h4 k (by omega) hky with h | h
            · rw [h]; exact Or.inr (Or.inl hlt)
            · rcases h with h | ⟨h, -⟩
              · exact Or.inr (Or.inl (um_lt_trans hlt h))
              · exact Or.inr (Or.inl (by rw [← h]; exact hlt))
theorem um_nx_gen {G : Nat → Nat → Int32} {u b t : Int32} {nm : Nat} {T : List Nat} (hn : nm ≤ 200) (hT : ∀ k, k ∈ T ↔ k < nm ∧ ¬ um_may G u b t k = 0) (hp : T.Pairwise (um_lt G)) : um_nx G u b t nm = um_hd T := by
  rcases um_nx_or (G := G) (u := u) (b := b) (t := t) nm hn with ⟨h1, h2⟩ | ⟨f, h1, h2, h3, h4⟩
  · cases T with
    | nil => exact h1
    | cons a T =>
      have := (hT a).mp List.mem_cons_self
      exact absurd (h2 a this.1) this.2
  · have hf : f ∈ T := (hT f).mpr ⟨h1, h3⟩
    cases T with
    | nil => cases hf
    | cons a T =>
      have ha := (hT a).mp List.mem_cons_self
      have hfa : f = a := by
        rcases List.mem_cons.mp hf with h | h
        · exact h
        · have h5 := (List.pairwise_cons.mp hp).1 f h
          rcases h4 a ha.1 ha.2 with h6 | h6
          · exact h6.symm
          · exact absurd h6 (fun h6 => um_lt_asymm h5 h6)
      rw [h2, hfa]; rfl
theorem um_ls_mem {G : Nat → Nat → Int32} {nm : Nat} {L : List Nat} (hL : um_ok G nm L) {j : Nat} {t : Int32} {k : Nat} : k ∈ um_ls G L j t ↔ k < nm ∧ G 2 k = nI j ∧ G 3 k ≤ t := by
  unfold um_ls
  rw [List.mem_filter, hL.1 k]
  simp
theorem um_ls_pw {G : Nat → Nat → Int32} {nm : Nat} {L : List Nat} (hL : um_ok G nm L) {j : Nat} {t : Int32} : (um_ls G L j t).Pairwise (um_lt G) := hL.2.filter _
theorem um_may_0 {G : Nat → Nat → Int32} {u t : Int32} {k : Nat} : ¬ um_may G u (-1) t k = 0 ↔ G 2 k = u ∧ G 3 k ≤ t := by
  unfold um_may um_later
  rw [if_pos (show (-1 : Int32) < 0 by decide)]
  by_cases h1 : G 2 k = u
  · by_cases h2 : t < G 3 k
    · simp [h1, h2, Int32.not_le.mpr h2]
    · simp [h1, h2, Int32.not_lt.mp h2]
  · simp [h1]
theorem um_may_at {G : Nat → Nat → Int32} {u t : Int32} {a k : Nat} (ha : a < 200) (hk : k < 200) : ¬ um_may G u (nI a) t k = 0 ↔ G 2 k = u ∧ G 3 k ≤ t ∧ um_lt G a k := by
  unfold um_may um_later um_lt
  rw [if_neg (nI_pos (n := a) (by omega)), nI_clamp (n := a) (by omega)]
  by_cases h1 : G 2 k = u
  · by_cases h2 : t < G 3 k
    · simp [h1, h2, Int32.not_le.mpr h2]
    · have h2' := Int32.not_lt.mp h2
      by_cases h3 : G 3 a < G 3 k
      · simp [h1, h2, h2', h3]
      · by_cases h4 : G 3 k = G 3 a
        · by_cases h5 : nI k ≤ nI a
          · have h6 : ¬ a < k := fun h => nI_ge h (by omega) h5
            simp [h1, h2, h2', h3, h4, h5, h6]
          · have h6 : a < k := by
              rcases Nat.lt_or_ge a k with h | h
              · exact h
              · exact absurd (nI_le h (by omega)) h5
            rw [h4] at h2 h2'
            simp [h1, h2, h2', h4, h5, h6]
        · have h4' : ¬ G 3 a = G 3 k := fun h => h4 h.symm
          simp [h1, h2, h2', h3, h4, h4']
  · simp [h1]
theorem um_nx_0 {G : Nat → Nat → Int32} {nm : Nat} {L : List Nat} (hn : nm ≤ 200) (hL : um_ok G nm L) {j : Nat} {t : Int32} : um_nx G (nI j) (-1) t nm = um_hd (um_ls G L j t) := by
  refine um_nx_gen hn (fun k => ?_) (um_ls_pw hL)
  rw [um_ls_mem hL, um_may_0]
theorem um_nx_at {G : Nat → Nat → Int32} {nm : Nat} {L A T : List Nat} {a : Nat} (hn : nm ≤ 200) (hL : um_ok G nm L) {j : Nat} {t : Int32} (hs : um_ls G L j t = A ++ a :: T) : um_nx G (nI j) (nI a) t nm = um_hd T := by
  have hpw := um_ls_pw (j := j) (t := t) hL
  rw [hs] at hpw
  obtain ⟨hp1, hp2, hp3⟩ := List.pairwise_append.mp hpw
  obtain ⟨hp4, hp5⟩ := List.pairwise_cons.mp hp2
  have ha := (um_ls_mem (j := j) (t := t) (k := a) hL).mp (by rw [hs]; simp)
  refine um_nx_gen hn (fun k => ?_) hp5
  constructor
  · intro hk
    have hk2 := (um_ls_mem (j := j) (t := t) (k := k) hL).mp (by rw [hs]; simp [hk])
    exact ⟨hk2.1, (um_may_at (by omega) (by omega)).mpr ⟨hk2.2.1, hk2.2.2, hp4 k hk⟩⟩
  · rintro ⟨h1, h2⟩
    obtain ⟨h3, h4, h5⟩ := (um_may_at (by omega) (by omega)).mp h2
    have hk : k ∈ A ++ a :: T := by rw [← hs]; exact (um_ls_mem hL).mpr ⟨h1, h3, h4⟩
    rcases List.mem_append.mp hk with h | h
    · exact absurd (hp3 k h a List.mem_cons_self) (fun h6 => um_lt_asymm h5 h6)
    · rcases List.mem_cons.mp h with h | h
      · rw [h] at h5; exact absurd h5 (fun h6 => um_lt_asymm h6 h6)
      · exact h
def um_ag (n : Nat) (v w : Nat → Int32) : Prop := ∀ k, k < n → v k = w k
theorem um_ag_upd {n i : Nat} {v w : Nat → Int32} {x : Int32} (h : um_ag n v w) : um_ag n (upd v i x) (upd w i x) := by
  intro k hk
  by_cases hki : k = i
  · simp [upd, hki]
  · simp [upd, hki, h k hk]
theorem um_ag_12 {v w : Nat → Int32} {x : Int32} (h : um_ag 12 v w) : um_ag 13 (upd v 12 x) (upd w 12 x) := by
  intro k hk
  by_cases hki : k = 12
  · simp [upd, hki]
  · simp [upd, hki, h k (by omega)]
theorem um_ag_le {v w : Nat → Int32} (h : um_ag 13 v w) : um_ag 12 v w := fun k hk => h k (by omega)
theorem um_ag_spend {n : Nat} (hn : 12 ≤ n) {v w : Nat → Int32} {t : Int32} (h : um_ag n v w) : um_ag n (um_spend v t) (um_spend w t) := by
  unfold um_spend
  rw [h 0 (by omega), h 1 (by omega), h 7 (by omega)]
  split
  · exact um_ag_upd h
  · split
    · exact um_ag_upd h
    · split
      · split
        · exact h
        · exact um_ag_upd h
      · split
        · exact h
        · split
          · exact h
          · exact um_ag_upd h
theorem um_ag_become {G : Nat → Nat → Int32} {m : Nat} {v w : Nat → Int32} (h : um_ag 13 v w) : um_ag 13 (um_become G v m) (um_become G w m) := by
  have h2 : um_ag 13 (um_be2 G v m) (um_be2 G w m) := um_ag_upd (um_ag_upd (um_ag_spend (by omega) h))
  unfold um_become
  split
  · exact um_ag_upd h2
  · split
    · exact um_ag_upd h2
    · split
      · exact um_ag_upd (um_ag_upd h2)
      · exact h2
theorem um_ag_tst {G : Nat → Nat → Int32} {j m : Nat} {v w : Nat → Int32} (h : um_ag 13 v w) : um_ag 13 (um_tst G j m v) (um_tst G j m w) := by
  have h2 := um_ag_become (G := G) (m := m) h
  unfold um_tst
  split
  · split
    · exact um_ag_upd h2
    · exact um_ag_upd h2
  · exact um_ag_upd h2
theorem um_ag_take {G : Nat → Nat → Int32} {j m : Nat} {v w : Nat → Int32} (h : um_ag 12 v w) : um_ag 13 (um_take G j m v) (um_take G j m w) := by
  have h2 : um_ag 13 (upd v 12 0) (upd w 12 0) := um_ag_12 h
  unfold um_take
  rw [h 6 (by omega), h 0 (by omega), h 4 (by omega)]
  split
  · split
    · split
      · exact um_ag_upd h2
      · exact um_ag_upd (um_ag_upd h2)
    · split
      · exact um_ag_upd h2
      · split
        · exact um_ag_upd h2
        · split
          · exact um_ag_upd h2
          · exact um_ag_upd h2
  · split
    · exact um_ag_upd h2
    · split
      · exact um_ag_tst h2
      · split
        · exact um_ag_tst h2
        · exact um_ag_upd h2
theorem um_ag_run {G : Nat → Nat → Int32} {j : Nat} : ∀ (T : List Nat) {v w : Nat → Int32}, um_ag 12 v w → um_ag 12 (um_run G j T v) (um_run G j T w)
  | [], _, _, h => h
  | _ :: T, _, _, h => um_ag_run T (um_ag_le (um_ag_take h))
theorem um_ag_run1 {G : Nat → Nat → Int32} {j : Nat} : ∀ (T : List Nat) {v w : Nat → Int32}, um_ag 13 v w → um_ag 13 (um_run G j T v) (um_run G j T w)
  | [], _, _, h => h
  | _ :: T, _, _, h => um_ag_run1 T (um_ag_take (um_ag_le h))
theorem um_ag_init {G : Nat → Nat → Int32} {j : Nat} {v w : Nat → Int32} : um_ag 12 (um_init G j v) (um_init G j w) := by
  intro k hk
  have : k = 0 ∨ k = 1 ∨ k = 2 ∨ k = 3 ∨ k = 4 ∨ k = 5 ∨ k = 6 ∨ k = 7 ∨ k = 8 ∨ k = 9 ∨ k = 10 ∨ k = 11 := by omega
  rcases this with rfl | rfl | rfl | rfl | rfl | rfl | rfl | rfl | rfl | rfl | rfl | rfl <;> rfl
theorem um_fol_ag {G : Nat → Nat → Int32} {L : List Nat} {j k : Nat} {t : Int32} {v : Nat → Int32} (hk : k < 12) : um_fol G L j t v k = um_st G L t j k :=
  um_ag_spend (n := 12) (by omega) (um_ag_run _ um_ag_init) k hk
theorem um_said_ag {G : Nat → Nat → Int32} {j a : Nat} {T : List Nat} {v w : Nat → Int32} : um_run G j (a :: T) (um_init G j v) 12 = um_run G j (a :: T) (um_init G j w) 12 :=
  um_ag_run1 T (um_ag_take um_ag_init) 12 (by omega)
theorem um_in_spec {x : Int32} {n : Nat} (hn : n ≤ 200) (h : ¬ um_in x 0 (nI n - 1) = 0) : ∃ j : Nat, j < n ∧ x = nI j := by
  unfold um_in at h
  by_cases h1 : x < 0
  · rw [if_pos h1] at h; exact absurd rfl h
  · rw [if_neg h1] at h
    by_cases h2 : nI n - 1 < x
    · rw [if_pos h2] at h; exact absurd rfl h
    · cases n with
      | zero =>
        exfalso
        have h3 : x.toInt ≤ (nI 0 - 1).toInt := Int32.le_iff_toInt_le.mp (Int32.not_lt.mp h2)
        have h4 : (0 : Int32).toInt ≤ x.toInt := Int32.le_iff_toInt_le.mp (Int32.not_lt.mp h1)
        have e1 : (nI 0 - 1).toInt = -1 := by decide
        have e2 : (0 : Int32).toInt = 0 := by decide
        omega
      | succ k =>
        rw [nI_pred] at h2
        rcases pk_ix x (n := k + 1) (by omega) with h3 | h3 | h3
        · exact absurd h3 h1
        · exact absurd (Int32.not_lt.mp h2) (fun h4 => nI_ge (Nat.lt_succ_self k) (by omega) (Int32.le_trans h3 h4))
        · exact h3
theorem um_hd_pos {m : Nat} (h : m < 200) : ¬ nI m < 0 := nI_pos (by omega)
theorem um_ne_m1 {m : Nat} (h : m < 200) : ¬ nI m = (-1 : Int32) := by
  intro e
  have := nI_pos (n := m) (by omega)
  rw [e] at this
  exact this (by decide)
theorem um_nx_in {G : Nat → Nat → Int32} {u b t : Int32} {m : Nat} (hm : m ≤ 200) (h : ¬ um_nx G u b t m < 0) : ∃ f, f < m ∧ um_nx G u b t m = nI f := by
  rcases um_nx_or (G := G) (u := u) (b := b) (t := t) m hm with ⟨h1, -⟩ | ⟨f, h1, h2, -⟩
  · rw [h1] at h; exact absurd (by decide) h
  · exact ⟨f, h1, h2⟩
theorem um_lcases (T : List Nat) : T = [] ∨ ∃ m T', T = m :: T' := by
  cases T with
  | nil => exact Or.inl rfl
  | cons m T => exact Or.inr ⟨m, T, rfl⟩
theorem um_inc_fol {G : Nat → Nat → Int32} {L : List Nat} {j : Nat} {t : Int32} {v : Nat → Int32} : um_inc (um_fol G L j t v) = um_inc (um_st G L t j) := by
  unfold um_inc
  rw [um_fol_ag (by decide), um_fol_ag (by decide)]
theorem um_upto_ne {m : Nat} : ∀ {T : List Nat}, m ∈ T → ∃ a T', um_upto m T = a :: T'
  | a :: T, _ => by
    unfold um_upto
    split
    · exact ⟨a, [], rfl⟩
    · exact ⟨a, _, rfl⟩
theorem um_said_eq {G : Nat → Nat → Int32} {L : List Nat} {j m : Nat} {t : Int32} {v w : Nat → Int32} (h : m ∈ um_ls G L j t) : um_run G j (um_upto m (um_ls G L j t)) (um_init G j v) 12 = um_run G j (um_upto m (um_ls G L j t)) (um_init G j w) 12 := by
  obtain ⟨a, T', e⟩ := um_upto_ne h
  rw [e]
  exact um_said_ag
