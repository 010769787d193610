/-! the answers -/
theorem um_stk {G : Nat → Nat → Int32} {L : List Nat} {t : Int32} {j k : Nat} (hk : k ≠ 7) : um_st G L t j k = um_w G L t j k := by
  rw [um_st_eq, um_spend_o hk]
theorem um_st7 {G : Nat → Nat → Int32} {L : List Nat} {t : Int32} {j nm : Nat} {od : Nat → Nat} {u : Nat → Int32} (h : um_rel G od nm j u (um_w G L t j)) : um_st G L t j 7 = sp_dr u t := by
  rw [um_st_eq]
  exact um_spend_7 h.2.2.1 h.2.2.2.1 h.2.2.2.2.2.2.2.2.2.1 h.2.2.2.2.2.2.2.2.2.2.2.2.2.2
theorem um_at_eq {nu nm : Nat} {F G U : Nat → Nat → Int32} (hB : um_both nu nm F G) (hH : um_home nu U G) (t w : Int32) {j : Nat} (hj : j < nu) (hw : ¬ sp_in w 9 = 0) : sp_atR nu (sp_ru nu nm F U t) j t w = um_atR G (um_L nm F) nu j t w := by
  have hr := (um_ru hB hH t).1 j hj
  have hk := um_rank_eq hB hH t hj
  have h7 := um_st7 hr
  obtain ⟨r0, r1, r2, r3, r4, r5, r6, r7, r8, r9, r10, r11, r12, r13, r14⟩ := hr
  unfold sp_atR um_atR
  rw [hk]
  by_cases c9 : w = 9
  · subst c9; simp
  · by_cases c0 : w = 0
    · subst c0; simp [um_stk, r2]
    · by_cases c1 : w = 1
      · subst c1; simp [um_stk, r3]
      · by_cases c2 : w = 2
        · subst c2
          simp [sp_stn, um_stk, r2, r4]
        · by_cases c3 : w = 3
          · subst c3
            simp only [c9, c0, c1, c2, if_true, if_false]
            exact um_inc_eq (by rw [um_stk (by decide)]; exact r2) (by rw [um_stk (by decide)]; exact r5)
          · by_cases c4 : w = 4
            · subst c4; simp [um_stk, r6]
            · by_cases c5 : w = 5
              · subst c5; simp [um_stk, r7]
              · by_cases c6 : w = 6
                · subst c6; simp [um_stk, r8]
                · by_cases c7 : w = 7
                  · subst c7; simp [h7]
                  · have c8 : w = 8 := by
                      have hx : ∃ n, n < 10 ∧ w = nI n := by
                        unfold sp_in at hw
                        by_cases a : w < 0
                        · rw [if_pos a] at hw; exact absurd rfl hw
                        · rw [if_neg a] at hw
                          by_cases b : 9 < w
                          · rw [if_pos b] at hw; exact absurd rfl hw
                          · rcases pk_ix w (n := 10) (by omega) with h | h | h
                            · exact absurd h a
                            · have h1 := Int32.le_iff_toInt_le.mp h
                              have h2 : ¬ (9 : Int32).toInt < w.toInt := fun h => b (Int32.lt_iff_toInt_lt.mpr h)
                              have h3 : (nI 10).toInt = 10 := by decide
                              have h4 : (9 : Int32).toInt = 9 := by decide
                              omega
                            · exact h
                      obtain ⟨n, hn, en⟩ := hx
                      have key : ∀ n, n < 10 → nI n = 0 ∨ nI n = 1 ∨ nI n = 2 ∨ nI n = 3 ∨ nI n = 4 ∨ nI n = 5 ∨ nI n = 6 ∨ nI n = 7 ∨ nI n = 9 ∨ nI n = 8 := by decide +kernel
                      have k2 := key n hn
                      rw [← en] at k2
                      simpa only [c0, c1, c2, c3, c4, c5, c6, c7, c9, false_or] using k2
                    simp only [c0, c1, c2, c3, c4, c5, c6, c7, c8, c9, if_true, if_false]
                    have hs2 : sp_send2 (sp_ru nu nm F U t j) t = um_send2 (um_st G (um_L nm F) t j) (G 1 j) := by
                      unfold sp_send2 um_send2
                      rw [h7, um_stk (by decide), um_stk (by decide), r6, r8, r1]
                    have hs01 : um_send2 (um_st G (um_L nm F) t j) (G 1 j) = 0 ∨ um_send2 (um_st G (um_L nm F) t j) (G 1 j) = 1 := by
                      unfold um_send2
                      repeat' split
                      all_goals simp
                    have hsend : sp_send (sp_ru nu nm F U t j) t = um_send (um_st G (um_L nm F) t j) (G 1 j) := by
                      unfold sp_send um_send
                      rw [hs2, um_stk (by decide), r2]
                    have hse01 : um_send (um_st G (um_L nm F) t j) (G 1 j) = 0 ∨ um_send (um_st G (um_L nm F) t j) (G 1 j) = 1 := by
                      unfold um_send
                      repeat' split
                      all_goals first | exact hs01 | exact Or.inl rfl
                    have n8 : ¬ (8 : Int32) = 0 ∧ ¬ (8 : Int32) = 1 ∧ ¬ (8 : Int32) = 2 ∧ ¬ (8 : Int32) = 3 ∧ ¬ (8 : Int32) = 4 ∧ ¬ (8 : Int32) = 5 ∧ ¬ (8 : Int32) = 6 ∧ ¬ (8 : Int32) = 7 ∧ ¬ (8 : Int32) = 9 := by decide
                    simp only [n8, if_false, hsend]
                    rcases hse01 with h | h <;> rw [h] <;> simp
theorem um_place_eq {nu nm : Nat} {F G U : Nat → Nat → Int32} (hB : um_both nu nm F G) (hH : um_home nu U G) (t : Int32) {j : Nat} (hj : j < nu) : sp_ru nu nm F U t j 9 = um_st G (um_L nm F) t j 8 ∧ sp_ru nu nm F U t j 11 = um_st G (um_L nm F) t j 10 ∧ sp_age (sp_ru nu nm F U t j) t = um_age (um_st G (um_L nm F) t j) t := by
  obtain ⟨r0, r1, r2, r3, r4, r5, r6, r7, r8, r9, r10, r11, r12, r13, r14⟩ := (um_ru hB hH t).1 j hj
  refine ⟨by rw [um_stk (by decide)]; exact r10, by rw [um_stk (by decide)]; exact r12, ?_⟩
  unfold sp_age um_age
  rw [um_stk (by decide), um_stk (by decide), r10]
  rcases r11 with h | ⟨h1, h2⟩
  · rw [h, if_pos rfl, if_neg (by decide)]
  · rw [if_neg (fun h => h1 (by rw [h]; decide)), if_pos (Int32.not_lt.mp h1), h2]
theorem um_many_eq {nu nm : Nat} {F G U : Nat → Nat → Int32} (hB : um_both nu nm F G) (hH : um_home nu U G) (t x : Int32) : ∀ n, n ≤ nu → sp_many (sp_ru nu nm F U t) x n = um_many G (um_L nm F) t x n := by
  intro n
  induction n with
  | zero => intro _; rfl
  | succ n ih =>
    intro hn
    have r2 := ((um_ru hB hH t).1 n (by omega)).2.2.1
    rw [sp_many, um_many, ih (by omega), um_stk (by decide), r2]
    by_cases h : um_w G (um_L nm F) t n 0 = x
    · rw [if_pos h, if_pos h]
    · rw [if_neg h, if_neg h]; simp
theorem um_add1 {x y : Int32} : 1 + x = y ↔ x = y - 1 := by
  constructor
  · intro h; rw [← h, Int32.add_comm, Int32.add_sub_cancel]
  · intro h; rw [h, Int32.add_comm, Int32.sub_add_cancel]
theorem um_arr_eq {nu nm : Nat} {F G U : Nat → Nat → Int32} (hB : um_both nu nm F G) (hH : um_home nu U G) (t inc rk : Int32) : ∀ f i, i + f ≤ nu → sp_arr nu (sp_ru nu nm F U t) inc rk f i = um_arr G (um_L nm F) nu t inc rk f i := by
  intro f
  induction f with
  | zero => intro i _; rfl
  | succ f ih =>
    intro i hi
    have hr := (um_ru hB hH t).1 i (by omega)
    have ht := um_there_st hr inc
    rw [sp_arr, um_arr, ih (i + 1) (by omega), ht]
    by_cases hz : um_there (um_st G (um_L nm F) t i) inc = 0
    · rw [if_pos hz, if_pos hz]
    · rw [if_neg hz, if_neg hz]
      obtain ⟨h1, h2⟩ := um_there_in hz
      have hk : sp_rank nu (sp_ru nu nm F U t) i = 1 + um_ahd G (um_L nm F) t inc (um_st G (um_L nm F) t i 11) nu := by
        rw [um_rank_eq hB hH t (by omega)]
        unfold um_rank
        rw [if_neg h1, h2]
      rw [hk]
      by_cases h : um_ahd G (um_L nm F) t inc (um_st G (um_L nm F) t i 11) nu = rk - 1
      · rw [if_pos h, if_pos (um_add1.mpr h)]
      · rw [if_neg h, if_neg (fun h3 => h (um_add1.mp h3))]
theorem um_upto_app {m : Nat} : ∀ {A B : List Nat}, m ∉ A → um_upto m (A ++ m :: B) = A ++ [m]
  | [], B, _ => by simp [um_upto]
  | a :: A, B, h => by
    have h1 : ¬ a = m := fun e => h (by rw [e]; exact List.mem_cons_self)
    have h2 : m ∉ A := fun e => h (List.mem_cons_of_mem _ e)
    rw [List.cons_append, um_upto, if_neg h1, um_upto_app h2]
    rfl
/-- the first q + 1 of the list, and the rest -/
theorem um_pre_split {od : Nat → Nat} {q : Nat} : ∀ d, ∃ B, um_pre od (q + 1 + d) = um_pre od q ++ od q :: B := by
  intro d
  induction d with
  | zero => exact ⟨[], um_pre_s⟩
  | succ d ih =>
    obtain ⟨B, e⟩ := ih
    refine ⟨B ++ [od (q + 1 + d)], ?_⟩
    rw [show q + 1 + (d + 1) = (q + 1 + d) + 1 by omega, um_pre_s, e]
    simp
theorem um_said_of {nu nm : Nat} {F G U : Nat → Nat → Int32} (hB : um_both nu nm F G) (hH : um_home nu U G) {m : Nat} (hm : m < nm) : sp_rf nu nm F U 99999 4 m = um_said G (um_L nm F) m := by
  obtain ⟨-, pe, hpe, hq, he, hf⟩ := um_ru hB hH 99999
  have hval := hB.2.2.2.2.2.2.2.2.2
  have hpn : pe = nm := by
    rcases he with h | h
    · exact h
    · rcases Nat.lt_or_ge pe nm with h2 | h2
      · exact absurd (hval _ (um_od_in hB h2)).2.2.2 (Int32.not_le.mpr h)
      · omega
  obtain ⟨q, hqn, eq⟩ := hB.2.2.2.2.2.2.2.1 m hm
  have h1 := hf q (by omega)
  rw [eq] at h1
  rw [h1]
  obtain ⟨⟨j, hj, ej⟩, -, -, hmin⟩ := hval m hm
  unfold um_said um_W0
  rw [ej, nI_clamp (by have := hB.1; omega)]
  obtain ⟨B, eB⟩ := um_pre_split (od := um_od F) (q := q) (nm - q - 1)
  rw [show q + 1 + (nm - q - 1) = nm by omega] at eB
  have hls : um_ls G (um_L nm F) j 99999 = um_ls G (um_pre (um_od F) q) j 99999 ++ m :: um_ls G B j 99999 := by
    show um_ls G (um_pre (um_od F) nm) j 99999 = _
    rw [eB, eq]
    simp [um_ls, ej, hmin]
  have hnot : m ∉ um_ls G (um_pre (um_od F) q) j 99999 := by
    intro h
    have h2 := (List.mem_filter.mp h).1
    simp only [um_pre, List.mem_map, List.mem_range] at h2
    obtain ⟨a, ha, ea⟩ := h2
    have h5 := hB.2.2.2.2.2.2.2.2.1 a q ha hqn
    rw [ea, eq] at h5
    exact um_lt_asymm h5 h5
  rw [hls, um_upto_app hnot, um_pre_s, eq, um_ls_s1 ej hmin]
  rfl
theorem um_cf_eq {nu nm : Nat} {F G U : Nat → Nat → Int32} (hB : um_both nu nm F G) (hH : um_home nu U G) (x : Int32) : ∀ n, n ≤ nm → sp_cf (sp_rf nu nm F U 99999 4) x n = um_cnt G (um_L nm F) x n := by
  intro n
  induction n with
  | zero => intro _; rfl
  | succ n ih =>
    intro hn
    rw [sp_cf, um_cnt, ih (by omega), um_said_of hB hH (by omega)]
    by_cases h : um_said G (um_L nm F) n = x
    · rw [if_pos h, if_pos h]
    · rw [if_neg h, if_neg h]; simp
theorem um_told_eq {nu nm : Nat} {F G U : Nat → Nat → Int32} {nk : Int32} (hB : um_both nu nm F G) (hH : um_home nu U G) {x : Int32} (hx : ¬ um_in x 0 6 = 0) : sp_toldR x nu nm nk F U = um_toR G (um_L nm F) x nu nm nk := by
  have hx2 : ∃ n, n < 7 ∧ x = nI n := um_in_spec (x := x) (n := 7) (by omega) hx
  obtain ⟨n, hn, rfl⟩ := hx2
  unfold sp_toldR um_toR
  rw [um_cf_eq hB hH (nI n) nm (Nat.le_refl _)]
  have : n = 0 ∨ n = 1 ∨ n = 2 ∨ n = 3 ∨ n = 4 ∨ n = 5 ∨ n = 6 := by omega
  rcases this with rfl | rfl | rfl | rfl | rfl | rfl | rfl
  · rfl
  · rfl
  · rfl
  · rfl
  · rfl
  · rfl
  · rfl
/-! how a call ends -/
theorem um_isU_eq {x : Int32} {n : Nat} (hn : n ≤ 200) : um_in x 0 (nI n - 1) = (if x < 0 then 0 else if nI n ≤ x then 0 else 1) := by
  unfold um_in
  by_cases a : x < 0
  · rw [if_pos a, if_pos a]
  · rw [if_neg a, if_neg a]
    have h1 : (nI n - 1).toInt = (n : Int) - 1 := by
      cases n with
      | zero => decide
      | succ k => rw [nI_pred, nI_toInt (by omega)]; omega
    have h2 : (nI n).toInt = n := nI_toInt (by omega)
    by_cases b : nI n ≤ x
    · have h3 := Int32.le_iff_toInt_le.mp b
      rw [if_pos b, if_pos (Int32.lt_iff_toInt_lt.mpr (by omega))]
    · have h3 : ¬ (nI n).toInt ≤ x.toInt := fun h => b (Int32.le_iff_toInt_le.mpr h)
      rw [if_neg b, if_neg (fun h => by have := Int32.lt_iff_toInt_lt.mp h; omega)]
theorem um_isU_s {x : Int32} {n : Nat} (hn : n ≤ 30) : um_isU x n = sp_isU x n := um_isU_eq (by omega)
theorem um_atK_eq {u t w : Int32} {nu : Nat} (hn : nu ≤ 30) : um_atK u t w nu = sp_atK u t w nu := by
  unfold um_atK sp_atK
  rw [um_isU_s hn]
  rfl
theorem um_plK_eq {u t : Int32} {nu : Nat} (hn : nu ≤ 30) : um_plK u t nu = sp_ruK u t nu := by
  unfold um_plK sp_ruK
  rw [um_isU_s hn]
  rfl
theorem um_full {n k : Nat} (h : n ≤ k) (hk : k ≤ 200) : (nI n < nI k) ↔ ¬ nI n = nI k := by
  rw [nI_ltI (by omega) (by omega), nI_eq (by omega) (by omega)]
  omega
theorem um_msgK_eq {u t k v : Int32} {nu nm : Nat} (hn : nu ≤ 30) (hm : nm ≤ 200) : um_msgK u t k v nu nm = sp_msgK u t k v nu nm := by
  unfold um_msgK sp_msgK
  rw [um_isU_s hn]
  have h := um_full (n := nm) (k := 200) hm (by omega)
  have e : (nI 200 : Int32) = 200 := by decide
  rw [e] at h
  have h2 : (if nI nm = 200 then (3 : Int32) else 0) = (if nI nm < 200 then 0 else 3) := by
    by_cases c : nI nm = 200
    · rw [if_pos c, if_neg (fun h3 => h.mp h3 c)]
    · rw [if_neg c, if_pos (h.mpr c)]
  rw [h2]
  rfl
theorem um_unitK_eq {a b : Int32} {nu : Nat} (hn : nu ≤ 30) : (um_unitK a b nu = 0 ∧ sp_unitK a b nu = 0) ∨ (um_unitK a b nu = 1 ∧ sp_unitK a b nu = 2) ∨ (um_unitK a b nu = 2 ∧ sp_unitK a b nu = 3) := by
  unfold um_unitK sp_unitK
  have h := um_full (n := nu) (k := 30) hn (by omega)
  have e : (nI 30 : Int32) = 30 := by decide
  rw [e] at h
  have e1 : um_in a 0 9 = sp_in a 9 := rfl
  have e2 : um_in b 0 9 = sp_in b 9 := rfl
  rw [e1, e2]
  by_cases c1 : sp_in a 9 = 0
  · simp [c1]
  · by_cases c2 : sp_in b 9 = 0
    · simp [c1, c2]
    · by_cases c : nI nu = 30
      · have c' : ¬ nI nu < 30 := fun h3 => h.mp h3 c
        simp only [c1, c2, c', if_false]
        rw [if_pos c]
        exact Or.inr (Or.inr (by constructor <;> first | rfl | trivial))
      · have c' := h.mpr c
        simp only [c1, c2, c', c, if_true, if_false]
        exact Or.inl ⟨trivial, trivial⟩
theorem um_wrK_eq {m : Int32} {nm : Nat} (hm : nm ≤ 200) : um_wrK m nm = sp_wrongK m nm := by
  unfold um_wrK sp_wrongK
  rw [um_isU_eq hm]
  by_cases a : m < 0
  · simp [a]
  · by_cases b : nI nm ≤ m
    · have b' : ¬ m < nI nm := Int32.not_lt.mpr b
      simp [a, b, b']
    · have b' : m < nI nm := um_not_le b
      simp [a, b, b']
theorem um_toK_eq (w : Int32) : um_toK w = sp_toldK w := by
  unfold um_toK
  by_cases h : um_in w 0 6 = 0
  · rw [if_pos h]
    unfold sp_toldK
    have key : ∀ n, n < 7 → ¬ um_in (nI n) 0 6 = 0 := by decide +kernel
    have h0 : ¬ w = 0 := fun e => key 0 (by omega) (by rw [e] at h; exact h)
    have h1 : ¬ w = 1 := fun e => key 1 (by omega) (by rw [e] at h; exact h)
    have h2 : ¬ w = 2 := fun e => key 2 (by omega) (by rw [e] at h; exact h)
    have h3 : ¬ w = 3 := fun e => key 3 (by omega) (by rw [e] at h; exact h)
    have h4 : ¬ w = 4 := fun e => key 4 (by omega) (by rw [e] at h; exact h)
    have h5 : ¬ w = 5 := fun e => key 5 (by omega) (by rw [e] at h; exact h)
    have h6 : ¬ w = 6 := fun e => key 6 (by omega) (by rw [e] at h; exact h)
    simp only [h0, h1, h2, h3, h4, h5, h6, if_false]
  · rw [if_neg h]
    obtain ⟨n, hn, rfl⟩ : ∃ n, n < 7 ∧ w = nI n := um_in_spec (x := w) (n := 7) (by omega) h
    have key : ∀ n, n < 7 → (0 : Int32) = sp_toldK (nI n) := by decide +kernel
    exact key n hn
theorem um_maK_eq (s t : Int32) : um_maK s t = sp_manyK s t := rfl
theorem um_arK_eq (i rk t : Int32) : um_arK i rk t = sp_arrK i rk t := by
  unfold um_arK sp_arrK
  have e1 : um_in i 0 19 = sp_in i 19 := rfl
  have e2 : um_in t 0 99999 = sp_in t 99999 := rfl
  rw [e1, e2]
  by_cases c : rk < 1
  · have c' : ¬ 1 ≤ rk := Int32.not_le.mpr c
    simp only [c, c', if_true, if_false]
    by_cases d : sp_in t 99999 = 0
    · simp [d]
    · simp [d]
  · have c' : 1 ≤ rk := Int32.not_lt.mp c
    simp only [c, c', if_true, if_false]
/-! what a call leaves -/
theorem um_unit_keep {nu nm : Nat} {F G U : Nat → Nat → Int32} (hB : um_both nu nm F G) (hH : um_home nu U G) (hn : nu < 30) (h k : Int32) : um_both (nu + 1) nm F (um_unitG nu G h k) ∧ um_home (nu + 1) (va_up U nu (sp_settle (U nu) h k)) (um_unitG nu G h k) := by
  obtain ⟨hnu, hnm, e0, e1, e2, e3, hO, hsu, hso, hval⟩ := hB
  refine ⟨⟨by omega, hnm, e0, e1, e2, e3, hO, hsu, hso, fun m hm => ?_⟩, fun j hj => ?_⟩
  · obtain ⟨⟨j, hj, ej⟩, h2⟩ := hval m hm
    exact ⟨⟨j, by omega, ej⟩, h2⟩
  · by_cases hjn : j = nu
    · subst hjn
      rw [va_up_self]
      have g0 : um_unitG j G h k 0 = upd (G 0) j h := rfl
      have g1 : um_unitG j G h k 1 = upd (G 1) j k := rfl
      rw [g0, g1]
      simp [sp_settle, upd]
    · rw [va_up_ne _ _ hjn]
      have g0 : um_unitG nu G h k 0 = upd (G 0) nu h := rfl
      have g1 : um_unitG nu G h k 1 = upd (G 1) nu k := rfl
      rw [g0, g1]
      have := hH j (by omega)
      simp [upd, hjn, this]
theorem um_ins_spec {mo : Nat → Int32} {number t : Int32} : ∀ (p : Nat) (oo : Nat → Int32), ∃ p0, p0 ≤ p ∧ (∀ q, q < p0 → sp_ins mo number t p oo q = oo q) ∧ sp_ins mo number t p oo p0 = number ∧ (∀ q, p0 ≤ q → q < p → sp_ins mo number t p oo (q + 1) = oo q) ∧
    (∀ q, p0 ≤ q → q < p → ¬ mo (oo q).toNatClampNeg ≤ t) ∧ (p0 = 0 ∨ mo (oo (p0 - 1)).toNatClampNeg ≤ t) ∧ ∀ q, p < q → sp_ins mo number t p oo q = oo q := by
  intro p
  induction p with
  | zero =>
    intro oo
    refine ⟨0, Nat.le_refl _, fun q h => absurd h (Nat.not_lt_zero q), by simp [sp_ins, upd], fun q _ h => absurd h (Nat.not_lt_zero q), fun q _ h => absurd h (Nat.not_lt_zero q), Or.inl rfl, fun q h => ?_⟩
    have : ¬ q = 0 := by omega
    simp [sp_ins, upd, this]
  | succ p ih =>
    intro oo
    by_cases hc : mo (oo p).toNatClampNeg ≤ t
    · have e : sp_ins mo number t (p + 1) oo = upd oo (p + 1) number := by rw [sp_ins, if_pos hc]
      rw [e]
      refine ⟨p + 1, Nat.le_refl _, fun q h => ?_, by simp [upd], fun q h1 h2 => by omega, fun q h1 h2 => by omega, Or.inr (by simpa using hc), fun q h => ?_⟩
      · have : ¬ q = p + 1 := by omega
        simp [upd, this]
      · have : ¬ q = p + 1 := by omega
        simp [upd, this]
    · have e : sp_ins mo number t (p + 1) oo = sp_ins mo number t p (upd oo (p + 1) (oo p)) := by rw [sp_ins, if_neg hc]
      rw [e]
      have hu : ∀ q, q ≠ p + 1 → upd oo (p + 1) (oo p) q = oo q := fun q h => by simp [upd, h]
      have hu1 : upd oo (p + 1) (oo p) (p + 1) = oo p := by simp [upd]
      obtain ⟨p0, h1, h2, h3, h4, h5, h6, h7⟩ := ih (upd oo (p + 1) (oo p))
      refine ⟨p0, by omega, fun q hq => (h2 q hq).trans (hu q (by omega)), h3, fun q ha hb => ?_, fun q ha hb => ?_, ?_, fun q hq => (h7 q (by omega)).trans (hu q (by omega))⟩
      · by_cases hqp : q = p
        · rw [hqp, h7 (p + 1) (by omega), hu1]
        · rw [h4 q ha (by omega), hu q (by omega)]
      · by_cases hqp : q = p
        · rw [hqp]; exact hc
        · have := h5 q ha (by omega)
          rw [hu q (by omega)] at this
          exact this
      · rcases h6 with h | h
        · exact Or.inl h
        · rw [hu _ (by omega)] at h
          exact Or.inr h
theorem um_msg_keep {nu nm : Nat} {F G U : Nat → Nat → Int32} (hB : um_both nu nm F G) (hH : um_home nu U G) (hn : nm < 200) {u t k v : Int32} (hu : ∃ j, j < nu ∧ u = nI j) (hk : ∃ i, i ≤ 15 ∧ k = nI i) (hv : k = 11 → ¬ v < 0) (ht : t ≤ 99999) :
    um_both nu (nm + 1) (sp_msgF nm F u t k v) (um_msgG nm G u t k v) ∧ um_home nu U (um_msgG nm G u t k v) := by
  obtain ⟨hnu, hnm, e0, e1, e2, e3, hO, hsu, hso, hval⟩ := hB
  have hG2 : um_msgG nm G u t k v 2 = upd (G 2) nm u := rfl
  have hG3 : um_msgG nm G u t k v 3 = upd (G 3) nm t := rfl
  have hG4 : um_msgG nm G u t k v 4 = upd (G 4) nm k := rfl
  have hG5 : um_msgG nm G u t k v 5 = upd (G 5) nm v := rfl
  have hF5 : sp_msgF nm F u t k v 5 = sp_ins (upd (F 1) nm t) (nI nm) t nm (F 5) := rfl
  obtain ⟨p0, h1, h2, h3, h4, h5, h6, -⟩ := um_ins_spec (mo := upd (F 1) nm t) (number := nI nm) (t := t) nm (F 5)
  rw [← hF5] at h2 h3 h4
  have hodn : ∀ q, q < nm → um_od F q < nm := fun q hq => by
    obtain ⟨n, hn2, en⟩ := hO q hq
    unfold um_od; rw [en, nI_clamp (by omega)]; exact hn2
  have o1 : ∀ q, q < p0 → um_od (sp_msgF nm F u t k v) q = um_od F q := fun q hq => by unfold um_od; rw [h2 q hq]
  have o2 : um_od (sp_msgF nm F u t k v) p0 = nm := by unfold um_od; rw [h3]; exact nI_clamp (by omega)
  have o3 : ∀ q, p0 ≤ q → q < nm → um_od (sp_msgF nm F u t k v) (q + 1) = um_od F q := fun q ha hb => by unfold um_od; rw [h4 q ha hb]
  have m1 : ∀ m, m < nm → um_msgG nm G u t k v 3 m = G 3 m := fun m hm => by
    have : ¬ m = nm := by omega
    rw [hG3]; simp [upd, this]
  have m2 : um_msgG nm G u t k v 3 nm = t := by rw [hG3]; simp [upd]
  have lt1 : ∀ a b, a < nm → b < nm → um_lt G a b → um_lt (um_msgG nm G u t k v) a b := fun a b ha hb h => by
    unfold um_lt; rw [m1 a ha, m1 b hb]; exact h
  have early : ∀ q, q < p0 → G 3 (um_od F q) ≤ t := fun q hq => by
    rcases h6 with h | h
    · omega
    · have hz : (F 5 (p0 - 1)).toNatClampNeg = um_od F (p0 - 1) := rfl
      have hl := hodn (p0 - 1) (by omega)
      have hne : ¬ um_od F (p0 - 1) = nm := by omega
      rw [hz] at h
      have h8 : G 3 (um_od F (p0 - 1)) ≤ t := by
        rw [← e1]
        simpa [upd, hne] using h
      by_cases hqe : q = p0 - 1
      · rw [hqe]; exact h8
      · rcases hso q (p0 - 1) (by omega) (by omega) with h9 | ⟨h9, -⟩
        · exact Int32.le_trans (Int32.le_of_lt h9) h8
        · rw [h9]; exact h8
  have late : ∀ q, p0 ≤ q → q < nm → t < G 3 (um_od F q) := fun q ha hb => by
    have h := h5 q ha hb
    have hl := hodn q hb
    have hne : ¬ um_od F q = nm := by omega
    have hz : (F 5 q).toNatClampNeg = um_od F q := rfl
    rw [hz] at h
    have h8 : ¬ G 3 (um_od F q) ≤ t := by
      rw [← e1]
      simpa [upd, hne] using h
    exact um_not_le h8
  refine ⟨⟨hnu, by omega, ?_, ?_, ?_, ?_, ?_, ?_, ?_, ?_⟩, fun j hj => ?_⟩
  · show upd (F 0) nm u = upd (G 2) nm u
    rw [e0]
  · show upd (F 1) nm t = upd (G 3) nm t
    rw [e1]
  · show upd (F 2) nm k = upd (G 4) nm k
    rw [e2]
  · show upd (F 3) nm v = upd (G 5) nm v
    rw [e3]
  · intro p hp
    rcases Nat.lt_trichotomy p p0 with h | h | h
    · obtain ⟨n, hn2, en⟩ := hO p (by omega)
      exact ⟨n, by omega, by rw [h2 p h]; exact en⟩
    · exact ⟨nm, by omega, by rw [h]; exact h3⟩
    · obtain ⟨q, rfl⟩ : ∃ q, p = q + 1 := ⟨p - 1, by omega⟩
      obtain ⟨n, hn2, en⟩ := hO q (by omega)
      exact ⟨n, by omega, by rw [h4 q (by omega) (by omega)]; exact en⟩
  · intro m hm
    by_cases hmn : m = nm
    · exact ⟨p0, by omega, by rw [hmn]; exact o2⟩
    · obtain ⟨q, hq, eq⟩ := hsu m (by omega)
      by_cases hqp : q < p0
      · exact ⟨q, by omega, by rw [o1 q hqp]; exact eq⟩
      · exact ⟨q + 1, by omega, by rw [o3 q (by omega) hq]; exact eq⟩
  · intro a b hab hb
    rcases Nat.lt_trichotomy b p0 with h | h | h
    · rw [o1 a (by omega), o1 b h]
      exact lt1 _ _ (hodn a (by omega)) (hodn b (by omega)) (hso a b hab (by omega))
    · have ha : a < p0 := by omega
      rw [h, o2, o1 a ha]
      have hl := hodn a (by omega)
      unfold um_lt
      rw [m1 _ hl, m2]
      rcases um_le_cases (early a ha) with h9 | h9
      · exact Or.inl h9
      · exact Or.inr ⟨h9, hl⟩
    · obtain ⟨b', rfl⟩ : ∃ q, b = q + 1 := ⟨b - 1, by omega⟩
      have hlb := hodn b' (by omega)
      rw [o3 b' (by omega) (by omega)]
      rcases Nat.lt_trichotomy a p0 with g | g | g
      · rw [o1 a g]
        exact lt1 _ _ (hodn a (by omega)) hlb (hso a b' (by omega) (by omega))
      · rw [g, o2]
        unfold um_lt
        rw [m2, m1 _ hlb]
        exact Or.inl (late b' (by omega) (by omega))
      · obtain ⟨a', rfl⟩ : ∃ q, a = q + 1 := ⟨a - 1, by omega⟩
        rw [o3 a' (by omega) (by omega)]
        exact lt1 _ _ (hodn a' (by omega)) hlb (hso a' b' (by omega) (by omega))
  · intro m hm
    rw [hG2, hG3, hG4, hG5]
    by_cases hmn : m = nm
    · subst hmn
      simp only [upd, if_true]
      exact ⟨hu, hk, hv, ht⟩
    · simp only [upd, hmn, if_false]
      exact hval m (by omega)
  · exact hH j hj
