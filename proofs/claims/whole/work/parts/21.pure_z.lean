/-! behind replay(t): each unit is the reference's, each finding what the reference says -/
theorem um_fresh_rel {G : Nat → Nat → Int32} {od : Nat → Nat} {nm j : Nat} {u : Nat → Int32} (h0 : u 0 = G 0 j) (h1 : u 1 = G 1 j) : um_rel G od nm j (sp_fresh u) (um_init G j um_v0) := by
  have e0 : sp_fresh u 0 = u 0 := rfl
  have e1 : sp_fresh u 1 = u 1 := rfl
  have e4 : sp_fresh u 4 = u 0 := rfl
  have e6 : sp_fresh u 6 = u 1 := rfl
  exact ⟨e0.trans h0, e1.trans h1, rfl, rfl, e4.trans h0, rfl, e6.trans h1, rfl, rfl, rfl, rfl, Or.inl rfl, rfl, Or.inl (show um_in 0 3 5 = 0 by decide), ⟨0, by omega, rfl⟩⟩
def um_home (nu : Nat) (U G : Nat → Nat → Int32) : Prop := ∀ j, j < nu → U j 0 = G 0 j ∧ U j 1 = G 1 j
/-- a unit's state in the reference, the minutes not yet spent -/
def um_w (G : Nat → Nat → Int32) (L : List Nat) (t : Int32) (j : Nat) : Nat → Int32 := um_run G j (um_ls G L j t) (um_init G j um_v0)
theorem um_st_eq {G : Nat → Nat → Int32} {L : List Nat} {t : Int32} {j : Nat} : um_st G L t j = um_spend (um_w G L t j) t := rfl
theorem um_ru {nu nm : Nat} {F G U : Nat → Nat → Int32} (hB : um_both nu nm F G) (hH : um_home nu U G) (t : Int32) :
    (∀ j, j < nu → um_rel G (um_od F) nm j (sp_ru nu nm F U t j) (um_w G (um_L nm F) t j)) ∧ ∃ pe, pe ≤ nm ∧ (∀ q, q < pe → G 3 (um_od F q) ≤ t) ∧ (pe = nm ∨ t < G 3 (um_od F pe)) ∧ ∀ q, q < pe → sp_rf nu nm F U t 4 (um_od F q) = um_W0 G (um_od F) t (q + 1) (G 2 (um_od F q)).toNatClampNeg 12 := by
  have hi : um_inv G (um_od F) nu nm t 0 (sp_st nu U) (F 4) := by
    refine ⟨fun j hj => ?_, fun q hq => absurd hq (Nat.not_lt_zero q)⟩
    have e : sp_st nu U j = sp_fresh (U j) := by simp [sp_st, hj]
    rw [e]
    exact um_fresh_rel (hH j hj).1 (hH j hj).2
  obtain ⟨pe, h1, h2, h3, h4, h5⟩ := um_rp hB (t := t) nm 0 (sp_st nu U) (F 4) (by omega) (fun q hq => absurd hq (Nat.not_lt_zero q)) hi
  refine ⟨fun j hj => ?_, pe, h1, h2, h3, h5⟩
  have e := um_ls_end hB h1 h3 j (nm - pe) (by omega)
  rw [show pe + (nm - pe) = nm by omega] at e
  have h6 := h4 j hj
  have e2 : um_w G (um_L nm F) t j = um_W0 G (um_od F) t pe j := by
    show um_run G j (um_ls G (um_pre (um_od F) nm) j t) (um_init G j um_v0) = _
    rw [e]
    rfl
  rw [e2]
  exact h6
theorem um_home_ru {nu nm : Nat} {F G U : Nat → Nat → Int32} (hB : um_both nu nm F G) (hH : um_home nu U G) (t : Int32) : um_home nu (sp_ru nu nm F U t) G :=
  fun j hj => ⟨((um_ru hB hH t).1 j hj).1, ((um_ru hB hH t).1 j hj).2.1⟩
theorem um_both_rf {nu nm : Nat} {F G U : Nat → Nat → Int32} (hB : um_both nu nm F G) (t : Int32) : um_both nu nm (sp_rf nu nm F U t) G := hB
/-- with arrivals: what the reference needs to look a minute up -/
theorem um_arr_ok {nu nm : Nat} {F G U : Nat → Nat → Int32} (hB : um_both nu nm F G) (hH : um_home nu U G) (t : Int32) (j : Nat) (hj : j < nu) (h : ¬ um_in (um_st G (um_L nm F) t j 0) 3 5 = 0) : ∃ a, a < nm ∧ um_st G (um_L nm F) t j 11 = nI a := by
  rw [um_st_eq, um_spend_o (by decide)] at h ⊢
  rcases ((um_ru hB hH t).1 j hj).2.2.2.2.2.2.2.2.2.2.2.2.2.1 with h1 | ⟨p, hp, -, h3⟩
  · exact absurd h1 h
  · obtain ⟨n, hn, en⟩ := hB.2.2.2.2.2.2.1 p hp
    refine ⟨um_od F p, ?_, h3⟩
    unfold um_od
    rw [en, nI_clamp (by have := hB.2.1; omega)]
    exact hn
theorem um_there_eq {u w : Nat → Int32} (h0 : u 2 = w 0) (h3 : u 5 = w 3) (i : Int32) : sp_there u i = um_there w i := by
  unfold sp_there um_there um_in
  rw [h0, h3]
  by_cases a : w 0 < 3
  · simp [a]
  · by_cases b : 5 < w 0
    · simp [a, b]
    · simp [a, b]
theorem um_there_st {G : Nat → Nat → Int32} {L : List Nat} {t : Int32} {j : Nat} {u : Nat → Int32} {od : Nat → Nat} {nm : Nat} (h : um_rel G od nm j u (um_w G L t j)) (i : Int32) : sp_there u i = um_there (um_st G L t j) i := by
  refine um_there_eq ?_ ?_ i
  · rw [um_st_eq, um_spend_o (by decide)]; exact h.2.2.1
  · rw [um_st_eq, um_spend_o (by decide)]; exact h.2.2.2.2.2.1
/-- places in the order compare as the messages do -/
theorem um_od_lt {nu nm : Nat} {F G : Nat → Nat → Int32} (hB : um_both nu nm F G) {a b : Nat} (ha : a < nm) (hb : b < nm) : um_lt G (um_od F a) (um_od F b) ↔ a < b := by
  constructor
  · intro h
    rcases Nat.lt_trichotomy a b with h1 | h1 | h1
    · exact h1
    · rw [h1] at h; exact absurd h (fun h => um_lt_asymm h h)
    · exact absurd (hB.2.2.2.2.2.2.2.2.1 b a h1 ha) (fun h2 => um_lt_asymm h h2)
  · intro h
    exact hB.2.2.2.2.2.2.2.2.1 a b h hb
theorem um_od_in {nu nm : Nat} {F G : Nat → Nat → Int32} (hB : um_both nu nm F G) {a : Nat} (ha : a < nm) : um_od F a < nm := by
  obtain ⟨n, hn, en⟩ := hB.2.2.2.2.2.2.1 a ha
  unfold um_od
  rw [en, nI_clamp (by have := hB.2.1; omega)]
  exact hn
theorem um_there_in {w : Nat → Int32} {i : Int32} (h : ¬ um_there w i = 0) : ¬ um_in (w 0) 3 5 = 0 ∧ w 3 = i := by
  unfold um_there at h
  by_cases a : um_in (w 0) 3 5 = 0
  · rw [if_pos a] at h; exact absurd rfl h
  · rw [if_neg a] at h
    by_cases b : w 3 = i
    · exact ⟨a, b⟩
    · rw [if_neg b] at h; exact absurd rfl h
theorem um_rk_eq {nu nm : Nat} {F G U : Nat → Nat → Int32} (hB : um_both nu nm F G) (hH : um_home nu U G) (t inc : Int32) {pj : Nat} (hpj : pj < nm) : ∀ n, n ≤ nu → sp_rk (sp_ru nu nm F U t) inc (nI pj) n = 1 + um_ahd G (um_L nm F) t inc (nI (um_od F pj)) n := by
  have hnm := hB.2.1
  intro n
  induction n with
  | zero => intro _; rw [sp_rk, um_ahd]; decide
  | succ n ih =>
    intro hn
    have hr := (um_ru hB hH t).1 n (by omega)
    have ht := um_there_st hr inc
    rw [sp_rk, um_ahd, ih (by omega), ht]
    unfold um_early
    by_cases hz : um_there (um_st G (um_L nm F) t n) inc = 0
    · rw [if_pos hz, if_pos hz]; simp
    · rw [if_neg hz, if_neg hz]
      have hin := (um_there_in hz).1
      have hst11 : um_st G (um_L nm F) t n 11 = um_w G (um_L nm F) t n 11 := by rw [um_st_eq, um_spend_o (by decide)]
      have hst0 : um_st G (um_L nm F) t n 0 = um_w G (um_L nm F) t n 0 := by rw [um_st_eq, um_spend_o (by decide)]
      rcases hr.2.2.2.2.2.2.2.2.2.2.2.2.2.1 with h1 | ⟨pn, hpn, e1, e2⟩
      · rw [hst0] at hin; exact absurd h1 hin
      · have ia := um_od_in hB hpn
        have ib := um_od_in hB hpj
        rw [e1, hst11, e2, nI_clamp (by omega), nI_clamp (by omega)]
        by_cases hlt : pn < pj
        · have hl := (um_od_lt hB hpn hpj).mpr hlt
          rw [if_neg (nI_ge hlt (by omega))]
          rcases hl with h | ⟨h, h'⟩
          · rw [if_pos h, Int32.add_assoc]
          · have hnl : ¬ G 3 (um_od F pn) < G 3 (um_od F pj) := by rw [h]; exact Int32.lt_irrefl
            rw [if_neg hnl, if_pos h, if_neg (nI_ge h' (by omega)), Int32.add_assoc]
        · rw [if_pos (nI_le (by omega) (by omega))]
          have hn1 : ¬ um_lt G (um_od F pn) (um_od F pj) := fun h => hlt ((um_od_lt hB hpn hpj).mp h)
          have hnl : ¬ G 3 (um_od F pn) < G 3 (um_od F pj) := fun h => hn1 (Or.inl h)
          rw [if_neg hnl]
          by_cases he : G 3 (um_od F pn) = G 3 (um_od F pj)
          · have h9 : ¬ um_od F pn < um_od F pj := fun h => hn1 (Or.inr ⟨he, h⟩)
            rw [if_pos he, if_pos (nI_le (by omega) (by omega))]
            simp
          · rw [if_neg he]
            simp
theorem um_inc_eq {u w : Nat → Int32} (h0 : u 2 = w 0) (h3 : u 5 = w 3) : sp_inc u = um_inc w := by
  unfold sp_inc um_inc um_in
  rw [h0, h3]
  by_cases a : w 0 < 1
  · simp [a]
  · by_cases b : 5 < w 0
    · simp [a, b]
    · simp [a, b]
theorem um_in35 : ∀ s, s < 11 → ¬ um_in (nI s) 3 5 = 0 → ¬ nI s < 1 ∧ ¬ 5 < nI s ∧ ¬ nI s < 3 := by decide +kernel
theorem um_rank_eq {nu nm : Nat} {F G U : Nat → Nat → Int32} (hB : um_both nu nm F G) (hH : um_home nu U G) (t : Int32) {j : Nat} (hj : j < nu) : sp_rank nu (sp_ru nu nm F U t) j = um_rank G (um_L nm F) nu t j := by
  have hr := (um_ru hB hH t).1 j hj
  have h0 : um_st G (um_L nm F) t j 0 = um_w G (um_L nm F) t j 0 := by rw [um_st_eq, um_spend_o (by decide)]
  have h3 : um_st G (um_L nm F) t j 3 = um_w G (um_L nm F) t j 3 := by rw [um_st_eq, um_spend_o (by decide)]
  have h11 : um_st G (um_L nm F) t j 11 = um_w G (um_L nm F) t j 11 := by rw [um_st_eq, um_spend_o (by decide)]
  have g0 := hr.2.2.1
  have g3 := hr.2.2.2.2.2.1
  unfold sp_rank um_rank
  rw [h0, h3, h11]
  by_cases hz : um_in (um_w G (um_L nm F) t j 0) 3 5 = 0
  · rw [if_pos hz, if_pos]
    rw [um_there_eq g0 g3]
    unfold um_there
    rw [if_pos hz]
  · obtain ⟨s, hs, es⟩ := hr.2.2.2.2.2.2.2.2.2.2.2.2.2.2
    have hk := um_in35 s (by omega) (by rw [← es]; exact hz)
    rw [← es] at hk
    have hinc : sp_inc (sp_ru nu nm F U t j) = um_w G (um_L nm F) t j 3 := by
      unfold sp_inc
      rw [g0, g3, if_neg hk.1, if_neg hk.2.1]
    rw [if_neg hz, hinc, if_neg]
    · rcases hr.2.2.2.2.2.2.2.2.2.2.2.2.2.1 with h1 | ⟨p, hp, e1, e2⟩
      · exact absurd h1 hz
      · rw [e1, e2]
        exact um_rk_eq hB hH t _ hp nu (Nat.le_refl _)
    · unfold sp_there
      rw [g0, g3, if_neg hk.2.2, if_neg hk.2.1, if_pos rfl]
      decide
