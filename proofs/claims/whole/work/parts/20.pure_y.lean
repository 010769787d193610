theorem um_step {G : Nat → Nat → Int32} {od : Nat → Nat} {nm j m p : Nat} {u w : Nat → Int32} (hr : um_rel G od nm j u w) (hp : p < nm) (hm : od p = m) (hk : ∃ k, k ≤ 15 ∧ G 4 m = nI k) (hv : G 4 m = 11 → ¬ G 5 m < 0) :
    um_rel G od nm j (sp_take u (G 4 m) (G 5 m) (G 3 m) (nI p)).2 (um_take G j m w) ∧ (sp_take u (G 4 m) (G 5 m) (G 3 m) (nI p)).1 = um_take G j m w 12 := by
  obtain ⟨k, hk, ek⟩ := hk
  have hr0 := hr
  obtain ⟨r0, r1, r2, r3, r4, r5, r6, r7, r8, r9, r10, r11, r12, r13, r14⟩ := hr
  have i11 : (11 : Int32) ≤ 11 := by decide
  have i12 : (11 : Int32) ≤ 12 := by decide
  have i13 : (11 : Int32) ≤ 13 := by decide
  have i14 : (11 : Int32) ≤ 14 := by decide
  have i15 : (11 : Int32) ≤ 15 := by decide
  have n1 : ¬ (12 : Int32) = 11 := by decide
  have n2 : ¬ (13 : Int32) = 11 ∧ ¬ (13 : Int32) = 12 := by decide
  have n3 : ¬ (14 : Int32) = 11 ∧ ¬ (14 : Int32) = 12 ∧ ¬ (14 : Int32) = 13 := by decide
  have n4 : ¬ (15 : Int32) = 11 ∧ ¬ (15 : Int32) = 12 ∧ ¬ (15 : Int32) = 13 ∧ ¬ (15 : Int32) = 14 := by decide
  unfold sp_take um_take
  by_cases c11 : G 4 m = 11
  · have hv2 := hv c11
    simp only [c11, i11, if_true, sp_tp]
    by_cases cl : w 6 = 0
    · simp only [r8, cl, if_true]
      exact ⟨⟨by simp [upd, r0, r1, r2, r3, r4, r5, r6, r7, r8, r9, r10, r12], by simp [upd, r0, r1, r2, r3, r4, r5, r6, r7, r8, r9, r10, r12], by simp [upd, r0, r1, r2, r3, r4, r5, r6, r7, r8, r9, r10, r12], by simp [upd, r0, r1, r2, r3, r4, r5, r6, r7, r8, r9, r10, r12], by simp [upd, r0, r1, r2, r3, r4, r5, r6, r7, r8, r9, r10, r12], by simp [upd, r0, r1, r2, r3, r4, r5, r6, r7, r8, r9, r10, r12], by simp [upd, r0, r1, r2, r3, r4, r5, r6, r7, r8, r9, r10, r12], by simp [upd, r0, r1, r2, r3, r4, r5, r6, r7, r8, r9, r10, r12], by simp [upd, r0, r1, r2, r3, r4, r5, r6, r7, r8, r9, r10, r12], by simp [upd, r0, r1, r2, r3, r4, r5, r6, r7, r8, r9, r10, r12], by simp [upd, r0, r1, r2, r3, r4, r5, r6, r7, r8, r9, r10, r12], by simpa [upd] using r11, by simp [upd, r0, r1, r2, r3, r4, r5, r6, r7, r8, r9, r10, r12], by simpa [upd] using r13, by simpa [upd] using r14⟩, by simp [upd, r0, r1, r2, r3, r4, r5, r6, r7, r8, r9, r10, r12]⟩
    · simp only [r8, cl, if_false]
      exact ⟨⟨by simp [upd, r0, r1, r2, r3, r4, r5, r6, r7, r8, r9, r10, r12], by simp [upd, r0, r1, r2, r3, r4, r5, r6, r7, r8, r9, r10, r12], by simp [upd, r0, r1, r2, r3, r4, r5, r6, r7, r8, r9, r10, r12], by simp [upd, r0, r1, r2, r3, r4, r5, r6, r7, r8, r9, r10, r12], by simp [upd, r0, r1, r2, r3, r4, r5, r6, r7, r8, r9, r10, r12], by simp [upd, r0, r1, r2, r3, r4, r5, r6, r7, r8, r9, r10, r12], by simp [upd, r0, r1, r2, r3, r4, r5, r6, r7, r8, r9, r10, r12], by simp [upd, r0, r1, r2, r3, r4, r5, r6, r7, r8, r9, r10, r12], by simp [upd, r0, r1, r2, r3, r4, r5, r6, r7, r8, r9, r10, r12], by simp [upd, r0, r1, r2, r3, r4, r5, r6, r7, r8, r9, r10, r12], by simp [upd, r0, r1, r2, r3, r4, r5, r6, r7, r8, r9, r10, r12], Or.inr ⟨by simp only [upd]; exact hv2, by simp [upd]⟩, by simp [upd, r0, r1, r2, r3, r4, r5, r6, r7, r8, r9, r10, r12], by simpa [upd] using r13, by simpa [upd] using r14⟩, by simp [upd, r0, r1, r2, r3, r4, r5, r6, r7, r8, r9, r10, r12]⟩
  · by_cases c12 : G 4 m = 12
    · simp only [c12, i12, n1, if_true, if_false]
      exact ⟨⟨by simp [upd, r0, r1, r2, r3, r4, r5, r6, r7, r8, r9, r10, r12], by simp [upd, r0, r1, r2, r3, r4, r5, r6, r7, r8, r9, r10, r12], by simp [upd, r0, r1, r2, r3, r4, r5, r6, r7, r8, r9, r10, r12], by simp [upd, r0, r1, r2, r3, r4, r5, r6, r7, r8, r9, r10, r12], by simp [upd, r0, r1, r2, r3, r4, r5, r6, r7, r8, r9, r10, r12], by simp [upd, r0, r1, r2, r3, r4, r5, r6, r7, r8, r9, r10, r12], by simp [upd, r0, r1, r2, r3, r4, r5, r6, r7, r8, r9, r10, r12], by simp [upd, r0, r1, r2, r3, r4, r5, r6, r7, r8, r9, r10, r12], by simp [upd, r0, r1, r2, r3, r4, r5, r6, r7, r8, r9, r10, r12], by simp [upd, r0, r1, r2, r3, r4, r5, r6, r7, r8, r9, r10, r12], by simp [upd, r0, r1, r2, r3, r4, r5, r6, r7, r8, r9, r10, r12], by simpa [upd] using r11, by simp [upd, r0, r1, r2, r3, r4, r5, r6, r7, r8, r9, r10, r12], by simpa [upd] using r13, by simpa [upd] using r14⟩, by simp [upd, r0, r1, r2, r3, r4, r5, r6, r7, r8, r9, r10, r12]⟩
    · by_cases c13 : G 4 m = 13
      · simp only [c13, i13, n2.1, n2.2, if_true, if_false]
        exact ⟨⟨by simp [upd, r0, r1, r2, r3, r4, r5, r6, r7, r8, r9, r10, r12], by simp [upd, r0, r1, r2, r3, r4, r5, r6, r7, r8, r9, r10, r12], by simp [upd, r0, r1, r2, r3, r4, r5, r6, r7, r8, r9, r10, r12], by simp [upd, r0, r1, r2, r3, r4, r5, r6, r7, r8, r9, r10, r12], by simp [upd, r0, r1, r2, r3, r4, r5, r6, r7, r8, r9, r10, r12], by simp [upd, r0, r1, r2, r3, r4, r5, r6, r7, r8, r9, r10, r12], by simp [upd, r0, r1, r2, r3, r4, r5, r6, r7, r8, r9, r10, r12], by simp [upd, r0, r1, r2, r3, r4, r5, r6, r7, r8, r9, r10, r12], by simp [upd, r0, r1, r2, r3, r4, r5, r6, r7, r8, r9, r10, r12], by simp [upd, r0, r1, r2, r3, r4, r5, r6, r7, r8, r9, r10, r12], by simp [upd, r0, r1, r2, r3, r4, r5, r6, r7, r8, r9, r10, r12], by simpa [upd] using r11, by simp [upd, r0, r1, r2, r3, r4, r5, r6, r7, r8, r9, r10, r12], by simpa [upd] using r13, by simpa [upd] using r14⟩, by simp [upd, r0, r1, r2, r3, r4, r5, r6, r7, r8, r9, r10, r12]⟩
      · by_cases c14 : G 4 m = 14
        · simp only [c14, i14, n3.1, n3.2.1, n3.2.2, if_true, if_false]
          exact ⟨⟨by simp [upd, r0, r1, r2, r3, r4, r5, r6, r7, r8, r9, r10, r12], by simp [upd, r0, r1, r2, r3, r4, r5, r6, r7, r8, r9, r10, r12], by simp [upd, r0, r1, r2, r3, r4, r5, r6, r7, r8, r9, r10, r12], by simp [upd, r0, r1, r2, r3, r4, r5, r6, r7, r8, r9, r10, r12], by simp [upd, r0, r1, r2, r3, r4, r5, r6, r7, r8, r9, r10, r12], by simp [upd, r0, r1, r2, r3, r4, r5, r6, r7, r8, r9, r10, r12], by simp [upd, r0, r1, r2, r3, r4, r5, r6, r7, r8, r9, r10, r12], by simp [upd, r0, r1, r2, r3, r4, r5, r6, r7, r8, r9, r10, r12], by simp [upd, r0, r1, r2, r3, r4, r5, r6, r7, r8, r9, r10, r12], by simp [upd, r0, r1, r2, r3, r4, r5, r6, r7, r8, r9, r10, r12], by simp [upd, r0, r1, r2, r3, r4, r5, r6, r7, r8, r9, r10, r12], by simpa [upd] using r11, by simp [upd, r0, r1, r2, r3, r4, r5, r6, r7, r8, r9, r10, r12], by simpa [upd] using r13, by simpa [upd] using r14⟩, by simp [upd, r0, r1, r2, r3, r4, r5, r6, r7, r8, r9, r10, r12]⟩
        · by_cases c15 : G 4 m = 15
          · simp only [c15, i15, n4.1, n4.2.1, n4.2.2.1, n4.2.2.2, if_true, if_false]
            exact ⟨⟨by simp [upd, r0, r1, r2, r3, r4, r5, r6, r7, r8, r9, r10, r12], by simp [upd, r0, r1, r2, r3, r4, r5, r6, r7, r8, r9, r10, r12], by simp [upd, r0, r1, r2, r3, r4, r5, r6, r7, r8, r9, r10, r12], by simp [upd, r0, r1, r2, r3, r4, r5, r6, r7, r8, r9, r10, r12], by simp [upd, r0, r1, r2, r3, r4, r5, r6, r7, r8, r9, r10, r12], by simp [upd, r0, r1, r2, r3, r4, r5, r6, r7, r8, r9, r10, r12], by simp [upd, r0, r1, r2, r3, r4, r5, r6, r7, r8, r9, r10, r12], by simp [upd, r0, r1, r2, r3, r4, r5, r6, r7, r8, r9, r10, r12], by simp [upd, r0, r1, r2, r3, r4, r5, r6, r7, r8, r9, r10, r12], by simp [upd, r0, r1, r2, r3, r4, r5, r6, r7, r8, r9, r10, r12], by simp [upd, r0, r1, r2, r3, r4, r5, r6, r7, r8, r9, r10, r12], by simpa [upd] using r11, by simp [upd, r0, r1, r2, r3, r4, r5, r6, r7, r8, r9, r10, r12], by simpa [upd] using r13, by simpa [upd] using r14⟩, by simp [upd, r0, r1, r2, r3, r4, r5, r6, r7, r8, r9, r10, r12]⟩
          · have hk10 : k ≤ 10 := by
              rcases Nat.lt_or_ge 10 k with h | h
              · exfalso
                have : k = 11 ∨ k = 12 ∨ k = 13 ∨ k = 14 ∨ k = 15 := by omega
                rcases this with h9 | h9 | h9 | h9 | h9
                · exact c11 (by rw [ek, h9]; decide)
                · exact c12 (by rw [ek, h9]; decide)
                · exact c13 (by rw [ek, h9]; decide)
                · exact c14 (by rw [ek, h9]; decide)
                · exact c15 (by rw [ek, h9]; decide)
              · exact h
            have hsm := um_small k (by omega)
            rw [← ek] at hsm
            have hcan : sp_can (u 2) (G 4 m) = um_fls (w 0) (G 4 m) := by
              obtain ⟨s, hs, es⟩ := r14
              rw [r2, es, ek]
              exact um_can s (by omega) k (by omega)
            simp only [c11, c12, c13, c14, c15, hsm.1, if_false]
            unfold sp_tst
            rw [hcan, um_nc, r1, r6]
            by_cases hf : um_fls (w 0) (G 4 m) = 0
            · simp only [hf, if_true]
              exact ⟨⟨by simp [upd, r0, r1, r2, r3, r4, r5, r6, r7, r8, r9, r10, r12], by simp [upd, r0, r1, r2, r3, r4, r5, r6, r7, r8, r9, r10, r12], by simp [upd, r0, r1, r2, r3, r4, r5, r6, r7, r8, r9, r10, r12], by simp [upd, r0, r1, r2, r3, r4, r5, r6, r7, r8, r9, r10, r12], by simp [upd, r0, r1, r2, r3, r4, r5, r6, r7, r8, r9, r10, r12], by simp [upd, r0, r1, r2, r3, r4, r5, r6, r7, r8, r9, r10, r12], by simp [upd, r0, r1, r2, r3, r4, r5, r6, r7, r8, r9, r10, r12], by simp [upd, r0, r1, r2, r3, r4, r5, r6, r7, r8, r9, r10, r12], by simp [upd, r0, r1, r2, r3, r4, r5, r6, r7, r8, r9, r10, r12], by simp [upd, r0, r1, r2, r3, r4, r5, r6, r7, r8, r9, r10, r12], by simp [upd, r0, r1, r2, r3, r4, r5, r6, r7, r8, r9, r10, r12], by simpa [upd] using r11, by simp [upd, r0, r1, r2, r3, r4, r5, r6, r7, r8, r9, r10, r12], by simpa [upd] using r13, by simpa [upd] using r14⟩, by simp [upd, r0, r1, r2, r3, r4, r5, r6, r7, r8, r9, r10, r12]⟩
            · simp only [hf, if_false]
              have hg := um_go (p := p) hr0 hp hm hk10 ek (by rw [← ek]; exact hf)
              by_cases hc : um_in (G 4 m) 2 4 = 0
              · simp only [hc, if_true]
                exact hg
              · simp only [hc, if_false]
                by_cases hcr : G 1 j ≤ w 4
                · simp only [hcr, if_true]
                  exact hg
                · simp only [hcr, if_false]
                  exact ⟨⟨by simp [upd, r0, r1, r2, r3, r4, r5, r6, r7, r8, r9, r10, r12], by simp [upd, r0, r1, r2, r3, r4, r5, r6, r7, r8, r9, r10, r12], by simp [upd, r0, r1, r2, r3, r4, r5, r6, r7, r8, r9, r10, r12], by simp [upd, r0, r1, r2, r3, r4, r5, r6, r7, r8, r9, r10, r12], by simp [upd, r0, r1, r2, r3, r4, r5, r6, r7, r8, r9, r10, r12], by simp [upd, r0, r1, r2, r3, r4, r5, r6, r7, r8, r9, r10, r12], by simp [upd, r0, r1, r2, r3, r4, r5, r6, r7, r8, r9, r10, r12], by simp [upd, r0, r1, r2, r3, r4, r5, r6, r7, r8, r9, r10, r12], by simp [upd, r0, r1, r2, r3, r4, r5, r6, r7, r8, r9, r10, r12], by simp [upd, r0, r1, r2, r3, r4, r5, r6, r7, r8, r9, r10, r12], by simp [upd, r0, r1, r2, r3, r4, r5, r6, r7, r8, r9, r10, r12], by simpa [upd] using r11, by simp [upd, r0, r1, r2, r3, r4, r5, r6, r7, r8, r9, r10, r12], by simpa [upd] using r13, by simpa [upd] using r14⟩, by simp [upd, r0, r1, r2, r3, r4, r5, r6, r7, r8, r9, r10, r12]⟩

/-! replay, in step -/
def um_od (F : Nat → Nat → Int32) : Nat → Nat := fun p => (F 5 p).toNatClampNeg
def um_pre (od : Nat → Nat) (p : Nat) : List Nat := (List.range p).map od
theorem um_pre_s {od : Nat → Nat} {p : Nat} : um_pre od (p + 1) = um_pre od p ++ [od p] := by
  simp [um_pre, List.range_succ]
theorem um_run_app {G : Nat → Nat → Int32} {j : Nat} : ∀ (A : List Nat) (m : Nat) (v : Nat → Int32), um_run G j (A ++ [m]) v = um_take G j m (um_run G j A v)
  | [], _, _ => rfl
  | a :: A, m, v => um_run_app A m (um_take G j a v)
theorem um_ls_s1 {G : Nat → Nat → Int32} {A : List Nat} {m j : Nat} {t : Int32} (h1 : G 2 m = nI j) (h2 : G 3 m ≤ t) : um_ls G (A ++ [m]) j t = um_ls G A j t ++ [m] := by
  simp [um_ls, h1, h2]
theorem um_ls_s0 {G : Nat → Nat → Int32} {A : List Nat} {m j : Nat} {t : Int32} (h1 : ¬ G 2 m = nI j) : um_ls G (A ++ [m]) j t = um_ls G A j t := by
  simp [um_ls, h1]
def um_v0 : Nat → Int32 := fun _ => 0
def um_W0 (G : Nat → Nat → Int32) (od : Nat → Nat) (t : Int32) (p j : Nat) : Nat → Int32 := um_run G j (um_ls G (um_pre od p) j t) (um_init G j um_v0)
/-- the units and findings behind the first p messages -/
def um_inv (G : Nat → Nat → Int32) (od : Nat → Nat) (nu nm : Nat) (t : Int32) (p : Nat) (V : Nat → Nat → Int32) (fo : Nat → Int32) : Prop :=
  (∀ j, j < nu → um_rel G od nm j (V j) (um_W0 G od t p j)) ∧ ∀ q, q < p → fo (od q) = um_W0 G od t (q + 1) (G 2 (od q)).toNatClampNeg 12
/-- both sides hold the same: the rows, the order of the messages, what they may say -/
def um_both (nu nm : Nat) (F G : Nat → Nat → Int32) : Prop :=
  nu ≤ 30 ∧ nm ≤ 200 ∧ F 0 = G 2 ∧ F 1 = G 3 ∧ F 2 = G 4 ∧ F 3 = G 5 ∧ (∀ p, p < nm → ∃ n, n < nm ∧ F 5 p = nI n) ∧ (∀ m, m < nm → ∃ p, p < nm ∧ um_od F p = m) ∧ (∀ a b, a < b → b < nm → um_lt G (um_od F a) (um_od F b)) ∧
  (∀ m, m < nm → (∃ j, j < nu ∧ G 2 m = nI j) ∧ (∃ k, k ≤ 15 ∧ G 4 m = nI k) ∧ (G 4 m = 11 → ¬ G 5 m < 0) ∧ G 3 m ≤ 99999)
theorem um_rp {nu nm : Nat} {F G : Nat → Nat → Int32} (hB : um_both nu nm F G) {t : Int32} : ∀ (f p : Nat) (V : Nat → Nat → Int32) (fo : Nat → Int32), p + f = nm → (∀ q, q < p → G 3 (um_od F q) ≤ t) → um_inv G (um_od F) nu nm t p V fo →
    ∃ pe, pe ≤ nm ∧ (∀ q, q < pe → G 3 (um_od F q) ≤ t) ∧ (pe = nm ∨ t < G 3 (um_od F pe)) ∧ um_inv G (um_od F) nu nm t pe (sp_rp F t f p (V, fo)).1 (sp_rp F t f p (V, fo)).2 := by
  obtain ⟨hnu, hnm, e0, e1, e2, e3, hO, hsu, hso, hval⟩ := hB
  intro f
  induction f with
  | zero => intro p V fo hp hq hi; exact ⟨p, by omega, hq, Or.inl (by omega), hi⟩
  | succ f ih =>
    intro p V fo hp hq hi
    have hpl : p < nm := by omega
    obtain ⟨n, hn, en⟩ := hO p hpl
    have hod : um_od F p = n := by unfold um_od; rw [en]; exact nI_clamp (by omega)
    have hcl : (F 5 p).toNatClampNeg = n := hod
    by_cases hle : F 1 n ≤ t
    · obtain ⟨⟨j, hj, ej⟩, hkind, hvv, -⟩ := hval n hn
      have hjc : (F 0 n).toNatClampNeg = j := by rw [e0, ej]; exact nI_clamp (by omega)
      have hst := um_step (hi.1 j hj) hpl hod hkind hvv
      have hle3 : G 3 n ≤ t := by rw [← e1]; exact hle
      have hW1 : um_W0 G (um_od F) t (p + 1) j = um_take G j n (um_W0 G (um_od F) t p j) := by
        unfold um_W0
        rw [um_pre_s, hod, um_ls_s1 ej hle3, um_run_app]
      have hW2 : ∀ i, i < nu → i ≠ j → um_W0 G (um_od F) t (p + 1) i = um_W0 G (um_od F) t p i := by
        intro i hi2 hij
        unfold um_W0
        rw [um_pre_s, hod, um_ls_s0 (fun h => hij ((nI_eq (by omega) (by omega)).mp (h.symm.trans ej)))]
      have hinv : um_inv G (um_od F) nu nm t (p + 1) (va_up V j (sp_take (V j) (F 2 n) (F 3 n) (F 1 n) (nI p)).2) (upd fo n (sp_take (V j) (F 2 n) (F 3 n) (F 1 n) (nI p)).1) := by
        rw [e1, e2, e3]
        refine ⟨fun i hi2 => ?_, fun q hq2 => ?_⟩
        · by_cases hij : i = j
          · subst hij
            rw [va_up_self, hW1]
            exact hst.1
          · rw [va_up_ne _ _ hij, hW2 i hi2 hij]
            exact hi.1 i hi2
        · by_cases hqp : q = p
          · subst hqp
            rw [hod, ej, nI_clamp (by omega), hW1]
            simp only [upd, if_true]
            exact hst.2
          · have hne : ¬ um_od F q = n := by
              intro h
              rw [← hod] at h
              have h5 := hso q p (by omega) hpl
              rw [h] at h5
              exact um_lt_asymm h5 h5
            rw [show upd fo n (sp_take (V j) (G 4 n) (G 5 n) (G 3 n) (nI p)).1 (um_od F q) = fo (um_od F q) by simp [upd, hne]]
            exact hi.2 q (by omega)
      have hq' : ∀ q, q < p + 1 → G 3 (um_od F q) ≤ t := by
        intro q hq2
        by_cases hqp : q = p
        · rw [hqp, hod]; exact hle3
        · exact hq q (by omega)
      have := ih (p + 1) _ _ (by omega) hq' hinv
      rw [sp_rp, hcl, if_pos hle, hjc]
      exact this
    · have e : sp_rp F t (f + 1) p (V, fo) = (V, fo) := by rw [sp_rp, hcl, if_neg hle]
      rw [e]
      refine ⟨p, by omega, hq, Or.inr ?_, hi⟩
      rw [hod, ← e1]
      exact um_not_le hle
theorem um_ok_of {nu nm : Nat} {F G : Nat → Nat → Int32} (hB : um_both nu nm F G) : um_ok G nm (um_pre (um_od F) nm) := by
  obtain ⟨hnu, hnm, e0, e1, e2, e3, hO, hsu, hso, hval⟩ := hB
  refine ⟨fun m => ?_, ?_⟩
  · simp only [um_pre, List.mem_map, List.mem_range]
    constructor
    · rintro ⟨p, hp, rfl⟩
      obtain ⟨n, hn, en⟩ := hO p hp
      unfold um_od
      rw [en, nI_clamp (by omega)]
      exact hn
    · intro hm
      exact hsu m hm
  · unfold um_pre
    rw [List.pairwise_map]
    refine List.Pairwise.imp_of_mem ?_ List.pairwise_lt_range
    intro a b ha hb hab
    exact hso a b hab (List.mem_range.mp hb)
/-- the list of all messages -/
def um_L (nm : Nat) (F : Nat → Nat → Int32) : List Nat := um_pre (um_od F) nm
/-- what lies behind the last message that counts is not the unit's -/
theorem um_ls_end {nu nm : Nat} {F G : Nat → Nat → Int32} (hB : um_both nu nm F G) {t : Int32} {pe : Nat} (hpe : pe ≤ nm) (he : pe = nm ∨ t < G 3 (um_od F pe)) (j : Nat) : ∀ d, pe + d ≤ nm → um_ls G (um_pre (um_od F) (pe + d)) j t = um_ls G (um_pre (um_od F) pe) j t := by
  intro d
  induction d with
  | zero => intro _; rfl
  | succ d ih =>
    intro hd
    have hgt : ¬ G 3 (um_od F (pe + d)) ≤ t := by
      rcases he with h | h
      · omega
      · intro h2
        rcases Nat.eq_zero_or_pos d with h0 | h0
        · subst h0; exact absurd h2 (Int32.not_le.mpr h)
        · rcases hB.2.2.2.2.2.2.2.2.1 pe (pe + d) (by omega) (by omega) with h5 | ⟨h5, -⟩
          · exact absurd (Int32.le_trans (Int32.le_of_lt h5) h2) (Int32.not_le.mpr h)
          · rw [← h5] at h2; exact absurd h2 (Int32.not_le.mpr h)
    rw [show pe + (d + 1) = (pe + d) + 1 by omega, um_pre_s]
    rw [← ih (by omega)]
    simp [um_ls, hgt]
