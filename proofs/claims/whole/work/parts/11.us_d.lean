set_option maxHeartbeats 8000000 in
set_option maxRecDepth 100000 in
theorem kt_X1_place (l : Launch) (hl9 : l.stackTraces = false) (dC : Nat → ClassId) (dI : Nat → Nat → Nat) (ad : Nat → Nat) (cU cI : ClassId) (pa : Nat → Nat) (sz : Nat) (nu nm : Nat) (nk : Int32) (F U : Nat → Nat → Int32) (p1 : Int32) (p2 : Int32) (hnu : nu ≤ 30) (hnm : nm ≤ 200) (hO : ∀ p, p < nm → ∃ n, n < nm ∧ F 5 p = nI n) (hV : ∀ n, n < nm → ∃ j, j < nu ∧ F 0 n = nI j) : vx_Met l yX1_place wsX1_place ({ frames := 8, cells := 2, slots := 12, locals := 136 }) (va_Pc [.ref (ad 0), .int p1, .int p2] (us_Px dC dI ad cU cI pa nu nm nk F U (us_AA (us_ads ad pa) sz) sz)) (va_Qi (fun r (_ : Unit) => sp_ruK p1 p2 nu = 0 ∧ r = (sp_ru nu nm F U p2) p1.toNatClampNeg 9) (fun _ t => us_Bx dC dI ad cU cI pa nu nm nk (sp_rf nu nm F U p2) (sp_ru nu nm F U p2) t) (us_AA (us_ads ad pa) sz)) (vx_X (fun _ : Unit => ¬ sp_ruK p1 p2 nu = 0) (fun E _ t => E = us_en (sp_ruK p1 p2 nu) ∧ us_Bx dC dI ad cU cI pa nu nm nk F U t) (us_AA (us_ads ad pa) sz)) 2 12 (us_AA (us_ads ad pa) sz) := by
  refine vx_ofW (cc := cX1_place) (maxL := 3) (ret := (some .int)) (by decide) rfl ?_
  intro p e s m args below meth c s₁ B hml hte hv
  obtain ⟨rfl, hsz, hP, hK, hD, hE⟩ := hv
  have hx := B.exec
  have hb := B.bytes
  have hr := B.returns
  have htb := us_htb (atoms_spec (ws := wsX1_place) B.pre)
  have hown : s.vm.findClass RX1 = some m.cls := findClass_of_methodNamed B.named
  have hlocks := B.notSynchronized
  subst hsz
  have hA : ∀ q : Nat, s.heap.size ≤ q → (us_AA (us_ads ad pa) s.heap.size) q := fun q h => Or.inr h
  have hS : va_S (us_AA (us_ads ad pa) s.heap.size) s.heap s.heap [] := va_S.rf
  have hP : va_P (dC, dI) vwCl (us_W ad cU cI pa nu nm nk F U) s.heap := hP
  have hD : va_D (us_AA (us_ads ad pa) s.heap.size) (us_W ad cU cI pa nu nm nk F U) := us_D_aa hD
  have hl := lv_entry ([.ref (ad 0), .int p1, .int p2]) (n := 3) (Nat.le_of_ble_eq_true rfl)
  rw [lg_entry_eq]
  generalize (lg_sl ([.ref (ad 0), .int p1, .int p2]) ++ List.replicate (3 - (lg_sl ([.ref (ad 0), .int p1, .int p2])).length) Slot.unset).toArray = ls at hl ⊢
  have hl : lv_has ls 3 [(0, .ref (ad 0)), (1, .int p1), (2, .int p2)] := hl
  refine lv_aload_n hx hb dX1_place_0 rfl (lv_at hl 0 rfl) ?_
  refine lv_iload_n hx hb dX1_place_1 rfl (lv_at hl 1 rfl) ?_
  refine lv_iload_n hx hb dX1_place_2 rfl (lv_at hl 2 rfl) ?_
  refine us_callr (vx_runV (As := [.int p1, .int p2]) (rest := []) ⟨hx, hb, hml, hown, htb⟩ (kt_X1_replayedUnit l hl9 dC dI ad cU cI pa s.heap.size nu nm nk F U p1 p2 hnu hnm hO hV) (cwV 2 htb (us_gV mw_363 mw_365 mw_18 mw_32 mw_366) rfl rfl rfl (by decide +kernel) ⟨Nat.le_of_ble_eq_true rfl, Nat.le_of_ble_eq_true rfl⟩) ⟨us_Px_blind, va_recv hK hP (ci := 1) (q0 := 0) rfl rfl, fun U hU hW => ⟨rfl, us_Px_at hP hK hD hE hS (us_AA_le hS) hU hW⟩⟩ rfl rfl hl.1 rfl (lv_room (Nat.le_of_ble_eq_true rfl)) dX1_place_3 ⟨Nat.le_of_ble_eq_true rfl, Nat.le_of_ble_eq_true rfl⟩) hS (fun q _ h => us_AA_le hS q h) (us_AA_le hS) (fun q _ h => us_AA_le hS q h) (fun E_t_3 ce_t_3 q_t_3 _ t_3 H_1 locs ht hvm hw hB hz1 hk1 hS hce hcv hcl => ?_) (fun _ r_2 t_3 H_1 locs ht hvm hw hB hz1 hk1 hS => ?_)
  · have hkk := hw
    obtain ⟨hE9, hB⟩ := hB
    have hP := us_Bx_use ht hB
    have hk9 : sp_ruK p1 p2 nu = sp_ruK p1 p2 nu := by first | (simp only [sp_ruK, sp_age, if_true, if_false]; done) | (simp [sp_ruK, sp_age]; done)
    exact vx_out (E := E_t_3) (fun x hx => (hte x hx).elim) hlocks hce hcv hcl (fun t9 ht9 ha => ⟨(), (by rw [hk9]; exact hkk), ⟨(by rw [hk9]; exact hE9), us_Bx_of ht9 hP rfl rfl rfl⟩, hS.F ht9⟩) hS.2.2 (Nat.le_of_ble_eq_true rfl) (Nat.le_of_ble_eq_true rfl)
  have hk0 := hw
  obtain ⟨rfl, hB⟩ := hB
  have hk_4 : sp_ruK p1 p2 nu = 0 := hk0
  have hf_5 : ¬ sp_isU p1 nu = 0 := by intro h9; simp [sp_ruK, h9] at hk_4
  have hf_6 : ¬ sp_in p2 99999 = 0 := by intro h9; simp only [sp_ruK, h9] at hk_4; split at hk_4 <;> cases hk_4
  have hP := us_Bx_use ht hB
  have hD : va_D (us_AA (us_ads ad pa) s.heap.size) (us_W ad cU cI pa nu nm nk (sp_rf nu nm F U p2) (sp_ru nu nm F U p2)) := us_D_of (by rw [us_W_adr, us_W_adr]) hD
  have hP : va_P (dC, dI) vwCl (us_W ad cU cI pa nu nm nk (sp_rf nu nm F U p2) (sp_ru nu nm F U p2)) H_1 := hP
  have hj9 : p1.toNatClampNeg < 30 := us_isU_cl hnu hf_5
  refine us_getUN (v := (sp_ru nu nm F U p2) p1.toNatClampNeg 9) hx hb htb us_inX0 hown hK hP (8 + p1.toNatClampNeg) (us_W_get hj9) 9 (by decide) (va_Nw.use rfl (hE.2.2.1 (.fieldLinkNest RX1 137 "UnitStates$Unit" "lastPlace" "I" "UnitStates") (by decide +kernel))) rfl dX1_place_6 ?_
  have hk9 : sp_ruK p1 p2 nu = 0 := by first | (simp only [sp_ruK, sp_age, eq_true hk_4, eq_false hf_5, eq_false hf_6, if_true, if_false]; done) | (simp [sp_ruK, sp_age, hk_4, hf_5, hf_6]; done)
  have hsp : ((sp_ru nu nm F U p2) p1.toNatClampNeg 9) = (sp_ru nu nm F U p2) p1.toNatClampNeg 9 := by first | (simp only [sp_ruK, sp_age, eq_true hk_4, eq_false hf_5, eq_false hf_6, if_true, if_false]; done) | (simp [sp_ruK, sp_age, hk_4, hf_5, hf_6]; done)
  exact vx_ret ((W.iret (v := ((sp_ru nu nm F U p2) p1.toNatClampNeg 9)) hx hb hr (fun t ht hW => ⟨⟨((sp_ru nu nm F U p2) p1.toNatClampNeg 9), (), rfl, ⟨hk9, hsp⟩, us_Bx_of ht hP rfl rfl rfl⟩, hS.F ht⟩) hS.2.2 dX1_place_9))
set_option maxHeartbeats 8000000 in
set_option maxRecDepth 100000 in
theorem kt_X1_age (l : Launch) (hl9 : l.stackTraces = false) (dC : Nat → ClassId) (dI : Nat → Nat → Nat) (ad : Nat → Nat) (cU cI : ClassId) (pa : Nat → Nat) (sz : Nat) (nu nm : Nat) (nk : Int32) (F U : Nat → Nat → Int32) (p1 : Int32) (p2 : Int32) (hnu : nu ≤ 30) (hnm : nm ≤ 200) (hO : ∀ p, p < nm → ∃ n, n < nm ∧ F 5 p = nI n) (hV : ∀ n, n < nm → ∃ j, j < nu ∧ F 0 n = nI j) : vx_Met l yX1_age wsX1_age ({ frames := 8, cells := 2, slots := 12, locals := 136 }) (va_Pc [.ref (ad 0), .int p1, .int p2] (us_Px dC dI ad cU cI pa nu nm nk F U (us_AA (us_ads ad pa) sz) sz)) (va_Qi (fun r (_ : Unit) => sp_ruK p1 p2 nu = 0 ∧ r = sp_age ((sp_ru nu nm F U p2) p1.toNatClampNeg) p2) (fun _ t => us_Bx dC dI ad cU cI pa nu nm nk (sp_rf nu nm F U p2) (sp_ru nu nm F U p2) t) (us_AA (us_ads ad pa) sz)) (vx_X (fun _ : Unit => ¬ sp_ruK p1 p2 nu = 0) (fun E _ t => E = us_en (sp_ruK p1 p2 nu) ∧ us_Bx dC dI ad cU cI pa nu nm nk F U t) (us_AA (us_ads ad pa) sz)) 2 12 (us_AA (us_ads ad pa) sz) := by
  refine vx_ofW (cc := cX1_age) (maxL := 4) (ret := (some .int)) (by decide) rfl ?_
  intro p e s m args below meth c s₁ B hml hte hv
  obtain ⟨rfl, hsz, hP, hK, hD, hE⟩ := hv
  have hx := B.exec
  have hb := B.bytes
  have hr := B.returns
  have htb := us_htb (atoms_spec (ws := wsX1_age) B.pre)
  have hown : s.vm.findClass RX1 = some m.cls := findClass_of_methodNamed B.named
  have hlocks := B.notSynchronized
  subst hsz
  have hA : ∀ q : Nat, s.heap.size ≤ q → (us_AA (us_ads ad pa) s.heap.size) q := fun q h => Or.inr h
  have hS : va_S (us_AA (us_ads ad pa) s.heap.size) s.heap s.heap [] := va_S.rf
  have hP : va_P (dC, dI) vwCl (us_W ad cU cI pa nu nm nk F U) s.heap := hP
  have hD : va_D (us_AA (us_ads ad pa) s.heap.size) (us_W ad cU cI pa nu nm nk F U) := us_D_aa hD
  have hl := lv_entry ([.ref (ad 0), .int p1, .int p2]) (n := 4) (Nat.le_of_ble_eq_true rfl)
  rw [lg_entry_eq]
  generalize (lg_sl ([.ref (ad 0), .int p1, .int p2]) ++ List.replicate (4 - (lg_sl ([.ref (ad 0), .int p1, .int p2])).length) Slot.unset).toArray = ls at hl ⊢
  have hl : lv_has ls 4 [(0, .ref (ad 0)), (1, .int p1), (2, .int p2)] := hl
  refine lv_aload_n hx hb dX1_age_0 rfl (lv_at hl 0 rfl) ?_
  refine lv_iload_n hx hb dX1_age_1 rfl (lv_at hl 1 rfl) ?_
  refine lv_iload_n hx hb dX1_age_2 rfl (lv_at hl 2 rfl) ?_
  refine us_callr (vx_runV (As := [.int p1, .int p2]) (rest := []) ⟨hx, hb, hml, hown, htb⟩ (kt_X1_replayedUnit l hl9 dC dI ad cU cI pa s.heap.size nu nm nk F U p1 p2 hnu hnm hO hV) (cwV 2 htb (us_gV mw_363 mw_365 mw_18 mw_32 mw_366) rfl rfl rfl (by decide +kernel) ⟨Nat.le_of_ble_eq_true rfl, Nat.le_of_ble_eq_true rfl⟩) ⟨us_Px_blind, va_recv hK hP (ci := 1) (q0 := 0) rfl rfl, fun U hU hW => ⟨rfl, us_Px_at hP hK hD hE hS (us_AA_le hS) hU hW⟩⟩ rfl rfl hl.1 rfl (lv_room (Nat.le_of_ble_eq_true rfl)) dX1_age_3 ⟨Nat.le_of_ble_eq_true rfl, Nat.le_of_ble_eq_true rfl⟩) hS (fun q _ h => us_AA_le hS q h) (us_AA_le hS) (fun q _ h => us_AA_le hS q h) (fun E_t_3 ce_t_3 q_t_3 _ t_3 H_1 locs ht hvm hw hB hz1 hk1 hS hce hcv hcl => ?_) (fun _ r_2 t_3 H_1 locs ht hvm hw hB hz1 hk1 hS => ?_)
  · have hkk := hw
    obtain ⟨hE9, hB⟩ := hB
    have hP := us_Bx_use ht hB
    have hk9 : sp_ruK p1 p2 nu = sp_ruK p1 p2 nu := by first | (simp only [sp_ruK, sp_age, if_true, if_false]; done) | (simp [sp_ruK, sp_age]; done)
    exact vx_out (E := E_t_3) (fun x hx => (hte x hx).elim) hlocks hce hcv hcl (fun t9 ht9 ha => ⟨(), (by rw [hk9]; exact hkk), ⟨(by rw [hk9]; exact hE9), us_Bx_of ht9 hP rfl rfl rfl⟩, hS.F ht9⟩) hS.2.2 (Nat.le_of_ble_eq_true rfl) (Nat.le_of_ble_eq_true rfl)
  have hk0 := hw
  obtain ⟨rfl, hB⟩ := hB
  have hk_4 : sp_ruK p1 p2 nu = 0 := hk0
  have hf_5 : ¬ sp_isU p1 nu = 0 := by intro h9; simp [sp_ruK, h9] at hk_4
  have hf_6 : ¬ sp_in p2 99999 = 0 := by intro h9; simp only [sp_ruK, h9] at hk_4; split at hk_4 <;> cases hk_4
  have hP := us_Bx_use ht hB
  have hD : va_D (us_AA (us_ads ad pa) s.heap.size) (us_W ad cU cI pa nu nm nk (sp_rf nu nm F U p2) (sp_ru nu nm F U p2)) := us_D_of (by rw [us_W_adr, us_W_adr]) hD
  have hP : va_P (dC, dI) vwCl (us_W ad cU cI pa nu nm nk (sp_rf nu nm F U p2) (sp_ru nu nm F U p2)) H_1 := hP
  have hj9 : p1.toNatClampNeg < 30 := us_isU_cl hnu hf_5
  refine lv_astore_n (lv' := [(3, .ref (pa p1.toNatClampNeg)), (0, .ref (ad 0)), (1, .int p1), (2, .int p2)]) hx hb dX1_age_6 rfl hl (by decide) rfl (fun ls hl => ?_)
  refine lv_aload_n hx hb dX1_age_7 rfl (lv_at hl 0 rfl) ?_
  refine us_getUN (v := (sp_ru nu nm F U p2) p1.toNatClampNeg 9) hx hb htb us_inX0 hown hK hP (8 + p1.toNatClampNeg) (us_W_get hj9) 9 (by decide) (va_Nw.use rfl (hE.2.2.1 (.fieldLinkNest RX1 137 "UnitStates$Unit" "lastPlace" "I" "UnitStates") (by decide +kernel))) rfl dX1_age_8 ?_
  refine lv_iconst (v := (-1)) hx hb dX1_age_11 (by decide) ?_
  refine lv_icmp_ne (tgt := 19) hx hb dX1_age_12 (by decide) (fun c_7 => ?_) (fun c_7 => ?_)
  · refine lv_iload_n hx hb dX1_age_19 rfl (lv_at hl 3 rfl) ?_
    refine lv_aload_n hx hb dX1_age_20 rfl (lv_at hl 0 rfl) ?_
    refine us_getUN (v := (sp_ru nu nm F U p2) p1.toNatClampNeg 10) hx hb htb us_inX0 hown hK hP (8 + p1.toNatClampNeg) (us_W_get hj9) 10 (by decide) (va_Nw.use rfl (hE.2.2.1 (.fieldLinkNest RX1 140 "UnitStates$Unit" "lastPlaceMinute" "I" "UnitStates") (by decide +kernel))) rfl dX1_age_21 ?_
    refine lv_isub hx hb dX1_age_24 ?_
    have hk9 : sp_ruK p1 p2 nu = 0 := by first | (simp only [sp_ruK, sp_age, eq_true hk_4, eq_false hf_5, eq_false hf_6, eq_false c_7, if_true, if_false]; done) | (simp [sp_ruK, sp_age, hk_4, hf_5, hf_6, c_7]; done)
    have hsp : (p2 - ((sp_ru nu nm F U p2) p1.toNatClampNeg 10)) = sp_age ((sp_ru nu nm F U p2) p1.toNatClampNeg) p2 := by first | (simp only [sp_ruK, sp_age, eq_true hk_4, eq_false hf_5, eq_false hf_6, eq_false c_7, if_true, if_false]; done) | (simp [sp_ruK, sp_age, hk_4, hf_5, hf_6, c_7]; done)
    exact vx_ret ((W.iret (v := (p2 - ((sp_ru nu nm F U p2) p1.toNatClampNeg 10))) hx hb hr (fun t ht hW => ⟨⟨(p2 - ((sp_ru nu nm F U p2) p1.toNatClampNeg 10)), (), rfl, ⟨hk9, hsp⟩, us_Bx_of ht hP rfl rfl rfl⟩, hS.F ht⟩) hS.2.2 dX1_age_25))
  · refine lv_iconst (v := (-1)) hx hb dX1_age_15 (by decide) ?_
    refine lv_goto (tgt := 25) hx hb dX1_age_16 (by decide) ?_
    have hk9 : sp_ruK p1 p2 nu = 0 := by first | (simp only [sp_ruK, sp_age, eq_true hk_4, eq_false hf_5, eq_false hf_6, eq_true c_7, if_true, if_false]; done) | (simp [sp_ruK, sp_age, hk_4, hf_5, hf_6, c_7]; done)
    have hsp : (-1) = sp_age ((sp_ru nu nm F U p2) p1.toNatClampNeg) p2 := by first | (simp only [sp_ruK, sp_age, eq_true hk_4, eq_false hf_5, eq_false hf_6, eq_true c_7, if_true, if_false]; done) | (simp [sp_ruK, sp_age, hk_4, hf_5, hf_6, c_7]; done)
    exact vx_ret ((W.iret (v := (-1)) hx hb hr (fun t ht hW => ⟨⟨(-1), (), rfl, ⟨hk9, hsp⟩, us_Bx_of ht hP rfl rfl rfl⟩, hS.F ht⟩) hS.2.2 dX1_age_25))
set_option maxHeartbeats 8000000 in
set_option maxRecDepth 100000 in
theorem kt_X1_expected (l : Launch) (hl9 : l.stackTraces = false) (dC : Nat → ClassId) (dI : Nat → Nat → Nat) (ad : Nat → Nat) (cU cI : ClassId) (pa : Nat → Nat) (sz : Nat) (nu nm : Nat) (nk : Int32) (F U : Nat → Nat → Int32) (p1 : Int32) (p2 : Int32) (hnu : nu ≤ 30) (hnm : nm ≤ 200) (hO : ∀ p, p < nm → ∃ n, n < nm ∧ F 5 p = nI n) (hV : ∀ n, n < nm → ∃ j, j < nu ∧ F 0 n = nI j) : vx_Met l yX1_expected wsX1_expected ({ frames := 8, cells := 2, slots := 12, locals := 136 }) (va_Pc [.ref (ad 0), .int p1, .int p2] (us_Px dC dI ad cU cI pa nu nm nk F U (us_AA (us_ads ad pa) sz) sz)) (va_Qi (fun r (_ : Unit) => sp_ruK p1 p2 nu = 0 ∧ r = (sp_ru nu nm F U p2) p1.toNatClampNeg 11) (fun _ t => us_Bx dC dI ad cU cI pa nu nm nk (sp_rf nu nm F U p2) (sp_ru nu nm F U p2) t) (us_AA (us_ads ad pa) sz)) (vx_X (fun _ : Unit => ¬ sp_ruK p1 p2 nu = 0) (fun E _ t => E = us_en (sp_ruK p1 p2 nu) ∧ us_Bx dC dI ad cU cI pa nu nm nk F U t) (us_AA (us_ads ad pa) sz)) 2 12 (us_AA (us_ads ad pa) sz) := by
  refine vx_ofW (cc := cX1_expected) (maxL := 3) (ret := (some .int)) (by decide) rfl ?_
  intro p e s m args below meth c s₁ B hml hte hv
  obtain ⟨rfl, hsz, hP, hK, hD, hE⟩ := hv
  have hx := B.exec
  have hb := B.bytes
  have hr := B.returns
  have htb := us_htb (atoms_spec (ws := wsX1_expected) B.pre)
  have hown : s.vm.findClass RX1 = some m.cls := findClass_of_methodNamed B.named
  have hlocks := B.notSynchronized
  subst hsz
  have hA : ∀ q : Nat, s.heap.size ≤ q → (us_AA (us_ads ad pa) s.heap.size) q := fun q h => Or.inr h
  have hS : va_S (us_AA (us_ads ad pa) s.heap.size) s.heap s.heap [] := va_S.rf
  have hP : va_P (dC, dI) vwCl (us_W ad cU cI pa nu nm nk F U) s.heap := hP
  have hD : va_D (us_AA (us_ads ad pa) s.heap.size) (us_W ad cU cI pa nu nm nk F U) := us_D_aa hD
  have hl := lv_entry ([.ref (ad 0), .int p1, .int p2]) (n := 3) (Nat.le_of_ble_eq_true rfl)
  rw [lg_entry_eq]
  generalize (lg_sl ([.ref (ad 0), .int p1, .int p2]) ++ List.replicate (3 - (lg_sl ([.ref (ad 0), .int p1, .int p2])).length) Slot.unset).toArray = ls at hl ⊢
  have hl : lv_has ls 3 [(0, .ref (ad 0)), (1, .int p1), (2, .int p2)] := hl
  refine lv_aload_n hx hb dX1_expected_0 rfl (lv_at hl 0 rfl) ?_
  refine lv_iload_n hx hb dX1_expected_1 rfl (lv_at hl 1 rfl) ?_
  refine lv_iload_n hx hb dX1_expected_2 rfl (lv_at hl 2 rfl) ?_
  refine us_callr (vx_runV (As := [.int p1, .int p2]) (rest := []) ⟨hx, hb, hml, hown, htb⟩ (kt_X1_replayedUnit l hl9 dC dI ad cU cI pa s.heap.size nu nm nk F U p1 p2 hnu hnm hO hV) (cwV 2 htb (us_gV mw_363 mw_365 mw_18 mw_32 mw_366) rfl rfl rfl (by decide +kernel) ⟨Nat.le_of_ble_eq_true rfl, Nat.le_of_ble_eq_true rfl⟩) ⟨us_Px_blind, va_recv hK hP (ci := 1) (q0 := 0) rfl rfl, fun U hU hW => ⟨rfl, us_Px_at hP hK hD hE hS (us_AA_le hS) hU hW⟩⟩ rfl rfl hl.1 rfl (lv_room (Nat.le_of_ble_eq_true rfl)) dX1_expected_3 ⟨Nat.le_of_ble_eq_true rfl, Nat.le_of_ble_eq_true rfl⟩) hS (fun q _ h => us_AA_le hS q h) (us_AA_le hS) (fun q _ h => us_AA_le hS q h) (fun E_t_3 ce_t_3 q_t_3 _ t_3 H_1 locs ht hvm hw hB hz1 hk1 hS hce hcv hcl => ?_) (fun _ r_2 t_3 H_1 locs ht hvm hw hB hz1 hk1 hS => ?_)
  · have hkk := hw
    obtain ⟨hE9, hB⟩ := hB
    have hP := us_Bx_use ht hB
    have hk9 : sp_ruK p1 p2 nu = sp_ruK p1 p2 nu := by first | (simp only [sp_ruK, sp_age, if_true, if_false]; done) | (simp [sp_ruK, sp_age]; done)
    exact vx_out (E := E_t_3) (fun x hx => (hte x hx).elim) hlocks hce hcv hcl (fun t9 ht9 ha => ⟨(), (by rw [hk9]; exact hkk), ⟨(by rw [hk9]; exact hE9), us_Bx_of ht9 hP rfl rfl rfl⟩, hS.F ht9⟩) hS.2.2 (Nat.le_of_ble_eq_true rfl) (Nat.le_of_ble_eq_true rfl)
  have hk0 := hw
  obtain ⟨rfl, hB⟩ := hB
  have hk_4 : sp_ruK p1 p2 nu = 0 := hk0
  have hf_5 : ¬ sp_isU p1 nu = 0 := by intro h9; simp [sp_ruK, h9] at hk_4
  have hf_6 : ¬ sp_in p2 99999 = 0 := by intro h9; simp only [sp_ruK, h9] at hk_4; split at hk_4 <;> cases hk_4
  have hP := us_Bx_use ht hB
  have hD : va_D (us_AA (us_ads ad pa) s.heap.size) (us_W ad cU cI pa nu nm nk (sp_rf nu nm F U p2) (sp_ru nu nm F U p2)) := us_D_of (by rw [us_W_adr, us_W_adr]) hD
  have hP : va_P (dC, dI) vwCl (us_W ad cU cI pa nu nm nk (sp_rf nu nm F U p2) (sp_ru nu nm F U p2)) H_1 := hP
  have hj9 : p1.toNatClampNeg < 30 := us_isU_cl hnu hf_5
  refine us_getUN (v := (sp_ru nu nm F U p2) p1.toNatClampNeg 11) hx hb htb us_inX0 hown hK hP (8 + p1.toNatClampNeg) (us_W_get hj9) 11 (by decide) (va_Nw.use rfl (hE.2.2.1 (.fieldLinkNest RX1 143 "UnitStates$Unit" "expectedMinute" "I" "UnitStates") (by decide +kernel))) rfl dX1_expected_6 ?_
  have hk9 : sp_ruK p1 p2 nu = 0 := by first | (simp only [sp_ruK, sp_age, eq_true hk_4, eq_false hf_5, eq_false hf_6, if_true, if_false]; done) | (simp [sp_ruK, sp_age, hk_4, hf_5, hf_6]; done)
  have hsp : ((sp_ru nu nm F U p2) p1.toNatClampNeg 11) = (sp_ru nu nm F U p2) p1.toNatClampNeg 11 := by first | (simp only [sp_ruK, sp_age, eq_true hk_4, eq_false hf_5, eq_false hf_6, if_true, if_false]; done) | (simp [sp_ruK, sp_age, hk_4, hf_5, hf_6]; done)
  exact vx_ret ((W.iret (v := ((sp_ru nu nm F U p2) p1.toNatClampNeg 11)) hx hb hr (fun t ht hW => ⟨⟨((sp_ru nu nm F U p2) p1.toNatClampNeg 11), (), rfl, ⟨hk9, hsp⟩, us_Bx_of ht hP rfl rfl rfl⟩, hS.F ht⟩) hS.2.2 dX1_expected_9))
set_option maxHeartbeats 8000000 in
set_option maxRecDepth 100000 in
theorem kt_X1_wrong (l : Launch) (hl9 : l.stackTraces = false) (dC : Nat → ClassId) (dI : Nat → Nat → Nat) (ad : Nat → Nat) (cU cI : ClassId) (pa : Nat → Nat) (sz : Nat) (nu nm : Nat) (nk : Int32) (F U : Nat → Nat → Int32) (p1 : Int32) (hnu : nu ≤ 30) (hnm : nm ≤ 200) (hO : ∀ p, p < nm → ∃ n, n < nm ∧ F 5 p = nI n) (hV : ∀ n, n < nm → ∃ j, j < nu ∧ F 0 n = nI j) : vx_Met l yX1_wrong wsX1_wrong ({ frames := 6, cells := 1, slots := 6, locals := 114 }) (va_Pc [.ref (ad 0), .int p1] (us_Px dC dI ad cU cI pa nu nm nk F U (us_AA (us_ads ad pa) sz) sz)) (va_Qi (fun r (_ : Unit) => sp_wrongK p1 nm = 0 ∧ r = sp_rf nu nm F U 99999 4 p1.toNatClampNeg) (fun _ t => us_Bx dC dI ad cU cI pa nu nm nk (sp_rf nu nm F U 99999) (sp_ru nu nm F U 99999) t) (us_AA (us_ads ad pa) sz)) (vx_X (fun _ : Unit => ¬ sp_wrongK p1 nm = 0) (fun E _ t => E = us_en (sp_wrongK p1 nm) ∧ us_Bx dC dI ad cU cI pa nu nm nk F U t) (us_AA (us_ads ad pa) sz)) 1 6 (us_AA (us_ads ad pa) sz) := by
  refine vx_ofW (cc := cX1_wrong) (maxL := 2) (ret := (some .int)) (by decide) rfl ?_
  intro p e s m args below meth c s₁ B hml hte hv
  obtain ⟨rfl, hsz, hP, hK, hD, hE⟩ := hv
  have hx := B.exec
  have hb := B.bytes
  have hr := B.returns
  have htb := us_htb (atoms_spec (ws := wsX1_wrong) B.pre)
  have hown : s.vm.findClass RX1 = some m.cls := findClass_of_methodNamed B.named
  have hlocks := B.notSynchronized
  subst hsz
  have hA : ∀ q : Nat, s.heap.size ≤ q → (us_AA (us_ads ad pa) s.heap.size) q := fun q h => Or.inr h
  have hS : va_S (us_AA (us_ads ad pa) s.heap.size) s.heap s.heap [] := va_S.rf
  have hP : va_P (dC, dI) vwCl (us_W ad cU cI pa nu nm nk F U) s.heap := hP
  have hD : va_D (us_AA (us_ads ad pa) s.heap.size) (us_W ad cU cI pa nu nm nk F U) := us_D_aa hD
  have hl := lv_entry ([.ref (ad 0), .int p1]) (n := 2) (Nat.le_of_ble_eq_true rfl)
  rw [lg_entry_eq]
  generalize (lg_sl ([.ref (ad 0), .int p1]) ++ List.replicate (2 - (lg_sl ([.ref (ad 0), .int p1])).length) Slot.unset).toArray = ls at hl ⊢
  have hl : lv_has ls 2 [(0, .ref (ad 0)), (1, .int p1)] := hl
  refine lv_iload_n hx hb dX1_wrong_0 rfl (lv_at hl 1 rfl) ?_
  refine lv_if_lt (tgt := 12) hx hb dX1_wrong_1 (by decide) (fun c_1 => ?_) (fun c_1 => ?_)
  · obtain ⟨sa_2, hst_sa_2⟩ := hE.2.2.2.2 (RX1, 146, "no such message") (by decide +kernel)
    have hk9 : sp_wrongK p1 nm = 1 := by first | (simp only [sp_wrongK, eq_true c_1, if_true, if_false]; done) | (simp [sp_wrongK, c_1]; done)
    exact vx_throwS (own := RX1) (cls := "java/lang/IllegalArgumentException") (names := ["java/lang/RuntimeException", "java/lang/Exception"]) hx hb hl9 hown (by decide +kernel) (by decide +kernel) (htb _ mw_253) (htb _ mw_40) hst_sa_2 (vx_hat (L := vx_atS RX1 72 "java/lang/IllegalArgumentException" ["java/lang/RuntimeException", "java/lang/Exception"]) (B := [.castable "java/lang/IllegalArgumentException" "java/lang/IllegalArgumentException", .declares ⟨"java/lang/RuntimeException", "<init>", "(Ljava/lang/String;)V"⟩, .declares ⟨"java/lang/Exception", "<init>", "(Ljava/lang/String;)V"⟩, .declares ⟨"java/lang/Throwable", "<init>", "(Ljava/lang/String;)V"⟩]) (fun w hw => htb w (us_at72 w hw)) us_ab72 (vx_c (va_Nw.use rfl (hE.2.2.1 _ (by decide +kernel))) (vx_c (va_Nw.use rfl (hE.2.2.1 _ (by decide +kernel))) (vx_c (va_Nw.use rfl (hE.2.2.1 _ (by decide +kernel))) (vx_c (va_Nw.use rfl (hE.2.2.1 _ (by decide +kernel))) (vx_n)))))) us_ag72 hE.1 hE.2.1 hS (hl.1.trans hml.symm) dX1_wrong_12 dX1_wrong_15 dX1_wrong_16 dX1_wrong_18 dX1_wrong_21 (fun x hx => (hte x hx).elim) (Nat.le_of_ble_eq_true rfl) (Nat.le_of_ble_eq_true rfl) (Nat.le_of_ble_eq_true rfl) (Nat.le_of_ble_eq_true rfl) hlocks (fun t ha hsz hk => ⟨(), (by rw [hk9]; decide), ⟨(by rw [hk9]; rfl), us_Bx_of rfl (us_mono hP (fun q hq => hk q hq)) rfl rfl rfl⟩, Nat.le_trans hS.1 hsz, fun q h1 h2 => (hk q (Nat.lt_of_lt_of_le h1 hS.1)).trans (hS.2.1 q h1 h2)⟩) hS.2.2 (Nat.le_of_ble_eq_true rfl) (Nat.le_of_ble_eq_true rfl)
  · refine lv_iload_n hx hb dX1_wrong_4 rfl (lv_at hl 1 rfl) ?_
    refine lv_aload_n hx hb dX1_wrong_5 rfl (lv_at hl 0 rfl) ?_
    refine va_get (D := (dC, dI)) (ci := 1) (v := .int (nI nm)) (C := RX1) (T := TX1) (N := 10) hx hb htb us_inX1 hown hK hP 0 rfl rfl 8 (by decide) (htb _ mw_117) (fun _ h9 => h9) rfl dX1_wrong_6 ?_
    refine lv_icmp_lt (tgt := 22) hx hb dX1_wrong_9 (by decide) (fun c_3 => ?_) (fun c_3 => ?_)
    · obtain ⟨j, hj, ej⟩ : ∃ j, j < nm ∧ p1 = nI j := us_lt_spec hnm c_1 c_3
      have hj2 : j < 200 := by omega
      refine lv_aload_n hx hb dX1_wrong_22 rfl (lv_at hl 0 rfl) ?_
      refine lv_ldc (v := 99999) hx hb hown (htb _ mw_273) dX1_wrong_23 ?_
      refine va_callv (va_runV (As := [.int 99999]) (rest := []) ⟨hx, hb, hml, hown, htb⟩ (kt_X1_replay l dC dI ad cU cI pa s.heap.size nu nm nk F U 99999 hnu hnm hO hV) (cwV 1 htb (us_gV mw_297 mw_299 mw_5 mw_32 mw_300) rfl rfl rfl (by decide +kernel) ⟨Nat.le_of_ble_eq_true rfl, Nat.le_of_ble_eq_true rfl⟩) ⟨us_Px_blind, va_recv hK hP (ci := 1) (q0 := 0) rfl rfl, fun U hU hW => ⟨rfl, us_Px_at hP hK hD hE hS (us_AA_le hS) hU hW⟩⟩ rfl rfl hl.1 rfl (lv_room (Nat.le_of_ble_eq_true rfl)) dX1_wrong_25 ⟨Nat.le_of_ble_eq_true rfl, Nat.le_of_ble_eq_true rfl⟩) hS (fun q _ h => us_AA_le hS q h) (us_AA_le hS) (fun _ t_6 H_4 locs ht hvm hw hB hz1 hk1 hS => ?_)
      have hP := us_Bx_use ht hB
      have hD : va_D (us_AA (us_ads ad pa) s.heap.size) (us_W ad cU cI pa nu nm nk (sp_rf nu nm F U 99999) (sp_ru nu nm F U 99999)) := us_D_of (by rw [us_W_adr, us_W_adr]) hD
      have hP : va_P (dC, dI) vwCl (us_W ad cU cI pa nu nm nk (sp_rf nu nm F U 99999) (sp_ru nu nm F U 99999)) H_4 := hP
      refine lv_aload_n hx hb dX1_wrong_28 rfl (lv_at hl 0 rfl) ?_
      refine va_get (D := (dC, dI)) (ci := 1) (v := .ref (ad 6)) (C := RX1) (T := TX1) (N := 10) hx hb htb us_inX1 hown hK hP 0 rfl rfl 6 (by decide) (htb _ mw_115) (fun _ h9 => h9) rfl dX1_wrong_29 ?_
      refine lv_iload_n hx hb dX1_wrong_32 rfl (lv_at hl 1 rfl) ?_
      refine lv_topi (fun i9 ei9 => ?_)
      have ei9 := ei9.trans ej
      subst ei9
      refine us_iald (f := ((sp_rf nu nm F U 99999) 4)) hx hb hK hP 6 1 rfl rfl hj2 (by decide) dX1_wrong_33 ?_
      have hk9 : sp_wrongK p1 nm = 0 := by first | (simp only [sp_wrongK, eq_false c_1, eq_true c_3, if_true, if_false]; done) | (simp [sp_wrongK, c_1, c_3]; done)
      have hsp : (((sp_rf nu nm F U 99999) 4) j) = sp_rf nu nm F U 99999 4 p1.toNatClampNeg := by rw [ej, nI_clamp (by omega)]
      exact vx_ret (W.widen (k := 1) (n := 6) (Nat.le_of_ble_eq_true rfl) (Nat.le_of_ble_eq_true rfl) (W.iret (v := (((sp_rf nu nm F U 99999) 4) j)) hx hb hr (fun t ht hW => ⟨⟨(((sp_rf nu nm F U 99999) 4) j), (), rfl, ⟨hk9, hsp⟩, us_Bx_of ht hP rfl rfl rfl⟩, hS.F ht⟩) hS.2.2 dX1_wrong_34))
    · obtain ⟨sa_7, hst_sa_7⟩ := hE.2.2.2.2 (RX1, 146, "no such message") (by decide +kernel)
      have hk9 : sp_wrongK p1 nm = 1 := by first | (simp only [sp_wrongK, eq_false c_1, eq_false c_3, if_true, if_false]; done) | (simp [sp_wrongK, c_1, c_3]; done)
      exact vx_throwS (own := RX1) (cls := "java/lang/IllegalArgumentException") (names := ["java/lang/RuntimeException", "java/lang/Exception"]) hx hb hl9 hown (by decide +kernel) (by decide +kernel) (htb _ mw_253) (htb _ mw_40) hst_sa_7 (vx_hat (L := vx_atS RX1 72 "java/lang/IllegalArgumentException" ["java/lang/RuntimeException", "java/lang/Exception"]) (B := [.castable "java/lang/IllegalArgumentException" "java/lang/IllegalArgumentException", .declares ⟨"java/lang/RuntimeException", "<init>", "(Ljava/lang/String;)V"⟩, .declares ⟨"java/lang/Exception", "<init>", "(Ljava/lang/String;)V"⟩, .declares ⟨"java/lang/Throwable", "<init>", "(Ljava/lang/String;)V"⟩]) (fun w hw => htb w (us_at72 w hw)) us_ab72 (vx_c (va_Nw.use rfl (hE.2.2.1 _ (by decide +kernel))) (vx_c (va_Nw.use rfl (hE.2.2.1 _ (by decide +kernel))) (vx_c (va_Nw.use rfl (hE.2.2.1 _ (by decide +kernel))) (vx_c (va_Nw.use rfl (hE.2.2.1 _ (by decide +kernel))) (vx_n)))))) us_ag72 hE.1 hE.2.1 hS (hl.1.trans hml.symm) dX1_wrong_12 dX1_wrong_15 dX1_wrong_16 dX1_wrong_18 dX1_wrong_21 (fun x hx => (hte x hx).elim) (Nat.le_of_ble_eq_true rfl) (Nat.le_of_ble_eq_true rfl) (Nat.le_of_ble_eq_true rfl) (Nat.le_of_ble_eq_true rfl) hlocks (fun t ha hsz hk => ⟨(), (by rw [hk9]; decide), ⟨(by rw [hk9]; rfl), us_Bx_of rfl (us_mono hP (fun q hq => hk q hq)) rfl rfl rfl⟩, Nat.le_trans hS.1 hsz, fun q h1 h2 => (hk q (Nat.lt_of_lt_of_le h1 hS.1)).trans (hS.2.1 q h1 h2)⟩) hS.2.2 (Nat.le_of_ble_eq_true rfl) (Nat.le_of_ble_eq_true rfl)
set_option maxHeartbeats 8000000 in
set_option maxRecDepth 100000 in
theorem kt_X1_told (l : Launch) (hl9 : l.stackTraces = false) (dC : Nat → ClassId) (dI : Nat → Nat → Nat) (ad : Nat → Nat) (cU cI : ClassId) (pa : Nat → Nat) (sz : Nat) (nu nm : Nat) (nk : Int32) (F U : Nat → Nat → Int32) (p1 : Int32) (hnu : nu ≤ 30) (hnm : nm ≤ 200) (hO : ∀ p, p < nm → ∃ n, n < nm ∧ F 5 p = nI n) (hV : ∀ n, n < nm → ∃ j, j < nu ∧ F 0 n = nI j) : vx_Met l yX1_told wsX1_told ({ frames := 6, cells := 1, slots := 6, locals := 137 }) (va_Pc [.ref (ad 0), .int p1] (us_Px dC dI ad cU cI pa nu nm nk F U (us_AA (us_ads ad pa) sz) sz)) (va_Qi (fun r (_ : Unit) => sp_toldK p1 = 0 ∧ r = sp_toldR p1 nu nm nk F U) (fun _ t => us_Bx dC dI ad cU cI pa nu nm nk (sp_toldF p1 nu nm F U) (sp_toldU p1 nu nm F U) t) (us_AA (us_ads ad pa) sz)) (vx_X (fun _ : Unit => ¬ sp_toldK p1 = 0) (fun E _ t => E = us_en (sp_toldK p1) ∧ us_Bx dC dI ad cU cI pa nu nm nk F U t) (us_AA (us_ads ad pa) sz)) 1 6 (us_AA (us_ads ad pa) sz) := by
  refine vx_ofW (cc := cX1_told) (maxL := 2) (ret := (some .int)) (by decide) rfl ?_
  intro p e s m args below meth c s₁ B hml hte hv
  obtain ⟨rfl, hsz, hP, hK, hD, hE⟩ := hv
  have hx := B.exec
  have hb := B.bytes
  have hr := B.returns
  have htb := us_htb (atoms_spec (ws := wsX1_told) B.pre)
  have hown : s.vm.findClass RX1 = some m.cls := findClass_of_methodNamed B.named
  have hlocks := B.notSynchronized
  subst hsz
  have hA : ∀ q : Nat, s.heap.size ≤ q → (us_AA (us_ads ad pa) s.heap.size) q := fun q h => Or.inr h
  have hS : va_S (us_AA (us_ads ad pa) s.heap.size) s.heap s.heap [] := va_S.rf
  have hP : va_P (dC, dI) vwCl (us_W ad cU cI pa nu nm nk F U) s.heap := hP
  have hD : va_D (us_AA (us_ads ad pa) s.heap.size) (us_W ad cU cI pa nu nm nk F U) := us_D_aa hD
  have hl := lv_entry ([.ref (ad 0), .int p1]) (n := 2) (Nat.le_of_ble_eq_true rfl)
  rw [lg_entry_eq]
  generalize (lg_sl ([.ref (ad 0), .int p1]) ++ List.replicate (2 - (lg_sl ([.ref (ad 0), .int p1])).length) Slot.unset).toArray = ls at hl ⊢
  have hl : lv_has ls 2 [(0, .ref (ad 0)), (1, .int p1)] := hl
  refine lv_iload_n hx hb dX1_told_0 rfl (lv_at hl 1 rfl) ?_
  by_cases k_1 : p1 = 0
  · refine lv_tableIn (tgt := 44) hx hb dX1_told_1 (by rw [k_1]; decide) (by rw [k_1]; decide) (by rw [k_1]; rfl) (by decide) ?_
    refine lv_aload_n hx hb dX1_told_44 rfl (lv_at hl 0 rfl) ?_
    refine va_get (D := (dC, dI)) (ci := 1) (v := .int nk) (C := RX1) (T := TX1) (N := 10) hx hb htb us_inX1 hown hK hP 0 rfl rfl 9 (by decide) (htb _ mw_118) (fun _ h9 => h9) rfl dX1_told_45 ?_
    have hk9 : sp_toldK p1 = 0 := by first | (simp only [sp_toldK, eq_true k_1, if_true, if_false]; done) | (simp [sp_toldK, k_1]; done)
    have hsp : nk = sp_toldR p1 nu nm nk F U := by simp [sp_toldR, k_1]
    exact vx_ret (W.widen (k := 1) (n := 6) (Nat.le_of_ble_eq_true rfl) (Nat.le_of_ble_eq_true rfl) (W.iret (v := nk) hx hb hr (fun t ht hW => ⟨⟨nk, (), rfl, ⟨hk9, hsp⟩, us_Bx_of ht hP rfl (by simp [sp_toldF, k_1]) (by simp [sp_toldU, k_1])⟩, hS.F ht⟩) hS.2.2 dX1_told_48))
  by_cases k_2 : p1 = 1
  · refine lv_tableIn (tgt := 49) hx hb dX1_told_1 (by rw [k_2]; decide) (by rw [k_2]; decide) (by rw [k_2]; rfl) (by decide) ?_
    refine lv_aload_n hx hb dX1_told_49 rfl (lv_at hl 0 rfl) ?_
    refine lv_iload_n hx hb dX1_told_50 rfl (lv_at hl 1 rfl) ?_
    refine va_calli (va_runV (As := [.int p1]) (rest := []) ⟨hx, hb, hml, hown, htb⟩ (kt_X1_countFindings l dC dI ad cU cI pa s.heap.size nu nm nk F U p1 hnu hnm hO hV) (cwV 1 htb (us_gV mw_396 mw_398 mw_19 mw_32 mw_399) rfl rfl rfl (by decide +kernel) ⟨Nat.le_of_ble_eq_true rfl, Nat.le_of_ble_eq_true rfl⟩) ⟨us_Px_blind, va_recv hK hP (ci := 1) (q0 := 0) rfl rfl, fun U hU hW => ⟨rfl, us_Px_at hP hK hD hE hS (us_AA_le hS) hU hW⟩⟩ rfl rfl hl.1 rfl (lv_room (Nat.le_of_ble_eq_true rfl)) dX1_told_51 ⟨Nat.le_of_ble_eq_true rfl, Nat.le_of_ble_eq_true rfl⟩) hS (fun q _ h => us_AA_le hS q h) (us_AA_le hS) (fun r_4 _ t_5 H_3 locs ht hvm hw hB hz1 hk1 hS => ?_)
    obtain ⟨-, hw⟩ := hw
    subst hw
    have hP := us_Bx_use ht hB
    have hD : va_D (us_AA (us_ads ad pa) s.heap.size) (us_W ad cU cI pa nu nm nk (sp_rf nu nm F U 99999) (sp_ru nu nm F U 99999)) := us_D_of (by rw [us_W_adr, us_W_adr]) hD
    have hP : va_P (dC, dI) vwCl (us_W ad cU cI pa nu nm nk (sp_rf nu nm F U 99999) (sp_ru nu nm F U 99999)) H_3 := hP
    have hk9 : sp_toldK p1 = 0 := by first | (simp only [sp_toldK, eq_true k_2, if_true, if_false]; done) | (simp [sp_toldK, k_2]; done)
    have hsp : (sp_cf (sp_rf nu nm F U 99999 4) p1 nm) = sp_toldR p1 nu nm nk F U := by simp [sp_toldR, k_2]
    exact vx_ret (W.widen (k := 1) (n := 6) (Nat.le_of_ble_eq_true rfl) (Nat.le_of_ble_eq_true rfl) (W.iret (v := (sp_cf (sp_rf nu nm F U 99999 4) p1 nm)) hx hb hr (fun t ht hW => ⟨⟨(sp_cf (sp_rf nu nm F U 99999 4) p1 nm), (), rfl, ⟨hk9, hsp⟩, us_Bx_of ht hP rfl (by simp [sp_toldF, k_2]) (by simp [sp_toldU, k_2])⟩, hS.F ht⟩) hS.2.2 dX1_told_54))
  by_cases k_6 : p1 = 2
  · refine lv_tableIn (tgt := 49) hx hb dX1_told_1 (by rw [k_6]; decide) (by rw [k_6]; decide) (by rw [k_6]; rfl) (by decide) ?_
    refine lv_aload_n hx hb dX1_told_49 rfl (lv_at hl 0 rfl) ?_
    refine lv_iload_n hx hb dX1_told_50 rfl (lv_at hl 1 rfl) ?_
    refine va_calli (va_runV (As := [.int p1]) (rest := []) ⟨hx, hb, hml, hown, htb⟩ (kt_X1_countFindings l dC dI ad cU cI pa s.heap.size nu nm nk F U p1 hnu hnm hO hV) (cwV 1 htb (us_gV mw_396 mw_398 mw_19 mw_32 mw_399) rfl rfl rfl (by decide +kernel) ⟨Nat.le_of_ble_eq_true rfl, Nat.le_of_ble_eq_true rfl⟩) ⟨us_Px_blind, va_recv hK hP (ci := 1) (q0 := 0) rfl rfl, fun U hU hW => ⟨rfl, us_Px_at hP hK hD hE hS (us_AA_le hS) hU hW⟩⟩ rfl rfl hl.1 rfl (lv_room (Nat.le_of_ble_eq_true rfl)) dX1_told_51 ⟨Nat.le_of_ble_eq_true rfl, Nat.le_of_ble_eq_true rfl⟩) hS (fun q _ h => us_AA_le hS q h) (us_AA_le hS) (fun r_8 _ t_9 H_7 locs ht hvm hw hB hz1 hk1 hS => ?_)
    obtain ⟨-, hw⟩ := hw
    subst hw
    have hP := us_Bx_use ht hB
    have hD : va_D (us_AA (us_ads ad pa) s.heap.size) (us_W ad cU cI pa nu nm nk (sp_rf nu nm F U 99999) (sp_ru nu nm F U 99999)) := us_D_of (by rw [us_W_adr, us_W_adr]) hD
    have hP : va_P (dC, dI) vwCl (us_W ad cU cI pa nu nm nk (sp_rf nu nm F U 99999) (sp_ru nu nm F U 99999)) H_7 := hP
    have hk9 : sp_toldK p1 = 0 := by first | (simp only [sp_toldK, eq_true k_6, if_true, if_false]; done) | (simp [sp_toldK, k_6]; done)
    have hsp : (sp_cf (sp_rf nu nm F U 99999 4) p1 nm) = sp_toldR p1 nu nm nk F U := by simp [sp_toldR, k_6]
    exact vx_ret (W.widen (k := 1) (n := 6) (Nat.le_of_ble_eq_true rfl) (Nat.le_of_ble_eq_true rfl) (W.iret (v := (sp_cf (sp_rf nu nm F U 99999 4) p1 nm)) hx hb hr (fun t ht hW => ⟨⟨(sp_cf (sp_rf nu nm F U 99999 4) p1 nm), (), rfl, ⟨hk9, hsp⟩, us_Bx_of ht hP rfl (by simp [sp_toldF, k_6]) (by simp [sp_toldU, k_6])⟩, hS.F ht⟩) hS.2.2 dX1_told_54))
  by_cases k_10 : p1 = 3
  · refine lv_tableIn (tgt := 49) hx hb dX1_told_1 (by rw [k_10]; decide) (by rw [k_10]; decide) (by rw [k_10]; rfl) (by decide) ?_
    refine lv_aload_n hx hb dX1_told_49 rfl (lv_at hl 0 rfl) ?_
    refine lv_iload_n hx hb dX1_told_50 rfl (lv_at hl 1 rfl) ?_
    refine va_calli (va_runV (As := [.int p1]) (rest := []) ⟨hx, hb, hml, hown, htb⟩ (kt_X1_countFindings l dC dI ad cU cI pa s.heap.size nu nm nk F U p1 hnu hnm hO hV) (cwV 1 htb (us_gV mw_396 mw_398 mw_19 mw_32 mw_399) rfl rfl rfl (by decide +kernel) ⟨Nat.le_of_ble_eq_true rfl, Nat.le_of_ble_eq_true rfl⟩) ⟨us_Px_blind, va_recv hK hP (ci := 1) (q0 := 0) rfl rfl, fun U hU hW => ⟨rfl, us_Px_at hP hK hD hE hS (us_AA_le hS) hU hW⟩⟩ rfl rfl hl.1 rfl (lv_room (Nat.le_of_ble_eq_true rfl)) dX1_told_51 ⟨Nat.le_of_ble_eq_true rfl, Nat.le_of_ble_eq_true rfl⟩) hS (fun q _ h => us_AA_le hS q h) (us_AA_le hS) (fun r_12 _ t_13 H_11 locs ht hvm hw hB hz1 hk1 hS => ?_)
    obtain ⟨-, hw⟩ := hw
    subst hw
    have hP := us_Bx_use ht hB
    have hD : va_D (us_AA (us_ads ad pa) s.heap.size) (us_W ad cU cI pa nu nm nk (sp_rf nu nm F U 99999) (sp_ru nu nm F U 99999)) := us_D_of (by rw [us_W_adr, us_W_adr]) hD
    have hP : va_P (dC, dI) vwCl (us_W ad cU cI pa nu nm nk (sp_rf nu nm F U 99999) (sp_ru nu nm F U 99999)) H_11 := hP
    have hk9 : sp_toldK p1 = 0 := by first | (simp only [sp_toldK, eq_true k_10, if_true, if_false]; done) | (simp [sp_toldK, k_10]; done)
    have hsp : (sp_cf (sp_rf nu nm F U 99999 4) p1 nm) = sp_toldR p1 nu nm nk F U := by simp [sp_toldR, k_10]
    exact vx_ret (W.widen (k := 1) (n := 6) (Nat.le_of_ble_eq_true rfl) (Nat.le_of_ble_eq_true rfl) (W.iret (v := (sp_cf (sp_rf nu nm F U 99999 4) p1 nm)) hx hb hr (fun t ht hW => ⟨⟨(sp_cf (sp_rf nu nm F U 99999 4) p1 nm), (), rfl, ⟨hk9, hsp⟩, us_Bx_of ht hP rfl (by simp [sp_toldF, k_10]) (by simp [sp_toldU, k_10])⟩, hS.F ht⟩) hS.2.2 dX1_told_54))
  by_cases k_14 : p1 = 4
  · refine lv_tableIn (tgt := 49) hx hb dX1_told_1 (by rw [k_14]; decide) (by rw [k_14]; decide) (by rw [k_14]; rfl) (by decide) ?_
    refine lv_aload_n hx hb dX1_told_49 rfl (lv_at hl 0 rfl) ?_
    refine lv_iload_n hx hb dX1_told_50 rfl (lv_at hl 1 rfl) ?_
    refine va_calli (va_runV (As := [.int p1]) (rest := []) ⟨hx, hb, hml, hown, htb⟩ (kt_X1_countFindings l dC dI ad cU cI pa s.heap.size nu nm nk F U p1 hnu hnm hO hV) (cwV 1 htb (us_gV mw_396 mw_398 mw_19 mw_32 mw_399) rfl rfl rfl (by decide +kernel) ⟨Nat.le_of_ble_eq_true rfl, Nat.le_of_ble_eq_true rfl⟩) ⟨us_Px_blind, va_recv hK hP (ci := 1) (q0 := 0) rfl rfl, fun U hU hW => ⟨rfl, us_Px_at hP hK hD hE hS (us_AA_le hS) hU hW⟩⟩ rfl rfl hl.1 rfl (lv_room (Nat.le_of_ble_eq_true rfl)) dX1_told_51 ⟨Nat.le_of_ble_eq_true rfl, Nat.le_of_ble_eq_true rfl⟩) hS (fun q _ h => us_AA_le hS q h) (us_AA_le hS) (fun r_16 _ t_17 H_15 locs ht hvm hw hB hz1 hk1 hS => ?_)
    obtain ⟨-, hw⟩ := hw
    subst hw
    have hP := us_Bx_use ht hB
    have hD : va_D (us_AA (us_ads ad pa) s.heap.size) (us_W ad cU cI pa nu nm nk (sp_rf nu nm F U 99999) (sp_ru nu nm F U 99999)) := us_D_of (by rw [us_W_adr, us_W_adr]) hD
    have hP : va_P (dC, dI) vwCl (us_W ad cU cI pa nu nm nk (sp_rf nu nm F U 99999) (sp_ru nu nm F U 99999)) H_15 := hP
    have hk9 : sp_toldK p1 = 0 := by first | (simp only [sp_toldK, eq_true k_14, if_true, if_false]; done) | (simp [sp_toldK, k_14]; done)
    have hsp : (sp_cf (sp_rf nu nm F U 99999 4) p1 nm) = sp_toldR p1 nu nm nk F U := by simp [sp_toldR, k_14]
    exact vx_ret (W.widen (k := 1) (n := 6) (Nat.le_of_ble_eq_true rfl) (Nat.le_of_ble_eq_true rfl) (W.iret (v := (sp_cf (sp_rf nu nm F U 99999 4) p1 nm)) hx hb hr (fun t ht hW => ⟨⟨(sp_cf (sp_rf nu nm F U 99999 4) p1 nm), (), rfl, ⟨hk9, hsp⟩, us_Bx_of ht hP rfl (by simp [sp_toldF, k_14]) (by simp [sp_toldU, k_14])⟩, hS.F ht⟩) hS.2.2 dX1_told_54))
  by_cases k_18 : p1 = 5
  · refine lv_tableIn (tgt := 55) hx hb dX1_told_1 (by rw [k_18]; decide) (by rw [k_18]; decide) (by rw [k_18]; rfl) (by decide) ?_
    refine lv_aload_n hx hb dX1_told_55 rfl (lv_at hl 0 rfl) ?_
    refine va_get (D := (dC, dI)) (ci := 1) (v := .int (nI nm)) (C := RX1) (T := TX1) (N := 10) hx hb htb us_inX1 hown hK hP 0 rfl rfl 8 (by decide) (htb _ mw_117) (fun _ h9 => h9) rfl dX1_told_56 ?_
    have hk9 : sp_toldK p1 = 0 := by first | (simp only [sp_toldK, eq_true k_18, if_true, if_false]; done) | (simp [sp_toldK, k_18]; done)
    have hsp : (nI nm) = sp_toldR p1 nu nm nk F U := by simp [sp_toldR, k_18]
    exact vx_ret (W.widen (k := 1) (n := 6) (Nat.le_of_ble_eq_true rfl) (Nat.le_of_ble_eq_true rfl) (W.iret (v := (nI nm)) hx hb hr (fun t ht hW => ⟨⟨(nI nm), (), rfl, ⟨hk9, hsp⟩, us_Bx_of ht hP rfl (by simp [sp_toldF, k_18]) (by simp [sp_toldU, k_18])⟩, hS.F ht⟩) hS.2.2 dX1_told_59))
  by_cases k_19 : p1 = 6
  · refine lv_tableIn (tgt := 60) hx hb dX1_told_1 (by rw [k_19]; decide) (by rw [k_19]; decide) (by rw [k_19]; rfl) (by decide) ?_
    refine lv_aload_n hx hb dX1_told_60 rfl (lv_at hl 0 rfl) ?_
    refine va_get (D := (dC, dI)) (ci := 1) (v := .int (nI nu)) (C := RX1) (T := TX1) (N := 10) hx hb htb us_inX1 hown hK hP 0 rfl rfl 1 (by decide) (htb _ mw_110) (fun _ h9 => h9) rfl dX1_told_61 ?_
    have hk9 : sp_toldK p1 = 0 := by first | (simp only [sp_toldK, eq_true k_19, if_true, if_false]; done) | (simp [sp_toldK, k_19]; done)
    have hsp : (nI nu) = sp_toldR p1 nu nm nk F U := by simp [sp_toldR, k_19]
    exact vx_ret (W.widen (k := 1) (n := 6) (Nat.le_of_ble_eq_true rfl) (Nat.le_of_ble_eq_true rfl) (W.iret (v := (nI nu)) hx hb hr (fun t ht hW => ⟨⟨(nI nu), (), rfl, ⟨hk9, hsp⟩, us_Bx_of ht hP rfl (by simp [sp_toldF, k_19]) (by simp [sp_toldU, k_19])⟩, hS.F ht⟩) hS.2.2 dX1_told_64))
  have hout_1 : p1.toInt < 0 ∨ 6 < p1.toInt := us_sw (lo := 0) (hi := 6) (fun z h1 h2 => by
    rcases (show z = 0 ∨ z = 1 ∨ z = 2 ∨ z = 3 ∨ z = 4 ∨ z = 5 ∨ z = 6 by omega) with rfl | rfl | rfl | rfl | rfl | rfl | rfl
    · exact fun e => k_1 (e.trans (by decide))
    · exact fun e => k_2 (e.trans (by decide))
    · exact fun e => k_6 (e.trans (by decide))
    · exact fun e => k_10 (e.trans (by decide))
    · exact fun e => k_14 (e.trans (by decide))
    · exact fun e => k_18 (e.trans (by decide))
    · exact fun e => k_19 (e.trans (by decide)))
  refine lv_tableOut (tgt := 65) hx hb dX1_told_1 hout_1 (by decide) ?_
  obtain ⟨sa_20, hst_sa_20⟩ := hE.2.2.2.2 (RX1, 95, "no such what") (by decide +kernel)
  have hk9 : sp_toldK p1 = 1 := by first | (simp only [sp_toldK, eq_false k_1, eq_false k_2, eq_false k_6, eq_false k_10, eq_false k_14, eq_false k_18, eq_false k_19, if_true, if_false]; done) | (simp [sp_toldK, k_1, k_2, k_6, k_10, k_14, k_18, k_19]; done)
  exact vx_throwS (own := RX1) (cls := "java/lang/IllegalArgumentException") (names := ["java/lang/RuntimeException", "java/lang/Exception"]) hx hb hl9 hown (by decide +kernel) (by decide +kernel) (htb _ mw_253) (htb _ mw_40) hst_sa_20 (vx_hat (L := vx_atS RX1 72 "java/lang/IllegalArgumentException" ["java/lang/RuntimeException", "java/lang/Exception"]) (B := [.castable "java/lang/IllegalArgumentException" "java/lang/IllegalArgumentException", .declares ⟨"java/lang/RuntimeException", "<init>", "(Ljava/lang/String;)V"⟩, .declares ⟨"java/lang/Exception", "<init>", "(Ljava/lang/String;)V"⟩, .declares ⟨"java/lang/Throwable", "<init>", "(Ljava/lang/String;)V"⟩]) (fun w hw => htb w (us_at72 w hw)) us_ab72 (vx_c (va_Nw.use rfl (hE.2.2.1 _ (by decide +kernel))) (vx_c (va_Nw.use rfl (hE.2.2.1 _ (by decide +kernel))) (vx_c (va_Nw.use rfl (hE.2.2.1 _ (by decide +kernel))) (vx_c (va_Nw.use rfl (hE.2.2.1 _ (by decide +kernel))) (vx_n)))))) us_ag72 hE.1 hE.2.1 hS (hl.1.trans hml.symm) dX1_told_65 dX1_told_68 dX1_told_69 dX1_told_71 dX1_told_74 (fun x hx => (hte x hx).elim) (Nat.le_of_ble_eq_true rfl) (Nat.le_of_ble_eq_true rfl) (Nat.le_of_ble_eq_true rfl) (Nat.le_of_ble_eq_true rfl) hlocks (fun t ha hsz hk => ⟨(), (by rw [hk9]; decide), ⟨(by rw [hk9]; rfl), us_Bx_of rfl (us_mono hP (fun q hq => hk q hq)) rfl rfl rfl⟩, Nat.le_trans hS.1 hsz, fun q h1 h2 => (hk q (Nat.lt_of_lt_of_le h1 hS.1)).trans (hS.2.1 q h1 h2)⟩) hS.2.2 (Nat.le_of_ble_eq_true rfl) (Nat.le_of_ble_eq_true rfl)
set_option maxHeartbeats 8000000 in
set_option maxRecDepth 100000 in
theorem kt_X1_many (l : Launch) (hl9 : l.stackTraces = false) (dC : Nat → ClassId) (dI : Nat → Nat → Nat) (ad : Nat → Nat) (cU cI : ClassId) (pa : Nat → Nat) (sz : Nat) (nu nm : Nat) (nk : Int32) (F U : Nat → Nat → Int32) (p1 : Int32) (p2 : Int32) (hnu : nu ≤ 30) (hnm : nm ≤ 200) (hO : ∀ p, p < nm → ∃ n, n < nm ∧ F 5 p = nI n) (hV : ∀ n, n < nm → ∃ j, j < nu ∧ F 0 n = nI j) : vx_Met l yX1_many wsX1_many ({ frames := 7, cells := 1, slots := 6, locals := 114 }) (va_Pc [.ref (ad 0), .int p1, .int p2] (us_Px dC dI ad cU cI pa nu nm nk F U (us_AA (us_ads ad pa) sz) sz)) (va_Qi (fun r (_ : Unit) => sp_manyK p1 p2 = 0 ∧ r = sp_many (sp_ru nu nm F U p2) p1 nu) (fun _ t => us_Bx dC dI ad cU cI pa nu nm nk (sp_rf nu nm F U p2) (sp_ru nu nm F U p2) t) (us_AA (us_ads ad pa) sz)) (vx_X (fun _ : Unit => ¬ sp_manyK p1 p2 = 0) (fun E _ t => E = us_en (sp_manyK p1 p2) ∧ us_Bx dC dI ad cU cI pa nu nm nk F U t) (us_AA (us_ads ad pa) sz)) 1 6 (us_AA (us_ads ad pa) sz) := by
  refine vx_ofW (cc := cX1_many) (maxL := 5) (ret := (some .int)) (by decide) rfl ?_
  intro p e s m args below meth c s₁ B hml hte hv
  obtain ⟨rfl, hsz, hP, hK, hD, hE⟩ := hv
  have hx := B.exec
  have hb := B.bytes
  have hr := B.returns
  have htb := us_htb (atoms_spec (ws := wsX1_many) B.pre)
  have hown : s.vm.findClass RX1 = some m.cls := findClass_of_methodNamed B.named
  have hlocks := B.notSynchronized
  subst hsz
  have hA : ∀ q : Nat, s.heap.size ≤ q → (us_AA (us_ads ad pa) s.heap.size) q := fun q h => Or.inr h
  have hS : va_S (us_AA (us_ads ad pa) s.heap.size) s.heap s.heap [] := va_S.rf
  have hP : va_P (dC, dI) vwCl (us_W ad cU cI pa nu nm nk F U) s.heap := hP
  have hD : va_D (us_AA (us_ads ad pa) s.heap.size) (us_W ad cU cI pa nu nm nk F U) := us_D_aa hD
  have hl := lv_entry ([.ref (ad 0), .int p1, .int p2]) (n := 5) (Nat.le_of_ble_eq_true rfl)
  rw [lg_entry_eq]
  generalize (lg_sl ([.ref (ad 0), .int p1, .int p2]) ++ List.replicate (5 - (lg_sl ([.ref (ad 0), .int p1, .int p2])).length) Slot.unset).toArray = ls at hl ⊢
  have hl : lv_has ls 5 [(0, .ref (ad 0)), (1, .int p1), (2, .int p2)] := hl
  have lp33 : ∀ (n i : Nat) (H : Heap) (locs : List Loc) (ls : Array Slot), i + n = nu → va_P (dC, dI) vwCl (us_W ad cU cI pa nu nm nk (sp_rf nu nm F U p2) (sp_ru nu nm F U p2)) H → va_S (us_AA (us_ads ad pa) s.heap.size) s.heap H locs → lv_has ls 5 [(4, .int (nI i)), (3, .int (sp_many (sp_ru nu nm F U p2) p1 i)), (0, .ref (ad 0)), (1, .int p1), (2, .int p2)] → sp_manyK p1 p2 = 0 → W p l e (headSpec wsX1_many ({ frames := 7, cells := 1, slots := 6, locals := 114 })).room s m ([.ref (ad 0), .int p1, .int p2]).toArray below meth c H locs 1 6 (vx_MQ below (va_Qi (fun r (_ : Unit) => sp_manyK p1 p2 = 0 ∧ r = sp_many (sp_ru nu nm F U p2) p1 nu) (fun _ t => us_Bx dC dI ad cU cI pa nu nm nk (sp_rf nu nm F U p2) (sp_ru nu nm F U p2) t) (us_AA (us_ads ad pa) s.heap.size)) (vx_X (fun _ : Unit => ¬ sp_manyK p1 p2 = 0) (fun E _ t => E = us_en (sp_manyK p1 p2) ∧ us_Bx dC dI ad cU cI pa nu nm nk F U t) (us_AA (us_ads ad pa) s.heap.size)) ([.ref (ad 0), .int p1, .int p2]).toArray s 1 6 (us_AA (us_ads ad pa) s.heap.size)) (F0 m 33 ls []) := by
    intro n
    induction n with
    | zero =>
      intro i H locs ls hin hP hS hl hk0
      have hie : i = nu := by omega
      refine lv_iload hx hb dX1_many_33 (lv_at hl 0 rfl) ?_
      refine lv_aload_n hx hb dX1_many_35 rfl (lv_at hl 2 rfl) ?_
      refine va_get (D := (dC, dI)) (ci := 1) (v := .int (nI nu)) (C := RX1) (T := TX1) (N := 10) hx hb htb us_inX1 hown hK hP 0 rfl rfl 1 (by decide) (htb _ mw_110) (fun _ h9 => h9) rfl dX1_many_36 ?_
      refine lv_icmp_ge (tgt := 65) hx hb dX1_many_39 (by decide) (fun c_1 => ?_) (fun c_1 => ?_)
      · refine lv_iload_n hx hb dX1_many_65 rfl (lv_at hl 1 rfl) ?_
        have hk9 : sp_manyK p1 p2 = 0 := by exact hk0
        have hsp : (sp_many (sp_ru nu nm F U p2) p1 i) = sp_many (sp_ru nu nm F U p2) p1 nu := by rw [hie]
        exact vx_ret (W.widen (k := 1) (n := 6) (Nat.le_of_ble_eq_true rfl) (Nat.le_of_ble_eq_true rfl) (W.iret (v := (sp_many (sp_ru nu nm F U p2) p1 i)) hx hb hr (fun t ht hW => ⟨⟨(sp_many (sp_ru nu nm F U p2) p1 i), (), rfl, ⟨hk9, hsp⟩, us_Bx_of ht hP rfl rfl rfl⟩, hS.F ht⟩) hS.2.2 dX1_many_66))
      · exact absurd (nI_le (by omega) (by omega)) c_1
    | succ n ih =>
      intro i H locs ls hin hP hS hl hk0
      have hil : i < nu := by omega
      have hi3 : i < 30 := by omega
      refine lv_iload hx hb dX1_many_33 (lv_at hl 0 rfl) ?_
      refine lv_aload_n hx hb dX1_many_35 rfl (lv_at hl 2 rfl) ?_
      refine va_get (D := (dC, dI)) (ci := 1) (v := .int (nI nu)) (C := RX1) (T := TX1) (N := 10) hx hb htb us_inX1 hown hK hP 0 rfl rfl 1 (by decide) (htb _ mw_110) (fun _ h9 => h9) rfl dX1_many_36 ?_
      refine lv_icmp_ge (tgt := 65) hx hb dX1_many_39 (by decide) (fun c_2 => ?_) (fun c_2 => ?_)
      · exact absurd c_2 (nI_ge (by omega) (by omega))
      · refine lv_aload_n hx hb dX1_many_42 rfl (lv_at hl 2 rfl) ?_
        refine va_get (D := (dC, dI)) (ci := 1) (v := .ref (ad 1)) (C := RX1) (T := TX1) (N := 10) hx hb htb us_inX1 hown hK hP 0 rfl rfl 0 (by decide) (htb _ mw_109) (fun _ h9 => h9) rfl dX1_many_43 ?_
        refine lv_iload hx hb dX1_many_46 (lv_at hl 0 rfl) ?_
        refine us_aald hx hb hK hP 1 0 rfl rfl hi3 (by decide) rfl dX1_many_48 ?_
        refine us_getUN (v := (sp_ru nu nm F U p2) i 2) hx hb htb us_inX0 hown hK hP (8 + i) (us_W_get hi3) 2 (by decide) (va_Nw.use rfl (hE.2.2.1 (.fieldLinkNest RX1 100 "UnitStates$Unit" "state" "I" "UnitStates") (by decide +kernel))) rfl dX1_many_49 ?_
        refine lv_iload_n hx hb dX1_many_52 rfl (lv_at hl 3 rfl) ?_
        refine lv_icmp_ne (tgt := 59) hx hb dX1_many_53 (by decide) (fun c_3 => ?_) (fun c_3 => ?_)
        · refine lv_iinc (v := (nI (i + 1))) (lv' := [(4, .int (nI (i + 1))), (3, .int (sp_many (sp_ru nu nm F U p2) p1 i)), (0, .ref (ad 0)), (1, .int p1), (2, .int p2)]) hx hb dX1_many_59 hl (k := 0) rfl (nI_1 i) (by decide) rfl (fun ls hl => ?_)
          refine lv_goto (tgt := 33) hx hb dX1_many_62 (by decide) ?_
          have e9 : sp_many (sp_ru nu nm F U p2) p1 (i + 1) = sp_many (sp_ru nu nm F U p2) p1 i := by rw [sp_many, if_neg c_3]
          exact ih (i + 1) _ _ _ (by omega) hP hS (by rw [e9]; exact lv_sub hl [0, 1, 2, 3, 4] rfl) hk0
        · refine lv_iinc (v := (sp_many (sp_ru nu nm F U p2) p1 (i + 1))) (lv' := [(3, .int (sp_many (sp_ru nu nm F U p2) p1 (i + 1))), (4, .int (nI i)), (0, .ref (ad 0)), (1, .int p1), (2, .int p2)]) hx hb dX1_many_56 hl (k := 1) rfl (by rw [sp_many, if_pos c_3]; rfl) (by decide) rfl (fun ls hl => ?_)
          refine lv_iinc (v := (nI (i + 1))) (lv' := [(4, .int (nI (i + 1))), (3, .int (sp_many (sp_ru nu nm F U p2) p1 (i + 1))), (0, .ref (ad 0)), (1, .int p1), (2, .int p2)]) hx hb dX1_many_59 hl (k := 1) rfl (nI_1 i) (by decide) rfl (fun ls hl => ?_)
          refine lv_goto (tgt := 33) hx hb dX1_many_62 (by decide) ?_
          exact ih (i + 1) _ _ _ (by omega) hP hS (lv_sub hl [0, 1, 2, 3, 4] rfl) hk0
  refine lv_iload_n hx hb dX1_many_0 rfl (lv_at hl 1 rfl) ?_
  refine lv_bipush (v := 10) hx hb dX1_many_1 (by decide) ?_
  refine va_calli (va_runS (As := [.int p1, .int 10]) (rest := []) ⟨hx, hb, hml, hown, htb⟩ (kt_X1_isWithin l s.heap.size p1 10) (cwS 2 htb (us_gS mw_149 mw_150 mw_32 mw_151) rfl rfl rfl (by decide +kernel) ⟨Nat.le_of_ble_eq_true rfl, Nat.le_of_ble_eq_true rfl⟩) ⟨us_blind0, fun U hU _ => ⟨rfl, congrArg Array.size hU⟩⟩ rfl rfl hl.1 rfl (lv_room (Nat.le_of_ble_eq_true rfl)) dX1_many_3 ⟨Nat.le_of_ble_eq_true rfl, Nat.le_of_ble_eq_true rfl⟩) hS (fun q h1 h2 => absurd h2 (Nat.not_le.mpr h1)) (fun q h => hA q (Nat.le_trans hS.1 h)) (fun r_5 _ t_6 H_4 locs ht hvm hw hB hz1 hk1 hS => ?_)
  obtain ⟨-, hw⟩ := hw
  subst hw
  have hP := us_mono hP (fun q h => hk1 q h (Nat.not_le.mpr h))
  refine lv_if_ne (tgt := 19) hx hb dX1_many_6 (by decide) (fun c_7 => ?_) (fun c_7 => ?_)
  · refine lv_iload_n hx hb dX1_many_19 rfl (lv_at hl 2 rfl) ?_
    refine vx_callv (vx_runS (As := [.int p2]) (rest := []) ⟨hx, hb, hml, hown, htb⟩ (kt_X1_refuseOutsideMinutes l hl9 H_4.size p2) (cwS 1 htb (us_gS mw_270 mw_271 mw_32 mw_272) rfl rfl rfl (by decide +kernel) ⟨Nat.le_of_ble_eq_true rfl, Nat.le_of_ble_eq_true rfl⟩) ⟨us_P0_blind, fun U hU hW => ⟨rfl, us_P0_at hE hS (fun q h => hA q (Nat.le_trans hS.1 h)) hU hW⟩⟩ rfl rfl hl.1 rfl (lv_room (Nat.le_of_ble_eq_true rfl)) dX1_many_20 ⟨Nat.le_of_ble_eq_true rfl, Nat.le_of_ble_eq_true rfl⟩) hS (fun q h1 h2 => absurd h2 (Nat.not_le.mpr h1)) (fun q h => hA q (Nat.le_trans hS.1 h)) (fun q h1 h2 => absurd h2 (Nat.not_le.mpr h1)) (fun E_t_10 ce_t_10 q_t_10 _ t_10 H_8 locs ht hvm hw hB hz1 hk1 hS hce hcv hcl => ?_) (fun _ t_10 H_8 locs ht hvm hw hB hz1 hk1 hS => ?_)
    · have hkk := hw
      have hx9 : sp_in p2 99999 = 0 := by refine Decidable.byContradiction (fun h9 => hkk ?_); simp only [sp_minK, eq_false h9, if_false]
      have hE9 := hB
      have hP := us_mono hP (fun q h => hk1 q h (Nat.not_le.mpr h))
      have hk9 : sp_manyK p1 p2 = sp_minK p2 := by first | (simp only [sp_manyK, sp_minK, eq_false c_7, eq_true hx9, if_true, if_false]; done) | (simp [sp_manyK, sp_minK, c_7, hx9]; done)
      exact vx_out (E := E_t_10) (fun x hx => (hte x hx).elim) hlocks hce hcv hcl (fun t9 ht9 ha => ⟨(), (by rw [hk9]; exact hkk), ⟨(by rw [hk9]; exact hE9), us_Bx_of ht9 hP rfl rfl rfl⟩, hS.F ht9⟩) hS.2.2 (Nat.le_of_ble_eq_true rfl) (Nat.le_of_ble_eq_true rfl)
    have hk0 := hw
    have hk_11 : sp_minK p2 = 0 := hk0
    have hf_12 : ¬ sp_in p2 99999 = 0 := by intro h9; simp [sp_minK, h9] at hk_11
    have hP := us_mono hP (fun q h => hk1 q h (Nat.not_le.mpr h))
    refine lv_aload_n hx hb dX1_many_23 rfl (lv_at hl 0 rfl) ?_
    refine lv_iload_n hx hb dX1_many_24 rfl (lv_at hl 2 rfl) ?_
    refine va_callv (va_runV (As := [.int p2]) (rest := []) ⟨hx, hb, hml, hown, htb⟩ (kt_X1_replay l dC dI ad cU cI pa H_8.size nu nm nk F U p2 hnu hnm hO hV) (cwV 1 htb (us_gV mw_297 mw_299 mw_5 mw_32 mw_300) rfl rfl rfl (by decide +kernel) ⟨Nat.le_of_ble_eq_true rfl, Nat.le_of_ble_eq_true rfl⟩) ⟨us_Px_blind, va_recv hK hP (ci := 1) (q0 := 0) rfl rfl, fun U hU hW => ⟨rfl, us_Px_at hP hK hD hE hS (us_AA_le hS) hU hW⟩⟩ rfl rfl hl.1 rfl (lv_room (Nat.le_of_ble_eq_true rfl)) dX1_many_25 ⟨Nat.le_of_ble_eq_true rfl, Nat.le_of_ble_eq_true rfl⟩) hS (fun q _ h => us_AA_le hS q h) (us_AA_le hS) (fun _ t_15 H_13 locs ht hvm hw hB hz1 hk1 hS => ?_)
    have hP := us_Bx_use ht hB
    have hD : va_D (us_AA (us_ads ad pa) s.heap.size) (us_W ad cU cI pa nu nm nk (sp_rf nu nm F U p2) (sp_ru nu nm F U p2)) := us_D_of (by rw [us_W_adr, us_W_adr]) hD
    have hP : va_P (dC, dI) vwCl (us_W ad cU cI pa nu nm nk (sp_rf nu nm F U p2) (sp_ru nu nm F U p2)) H_13 := hP
    refine lv_iconst (v := 0) hx hb dX1_many_28 (by decide) ?_
    refine lv_istore_n (lv' := [(3, .int 0), (0, .ref (ad 0)), (1, .int p1), (2, .int p2)]) hx hb dX1_many_29 rfl hl (by decide) rfl (fun ls hl => ?_)
    refine lv_iconst (v := 0) hx hb dX1_many_30 (by decide) ?_
    refine lv_istore (lv' := [(4, .int 0), (3, .int 0), (0, .ref (ad 0)), (1, .int p1), (2, .int p2)]) hx hb dX1_many_31 hl (by decide) rfl (fun ls hl => ?_)
    exact lp33 nu 0 _ _ _ (by omega) hP hS (lv_sub hl [0, 1, 2, 3, 4] rfl) (by simp [sp_manyK, c_7, hk_11, hf_12])
  · obtain ⟨sa_16, hst_sa_16⟩ := hE.2.2.2.2 (RX1, 152, "no such state") (by decide +kernel)
    have hk9 : sp_manyK p1 p2 = 1 := by first | (simp only [sp_manyK, sp_minK, eq_true c_7, if_true, if_false]; done) | (simp [sp_manyK, sp_minK, c_7]; done)
    exact vx_throwS (own := RX1) (cls := "java/lang/IllegalArgumentException") (names := ["java/lang/RuntimeException", "java/lang/Exception"]) hx hb hl9 hown (by decide +kernel) (by decide +kernel) (htb _ mw_253) (htb _ mw_40) hst_sa_16 (vx_hat (L := vx_atS RX1 72 "java/lang/IllegalArgumentException" ["java/lang/RuntimeException", "java/lang/Exception"]) (B := [.castable "java/lang/IllegalArgumentException" "java/lang/IllegalArgumentException", .declares ⟨"java/lang/RuntimeException", "<init>", "(Ljava/lang/String;)V"⟩, .declares ⟨"java/lang/Exception", "<init>", "(Ljava/lang/String;)V"⟩, .declares ⟨"java/lang/Throwable", "<init>", "(Ljava/lang/String;)V"⟩]) (fun w hw => htb w (us_at72 w hw)) us_ab72 (vx_c (va_Nw.use rfl (hE.2.2.1 _ (by decide +kernel))) (vx_c (va_Nw.use rfl (hE.2.2.1 _ (by decide +kernel))) (vx_c (va_Nw.use rfl (hE.2.2.1 _ (by decide +kernel))) (vx_c (va_Nw.use rfl (hE.2.2.1 _ (by decide +kernel))) (vx_n)))))) us_ag72 hE.1 hE.2.1 hS (hl.1.trans hml.symm) dX1_many_9 dX1_many_12 dX1_many_13 dX1_many_15 dX1_many_18 (fun x hx => (hte x hx).elim) (Nat.le_of_ble_eq_true rfl) (Nat.le_of_ble_eq_true rfl) (Nat.le_of_ble_eq_true rfl) (Nat.le_of_ble_eq_true rfl) hlocks (fun t ha hsz hk => ⟨(), (by rw [hk9]; decide), ⟨(by rw [hk9]; rfl), us_Bx_of rfl (us_mono hP (fun q hq => hk q hq)) rfl rfl rfl⟩, Nat.le_trans hS.1 hsz, fun q h1 h2 => (hk q (Nat.lt_of_lt_of_le h1 hS.1)).trans (hS.2.1 q h1 h2)⟩) hS.2.2 (Nat.le_of_ble_eq_true rfl) (Nat.le_of_ble_eq_true rfl)
set_option maxHeartbeats 8000000 in
set_option maxRecDepth 100000 in
theorem kt_X1_arrived (l : Launch) (hl9 : l.stackTraces = false) (dC : Nat → ClassId) (dI : Nat → Nat → Nat) (ad : Nat → Nat) (cU cI : ClassId) (pa : Nat → Nat) (sz : Nat) (nu nm : Nat) (nk : Int32) (F U : Nat → Nat → Int32) (p1 : Int32) (p2 : Int32) (p3 : Int32) (hnu : nu ≤ 30) (hnm : nm ≤ 200) (hO : ∀ p, p < nm → ∃ n, n < nm ∧ F 5 p = nI n) (hV : ∀ n, n < nm → ∃ j, j < nu ∧ F 0 n = nI j) : vx_Met l yX1_arrived wsX1_arrived ({ frames := 7, cells := 2, slots := 12, locals := 114 }) (va_Pc [.ref (ad 0), .int p1, .int p2, .int p3] (us_Px dC dI ad cU cI pa nu nm nk F U (us_AA (us_ads ad pa) sz) sz)) (va_Qi (fun r (_ : Unit) => sp_arrK p1 p2 p3 = 0 ∧ r = sp_arr nu (sp_ru nu nm F U p3) p1 p2 nu 0) (fun _ t => us_Bx dC dI ad cU cI pa nu nm nk (sp_rf nu nm F U p3) (sp_ru nu nm F U p3) t) (us_AA (us_ads ad pa) sz)) (vx_X (fun _ : Unit => ¬ sp_arrK p1 p2 p3 = 0) (fun E _ t => E = us_en (sp_arrK p1 p2 p3) ∧ us_Bx dC dI ad cU cI pa nu nm nk F U t) (us_AA (us_ads ad pa) sz)) 2 12 (us_AA (us_ads ad pa) sz) := by
  refine vx_ofW (cc := cX1_arrived) (maxL := 5) (ret := (some .int)) (by decide) rfl ?_
  intro p e s m args below meth c s₁ B hml hte hv
  obtain ⟨rfl, hsz, hP, hK, hD, hE⟩ := hv
  have hx := B.exec
  have hb := B.bytes
  have hr := B.returns
  have htb := us_htb (atoms_spec (ws := wsX1_arrived) B.pre)
  have hown : s.vm.findClass RX1 = some m.cls := findClass_of_methodNamed B.named
  have hlocks := B.notSynchronized
  subst hsz
  have hA : ∀ q : Nat, s.heap.size ≤ q → (us_AA (us_ads ad pa) s.heap.size) q := fun q h => Or.inr h
  have hS : va_S (us_AA (us_ads ad pa) s.heap.size) s.heap s.heap [] := va_S.rf
  have hP : va_P (dC, dI) vwCl (us_W ad cU cI pa nu nm nk F U) s.heap := hP
  have hD : va_D (us_AA (us_ads ad pa) s.heap.size) (us_W ad cU cI pa nu nm nk F U) := us_D_aa hD
  have hl := lv_entry ([.ref (ad 0), .int p1, .int p2, .int p3]) (n := 5) (Nat.le_of_ble_eq_true rfl)
  rw [lg_entry_eq]
  generalize (lg_sl ([.ref (ad 0), .int p1, .int p2, .int p3]) ++ List.replicate (5 - (lg_sl ([.ref (ad 0), .int p1, .int p2, .int p3])).length) Slot.unset).toArray = ls at hl ⊢
  have hl : lv_has ls 5 [(0, .ref (ad 0)), (1, .int p1), (2, .int p2), (3, .int p3)] := hl
  have lp46 : ∀ (n i : Nat) (H : Heap) (locs : List Loc) (ls : Array Slot), i + n = nu → sp_arr nu (sp_ru nu nm F U p3) p1 p2 n i = sp_arr nu (sp_ru nu nm F U p3) p1 p2 nu 0 → va_P (dC, dI) vwCl (us_W ad cU cI pa nu nm nk (sp_rf nu nm F U p3) (sp_ru nu nm F U p3)) H → va_D (us_AA (us_ads ad pa) s.heap.size) (us_W ad cU cI pa nu nm nk (sp_rf nu nm F U p3) (sp_ru nu nm F U p3)) → va_S (us_AA (us_ads ad pa) s.heap.size) s.heap H locs → lv_has ls 5 [(4, .int (nI i)), (0, .ref (ad 0)), (1, .int p1), (2, .int p2), (3, .int p3)] → sp_arrK p1 p2 p3 = 0 → W p l e (headSpec wsX1_arrived ({ frames := 7, cells := 2, slots := 12, locals := 114 })).room s m ([.ref (ad 0), .int p1, .int p2, .int p3]).toArray below meth c H locs 1 6 (vx_MQ below (va_Qi (fun r (_ : Unit) => sp_arrK p1 p2 p3 = 0 ∧ r = sp_arr nu (sp_ru nu nm F U p3) p1 p2 nu 0) (fun _ t => us_Bx dC dI ad cU cI pa nu nm nk (sp_rf nu nm F U p3) (sp_ru nu nm F U p3) t) (us_AA (us_ads ad pa) s.heap.size)) (vx_X (fun _ : Unit => ¬ sp_arrK p1 p2 p3 = 0) (fun E _ t => E = us_en (sp_arrK p1 p2 p3) ∧ us_Bx dC dI ad cU cI pa nu nm nk F U t) (us_AA (us_ads ad pa) s.heap.size)) ([.ref (ad 0), .int p1, .int p2, .int p3]).toArray s 2 12 (us_AA (us_ads ad pa) s.heap.size)) (F0 m 46 ls []) := by
    intro n
    induction n with
    | zero =>
      intro i H locs ls hin hR hP hD hS hl hk0
      have hie : i = nu := by omega
      refine lv_iload hx hb dX1_arrived_46 (lv_at hl 0 rfl) ?_
      refine lv_aload_n hx hb dX1_arrived_48 rfl (lv_at hl 1 rfl) ?_
      refine va_get (D := (dC, dI)) (ci := 1) (v := .int (nI nu)) (C := RX1) (T := TX1) (N := 10) hx hb htb us_inX1 hown hK hP 0 rfl rfl 1 (by decide) (htb _ mw_110) (fun _ h9 => h9) rfl dX1_arrived_49 ?_
      refine lv_icmp_ge (tgt := 93) hx hb dX1_arrived_52 (by decide) (fun c_1 => ?_) (fun c_1 => ?_)
      · refine lv_iconst (v := (-1)) hx hb dX1_arrived_93 (by decide) ?_
        have hk9 : sp_arrK p1 p2 p3 = 0 := by exact hk0
        have hsp : (-1) = sp_arr nu (sp_ru nu nm F U p3) p1 p2 nu 0 := by exact hR
        exact vx_ret (W.widen (k := 2) (n := 12) (Nat.le_of_ble_eq_true rfl) (Nat.le_of_ble_eq_true rfl) (W.iret (v := (-1)) hx hb hr (fun t ht hW => ⟨⟨(-1), (), rfl, ⟨hk9, hsp⟩, us_Bx_of ht hP rfl rfl rfl⟩, hS.F ht⟩) hS.2.2 dX1_arrived_94))
      · exact absurd (nI_le (by omega) (by omega)) c_1
    | succ n ih =>
      intro i H locs ls hin hR hP hD hS hl hk0
      have hil : i < nu := by omega
      have hi3 : i < 30 := by omega
      refine lv_iload hx hb dX1_arrived_46 (lv_at hl 0 rfl) ?_
      refine lv_aload_n hx hb dX1_arrived_48 rfl (lv_at hl 1 rfl) ?_
      refine va_get (D := (dC, dI)) (ci := 1) (v := .int (nI nu)) (C := RX1) (T := TX1) (N := 10) hx hb htb us_inX1 hown hK hP 0 rfl rfl 1 (by decide) (htb _ mw_110) (fun _ h9 => h9) rfl dX1_arrived_49 ?_
      refine lv_icmp_ge (tgt := 93) hx hb dX1_arrived_52 (by decide) (fun c_2 => ?_) (fun c_2 => ?_)
      · exact absurd c_2 (nI_ge (by omega) (by omega))
      · refine lv_aload_n hx hb dX1_arrived_55 rfl (lv_at hl 1 rfl) ?_
        refine va_get (D := (dC, dI)) (ci := 1) (v := .ref (ad 1)) (C := RX1) (T := TX1) (N := 10) hx hb htb us_inX1 hown hK hP 0 rfl rfl 0 (by decide) (htb _ mw_109) (fun _ h9 => h9) rfl dX1_arrived_56 ?_
        refine lv_iload hx hb dX1_arrived_59 (lv_at hl 0 rfl) ?_
        refine us_aald hx hb hK hP 1 0 rfl rfl hi3 (by decide) rfl dX1_arrived_61 ?_
        refine lv_iload_n hx hb dX1_arrived_62 rfl (lv_at hl 2 rfl) ?_
        refine va_calli (va_runVN (C := RX0) (As := [.int p1]) (rest := []) ⟨hx, hb, hml, hown, htb⟩ (kt_X0_isThereAt l dC dI (pa i) H.size ((sp_ru nu nm F U p3) i) p1) ⟨va_cnB 1 htb (us_g0 mw_355) rfl rfl rfl (hE.2.2.1 (.methodLinkNest RX1 158 yX0_isThereAt "UnitStates") (by decide +kernel)) (htb _ mw_33) (by decide +kernel) ⟨Nat.le_of_ble_eq_true rfl, Nat.le_of_ble_eq_true rfl⟩, htb _ mw_354, htb _ mw_17⟩ ⟨us_Pu_blind, va_recv hK hP (ci := 0) (q0 := 8 + i) rfl (us_W_get hi3), fun U hU hW => ⟨rfl, us_Pu_at (us_W_sub hP hi3) hK hU hW⟩⟩ rfl rfl hl.1 rfl (lv_room (Nat.le_of_ble_eq_true rfl)) dX1_arrived_63 ⟨Nat.le_of_ble_eq_true rfl, Nat.le_of_ble_eq_true rfl⟩) hS (fun q h1 h2 => absurd h2 (Nat.not_le.mpr h1)) (fun q h => hA q (Nat.le_trans hS.1 h)) (fun r_4 _ t_5 H_3 locs ht hvm hw hB hz1 hk1 hS => ?_)
        subst hw
        have hP := us_mono hP (fun q h => hk1 q h (Nat.not_le.mpr h))
        refine lv_if_eq (tgt := 87) hx hb dX1_arrived_66 (by decide) (fun c_6 => ?_) (fun c_6 => ?_)
        · refine lv_iinc (v := (nI (i + 1))) (lv' := [(4, .int (nI (i + 1))), (0, .ref (ad 0)), (1, .int p1), (2, .int p2), (3, .int p3)]) hx hb dX1_arrived_87 hl (k := 0) rfl (nI_1 i) (by decide) rfl (fun ls hl => ?_)
          refine lv_goto (tgt := 46) hx hb dX1_arrived_90 (by decide) ?_
          have e9 : sp_arr nu (sp_ru nu nm F U p3) p1 p2 (n + 1) i = sp_arr nu (sp_ru nu nm F U p3) p1 p2 n (i + 1) := by rw [sp_arr, if_pos c_6]
          exact ih (i + 1) _ _ _ (by omega) (by rw [← e9]; exact hR) hP hD hS (lv_sub hl [0, 1, 2, 3, 4] rfl) hk0
        · refine lv_aload_n hx hb dX1_arrived_69 rfl (lv_at hl 1 rfl) ?_
          refine lv_aload_n hx hb dX1_arrived_70 rfl (lv_at hl 1 rfl) ?_
          refine va_get (D := (dC, dI)) (ci := 1) (v := .ref (ad 1)) (C := RX1) (T := TX1) (N := 10) hx hb htb us_inX1 hown hK hP 0 rfl rfl 0 (by decide) (htb _ mw_109) (fun _ h9 => h9) rfl dX1_arrived_71 ?_
          refine lv_iload hx hb dX1_arrived_74 (lv_at hl 0 rfl) ?_
          refine us_aald hx hb hK hP 1 0 rfl rfl hi3 (by decide) rfl dX1_arrived_76 ?_
          refine va_calli (va_runV (As := [.ref (pa i)]) (rest := []) ⟨hx, hb, hml, hown, htb⟩ (kt_X1_rankOf l dC dI ad cU cI pa H_3.size nu nm nk (sp_rf nu nm F U p3) (sp_ru nu nm F U p3) i hnu hi3) (cwV 1 htb (us_gV mw_348 mw_350 mw_16 mw_32 mw_351) rfl rfl rfl (by decide +kernel) ⟨Nat.le_of_ble_eq_true rfl, Nat.le_of_ble_eq_true rfl⟩) ⟨us_Px_blind, va_recv hK hP (ci := 1) (q0 := 0) rfl rfl, fun U hU hW => ⟨rfl, us_Px_at hP hK hD hE hS (fun q h => hA q (Nat.le_trans hS.1 h)) hU hW⟩⟩ rfl rfl hl.1 rfl (lv_room (Nat.le_of_ble_eq_true rfl)) dX1_arrived_77 ⟨Nat.le_of_ble_eq_true rfl, Nat.le_of_ble_eq_true rfl⟩) hS (fun q h1 h2 => absurd h2 (Nat.not_le.mpr h1)) (fun q h => hA q (Nat.le_trans hS.1 h)) (fun r_8 _ t_9 H_7 locs ht hvm hw hB hz1 hk1 hS => ?_)
          obtain ⟨-, hw⟩ := hw
          subst hw
          have hP := us_mono hP (fun q h => hk1 q h (Nat.not_le.mpr h))
          refine lv_iload_n hx hb dX1_arrived_80 rfl (lv_at hl 3 rfl) ?_
          refine lv_icmp_ne (tgt := 87) hx hb dX1_arrived_81 (by decide) (fun c_10 => ?_) (fun c_10 => ?_)
          · refine lv_iinc (v := (nI (i + 1))) (lv' := [(4, .int (nI (i + 1))), (0, .ref (ad 0)), (1, .int p1), (2, .int p2), (3, .int p3)]) hx hb dX1_arrived_87 hl (k := 0) rfl (nI_1 i) (by decide) rfl (fun ls hl => ?_)
            refine lv_goto (tgt := 46) hx hb dX1_arrived_90 (by decide) ?_
            have e9 : sp_arr nu (sp_ru nu nm F U p3) p1 p2 (n + 1) i = sp_arr nu (sp_ru nu nm F U p3) p1 p2 n (i + 1) := by rw [sp_arr, if_neg c_6, if_neg c_10]
            exact ih (i + 1) _ _ _ (by omega) (by rw [← e9]; exact hR) hP hD hS (lv_sub hl [0, 1, 2, 3, 4] rfl) hk0
          · refine lv_iload hx hb dX1_arrived_84 (lv_at hl 0 rfl) ?_
            have hk9 : sp_arrK p1 p2 p3 = 0 := by exact hk0
            have hsp : (nI i) = sp_arr nu (sp_ru nu nm F U p3) p1 p2 nu 0 := by rw [← hR, sp_arr, if_neg c_6, if_pos c_10]
            exact vx_ret (W.widen (k := 2) (n := 12) (Nat.le_of_ble_eq_true rfl) (Nat.le_of_ble_eq_true rfl) (W.iret (v := (nI i)) hx hb hr (fun t ht hW => ⟨⟨(nI i), (), rfl, ⟨hk9, hsp⟩, us_Bx_of ht hP rfl rfl rfl⟩, hS.F ht⟩) hS.2.2 dX1_arrived_86))
  refine lv_iload_n hx hb dX1_arrived_0 rfl (lv_at hl 1 rfl) ?_
  refine lv_bipush (v := 19) hx hb dX1_arrived_1 (by decide) ?_
  refine va_calli (va_runS (As := [.int p1, .int 19]) (rest := []) ⟨hx, hb, hml, hown, htb⟩ (kt_X1_isWithin l s.heap.size p1 19) (cwS 2 htb (us_gS mw_149 mw_150 mw_32 mw_151) rfl rfl rfl (by decide +kernel) ⟨Nat.le_of_ble_eq_true rfl, Nat.le_of_ble_eq_true rfl⟩) ⟨us_blind0, fun U hU _ => ⟨rfl, congrArg Array.size hU⟩⟩ rfl rfl hl.1 rfl (lv_room (Nat.le_of_ble_eq_true rfl)) dX1_arrived_3 ⟨Nat.le_of_ble_eq_true rfl, Nat.le_of_ble_eq_true rfl⟩) hS (fun q h1 h2 => absurd h2 (Nat.not_le.mpr h1)) (fun q h => hA q (Nat.le_trans hS.1 h)) (fun r_12 _ t_13 H_11 locs ht hvm hw hB hz1 hk1 hS => ?_)
  obtain ⟨-, hw⟩ := hw
  subst hw
  have hP := us_mono hP (fun q h => hk1 q h (Nat.not_le.mpr h))
  refine lv_if_ne (tgt := 19) hx hb dX1_arrived_6 (by decide) (fun c_14 => ?_) (fun c_14 => ?_)
  · refine lv_iload_n hx hb dX1_arrived_19 rfl (lv_at hl 3 rfl) ?_
    refine vx_callv (vx_runS (As := [.int p3]) (rest := []) ⟨hx, hb, hml, hown, htb⟩ (kt_X1_refuseOutsideMinutes l hl9 H_11.size p3) (cwS 1 htb (us_gS mw_270 mw_271 mw_32 mw_272) rfl rfl rfl (by decide +kernel) ⟨Nat.le_of_ble_eq_true rfl, Nat.le_of_ble_eq_true rfl⟩) ⟨us_P0_blind, fun U hU hW => ⟨rfl, us_P0_at hE hS (fun q h => hA q (Nat.le_trans hS.1 h)) hU hW⟩⟩ rfl rfl hl.1 rfl (lv_room (Nat.le_of_ble_eq_true rfl)) dX1_arrived_20 ⟨Nat.le_of_ble_eq_true rfl, Nat.le_of_ble_eq_true rfl⟩) hS (fun q h1 h2 => absurd h2 (Nat.not_le.mpr h1)) (fun q h => hA q (Nat.le_trans hS.1 h)) (fun q h1 h2 => absurd h2 (Nat.not_le.mpr h1)) (fun E_t_17 ce_t_17 q_t_17 _ t_17 H_15 locs ht hvm hw hB hz1 hk1 hS hce hcv hcl => ?_) (fun _ t_17 H_15 locs ht hvm hw hB hz1 hk1 hS => ?_)
    · have hkk := hw
      have hx9 : sp_in p3 99999 = 0 := by refine Decidable.byContradiction (fun h9 => hkk ?_); simp only [sp_minK, eq_false h9, if_false]
      have hE9 := hB
      have hP := us_mono hP (fun q h => hk1 q h (Nat.not_le.mpr h))
      have hk9 : sp_arrK p1 p2 p3 = sp_minK p3 := by first | (simp only [sp_arrK, sp_minK, eq_false c_14, eq_true hx9, if_true, if_false]; done) | (simp [sp_arrK, sp_minK, c_14, hx9]; done)
      exact vx_out (E := E_t_17) (fun x hx => (hte x hx).elim) hlocks hce hcv hcl (fun t9 ht9 ha => ⟨(), (by rw [hk9]; exact hkk), ⟨(by rw [hk9]; exact hE9), us_Bx_of ht9 hP rfl rfl rfl⟩, hS.F ht9⟩) hS.2.2 (Nat.le_of_ble_eq_true rfl) (Nat.le_of_ble_eq_true rfl)
    have hk0 := hw
    have hk_18 : sp_minK p3 = 0 := hk0
    have hf_19 : ¬ sp_in p3 99999 = 0 := by intro h9; simp [sp_minK, h9] at hk_18
    have hP := us_mono hP (fun q h => hk1 q h (Nat.not_le.mpr h))
    refine lv_iload_n hx hb dX1_arrived_23 rfl (lv_at hl 2 rfl) ?_
    refine lv_iconst (v := 1) hx hb dX1_arrived_24 (by decide) ?_
    refine lv_icmp_ge (tgt := 38) hx hb dX1_arrived_25 (by decide) (fun c_20 => ?_) (fun c_20 => ?_)
    · refine lv_aload_n hx hb dX1_arrived_38 rfl (lv_at hl 0 rfl) ?_
      refine lv_iload_n hx hb dX1_arrived_39 rfl (lv_at hl 3 rfl) ?_
      refine va_callv (va_runV (As := [.int p3]) (rest := []) ⟨hx, hb, hml, hown, htb⟩ (kt_X1_replay l dC dI ad cU cI pa H_15.size nu nm nk F U p3 hnu hnm hO hV) (cwV 1 htb (us_gV mw_297 mw_299 mw_5 mw_32 mw_300) rfl rfl rfl (by decide +kernel) ⟨Nat.le_of_ble_eq_true rfl, Nat.le_of_ble_eq_true rfl⟩) ⟨us_Px_blind, va_recv hK hP (ci := 1) (q0 := 0) rfl rfl, fun U hU hW => ⟨rfl, us_Px_at hP hK hD hE hS (us_AA_le hS) hU hW⟩⟩ rfl rfl hl.1 rfl (lv_room (Nat.le_of_ble_eq_true rfl)) dX1_arrived_40 ⟨Nat.le_of_ble_eq_true rfl, Nat.le_of_ble_eq_true rfl⟩) hS (fun q _ h => us_AA_le hS q h) (us_AA_le hS) (fun _ t_23 H_21 locs ht hvm hw hB hz1 hk1 hS => ?_)
      have hP := us_Bx_use ht hB
      have hD : va_D (us_AA (us_ads ad pa) s.heap.size) (us_W ad cU cI pa nu nm nk (sp_rf nu nm F U p3) (sp_ru nu nm F U p3)) := us_D_of (by rw [us_W_adr, us_W_adr]) hD
      have hP : va_P (dC, dI) vwCl (us_W ad cU cI pa nu nm nk (sp_rf nu nm F U p3) (sp_ru nu nm F U p3)) H_21 := hP
      refine lv_iconst (v := 0) hx hb dX1_arrived_43 (by decide) ?_
      refine lv_istore (lv' := [(4, .int 0), (0, .ref (ad 0)), (1, .int p1), (2, .int p2), (3, .int p3)]) hx hb dX1_arrived_44 hl (by decide) rfl (fun ls hl => ?_)
      exact lp46 nu 0 _ _ _ (by omega) rfl hP hD hS (lv_sub hl [0, 1, 2, 3, 4] rfl) (by simp [sp_arrK, c_14, hk_18, hf_19, c_20])
    · obtain ⟨sa_24, hst_sa_24⟩ := hE.2.2.2.2 (RX1, 156, "ranks begin with 1") (by decide +kernel)
      have hk9 : sp_arrK p1 p2 p3 = 2 := by first | (simp only [sp_arrK, sp_minK, eq_false c_14, eq_true hk_18, eq_false hf_19, eq_false c_20, if_true, if_false]; done) | (simp [sp_arrK, sp_minK, c_14, hk_18, hf_19, c_20]; done)
      exact vx_throwS (own := RX1) (cls := "java/lang/IndexOutOfBoundsException") (names := ["java/lang/RuntimeException", "java/lang/Exception"]) hx hb hl9 hown (by decide +kernel) (by decide +kernel) (htb _ mw_152) (htb _ mw_38) hst_sa_24 (vx_hat (L := vx_atS RX1 43 "java/lang/IndexOutOfBoundsException" ["java/lang/RuntimeException", "java/lang/Exception"]) (B := [.castable "java/lang/IndexOutOfBoundsException" "java/lang/IndexOutOfBoundsException", .declares ⟨"java/lang/RuntimeException", "<init>", "(Ljava/lang/String;)V"⟩, .declares ⟨"java/lang/Exception", "<init>", "(Ljava/lang/String;)V"⟩, .declares ⟨"java/lang/Throwable", "<init>", "(Ljava/lang/String;)V"⟩]) (fun w hw => htb w (us_at43 w hw)) us_ab43 (vx_c (va_Nw.use rfl (hE.2.2.1 _ (by decide +kernel))) (vx_c (va_Nw.use rfl (hE.2.2.1 _ (by decide +kernel))) (vx_c (va_Nw.use rfl (hE.2.2.1 _ (by decide +kernel))) (vx_c (va_Nw.use rfl (hE.2.2.1 _ (by decide +kernel))) (vx_n)))))) us_ag43 hE.1 hE.2.1 hS (hl.1.trans hml.symm) dX1_arrived_28 dX1_arrived_31 dX1_arrived_32 dX1_arrived_34 dX1_arrived_37 (fun x hx => (hte x hx).elim) (Nat.le_of_ble_eq_true rfl) (Nat.le_of_ble_eq_true rfl) (Nat.le_of_ble_eq_true rfl) (Nat.le_of_ble_eq_true rfl) hlocks (fun t ha hsz hk => ⟨(), (by rw [hk9]; decide), ⟨(by rw [hk9]; rfl), us_Bx_of rfl (us_mono hP (fun q hq => hk q hq)) rfl rfl rfl⟩, Nat.le_trans hS.1 hsz, fun q h1 h2 => (hk q (Nat.lt_of_lt_of_le h1 hS.1)).trans (hS.2.1 q h1 h2)⟩) hS.2.2 (Nat.le_of_ble_eq_true rfl) (Nat.le_of_ble_eq_true rfl)
  · obtain ⟨sa_25, hst_sa_25⟩ := hE.2.2.2.2 (RX1, 154, "no such incident") (by decide +kernel)
    have hk9 : sp_arrK p1 p2 p3 = 1 := by first | (simp only [sp_arrK, sp_minK, eq_true c_14, if_true, if_false]; done) | (simp [sp_arrK, sp_minK, c_14]; done)
    exact vx_throwS (own := RX1) (cls := "java/lang/IllegalArgumentException") (names := ["java/lang/RuntimeException", "java/lang/Exception"]) hx hb hl9 hown (by decide +kernel) (by decide +kernel) (htb _ mw_253) (htb _ mw_40) hst_sa_25 (vx_hat (L := vx_atS RX1 72 "java/lang/IllegalArgumentException" ["java/lang/RuntimeException", "java/lang/Exception"]) (B := [.castable "java/lang/IllegalArgumentException" "java/lang/IllegalArgumentException", .declares ⟨"java/lang/RuntimeException", "<init>", "(Ljava/lang/String;)V"⟩, .declares ⟨"java/lang/Exception", "<init>", "(Ljava/lang/String;)V"⟩, .declares ⟨"java/lang/Throwable", "<init>", "(Ljava/lang/String;)V"⟩]) (fun w hw => htb w (us_at72 w hw)) us_ab72 (vx_c (va_Nw.use rfl (hE.2.2.1 _ (by decide +kernel))) (vx_c (va_Nw.use rfl (hE.2.2.1 _ (by decide +kernel))) (vx_c (va_Nw.use rfl (hE.2.2.1 _ (by decide +kernel))) (vx_c (va_Nw.use rfl (hE.2.2.1 _ (by decide +kernel))) (vx_n)))))) us_ag72 hE.1 hE.2.1 hS (hl.1.trans hml.symm) dX1_arrived_9 dX1_arrived_12 dX1_arrived_13 dX1_arrived_15 dX1_arrived_18 (fun x hx => (hte x hx).elim) (Nat.le_of_ble_eq_true rfl) (Nat.le_of_ble_eq_true rfl) (Nat.le_of_ble_eq_true rfl) (Nat.le_of_ble_eq_true rfl) hlocks (fun t ha hsz hk => ⟨(), (by rw [hk9]; decide), ⟨(by rw [hk9]; rfl), us_Bx_of rfl (us_mono hP (fun q hq => hk q hq)) rfl rfl rfl⟩, Nat.le_trans hS.1 hsz, fun q h1 h2 => (hk q (Nat.lt_of_lt_of_le h1 hS.1)).trans (hS.2.1 q h1 h2)⟩) hS.2.2 (Nat.le_of_ble_eq_true rfl) (Nat.le_of_ble_eq_true rfl)
