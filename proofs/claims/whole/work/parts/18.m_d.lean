set_option maxHeartbeats 8000000 in
set_option maxRecDepth 100000 in
theorem kt_X2_place (l : Launch) (dC : Nat → ClassId) (dI : Nat → Nat → Nat) (md : Nat → Nat) (cI : ClassId) (sz : Nat) (th : Int32) (nu nm : Nat) (sk : Int32) (G : Nat → Nat → Int32) (v : Nat → Int32) (p1 p2 : Int32) (L : List Nat) (hnu : nu ≤ 30) (hnm : nm ≤ 200) (hL : um_ok G nm L) (hAr : ∀ (t : Int32) (j : Nat), j < nu → ¬ um_in (um_st G L t j 0) 3 5 = 0 → ∃ a, a < nm ∧ um_st G L t j 11 = nI a) : Met l yX2_place wsX2_place ({ frames := 4, cells := 0, slots := 0, locals := 91 }) (va_Pc [.ref (md 0), .int p1, .int p2] (um_P dC dI md cI th nu nm sk G v sz)) (va_Qi (fun r (_ : Nat → Int32) => um_plK p1 p2 nu = 0 → r = um_st G L p2 p1.toNatClampNeg 8) (fun v9 t => um_B dC dI md cI (um_plK p1 p2 nu) nu nm sk G v9 t) (us_AA (um_ads md) sz)) 0 0 (us_AA (um_ads md) sz) := by
  refine Met.ofW (cc := cX2_place) (maxL := 3) (ret := (some .int)) (by decide) rfl ?_
  intro p e s m args below meth c s₁ B hml hv
  obtain ⟨rfl, hsz, hP, hK, hD⟩ := hv
  have hx := B.exec
  have hb := B.bytes
  have hr := B.returns
  have htb := us_htb (atoms_spec (ws := wsX2_place) B.pre)
  have hown : s.vm.findClass RX2 = some m.cls := findClass_of_methodNamed B.named
  have hlocks := B.notSynchronized
  subst hsz
  have hA : ∀ q : Nat, s.heap.size ≤ q → (us_AA (um_ads md) s.heap.size) q := fun q h => Or.inr h
  have hS : va_S (us_AA (um_ads md) s.heap.size) s.heap s.heap [] := va_S.rf
  have hP : va_P (dC, dI) vwCl (um_W md cI th nu nm sk G v) s.heap := hP
  have hD : va_D (us_AA (um_ads md) s.heap.size) (um_W md cI th nu nm sk G v) := us_D_aa hD
  have hl := lv_entry ([.ref (md 0), .int p1, .int p2]) (n := 3) (Nat.le_of_ble_eq_true rfl)
  rw [lg_entry_eq]
  generalize (lg_sl ([.ref (md 0), .int p1, .int p2]) ++ List.replicate (3 - (lg_sl ([.ref (md 0), .int p1, .int p2])).length) Slot.unset).toArray = ls at hl ⊢
  have hl : lv_has ls 3 [(0, .ref (md 0)), (1, .int p1), (2, .int p2)] := hl
  refine lv_aload_n hx hb dX2_place_0 rfl (lv_at hl 0 rfl) ?_
  refine lv_aload_n hx hb dX2_place_1 rfl (lv_at hl 0 rfl) ?_
  refine lv_iload_n hx hb dX2_place_2 rfl (lv_at hl 1 rfl) ?_
  refine va_calli (va_runV (As := [.int p1]) (rest := [.ref (md 0)]) ⟨hx, hb, hml, hown, htb⟩ (kt_X2_isUnit l dC dI md cI s.heap.size th nu nm sk G v p1) (cwV 1 htb (us_gV mw_512 mw_514 mw_21 mw_34 mw_515) rfl rfl rfl (by decide +kernel) ⟨Nat.le_of_ble_eq_true rfl, Nat.le_of_ble_eq_true rfl⟩) ⟨um_P_blind, va_recv hK hP (ci := 2) (q0 := 0) rfl rfl, fun U hU hW => ⟨rfl, um_P_at hP hK hD hU hW⟩⟩ rfl rfl hl.1 rfl (lv_room (Nat.le_of_ble_eq_true rfl)) dX2_place_3 ⟨Nat.le_of_ble_eq_true rfl, Nat.le_of_ble_eq_true rfl⟩) hS (fun q h1 h2 => absurd h2 (Nat.not_le.mpr h1)) (fun q h => hA q (Nat.le_trans hS.1 h)) (fun r_2 _ t_3 H_1 locs ht hvm hw hB hz1 hk1 hS => ?_)
  subst hw
  have hP := us_mono hP (fun q h => hk1 q h (Nat.not_le.mpr h))
  refine lv_if_ne (tgt := 13) hx hb dX2_place_6 (by decide) (fun c_4 => ?_) (fun c_4 => ?_)
  · refine lv_iconst (v := 0) hx hb dX2_place_13 (by decide) ?_
    refine lv_iload_n hx hb dX2_place_14 rfl (lv_at hl 2 rfl) ?_
    refine va_calli (va_runS (As := [.int p2]) (rest := [.int 0, .ref (md 0)]) ⟨hx, hb, hml, hown, htb⟩ (kt_X2_isMinute l H_1.size p2) (cwS 1 htb (us_gS mw_516 mw_517 mw_34 mw_518) rfl rfl rfl (by decide +kernel) ⟨Nat.le_of_ble_eq_true rfl, Nat.le_of_ble_eq_true rfl⟩) ⟨us_blind0, fun U hU _ => ⟨rfl, congrArg Array.size hU⟩⟩ rfl rfl hl.1 rfl (lv_room (Nat.le_of_ble_eq_true rfl)) dX2_place_15 ⟨Nat.le_of_ble_eq_true rfl, Nat.le_of_ble_eq_true rfl⟩) hS (fun q h1 h2 => absurd h2 (Nat.not_le.mpr h1)) (fun q h => hA q (Nat.le_trans hS.1 h)) (fun r_6 _ t_7 H_5 locs ht hvm hw hB hz1 hk1 hS => ?_)
    subst hw
    have hP := us_mono hP (fun q h => hk1 q h (Nat.not_le.mpr h))
    refine lv_if_ne (tgt := 25) hx hb dX2_place_18 (by decide) (fun c_8 => ?_) (fun c_8 => ?_)
    · refine lv_iconst (v := 0) hx hb dX2_place_25 (by decide) ?_
      refine lv_iconst (v := 0) hx hb dX2_place_26 (by decide) ?_
      refine va_calli (va_runV (As := [.int 0, .int 0, .int 0]) (rest := []) ⟨hx, hb, hml, hown, htb⟩ (kt_X2_throwing l dC dI md cI H_5.size th nu nm sk G v 0 0 0) (cwV 3 htb (us_gV mw_504 mw_506 mw_20 mw_34 mw_507) rfl rfl rfl (by decide +kernel) ⟨Nat.le_of_ble_eq_true rfl, Nat.le_of_ble_eq_true rfl⟩) ⟨um_P_blind, va_recv hK hP (ci := 2) (q0 := 0) rfl rfl, fun U hU hW => ⟨rfl, um_P_at hP hK hD hU hW⟩⟩ rfl rfl hl.1 rfl (lv_room (Nat.le_of_ble_eq_true rfl)) dX2_place_27 ⟨Nat.le_of_ble_eq_true rfl, Nat.le_of_ble_eq_true rfl⟩) hS (fun q _ h => us_AA_le hS q h) (us_AA_le hS) (fun r_10 _ t_11 H_9 locs ht hvm hw hB hz1 hk1 hS => ?_)
      subst hw
      have hP := um_B_use ht hB
      have hD : va_D (us_AA (um_ads md) s.heap.size) (um_W md cI (um_th 0 0 0) nu nm sk G v) := us_D_of (by rw [um_W_adr, um_W_adr]) hD
      have hP : va_P (dC, dI) vwCl (um_W md cI (um_th 0 0 0) nu nm sk G v) H_9 := hP
      refine lv_if_eq (tgt := 35) hx hb dX2_place_30 (by decide) (fun c_12 => ?_) (fun c_12 => ?_)
      · obtain ⟨j, hj, ej⟩ := um_in_spec (x := p1) (n := nu) (by omega) c_4
        have hj3 : j < 30 := by omega
        refine lv_aload_n hx hb dX2_place_35 rfl (lv_at hl 0 rfl) ?_
        refine lv_iload_n hx hb dX2_place_36 rfl (lv_at hl 1 rfl) ?_
        refine lv_topi (fun i9 ei9 => ?_)
        have ei9 := ei9.trans ej
        subst ei9
        refine lv_iload_n hx hb dX2_place_37 rfl (lv_at hl 2 rfl) ?_
        refine lv_iconst (v := (-1)) hx hb dX2_place_38 (by decide) ?_
        refine va_callv (va_runV (As := [.int (nI j), .int p2, .int (-1)]) (rest := []) ⟨hx, hb, hml, hown, htb⟩ (kt_X2_follow l dC dI md cI H_9.size (um_th 0 0 0) nu nm sk G v j p2 L hj3 hnm hL) (cwV 3 htb (us_gV mw_532 mw_534 mw_23 mw_34 mw_535) rfl rfl rfl (by decide +kernel) ⟨Nat.le_of_ble_eq_true rfl, Nat.le_of_ble_eq_true rfl⟩) ⟨um_P_blind, va_recv hK hP (ci := 2) (q0 := 0) rfl rfl, fun U hU hW => ⟨rfl, um_P_at hP hK hD hU hW⟩⟩ rfl rfl hl.1 rfl (lv_room (Nat.le_of_ble_eq_true rfl)) dX2_place_39 ⟨Nat.le_of_ble_eq_true rfl, Nat.le_of_ble_eq_true rfl⟩) hS (fun q _ h => us_AA_le hS q h) (us_AA_le hS) (fun _ t_15 H_13 locs ht hvm hw hB hz1 hk1 hS => ?_)
        have hP := um_B_use ht hB
        have hD : va_D (us_AA (um_ads md) s.heap.size) (um_W md cI (um_th 0 0 0) nu nm sk G (um_fol G L j p2 v)) := us_D_of (by rw [um_W_adr, um_W_adr]) hD
        have hP : va_P (dC, dI) vwCl (um_W md cI (um_th 0 0 0) nu nm sk G (um_fol G L j p2 v)) H_13 := hP
        refine lv_aload_n hx hb dX2_place_42 rfl (lv_at hl 0 rfl) ?_
        refine um_get (x := (um_st G L p2 j 8)) hx hb htb us_inX2 hown hK hP 8 (by decide) (htb _ mw_441) (um_fol_ag (by decide)) dX2_place_43 ?_
        have hkv : um_plK p1 p2 nu = 0 := by first | (simp only [um_plK, eq_false c_4, eq_false c_8, eq_true c_12, if_true, if_false]; done) | (simp [um_plK, c_4, c_8, c_12]; done)
        have hsp : um_plK p1 p2 nu = 0 → (um_st G L p2 j 8) = um_st G L p2 p1.toNatClampNeg 8 := by intro _; rw [ej, nI_clamp (by omega)]
        exact W.iret (v := (um_st G L p2 j 8)) hx hb hr (fun t ht hW => ⟨⟨(um_st G L p2 j 8), (um_fol G L j p2 v), rfl, hsp, um_B_of ht hP (by rw [hkv]; decide) rfl rfl rfl rfl rfl⟩, hS.F ht⟩) hS.2.2 dX2_place_46
      · exact absurd (by decide) c_12
    · refine lv_iconst (v := 1) hx hb dX2_place_21 (by decide) ?_
      refine lv_goto (tgt := 26) hx hb dX2_place_22 (by decide) ?_
      refine lv_iconst (v := 0) hx hb dX2_place_26 (by decide) ?_
      refine va_calli (va_runV (As := [.int 0, .int 1, .int 0]) (rest := []) ⟨hx, hb, hml, hown, htb⟩ (kt_X2_throwing l dC dI md cI H_5.size th nu nm sk G v 0 1 0) (cwV 3 htb (us_gV mw_504 mw_506 mw_20 mw_34 mw_507) rfl rfl rfl (by decide +kernel) ⟨Nat.le_of_ble_eq_true rfl, Nat.le_of_ble_eq_true rfl⟩) ⟨um_P_blind, va_recv hK hP (ci := 2) (q0 := 0) rfl rfl, fun U hU hW => ⟨rfl, um_P_at hP hK hD hU hW⟩⟩ rfl rfl hl.1 rfl (lv_room (Nat.le_of_ble_eq_true rfl)) dX2_place_27 ⟨Nat.le_of_ble_eq_true rfl, Nat.le_of_ble_eq_true rfl⟩) hS (fun q _ h => us_AA_le hS q h) (us_AA_le hS) (fun r_17 _ t_18 H_16 locs ht hvm hw hB hz1 hk1 hS => ?_)
      subst hw
      have hP := um_B_use ht hB
      have hD : va_D (us_AA (um_ads md) s.heap.size) (um_W md cI (um_th 0 1 0) nu nm sk G v) := us_D_of (by rw [um_W_adr, um_W_adr]) hD
      have hP : va_P (dC, dI) vwCl (um_W md cI (um_th 0 1 0) nu nm sk G v) H_16 := hP
      refine lv_if_eq (tgt := 35) hx hb dX2_place_30 (by decide) (fun c_19 => ?_) (fun c_19 => ?_)
      · exact absurd c_19 (by decide)
      · refine lv_iconst (v := 0) hx hb dX2_place_33 (by decide) ?_
        have hkv : um_plK p1 p2 nu = 2 := by first | (simp only [um_plK, eq_false c_4, eq_true c_8, eq_false c_19, if_true, if_false]; done) | (simp [um_plK, c_4, c_8, c_19]; done)
        have hsp : um_plK p1 p2 nu = 0 → 0 = um_st G L p2 p1.toNatClampNeg 8 := by exact fun h9 => absurd (hkv.symm.trans h9) (by decide)
        exact W.iret (v := 0) hx hb hr (fun t ht hW => ⟨⟨0, v, rfl, hsp, um_B_of ht hP (by rw [hkv]; decide) rfl rfl rfl rfl rfl⟩, hS.F ht⟩) hS.2.2 dX2_place_34
  · refine lv_iconst (v := 1) hx hb dX2_place_9 (by decide) ?_
    refine lv_goto (tgt := 14) hx hb dX2_place_10 (by decide) ?_
    refine lv_iload_n hx hb dX2_place_14 rfl (lv_at hl 2 rfl) ?_
    refine va_calli (va_runS (As := [.int p2]) (rest := [.int 1, .ref (md 0)]) ⟨hx, hb, hml, hown, htb⟩ (kt_X2_isMinute l H_1.size p2) (cwS 1 htb (us_gS mw_516 mw_517 mw_34 mw_518) rfl rfl rfl (by decide +kernel) ⟨Nat.le_of_ble_eq_true rfl, Nat.le_of_ble_eq_true rfl⟩) ⟨us_blind0, fun U hU _ => ⟨rfl, congrArg Array.size hU⟩⟩ rfl rfl hl.1 rfl (lv_room (Nat.le_of_ble_eq_true rfl)) dX2_place_15 ⟨Nat.le_of_ble_eq_true rfl, Nat.le_of_ble_eq_true rfl⟩) hS (fun q h1 h2 => absurd h2 (Nat.not_le.mpr h1)) (fun q h => hA q (Nat.le_trans hS.1 h)) (fun r_21 _ t_22 H_20 locs ht hvm hw hB hz1 hk1 hS => ?_)
    subst hw
    have hP := us_mono hP (fun q h => hk1 q h (Nat.not_le.mpr h))
    refine lv_if_ne (tgt := 25) hx hb dX2_place_18 (by decide) (fun c_23 => ?_) (fun c_23 => ?_)
    · refine lv_iconst (v := 0) hx hb dX2_place_25 (by decide) ?_
      refine lv_iconst (v := 0) hx hb dX2_place_26 (by decide) ?_
      refine va_calli (va_runV (As := [.int 1, .int 0, .int 0]) (rest := []) ⟨hx, hb, hml, hown, htb⟩ (kt_X2_throwing l dC dI md cI H_20.size th nu nm sk G v 1 0 0) (cwV 3 htb (us_gV mw_504 mw_506 mw_20 mw_34 mw_507) rfl rfl rfl (by decide +kernel) ⟨Nat.le_of_ble_eq_true rfl, Nat.le_of_ble_eq_true rfl⟩) ⟨um_P_blind, va_recv hK hP (ci := 2) (q0 := 0) rfl rfl, fun U hU hW => ⟨rfl, um_P_at hP hK hD hU hW⟩⟩ rfl rfl hl.1 rfl (lv_room (Nat.le_of_ble_eq_true rfl)) dX2_place_27 ⟨Nat.le_of_ble_eq_true rfl, Nat.le_of_ble_eq_true rfl⟩) hS (fun q _ h => us_AA_le hS q h) (us_AA_le hS) (fun r_25 _ t_26 H_24 locs ht hvm hw hB hz1 hk1 hS => ?_)
      subst hw
      have hP := um_B_use ht hB
      have hD : va_D (us_AA (um_ads md) s.heap.size) (um_W md cI (um_th 1 0 0) nu nm sk G v) := us_D_of (by rw [um_W_adr, um_W_adr]) hD
      have hP : va_P (dC, dI) vwCl (um_W md cI (um_th 1 0 0) nu nm sk G v) H_24 := hP
      refine lv_if_eq (tgt := 35) hx hb dX2_place_30 (by decide) (fun c_27 => ?_) (fun c_27 => ?_)
      · exact absurd c_27 (by decide)
      · refine lv_iconst (v := 0) hx hb dX2_place_33 (by decide) ?_
        have hkv : um_plK p1 p2 nu = 1 := by first | (simp only [um_plK, eq_true c_4, eq_false c_23, eq_false c_27, if_true, if_false]; done) | (simp [um_plK, c_4, c_23, c_27]; done)
        have hsp : um_plK p1 p2 nu = 0 → 0 = um_st G L p2 p1.toNatClampNeg 8 := by exact fun h9 => absurd (hkv.symm.trans h9) (by decide)
        exact W.iret (v := 0) hx hb hr (fun t ht hW => ⟨⟨0, v, rfl, hsp, um_B_of ht hP (by rw [hkv]; decide) rfl rfl rfl rfl rfl⟩, hS.F ht⟩) hS.2.2 dX2_place_34
    · refine lv_iconst (v := 1) hx hb dX2_place_21 (by decide) ?_
      refine lv_goto (tgt := 26) hx hb dX2_place_22 (by decide) ?_
      refine lv_iconst (v := 0) hx hb dX2_place_26 (by decide) ?_
      refine va_calli (va_runV (As := [.int 1, .int 1, .int 0]) (rest := []) ⟨hx, hb, hml, hown, htb⟩ (kt_X2_throwing l dC dI md cI H_20.size th nu nm sk G v 1 1 0) (cwV 3 htb (us_gV mw_504 mw_506 mw_20 mw_34 mw_507) rfl rfl rfl (by decide +kernel) ⟨Nat.le_of_ble_eq_true rfl, Nat.le_of_ble_eq_true rfl⟩) ⟨um_P_blind, va_recv hK hP (ci := 2) (q0 := 0) rfl rfl, fun U hU hW => ⟨rfl, um_P_at hP hK hD hU hW⟩⟩ rfl rfl hl.1 rfl (lv_room (Nat.le_of_ble_eq_true rfl)) dX2_place_27 ⟨Nat.le_of_ble_eq_true rfl, Nat.le_of_ble_eq_true rfl⟩) hS (fun q _ h => us_AA_le hS q h) (us_AA_le hS) (fun r_29 _ t_30 H_28 locs ht hvm hw hB hz1 hk1 hS => ?_)
      subst hw
      have hP := um_B_use ht hB
      have hD : va_D (us_AA (um_ads md) s.heap.size) (um_W md cI (um_th 1 1 0) nu nm sk G v) := us_D_of (by rw [um_W_adr, um_W_adr]) hD
      have hP : va_P (dC, dI) vwCl (um_W md cI (um_th 1 1 0) nu nm sk G v) H_28 := hP
      refine lv_if_eq (tgt := 35) hx hb dX2_place_30 (by decide) (fun c_31 => ?_) (fun c_31 => ?_)
      · exact absurd c_31 (by decide)
      · refine lv_iconst (v := 0) hx hb dX2_place_33 (by decide) ?_
        have hkv : um_plK p1 p2 nu = 1 := by first | (simp only [um_plK, eq_true c_4, eq_true c_23, eq_false c_31, if_true, if_false]; done) | (simp [um_plK, c_4, c_23, c_31]; done)
        have hsp : um_plK p1 p2 nu = 0 → 0 = um_st G L p2 p1.toNatClampNeg 8 := by exact fun h9 => absurd (hkv.symm.trans h9) (by decide)
        exact W.iret (v := 0) hx hb hr (fun t ht hW => ⟨⟨0, v, rfl, hsp, um_B_of ht hP (by rw [hkv]; decide) rfl rfl rfl rfl rfl⟩, hS.F ht⟩) hS.2.2 dX2_place_34
set_option maxHeartbeats 8000000 in
set_option maxRecDepth 100000 in
theorem kt_X2_age (l : Launch) (dC : Nat → ClassId) (dI : Nat → Nat → Nat) (md : Nat → Nat) (cI : ClassId) (sz : Nat) (th : Int32) (nu nm : Nat) (sk : Int32) (G : Nat → Nat → Int32) (v : Nat → Int32) (p1 p2 : Int32) (L : List Nat) (hnu : nu ≤ 30) (hnm : nm ≤ 200) (hL : um_ok G nm L) (hAr : ∀ (t : Int32) (j : Nat), j < nu → ¬ um_in (um_st G L t j 0) 3 5 = 0 → ∃ a, a < nm ∧ um_st G L t j 11 = nI a) : Met l yX2_age wsX2_age ({ frames := 4, cells := 0, slots := 0, locals := 91 }) (va_Pc [.ref (md 0), .int p1, .int p2] (um_P dC dI md cI th nu nm sk G v sz)) (va_Qi (fun r (_ : Nat → Int32) => um_plK p1 p2 nu = 0 → r = um_age (um_st G L p2 p1.toNatClampNeg) p2) (fun v9 t => um_B dC dI md cI (um_plK p1 p2 nu) nu nm sk G v9 t) (us_AA (um_ads md) sz)) 0 0 (us_AA (um_ads md) sz) := by
  refine Met.ofW (cc := cX2_age) (maxL := 3) (ret := (some .int)) (by decide) rfl ?_
  intro p e s m args below meth c s₁ B hml hv
  obtain ⟨rfl, hsz, hP, hK, hD⟩ := hv
  have hx := B.exec
  have hb := B.bytes
  have hr := B.returns
  have htb := us_htb (atoms_spec (ws := wsX2_age) B.pre)
  have hown : s.vm.findClass RX2 = some m.cls := findClass_of_methodNamed B.named
  have hlocks := B.notSynchronized
  subst hsz
  have hA : ∀ q : Nat, s.heap.size ≤ q → (us_AA (um_ads md) s.heap.size) q := fun q h => Or.inr h
  have hS : va_S (us_AA (um_ads md) s.heap.size) s.heap s.heap [] := va_S.rf
  have hP : va_P (dC, dI) vwCl (um_W md cI th nu nm sk G v) s.heap := hP
  have hD : va_D (us_AA (um_ads md) s.heap.size) (um_W md cI th nu nm sk G v) := us_D_aa hD
  have hl := lv_entry ([.ref (md 0), .int p1, .int p2]) (n := 3) (Nat.le_of_ble_eq_true rfl)
  rw [lg_entry_eq]
  generalize (lg_sl ([.ref (md 0), .int p1, .int p2]) ++ List.replicate (3 - (lg_sl ([.ref (md 0), .int p1, .int p2])).length) Slot.unset).toArray = ls at hl ⊢
  have hl : lv_has ls 3 [(0, .ref (md 0)), (1, .int p1), (2, .int p2)] := hl
  refine lv_aload_n hx hb dX2_age_0 rfl (lv_at hl 0 rfl) ?_
  refine lv_aload_n hx hb dX2_age_1 rfl (lv_at hl 0 rfl) ?_
  refine lv_iload_n hx hb dX2_age_2 rfl (lv_at hl 1 rfl) ?_
  refine va_calli (va_runV (As := [.int p1]) (rest := [.ref (md 0)]) ⟨hx, hb, hml, hown, htb⟩ (kt_X2_isUnit l dC dI md cI s.heap.size th nu nm sk G v p1) (cwV 1 htb (us_gV mw_512 mw_514 mw_21 mw_34 mw_515) rfl rfl rfl (by decide +kernel) ⟨Nat.le_of_ble_eq_true rfl, Nat.le_of_ble_eq_true rfl⟩) ⟨um_P_blind, va_recv hK hP (ci := 2) (q0 := 0) rfl rfl, fun U hU hW => ⟨rfl, um_P_at hP hK hD hU hW⟩⟩ rfl rfl hl.1 rfl (lv_room (Nat.le_of_ble_eq_true rfl)) dX2_age_3 ⟨Nat.le_of_ble_eq_true rfl, Nat.le_of_ble_eq_true rfl⟩) hS (fun q h1 h2 => absurd h2 (Nat.not_le.mpr h1)) (fun q h => hA q (Nat.le_trans hS.1 h)) (fun r_2 _ t_3 H_1 locs ht hvm hw hB hz1 hk1 hS => ?_)
  subst hw
  have hP := us_mono hP (fun q h => hk1 q h (Nat.not_le.mpr h))
  refine lv_if_ne (tgt := 13) hx hb dX2_age_6 (by decide) (fun c_4 => ?_) (fun c_4 => ?_)
  · refine lv_iconst (v := 0) hx hb dX2_age_13 (by decide) ?_
    refine lv_iload_n hx hb dX2_age_14 rfl (lv_at hl 2 rfl) ?_
    refine va_calli (va_runS (As := [.int p2]) (rest := [.int 0, .ref (md 0)]) ⟨hx, hb, hml, hown, htb⟩ (kt_X2_isMinute l H_1.size p2) (cwS 1 htb (us_gS mw_516 mw_517 mw_34 mw_518) rfl rfl rfl (by decide +kernel) ⟨Nat.le_of_ble_eq_true rfl, Nat.le_of_ble_eq_true rfl⟩) ⟨us_blind0, fun U hU _ => ⟨rfl, congrArg Array.size hU⟩⟩ rfl rfl hl.1 rfl (lv_room (Nat.le_of_ble_eq_true rfl)) dX2_age_15 ⟨Nat.le_of_ble_eq_true rfl, Nat.le_of_ble_eq_true rfl⟩) hS (fun q h1 h2 => absurd h2 (Nat.not_le.mpr h1)) (fun q h => hA q (Nat.le_trans hS.1 h)) (fun r_6 _ t_7 H_5 locs ht hvm hw hB hz1 hk1 hS => ?_)
    subst hw
    have hP := us_mono hP (fun q h => hk1 q h (Nat.not_le.mpr h))
    refine lv_if_ne (tgt := 25) hx hb dX2_age_18 (by decide) (fun c_8 => ?_) (fun c_8 => ?_)
    · refine lv_iconst (v := 0) hx hb dX2_age_25 (by decide) ?_
      refine lv_iconst (v := 0) hx hb dX2_age_26 (by decide) ?_
      refine va_calli (va_runV (As := [.int 0, .int 0, .int 0]) (rest := []) ⟨hx, hb, hml, hown, htb⟩ (kt_X2_throwing l dC dI md cI H_5.size th nu nm sk G v 0 0 0) (cwV 3 htb (us_gV mw_504 mw_506 mw_20 mw_34 mw_507) rfl rfl rfl (by decide +kernel) ⟨Nat.le_of_ble_eq_true rfl, Nat.le_of_ble_eq_true rfl⟩) ⟨um_P_blind, va_recv hK hP (ci := 2) (q0 := 0) rfl rfl, fun U hU hW => ⟨rfl, um_P_at hP hK hD hU hW⟩⟩ rfl rfl hl.1 rfl (lv_room (Nat.le_of_ble_eq_true rfl)) dX2_age_27 ⟨Nat.le_of_ble_eq_true rfl, Nat.le_of_ble_eq_true rfl⟩) hS (fun q _ h => us_AA_le hS q h) (us_AA_le hS) (fun r_10 _ t_11 H_9 locs ht hvm hw hB hz1 hk1 hS => ?_)
      subst hw
      have hP := um_B_use ht hB
      have hD : va_D (us_AA (um_ads md) s.heap.size) (um_W md cI (um_th 0 0 0) nu nm sk G v) := us_D_of (by rw [um_W_adr, um_W_adr]) hD
      have hP : va_P (dC, dI) vwCl (um_W md cI (um_th 0 0 0) nu nm sk G v) H_9 := hP
      refine lv_if_eq (tgt := 35) hx hb dX2_age_30 (by decide) (fun c_12 => ?_) (fun c_12 => ?_)
      · obtain ⟨j, hj, ej⟩ := um_in_spec (x := p1) (n := nu) (by omega) c_4
        have hj3 : j < 30 := by omega
        refine lv_aload_n hx hb dX2_age_35 rfl (lv_at hl 0 rfl) ?_
        refine lv_iload_n hx hb dX2_age_36 rfl (lv_at hl 1 rfl) ?_
        refine lv_topi (fun i9 ei9 => ?_)
        have ei9 := ei9.trans ej
        subst ei9
        refine lv_iload_n hx hb dX2_age_37 rfl (lv_at hl 2 rfl) ?_
        refine lv_iconst (v := (-1)) hx hb dX2_age_38 (by decide) ?_
        refine va_callv (va_runV (As := [.int (nI j), .int p2, .int (-1)]) (rest := []) ⟨hx, hb, hml, hown, htb⟩ (kt_X2_follow l dC dI md cI H_9.size (um_th 0 0 0) nu nm sk G v j p2 L hj3 hnm hL) (cwV 3 htb (us_gV mw_532 mw_534 mw_23 mw_34 mw_535) rfl rfl rfl (by decide +kernel) ⟨Nat.le_of_ble_eq_true rfl, Nat.le_of_ble_eq_true rfl⟩) ⟨um_P_blind, va_recv hK hP (ci := 2) (q0 := 0) rfl rfl, fun U hU hW => ⟨rfl, um_P_at hP hK hD hU hW⟩⟩ rfl rfl hl.1 rfl (lv_room (Nat.le_of_ble_eq_true rfl)) dX2_age_39 ⟨Nat.le_of_ble_eq_true rfl, Nat.le_of_ble_eq_true rfl⟩) hS (fun q _ h => us_AA_le hS q h) (us_AA_le hS) (fun _ t_15 H_13 locs ht hvm hw hB hz1 hk1 hS => ?_)
        have hP := um_B_use ht hB
        have hD : va_D (us_AA (um_ads md) s.heap.size) (um_W md cI (um_th 0 0 0) nu nm sk G (um_fol G L j p2 v)) := us_D_of (by rw [um_W_adr, um_W_adr]) hD
        have hP : va_P (dC, dI) vwCl (um_W md cI (um_th 0 0 0) nu nm sk G (um_fol G L j p2 v)) H_13 := hP
        refine lv_aload_n hx hb dX2_age_42 rfl (lv_at hl 0 rfl) ?_
        refine um_get (x := (um_st G L p2 j 8)) hx hb htb us_inX2 hown hK hP 8 (by decide) (htb _ mw_441) (um_fol_ag (by decide)) dX2_age_43 ?_
        refine lv_if_ge (tgt := 53) hx hb dX2_age_46 (by decide) (fun c_16 => ?_) (fun c_16 => ?_)
        · refine lv_iload_n hx hb dX2_age_53 rfl (lv_at hl 2 rfl) ?_
          refine lv_aload_n hx hb dX2_age_54 rfl (lv_at hl 0 rfl) ?_
          refine um_get (x := (um_st G L p2 j 9)) hx hb htb us_inX2 hown hK hP 9 (by decide) (htb _ mw_442) (um_fol_ag (by decide)) dX2_age_55 ?_
          refine lv_isub hx hb dX2_age_58 ?_
          have hkv : um_plK p1 p2 nu = 0 := by first | (simp only [um_plK, eq_false c_4, eq_false c_8, eq_true c_12, eq_true c_16, if_true, if_false]; done) | (simp [um_plK, c_4, c_8, c_12, c_16]; done)
          have hsp : um_plK p1 p2 nu = 0 → (p2 - (um_st G L p2 j 9)) = um_age (um_st G L p2 p1.toNatClampNeg) p2 := by intro _; rw [ej, nI_clamp (by omega)]; first | (simp only [um_age, eq_true c_16, if_true, if_false]; done) | (simp [um_age, c_16]; done)
          exact W.iret (v := (p2 - (um_st G L p2 j 9))) hx hb hr (fun t ht hW => ⟨⟨(p2 - (um_st G L p2 j 9)), (um_fol G L j p2 v), rfl, hsp, um_B_of ht hP (by rw [hkv]; decide) rfl rfl rfl rfl rfl⟩, hS.F ht⟩) hS.2.2 dX2_age_59
        · refine lv_iconst (v := (-1)) hx hb dX2_age_49 (by decide) ?_
          refine lv_goto (tgt := 59) hx hb dX2_age_50 (by decide) ?_
          have hkv : um_plK p1 p2 nu = 0 := by first | (simp only [um_plK, eq_false c_4, eq_false c_8, eq_true c_12, eq_false c_16, if_true, if_false]; done) | (simp [um_plK, c_4, c_8, c_12, c_16]; done)
          have hsp : um_plK p1 p2 nu = 0 → (-1) = um_age (um_st G L p2 p1.toNatClampNeg) p2 := by intro _; rw [ej, nI_clamp (by omega)]; first | (simp only [um_age, eq_false c_16, if_true, if_false]; done) | (simp [um_age, c_16]; done)
          exact W.iret (v := (-1)) hx hb hr (fun t ht hW => ⟨⟨(-1), (um_fol G L j p2 v), rfl, hsp, um_B_of ht hP (by rw [hkv]; decide) rfl rfl rfl rfl rfl⟩, hS.F ht⟩) hS.2.2 dX2_age_59
      · exact absurd (by decide) c_12
    · refine lv_iconst (v := 1) hx hb dX2_age_21 (by decide) ?_
      refine lv_goto (tgt := 26) hx hb dX2_age_22 (by decide) ?_
      refine lv_iconst (v := 0) hx hb dX2_age_26 (by decide) ?_
      refine va_calli (va_runV (As := [.int 0, .int 1, .int 0]) (rest := []) ⟨hx, hb, hml, hown, htb⟩ (kt_X2_throwing l dC dI md cI H_5.size th nu nm sk G v 0 1 0) (cwV 3 htb (us_gV mw_504 mw_506 mw_20 mw_34 mw_507) rfl rfl rfl (by decide +kernel) ⟨Nat.le_of_ble_eq_true rfl, Nat.le_of_ble_eq_true rfl⟩) ⟨um_P_blind, va_recv hK hP (ci := 2) (q0 := 0) rfl rfl, fun U hU hW => ⟨rfl, um_P_at hP hK hD hU hW⟩⟩ rfl rfl hl.1 rfl (lv_room (Nat.le_of_ble_eq_true rfl)) dX2_age_27 ⟨Nat.le_of_ble_eq_true rfl, Nat.le_of_ble_eq_true rfl⟩) hS (fun q _ h => us_AA_le hS q h) (us_AA_le hS) (fun r_18 _ t_19 H_17 locs ht hvm hw hB hz1 hk1 hS => ?_)
      subst hw
      have hP := um_B_use ht hB
      have hD : va_D (us_AA (um_ads md) s.heap.size) (um_W md cI (um_th 0 1 0) nu nm sk G v) := us_D_of (by rw [um_W_adr, um_W_adr]) hD
      have hP : va_P (dC, dI) vwCl (um_W md cI (um_th 0 1 0) nu nm sk G v) H_17 := hP
      refine lv_if_eq (tgt := 35) hx hb dX2_age_30 (by decide) (fun c_20 => ?_) (fun c_20 => ?_)
      · exact absurd c_20 (by decide)
      · refine lv_iconst (v := 0) hx hb dX2_age_33 (by decide) ?_
        have hkv : um_plK p1 p2 nu = 2 := by first | (simp only [um_plK, eq_false c_4, eq_true c_8, eq_false c_20, if_true, if_false]; done) | (simp [um_plK, c_4, c_8, c_20]; done)
        have hsp : um_plK p1 p2 nu = 0 → 0 = um_age (um_st G L p2 p1.toNatClampNeg) p2 := by exact fun h9 => absurd (hkv.symm.trans h9) (by decide)
        exact W.iret (v := 0) hx hb hr (fun t ht hW => ⟨⟨0, v, rfl, hsp, um_B_of ht hP (by rw [hkv]; decide) rfl rfl rfl rfl rfl⟩, hS.F ht⟩) hS.2.2 dX2_age_34
  · refine lv_iconst (v := 1) hx hb dX2_age_9 (by decide) ?_
    refine lv_goto (tgt := 14) hx hb dX2_age_10 (by decide) ?_
    refine lv_iload_n hx hb dX2_age_14 rfl (lv_at hl 2 rfl) ?_
    refine va_calli (va_runS (As := [.int p2]) (rest := [.int 1, .ref (md 0)]) ⟨hx, hb, hml, hown, htb⟩ (kt_X2_isMinute l H_1.size p2) (cwS 1 htb (us_gS mw_516 mw_517 mw_34 mw_518) rfl rfl rfl (by decide +kernel) ⟨Nat.le_of_ble_eq_true rfl, Nat.le_of_ble_eq_true rfl⟩) ⟨us_blind0, fun U hU _ => ⟨rfl, congrArg Array.size hU⟩⟩ rfl rfl hl.1 rfl (lv_room (Nat.le_of_ble_eq_true rfl)) dX2_age_15 ⟨Nat.le_of_ble_eq_true rfl, Nat.le_of_ble_eq_true rfl⟩) hS (fun q h1 h2 => absurd h2 (Nat.not_le.mpr h1)) (fun q h => hA q (Nat.le_trans hS.1 h)) (fun r_22 _ t_23 H_21 locs ht hvm hw hB hz1 hk1 hS => ?_)
    subst hw
    have hP := us_mono hP (fun q h => hk1 q h (Nat.not_le.mpr h))
    refine lv_if_ne (tgt := 25) hx hb dX2_age_18 (by decide) (fun c_24 => ?_) (fun c_24 => ?_)
    · refine lv_iconst (v := 0) hx hb dX2_age_25 (by decide) ?_
      refine lv_iconst (v := 0) hx hb dX2_age_26 (by decide) ?_
      refine va_calli (va_runV (As := [.int 1, .int 0, .int 0]) (rest := []) ⟨hx, hb, hml, hown, htb⟩ (kt_X2_throwing l dC dI md cI H_21.size th nu nm sk G v 1 0 0) (cwV 3 htb (us_gV mw_504 mw_506 mw_20 mw_34 mw_507) rfl rfl rfl (by decide +kernel) ⟨Nat.le_of_ble_eq_true rfl, Nat.le_of_ble_eq_true rfl⟩) ⟨um_P_blind, va_recv hK hP (ci := 2) (q0 := 0) rfl rfl, fun U hU hW => ⟨rfl, um_P_at hP hK hD hU hW⟩⟩ rfl rfl hl.1 rfl (lv_room (Nat.le_of_ble_eq_true rfl)) dX2_age_27 ⟨Nat.le_of_ble_eq_true rfl, Nat.le_of_ble_eq_true rfl⟩) hS (fun q _ h => us_AA_le hS q h) (us_AA_le hS) (fun r_26 _ t_27 H_25 locs ht hvm hw hB hz1 hk1 hS => ?_)
      subst hw
      have hP := um_B_use ht hB
      have hD : va_D (us_AA (um_ads md) s.heap.size) (um_W md cI (um_th 1 0 0) nu nm sk G v) := us_D_of (by rw [um_W_adr, um_W_adr]) hD
      have hP : va_P (dC, dI) vwCl (um_W md cI (um_th 1 0 0) nu nm sk G v) H_25 := hP
      refine lv_if_eq (tgt := 35) hx hb dX2_age_30 (by decide) (fun c_28 => ?_) (fun c_28 => ?_)
      · exact absurd c_28 (by decide)
      · refine lv_iconst (v := 0) hx hb dX2_age_33 (by decide) ?_
        have hkv : um_plK p1 p2 nu = 1 := by first | (simp only [um_plK, eq_true c_4, eq_false c_24, eq_false c_28, if_true, if_false]; done) | (simp [um_plK, c_4, c_24, c_28]; done)
        have hsp : um_plK p1 p2 nu = 0 → 0 = um_age (um_st G L p2 p1.toNatClampNeg) p2 := by exact fun h9 => absurd (hkv.symm.trans h9) (by decide)
        exact W.iret (v := 0) hx hb hr (fun t ht hW => ⟨⟨0, v, rfl, hsp, um_B_of ht hP (by rw [hkv]; decide) rfl rfl rfl rfl rfl⟩, hS.F ht⟩) hS.2.2 dX2_age_34
    · refine lv_iconst (v := 1) hx hb dX2_age_21 (by decide) ?_
      refine lv_goto (tgt := 26) hx hb dX2_age_22 (by decide) ?_
      refine lv_iconst (v := 0) hx hb dX2_age_26 (by decide) ?_
      refine va_calli (va_runV (As := [.int 1, .int 1, .int 0]) (rest := []) ⟨hx, hb, hml, hown, htb⟩ (kt_X2_throwing l dC dI md cI H_21.size th nu nm sk G v 1 1 0) (cwV 3 htb (us_gV mw_504 mw_506 mw_20 mw_34 mw_507) rfl rfl rfl (by decide +kernel) ⟨Nat.le_of_ble_eq_true rfl, Nat.le_of_ble_eq_true rfl⟩) ⟨um_P_blind, va_recv hK hP (ci := 2) (q0 := 0) rfl rfl, fun U hU hW => ⟨rfl, um_P_at hP hK hD hU hW⟩⟩ rfl rfl hl.1 rfl (lv_room (Nat.le_of_ble_eq_true rfl)) dX2_age_27 ⟨Nat.le_of_ble_eq_true rfl, Nat.le_of_ble_eq_true rfl⟩) hS (fun q _ h => us_AA_le hS q h) (us_AA_le hS) (fun r_30 _ t_31 H_29 locs ht hvm hw hB hz1 hk1 hS => ?_)
      subst hw
      have hP := um_B_use ht hB
      have hD : va_D (us_AA (um_ads md) s.heap.size) (um_W md cI (um_th 1 1 0) nu nm sk G v) := us_D_of (by rw [um_W_adr, um_W_adr]) hD
      have hP : va_P (dC, dI) vwCl (um_W md cI (um_th 1 1 0) nu nm sk G v) H_29 := hP
      refine lv_if_eq (tgt := 35) hx hb dX2_age_30 (by decide) (fun c_32 => ?_) (fun c_32 => ?_)
      · exact absurd c_32 (by decide)
      · refine lv_iconst (v := 0) hx hb dX2_age_33 (by decide) ?_
        have hkv : um_plK p1 p2 nu = 1 := by first | (simp only [um_plK, eq_true c_4, eq_true c_24, eq_false c_32, if_true, if_false]; done) | (simp [um_plK, c_4, c_24, c_32]; done)
        have hsp : um_plK p1 p2 nu = 0 → 0 = um_age (um_st G L p2 p1.toNatClampNeg) p2 := by exact fun h9 => absurd (hkv.symm.trans h9) (by decide)
        exact W.iret (v := 0) hx hb hr (fun t ht hW => ⟨⟨0, v, rfl, hsp, um_B_of ht hP (by rw [hkv]; decide) rfl rfl rfl rfl rfl⟩, hS.F ht⟩) hS.2.2 dX2_age_34
set_option maxHeartbeats 8000000 in
set_option maxRecDepth 100000 in
theorem kt_X2_expected (l : Launch) (dC : Nat → ClassId) (dI : Nat → Nat → Nat) (md : Nat → Nat) (cI : ClassId) (sz : Nat) (th : Int32) (nu nm : Nat) (sk : Int32) (G : Nat → Nat → Int32) (v : Nat → Int32) (p1 p2 : Int32) (L : List Nat) (hnu : nu ≤ 30) (hnm : nm ≤ 200) (hL : um_ok G nm L) (hAr : ∀ (t : Int32) (j : Nat), j < nu → ¬ um_in (um_st G L t j 0) 3 5 = 0 → ∃ a, a < nm ∧ um_st G L t j 11 = nI a) : Met l yX2_expected wsX2_expected ({ frames := 4, cells := 0, slots := 0, locals := 91 }) (va_Pc [.ref (md 0), .int p1, .int p2] (um_P dC dI md cI th nu nm sk G v sz)) (va_Qi (fun r (_ : Nat → Int32) => um_plK p1 p2 nu = 0 → r = um_st G L p2 p1.toNatClampNeg 10) (fun v9 t => um_B dC dI md cI (um_plK p1 p2 nu) nu nm sk G v9 t) (us_AA (um_ads md) sz)) 0 0 (us_AA (um_ads md) sz) := by
  refine Met.ofW (cc := cX2_expected) (maxL := 3) (ret := (some .int)) (by decide) rfl ?_
  intro p e s m args below meth c s₁ B hml hv
  obtain ⟨rfl, hsz, hP, hK, hD⟩ := hv
  have hx := B.exec
  have hb := B.bytes
  have hr := B.returns
  have htb := us_htb (atoms_spec (ws := wsX2_expected) B.pre)
  have hown : s.vm.findClass RX2 = some m.cls := findClass_of_methodNamed B.named
  have hlocks := B.notSynchronized
  subst hsz
  have hA : ∀ q : Nat, s.heap.size ≤ q → (us_AA (um_ads md) s.heap.size) q := fun q h => Or.inr h
  have hS : va_S (us_AA (um_ads md) s.heap.size) s.heap s.heap [] := va_S.rf
  have hP : va_P (dC, dI) vwCl (um_W md cI th nu nm sk G v) s.heap := hP
  have hD : va_D (us_AA (um_ads md) s.heap.size) (um_W md cI th nu nm sk G v) := us_D_aa hD
  have hl := lv_entry ([.ref (md 0), .int p1, .int p2]) (n := 3) (Nat.le_of_ble_eq_true rfl)
  rw [lg_entry_eq]
  generalize (lg_sl ([.ref (md 0), .int p1, .int p2]) ++ List.replicate (3 - (lg_sl ([.ref (md 0), .int p1, .int p2])).length) Slot.unset).toArray = ls at hl ⊢
  have hl : lv_has ls 3 [(0, .ref (md 0)), (1, .int p1), (2, .int p2)] := hl
  refine lv_aload_n hx hb dX2_expected_0 rfl (lv_at hl 0 rfl) ?_
  refine lv_aload_n hx hb dX2_expected_1 rfl (lv_at hl 0 rfl) ?_
  refine lv_iload_n hx hb dX2_expected_2 rfl (lv_at hl 1 rfl) ?_
  refine va_calli (va_runV (As := [.int p1]) (rest := [.ref (md 0)]) ⟨hx, hb, hml, hown, htb⟩ (kt_X2_isUnit l dC dI md cI s.heap.size th nu nm sk G v p1) (cwV 1 htb (us_gV mw_512 mw_514 mw_21 mw_34 mw_515) rfl rfl rfl (by decide +kernel) ⟨Nat.le_of_ble_eq_true rfl, Nat.le_of_ble_eq_true rfl⟩) ⟨um_P_blind, va_recv hK hP (ci := 2) (q0 := 0) rfl rfl, fun U hU hW => ⟨rfl, um_P_at hP hK hD hU hW⟩⟩ rfl rfl hl.1 rfl (lv_room (Nat.le_of_ble_eq_true rfl)) dX2_expected_3 ⟨Nat.le_of_ble_eq_true rfl, Nat.le_of_ble_eq_true rfl⟩) hS (fun q h1 h2 => absurd h2 (Nat.not_le.mpr h1)) (fun q h => hA q (Nat.le_trans hS.1 h)) (fun r_2 _ t_3 H_1 locs ht hvm hw hB hz1 hk1 hS => ?_)
  subst hw
  have hP := us_mono hP (fun q h => hk1 q h (Nat.not_le.mpr h))
  refine lv_if_ne (tgt := 13) hx hb dX2_expected_6 (by decide) (fun c_4 => ?_) (fun c_4 => ?_)
  · refine lv_iconst (v := 0) hx hb dX2_expected_13 (by decide) ?_
    refine lv_iload_n hx hb dX2_expected_14 rfl (lv_at hl 2 rfl) ?_
    refine va_calli (va_runS (As := [.int p2]) (rest := [.int 0, .ref (md 0)]) ⟨hx, hb, hml, hown, htb⟩ (kt_X2_isMinute l H_1.size p2) (cwS 1 htb (us_gS mw_516 mw_517 mw_34 mw_518) rfl rfl rfl (by decide +kernel) ⟨Nat.le_of_ble_eq_true rfl, Nat.le_of_ble_eq_true rfl⟩) ⟨us_blind0, fun U hU _ => ⟨rfl, congrArg Array.size hU⟩⟩ rfl rfl hl.1 rfl (lv_room (Nat.le_of_ble_eq_true rfl)) dX2_expected_15 ⟨Nat.le_of_ble_eq_true rfl, Nat.le_of_ble_eq_true rfl⟩) hS (fun q h1 h2 => absurd h2 (Nat.not_le.mpr h1)) (fun q h => hA q (Nat.le_trans hS.1 h)) (fun r_6 _ t_7 H_5 locs ht hvm hw hB hz1 hk1 hS => ?_)
    subst hw
    have hP := us_mono hP (fun q h => hk1 q h (Nat.not_le.mpr h))
    refine lv_if_ne (tgt := 25) hx hb dX2_expected_18 (by decide) (fun c_8 => ?_) (fun c_8 => ?_)
    · refine lv_iconst (v := 0) hx hb dX2_expected_25 (by decide) ?_
      refine lv_iconst (v := 0) hx hb dX2_expected_26 (by decide) ?_
      refine va_calli (va_runV (As := [.int 0, .int 0, .int 0]) (rest := []) ⟨hx, hb, hml, hown, htb⟩ (kt_X2_throwing l dC dI md cI H_5.size th nu nm sk G v 0 0 0) (cwV 3 htb (us_gV mw_504 mw_506 mw_20 mw_34 mw_507) rfl rfl rfl (by decide +kernel) ⟨Nat.le_of_ble_eq_true rfl, Nat.le_of_ble_eq_true rfl⟩) ⟨um_P_blind, va_recv hK hP (ci := 2) (q0 := 0) rfl rfl, fun U hU hW => ⟨rfl, um_P_at hP hK hD hU hW⟩⟩ rfl rfl hl.1 rfl (lv_room (Nat.le_of_ble_eq_true rfl)) dX2_expected_27 ⟨Nat.le_of_ble_eq_true rfl, Nat.le_of_ble_eq_true rfl⟩) hS (fun q _ h => us_AA_le hS q h) (us_AA_le hS) (fun r_10 _ t_11 H_9 locs ht hvm hw hB hz1 hk1 hS => ?_)
      subst hw
      have hP := um_B_use ht hB
      have hD : va_D (us_AA (um_ads md) s.heap.size) (um_W md cI (um_th 0 0 0) nu nm sk G v) := us_D_of (by rw [um_W_adr, um_W_adr]) hD
      have hP : va_P (dC, dI) vwCl (um_W md cI (um_th 0 0 0) nu nm sk G v) H_9 := hP
      refine lv_if_eq (tgt := 35) hx hb dX2_expected_30 (by decide) (fun c_12 => ?_) (fun c_12 => ?_)
      · obtain ⟨j, hj, ej⟩ := um_in_spec (x := p1) (n := nu) (by omega) c_4
        have hj3 : j < 30 := by omega
        refine lv_aload_n hx hb dX2_expected_35 rfl (lv_at hl 0 rfl) ?_
        refine lv_iload_n hx hb dX2_expected_36 rfl (lv_at hl 1 rfl) ?_
        refine lv_topi (fun i9 ei9 => ?_)
        have ei9 := ei9.trans ej
        subst ei9
        refine lv_iload_n hx hb dX2_expected_37 rfl (lv_at hl 2 rfl) ?_
        refine lv_iconst (v := (-1)) hx hb dX2_expected_38 (by decide) ?_
        refine va_callv (va_runV (As := [.int (nI j), .int p2, .int (-1)]) (rest := []) ⟨hx, hb, hml, hown, htb⟩ (kt_X2_follow l dC dI md cI H_9.size (um_th 0 0 0) nu nm sk G v j p2 L hj3 hnm hL) (cwV 3 htb (us_gV mw_532 mw_534 mw_23 mw_34 mw_535) rfl rfl rfl (by decide +kernel) ⟨Nat.le_of_ble_eq_true rfl, Nat.le_of_ble_eq_true rfl⟩) ⟨um_P_blind, va_recv hK hP (ci := 2) (q0 := 0) rfl rfl, fun U hU hW => ⟨rfl, um_P_at hP hK hD hU hW⟩⟩ rfl rfl hl.1 rfl (lv_room (Nat.le_of_ble_eq_true rfl)) dX2_expected_39 ⟨Nat.le_of_ble_eq_true rfl, Nat.le_of_ble_eq_true rfl⟩) hS (fun q _ h => us_AA_le hS q h) (us_AA_le hS) (fun _ t_15 H_13 locs ht hvm hw hB hz1 hk1 hS => ?_)
        have hP := um_B_use ht hB
        have hD : va_D (us_AA (um_ads md) s.heap.size) (um_W md cI (um_th 0 0 0) nu nm sk G (um_fol G L j p2 v)) := us_D_of (by rw [um_W_adr, um_W_adr]) hD
        have hP : va_P (dC, dI) vwCl (um_W md cI (um_th 0 0 0) nu nm sk G (um_fol G L j p2 v)) H_13 := hP
        refine lv_aload_n hx hb dX2_expected_42 rfl (lv_at hl 0 rfl) ?_
        refine um_get (x := (um_st G L p2 j 10)) hx hb htb us_inX2 hown hK hP 10 (by decide) (htb _ mw_443) (um_fol_ag (by decide)) dX2_expected_43 ?_
        have hkv : um_plK p1 p2 nu = 0 := by first | (simp only [um_plK, eq_false c_4, eq_false c_8, eq_true c_12, if_true, if_false]; done) | (simp [um_plK, c_4, c_8, c_12]; done)
        have hsp : um_plK p1 p2 nu = 0 → (um_st G L p2 j 10) = um_st G L p2 p1.toNatClampNeg 10 := by intro _; rw [ej, nI_clamp (by omega)]
        exact W.iret (v := (um_st G L p2 j 10)) hx hb hr (fun t ht hW => ⟨⟨(um_st G L p2 j 10), (um_fol G L j p2 v), rfl, hsp, um_B_of ht hP (by rw [hkv]; decide) rfl rfl rfl rfl rfl⟩, hS.F ht⟩) hS.2.2 dX2_expected_46
      · exact absurd (by decide) c_12
    · refine lv_iconst (v := 1) hx hb dX2_expected_21 (by decide) ?_
      refine lv_goto (tgt := 26) hx hb dX2_expected_22 (by decide) ?_
      refine lv_iconst (v := 0) hx hb dX2_expected_26 (by decide) ?_
      refine va_calli (va_runV (As := [.int 0, .int 1, .int 0]) (rest := []) ⟨hx, hb, hml, hown, htb⟩ (kt_X2_throwing l dC dI md cI H_5.size th nu nm sk G v 0 1 0) (cwV 3 htb (us_gV mw_504 mw_506 mw_20 mw_34 mw_507) rfl rfl rfl (by decide +kernel) ⟨Nat.le_of_ble_eq_true rfl, Nat.le_of_ble_eq_true rfl⟩) ⟨um_P_blind, va_recv hK hP (ci := 2) (q0 := 0) rfl rfl, fun U hU hW => ⟨rfl, um_P_at hP hK hD hU hW⟩⟩ rfl rfl hl.1 rfl (lv_room (Nat.le_of_ble_eq_true rfl)) dX2_expected_27 ⟨Nat.le_of_ble_eq_true rfl, Nat.le_of_ble_eq_true rfl⟩) hS (fun q _ h => us_AA_le hS q h) (us_AA_le hS) (fun r_17 _ t_18 H_16 locs ht hvm hw hB hz1 hk1 hS => ?_)
      subst hw
      have hP := um_B_use ht hB
      have hD : va_D (us_AA (um_ads md) s.heap.size) (um_W md cI (um_th 0 1 0) nu nm sk G v) := us_D_of (by rw [um_W_adr, um_W_adr]) hD
      have hP : va_P (dC, dI) vwCl (um_W md cI (um_th 0 1 0) nu nm sk G v) H_16 := hP
      refine lv_if_eq (tgt := 35) hx hb dX2_expected_30 (by decide) (fun c_19 => ?_) (fun c_19 => ?_)
      · exact absurd c_19 (by decide)
      · refine lv_iconst (v := 0) hx hb dX2_expected_33 (by decide) ?_
        have hkv : um_plK p1 p2 nu = 2 := by first | (simp only [um_plK, eq_false c_4, eq_true c_8, eq_false c_19, if_true, if_false]; done) | (simp [um_plK, c_4, c_8, c_19]; done)
        have hsp : um_plK p1 p2 nu = 0 → 0 = um_st G L p2 p1.toNatClampNeg 10 := by exact fun h9 => absurd (hkv.symm.trans h9) (by decide)
        exact W.iret (v := 0) hx hb hr (fun t ht hW => ⟨⟨0, v, rfl, hsp, um_B_of ht hP (by rw [hkv]; decide) rfl rfl rfl rfl rfl⟩, hS.F ht⟩) hS.2.2 dX2_expected_34
  · refine lv_iconst (v := 1) hx hb dX2_expected_9 (by decide) ?_
    refine lv_goto (tgt := 14) hx hb dX2_expected_10 (by decide) ?_
    refine lv_iload_n hx hb dX2_expected_14 rfl (lv_at hl 2 rfl) ?_
    refine va_calli (va_runS (As := [.int p2]) (rest := [.int 1, .ref (md 0)]) ⟨hx, hb, hml, hown, htb⟩ (kt_X2_isMinute l H_1.size p2) (cwS 1 htb (us_gS mw_516 mw_517 mw_34 mw_518) rfl rfl rfl (by decide +kernel) ⟨Nat.le_of_ble_eq_true rfl, Nat.le_of_ble_eq_true rfl⟩) ⟨us_blind0, fun U hU _ => ⟨rfl, congrArg Array.size hU⟩⟩ rfl rfl hl.1 rfl (lv_room (Nat.le_of_ble_eq_true rfl)) dX2_expected_15 ⟨Nat.le_of_ble_eq_true rfl, Nat.le_of_ble_eq_true rfl⟩) hS (fun q h1 h2 => absurd h2 (Nat.not_le.mpr h1)) (fun q h => hA q (Nat.le_trans hS.1 h)) (fun r_21 _ t_22 H_20 locs ht hvm hw hB hz1 hk1 hS => ?_)
    subst hw
    have hP := us_mono hP (fun q h => hk1 q h (Nat.not_le.mpr h))
    refine lv_if_ne (tgt := 25) hx hb dX2_expected_18 (by decide) (fun c_23 => ?_) (fun c_23 => ?_)
    · refine lv_iconst (v := 0) hx hb dX2_expected_25 (by decide) ?_
      refine lv_iconst (v := 0) hx hb dX2_expected_26 (by decide) ?_
      refine va_calli (va_runV (As := [.int 1, .int 0, .int 0]) (rest := []) ⟨hx, hb, hml, hown, htb⟩ (kt_X2_throwing l dC dI md cI H_20.size th nu nm sk G v 1 0 0) (cwV 3 htb (us_gV mw_504 mw_506 mw_20 mw_34 mw_507) rfl rfl rfl (by decide +kernel) ⟨Nat.le_of_ble_eq_true rfl, Nat.le_of_ble_eq_true rfl⟩) ⟨um_P_blind, va_recv hK hP (ci := 2) (q0 := 0) rfl rfl, fun U hU hW => ⟨rfl, um_P_at hP hK hD hU hW⟩⟩ rfl rfl hl.1 rfl (lv_room (Nat.le_of_ble_eq_true rfl)) dX2_expected_27 ⟨Nat.le_of_ble_eq_true rfl, Nat.le_of_ble_eq_true rfl⟩) hS (fun q _ h => us_AA_le hS q h) (us_AA_le hS) (fun r_25 _ t_26 H_24 locs ht hvm hw hB hz1 hk1 hS => ?_)
      subst hw
      have hP := um_B_use ht hB
      have hD : va_D (us_AA (um_ads md) s.heap.size) (um_W md cI (um_th 1 0 0) nu nm sk G v) := us_D_of (by rw [um_W_adr, um_W_adr]) hD
      have hP : va_P (dC, dI) vwCl (um_W md cI (um_th 1 0 0) nu nm sk G v) H_24 := hP
      refine lv_if_eq (tgt := 35) hx hb dX2_expected_30 (by decide) (fun c_27 => ?_) (fun c_27 => ?_)
      · exact absurd c_27 (by decide)
      · refine lv_iconst (v := 0) hx hb dX2_expected_33 (by decide) ?_
        have hkv : um_plK p1 p2 nu = 1 := by first | (simp only [um_plK, eq_true c_4, eq_false c_23, eq_false c_27, if_true, if_false]; done) | (simp [um_plK, c_4, c_23, c_27]; done)
        have hsp : um_plK p1 p2 nu = 0 → 0 = um_st G L p2 p1.toNatClampNeg 10 := by exact fun h9 => absurd (hkv.symm.trans h9) (by decide)
        exact W.iret (v := 0) hx hb hr (fun t ht hW => ⟨⟨0, v, rfl, hsp, um_B_of ht hP (by rw [hkv]; decide) rfl rfl rfl rfl rfl⟩, hS.F ht⟩) hS.2.2 dX2_expected_34
    · refine lv_iconst (v := 1) hx hb dX2_expected_21 (by decide) ?_
      refine lv_goto (tgt := 26) hx hb dX2_expected_22 (by decide) ?_
      refine lv_iconst (v := 0) hx hb dX2_expected_26 (by decide) ?_
      refine va_calli (va_runV (As := [.int 1, .int 1, .int 0]) (rest := []) ⟨hx, hb, hml, hown, htb⟩ (kt_X2_throwing l dC dI md cI H_20.size th nu nm sk G v 1 1 0) (cwV 3 htb (us_gV mw_504 mw_506 mw_20 mw_34 mw_507) rfl rfl rfl (by decide +kernel) ⟨Nat.le_of_ble_eq_true rfl, Nat.le_of_ble_eq_true rfl⟩) ⟨um_P_blind, va_recv hK hP (ci := 2) (q0 := 0) rfl rfl, fun U hU hW => ⟨rfl, um_P_at hP hK hD hU hW⟩⟩ rfl rfl hl.1 rfl (lv_room (Nat.le_of_ble_eq_true rfl)) dX2_expected_27 ⟨Nat.le_of_ble_eq_true rfl, Nat.le_of_ble_eq_true rfl⟩) hS (fun q _ h => us_AA_le hS q h) (us_AA_le hS) (fun r_29 _ t_30 H_28 locs ht hvm hw hB hz1 hk1 hS => ?_)
      subst hw
      have hP := um_B_use ht hB
      have hD : va_D (us_AA (um_ads md) s.heap.size) (um_W md cI (um_th 1 1 0) nu nm sk G v) := us_D_of (by rw [um_W_adr, um_W_adr]) hD
      have hP : va_P (dC, dI) vwCl (um_W md cI (um_th 1 1 0) nu nm sk G v) H_28 := hP
      refine lv_if_eq (tgt := 35) hx hb dX2_expected_30 (by decide) (fun c_31 => ?_) (fun c_31 => ?_)
      · exact absurd c_31 (by decide)
      · refine lv_iconst (v := 0) hx hb dX2_expected_33 (by decide) ?_
        have hkv : um_plK p1 p2 nu = 1 := by first | (simp only [um_plK, eq_true c_4, eq_true c_23, eq_false c_31, if_true, if_false]; done) | (simp [um_plK, c_4, c_23, c_31]; done)
        have hsp : um_plK p1 p2 nu = 0 → 0 = um_st G L p2 p1.toNatClampNeg 10 := by exact fun h9 => absurd (hkv.symm.trans h9) (by decide)
        exact W.iret (v := 0) hx hb hr (fun t ht hW => ⟨⟨0, v, rfl, hsp, um_B_of ht hP (by rw [hkv]; decide) rfl rfl rfl rfl rfl⟩, hS.F ht⟩) hS.2.2 dX2_expected_34
set_option maxHeartbeats 8000000 in
set_option maxRecDepth 100000 in
theorem kt_X2_saidOf (l : Launch) (dC : Nat → ClassId) (dI : Nat → Nat → Nat) (md : Nat → Nat) (cI : ClassId) (sz : Nat) (th : Int32) (nu nm : Nat) (sk : Int32) (G : Nat → Nat → Int32) (v : Nat → Int32) (p1 : Nat) (L : List Nat) (hnu : nu ≤ 30) (hnm : nm ≤ 200) (hL : um_ok G nm L) (hV : ∀ m, m < nm → ∃ j, j < nu ∧ G 2 m = nI j) (hMi : ∀ m, m < nm → G 3 m ≤ 99999) (hp1 : p1 < nm) : Met l yX2_saidOf wsX2_saidOf ({ frames := 4, cells := 0, slots := 0, locals := 91 }) (va_Pc [.ref (md 0), .int (nI p1)] (um_P dC dI md cI th nu nm sk G v sz)) (va_Qi (fun r (_ : Nat → Int32) => r = um_said G L p1) (fun v9 t => um_B dC dI md cI th nu nm sk G v9 t) (us_AA (um_ads md) sz)) 0 0 (us_AA (um_ads md) sz) := by
  refine Met.ofW (cc := cX2_saidOf) (maxL := 2) (ret := (some .int)) (by decide) rfl ?_
  intro p e s m args below meth c s₁ B hml hv
  obtain ⟨rfl, hsz, hP, hK, hD⟩ := hv
  have hx := B.exec
  have hb := B.bytes
  have hr := B.returns
  have htb := us_htb (atoms_spec (ws := wsX2_saidOf) B.pre)
  have hown : s.vm.findClass RX2 = some m.cls := findClass_of_methodNamed B.named
  have hlocks := B.notSynchronized
  subst hsz
  have hA : ∀ q : Nat, s.heap.size ≤ q → (us_AA (um_ads md) s.heap.size) q := fun q h => Or.inr h
  have hS : va_S (us_AA (um_ads md) s.heap.size) s.heap s.heap [] := va_S.rf
  have hP : va_P (dC, dI) vwCl (um_W md cI th nu nm sk G v) s.heap := hP
  have hD : va_D (us_AA (um_ads md) s.heap.size) (um_W md cI th nu nm sk G v) := us_D_aa hD
  have hl := lv_entry ([.ref (md 0), .int (nI p1)]) (n := 2) (Nat.le_of_ble_eq_true rfl)
  rw [lg_entry_eq]
  generalize (lg_sl ([.ref (md 0), .int (nI p1)]) ++ List.replicate (2 - (lg_sl ([.ref (md 0), .int (nI p1)])).length) Slot.unset).toArray = ls at hl ⊢
  have hl : lv_has ls 2 [(0, .ref (md 0)), (1, .int (nI p1))] := hl
  have hp2 : p1 < 200 := by omega
  refine lv_aload_n hx hb dX2_saidOf_0 rfl (lv_at hl 0 rfl) ?_
  refine lv_aload_n hx hb dX2_saidOf_1 rfl (lv_at hl 0 rfl) ?_
  refine va_get (D := (dC, dI)) (ci := 2) (v := .ref (md 3)) (C := RX2) (T := TX2) (N := 23) hx hb htb us_inX2 hown hK hP 0 rfl rfl 5 (by decide) (htb _ mw_428) (fun _ h9 => h9) rfl dX2_saidOf_2 ?_
  refine lv_iload_n hx hb dX2_saidOf_5 rfl (lv_at hl 1 rfl) ?_
  refine us_iald (f := (G 2)) hx hb hK hP 3 0 rfl rfl hp2 (by decide) dX2_saidOf_6 ?_
  obtain ⟨j, hj, ej⟩ := hV p1 hp1
  have hj3 : j < 30 := by omega
  have hmm : p1 ∈ um_ls G L j 99999 := (um_ls_mem hL).mpr ⟨hp1, ej, hMi p1 hp1⟩
  refine lv_topi (fun i9 ei9 => ?_)
  have ei9 := ei9.trans ej
  subst ei9
  refine lv_ldc (v := 99999) hx hb hown (htb _ mw_519) dX2_saidOf_7 ?_
  refine lv_iload_n hx hb dX2_saidOf_9 rfl (lv_at hl 1 rfl) ?_
  refine va_callv (va_runV (As := [.int (nI j), .int 99999, .int (nI p1)]) (rest := []) ⟨hx, hb, hml, hown, htb⟩ (kt_X2_followM l dC dI md cI s.heap.size th nu nm sk G v j 99999 p1 L hj3 hnm hL hmm hp2) (cwV 3 htb (us_gV mw_532 mw_534 mw_23 mw_34 mw_535) rfl rfl rfl (by decide +kernel) ⟨Nat.le_of_ble_eq_true rfl, Nat.le_of_ble_eq_true rfl⟩) ⟨um_P_blind, va_recv hK hP (ci := 2) (q0 := 0) rfl rfl, fun U hU hW => ⟨rfl, um_P_at hP hK hD hU hW⟩⟩ rfl rfl hl.1 rfl (lv_room (Nat.le_of_ble_eq_true rfl)) dX2_saidOf_10 ⟨Nat.le_of_ble_eq_true rfl, Nat.le_of_ble_eq_true rfl⟩) hS (fun q _ h => us_AA_le hS q h) (us_AA_le hS) (fun _ t_3 H_1 locs ht hvm hw hB hz1 hk1 hS => ?_)
  have hP := um_B_use ht hB
  have hD : va_D (us_AA (um_ads md) s.heap.size) (um_W md cI th nu nm sk G (um_run G j (um_upto p1 (um_ls G L j 99999)) (um_init G j v))) := us_D_of (by rw [um_W_adr, um_W_adr]) hD
  have hP : va_P (dC, dI) vwCl (um_W md cI th nu nm sk G (um_run G j (um_upto p1 (um_ls G L j 99999)) (um_init G j v))) H_1 := hP
  refine lv_aload_n hx hb dX2_saidOf_13 rfl (lv_at hl 0 rfl) ?_
  refine um_get (x := ((um_run G j (um_upto p1 (um_ls G L j 99999)) (um_init G j v)) 12)) hx hb htb us_inX2 hown hK hP 12 (by decide) (htb _ mw_445) rfl dX2_saidOf_14 ?_
  have hsp : ((um_run G j (um_upto p1 (um_ls G L j 99999)) (um_init G j v)) 12) = um_said G L p1 := by rw [um_said, ej, nI_clamp (by omega)]; exact um_said_eq hmm
  exact W.iret (v := ((um_run G j (um_upto p1 (um_ls G L j 99999)) (um_init G j v)) 12)) hx hb hr (fun t ht hW => ⟨⟨((um_run G j (um_upto p1 (um_ls G L j 99999)) (um_init G j v)) 12), (um_run G j (um_upto p1 (um_ls G L j 99999)) (um_init G j v)), rfl, hsp, um_B_of ht hP rfl rfl rfl rfl rfl rfl⟩, hS.F ht⟩) hS.2.2 dX2_saidOf_17
set_option maxHeartbeats 8000000 in
set_option maxRecDepth 100000 in
theorem kt_X2_wrong (l : Launch) (dC : Nat → ClassId) (dI : Nat → Nat → Nat) (md : Nat → Nat) (cI : ClassId) (sz : Nat) (th : Int32) (nu nm : Nat) (sk : Int32) (G : Nat → Nat → Int32) (v : Nat → Int32) (p1 : Int32) (L : List Nat) (hnu : nu ≤ 30) (hnm : nm ≤ 200) (hL : um_ok G nm L) (hV : ∀ m, m < nm → ∃ j, j < nu ∧ G 2 m = nI j) (hMi : ∀ m, m < nm → G 3 m ≤ 99999) : Met l yX2_wrong wsX2_wrong ({ frames := 5, cells := 0, slots := 0, locals := 112 }) (va_Pc [.ref (md 0), .int p1] (um_P dC dI md cI th nu nm sk G v sz)) (va_Qi (fun r (_ : Nat → Int32) => um_wrK p1 nm = 0 → r = um_said G L p1.toNatClampNeg) (fun v9 t => um_B dC dI md cI (um_wrK p1 nm) nu nm sk G v9 t) (us_AA (um_ads md) sz)) 0 0 (us_AA (um_ads md) sz) := by
  refine Met.ofW (cc := cX2_wrong) (maxL := 2) (ret := (some .int)) (by decide) rfl ?_
  intro p e s m args below meth c s₁ B hml hv
  obtain ⟨rfl, hsz, hP, hK, hD⟩ := hv
  have hx := B.exec
  have hb := B.bytes
  have hr := B.returns
  have htb := us_htb (atoms_spec (ws := wsX2_wrong) B.pre)
  have hown : s.vm.findClass RX2 = some m.cls := findClass_of_methodNamed B.named
  have hlocks := B.notSynchronized
  subst hsz
  have hA : ∀ q : Nat, s.heap.size ≤ q → (us_AA (um_ads md) s.heap.size) q := fun q h => Or.inr h
  have hS : va_S (us_AA (um_ads md) s.heap.size) s.heap s.heap [] := va_S.rf
  have hP : va_P (dC, dI) vwCl (um_W md cI th nu nm sk G v) s.heap := hP
  have hD : va_D (us_AA (um_ads md) s.heap.size) (um_W md cI th nu nm sk G v) := us_D_aa hD
  have hl := lv_entry ([.ref (md 0), .int p1]) (n := 2) (Nat.le_of_ble_eq_true rfl)
  rw [lg_entry_eq]
  generalize (lg_sl ([.ref (md 0), .int p1]) ++ List.replicate (2 - (lg_sl ([.ref (md 0), .int p1])).length) Slot.unset).toArray = ls at hl ⊢
  have hl : lv_has ls 2 [(0, .ref (md 0)), (1, .int p1)] := hl
  refine lv_aload_n hx hb dX2_wrong_0 rfl (lv_at hl 0 rfl) ?_
  refine lv_iload_n hx hb dX2_wrong_1 rfl (lv_at hl 1 rfl) ?_
  refine lv_iconst (v := 0) hx hb dX2_wrong_2 (by decide) ?_
  refine lv_aload_n hx hb dX2_wrong_3 rfl (lv_at hl 0 rfl) ?_
  refine va_get (D := (dC, dI)) (ci := 2) (v := .int (nI nm)) (C := RX2) (T := TX2) (N := 23) hx hb htb us_inX2 hown hK hP 0 rfl rfl 4 (by decide) (htb _ mw_427) (fun _ h9 => h9) rfl dX2_wrong_4 ?_
  refine lv_iconst (v := 1) hx hb dX2_wrong_7 (by decide) ?_
  refine lv_isub hx hb dX2_wrong_8 ?_
  refine va_calli (va_runS (As := [.int p1, .int 0, .int ((nI nm) - 1)]) (rest := [.ref (md 0)]) ⟨hx, hb, hml, hown, htb⟩ (kt_X2_in l s.heap.size p1 0 ((nI nm) - 1)) (cwS 3 htb (us_gS mw_501 mw_502 mw_34 mw_503) rfl rfl rfl (by decide +kernel) ⟨Nat.le_of_ble_eq_true rfl, Nat.le_of_ble_eq_true rfl⟩) ⟨us_blind0, fun U hU _ => ⟨rfl, congrArg Array.size hU⟩⟩ rfl rfl hl.1 rfl (lv_room (Nat.le_of_ble_eq_true rfl)) dX2_wrong_9 ⟨Nat.le_of_ble_eq_true rfl, Nat.le_of_ble_eq_true rfl⟩) hS (fun q h1 h2 => absurd h2 (Nat.not_le.mpr h1)) (fun q h => hA q (Nat.le_trans hS.1 h)) (fun r_2 _ t_3 H_1 locs ht hvm hw hB hz1 hk1 hS => ?_)
  subst hw
  have hP := us_mono hP (fun q h => hk1 q h (Nat.not_le.mpr h))
  refine lv_if_ne (tgt := 19) hx hb dX2_wrong_12 (by decide) (fun c_4 => ?_) (fun c_4 => ?_)
  · refine lv_iconst (v := 0) hx hb dX2_wrong_19 (by decide) ?_
    refine lv_iconst (v := 0) hx hb dX2_wrong_20 (by decide) ?_
    refine lv_iconst (v := 0) hx hb dX2_wrong_21 (by decide) ?_
    refine va_calli (va_runV (As := [.int 0, .int 0, .int 0]) (rest := []) ⟨hx, hb, hml, hown, htb⟩ (kt_X2_throwing l dC dI md cI H_1.size th nu nm sk G v 0 0 0) (cwV 3 htb (us_gV mw_504 mw_506 mw_20 mw_34 mw_507) rfl rfl rfl (by decide +kernel) ⟨Nat.le_of_ble_eq_true rfl, Nat.le_of_ble_eq_true rfl⟩) ⟨um_P_blind, va_recv hK hP (ci := 2) (q0 := 0) rfl rfl, fun U hU hW => ⟨rfl, um_P_at hP hK hD hU hW⟩⟩ rfl rfl hl.1 rfl (lv_room (Nat.le_of_ble_eq_true rfl)) dX2_wrong_22 ⟨Nat.le_of_ble_eq_true rfl, Nat.le_of_ble_eq_true rfl⟩) hS (fun q _ h => us_AA_le hS q h) (us_AA_le hS) (fun r_6 _ t_7 H_5 locs ht hvm hw hB hz1 hk1 hS => ?_)
    subst hw
    have hP := um_B_use ht hB
    have hD : va_D (us_AA (um_ads md) s.heap.size) (um_W md cI (um_th 0 0 0) nu nm sk G v) := us_D_of (by rw [um_W_adr, um_W_adr]) hD
    have hP : va_P (dC, dI) vwCl (um_W md cI (um_th 0 0 0) nu nm sk G v) H_5 := hP
    refine lv_if_eq (tgt := 30) hx hb dX2_wrong_25 (by decide) (fun c_8 => ?_) (fun c_8 => ?_)
    · obtain ⟨j, hj, ej⟩ := um_in_spec (x := p1) (n := nm) (by omega) c_4
      have hj2 : j < 200 := by omega
      refine lv_aload_n hx hb dX2_wrong_30 rfl (lv_at hl 0 rfl) ?_
      refine lv_iload_n hx hb dX2_wrong_31 rfl (lv_at hl 1 rfl) ?_
      refine lv_topi (fun i9 ei9 => ?_)
      have ei9 := ei9.trans ej
      subst ei9
      refine va_calli (va_runV (As := [.int (nI j)]) (rest := []) ⟨hx, hb, hml, hown, htb⟩ (kt_X2_saidOf l dC dI md cI H_5.size (um_th 0 0 0) nu nm sk G v j L hnu hnm hL hV hMi hj) (cwV 1 htb (us_gV mw_579 mw_581 mw_30 mw_34 mw_582) rfl rfl rfl (by decide +kernel) ⟨Nat.le_of_ble_eq_true rfl, Nat.le_of_ble_eq_true rfl⟩) ⟨um_P_blind, va_recv hK hP (ci := 2) (q0 := 0) rfl rfl, fun U hU hW => ⟨rfl, um_P_at hP hK hD hU hW⟩⟩ rfl rfl hl.1 rfl (lv_room (Nat.le_of_ble_eq_true rfl)) dX2_wrong_32 ⟨Nat.le_of_ble_eq_true rfl, Nat.le_of_ble_eq_true rfl⟩) hS (fun q _ h => us_AA_le hS q h) (us_AA_le hS) (fun r_10 v_12 t_11 H_9 locs ht hvm hw hB hz1 hk1 hS => ?_)
      subst hw
      have hP := um_B_use ht hB
      have hD : va_D (us_AA (um_ads md) s.heap.size) (um_W md cI (um_th 0 0 0) nu nm sk G v_12) := us_D_of (by rw [um_W_adr, um_W_adr]) hD
      have hP : va_P (dC, dI) vwCl (um_W md cI (um_th 0 0 0) nu nm sk G v_12) H_9 := hP
      have hkv : um_wrK p1 nm = 0 := by first | (simp only [um_wrK, eq_false c_4, eq_true c_8, if_true, if_false]; done) | (simp [um_wrK, c_4, c_8]; done)
      have hsp : um_wrK p1 nm = 0 → (um_said G L j) = um_said G L p1.toNatClampNeg := by intro _; rw [ej, nI_clamp (by omega)]
      exact W.iret (v := (um_said G L j)) hx hb hr (fun t ht hW => ⟨⟨(um_said G L j), v_12, rfl, hsp, um_B_of ht hP (by rw [hkv]; decide) rfl rfl rfl rfl rfl⟩, hS.F ht⟩) hS.2.2 dX2_wrong_35
    · exact absurd (by decide) c_8
  · refine lv_iconst (v := 1) hx hb dX2_wrong_15 (by decide) ?_
    refine lv_goto (tgt := 20) hx hb dX2_wrong_16 (by decide) ?_
    refine lv_iconst (v := 0) hx hb dX2_wrong_20 (by decide) ?_
    refine lv_iconst (v := 0) hx hb dX2_wrong_21 (by decide) ?_
    refine va_calli (va_runV (As := [.int 1, .int 0, .int 0]) (rest := []) ⟨hx, hb, hml, hown, htb⟩ (kt_X2_throwing l dC dI md cI H_1.size th nu nm sk G v 1 0 0) (cwV 3 htb (us_gV mw_504 mw_506 mw_20 mw_34 mw_507) rfl rfl rfl (by decide +kernel) ⟨Nat.le_of_ble_eq_true rfl, Nat.le_of_ble_eq_true rfl⟩) ⟨um_P_blind, va_recv hK hP (ci := 2) (q0 := 0) rfl rfl, fun U hU hW => ⟨rfl, um_P_at hP hK hD hU hW⟩⟩ rfl rfl hl.1 rfl (lv_room (Nat.le_of_ble_eq_true rfl)) dX2_wrong_22 ⟨Nat.le_of_ble_eq_true rfl, Nat.le_of_ble_eq_true rfl⟩) hS (fun q _ h => us_AA_le hS q h) (us_AA_le hS) (fun r_14 _ t_15 H_13 locs ht hvm hw hB hz1 hk1 hS => ?_)
    subst hw
    have hP := um_B_use ht hB
    have hD : va_D (us_AA (um_ads md) s.heap.size) (um_W md cI (um_th 1 0 0) nu nm sk G v) := us_D_of (by rw [um_W_adr, um_W_adr]) hD
    have hP : va_P (dC, dI) vwCl (um_W md cI (um_th 1 0 0) nu nm sk G v) H_13 := hP
    refine lv_if_eq (tgt := 30) hx hb dX2_wrong_25 (by decide) (fun c_16 => ?_) (fun c_16 => ?_)
    · exact absurd c_16 (by decide)
    · refine lv_iconst (v := 0) hx hb dX2_wrong_28 (by decide) ?_
      have hkv : um_wrK p1 nm = 1 := by first | (simp only [um_wrK, eq_true c_4, eq_false c_16, if_true, if_false]; done) | (simp [um_wrK, c_4, c_16]; done)
      have hsp : um_wrK p1 nm = 0 → 0 = um_said G L p1.toNatClampNeg := by exact fun h9 => absurd (hkv.symm.trans h9) (by decide)
      exact W.iret (v := 0) hx hb hr (fun t ht hW => ⟨⟨0, v, rfl, hsp, um_B_of ht hP (by rw [hkv]; decide) rfl rfl rfl rfl rfl⟩, hS.F ht⟩) hS.2.2 dX2_wrong_29
set_option maxHeartbeats 8000000 in
set_option maxRecDepth 100000 in
theorem kt_X2_told (l : Launch) (dC : Nat → ClassId) (dI : Nat → Nat → Nat) (md : Nat → Nat) (cI : ClassId) (sz : Nat) (th : Int32) (nu nm : Nat) (sk : Int32) (G : Nat → Nat → Int32) (v : Nat → Int32) (p1 : Int32) (L : List Nat) (hnu : nu ≤ 30) (hnm : nm ≤ 200) (hL : um_ok G nm L) (hV : ∀ m, m < nm → ∃ j, j < nu ∧ G 2 m = nI j) (hMi : ∀ m, m < nm → G 3 m ≤ 99999) : Met l yX2_told wsX2_told ({ frames := 5, cells := 0, slots := 0, locals := 112 }) (va_Pc [.ref (md 0), .int p1] (um_P dC dI md cI th nu nm sk G v sz)) (va_Qi (fun r (_ : Nat → Int32) => um_toK p1 = 0 → r = um_toR G L p1 nu nm sk) (fun v9 t => um_B dC dI md cI (um_toK p1) nu nm sk G v9 t) (us_AA (um_ads md) sz)) 0 0 (us_AA (um_ads md) sz) := by
  refine Met.ofW (cc := cX2_told) (maxL := 4) (ret := (some .int)) (by decide) rfl ?_
  intro p e s m args below meth c s₁ B hml hv
  obtain ⟨rfl, hsz, hP, hK, hD⟩ := hv
  have hx := B.exec
  have hb := B.bytes
  have hr := B.returns
  have htb := us_htb (atoms_spec (ws := wsX2_told) B.pre)
  have hown : s.vm.findClass RX2 = some m.cls := findClass_of_methodNamed B.named
  have hlocks := B.notSynchronized
  subst hsz
  have hA : ∀ q : Nat, s.heap.size ≤ q → (us_AA (um_ads md) s.heap.size) q := fun q h => Or.inr h
  have hS : va_S (us_AA (um_ads md) s.heap.size) s.heap s.heap [] := va_S.rf
  have hP : va_P (dC, dI) vwCl (um_W md cI th nu nm sk G v) s.heap := hP
  have hD : va_D (us_AA (um_ads md) s.heap.size) (um_W md cI th nu nm sk G v) := us_D_aa hD
  have hl := lv_entry ([.ref (md 0), .int p1]) (n := 4) (Nat.le_of_ble_eq_true rfl)
  rw [lg_entry_eq]
  generalize (lg_sl ([.ref (md 0), .int p1]) ++ List.replicate (4 - (lg_sl ([.ref (md 0), .int p1])).length) Slot.unset).toArray = ls at hl ⊢
  have hl : lv_has ls 4 [(0, .ref (md 0)), (1, .int p1)] := hl
  have lp61 : ∀ (n i : Nat) (w0 : Nat → Int32) (H : Heap) (locs : List Loc) (ls : Array Slot), i + n = nm → um_toK p1 = 0 → ¬ p1 = 0 → p1 ≤ 4 → va_P (dC, dI) vwCl (um_W md cI (um_th 0 0 0) nu nm sk G w0) H → va_D (us_AA (um_ads md) s.heap.size) (um_W md cI (um_th 0 0 0) nu nm sk G w0) → va_S (us_AA (um_ads md) s.heap.size) s.heap H locs → lv_has ls 4 [(3, .int (nI i)), (2, .int (um_cnt G L p1 i)), (0, .ref (md 0)), (1, .int p1)] → W p l e (headSpec wsX2_told ({ frames := 5, cells := 0, slots := 0, locals := 112 })).room s m ([.ref (md 0), .int p1]).toArray below meth c H locs 0 0 (MQ below (va_Qi (fun r (_ : Nat → Int32) => um_toK p1 = 0 → r = um_toR G L p1 nu nm sk) (fun v9 t => um_B dC dI md cI (um_toK p1) nu nm sk G v9 t) (us_AA (um_ads md) s.heap.size)) ([.ref (md 0), .int p1]).toArray s 0 0 (us_AA (um_ads md) s.heap.size)) (F0 m 61 ls []) := by
    intro n
    induction n with
    | zero =>
      intro i w0 H locs ls hin hk0 hq1 hq2 hP hD hS hl
      have hie : i = nm := by omega
      refine lv_iload_n hx hb dX2_told_61 rfl (lv_at hl 0 rfl) ?_
      refine lv_aload_n hx hb dX2_told_62 rfl (lv_at hl 2 rfl) ?_
      refine va_get (D := (dC, dI)) (ci := 2) (v := .int (nI nm)) (C := RX2) (T := TX2) (N := 23) hx hb htb us_inX2 hown hK hP 0 rfl rfl 4 (by decide) (htb _ mw_427) (fun _ h9 => h9) rfl dX2_told_63 ?_
      refine lv_icmp_ge (tgt := 92) hx hb dX2_told_66 (by decide) (fun c_1 => ?_) (fun c_1 => ?_)
      · refine lv_iload_n hx hb dX2_told_92 rfl (lv_at hl 1 rfl) ?_
        have hkv : um_toK p1 = 0 := by exact hk0
        have hsp : um_toK p1 = 0 → (um_cnt G L p1 i) = um_toR G L p1 nu nm sk := by intro _; rw [um_toR, if_neg hq1, if_pos hq2, hie]
        exact W.iret (v := (um_cnt G L p1 i)) hx hb hr (fun t ht hW => ⟨⟨(um_cnt G L p1 i), w0, rfl, hsp, um_B_of ht hP (by rw [hkv]; decide) rfl rfl rfl rfl rfl⟩, hS.F ht⟩) hS.2.2 dX2_told_93
      · exact absurd (nI_le (by omega) (by omega)) c_1
    | succ n ih =>
      intro i w0 H locs ls hin hk0 hq1 hq2 hP hD hS hl
      have hil : i < nm := by omega
      refine lv_iload_n hx hb dX2_told_61 rfl (lv_at hl 0 rfl) ?_
      refine lv_aload_n hx hb dX2_told_62 rfl (lv_at hl 2 rfl) ?_
      refine va_get (D := (dC, dI)) (ci := 2) (v := .int (nI nm)) (C := RX2) (T := TX2) (N := 23) hx hb htb us_inX2 hown hK hP 0 rfl rfl 4 (by decide) (htb _ mw_427) (fun _ h9 => h9) rfl dX2_told_63 ?_
      refine lv_icmp_ge (tgt := 92) hx hb dX2_told_66 (by decide) (fun c_2 => ?_) (fun c_2 => ?_)
      · exact absurd c_2 (nI_ge (by omega) (by omega))
      · refine lv_iload_n hx hb dX2_told_69 rfl (lv_at hl 1 rfl) ?_
        refine lv_aload_n hx hb dX2_told_70 rfl (lv_at hl 2 rfl) ?_
        refine lv_iload_n hx hb dX2_told_71 rfl (lv_at hl 0 rfl) ?_
        refine va_calli (va_runV (As := [.int (nI i)]) (rest := [.int (um_cnt G L p1 i)]) ⟨hx, hb, hml, hown, htb⟩ (kt_X2_saidOf l dC dI md cI H.size (um_th 0 0 0) nu nm sk G w0 i L hnu hnm hL hV hMi hil) (cwV 1 htb (us_gV mw_579 mw_581 mw_30 mw_34 mw_582) rfl rfl rfl (by decide +kernel) ⟨Nat.le_of_ble_eq_true rfl, Nat.le_of_ble_eq_true rfl⟩) ⟨um_P_blind, va_recv hK hP (ci := 2) (q0 := 0) rfl rfl, fun U hU hW => ⟨rfl, um_P_at hP hK hD hU hW⟩⟩ rfl rfl hl.1 rfl (lv_room (Nat.le_of_ble_eq_true rfl)) dX2_told_72 ⟨Nat.le_of_ble_eq_true rfl, Nat.le_of_ble_eq_true rfl⟩) hS (fun q _ h => us_AA_le hS q h) (us_AA_le hS) (fun r_4 v_6 t_5 H_3 locs ht hvm hw hB hz1 hk1 hS => ?_)
        subst hw
        have hP := um_B_use ht hB
        have hD : va_D (us_AA (um_ads md) s.heap.size) (um_W md cI (um_th 0 0 0) nu nm sk G v_6) := us_D_of (by rw [um_W_adr, um_W_adr]) hD
        have hP : va_P (dC, dI) vwCl (um_W md cI (um_th 0 0 0) nu nm sk G v_6) H_3 := hP
        refine lv_iload_n hx hb dX2_told_75 rfl (lv_at hl 3 rfl) ?_
        refine lv_icmp_ne (tgt := 83) hx hb dX2_told_76 (by decide) (fun c_7 => ?_) (fun c_7 => ?_)
        · refine lv_iconst (v := 0) hx hb dX2_told_83 (by decide) ?_
          refine lv_iadd hx hb dX2_told_84 ?_
          refine lv_istore_n (lv' := [(2, .int ((um_cnt G L p1 i) + 0)), (3, .int (nI i)), (0, .ref (md 0)), (1, .int p1)]) hx hb dX2_told_85 rfl hl (by decide) rfl (fun ls hl => ?_)
          refine lv_iinc (v := (nI (i + 1))) (lv' := [(3, .int (nI (i + 1))), (2, .int ((um_cnt G L p1 i) + 0)), (0, .ref (md 0)), (1, .int p1)]) hx hb dX2_told_86 hl (k := 1) rfl (nI_1 i) (by decide) rfl (fun ls hl => ?_)
          refine lv_goto (tgt := 61) hx hb dX2_told_89 (by decide) ?_
          have e9 : um_cnt G L p1 (i + 1) = ((um_cnt G L p1 i) + 0) := by rw [um_cnt, if_neg c_7]
          exact ih (i + 1) _ _ _ _ (by omega) hk0 hq1 hq2 hP hD hS (by rw [e9]; exact lv_sub hl [0, 1, 2, 3] rfl)
        · refine lv_iconst (v := 1) hx hb dX2_told_79 (by decide) ?_
          refine lv_goto (tgt := 84) hx hb dX2_told_80 (by decide) ?_
          refine lv_iadd hx hb dX2_told_84 ?_
          refine lv_istore_n (lv' := [(2, .int ((um_cnt G L p1 i) + 1)), (3, .int (nI i)), (0, .ref (md 0)), (1, .int p1)]) hx hb dX2_told_85 rfl hl (by decide) rfl (fun ls hl => ?_)
          refine lv_iinc (v := (nI (i + 1))) (lv' := [(3, .int (nI (i + 1))), (2, .int ((um_cnt G L p1 i) + 1)), (0, .ref (md 0)), (1, .int p1)]) hx hb dX2_told_86 hl (k := 1) rfl (nI_1 i) (by decide) rfl (fun ls hl => ?_)
          refine lv_goto (tgt := 61) hx hb dX2_told_89 (by decide) ?_
          have e9 : um_cnt G L p1 (i + 1) = ((um_cnt G L p1 i) + 1) := by rw [um_cnt, if_pos c_7]
          exact ih (i + 1) _ _ _ _ (by omega) hk0 hq1 hq2 hP hD hS (by rw [e9]; exact lv_sub hl [0, 1, 2, 3] rfl)
  refine lv_aload_n hx hb dX2_told_0 rfl (lv_at hl 0 rfl) ?_
  refine lv_iload_n hx hb dX2_told_1 rfl (lv_at hl 1 rfl) ?_
  refine lv_iconst (v := 0) hx hb dX2_told_2 (by decide) ?_
  refine lv_bipush (v := 6) hx hb dX2_told_3 (by decide) ?_
  refine va_calli (va_runS (As := [.int p1, .int 0, .int 6]) (rest := [.ref (md 0)]) ⟨hx, hb, hml, hown, htb⟩ (kt_X2_in l s.heap.size p1 0 6) (cwS 3 htb (us_gS mw_501 mw_502 mw_34 mw_503) rfl rfl rfl (by decide +kernel) ⟨Nat.le_of_ble_eq_true rfl, Nat.le_of_ble_eq_true rfl⟩) ⟨us_blind0, fun U hU _ => ⟨rfl, congrArg Array.size hU⟩⟩ rfl rfl hl.1 rfl (lv_room (Nat.le_of_ble_eq_true rfl)) dX2_told_5 ⟨Nat.le_of_ble_eq_true rfl, Nat.le_of_ble_eq_true rfl⟩) hS (fun q h1 h2 => absurd h2 (Nat.not_le.mpr h1)) (fun q h => hA q (Nat.le_trans hS.1 h)) (fun r_9 _ t_10 H_8 locs ht hvm hw hB hz1 hk1 hS => ?_)
  subst hw
  have hP := us_mono hP (fun q h => hk1 q h (Nat.not_le.mpr h))
  refine lv_if_ne (tgt := 15) hx hb dX2_told_8 (by decide) (fun c_11 => ?_) (fun c_11 => ?_)
  · refine lv_iconst (v := 0) hx hb dX2_told_15 (by decide) ?_
    refine lv_iconst (v := 0) hx hb dX2_told_16 (by decide) ?_
    refine lv_iconst (v := 0) hx hb dX2_told_17 (by decide) ?_
    refine va_calli (va_runV (As := [.int 0, .int 0, .int 0]) (rest := []) ⟨hx, hb, hml, hown, htb⟩ (kt_X2_throwing l dC dI md cI H_8.size th nu nm sk G v 0 0 0) (cwV 3 htb (us_gV mw_504 mw_506 mw_20 mw_34 mw_507) rfl rfl rfl (by decide +kernel) ⟨Nat.le_of_ble_eq_true rfl, Nat.le_of_ble_eq_true rfl⟩) ⟨um_P_blind, va_recv hK hP (ci := 2) (q0 := 0) rfl rfl, fun U hU hW => ⟨rfl, um_P_at hP hK hD hU hW⟩⟩ rfl rfl hl.1 rfl (lv_room (Nat.le_of_ble_eq_true rfl)) dX2_told_18 ⟨Nat.le_of_ble_eq_true rfl, Nat.le_of_ble_eq_true rfl⟩) hS (fun q _ h => us_AA_le hS q h) (us_AA_le hS) (fun r_13 _ t_14 H_12 locs ht hvm hw hB hz1 hk1 hS => ?_)
    subst hw
    have hP := um_B_use ht hB
    have hD : va_D (us_AA (um_ads md) s.heap.size) (um_W md cI (um_th 0 0 0) nu nm sk G v) := us_D_of (by rw [um_W_adr, um_W_adr]) hD
    have hP : va_P (dC, dI) vwCl (um_W md cI (um_th 0 0 0) nu nm sk G v) H_12 := hP
    refine lv_if_eq (tgt := 26) hx hb dX2_told_21 (by decide) (fun c_15 => ?_) (fun c_15 => ?_)
    · refine lv_iload_n hx hb dX2_told_26 rfl (lv_at hl 1 rfl) ?_
      refine lv_if_ne (tgt := 35) hx hb dX2_told_27 (by decide) (fun c_16 => ?_) (fun c_16 => ?_)
      · refine lv_iload_n hx hb dX2_told_35 rfl (lv_at hl 1 rfl) ?_
        refine lv_iconst (v := 4) hx hb dX2_told_36 (by decide) ?_
        refine lv_icmp_le (tgt := 57) hx hb dX2_told_37 (by decide) (fun c_17 => ?_) (fun c_17 => ?_)
        · refine lv_iconst (v := 0) hx hb dX2_told_57 (by decide) ?_
          refine lv_istore_n (lv' := [(2, .int 0), (0, .ref (md 0)), (1, .int p1)]) hx hb dX2_told_58 rfl hl (by decide) rfl (fun ls hl => ?_)
          refine lv_iconst (v := 0) hx hb dX2_told_59 (by decide) ?_
          refine lv_istore_n (lv' := [(3, .int 0), (2, .int 0), (0, .ref (md 0)), (1, .int p1)]) hx hb dX2_told_60 rfl hl (by decide) rfl (fun ls hl => ?_)
          exact lp61 nm 0 _ _ _ _ (by omega) (by first | (simp only [um_toK, eq_false c_11, if_true, if_false]; done) | (simp [um_toK, c_11]; done)) c_16 c_17 hP hD hS (lv_sub hl [0, 1, 2, 3] rfl)
        · refine lv_iload_n hx hb dX2_told_40 rfl (lv_at hl 1 rfl) ?_
          refine lv_iconst (v := 5) hx hb dX2_told_41 (by decide) ?_
          refine lv_icmp_ne (tgt := 52) hx hb dX2_told_42 (by decide) (fun c_18 => ?_) (fun c_18 => ?_)
          · refine lv_aload_n hx hb dX2_told_52 rfl (lv_at hl 0 rfl) ?_
            refine va_get (D := (dC, dI)) (ci := 2) (v := .int (nI nu)) (C := RX2) (T := TX2) (N := 23) hx hb htb us_inX2 hown hK hP 0 rfl rfl 1 (by decide) (htb _ mw_424) (fun _ h9 => h9) rfl dX2_told_53 ?_
            have hkv : um_toK p1 = 0 := by first | (simp only [um_toK, eq_false c_11, eq_true c_15, eq_false c_16, eq_false c_17, eq_false c_18, if_true, if_false]; done) | (simp [um_toK, c_11, c_15, c_16, c_17, c_18]; done)
            have hsp : um_toK p1 = 0 → (nI nu) = um_toR G L p1 nu nm sk := by intro _; first | (simp only [um_toR, eq_false c_16, eq_false c_17, eq_false c_18, if_true, if_false]; done) | (simp [um_toR, c_16, c_17, c_18]; done)
            exact W.iret (v := (nI nu)) hx hb hr (fun t ht hW => ⟨⟨(nI nu), v, rfl, hsp, um_B_of ht hP (by rw [hkv]; decide) rfl rfl rfl rfl rfl⟩, hS.F ht⟩) hS.2.2 dX2_told_56
          · refine lv_aload_n hx hb dX2_told_45 rfl (lv_at hl 0 rfl) ?_
            refine va_get (D := (dC, dI)) (ci := 2) (v := .int (nI nm)) (C := RX2) (T := TX2) (N := 23) hx hb htb us_inX2 hown hK hP 0 rfl rfl 4 (by decide) (htb _ mw_427) (fun _ h9 => h9) rfl dX2_told_46 ?_
            refine lv_goto (tgt := 56) hx hb dX2_told_49 (by decide) ?_
            have hkv : um_toK p1 = 0 := by first | (simp only [um_toK, eq_false c_11, eq_true c_15, eq_false c_16, eq_false c_17, eq_true c_18, if_true, if_false]; done) | (simp [um_toK, c_11, c_15, c_16, c_17, c_18]; done)
            have hsp : um_toK p1 = 0 → (nI nm) = um_toR G L p1 nu nm sk := by intro _; first | (simp only [um_toR, eq_false c_16, eq_false c_17, eq_true c_18, if_true, if_false]; done) | (simp [um_toR, c_16, c_17, c_18]; done)
            exact W.iret (v := (nI nm)) hx hb hr (fun t ht hW => ⟨⟨(nI nm), v, rfl, hsp, um_B_of ht hP (by rw [hkv]; decide) rfl rfl rfl rfl rfl⟩, hS.F ht⟩) hS.2.2 dX2_told_56
      · refine lv_aload_n hx hb dX2_told_30 rfl (lv_at hl 0 rfl) ?_
        refine va_get (D := (dC, dI)) (ci := 2) (v := .int sk) (C := RX2) (T := TX2) (N := 23) hx hb htb us_inX2 hown hK hP 0 rfl rfl 9 (by decide) (htb _ mw_432) (fun _ h9 => h9) rfl dX2_told_31 ?_
        have hkv : um_toK p1 = 0 := by first | (simp only [um_toK, eq_false c_11, eq_true c_15, eq_true c_16, if_true, if_false]; done) | (simp [um_toK, c_11, c_15, c_16]; done)
        have hsp : um_toK p1 = 0 → sk = um_toR G L p1 nu nm sk := by intro _; first | (simp only [um_toR, eq_true c_16, if_true, if_false]; done) | (simp [um_toR, c_16]; done)
        exact W.iret (v := sk) hx hb hr (fun t ht hW => ⟨⟨sk, v, rfl, hsp, um_B_of ht hP (by rw [hkv]; decide) rfl rfl rfl rfl rfl⟩, hS.F ht⟩) hS.2.2 dX2_told_34
    · exact absurd (by decide) c_15
  · refine lv_iconst (v := 1) hx hb dX2_told_11 (by decide) ?_
    refine lv_goto (tgt := 16) hx hb dX2_told_12 (by decide) ?_
    refine lv_iconst (v := 0) hx hb dX2_told_16 (by decide) ?_
    refine lv_iconst (v := 0) hx hb dX2_told_17 (by decide) ?_
    refine va_calli (va_runV (As := [.int 1, .int 0, .int 0]) (rest := []) ⟨hx, hb, hml, hown, htb⟩ (kt_X2_throwing l dC dI md cI H_8.size th nu nm sk G v 1 0 0) (cwV 3 htb (us_gV mw_504 mw_506 mw_20 mw_34 mw_507) rfl rfl rfl (by decide +kernel) ⟨Nat.le_of_ble_eq_true rfl, Nat.le_of_ble_eq_true rfl⟩) ⟨um_P_blind, va_recv hK hP (ci := 2) (q0 := 0) rfl rfl, fun U hU hW => ⟨rfl, um_P_at hP hK hD hU hW⟩⟩ rfl rfl hl.1 rfl (lv_room (Nat.le_of_ble_eq_true rfl)) dX2_told_18 ⟨Nat.le_of_ble_eq_true rfl, Nat.le_of_ble_eq_true rfl⟩) hS (fun q _ h => us_AA_le hS q h) (us_AA_le hS) (fun r_20 _ t_21 H_19 locs ht hvm hw hB hz1 hk1 hS => ?_)
    subst hw
    have hP := um_B_use ht hB
    have hD : va_D (us_AA (um_ads md) s.heap.size) (um_W md cI (um_th 1 0 0) nu nm sk G v) := us_D_of (by rw [um_W_adr, um_W_adr]) hD
    have hP : va_P (dC, dI) vwCl (um_W md cI (um_th 1 0 0) nu nm sk G v) H_19 := hP
    refine lv_if_eq (tgt := 26) hx hb dX2_told_21 (by decide) (fun c_22 => ?_) (fun c_22 => ?_)
    · exact absurd c_22 (by decide)
    · refine lv_iconst (v := 0) hx hb dX2_told_24 (by decide) ?_
      have hkv : um_toK p1 = 1 := by first | (simp only [um_toK, eq_true c_11, eq_false c_22, if_true, if_false]; done) | (simp [um_toK, c_11, c_22]; done)
      have hsp : um_toK p1 = 0 → 0 = um_toR G L p1 nu nm sk := by exact fun h9 => absurd (hkv.symm.trans h9) (by decide)
      exact W.iret (v := 0) hx hb hr (fun t ht hW => ⟨⟨0, v, rfl, hsp, um_B_of ht hP (by rw [hkv]; decide) rfl rfl rfl rfl rfl⟩, hS.F ht⟩) hS.2.2 dX2_told_25
set_option maxHeartbeats 8000000 in
set_option maxRecDepth 100000 in
theorem kt_X2_many (l : Launch) (dC : Nat → ClassId) (dI : Nat → Nat → Nat) (md : Nat → Nat) (cI : ClassId) (sz : Nat) (th : Int32) (nu nm : Nat) (sk : Int32) (G : Nat → Nat → Int32) (v : Nat → Int32) (p1 p2 : Int32) (L : List Nat) (hnu : nu ≤ 30) (hnm : nm ≤ 200) (hL : um_ok G nm L) : Met l yX2_many wsX2_many ({ frames := 4, cells := 0, slots := 0, locals := 91 }) (va_Pc [.ref (md 0), .int p1, .int p2] (um_P dC dI md cI th nu nm sk G v sz)) (va_Qi (fun r (_ : Nat → Int32) => um_maK p1 p2 = 0 → r = um_many G L p2 p1 nu) (fun v9 t => um_B dC dI md cI (um_maK p1 p2) nu nm sk G v9 t) (us_AA (um_ads md) sz)) 0 0 (us_AA (um_ads md) sz) := by
  refine Met.ofW (cc := cX2_many) (maxL := 5) (ret := (some .int)) (by decide) rfl ?_
  intro p e s m args below meth c s₁ B hml hv
  obtain ⟨rfl, hsz, hP, hK, hD⟩ := hv
  have hx := B.exec
  have hb := B.bytes
  have hr := B.returns
  have htb := us_htb (atoms_spec (ws := wsX2_many) B.pre)
  have hown : s.vm.findClass RX2 = some m.cls := findClass_of_methodNamed B.named
  have hlocks := B.notSynchronized
  subst hsz
  have hA : ∀ q : Nat, s.heap.size ≤ q → (us_AA (um_ads md) s.heap.size) q := fun q h => Or.inr h
  have hS : va_S (us_AA (um_ads md) s.heap.size) s.heap s.heap [] := va_S.rf
  have hP : va_P (dC, dI) vwCl (um_W md cI th nu nm sk G v) s.heap := hP
  have hD : va_D (us_AA (um_ads md) s.heap.size) (um_W md cI th nu nm sk G v) := us_D_aa hD
  have hl := lv_entry ([.ref (md 0), .int p1, .int p2]) (n := 5) (Nat.le_of_ble_eq_true rfl)
  rw [lg_entry_eq]
  generalize (lg_sl ([.ref (md 0), .int p1, .int p2]) ++ List.replicate (5 - (lg_sl ([.ref (md 0), .int p1, .int p2])).length) Slot.unset).toArray = ls at hl ⊢
  have hl : lv_has ls 5 [(0, .ref (md 0)), (1, .int p1), (2, .int p2)] := hl
  have lp42 : ∀ (n i : Nat) (w0 : Nat → Int32) (H : Heap) (locs : List Loc) (ls : Array Slot), i + n = nu → um_maK p1 p2 = 0 → va_P (dC, dI) vwCl (um_W md cI (um_th 0 0 0) nu nm sk G w0) H → va_D (us_AA (um_ads md) s.heap.size) (um_W md cI (um_th 0 0 0) nu nm sk G w0) → va_S (us_AA (um_ads md) s.heap.size) s.heap H locs → lv_has ls 5 [(4, .int (nI i)), (3, .int (um_many G L p2 p1 i)), (0, .ref (md 0)), (1, .int p1), (2, .int p2)] → W p l e (headSpec wsX2_many ({ frames := 4, cells := 0, slots := 0, locals := 91 })).room s m ([.ref (md 0), .int p1, .int p2]).toArray below meth c H locs 0 0 (MQ below (va_Qi (fun r (_ : Nat → Int32) => um_maK p1 p2 = 0 → r = um_many G L p2 p1 nu) (fun v9 t => um_B dC dI md cI (um_maK p1 p2) nu nm sk G v9 t) (us_AA (um_ads md) s.heap.size)) ([.ref (md 0), .int p1, .int p2]).toArray s 0 0 (us_AA (um_ads md) s.heap.size)) (F0 m 42 ls []) := by
    intro n
    induction n with
    | zero =>
      intro i w0 H locs ls hin hk0 hP hD hS hl
      have hie : i = nu := by omega
      refine lv_iload hx hb dX2_many_42 (lv_at hl 0 rfl) ?_
      refine lv_aload_n hx hb dX2_many_44 rfl (lv_at hl 2 rfl) ?_
      refine va_get (D := (dC, dI)) (ci := 2) (v := .int (nI nu)) (C := RX2) (T := TX2) (N := 23) hx hb htb us_inX2 hown hK hP 0 rfl rfl 1 (by decide) (htb _ mw_424) (fun _ h9 => h9) rfl dX2_many_45 ?_
      refine lv_icmp_ge (tgt := 81) hx hb dX2_many_48 (by decide) (fun c_1 => ?_) (fun c_1 => ?_)
      · refine lv_iload_n hx hb dX2_many_81 rfl (lv_at hl 1 rfl) ?_
        have hkv : um_maK p1 p2 = 0 := by exact hk0
        have hsp : um_maK p1 p2 = 0 → (um_many G L p2 p1 i) = um_many G L p2 p1 nu := by intro _; rw [hie]
        exact W.iret (v := (um_many G L p2 p1 i)) hx hb hr (fun t ht hW => ⟨⟨(um_many G L p2 p1 i), w0, rfl, hsp, um_B_of ht hP (by rw [hkv]; decide) rfl rfl rfl rfl rfl⟩, hS.F ht⟩) hS.2.2 dX2_many_82
      · exact absurd (nI_le (by omega) (by omega)) c_1
    | succ n ih =>
      intro i w0 H locs ls hin hk0 hP hD hS hl
      have hil : i < nu := by omega
      have hi3 : i < 30 := by omega
      refine lv_iload hx hb dX2_many_42 (lv_at hl 0 rfl) ?_
      refine lv_aload_n hx hb dX2_many_44 rfl (lv_at hl 2 rfl) ?_
      refine va_get (D := (dC, dI)) (ci := 2) (v := .int (nI nu)) (C := RX2) (T := TX2) (N := 23) hx hb htb us_inX2 hown hK hP 0 rfl rfl 1 (by decide) (htb _ mw_424) (fun _ h9 => h9) rfl dX2_many_45 ?_
      refine lv_icmp_ge (tgt := 81) hx hb dX2_many_48 (by decide) (fun c_2 => ?_) (fun c_2 => ?_)
      · exact absurd c_2 (nI_ge (by omega) (by omega))
      · refine lv_aload_n hx hb dX2_many_51 rfl (lv_at hl 2 rfl) ?_
        refine lv_iload hx hb dX2_many_52 (lv_at hl 0 rfl) ?_
        refine lv_iload_n hx hb dX2_many_54 rfl (lv_at hl 4 rfl) ?_
        refine lv_iconst (v := (-1)) hx hb dX2_many_55 (by decide) ?_
        refine va_callv (va_runV (As := [.int (nI i), .int p2, .int (-1)]) (rest := []) ⟨hx, hb, hml, hown, htb⟩ (kt_X2_follow l dC dI md cI H.size (um_th 0 0 0) nu nm sk G w0 i p2 L hi3 hnm hL) (cwV 3 htb (us_gV mw_532 mw_534 mw_23 mw_34 mw_535) rfl rfl rfl (by decide +kernel) ⟨Nat.le_of_ble_eq_true rfl, Nat.le_of_ble_eq_true rfl⟩) ⟨um_P_blind, va_recv hK hP (ci := 2) (q0 := 0) rfl rfl, fun U hU hW => ⟨rfl, um_P_at hP hK hD hU hW⟩⟩ rfl rfl hl.1 rfl (lv_room (Nat.le_of_ble_eq_true rfl)) dX2_many_56 ⟨Nat.le_of_ble_eq_true rfl, Nat.le_of_ble_eq_true rfl⟩) hS (fun q _ h => us_AA_le hS q h) (us_AA_le hS) (fun _ t_5 H_3 locs ht hvm hw hB hz1 hk1 hS => ?_)
        have hP := um_B_use ht hB
        have hD : va_D (us_AA (um_ads md) s.heap.size) (um_W md cI (um_th 0 0 0) nu nm sk G (um_fol G L i p2 w0)) := us_D_of (by rw [um_W_adr, um_W_adr]) hD
        have hP : va_P (dC, dI) vwCl (um_W md cI (um_th 0 0 0) nu nm sk G (um_fol G L i p2 w0)) H_3 := hP
        refine lv_iload_n hx hb dX2_many_59 rfl (lv_at hl 1 rfl) ?_
        refine lv_aload_n hx hb dX2_many_60 rfl (lv_at hl 2 rfl) ?_
        refine um_get (x := (um_st G L p2 i 0)) hx hb htb us_inX2 hown hK hP 0 (by decide) (htb _ mw_433) (um_fol_ag (by decide)) dX2_many_61 ?_
        refine lv_iload_n hx hb dX2_many_64 rfl (lv_at hl 3 rfl) ?_
        refine lv_icmp_ne (tgt := 72) hx hb dX2_many_65 (by decide) (fun c_6 => ?_) (fun c_6 => ?_)
        · refine lv_iconst (v := 0) hx hb dX2_many_72 (by decide) ?_
          refine lv_iadd hx hb dX2_many_73 ?_
          refine lv_istore_n (lv' := [(3, .int ((um_many G L p2 p1 i) + 0)), (4, .int (nI i)), (0, .ref (md 0)), (1, .int p1), (2, .int p2)]) hx hb dX2_many_74 rfl hl (by decide) rfl (fun ls hl => ?_)
          refine lv_iinc (v := (nI (i + 1))) (lv' := [(4, .int (nI (i + 1))), (3, .int ((um_many G L p2 p1 i) + 0)), (0, .ref (md 0)), (1, .int p1), (2, .int p2)]) hx hb dX2_many_75 hl (k := 1) rfl (nI_1 i) (by decide) rfl (fun ls hl => ?_)
          refine lv_goto (tgt := 42) hx hb dX2_many_78 (by decide) ?_
          have e9 : um_many G L p2 p1 (i + 1) = ((um_many G L p2 p1 i) + 0) := by rw [um_many, if_neg c_6]
          exact ih (i + 1) _ _ _ _ (by omega) hk0 hP hD hS (by rw [e9]; exact lv_sub hl [0, 1, 2, 3, 4] rfl)
        · refine lv_iconst (v := 1) hx hb dX2_many_68 (by decide) ?_
          refine lv_goto (tgt := 73) hx hb dX2_many_69 (by decide) ?_
          refine lv_iadd hx hb dX2_many_73 ?_
          refine lv_istore_n (lv' := [(3, .int ((um_many G L p2 p1 i) + 1)), (4, .int (nI i)), (0, .ref (md 0)), (1, .int p1), (2, .int p2)]) hx hb dX2_many_74 rfl hl (by decide) rfl (fun ls hl => ?_)
          refine lv_iinc (v := (nI (i + 1))) (lv' := [(4, .int (nI (i + 1))), (3, .int ((um_many G L p2 p1 i) + 1)), (0, .ref (md 0)), (1, .int p1), (2, .int p2)]) hx hb dX2_many_75 hl (k := 1) rfl (nI_1 i) (by decide) rfl (fun ls hl => ?_)
          refine lv_goto (tgt := 42) hx hb dX2_many_78 (by decide) ?_
          have e9 : um_many G L p2 p1 (i + 1) = ((um_many G L p2 p1 i) + 1) := by rw [um_many, if_pos c_6]
          exact ih (i + 1) _ _ _ _ (by omega) hk0 hP hD hS (by rw [e9]; exact lv_sub hl [0, 1, 2, 3, 4] rfl)
  refine lv_aload_n hx hb dX2_many_0 rfl (lv_at hl 0 rfl) ?_
  refine lv_iload_n hx hb dX2_many_1 rfl (lv_at hl 1 rfl) ?_
  refine lv_iconst (v := 0) hx hb dX2_many_2 (by decide) ?_
  refine lv_bipush (v := 10) hx hb dX2_many_3 (by decide) ?_
  refine va_calli (va_runS (As := [.int p1, .int 0, .int 10]) (rest := [.ref (md 0)]) ⟨hx, hb, hml, hown, htb⟩ (kt_X2_in l s.heap.size p1 0 10) (cwS 3 htb (us_gS mw_501 mw_502 mw_34 mw_503) rfl rfl rfl (by decide +kernel) ⟨Nat.le_of_ble_eq_true rfl, Nat.le_of_ble_eq_true rfl⟩) ⟨us_blind0, fun U hU _ => ⟨rfl, congrArg Array.size hU⟩⟩ rfl rfl hl.1 rfl (lv_room (Nat.le_of_ble_eq_true rfl)) dX2_many_5 ⟨Nat.le_of_ble_eq_true rfl, Nat.le_of_ble_eq_true rfl⟩) hS (fun q h1 h2 => absurd h2 (Nat.not_le.mpr h1)) (fun q h => hA q (Nat.le_trans hS.1 h)) (fun r_8 _ t_9 H_7 locs ht hvm hw hB hz1 hk1 hS => ?_)
  subst hw
  have hP := us_mono hP (fun q h => hk1 q h (Nat.not_le.mpr h))
  refine lv_if_ne (tgt := 15) hx hb dX2_many_8 (by decide) (fun c_10 => ?_) (fun c_10 => ?_)
  · refine lv_iconst (v := 0) hx hb dX2_many_15 (by decide) ?_
    refine lv_iload_n hx hb dX2_many_16 rfl (lv_at hl 2 rfl) ?_
    refine va_calli (va_runS (As := [.int p2]) (rest := [.int 0, .ref (md 0)]) ⟨hx, hb, hml, hown, htb⟩ (kt_X2_isMinute l H_7.size p2) (cwS 1 htb (us_gS mw_516 mw_517 mw_34 mw_518) rfl rfl rfl (by decide +kernel) ⟨Nat.le_of_ble_eq_true rfl, Nat.le_of_ble_eq_true rfl⟩) ⟨us_blind0, fun U hU _ => ⟨rfl, congrArg Array.size hU⟩⟩ rfl rfl hl.1 rfl (lv_room (Nat.le_of_ble_eq_true rfl)) dX2_many_17 ⟨Nat.le_of_ble_eq_true rfl, Nat.le_of_ble_eq_true rfl⟩) hS (fun q h1 h2 => absurd h2 (Nat.not_le.mpr h1)) (fun q h => hA q (Nat.le_trans hS.1 h)) (fun r_12 _ t_13 H_11 locs ht hvm hw hB hz1 hk1 hS => ?_)
    subst hw
    have hP := us_mono hP (fun q h => hk1 q h (Nat.not_le.mpr h))
    refine lv_if_ne (tgt := 27) hx hb dX2_many_20 (by decide) (fun c_14 => ?_) (fun c_14 => ?_)
    · refine lv_iconst (v := 0) hx hb dX2_many_27 (by decide) ?_
      refine lv_iconst (v := 0) hx hb dX2_many_28 (by decide) ?_
      refine va_calli (va_runV (As := [.int 0, .int 0, .int 0]) (rest := []) ⟨hx, hb, hml, hown, htb⟩ (kt_X2_throwing l dC dI md cI H_11.size th nu nm sk G v 0 0 0) (cwV 3 htb (us_gV mw_504 mw_506 mw_20 mw_34 mw_507) rfl rfl rfl (by decide +kernel) ⟨Nat.le_of_ble_eq_true rfl, Nat.le_of_ble_eq_true rfl⟩) ⟨um_P_blind, va_recv hK hP (ci := 2) (q0 := 0) rfl rfl, fun U hU hW => ⟨rfl, um_P_at hP hK hD hU hW⟩⟩ rfl rfl hl.1 rfl (lv_room (Nat.le_of_ble_eq_true rfl)) dX2_many_29 ⟨Nat.le_of_ble_eq_true rfl, Nat.le_of_ble_eq_true rfl⟩) hS (fun q _ h => us_AA_le hS q h) (us_AA_le hS) (fun r_16 _ t_17 H_15 locs ht hvm hw hB hz1 hk1 hS => ?_)
      subst hw
      have hP := um_B_use ht hB
      have hD : va_D (us_AA (um_ads md) s.heap.size) (um_W md cI (um_th 0 0 0) nu nm sk G v) := us_D_of (by rw [um_W_adr, um_W_adr]) hD
      have hP : va_P (dC, dI) vwCl (um_W md cI (um_th 0 0 0) nu nm sk G v) H_15 := hP
      refine lv_if_eq (tgt := 37) hx hb dX2_many_32 (by decide) (fun c_18 => ?_) (fun c_18 => ?_)
      · refine lv_iconst (v := 0) hx hb dX2_many_37 (by decide) ?_
        refine lv_istore_n (lv' := [(3, .int 0), (0, .ref (md 0)), (1, .int p1), (2, .int p2)]) hx hb dX2_many_38 rfl hl (by decide) rfl (fun ls hl => ?_)
        refine lv_iconst (v := 0) hx hb dX2_many_39 (by decide) ?_
        refine lv_istore (lv' := [(4, .int 0), (3, .int 0), (0, .ref (md 0)), (1, .int p1), (2, .int p2)]) hx hb dX2_many_40 hl (by decide) rfl (fun ls hl => ?_)
        exact lp42 nu 0 _ _ _ _ (by omega) (by first | (simp only [um_maK, eq_false c_10, eq_false c_14, eq_true c_18, if_true, if_false]; done) | (simp [um_maK, c_10, c_14, c_18]; done)) hP hD hS (lv_sub hl [0, 1, 2, 3, 4] rfl)
      · exact absurd (by decide) c_18
    · refine lv_iconst (v := 1) hx hb dX2_many_23 (by decide) ?_
      refine lv_goto (tgt := 28) hx hb dX2_many_24 (by decide) ?_
      refine lv_iconst (v := 0) hx hb dX2_many_28 (by decide) ?_
      refine va_calli (va_runV (As := [.int 0, .int 1, .int 0]) (rest := []) ⟨hx, hb, hml, hown, htb⟩ (kt_X2_throwing l dC dI md cI H_11.size th nu nm sk G v 0 1 0) (cwV 3 htb (us_gV mw_504 mw_506 mw_20 mw_34 mw_507) rfl rfl rfl (by decide +kernel) ⟨Nat.le_of_ble_eq_true rfl, Nat.le_of_ble_eq_true rfl⟩) ⟨um_P_blind, va_recv hK hP (ci := 2) (q0 := 0) rfl rfl, fun U hU hW => ⟨rfl, um_P_at hP hK hD hU hW⟩⟩ rfl rfl hl.1 rfl (lv_room (Nat.le_of_ble_eq_true rfl)) dX2_many_29 ⟨Nat.le_of_ble_eq_true rfl, Nat.le_of_ble_eq_true rfl⟩) hS (fun q _ h => us_AA_le hS q h) (us_AA_le hS) (fun r_20 _ t_21 H_19 locs ht hvm hw hB hz1 hk1 hS => ?_)
      subst hw
      have hP := um_B_use ht hB
      have hD : va_D (us_AA (um_ads md) s.heap.size) (um_W md cI (um_th 0 1 0) nu nm sk G v) := us_D_of (by rw [um_W_adr, um_W_adr]) hD
      have hP : va_P (dC, dI) vwCl (um_W md cI (um_th 0 1 0) nu nm sk G v) H_19 := hP
      refine lv_if_eq (tgt := 37) hx hb dX2_many_32 (by decide) (fun c_22 => ?_) (fun c_22 => ?_)
      · exact absurd c_22 (by decide)
      · refine lv_iconst (v := 0) hx hb dX2_many_35 (by decide) ?_
        have hkv : um_maK p1 p2 = 2 := by first | (simp only [um_maK, eq_false c_10, eq_true c_14, eq_false c_22, if_true, if_false]; done) | (simp [um_maK, c_10, c_14, c_22]; done)
        have hsp : um_maK p1 p2 = 0 → 0 = um_many G L p2 p1 nu := by exact fun h9 => absurd (hkv.symm.trans h9) (by decide)
        exact W.iret (v := 0) hx hb hr (fun t ht hW => ⟨⟨0, v, rfl, hsp, um_B_of ht hP (by rw [hkv]; decide) rfl rfl rfl rfl rfl⟩, hS.F ht⟩) hS.2.2 dX2_many_36
  · refine lv_iconst (v := 1) hx hb dX2_many_11 (by decide) ?_
    refine lv_goto (tgt := 16) hx hb dX2_many_12 (by decide) ?_
    refine lv_iload_n hx hb dX2_many_16 rfl (lv_at hl 2 rfl) ?_
    refine va_calli (va_runS (As := [.int p2]) (rest := [.int 1, .ref (md 0)]) ⟨hx, hb, hml, hown, htb⟩ (kt_X2_isMinute l H_7.size p2) (cwS 1 htb (us_gS mw_516 mw_517 mw_34 mw_518) rfl rfl rfl (by decide +kernel) ⟨Nat.le_of_ble_eq_true rfl, Nat.le_of_ble_eq_true rfl⟩) ⟨us_blind0, fun U hU _ => ⟨rfl, congrArg Array.size hU⟩⟩ rfl rfl hl.1 rfl (lv_room (Nat.le_of_ble_eq_true rfl)) dX2_many_17 ⟨Nat.le_of_ble_eq_true rfl, Nat.le_of_ble_eq_true rfl⟩) hS (fun q h1 h2 => absurd h2 (Nat.not_le.mpr h1)) (fun q h => hA q (Nat.le_trans hS.1 h)) (fun r_24 _ t_25 H_23 locs ht hvm hw hB hz1 hk1 hS => ?_)
    subst hw
    have hP := us_mono hP (fun q h => hk1 q h (Nat.not_le.mpr h))
    refine lv_if_ne (tgt := 27) hx hb dX2_many_20 (by decide) (fun c_26 => ?_) (fun c_26 => ?_)
    · refine lv_iconst (v := 0) hx hb dX2_many_27 (by decide) ?_
      refine lv_iconst (v := 0) hx hb dX2_many_28 (by decide) ?_
      refine va_calli (va_runV (As := [.int 1, .int 0, .int 0]) (rest := []) ⟨hx, hb, hml, hown, htb⟩ (kt_X2_throwing l dC dI md cI H_23.size th nu nm sk G v 1 0 0) (cwV 3 htb (us_gV mw_504 mw_506 mw_20 mw_34 mw_507) rfl rfl rfl (by decide +kernel) ⟨Nat.le_of_ble_eq_true rfl, Nat.le_of_ble_eq_true rfl⟩) ⟨um_P_blind, va_recv hK hP (ci := 2) (q0 := 0) rfl rfl, fun U hU hW => ⟨rfl, um_P_at hP hK hD hU hW⟩⟩ rfl rfl hl.1 rfl (lv_room (Nat.le_of_ble_eq_true rfl)) dX2_many_29 ⟨Nat.le_of_ble_eq_true rfl, Nat.le_of_ble_eq_true rfl⟩) hS (fun q _ h => us_AA_le hS q h) (us_AA_le hS) (fun r_28 _ t_29 H_27 locs ht hvm hw hB hz1 hk1 hS => ?_)
      subst hw
      have hP := um_B_use ht hB
      have hD : va_D (us_AA (um_ads md) s.heap.size) (um_W md cI (um_th 1 0 0) nu nm sk G v) := us_D_of (by rw [um_W_adr, um_W_adr]) hD
      have hP : va_P (dC, dI) vwCl (um_W md cI (um_th 1 0 0) nu nm sk G v) H_27 := hP
      refine lv_if_eq (tgt := 37) hx hb dX2_many_32 (by decide) (fun c_30 => ?_) (fun c_30 => ?_)
      · exact absurd c_30 (by decide)
      · refine lv_iconst (v := 0) hx hb dX2_many_35 (by decide) ?_
        have hkv : um_maK p1 p2 = 1 := by first | (simp only [um_maK, eq_true c_10, eq_false c_26, eq_false c_30, if_true, if_false]; done) | (simp [um_maK, c_10, c_26, c_30]; done)
        have hsp : um_maK p1 p2 = 0 → 0 = um_many G L p2 p1 nu := by exact fun h9 => absurd (hkv.symm.trans h9) (by decide)
        exact W.iret (v := 0) hx hb hr (fun t ht hW => ⟨⟨0, v, rfl, hsp, um_B_of ht hP (by rw [hkv]; decide) rfl rfl rfl rfl rfl⟩, hS.F ht⟩) hS.2.2 dX2_many_36
    · refine lv_iconst (v := 1) hx hb dX2_many_23 (by decide) ?_
      refine lv_goto (tgt := 28) hx hb dX2_many_24 (by decide) ?_
      refine lv_iconst (v := 0) hx hb dX2_many_28 (by decide) ?_
      refine va_calli (va_runV (As := [.int 1, .int 1, .int 0]) (rest := []) ⟨hx, hb, hml, hown, htb⟩ (kt_X2_throwing l dC dI md cI H_23.size th nu nm sk G v 1 1 0) (cwV 3 htb (us_gV mw_504 mw_506 mw_20 mw_34 mw_507) rfl rfl rfl (by decide +kernel) ⟨Nat.le_of_ble_eq_true rfl, Nat.le_of_ble_eq_true rfl⟩) ⟨um_P_blind, va_recv hK hP (ci := 2) (q0 := 0) rfl rfl, fun U hU hW => ⟨rfl, um_P_at hP hK hD hU hW⟩⟩ rfl rfl hl.1 rfl (lv_room (Nat.le_of_ble_eq_true rfl)) dX2_many_29 ⟨Nat.le_of_ble_eq_true rfl, Nat.le_of_ble_eq_true rfl⟩) hS (fun q _ h => us_AA_le hS q h) (us_AA_le hS) (fun r_32 _ t_33 H_31 locs ht hvm hw hB hz1 hk1 hS => ?_)
      subst hw
      have hP := um_B_use ht hB
      have hD : va_D (us_AA (um_ads md) s.heap.size) (um_W md cI (um_th 1 1 0) nu nm sk G v) := us_D_of (by rw [um_W_adr, um_W_adr]) hD
      have hP : va_P (dC, dI) vwCl (um_W md cI (um_th 1 1 0) nu nm sk G v) H_31 := hP
      refine lv_if_eq (tgt := 37) hx hb dX2_many_32 (by decide) (fun c_34 => ?_) (fun c_34 => ?_)
      · exact absurd c_34 (by decide)
      · refine lv_iconst (v := 0) hx hb dX2_many_35 (by decide) ?_
        have hkv : um_maK p1 p2 = 1 := by first | (simp only [um_maK, eq_true c_10, eq_true c_26, eq_false c_34, if_true, if_false]; done) | (simp [um_maK, c_10, c_26, c_34]; done)
        have hsp : um_maK p1 p2 = 0 → 0 = um_many G L p2 p1 nu := by exact fun h9 => absurd (hkv.symm.trans h9) (by decide)
        exact W.iret (v := 0) hx hb hr (fun t ht hW => ⟨⟨0, v, rfl, hsp, um_B_of ht hP (by rw [hkv]; decide) rfl rfl rfl rfl rfl⟩, hS.F ht⟩) hS.2.2 dX2_many_36
set_option maxHeartbeats 8000000 in
set_option maxRecDepth 100000 in
theorem kt_X2_arrived (l : Launch) (dC : Nat → ClassId) (dI : Nat → Nat → Nat) (md : Nat → Nat) (cI : ClassId) (sz : Nat) (th : Int32) (nu nm : Nat) (sk : Int32) (G : Nat → Nat → Int32) (v : Nat → Int32) (p1 p2 p3 : Int32) (L : List Nat) (hnu : nu ≤ 30) (hnm : nm ≤ 200) (hL : um_ok G nm L) (hAr : ∀ (t : Int32) (j : Nat), j < nu → ¬ um_in (um_st G L t j 0) 3 5 = 0 → ∃ a, a < nm ∧ um_st G L t j 11 = nI a) : Met l yX2_arrived wsX2_arrived ({ frames := 5, cells := 0, slots := 0, locals := 118 }) (va_Pc [.ref (md 0), .int p1, .int p2, .int p3] (um_P dC dI md cI th nu nm sk G v sz)) (va_Qi (fun r (_ : Nat → Int32) => um_arK p1 p2 p3 = 0 → r = um_arr G L nu p3 p1 p2 nu 0) (fun v9 t => um_B dC dI md cI (um_arK p1 p2 p3) nu nm sk G v9 t) (us_AA (um_ads md) sz)) 0 0 (us_AA (um_ads md) sz) := by
  refine Met.ofW (cc := cX2_arrived) (maxL := 6) (ret := (some .int)) (by decide) rfl ?_
  intro p e s m args below meth c s₁ B hml hv
  obtain ⟨rfl, hsz, hP, hK, hD⟩ := hv
  have hx := B.exec
  have hb := B.bytes
  have hr := B.returns
  have htb := us_htb (atoms_spec (ws := wsX2_arrived) B.pre)
  have hown : s.vm.findClass RX2 = some m.cls := findClass_of_methodNamed B.named
  have hlocks := B.notSynchronized
  subst hsz
  have hA : ∀ q : Nat, s.heap.size ≤ q → (us_AA (um_ads md) s.heap.size) q := fun q h => Or.inr h
  have hS : va_S (us_AA (um_ads md) s.heap.size) s.heap s.heap [] := va_S.rf
  have hP : va_P (dC, dI) vwCl (um_W md cI th nu nm sk G v) s.heap := hP
  have hD : va_D (us_AA (um_ads md) s.heap.size) (um_W md cI th nu nm sk G v) := us_D_aa hD
  have hl := lv_entry ([.ref (md 0), .int p1, .int p2, .int p3]) (n := 6) (Nat.le_of_ble_eq_true rfl)
  rw [lg_entry_eq]
  generalize (lg_sl ([.ref (md 0), .int p1, .int p2, .int p3]) ++ List.replicate (6 - (lg_sl ([.ref (md 0), .int p1, .int p2, .int p3])).length) Slot.unset).toArray = ls at hl ⊢
  have hl : lv_has ls 6 [(0, .ref (md 0)), (1, .int p1), (2, .int p2), (3, .int p3)] := hl
  have lp45 : ∀ (n i : Nat) (w0 : Nat → Int32) (H : Heap) (locs : List Loc) (ls : Array Slot), i + n = nu → um_arr G L nu p3 p1 p2 n i = um_arr G L nu p3 p1 p2 nu 0 → um_arK p1 p2 p3 = 0 → va_P (dC, dI) vwCl (um_W md cI (um_th 0 0 0) nu nm sk G w0) H → va_D (us_AA (um_ads md) s.heap.size) (um_W md cI (um_th 0 0 0) nu nm sk G w0) → va_S (us_AA (um_ads md) s.heap.size) s.heap H locs → lv_has ls 6 [(4, .int (nI i)), (0, .ref (md 0)), (1, .int p1), (2, .int p2), (3, .int p3)] → W p l e (headSpec wsX2_arrived ({ frames := 5, cells := 0, slots := 0, locals := 118 })).room s m ([.ref (md 0), .int p1, .int p2, .int p3]).toArray below meth c H locs 0 0 (MQ below (va_Qi (fun r (_ : Nat → Int32) => um_arK p1 p2 p3 = 0 → r = um_arr G L nu p3 p1 p2 nu 0) (fun v9 t => um_B dC dI md cI (um_arK p1 p2 p3) nu nm sk G v9 t) (us_AA (um_ads md) s.heap.size)) ([.ref (md 0), .int p1, .int p2, .int p3]).toArray s 0 0 (us_AA (um_ads md) s.heap.size)) (F0 m 45 ls []) := by
    intro n
    induction n with
    | zero =>
      intro i w0 H locs ls hin hR hk0 hP hD hS hl
      have hie : i = nu := by omega
      refine lv_iload hx hb dX2_arrived_45 (lv_at hl 0 rfl) ?_
      refine lv_aload_n hx hb dX2_arrived_47 rfl (lv_at hl 1 rfl) ?_
      refine va_get (D := (dC, dI)) (ci := 2) (v := .int (nI nu)) (C := RX2) (T := TX2) (N := 23) hx hb htb us_inX2 hown hK hP 0 rfl rfl 1 (by decide) (htb _ mw_424) (fun _ h9 => h9) rfl dX2_arrived_48 ?_
      refine lv_icmp_ge (tgt := 119) hx hb dX2_arrived_51 (by decide) (fun c_1 => ?_) (fun c_1 => ?_)
      · refine lv_iconst (v := (-1)) hx hb dX2_arrived_119 (by decide) ?_
        have hkv : um_arK p1 p2 p3 = 0 := by exact hk0
        have hsp : um_arK p1 p2 p3 = 0 → (-1) = um_arr G L nu p3 p1 p2 nu 0 := by intro _; exact hR
        exact W.iret (v := (-1)) hx hb hr (fun t ht hW => ⟨⟨(-1), w0, rfl, hsp, um_B_of ht hP (by rw [hkv]; decide) rfl rfl rfl rfl rfl⟩, hS.F ht⟩) hS.2.2 dX2_arrived_120
      · exact absurd (nI_le (by omega) (by omega)) c_1
    | succ n ih =>
      intro i w0 H locs ls hin hR hk0 hP hD hS hl
      have hil : i < nu := by omega
      have hi3 : i < 30 := by omega
      refine lv_iload hx hb dX2_arrived_45 (lv_at hl 0 rfl) ?_
      refine lv_aload_n hx hb dX2_arrived_47 rfl (lv_at hl 1 rfl) ?_
      refine va_get (D := (dC, dI)) (ci := 2) (v := .int (nI nu)) (C := RX2) (T := TX2) (N := 23) hx hb htb us_inX2 hown hK hP 0 rfl rfl 1 (by decide) (htb _ mw_424) (fun _ h9 => h9) rfl dX2_arrived_48 ?_
      refine lv_icmp_ge (tgt := 119) hx hb dX2_arrived_51 (by decide) (fun c_2 => ?_) (fun c_2 => ?_)
      · exact absurd c_2 (nI_ge (by omega) (by omega))
      · refine lv_aload_n hx hb dX2_arrived_54 rfl (lv_at hl 1 rfl) ?_
        refine lv_iload hx hb dX2_arrived_55 (lv_at hl 0 rfl) ?_
        refine lv_iload_n hx hb dX2_arrived_57 rfl (lv_at hl 4 rfl) ?_
        refine lv_iconst (v := (-1)) hx hb dX2_arrived_58 (by decide) ?_
        refine va_callv (va_runV (As := [.int (nI i), .int p3, .int (-1)]) (rest := []) ⟨hx, hb, hml, hown, htb⟩ (kt_X2_follow l dC dI md cI H.size (um_th 0 0 0) nu nm sk G w0 i p3 L hi3 hnm hL) (cwV 3 htb (us_gV mw_532 mw_534 mw_23 mw_34 mw_535) rfl rfl rfl (by decide +kernel) ⟨Nat.le_of_ble_eq_true rfl, Nat.le_of_ble_eq_true rfl⟩) ⟨um_P_blind, va_recv hK hP (ci := 2) (q0 := 0) rfl rfl, fun U hU hW => ⟨rfl, um_P_at hP hK hD hU hW⟩⟩ rfl rfl hl.1 rfl (lv_room (Nat.le_of_ble_eq_true rfl)) dX2_arrived_59 ⟨Nat.le_of_ble_eq_true rfl, Nat.le_of_ble_eq_true rfl⟩) hS (fun q _ h => us_AA_le hS q h) (us_AA_le hS) (fun _ t_5 H_3 locs ht hvm hw hB hz1 hk1 hS => ?_)
        have hP := um_B_use ht hB
        have hD : va_D (us_AA (um_ads md) s.heap.size) (um_W md cI (um_th 0 0 0) nu nm sk G (um_fol G L i p3 w0)) := us_D_of (by rw [um_W_adr, um_W_adr]) hD
        have hP : va_P (dC, dI) vwCl (um_W md cI (um_th 0 0 0) nu nm sk G (um_fol G L i p3 w0)) H_3 := hP
        refine lv_aload_n hx hb dX2_arrived_62 rfl (lv_at hl 1 rfl) ?_
        refine um_get (x := (um_st G L p3 i 0)) hx hb htb us_inX2 hown hK hP 0 (by decide) (htb _ mw_433) (um_fol_ag (by decide)) dX2_arrived_63 ?_
        refine lv_iconst (v := 3) hx hb dX2_arrived_66 (by decide) ?_
        refine lv_iconst (v := 5) hx hb dX2_arrived_67 (by decide) ?_
        refine va_calli (va_runS (As := [.int (um_st G L p3 i 0), .int 3, .int 5]) (rest := []) ⟨hx, hb, hml, hown, htb⟩ (kt_X2_in l H_3.size (um_st G L p3 i 0) 3 5) (cwS 3 htb (us_gS mw_501 mw_502 mw_34 mw_503) rfl rfl rfl (by decide +kernel) ⟨Nat.le_of_ble_eq_true rfl, Nat.le_of_ble_eq_true rfl⟩) ⟨us_blind0, fun U hU _ => ⟨rfl, congrArg Array.size hU⟩⟩ rfl rfl hl.1 rfl (lv_room (Nat.le_of_ble_eq_true rfl)) dX2_arrived_68 ⟨Nat.le_of_ble_eq_true rfl, Nat.le_of_ble_eq_true rfl⟩) hS (fun q h1 h2 => absurd h2 (Nat.not_le.mpr h1)) (fun q h => hA q (Nat.le_trans hS.1 h)) (fun r_7 _ t_8 H_6 locs ht hvm hw hB hz1 hk1 hS => ?_)
        subst hw
        have hP := us_mono hP (fun q h => hk1 q h (Nat.not_le.mpr h))
        refine lv_if_eq (tgt := 86) hx hb dX2_arrived_71 (by decide) (fun c_9 => ?_) (fun c_9 => ?_)
        · refine lv_iconst (v := 0) hx hb dX2_arrived_86 (by decide) ?_
          refine lv_istore (lv' := [(5, .int 0), (4, .int (nI i)), (0, .ref (md 0)), (1, .int p1), (2, .int p2), (3, .int p3)]) hx hb dX2_arrived_87 hl (by decide) rfl (fun ls hl => ?_)
          refine lv_iload hx hb dX2_arrived_89 (lv_at hl 0 rfl) ?_
          refine lv_if_eq (tgt := 113) hx hb dX2_arrived_91 (by decide) (fun c_10 => ?_) (fun c_10 => ?_)
          · refine lv_iinc (v := (nI (i + 1))) (lv' := [(4, .int (nI (i + 1))), (5, .int 0), (0, .ref (md 0)), (1, .int p1), (2, .int p2), (3, .int p3)]) hx hb dX2_arrived_113 hl (k := 1) rfl (nI_1 i) (by decide) rfl (fun ls hl => ?_)
            refine lv_goto (tgt := 45) hx hb dX2_arrived_116 (by decide) ?_
            have e8 : um_there (um_st G L p3 i) p1 = 0 := (by simp only [um_there, eq_true c_9, eq_true c_10, if_true, if_false])
            have e9 : um_arr G L nu p3 p1 p2 (n + 1) i = um_arr G L nu p3 p1 p2 n (i + 1) := by rw [um_arr, if_pos e8]
            exact ih (i + 1) _ _ _ _ (by omega) (by rw [← e9]; exact hR) hk0 hP hD hS (lv_sub hl [0, 2, 3, 4, 5] rfl)
          · exact absurd (by decide) c_10
        · refine lv_aload_n hx hb dX2_arrived_74 rfl (lv_at hl 1 rfl) ?_
          refine um_get (x := (um_st G L p3 i 3)) hx hb htb us_inX2 hown hK hP 3 (by decide) (htb _ mw_436) (um_fol_ag (by decide)) dX2_arrived_75 ?_
          refine lv_iload_n hx hb dX2_arrived_78 rfl (lv_at hl 2 rfl) ?_
          refine lv_icmp_ne (tgt := 86) hx hb dX2_arrived_79 (by decide) (fun c_11 => ?_) (fun c_11 => ?_)
          · refine lv_iconst (v := 0) hx hb dX2_arrived_86 (by decide) ?_
            refine lv_istore (lv' := [(5, .int 0), (4, .int (nI i)), (0, .ref (md 0)), (1, .int p1), (2, .int p2), (3, .int p3)]) hx hb dX2_arrived_87 hl (by decide) rfl (fun ls hl => ?_)
            refine lv_iload hx hb dX2_arrived_89 (lv_at hl 0 rfl) ?_
            refine lv_if_eq (tgt := 113) hx hb dX2_arrived_91 (by decide) (fun c_12 => ?_) (fun c_12 => ?_)
            · refine lv_iinc (v := (nI (i + 1))) (lv' := [(4, .int (nI (i + 1))), (5, .int 0), (0, .ref (md 0)), (1, .int p1), (2, .int p2), (3, .int p3)]) hx hb dX2_arrived_113 hl (k := 1) rfl (nI_1 i) (by decide) rfl (fun ls hl => ?_)
              refine lv_goto (tgt := 45) hx hb dX2_arrived_116 (by decide) ?_
              have e8 : um_there (um_st G L p3 i) p1 = 0 := (by simp only [um_there, eq_false c_9, eq_false c_11, eq_true c_12, if_true, if_false])
              have e9 : um_arr G L nu p3 p1 p2 (n + 1) i = um_arr G L nu p3 p1 p2 n (i + 1) := by rw [um_arr, if_pos e8]
              exact ih (i + 1) _ _ _ _ (by omega) (by rw [← e9]; exact hR) hk0 hP hD hS (lv_sub hl [0, 2, 3, 4, 5] rfl)
            · exact absurd (by decide) c_12
          · refine lv_iconst (v := 1) hx hb dX2_arrived_82 (by decide) ?_
            refine lv_goto (tgt := 87) hx hb dX2_arrived_83 (by decide) ?_
            refine lv_istore (lv' := [(5, .int 1), (4, .int (nI i)), (0, .ref (md 0)), (1, .int p1), (2, .int p2), (3, .int p3)]) hx hb dX2_arrived_87 hl (by decide) rfl (fun ls hl => ?_)
            refine lv_iload hx hb dX2_arrived_89 (lv_at hl 0 rfl) ?_
            refine lv_if_eq (tgt := 113) hx hb dX2_arrived_91 (by decide) (fun c_13 => ?_) (fun c_13 => ?_)
            · exact absurd c_13 (by decide)
            · refine lv_aload_n hx hb dX2_arrived_94 rfl (lv_at hl 2 rfl) ?_
              refine lv_iload_n hx hb dX2_arrived_95 rfl (lv_at hl 3 rfl) ?_
              refine lv_aload_n hx hb dX2_arrived_96 rfl (lv_at hl 2 rfl) ?_
              refine um_get (x := (um_st G L p3 i 11)) hx hb htb us_inX2 hown hK hP 11 (by decide) (htb _ mw_444) (um_fol_ag (by decide)) dX2_arrived_97 ?_
              refine lv_iload_n hx hb dX2_arrived_100 rfl (lv_at hl 5 rfl) ?_
              refine va_calli (va_runV (As := [.int p1, .int (um_st G L p3 i 11), .int p3]) (rest := []) ⟨hx, hb, hml, hown, htb⟩ (kt_X2_ahead l dC dI md cI H_6.size (um_th 0 0 0) nu nm sk G (um_fol G L i p3 w0) p1 (um_st G L p3 i 11) p3 L hnu hnm hL hAr (hAr p3 i hil c_9)) (cwV 3 htb (us_gV mw_555 mw_557 mw_28 mw_34 mw_558) rfl rfl rfl (by decide +kernel) ⟨Nat.le_of_ble_eq_true rfl, Nat.le_of_ble_eq_true rfl⟩) ⟨um_P_blind, va_recv hK hP (ci := 2) (q0 := 0) rfl rfl, fun U hU hW => ⟨rfl, um_P_at hP hK hD hU hW⟩⟩ rfl rfl hl.1 rfl (lv_room (Nat.le_of_ble_eq_true rfl)) dX2_arrived_101 ⟨Nat.le_of_ble_eq_true rfl, Nat.le_of_ble_eq_true rfl⟩) hS (fun q _ h => us_AA_le hS q h) (us_AA_le hS) (fun r_15 v_17 t_16 H_14 locs ht hvm hw hB hz1 hk1 hS => ?_)
              subst hw
              have hP := um_B_use ht hB
              have hD : va_D (us_AA (um_ads md) s.heap.size) (um_W md cI (um_th 0 0 0) nu nm sk G v_17) := us_D_of (by rw [um_W_adr, um_W_adr]) hD
              have hP : va_P (dC, dI) vwCl (um_W md cI (um_th 0 0 0) nu nm sk G v_17) H_14 := hP
              refine lv_iload_n hx hb dX2_arrived_104 rfl (lv_at hl 4 rfl) ?_
              refine lv_iconst (v := 1) hx hb dX2_arrived_105 (by decide) ?_
              refine lv_isub hx hb dX2_arrived_106 ?_
              refine lv_icmp_ne (tgt := 113) hx hb dX2_arrived_107 (by decide) (fun c_18 => ?_) (fun c_18 => ?_)
              · refine lv_iinc (v := (nI (i + 1))) (lv' := [(4, .int (nI (i + 1))), (5, .int 1), (0, .ref (md 0)), (1, .int p1), (2, .int p2), (3, .int p3)]) hx hb dX2_arrived_113 hl (k := 1) rfl (nI_1 i) (by decide) rfl (fun ls hl => ?_)
                refine lv_goto (tgt := 45) hx hb dX2_arrived_116 (by decide) ?_
                have e8 : um_there (um_st G L p3 i) p1 = 1 := (by simp only [um_there, eq_false c_9, eq_true c_11, eq_false c_13, eq_false c_18, if_true, if_false])
                have e9 : um_arr G L nu p3 p1 p2 (n + 1) i = um_arr G L nu p3 p1 p2 n (i + 1) := by rw [um_arr, if_neg (by rw [e8]; decide), if_neg c_18]
                exact ih (i + 1) _ _ _ _ (by omega) (by rw [← e9]; exact hR) hk0 hP hD hS (lv_sub hl [0, 2, 3, 4, 5] rfl)
              · refine lv_iload hx hb dX2_arrived_110 (lv_at hl 1 rfl) ?_
                have hkv : um_arK p1 p2 p3 = 0 := by exact hk0
                have hsp : um_arK p1 p2 p3 = 0 → (nI i) = um_arr G L nu p3 p1 p2 nu 0 := by intro _; have e8 : um_there (um_st G L p3 i) p1 = 1 := (by simp only [um_there, eq_false c_9, eq_true c_11, eq_false c_13, eq_true c_18, if_true, if_false]); rw [← hR, um_arr, if_neg (by rw [e8]; decide), if_pos c_18]
                exact W.iret (v := (nI i)) hx hb hr (fun t ht hW => ⟨⟨(nI i), v_17, rfl, hsp, um_B_of ht hP (by rw [hkv]; decide) rfl rfl rfl rfl rfl⟩, hS.F ht⟩) hS.2.2 dX2_arrived_112
  refine lv_aload_n hx hb dX2_arrived_0 rfl (lv_at hl 0 rfl) ?_
  refine lv_iload_n hx hb dX2_arrived_1 rfl (lv_at hl 1 rfl) ?_
  refine lv_iconst (v := 0) hx hb dX2_arrived_2 (by decide) ?_
  refine lv_bipush (v := 19) hx hb dX2_arrived_3 (by decide) ?_
  refine va_calli (va_runS (As := [.int p1, .int 0, .int 19]) (rest := [.ref (md 0)]) ⟨hx, hb, hml, hown, htb⟩ (kt_X2_in l s.heap.size p1 0 19) (cwS 3 htb (us_gS mw_501 mw_502 mw_34 mw_503) rfl rfl rfl (by decide +kernel) ⟨Nat.le_of_ble_eq_true rfl, Nat.le_of_ble_eq_true rfl⟩) ⟨us_blind0, fun U hU _ => ⟨rfl, congrArg Array.size hU⟩⟩ rfl rfl hl.1 rfl (lv_room (Nat.le_of_ble_eq_true rfl)) dX2_arrived_5 ⟨Nat.le_of_ble_eq_true rfl, Nat.le_of_ble_eq_true rfl⟩) hS (fun q h1 h2 => absurd h2 (Nat.not_le.mpr h1)) (fun q h => hA q (Nat.le_trans hS.1 h)) (fun r_20 _ t_21 H_19 locs ht hvm hw hB hz1 hk1 hS => ?_)
  subst hw
  have hP := us_mono hP (fun q h => hk1 q h (Nat.not_le.mpr h))
  refine lv_if_ne (tgt := 15) hx hb dX2_arrived_8 (by decide) (fun c_22 => ?_) (fun c_22 => ?_)
  · refine lv_iconst (v := 0) hx hb dX2_arrived_15 (by decide) ?_
    refine lv_iload_n hx hb dX2_arrived_16 rfl (lv_at hl 2 rfl) ?_
    refine lv_iconst (v := 1) hx hb dX2_arrived_17 (by decide) ?_
    refine lv_icmp_lt (tgt := 28) hx hb dX2_arrived_18 (by decide) (fun c_23 => ?_) (fun c_23 => ?_)
    · refine lv_iconst (v := 1) hx hb dX2_arrived_28 (by decide) ?_
      refine lv_goto (tgt := 33) hx hb dX2_arrived_29 (by decide) ?_
      refine lv_iconst (v := 0) hx hb dX2_arrived_33 (by decide) ?_
      refine va_calli (va_runV (As := [.int 0, .int 1, .int 0]) (rest := []) ⟨hx, hb, hml, hown, htb⟩ (kt_X2_throwing l dC dI md cI H_19.size th nu nm sk G v 0 1 0) (cwV 3 htb (us_gV mw_504 mw_506 mw_20 mw_34 mw_507) rfl rfl rfl (by decide +kernel) ⟨Nat.le_of_ble_eq_true rfl, Nat.le_of_ble_eq_true rfl⟩) ⟨um_P_blind, va_recv hK hP (ci := 2) (q0 := 0) rfl rfl, fun U hU hW => ⟨rfl, um_P_at hP hK hD hU hW⟩⟩ rfl rfl hl.1 rfl (lv_room (Nat.le_of_ble_eq_true rfl)) dX2_arrived_34 ⟨Nat.le_of_ble_eq_true rfl, Nat.le_of_ble_eq_true rfl⟩) hS (fun q _ h => us_AA_le hS q h) (us_AA_le hS) (fun r_25 _ t_26 H_24 locs ht hvm hw hB hz1 hk1 hS => ?_)
      subst hw
      have hP := um_B_use ht hB
      have hD : va_D (us_AA (um_ads md) s.heap.size) (um_W md cI (um_th 0 1 0) nu nm sk G v) := us_D_of (by rw [um_W_adr, um_W_adr]) hD
      have hP : va_P (dC, dI) vwCl (um_W md cI (um_th 0 1 0) nu nm sk G v) H_24 := hP
      refine lv_if_eq (tgt := 42) hx hb dX2_arrived_37 (by decide) (fun c_27 => ?_) (fun c_27 => ?_)
      · exact absurd c_27 (by decide)
      · refine lv_iconst (v := 0) hx hb dX2_arrived_40 (by decide) ?_
        have hkv : um_arK p1 p2 p3 = 2 := by first | (simp only [um_arK, eq_false c_22, eq_true c_23, eq_false c_27, if_true, if_false]; done) | (simp [um_arK, c_22, c_23, c_27]; done)
        have hsp : um_arK p1 p2 p3 = 0 → 0 = um_arr G L nu p3 p1 p2 nu 0 := by exact fun h9 => absurd (hkv.symm.trans h9) (by decide)
        exact W.iret (v := 0) hx hb hr (fun t ht hW => ⟨⟨0, v, rfl, hsp, um_B_of ht hP (by rw [hkv]; decide) rfl rfl rfl rfl rfl⟩, hS.F ht⟩) hS.2.2 dX2_arrived_41
    · refine lv_iload_n hx hb dX2_arrived_21 rfl (lv_at hl 3 rfl) ?_
      refine va_calli (va_runS (As := [.int p3]) (rest := [.int 0, .ref (md 0)]) ⟨hx, hb, hml, hown, htb⟩ (kt_X2_isMinute l H_19.size p3) (cwS 1 htb (us_gS mw_516 mw_517 mw_34 mw_518) rfl rfl rfl (by decide +kernel) ⟨Nat.le_of_ble_eq_true rfl, Nat.le_of_ble_eq_true rfl⟩) ⟨us_blind0, fun U hU _ => ⟨rfl, congrArg Array.size hU⟩⟩ rfl rfl hl.1 rfl (lv_room (Nat.le_of_ble_eq_true rfl)) dX2_arrived_22 ⟨Nat.le_of_ble_eq_true rfl, Nat.le_of_ble_eq_true rfl⟩) hS (fun q h1 h2 => absurd h2 (Nat.not_le.mpr h1)) (fun q h => hA q (Nat.le_trans hS.1 h)) (fun r_29 _ t_30 H_28 locs ht hvm hw hB hz1 hk1 hS => ?_)
      subst hw
      have hP := us_mono hP (fun q h => hk1 q h (Nat.not_le.mpr h))
      refine lv_if_ne (tgt := 32) hx hb dX2_arrived_25 (by decide) (fun c_31 => ?_) (fun c_31 => ?_)
      · refine lv_iconst (v := 0) hx hb dX2_arrived_32 (by decide) ?_
        refine lv_iconst (v := 0) hx hb dX2_arrived_33 (by decide) ?_
        refine va_calli (va_runV (As := [.int 0, .int 0, .int 0]) (rest := []) ⟨hx, hb, hml, hown, htb⟩ (kt_X2_throwing l dC dI md cI H_28.size th nu nm sk G v 0 0 0) (cwV 3 htb (us_gV mw_504 mw_506 mw_20 mw_34 mw_507) rfl rfl rfl (by decide +kernel) ⟨Nat.le_of_ble_eq_true rfl, Nat.le_of_ble_eq_true rfl⟩) ⟨um_P_blind, va_recv hK hP (ci := 2) (q0 := 0) rfl rfl, fun U hU hW => ⟨rfl, um_P_at hP hK hD hU hW⟩⟩ rfl rfl hl.1 rfl (lv_room (Nat.le_of_ble_eq_true rfl)) dX2_arrived_34 ⟨Nat.le_of_ble_eq_true rfl, Nat.le_of_ble_eq_true rfl⟩) hS (fun q _ h => us_AA_le hS q h) (us_AA_le hS) (fun r_33 _ t_34 H_32 locs ht hvm hw hB hz1 hk1 hS => ?_)
        subst hw
        have hP := um_B_use ht hB
        have hD : va_D (us_AA (um_ads md) s.heap.size) (um_W md cI (um_th 0 0 0) nu nm sk G v) := us_D_of (by rw [um_W_adr, um_W_adr]) hD
        have hP : va_P (dC, dI) vwCl (um_W md cI (um_th 0 0 0) nu nm sk G v) H_32 := hP
        refine lv_if_eq (tgt := 42) hx hb dX2_arrived_37 (by decide) (fun c_35 => ?_) (fun c_35 => ?_)
        · refine lv_iconst (v := 0) hx hb dX2_arrived_42 (by decide) ?_
          refine lv_istore (lv' := [(4, .int 0), (0, .ref (md 0)), (1, .int p1), (2, .int p2), (3, .int p3)]) hx hb dX2_arrived_43 hl (by decide) rfl (fun ls hl => ?_)
          exact lp45 nu 0 _ _ _ _ (by omega) rfl (by first | (simp only [um_arK, eq_false c_22, eq_false c_23, eq_false c_31, eq_true c_35, if_true, if_false]; done) | (simp [um_arK, c_22, c_23, c_31, c_35]; done)) hP hD hS (lv_sub hl [0, 1, 2, 3, 4] rfl)
        · exact absurd (by decide) c_35
      · refine lv_iconst (v := 1) hx hb dX2_arrived_28 (by decide) ?_
        refine lv_goto (tgt := 33) hx hb dX2_arrived_29 (by decide) ?_
        refine lv_iconst (v := 0) hx hb dX2_arrived_33 (by decide) ?_
        refine va_calli (va_runV (As := [.int 0, .int 1, .int 0]) (rest := []) ⟨hx, hb, hml, hown, htb⟩ (kt_X2_throwing l dC dI md cI H_28.size th nu nm sk G v 0 1 0) (cwV 3 htb (us_gV mw_504 mw_506 mw_20 mw_34 mw_507) rfl rfl rfl (by decide +kernel) ⟨Nat.le_of_ble_eq_true rfl, Nat.le_of_ble_eq_true rfl⟩) ⟨um_P_blind, va_recv hK hP (ci := 2) (q0 := 0) rfl rfl, fun U hU hW => ⟨rfl, um_P_at hP hK hD hU hW⟩⟩ rfl rfl hl.1 rfl (lv_room (Nat.le_of_ble_eq_true rfl)) dX2_arrived_34 ⟨Nat.le_of_ble_eq_true rfl, Nat.le_of_ble_eq_true rfl⟩) hS (fun q _ h => us_AA_le hS q h) (us_AA_le hS) (fun r_37 _ t_38 H_36 locs ht hvm hw hB hz1 hk1 hS => ?_)
        subst hw
        have hP := um_B_use ht hB
        have hD : va_D (us_AA (um_ads md) s.heap.size) (um_W md cI (um_th 0 1 0) nu nm sk G v) := us_D_of (by rw [um_W_adr, um_W_adr]) hD
        have hP : va_P (dC, dI) vwCl (um_W md cI (um_th 0 1 0) nu nm sk G v) H_36 := hP
        refine lv_if_eq (tgt := 42) hx hb dX2_arrived_37 (by decide) (fun c_39 => ?_) (fun c_39 => ?_)
        · exact absurd c_39 (by decide)
        · refine lv_iconst (v := 0) hx hb dX2_arrived_40 (by decide) ?_
          have hkv : um_arK p1 p2 p3 = 2 := by first | (simp only [um_arK, eq_false c_22, eq_false c_23, eq_true c_31, eq_false c_39, if_true, if_false]; done) | (simp [um_arK, c_22, c_23, c_31, c_39]; done)
          have hsp : um_arK p1 p2 p3 = 0 → 0 = um_arr G L nu p3 p1 p2 nu 0 := by exact fun h9 => absurd (hkv.symm.trans h9) (by decide)
          exact W.iret (v := 0) hx hb hr (fun t ht hW => ⟨⟨0, v, rfl, hsp, um_B_of ht hP (by rw [hkv]; decide) rfl rfl rfl rfl rfl⟩, hS.F ht⟩) hS.2.2 dX2_arrived_41
  · refine lv_iconst (v := 1) hx hb dX2_arrived_11 (by decide) ?_
    refine lv_goto (tgt := 16) hx hb dX2_arrived_12 (by decide) ?_
    refine lv_iload_n hx hb dX2_arrived_16 rfl (lv_at hl 2 rfl) ?_
    refine lv_iconst (v := 1) hx hb dX2_arrived_17 (by decide) ?_
    refine lv_icmp_lt (tgt := 28) hx hb dX2_arrived_18 (by decide) (fun c_40 => ?_) (fun c_40 => ?_)
    · refine lv_iconst (v := 1) hx hb dX2_arrived_28 (by decide) ?_
      refine lv_goto (tgt := 33) hx hb dX2_arrived_29 (by decide) ?_
      refine lv_iconst (v := 0) hx hb dX2_arrived_33 (by decide) ?_
      refine va_calli (va_runV (As := [.int 1, .int 1, .int 0]) (rest := []) ⟨hx, hb, hml, hown, htb⟩ (kt_X2_throwing l dC dI md cI H_19.size th nu nm sk G v 1 1 0) (cwV 3 htb (us_gV mw_504 mw_506 mw_20 mw_34 mw_507) rfl rfl rfl (by decide +kernel) ⟨Nat.le_of_ble_eq_true rfl, Nat.le_of_ble_eq_true rfl⟩) ⟨um_P_blind, va_recv hK hP (ci := 2) (q0 := 0) rfl rfl, fun U hU hW => ⟨rfl, um_P_at hP hK hD hU hW⟩⟩ rfl rfl hl.1 rfl (lv_room (Nat.le_of_ble_eq_true rfl)) dX2_arrived_34 ⟨Nat.le_of_ble_eq_true rfl, Nat.le_of_ble_eq_true rfl⟩) hS (fun q _ h => us_AA_le hS q h) (us_AA_le hS) (fun r_42 _ t_43 H_41 locs ht hvm hw hB hz1 hk1 hS => ?_)
      subst hw
      have hP := um_B_use ht hB
      have hD : va_D (us_AA (um_ads md) s.heap.size) (um_W md cI (um_th 1 1 0) nu nm sk G v) := us_D_of (by rw [um_W_adr, um_W_adr]) hD
      have hP : va_P (dC, dI) vwCl (um_W md cI (um_th 1 1 0) nu nm sk G v) H_41 := hP
      refine lv_if_eq (tgt := 42) hx hb dX2_arrived_37 (by decide) (fun c_44 => ?_) (fun c_44 => ?_)
      · exact absurd c_44 (by decide)
      · refine lv_iconst (v := 0) hx hb dX2_arrived_40 (by decide) ?_
        have hkv : um_arK p1 p2 p3 = 1 := by first | (simp only [um_arK, eq_true c_22, eq_true c_40, eq_false c_44, if_true, if_false]; done) | (simp [um_arK, c_22, c_40, c_44]; done)
        have hsp : um_arK p1 p2 p3 = 0 → 0 = um_arr G L nu p3 p1 p2 nu 0 := by exact fun h9 => absurd (hkv.symm.trans h9) (by decide)
        exact W.iret (v := 0) hx hb hr (fun t ht hW => ⟨⟨0, v, rfl, hsp, um_B_of ht hP (by rw [hkv]; decide) rfl rfl rfl rfl rfl⟩, hS.F ht⟩) hS.2.2 dX2_arrived_41
    · refine lv_iload_n hx hb dX2_arrived_21 rfl (lv_at hl 3 rfl) ?_
      refine va_calli (va_runS (As := [.int p3]) (rest := [.int 1, .ref (md 0)]) ⟨hx, hb, hml, hown, htb⟩ (kt_X2_isMinute l H_19.size p3) (cwS 1 htb (us_gS mw_516 mw_517 mw_34 mw_518) rfl rfl rfl (by decide +kernel) ⟨Nat.le_of_ble_eq_true rfl, Nat.le_of_ble_eq_true rfl⟩) ⟨us_blind0, fun U hU _ => ⟨rfl, congrArg Array.size hU⟩⟩ rfl rfl hl.1 rfl (lv_room (Nat.le_of_ble_eq_true rfl)) dX2_arrived_22 ⟨Nat.le_of_ble_eq_true rfl, Nat.le_of_ble_eq_true rfl⟩) hS (fun q h1 h2 => absurd h2 (Nat.not_le.mpr h1)) (fun q h => hA q (Nat.le_trans hS.1 h)) (fun r_46 _ t_47 H_45 locs ht hvm hw hB hz1 hk1 hS => ?_)
      subst hw
      have hP := us_mono hP (fun q h => hk1 q h (Nat.not_le.mpr h))
      refine lv_if_ne (tgt := 32) hx hb dX2_arrived_25 (by decide) (fun c_48 => ?_) (fun c_48 => ?_)
      · refine lv_iconst (v := 0) hx hb dX2_arrived_32 (by decide) ?_
        refine lv_iconst (v := 0) hx hb dX2_arrived_33 (by decide) ?_
        refine va_calli (va_runV (As := [.int 1, .int 0, .int 0]) (rest := []) ⟨hx, hb, hml, hown, htb⟩ (kt_X2_throwing l dC dI md cI H_45.size th nu nm sk G v 1 0 0) (cwV 3 htb (us_gV mw_504 mw_506 mw_20 mw_34 mw_507) rfl rfl rfl (by decide +kernel) ⟨Nat.le_of_ble_eq_true rfl, Nat.le_of_ble_eq_true rfl⟩) ⟨um_P_blind, va_recv hK hP (ci := 2) (q0 := 0) rfl rfl, fun U hU hW => ⟨rfl, um_P_at hP hK hD hU hW⟩⟩ rfl rfl hl.1 rfl (lv_room (Nat.le_of_ble_eq_true rfl)) dX2_arrived_34 ⟨Nat.le_of_ble_eq_true rfl, Nat.le_of_ble_eq_true rfl⟩) hS (fun q _ h => us_AA_le hS q h) (us_AA_le hS) (fun r_50 _ t_51 H_49 locs ht hvm hw hB hz1 hk1 hS => ?_)
        subst hw
        have hP := um_B_use ht hB
        have hD : va_D (us_AA (um_ads md) s.heap.size) (um_W md cI (um_th 1 0 0) nu nm sk G v) := us_D_of (by rw [um_W_adr, um_W_adr]) hD
        have hP : va_P (dC, dI) vwCl (um_W md cI (um_th 1 0 0) nu nm sk G v) H_49 := hP
        refine lv_if_eq (tgt := 42) hx hb dX2_arrived_37 (by decide) (fun c_52 => ?_) (fun c_52 => ?_)
        · exact absurd c_52 (by decide)
        · refine lv_iconst (v := 0) hx hb dX2_arrived_40 (by decide) ?_
          have hkv : um_arK p1 p2 p3 = 1 := by first | (simp only [um_arK, eq_true c_22, eq_false c_40, eq_false c_48, eq_false c_52, if_true, if_false]; done) | (simp [um_arK, c_22, c_40, c_48, c_52]; done)
          have hsp : um_arK p1 p2 p3 = 0 → 0 = um_arr G L nu p3 p1 p2 nu 0 := by exact fun h9 => absurd (hkv.symm.trans h9) (by decide)
          exact W.iret (v := 0) hx hb hr (fun t ht hW => ⟨⟨0, v, rfl, hsp, um_B_of ht hP (by rw [hkv]; decide) rfl rfl rfl rfl rfl⟩, hS.F ht⟩) hS.2.2 dX2_arrived_41
      · refine lv_iconst (v := 1) hx hb dX2_arrived_28 (by decide) ?_
        refine lv_goto (tgt := 33) hx hb dX2_arrived_29 (by decide) ?_
        refine lv_iconst (v := 0) hx hb dX2_arrived_33 (by decide) ?_
        refine va_calli (va_runV (As := [.int 1, .int 1, .int 0]) (rest := []) ⟨hx, hb, hml, hown, htb⟩ (kt_X2_throwing l dC dI md cI H_45.size th nu nm sk G v 1 1 0) (cwV 3 htb (us_gV mw_504 mw_506 mw_20 mw_34 mw_507) rfl rfl rfl (by decide +kernel) ⟨Nat.le_of_ble_eq_true rfl, Nat.le_of_ble_eq_true rfl⟩) ⟨um_P_blind, va_recv hK hP (ci := 2) (q0 := 0) rfl rfl, fun U hU hW => ⟨rfl, um_P_at hP hK hD hU hW⟩⟩ rfl rfl hl.1 rfl (lv_room (Nat.le_of_ble_eq_true rfl)) dX2_arrived_34 ⟨Nat.le_of_ble_eq_true rfl, Nat.le_of_ble_eq_true rfl⟩) hS (fun q _ h => us_AA_le hS q h) (us_AA_le hS) (fun r_54 _ t_55 H_53 locs ht hvm hw hB hz1 hk1 hS => ?_)
        subst hw
        have hP := um_B_use ht hB
        have hD : va_D (us_AA (um_ads md) s.heap.size) (um_W md cI (um_th 1 1 0) nu nm sk G v) := us_D_of (by rw [um_W_adr, um_W_adr]) hD
        have hP : va_P (dC, dI) vwCl (um_W md cI (um_th 1 1 0) nu nm sk G v) H_53 := hP
        refine lv_if_eq (tgt := 42) hx hb dX2_arrived_37 (by decide) (fun c_56 => ?_) (fun c_56 => ?_)
        · exact absurd c_56 (by decide)
        · refine lv_iconst (v := 0) hx hb dX2_arrived_40 (by decide) ?_
          have hkv : um_arK p1 p2 p3 = 1 := by first | (simp only [um_arK, eq_true c_22, eq_false c_40, eq_true c_48, eq_false c_56, if_true, if_false]; done) | (simp [um_arK, c_22, c_40, c_48, c_56]; done)
          have hsp : um_arK p1 p2 p3 = 0 → 0 = um_arr G L nu p3 p1 p2 nu 0 := by exact fun h9 => absurd (hkv.symm.trans h9) (by decide)
          exact W.iret (v := 0) hx hb hr (fun t ht hW => ⟨⟨0, v, rfl, hsp, um_B_of ht hP (by rw [hkv]; decide) rfl rfl rfl rfl rfl⟩, hS.F ht⟩) hS.2.2 dX2_arrived_41
set_option maxHeartbeats 8000000 in
set_option maxRecDepth 100000 in
theorem kt_X2_thrown (l : Launch) (dC : Nat → ClassId) (dI : Nat → Nat → Nat) (md : Nat → Nat) (cI : ClassId) (sz : Nat) (th : Int32) (nu nm : Nat) (sk : Int32) (G : Nat → Nat → Int32) (v : Nat → Int32) : Met l yX2_thrown wsX2_thrown ({ frames := 0, cells := 0, slots := 0, locals := 0 }) (va_Pc [.ref (md 0)] (um_P dC dI md cI th nu nm sk G v sz)) (va_Qi (fun r (_ : Unit) => r = th) (fun _ _ => True) (us_new sz)) 0 0 (us_new sz) := by
  refine Met.ofW (cc := cX2_thrown) (maxL := 1) (ret := (some .int)) (by decide) rfl ?_
  intro p e s m args below meth c s₁ B hml hv
  obtain ⟨rfl, hsz, hP, hK, hD⟩ := hv
  have hx := B.exec
  have hb := B.bytes
  have hr := B.returns
  have htb := us_htb (atoms_spec (ws := wsX2_thrown) B.pre)
  have hown : s.vm.findClass RX2 = some m.cls := findClass_of_methodNamed B.named
  have hlocks := B.notSynchronized
  subst hsz
  have hA : ∀ q : Nat, s.heap.size ≤ q → (us_new s.heap.size) q := fun q h => h
  have hS : va_S (us_new s.heap.size) s.heap s.heap [] := va_S.rf
  have hP : va_P (dC, dI) vwCl (um_W md cI th nu nm sk G v) s.heap := hP
  have hl := lv_entry ([.ref (md 0)]) (n := 1) (Nat.le_of_ble_eq_true rfl)
  rw [lg_entry_eq]
  generalize (lg_sl ([.ref (md 0)]) ++ List.replicate (1 - (lg_sl ([.ref (md 0)])).length) Slot.unset).toArray = ls at hl ⊢
  have hl : lv_has ls 1 [(0, .ref (md 0))] := hl
  refine lv_aload_n hx hb dX2_thrown_0 rfl (lv_at hl 0 rfl) ?_
  refine va_get (D := (dC, dI)) (ci := 2) (v := .int th) (C := RX2) (T := TX2) (N := 23) hx hb htb us_inX2 hown hK hP 0 rfl rfl 0 (by decide) (htb _ mw_423) (fun _ h9 => h9) rfl dX2_thrown_1 ?_
  have hsp : th = th := by rfl
  exact W.iret (v := th) hx hb hr (fun t ht hW => ⟨⟨th, (), rfl, hsp, trivial⟩, hS.F ht⟩) hS.2.2 dX2_thrown_4
