set_option maxHeartbeats 8000000 in
set_option maxRecDepth 100000 in
theorem kt_X2_in (l : Launch) (sz : Nat) (p1 : Int32) (p2 : Int32) (p3 : Int32) : Met l yX2_in wsX2_in ({ frames := 0, cells := 0, slots := 0, locals := 0 }) (va_Pc [.int p1, .int p2, .int p3] (fun S => S.heap.size = sz)) (va_Qi (fun r (_ : Unit) => r = um_in p1 p2 p3) (fun _ _ => True) (us_new sz)) 0 0 (us_new sz) := by
  refine Met.ofW (cc := cX2_in) (maxL := 3) (ret := (some .boolean)) (by decide) rfl ?_
  intro p e s m args below meth c s₁ B hml hv
  obtain ⟨rfl, hsz⟩ := hv
  have hx := B.exec
  have hb := B.bytes
  have hr := B.returns
  have htb := us_htb (atoms_spec (ws := wsX2_in) B.pre)
  have hown : s.vm.findClass RX2 = some m.cls := findClass_of_methodNamed B.named
  have hlocks := B.notSynchronized
  subst hsz
  have hA : ∀ q : Nat, s.heap.size ≤ q → (us_new s.heap.size) q := fun q h => h
  have hS : va_S (us_new s.heap.size) s.heap s.heap [] := va_S.rf
  have hl := lv_entry ([.int p1, .int p2, .int p3]) (n := 3) (Nat.le_of_ble_eq_true rfl)
  rw [lg_entry_eq]
  generalize (lg_sl ([.int p1, .int p2, .int p3]) ++ List.replicate (3 - (lg_sl ([.int p1, .int p2, .int p3])).length) Slot.unset).toArray = ls at hl ⊢
  have hl : lv_has ls 3 [(0, .int p1), (1, .int p2), (2, .int p3)] := hl
  refine lv_iload_n hx hb dX2_in_0 rfl (lv_at hl 0 rfl) ?_
  refine lv_iload_n hx hb dX2_in_1 rfl (lv_at hl 1 rfl) ?_
  refine lv_icmp_lt (tgt := 14) hx hb dX2_in_2 (by decide) (fun c_1 => ?_) (fun c_1 => ?_)
  · refine lv_iconst (v := 0) hx hb dX2_in_14 (by decide) ?_
    have hsp : 0 = um_in p1 p2 p3 := by first | (simp only [um_in, eq_true c_1, if_true, if_false]; done) | (simp [um_in, c_1]; done)
    exact W.zret (v := 0) hx hb hr (us_nz (by decide)) (fun t ht hW => ⟨⟨0, (), rfl, hsp, trivial⟩, hS.F ht⟩) hS.2.2 dX2_in_15
  · refine lv_iload_n hx hb dX2_in_5 rfl (lv_at hl 0 rfl) ?_
    refine lv_iload_n hx hb dX2_in_6 rfl (lv_at hl 2 rfl) ?_
    refine lv_icmp_gt (tgt := 14) hx hb dX2_in_7 (by decide) (fun c_2 => ?_) (fun c_2 => ?_)
    · refine lv_iconst (v := 0) hx hb dX2_in_14 (by decide) ?_
      have hsp : 0 = um_in p1 p2 p3 := by first | (simp only [um_in, eq_false c_1, eq_true c_2, if_true, if_false]; done) | (simp [um_in, c_1, c_2]; done)
      exact W.zret (v := 0) hx hb hr (us_nz (by decide)) (fun t ht hW => ⟨⟨0, (), rfl, hsp, trivial⟩, hS.F ht⟩) hS.2.2 dX2_in_15
    · refine lv_iconst (v := 1) hx hb dX2_in_10 (by decide) ?_
      refine lv_goto (tgt := 15) hx hb dX2_in_11 (by decide) ?_
      have hsp : 1 = um_in p1 p2 p3 := by first | (simp only [um_in, eq_false c_1, eq_false c_2, if_true, if_false]; done) | (simp [um_in, c_1, c_2]; done)
      exact W.zret (v := 1) hx hb hr (us_nz (by decide)) (fun t ht hW => ⟨⟨1, (), rfl, hsp, trivial⟩, hS.F ht⟩) hS.2.2 dX2_in_15
set_option maxHeartbeats 8000000 in
set_option maxRecDepth 100000 in
theorem kt_X2_isUnit (l : Launch) (dC : Nat → ClassId) (dI : Nat → Nat → Nat) (md : Nat → Nat) (cI : ClassId) (sz : Nat) (th : Int32) (nu nm : Nat) (sk : Int32) (G : Nat → Nat → Int32) (v : Nat → Int32) (p1 : Int32) : Met l yX2_isUnit wsX2_isUnit ({ frames := 1, cells := 0, slots := 0, locals := 22 }) (va_Pc [.ref (md 0), .int p1] (um_P dC dI md cI th nu nm sk G v sz)) (va_Qi (fun r (_ : Unit) => r = um_isU p1 nu) (fun _ _ => True) (us_new sz)) 0 0 (us_new sz) := by
  refine Met.ofW (cc := cX2_isUnit) (maxL := 2) (ret := (some .boolean)) (by decide) rfl ?_
  intro p e s m args below meth c s₁ B hml hv
  obtain ⟨rfl, hsz, hP, hK, hD⟩ := hv
  have hx := B.exec
  have hb := B.bytes
  have hr := B.returns
  have htb := us_htb (atoms_spec (ws := wsX2_isUnit) B.pre)
  have hown : s.vm.findClass RX2 = some m.cls := findClass_of_methodNamed B.named
  have hlocks := B.notSynchronized
  subst hsz
  have hA : ∀ q : Nat, s.heap.size ≤ q → (us_new s.heap.size) q := fun q h => h
  have hS : va_S (us_new s.heap.size) s.heap s.heap [] := va_S.rf
  have hP : va_P (dC, dI) vwCl (um_W md cI th nu nm sk G v) s.heap := hP
  have hl := lv_entry ([.ref (md 0), .int p1]) (n := 2) (Nat.le_of_ble_eq_true rfl)
  rw [lg_entry_eq]
  generalize (lg_sl ([.ref (md 0), .int p1]) ++ List.replicate (2 - (lg_sl ([.ref (md 0), .int p1])).length) Slot.unset).toArray = ls at hl ⊢
  have hl : lv_has ls 2 [(0, .ref (md 0)), (1, .int p1)] := hl
  refine lv_iload_n hx hb dX2_isUnit_0 rfl (lv_at hl 1 rfl) ?_
  refine lv_iconst (v := 0) hx hb dX2_isUnit_1 (by decide) ?_
  refine lv_aload_n hx hb dX2_isUnit_2 rfl (lv_at hl 0 rfl) ?_
  refine va_get (D := (dC, dI)) (ci := 2) (v := .int (nI nu)) (C := RX2) (T := TX2) (N := 23) hx hb htb us_inX2 hown hK hP 0 rfl rfl 1 (by decide) (htb _ mw_424) (fun _ h9 => h9) rfl dX2_isUnit_3 ?_
  refine lv_iconst (v := 1) hx hb dX2_isUnit_6 (by decide) ?_
  refine lv_isub hx hb dX2_isUnit_7 ?_
  refine va_calli (va_runS (As := [.int p1, .int 0, .int ((nI nu) - 1)]) (rest := []) ⟨hx, hb, hml, hown, htb⟩ (kt_X2_in l s.heap.size p1 0 ((nI nu) - 1)) (cwS 3 htb (us_gS mw_501 mw_502 mw_34 mw_503) rfl rfl rfl (by decide +kernel) ⟨Nat.le_of_ble_eq_true rfl, Nat.le_of_ble_eq_true rfl⟩) ⟨us_blind0, fun U hU _ => ⟨rfl, congrArg Array.size hU⟩⟩ rfl rfl hl.1 rfl (lv_room (Nat.le_of_ble_eq_true rfl)) dX2_isUnit_8 ⟨Nat.le_of_ble_eq_true rfl, Nat.le_of_ble_eq_true rfl⟩) hS (fun q h1 h2 => absurd h2 (Nat.not_le.mpr h1)) (fun q h => hA q (Nat.le_trans hS.1 h)) (fun r_2 _ t_3 H_1 locs ht hvm hw hB hz1 hk1 hS => ?_)
  subst hw
  have hP := us_mono hP (fun q h => hk1 q h (Nat.not_le.mpr h))
  have hsp : (um_in p1 0 ((nI nu) - 1)) = um_isU p1 nu := by rfl
  exact W.zret (v := (um_in p1 0 ((nI nu) - 1))) hx hb hr (us_nz (um_nz _ _ _)) (fun t ht hW => ⟨⟨(um_in p1 0 ((nI nu) - 1)), (), rfl, hsp, trivial⟩, hS.F ht⟩) hS.2.2 dX2_isUnit_11
set_option maxHeartbeats 8000000 in
set_option maxRecDepth 100000 in
theorem kt_X2_isMinute (l : Launch) (sz : Nat) (p1 : Int32) : Met l yX2_isMinute wsX2_isMinute ({ frames := 1, cells := 0, slots := 0, locals := 22 }) (va_Pc [.int p1] (fun S => S.heap.size = sz)) (va_Qi (fun r (_ : Unit) => r = um_in p1 0 99999) (fun _ _ => True) (us_new sz)) 0 0 (us_new sz) := by
  refine Met.ofW (cc := cX2_isMinute) (maxL := 1) (ret := (some .boolean)) (by decide) rfl ?_
  intro p e s m args below meth c s₁ B hml hv
  obtain ⟨rfl, hsz⟩ := hv
  have hx := B.exec
  have hb := B.bytes
  have hr := B.returns
  have htb := us_htb (atoms_spec (ws := wsX2_isMinute) B.pre)
  have hown : s.vm.findClass RX2 = some m.cls := findClass_of_methodNamed B.named
  have hlocks := B.notSynchronized
  subst hsz
  have hA : ∀ q : Nat, s.heap.size ≤ q → (us_new s.heap.size) q := fun q h => h
  have hS : va_S (us_new s.heap.size) s.heap s.heap [] := va_S.rf
  have hl := lv_entry ([.int p1]) (n := 1) (Nat.le_of_ble_eq_true rfl)
  rw [lg_entry_eq]
  generalize (lg_sl ([.int p1]) ++ List.replicate (1 - (lg_sl ([.int p1])).length) Slot.unset).toArray = ls at hl ⊢
  have hl : lv_has ls 1 [(0, .int p1)] := hl
  refine lv_iload_n hx hb dX2_isMinute_0 rfl (lv_at hl 0 rfl) ?_
  refine lv_iconst (v := 0) hx hb dX2_isMinute_1 (by decide) ?_
  refine lv_ldc (v := 99999) hx hb hown (htb _ mw_519) dX2_isMinute_2 ?_
  refine va_calli (va_runS (As := [.int p1, .int 0, .int 99999]) (rest := []) ⟨hx, hb, hml, hown, htb⟩ (kt_X2_in l s.heap.size p1 0 99999) (cwS 3 htb (us_gS mw_501 mw_502 mw_34 mw_503) rfl rfl rfl (by decide +kernel) ⟨Nat.le_of_ble_eq_true rfl, Nat.le_of_ble_eq_true rfl⟩) ⟨us_blind0, fun U hU _ => ⟨rfl, congrArg Array.size hU⟩⟩ rfl rfl hl.1 rfl (lv_room (Nat.le_of_ble_eq_true rfl)) dX2_isMinute_4 ⟨Nat.le_of_ble_eq_true rfl, Nat.le_of_ble_eq_true rfl⟩) hS (fun q h1 h2 => absurd h2 (Nat.not_le.mpr h1)) (fun q h => hA q (Nat.le_trans hS.1 h)) (fun r_2 _ t_3 H_1 locs ht hvm hw hB hz1 hk1 hS => ?_)
  subst hw
  have hsp : (um_in p1 0 99999) = um_in p1 0 99999 := by rfl
  exact W.zret (v := (um_in p1 0 99999)) hx hb hr (us_nz (um_nz _ _ _)) (fun t ht hW => ⟨⟨(um_in p1 0 99999), (), rfl, hsp, trivial⟩, hS.F ht⟩) hS.2.2 dX2_isMinute_7
set_option maxHeartbeats 8000000 in
set_option maxRecDepth 100000 in
theorem kt_X2_throwing (l : Launch) (dC : Nat → ClassId) (dI : Nat → Nat → Nat) (md : Nat → Nat) (cI : ClassId) (sz : Nat) (th : Int32) (nu nm : Nat) (sk : Int32) (G : Nat → Nat → Int32) (v : Nat → Int32) (p1 : Int32) (p2 : Int32) (p3 : Int32) : Met l yX2_throwing wsX2_throwing ({ frames := 0, cells := 0, slots := 0, locals := 0 }) (va_Pc [.ref (md 0), .int p1, .int p2, .int p3] (um_P dC dI md cI th nu nm sk G v sz)) (va_Qi (fun r (_ : Unit) => r = um_thr p1 p2 p3) (fun _ t => um_B dC dI md cI (um_th p1 p2 p3) nu nm sk G v t) (us_AA (um_ads md) sz)) 0 0 (us_AA (um_ads md) sz) := by
  refine Met.ofW (cc := cX2_throwing) (maxL := 4) (ret := (some .boolean)) (by decide) rfl ?_
  intro p e s m args below meth c s₁ B hml hv
  obtain ⟨rfl, hsz, hP, hK, hD⟩ := hv
  have hx := B.exec
  have hb := B.bytes
  have hr := B.returns
  have htb := us_htb (atoms_spec (ws := wsX2_throwing) B.pre)
  have hown : s.vm.findClass RX2 = some m.cls := findClass_of_methodNamed B.named
  have hlocks := B.notSynchronized
  subst hsz
  have hA : ∀ q : Nat, s.heap.size ≤ q → (us_AA (um_ads md) s.heap.size) q := fun q h => Or.inr h
  have hS : va_S (us_AA (um_ads md) s.heap.size) s.heap s.heap [] := va_S.rf
  have hP : va_P (dC, dI) vwCl (um_W md cI th nu nm sk G v) s.heap := hP
  have hD : va_D (us_AA (um_ads md) s.heap.size) (um_W md cI th nu nm sk G v) := us_D_aa hD
  have hl := lv_entry ([.ref (md 0), .int p1, .int p2, .int p3]) (n := 4) (Nat.le_of_ble_eq_true rfl)
  rw [lg_entry_eq]
  generalize (lg_sl ([.ref (md 0), .int p1, .int p2, .int p3]) ++ List.replicate (4 - (lg_sl ([.ref (md 0), .int p1, .int p2, .int p3])).length) Slot.unset).toArray = ls at hl ⊢
  have hl : lv_has ls 4 [(0, .ref (md 0)), (1, .int p1), (2, .int p2), (3, .int p3)] := hl
  refine lv_aload_n hx hb dX2_throwing_0 rfl (lv_at hl 0 rfl) ?_
  refine lv_iload_n hx hb dX2_throwing_1 rfl (lv_at hl 1 rfl) ?_
  refine lv_if_eq (tgt := 9) hx hb dX2_throwing_2 (by decide) (fun c_1 => ?_) (fun c_1 => ?_)
  · refine lv_iload_n hx hb dX2_throwing_9 rfl (lv_at hl 2 rfl) ?_
    refine lv_if_eq (tgt := 17) hx hb dX2_throwing_10 (by decide) (fun c_2 => ?_) (fun c_2 => ?_)
    · refine lv_iload_n hx hb dX2_throwing_17 rfl (lv_at hl 3 rfl) ?_
      refine lv_if_eq (tgt := 25) hx hb dX2_throwing_18 (by decide) (fun c_3 => ?_) (fun c_3 => ?_)
      · refine lv_iconst (v := 0) hx hb dX2_throwing_25 (by decide) ?_
        refine va_put (D := (dC, dI)) (ci := 2) (v := .int 0) (ty := .int) (C := RX2) (T := TX2) (N := 23) hx hb htb us_inX2 tyX2 tyX2_ok nmX2 hown hK hP hD hS 0 rfl rfl 0 (by decide) (htb _ mw_423) (fun _ h9 => h9) rfl (by decide +kernel) rfl rfl (Nat.le_of_ble_eq_true rfl) dX2_throwing_26 (fun H_4 locs hP hD hS => ?_)
        have hP : va_P (dC, dI) vwCl (um_W md cI 0 nu nm sk G v) H_4 := hP
        have hD : va_D (us_AA (um_ads md) s.heap.size) (um_W md cI 0 nu nm sk G v) := hD
        refine lv_aload_n hx hb dX2_throwing_29 rfl (lv_at hl 0 rfl) ?_
        refine va_get (D := (dC, dI)) (ci := 2) (v := .int 0) (C := RX2) (T := TX2) (N := 23) hx hb htb us_inX2 hown hK hP 0 rfl rfl 0 (by decide) (htb _ mw_423) (fun _ h9 => h9) rfl dX2_throwing_30 ?_
        refine lv_if_le (tgt := 40) hx hb dX2_throwing_33 (by decide) (fun c_5 => ?_) (fun c_5 => ?_)
        · refine lv_iconst (v := 0) hx hb dX2_throwing_40 (by decide) ?_
          have hsp : 0 = um_thr p1 p2 p3 := by first | (simp only [um_thr, um_th, eq_true c_1, eq_true c_2, eq_true c_3, eq_true c_5, if_true, if_false]; decide) | (simp [um_thr, um_th, c_1, c_2, c_3, c_5]; done)
          exact W.zret (v := 0) hx hb hr (us_nz (by decide)) (fun t ht hW => ⟨⟨0, (), rfl, hsp, um_B_of ht hP (by first | (simp only [um_th, eq_true c_1, eq_true c_2, eq_true c_3, eq_true c_5, if_true, if_false]; done) | (simp [um_th, c_1, c_2, c_3, c_5]; done)) rfl rfl rfl rfl rfl⟩, hS.F ht⟩) hS.2.2 dX2_throwing_41
        · exact absurd (by decide) c_5
      · refine lv_iconst (v := 3) hx hb dX2_throwing_21 (by decide) ?_
        refine lv_goto (tgt := 26) hx hb dX2_throwing_22 (by decide) ?_
        refine va_put (D := (dC, dI)) (ci := 2) (v := .int 3) (ty := .int) (C := RX2) (T := TX2) (N := 23) hx hb htb us_inX2 tyX2 tyX2_ok nmX2 hown hK hP hD hS 0 rfl rfl 0 (by decide) (htb _ mw_423) (fun _ h9 => h9) rfl (by decide +kernel) rfl rfl (Nat.le_of_ble_eq_true rfl) dX2_throwing_26 (fun H_6 locs hP hD hS => ?_)
        have hP : va_P (dC, dI) vwCl (um_W md cI 3 nu nm sk G v) H_6 := hP
        have hD : va_D (us_AA (um_ads md) s.heap.size) (um_W md cI 3 nu nm sk G v) := hD
        refine lv_aload_n hx hb dX2_throwing_29 rfl (lv_at hl 0 rfl) ?_
        refine va_get (D := (dC, dI)) (ci := 2) (v := .int 3) (C := RX2) (T := TX2) (N := 23) hx hb htb us_inX2 hown hK hP 0 rfl rfl 0 (by decide) (htb _ mw_423) (fun _ h9 => h9) rfl dX2_throwing_30 ?_
        refine lv_if_le (tgt := 40) hx hb dX2_throwing_33 (by decide) (fun c_7 => ?_) (fun c_7 => ?_)
        · exact absurd c_7 (by decide)
        · refine lv_iconst (v := 1) hx hb dX2_throwing_36 (by decide) ?_
          refine lv_goto (tgt := 41) hx hb dX2_throwing_37 (by decide) ?_
          have hsp : 1 = um_thr p1 p2 p3 := by first | (simp only [um_thr, um_th, eq_true c_1, eq_true c_2, eq_false c_3, eq_false c_7, if_true, if_false]; decide) | (simp [um_thr, um_th, c_1, c_2, c_3, c_7]; done)
          exact W.zret (v := 1) hx hb hr (us_nz (by decide)) (fun t ht hW => ⟨⟨1, (), rfl, hsp, um_B_of ht hP (by first | (simp only [um_th, eq_true c_1, eq_true c_2, eq_false c_3, eq_false c_7, if_true, if_false]; done) | (simp [um_th, c_1, c_2, c_3, c_7]; done)) rfl rfl rfl rfl rfl⟩, hS.F ht⟩) hS.2.2 dX2_throwing_41
    · refine lv_iconst (v := 2) hx hb dX2_throwing_13 (by decide) ?_
      refine lv_goto (tgt := 26) hx hb dX2_throwing_14 (by decide) ?_
      refine va_put (D := (dC, dI)) (ci := 2) (v := .int 2) (ty := .int) (C := RX2) (T := TX2) (N := 23) hx hb htb us_inX2 tyX2 tyX2_ok nmX2 hown hK hP hD hS 0 rfl rfl 0 (by decide) (htb _ mw_423) (fun _ h9 => h9) rfl (by decide +kernel) rfl rfl (Nat.le_of_ble_eq_true rfl) dX2_throwing_26 (fun H_8 locs hP hD hS => ?_)
      have hP : va_P (dC, dI) vwCl (um_W md cI 2 nu nm sk G v) H_8 := hP
      have hD : va_D (us_AA (um_ads md) s.heap.size) (um_W md cI 2 nu nm sk G v) := hD
      refine lv_aload_n hx hb dX2_throwing_29 rfl (lv_at hl 0 rfl) ?_
      refine va_get (D := (dC, dI)) (ci := 2) (v := .int 2) (C := RX2) (T := TX2) (N := 23) hx hb htb us_inX2 hown hK hP 0 rfl rfl 0 (by decide) (htb _ mw_423) (fun _ h9 => h9) rfl dX2_throwing_30 ?_
      refine lv_if_le (tgt := 40) hx hb dX2_throwing_33 (by decide) (fun c_9 => ?_) (fun c_9 => ?_)
      · exact absurd c_9 (by decide)
      · refine lv_iconst (v := 1) hx hb dX2_throwing_36 (by decide) ?_
        refine lv_goto (tgt := 41) hx hb dX2_throwing_37 (by decide) ?_
        have hsp : 1 = um_thr p1 p2 p3 := by first | (simp only [um_thr, um_th, eq_true c_1, eq_false c_2, eq_false c_9, if_true, if_false]; decide) | (simp [um_thr, um_th, c_1, c_2, c_9]; done)
        exact W.zret (v := 1) hx hb hr (us_nz (by decide)) (fun t ht hW => ⟨⟨1, (), rfl, hsp, um_B_of ht hP (by first | (simp only [um_th, eq_true c_1, eq_false c_2, eq_false c_9, if_true, if_false]; done) | (simp [um_th, c_1, c_2, c_9]; done)) rfl rfl rfl rfl rfl⟩, hS.F ht⟩) hS.2.2 dX2_throwing_41
  · refine lv_iconst (v := 1) hx hb dX2_throwing_5 (by decide) ?_
    refine lv_goto (tgt := 26) hx hb dX2_throwing_6 (by decide) ?_
    refine va_put (D := (dC, dI)) (ci := 2) (v := .int 1) (ty := .int) (C := RX2) (T := TX2) (N := 23) hx hb htb us_inX2 tyX2 tyX2_ok nmX2 hown hK hP hD hS 0 rfl rfl 0 (by decide) (htb _ mw_423) (fun _ h9 => h9) rfl (by decide +kernel) rfl rfl (Nat.le_of_ble_eq_true rfl) dX2_throwing_26 (fun H_10 locs hP hD hS => ?_)
    have hP : va_P (dC, dI) vwCl (um_W md cI 1 nu nm sk G v) H_10 := hP
    have hD : va_D (us_AA (um_ads md) s.heap.size) (um_W md cI 1 nu nm sk G v) := hD
    refine lv_aload_n hx hb dX2_throwing_29 rfl (lv_at hl 0 rfl) ?_
    refine va_get (D := (dC, dI)) (ci := 2) (v := .int 1) (C := RX2) (T := TX2) (N := 23) hx hb htb us_inX2 hown hK hP 0 rfl rfl 0 (by decide) (htb _ mw_423) (fun _ h9 => h9) rfl dX2_throwing_30 ?_
    refine lv_if_le (tgt := 40) hx hb dX2_throwing_33 (by decide) (fun c_11 => ?_) (fun c_11 => ?_)
    · exact absurd c_11 (by decide)
    · refine lv_iconst (v := 1) hx hb dX2_throwing_36 (by decide) ?_
      refine lv_goto (tgt := 41) hx hb dX2_throwing_37 (by decide) ?_
      have hsp : 1 = um_thr p1 p2 p3 := by first | (simp only [um_thr, um_th, eq_false c_1, eq_false c_11, if_true, if_false]; decide) | (simp [um_thr, um_th, c_1, c_11]; done)
      exact W.zret (v := 1) hx hb hr (us_nz (by decide)) (fun t ht hW => ⟨⟨1, (), rfl, hsp, um_B_of ht hP (by first | (simp only [um_th, eq_false c_1, eq_false c_11, if_true, if_false]; done) | (simp [um_th, c_1, c_11]; done)) rfl rfl rfl rfl rfl⟩, hS.F ht⟩) hS.2.2 dX2_throwing_41
set_option maxHeartbeats 8000000 in
set_option maxRecDepth 100000 in
theorem kt_X2_isValue (l : Launch) (sz : Nat) (p1 : Int32) (p2 : Int32) : Met l yX2_isValue wsX2_isValue ({ frames := 1, cells := 0, slots := 0, locals := 22 }) (va_Pc [.int p1, .int p2] (fun S => S.heap.size = sz)) (va_Qi (fun r (_ : Unit) => r = um_val p1 p2) (fun _ _ => True) (us_new sz)) 0 0 (us_new sz) := by
  refine Met.ofW (cc := cX2_isValue) (maxL := 2) (ret := (some .boolean)) (by decide) rfl ?_
  intro p e s m args below meth c s₁ B hml hv
  obtain ⟨rfl, hsz⟩ := hv
  have hx := B.exec
  have hb := B.bytes
  have hr := B.returns
  have htb := us_htb (atoms_spec (ws := wsX2_isValue) B.pre)
  have hown : s.vm.findClass RX2 = some m.cls := findClass_of_methodNamed B.named
  have hlocks := B.notSynchronized
  subst hsz
  have hA : ∀ q : Nat, s.heap.size ≤ q → (us_new s.heap.size) q := fun q h => h
  have hS : va_S (us_new s.heap.size) s.heap s.heap [] := va_S.rf
  have hl := lv_entry ([.int p1, .int p2]) (n := 2) (Nat.le_of_ble_eq_true rfl)
  rw [lg_entry_eq]
  generalize (lg_sl ([.int p1, .int p2]) ++ List.replicate (2 - (lg_sl ([.int p1, .int p2])).length) Slot.unset).toArray = ls at hl ⊢
  have hl : lv_has ls 2 [(0, .int p1), (1, .int p2)] := hl
  refine lv_iload_n hx hb dX2_isValue_0 rfl (lv_at hl 0 rfl) ?_
  by_cases k_1 : p1 = 0
  · refine lv_tableIn (tgt := 80) hx hb dX2_isValue_1 (by rw [k_1]; decide) (by rw [k_1]; decide) (by rw [k_1]; rfl) (by decide) ?_
    refine lv_iload_n hx hb dX2_isValue_80 rfl (lv_at hl 1 rfl) ?_
    refine lv_iconst (v := 0) hx hb dX2_isValue_81 (by decide) ?_
    refine lv_bipush (v := 9) hx hb dX2_isValue_82 (by decide) ?_
    refine va_calli (va_runS (As := [.int p2, .int 0, .int 9]) (rest := []) ⟨hx, hb, hml, hown, htb⟩ (kt_X2_in l s.heap.size p2 0 9) (cwS 3 htb (us_gS mw_501 mw_502 mw_34 mw_503) rfl rfl rfl (by decide +kernel) ⟨Nat.le_of_ble_eq_true rfl, Nat.le_of_ble_eq_true rfl⟩) ⟨us_blind0, fun U hU _ => ⟨rfl, congrArg Array.size hU⟩⟩ rfl rfl hl.1 rfl (lv_room (Nat.le_of_ble_eq_true rfl)) dX2_isValue_84 ⟨Nat.le_of_ble_eq_true rfl, Nat.le_of_ble_eq_true rfl⟩) hS (fun q h1 h2 => absurd h2 (Nat.not_le.mpr h1)) (fun q h => hA q (Nat.le_trans hS.1 h)) (fun r_3 _ t_4 H_2 locs ht hvm hw hB hz1 hk1 hS => ?_)
    subst hw
    have hsp : (um_in p2 0 9) = um_val p1 p2 := by first | (simp only [um_val, eq_true k_1, if_true, if_false]; done) | (simp [um_val, k_1]; done)
    exact W.zret (v := (um_in p2 0 9)) hx hb hr (us_nz (um_nz _ _ _)) (fun t ht hW => ⟨⟨(um_in p2 0 9), (), rfl, hsp, trivial⟩, hS.F ht⟩) hS.2.2 dX2_isValue_87
  by_cases k_5 : p1 = 1
  · refine lv_tableIn (tgt := 88) hx hb dX2_isValue_1 (by rw [k_5]; decide) (by rw [k_5]; decide) (by rw [k_5]; rfl) (by decide) ?_
    refine lv_iload_n hx hb dX2_isValue_88 rfl (lv_at hl 1 rfl) ?_
    refine lv_iconst (v := 0) hx hb dX2_isValue_89 (by decide) ?_
    refine lv_bipush (v := 19) hx hb dX2_isValue_90 (by decide) ?_
    refine va_calli (va_runS (As := [.int p2, .int 0, .int 19]) (rest := []) ⟨hx, hb, hml, hown, htb⟩ (kt_X2_in l s.heap.size p2 0 19) (cwS 3 htb (us_gS mw_501 mw_502 mw_34 mw_503) rfl rfl rfl (by decide +kernel) ⟨Nat.le_of_ble_eq_true rfl, Nat.le_of_ble_eq_true rfl⟩) ⟨us_blind0, fun U hU _ => ⟨rfl, congrArg Array.size hU⟩⟩ rfl rfl hl.1 rfl (lv_room (Nat.le_of_ble_eq_true rfl)) dX2_isValue_92 ⟨Nat.le_of_ble_eq_true rfl, Nat.le_of_ble_eq_true rfl⟩) hS (fun q h1 h2 => absurd h2 (Nat.not_le.mpr h1)) (fun q h => hA q (Nat.le_trans hS.1 h)) (fun r_7 _ t_8 H_6 locs ht hvm hw hB hz1 hk1 hS => ?_)
    subst hw
    have hsp : (um_in p2 0 19) = um_val p1 p2 := by first | (simp only [um_val, eq_true k_5, if_true, if_false]; done) | (simp [um_val, k_5]; done)
    exact W.zret (v := (um_in p2 0 19)) hx hb hr (us_nz (um_nz _ _ _)) (fun t ht hW => ⟨⟨(um_in p2 0 19), (), rfl, hsp, trivial⟩, hS.F ht⟩) hS.2.2 dX2_isValue_95
  by_cases k_9 : p1 = 2
  · refine lv_tableIn (tgt := 129) hx hb dX2_isValue_1 (by rw [k_9]; decide) (by rw [k_9]; decide) (by rw [k_9]; rfl) (by decide) ?_
    refine lv_iconst (v := 1) hx hb dX2_isValue_129 (by decide) ?_
    have hsp : 1 = um_val p1 p2 := by first | (simp only [um_val, eq_true k_9, if_true, if_false]; done) | (simp [um_val, k_9]; done)
    exact W.zret (v := 1) hx hb hr (us_nz (by decide)) (fun t ht hW => ⟨⟨1, (), rfl, hsp, trivial⟩, hS.F ht⟩) hS.2.2 dX2_isValue_130
  by_cases k_10 : p1 = 3
  · refine lv_tableIn (tgt := 129) hx hb dX2_isValue_1 (by rw [k_10]; decide) (by rw [k_10]; decide) (by rw [k_10]; rfl) (by decide) ?_
    refine lv_iconst (v := 1) hx hb dX2_isValue_129 (by decide) ?_
    have hsp : 1 = um_val p1 p2 := by first | (simp only [um_val, eq_true k_10, if_true, if_false]; done) | (simp [um_val, k_10]; done)
    exact W.zret (v := 1) hx hb hr (us_nz (by decide)) (fun t ht hW => ⟨⟨1, (), rfl, hsp, trivial⟩, hS.F ht⟩) hS.2.2 dX2_isValue_130
  by_cases k_11 : p1 = 4
  · refine lv_tableIn (tgt := 129) hx hb dX2_isValue_1 (by rw [k_11]; decide) (by rw [k_11]; decide) (by rw [k_11]; rfl) (by decide) ?_
    refine lv_iconst (v := 1) hx hb dX2_isValue_129 (by decide) ?_
    have hsp : 1 = um_val p1 p2 := by first | (simp only [um_val, eq_true k_11, if_true, if_false]; done) | (simp [um_val, k_11]; done)
    exact W.zret (v := 1) hx hb hr (us_nz (by decide)) (fun t ht hW => ⟨⟨1, (), rfl, hsp, trivial⟩, hS.F ht⟩) hS.2.2 dX2_isValue_130
  by_cases k_12 : p1 = 5
  · refine lv_tableIn (tgt := 129) hx hb dX2_isValue_1 (by rw [k_12]; decide) (by rw [k_12]; decide) (by rw [k_12]; rfl) (by decide) ?_
    refine lv_iconst (v := 1) hx hb dX2_isValue_129 (by decide) ?_
    have hsp : 1 = um_val p1 p2 := by first | (simp only [um_val, eq_true k_12, if_true, if_false]; done) | (simp [um_val, k_12]; done)
    exact W.zret (v := 1) hx hb hr (us_nz (by decide)) (fun t ht hW => ⟨⟨1, (), rfl, hsp, trivial⟩, hS.F ht⟩) hS.2.2 dX2_isValue_130
  by_cases k_13 : p1 = 6
  · refine lv_tableIn (tgt := 129) hx hb dX2_isValue_1 (by rw [k_13]; decide) (by rw [k_13]; decide) (by rw [k_13]; rfl) (by decide) ?_
    refine lv_iconst (v := 1) hx hb dX2_isValue_129 (by decide) ?_
    have hsp : 1 = um_val p1 p2 := by first | (simp only [um_val, eq_true k_13, if_true, if_false]; done) | (simp [um_val, k_13]; done)
    exact W.zret (v := 1) hx hb hr (us_nz (by decide)) (fun t ht hW => ⟨⟨1, (), rfl, hsp, trivial⟩, hS.F ht⟩) hS.2.2 dX2_isValue_130
  by_cases k_14 : p1 = 7
  · refine lv_tableIn (tgt := 129) hx hb dX2_isValue_1 (by rw [k_14]; decide) (by rw [k_14]; decide) (by rw [k_14]; rfl) (by decide) ?_
    refine lv_iconst (v := 1) hx hb dX2_isValue_129 (by decide) ?_
    have hsp : 1 = um_val p1 p2 := by first | (simp only [um_val, eq_true k_14, if_true, if_false]; done) | (simp [um_val, k_14]; done)
    exact W.zret (v := 1) hx hb hr (us_nz (by decide)) (fun t ht hW => ⟨⟨1, (), rfl, hsp, trivial⟩, hS.F ht⟩) hS.2.2 dX2_isValue_130
  by_cases k_15 : p1 = 8
  · refine lv_tableIn (tgt := 129) hx hb dX2_isValue_1 (by rw [k_15]; decide) (by rw [k_15]; decide) (by rw [k_15]; rfl) (by decide) ?_
    refine lv_iconst (v := 1) hx hb dX2_isValue_129 (by decide) ?_
    have hsp : 1 = um_val p1 p2 := by first | (simp only [um_val, eq_true k_15, if_true, if_false]; done) | (simp [um_val, k_15]; done)
    exact W.zret (v := 1) hx hb hr (us_nz (by decide)) (fun t ht hW => ⟨⟨1, (), rfl, hsp, trivial⟩, hS.F ht⟩) hS.2.2 dX2_isValue_130
  by_cases k_16 : p1 = 9
  · refine lv_tableIn (tgt := 129) hx hb dX2_isValue_1 (by rw [k_16]; decide) (by rw [k_16]; decide) (by rw [k_16]; rfl) (by decide) ?_
    refine lv_iconst (v := 1) hx hb dX2_isValue_129 (by decide) ?_
    have hsp : 1 = um_val p1 p2 := by first | (simp only [um_val, eq_true k_16, if_true, if_false]; done) | (simp [um_val, k_16]; done)
    exact W.zret (v := 1) hx hb hr (us_nz (by decide)) (fun t ht hW => ⟨⟨1, (), rfl, hsp, trivial⟩, hS.F ht⟩) hS.2.2 dX2_isValue_130
  by_cases k_17 : p1 = 10
  · refine lv_tableIn (tgt := 129) hx hb dX2_isValue_1 (by rw [k_17]; decide) (by rw [k_17]; decide) (by rw [k_17]; rfl) (by decide) ?_
    refine lv_iconst (v := 1) hx hb dX2_isValue_129 (by decide) ?_
    have hsp : 1 = um_val p1 p2 := by first | (simp only [um_val, eq_true k_17, if_true, if_false]; done) | (simp [um_val, k_17]; done)
    exact W.zret (v := 1) hx hb hr (us_nz (by decide)) (fun t ht hW => ⟨⟨1, (), rfl, hsp, trivial⟩, hS.F ht⟩) hS.2.2 dX2_isValue_130
  by_cases k_18 : p1 = 11
  · refine lv_tableIn (tgt := 96) hx hb dX2_isValue_1 (by rw [k_18]; decide) (by rw [k_18]; decide) (by rw [k_18]; rfl) (by decide) ?_
    refine lv_iload_n hx hb dX2_isValue_96 rfl (lv_at hl 1 rfl) ?_
    refine lv_iconst (v := 0) hx hb dX2_isValue_97 (by decide) ?_
    refine lv_ldc (v := 999999) hx hb hown (htb _ mw_523) dX2_isValue_98 ?_
    refine va_calli (va_runS (As := [.int p2, .int 0, .int 999999]) (rest := []) ⟨hx, hb, hml, hown, htb⟩ (kt_X2_in l s.heap.size p2 0 999999) (cwS 3 htb (us_gS mw_501 mw_502 mw_34 mw_503) rfl rfl rfl (by decide +kernel) ⟨Nat.le_of_ble_eq_true rfl, Nat.le_of_ble_eq_true rfl⟩) ⟨us_blind0, fun U hU _ => ⟨rfl, congrArg Array.size hU⟩⟩ rfl rfl hl.1 rfl (lv_room (Nat.le_of_ble_eq_true rfl)) dX2_isValue_100 ⟨Nat.le_of_ble_eq_true rfl, Nat.le_of_ble_eq_true rfl⟩) hS (fun q h1 h2 => absurd h2 (Nat.not_le.mpr h1)) (fun q h => hA q (Nat.le_trans hS.1 h)) (fun r_20 _ t_21 H_19 locs ht hvm hw hB hz1 hk1 hS => ?_)
    subst hw
    have hsp : (um_in p2 0 999999) = um_val p1 p2 := by first | (simp only [um_val, eq_true k_18, if_true, if_false]; done) | (simp [um_val, k_18]; done)
    exact W.zret (v := (um_in p2 0 999999)) hx hb hr (us_nz (um_nz _ _ _)) (fun t ht hW => ⟨⟨(um_in p2 0 999999), (), rfl, hsp, trivial⟩, hS.F ht⟩) hS.2.2 dX2_isValue_103
  by_cases k_22 : p1 = 12
  · refine lv_tableIn (tgt := 80) hx hb dX2_isValue_1 (by rw [k_22]; decide) (by rw [k_22]; decide) (by rw [k_22]; rfl) (by decide) ?_
    refine lv_iload_n hx hb dX2_isValue_80 rfl (lv_at hl 1 rfl) ?_
    refine lv_iconst (v := 0) hx hb dX2_isValue_81 (by decide) ?_
    refine lv_bipush (v := 9) hx hb dX2_isValue_82 (by decide) ?_
    refine va_calli (va_runS (As := [.int p2, .int 0, .int 9]) (rest := []) ⟨hx, hb, hml, hown, htb⟩ (kt_X2_in l s.heap.size p2 0 9) (cwS 3 htb (us_gS mw_501 mw_502 mw_34 mw_503) rfl rfl rfl (by decide +kernel) ⟨Nat.le_of_ble_eq_true rfl, Nat.le_of_ble_eq_true rfl⟩) ⟨us_blind0, fun U hU _ => ⟨rfl, congrArg Array.size hU⟩⟩ rfl rfl hl.1 rfl (lv_room (Nat.le_of_ble_eq_true rfl)) dX2_isValue_84 ⟨Nat.le_of_ble_eq_true rfl, Nat.le_of_ble_eq_true rfl⟩) hS (fun q h1 h2 => absurd h2 (Nat.not_le.mpr h1)) (fun q h => hA q (Nat.le_trans hS.1 h)) (fun r_24 _ t_25 H_23 locs ht hvm hw hB hz1 hk1 hS => ?_)
    subst hw
    have hsp : (um_in p2 0 9) = um_val p1 p2 := by first | (simp only [um_val, eq_true k_22, if_true, if_false]; done) | (simp [um_val, k_22]; done)
    exact W.zret (v := (um_in p2 0 9)) hx hb hr (us_nz (um_nz _ _ _)) (fun t ht hW => ⟨⟨(um_in p2 0 9), (), rfl, hsp, trivial⟩, hS.F ht⟩) hS.2.2 dX2_isValue_87
  by_cases k_26 : p1 = 13
  · refine lv_tableIn (tgt := 104) hx hb dX2_isValue_1 (by rw [k_26]; decide) (by rw [k_26]; decide) (by rw [k_26]; rfl) (by decide) ?_
    refine lv_iload_n hx hb dX2_isValue_104 rfl (lv_at hl 1 rfl) ?_
    refine lv_iconst (v := 0) hx hb dX2_isValue_105 (by decide) ?_
    refine lv_sipush (v := 255) hx hb dX2_isValue_106 (by decide) ?_
    refine va_calli (va_runS (As := [.int p2, .int 0, .int 255]) (rest := []) ⟨hx, hb, hml, hown, htb⟩ (kt_X2_in l s.heap.size p2 0 255) (cwS 3 htb (us_gS mw_501 mw_502 mw_34 mw_503) rfl rfl rfl (by decide +kernel) ⟨Nat.le_of_ble_eq_true rfl, Nat.le_of_ble_eq_true rfl⟩) ⟨us_blind0, fun U hU _ => ⟨rfl, congrArg Array.size hU⟩⟩ rfl rfl hl.1 rfl (lv_room (Nat.le_of_ble_eq_true rfl)) dX2_isValue_109 ⟨Nat.le_of_ble_eq_true rfl, Nat.le_of_ble_eq_true rfl⟩) hS (fun q h1 h2 => absurd h2 (Nat.not_le.mpr h1)) (fun q h => hA q (Nat.le_trans hS.1 h)) (fun r_28 _ t_29 H_27 locs ht hvm hw hB hz1 hk1 hS => ?_)
    subst hw
    have hsp : (um_in p2 0 255) = um_val p1 p2 := by first | (simp only [um_val, eq_true k_26, if_true, if_false]; done) | (simp [um_val, k_26]; done)
    exact W.zret (v := (um_in p2 0 255)) hx hb hr (us_nz (um_nz _ _ _)) (fun t ht hW => ⟨⟨(um_in p2 0 255), (), rfl, hsp, trivial⟩, hS.F ht⟩) hS.2.2 dX2_isValue_112
  by_cases k_30 : p1 = 14
  · refine lv_tableIn (tgt := 113) hx hb dX2_isValue_1 (by rw [k_30]; decide) (by rw [k_30]; decide) (by rw [k_30]; rfl) (by decide) ?_
    refine lv_iload_n hx hb dX2_isValue_113 rfl (lv_at hl 1 rfl) ?_
    refine lv_iconst (v := 0) hx hb dX2_isValue_114 (by decide) ?_
    refine lv_iconst (v := 1) hx hb dX2_isValue_115 (by decide) ?_
    refine va_calli (va_runS (As := [.int p2, .int 0, .int 1]) (rest := []) ⟨hx, hb, hml, hown, htb⟩ (kt_X2_in l s.heap.size p2 0 1) (cwS 3 htb (us_gS mw_501 mw_502 mw_34 mw_503) rfl rfl rfl (by decide +kernel) ⟨Nat.le_of_ble_eq_true rfl, Nat.le_of_ble_eq_true rfl⟩) ⟨us_blind0, fun U hU _ => ⟨rfl, congrArg Array.size hU⟩⟩ rfl rfl hl.1 rfl (lv_room (Nat.le_of_ble_eq_true rfl)) dX2_isValue_116 ⟨Nat.le_of_ble_eq_true rfl, Nat.le_of_ble_eq_true rfl⟩) hS (fun q h1 h2 => absurd h2 (Nat.not_le.mpr h1)) (fun q h => hA q (Nat.le_trans hS.1 h)) (fun r_32 _ t_33 H_31 locs ht hvm hw hB hz1 hk1 hS => ?_)
    subst hw
    have hsp : (um_in p2 0 1) = um_val p1 p2 := by first | (simp only [um_val, eq_true k_30, if_true, if_false]; done) | (simp [um_val, k_30]; done)
    exact W.zret (v := (um_in p2 0 1)) hx hb hr (us_nz (um_nz _ _ _)) (fun t ht hW => ⟨⟨(um_in p2 0 1), (), rfl, hsp, trivial⟩, hS.F ht⟩) hS.2.2 dX2_isValue_119
  by_cases k_34 : p1 = 15
  · refine lv_tableIn (tgt := 120) hx hb dX2_isValue_1 (by rw [k_34]; decide) (by rw [k_34]; decide) (by rw [k_34]; rfl) (by decide) ?_
    refine lv_iload_n hx hb dX2_isValue_120 rfl (lv_at hl 1 rfl) ?_
    refine lv_iconst (v := 0) hx hb dX2_isValue_121 (by decide) ?_
    refine lv_sipush (v := 999) hx hb dX2_isValue_122 (by decide) ?_
    refine va_calli (va_runS (As := [.int p2, .int 0, .int 999]) (rest := []) ⟨hx, hb, hml, hown, htb⟩ (kt_X2_in l s.heap.size p2 0 999) (cwS 3 htb (us_gS mw_501 mw_502 mw_34 mw_503) rfl rfl rfl (by decide +kernel) ⟨Nat.le_of_ble_eq_true rfl, Nat.le_of_ble_eq_true rfl⟩) ⟨us_blind0, fun U hU _ => ⟨rfl, congrArg Array.size hU⟩⟩ rfl rfl hl.1 rfl (lv_room (Nat.le_of_ble_eq_true rfl)) dX2_isValue_125 ⟨Nat.le_of_ble_eq_true rfl, Nat.le_of_ble_eq_true rfl⟩) hS (fun q h1 h2 => absurd h2 (Nat.not_le.mpr h1)) (fun q h => hA q (Nat.le_trans hS.1 h)) (fun r_36 _ t_37 H_35 locs ht hvm hw hB hz1 hk1 hS => ?_)
    subst hw
    have hsp : (um_in p2 0 999) = um_val p1 p2 := by first | (simp only [um_val, eq_true k_34, if_true, if_false]; done) | (simp [um_val, k_34]; done)
    exact W.zret (v := (um_in p2 0 999)) hx hb hr (us_nz (um_nz _ _ _)) (fun t ht hW => ⟨⟨(um_in p2 0 999), (), rfl, hsp, trivial⟩, hS.F ht⟩) hS.2.2 dX2_isValue_128
  have hout_1 : p1.toInt < 0 ∨ 15 < p1.toInt := us_sw (lo := 0) (hi := 15) (fun z h1 h2 => by
    rcases (show z = 0 ∨ z = 1 ∨ z = 2 ∨ z = 3 ∨ z = 4 ∨ z = 5 ∨ z = 6 ∨ z = 7 ∨ z = 8 ∨ z = 9 ∨ z = 10 ∨ z = 11 ∨ z = 12 ∨ z = 13 ∨ z = 14 ∨ z = 15 by omega) with rfl | rfl | rfl | rfl | rfl | rfl | rfl | rfl | rfl | rfl | rfl | rfl | rfl | rfl | rfl | rfl
    · exact fun e => k_1 (e.trans (by decide))
    · exact fun e => k_5 (e.trans (by decide))
    · exact fun e => k_9 (e.trans (by decide))
    · exact fun e => k_10 (e.trans (by decide))
    · exact fun e => k_11 (e.trans (by decide))
    · exact fun e => k_12 (e.trans (by decide))
    · exact fun e => k_13 (e.trans (by decide))
    · exact fun e => k_14 (e.trans (by decide))
    · exact fun e => k_15 (e.trans (by decide))
    · exact fun e => k_16 (e.trans (by decide))
    · exact fun e => k_17 (e.trans (by decide))
    · exact fun e => k_18 (e.trans (by decide))
    · exact fun e => k_22 (e.trans (by decide))
    · exact fun e => k_26 (e.trans (by decide))
    · exact fun e => k_30 (e.trans (by decide))
    · exact fun e => k_34 (e.trans (by decide)))
  refine lv_tableOut (tgt := 129) hx hb dX2_isValue_1 hout_1 (by decide) ?_
  refine lv_iconst (v := 1) hx hb dX2_isValue_129 (by decide) ?_
  have hsp : 1 = um_val p1 p2 := by first | (simp only [um_val, eq_false k_1, eq_false k_5, eq_false k_9, eq_false k_10, eq_false k_11, eq_false k_12, eq_false k_13, eq_false k_14, eq_false k_15, eq_false k_16, eq_false k_17, eq_false k_18, eq_false k_22, eq_false k_26, eq_false k_30, eq_false k_34, if_true, if_false]; done) | (simp [um_val, k_1, k_5, k_9, k_10, k_11, k_12, k_13, k_14, k_15, k_16, k_17, k_18, k_22, k_26, k_30, k_34]; done)
  exact W.zret (v := 1) hx hb hr (us_nz (by decide)) (fun t ht hW => ⟨⟨1, (), rfl, hsp, trivial⟩, hS.F ht⟩) hS.2.2 dX2_isValue_130
set_option maxHeartbeats 8000000 in
set_option maxRecDepth 100000 in
theorem kt_X2_follows (l : Launch) (sz : Nat) (p1 : Int32) (p2 : Int32) : Met l yX2_follows wsX2_follows ({ frames := 0, cells := 0, slots := 0, locals := 0 }) (va_Pc [.int p1, .int p2] (fun S => S.heap.size = sz)) (va_Qi (fun r (_ : Unit) => r = um_fls p1 p2) (fun _ _ => True) (us_new sz)) 0 0 (us_new sz) := by
  refine Met.ofW (cc := cX2_follows) (maxL := 2) (ret := (some .boolean)) (by decide) rfl ?_
  intro p e s m args below meth c s₁ B hml hv
  obtain ⟨rfl, hsz⟩ := hv
  have hx := B.exec
  have hb := B.bytes
  have hr := B.returns
  have htb := us_htb (atoms_spec (ws := wsX2_follows) B.pre)
  have hown : s.vm.findClass RX2 = some m.cls := findClass_of_methodNamed B.named
  have hlocks := B.notSynchronized
  subst hsz
  have hA : ∀ q : Nat, s.heap.size ≤ q → (us_new s.heap.size) q := fun q h => h
  have hS : va_S (us_new s.heap.size) s.heap s.heap [] := va_S.rf
  have hl := lv_entry ([.int p1, .int p2]) (n := 2) (Nat.le_of_ble_eq_true rfl)
  rw [lg_entry_eq]
  generalize (lg_sl ([.int p1, .int p2]) ++ List.replicate (2 - (lg_sl ([.int p1, .int p2])).length) Slot.unset).toArray = ls at hl ⊢
  have hl : lv_has ls 2 [(0, .int p1), (1, .int p2)] := hl
  refine lv_iload_n hx hb dX2_follows_0 rfl (lv_at hl 0 rfl) ?_
  by_cases k_1 : p1 = 0
  · refine lv_tableIn (tgt := 56) hx hb dX2_follows_1 (by rw [k_1]; decide) (by rw [k_1]; decide) (by rw [k_1]; rfl) (by decide) ?_
    refine lv_iload_n hx hb dX2_follows_56 rfl (lv_at hl 1 rfl) ?_
    refine lv_iconst (v := 1) hx hb dX2_follows_57 (by decide) ?_
    refine lv_icmp_eq (tgt := 67) hx hb dX2_follows_58 (by decide) (fun c_2 => ?_) (fun c_2 => ?_)
    · refine lv_iconst (v := 1) hx hb dX2_follows_67 (by decide) ?_
      refine lv_goto (tgt := 72) hx hb dX2_follows_68 (by decide) ?_
      have hsp : 1 = um_fls p1 p2 := by first | (simp only [um_fls, eq_true k_1, eq_true c_2, if_true, if_false]; done) | (simp [um_fls, k_1, c_2]; done)
      exact W.zret (v := 1) hx hb hr (us_nz (by decide)) (fun t ht hW => ⟨⟨1, (), rfl, hsp, trivial⟩, hS.F ht⟩) hS.2.2 dX2_follows_72
    · refine lv_iload_n hx hb dX2_follows_61 rfl (lv_at hl 1 rfl) ?_
      refine lv_bipush (v := 6) hx hb dX2_follows_62 (by decide) ?_
      refine lv_icmp_le (tgt := 71) hx hb dX2_follows_64 (by decide) (fun c_3 => ?_) (fun c_3 => ?_)
      · refine lv_iconst (v := 0) hx hb dX2_follows_71 (by decide) ?_
        have hsp : 0 = um_fls p1 p2 := by first | (simp only [um_fls, eq_true k_1, eq_false c_2, eq_true c_3, if_true, if_false]; done) | (simp [um_fls, k_1, c_2, c_3]; done)
        exact W.zret (v := 0) hx hb hr (us_nz (by decide)) (fun t ht hW => ⟨⟨0, (), rfl, hsp, trivial⟩, hS.F ht⟩) hS.2.2 dX2_follows_72
      · refine lv_iconst (v := 1) hx hb dX2_follows_67 (by decide) ?_
        refine lv_goto (tgt := 72) hx hb dX2_follows_68 (by decide) ?_
        have hsp : 1 = um_fls p1 p2 := by first | (simp only [um_fls, eq_true k_1, eq_false c_2, eq_false c_3, if_true, if_false]; done) | (simp [um_fls, k_1, c_2, c_3]; done)
        exact W.zret (v := 1) hx hb hr (us_nz (by decide)) (fun t ht hW => ⟨⟨1, (), rfl, hsp, trivial⟩, hS.F ht⟩) hS.2.2 dX2_follows_72
  by_cases k_4 : p1 = 1
  · refine lv_tableIn (tgt := 73) hx hb dX2_follows_1 (by rw [k_4]; decide) (by rw [k_4]; decide) (by rw [k_4]; rfl) (by decide) ?_
    refine lv_iload_n hx hb dX2_follows_73 rfl (lv_at hl 1 rfl) ?_
    refine lv_iconst (v := 2) hx hb dX2_follows_74 (by decide) ?_
    refine lv_icmp_eq (tgt := 82) hx hb dX2_follows_75 (by decide) (fun c_5 => ?_) (fun c_5 => ?_)
    · refine lv_iconst (v := 1) hx hb dX2_follows_82 (by decide) ?_
      refine lv_goto (tgt := 87) hx hb dX2_follows_83 (by decide) ?_
      have hsp : 1 = um_fls p1 p2 := by first | (simp only [um_fls, eq_true k_4, eq_true c_5, if_true, if_false]; done) | (simp [um_fls, k_4, c_5]; done)
      exact W.zret (v := 1) hx hb hr (us_nz (by decide)) (fun t ht hW => ⟨⟨1, (), rfl, hsp, trivial⟩, hS.F ht⟩) hS.2.2 dX2_follows_87
    · refine lv_iload_n hx hb dX2_follows_78 rfl (lv_at hl 1 rfl) ?_
      refine lv_if_ne (tgt := 86) hx hb dX2_follows_79 (by decide) (fun c_6 => ?_) (fun c_6 => ?_)
      · refine lv_iconst (v := 0) hx hb dX2_follows_86 (by decide) ?_
        have hsp : 0 = um_fls p1 p2 := by first | (simp only [um_fls, eq_true k_4, eq_false c_5, eq_false c_6, if_true, if_false]; done) | (simp [um_fls, k_4, c_5, c_6]; done)
        exact W.zret (v := 0) hx hb hr (us_nz (by decide)) (fun t ht hW => ⟨⟨0, (), rfl, hsp, trivial⟩, hS.F ht⟩) hS.2.2 dX2_follows_87
      · refine lv_iconst (v := 1) hx hb dX2_follows_82 (by decide) ?_
        refine lv_goto (tgt := 87) hx hb dX2_follows_83 (by decide) ?_
        have hsp : 1 = um_fls p1 p2 := by first | (simp only [um_fls, eq_true k_4, eq_false c_5, eq_true c_6, if_true, if_false]; done) | (simp [um_fls, k_4, c_5, c_6]; done)
        exact W.zret (v := 1) hx hb hr (us_nz (by decide)) (fun t ht hW => ⟨⟨1, (), rfl, hsp, trivial⟩, hS.F ht⟩) hS.2.2 dX2_follows_87
  by_cases k_7 : p1 = 2
  · refine lv_tableIn (tgt := 88) hx hb dX2_follows_1 (by rw [k_7]; decide) (by rw [k_7]; decide) (by rw [k_7]; rfl) (by decide) ?_
    refine lv_iload_n hx hb dX2_follows_88 rfl (lv_at hl 1 rfl) ?_
    refine lv_iconst (v := 3) hx hb dX2_follows_89 (by decide) ?_
    refine lv_icmp_eq (tgt := 99) hx hb dX2_follows_90 (by decide) (fun c_8 => ?_) (fun c_8 => ?_)
    · refine lv_iconst (v := 1) hx hb dX2_follows_99 (by decide) ?_
      refine lv_goto (tgt := 104) hx hb dX2_follows_100 (by decide) ?_
      have hsp : 1 = um_fls p1 p2 := by first | (simp only [um_fls, eq_true k_7, eq_true c_8, if_true, if_false]; done) | (simp [um_fls, k_7, c_8]; done)
      exact W.zret (v := 1) hx hb hr (us_nz (by decide)) (fun t ht hW => ⟨⟨1, (), rfl, hsp, trivial⟩, hS.F ht⟩) hS.2.2 dX2_follows_104
    · refine lv_iload_n hx hb dX2_follows_93 rfl (lv_at hl 1 rfl) ?_
      refine lv_bipush (v := 6) hx hb dX2_follows_94 (by decide) ?_
      refine lv_icmp_ne (tgt := 103) hx hb dX2_follows_96 (by decide) (fun c_9 => ?_) (fun c_9 => ?_)
      · refine lv_iconst (v := 0) hx hb dX2_follows_103 (by decide) ?_
        have hsp : 0 = um_fls p1 p2 := by first | (simp only [um_fls, eq_true k_7, eq_false c_8, eq_false c_9, if_true, if_false]; done) | (simp [um_fls, k_7, c_8, c_9]; done)
        exact W.zret (v := 0) hx hb hr (us_nz (by decide)) (fun t ht hW => ⟨⟨0, (), rfl, hsp, trivial⟩, hS.F ht⟩) hS.2.2 dX2_follows_104
      · refine lv_iconst (v := 1) hx hb dX2_follows_99 (by decide) ?_
        refine lv_goto (tgt := 104) hx hb dX2_follows_100 (by decide) ?_
        have hsp : 1 = um_fls p1 p2 := by first | (simp only [um_fls, eq_true k_7, eq_false c_8, eq_true c_9, if_true, if_false]; done) | (simp [um_fls, k_7, c_8, c_9]; done)
        exact W.zret (v := 1) hx hb hr (us_nz (by decide)) (fun t ht hW => ⟨⟨1, (), rfl, hsp, trivial⟩, hS.F ht⟩) hS.2.2 dX2_follows_104
  by_cases k_10 : p1 = 3
  · refine lv_tableIn (tgt := 105) hx hb dX2_follows_1 (by rw [k_10]; decide) (by rw [k_10]; decide) (by rw [k_10]; rfl) (by decide) ?_
    refine lv_iload_n hx hb dX2_follows_105 rfl (lv_at hl 1 rfl) ?_
    refine lv_iconst (v := 4) hx hb dX2_follows_106 (by decide) ?_
    refine lv_icmp_eq (tgt := 115) hx hb dX2_follows_107 (by decide) (fun c_11 => ?_) (fun c_11 => ?_)
    · refine lv_iconst (v := 1) hx hb dX2_follows_115 (by decide) ?_
      refine lv_goto (tgt := 120) hx hb dX2_follows_116 (by decide) ?_
      have hsp : 1 = um_fls p1 p2 := by first | (simp only [um_fls, eq_true k_10, eq_true c_11, if_true, if_false]; done) | (simp [um_fls, k_10, c_11]; done)
      exact W.zret (v := 1) hx hb hr (us_nz (by decide)) (fun t ht hW => ⟨⟨1, (), rfl, hsp, trivial⟩, hS.F ht⟩) hS.2.2 dX2_follows_120
    · refine lv_iload_n hx hb dX2_follows_110 rfl (lv_at hl 1 rfl) ?_
      refine lv_iconst (v := 5) hx hb dX2_follows_111 (by decide) ?_
      refine lv_icmp_ne (tgt := 119) hx hb dX2_follows_112 (by decide) (fun c_12 => ?_) (fun c_12 => ?_)
      · refine lv_iconst (v := 0) hx hb dX2_follows_119 (by decide) ?_
        have hsp : 0 = um_fls p1 p2 := by first | (simp only [um_fls, eq_true k_10, eq_false c_11, eq_false c_12, if_true, if_false]; done) | (simp [um_fls, k_10, c_11, c_12]; done)
        exact W.zret (v := 0) hx hb hr (us_nz (by decide)) (fun t ht hW => ⟨⟨0, (), rfl, hsp, trivial⟩, hS.F ht⟩) hS.2.2 dX2_follows_120
      · refine lv_iconst (v := 1) hx hb dX2_follows_115 (by decide) ?_
        refine lv_goto (tgt := 120) hx hb dX2_follows_116 (by decide) ?_
        have hsp : 1 = um_fls p1 p2 := by first | (simp only [um_fls, eq_true k_10, eq_false c_11, eq_true c_12, if_true, if_false]; done) | (simp [um_fls, k_10, c_11, c_12]; done)
        exact W.zret (v := 1) hx hb hr (us_nz (by decide)) (fun t ht hW => ⟨⟨1, (), rfl, hsp, trivial⟩, hS.F ht⟩) hS.2.2 dX2_follows_120
  by_cases k_13 : p1 = 4
  · refine lv_tableIn (tgt := 121) hx hb dX2_follows_1 (by rw [k_13]; decide) (by rw [k_13]; decide) (by rw [k_13]; rfl) (by decide) ?_
    refine lv_iload_n hx hb dX2_follows_121 rfl (lv_at hl 1 rfl) ?_
    refine lv_iconst (v := 5) hx hb dX2_follows_122 (by decide) ?_
    refine lv_icmp_ne (tgt := 130) hx hb dX2_follows_123 (by decide) (fun c_14 => ?_) (fun c_14 => ?_)
    · refine lv_iconst (v := 0) hx hb dX2_follows_130 (by decide) ?_
      have hsp : 0 = um_fls p1 p2 := by first | (simp only [um_fls, eq_true k_13, eq_false c_14, if_true, if_false]; done) | (simp [um_fls, k_13, c_14]; done)
      exact W.zret (v := 0) hx hb hr (us_nz (by decide)) (fun t ht hW => ⟨⟨0, (), rfl, hsp, trivial⟩, hS.F ht⟩) hS.2.2 dX2_follows_131
    · refine lv_iconst (v := 1) hx hb dX2_follows_126 (by decide) ?_
      refine lv_goto (tgt := 131) hx hb dX2_follows_127 (by decide) ?_
      have hsp : 1 = um_fls p1 p2 := by first | (simp only [um_fls, eq_true k_13, eq_true c_14, if_true, if_false]; done) | (simp [um_fls, k_13, c_14]; done)
      exact W.zret (v := 1) hx hb hr (us_nz (by decide)) (fun t ht hW => ⟨⟨1, (), rfl, hsp, trivial⟩, hS.F ht⟩) hS.2.2 dX2_follows_131
  by_cases k_15 : p1 = 5
  · refine lv_tableIn (tgt := 132) hx hb dX2_follows_1 (by rw [k_15]; decide) (by rw [k_15]; decide) (by rw [k_15]; rfl) (by decide) ?_
    refine lv_iload_n hx hb dX2_follows_132 rfl (lv_at hl 1 rfl) ?_
    refine lv_iconst (v := 1) hx hb dX2_follows_133 (by decide) ?_
    refine lv_icmp_eq (tgt := 143) hx hb dX2_follows_134 (by decide) (fun c_16 => ?_) (fun c_16 => ?_)
    · refine lv_iconst (v := 1) hx hb dX2_follows_143 (by decide) ?_
      refine lv_goto (tgt := 148) hx hb dX2_follows_144 (by decide) ?_
      have hsp : 1 = um_fls p1 p2 := by first | (simp only [um_fls, eq_true k_15, eq_true c_16, if_true, if_false]; done) | (simp [um_fls, k_15, c_16]; done)
      exact W.zret (v := 1) hx hb hr (us_nz (by decide)) (fun t ht hW => ⟨⟨1, (), rfl, hsp, trivial⟩, hS.F ht⟩) hS.2.2 dX2_follows_148
    · refine lv_iload_n hx hb dX2_follows_137 rfl (lv_at hl 1 rfl) ?_
      refine lv_bipush (v := 6) hx hb dX2_follows_138 (by decide) ?_
      refine lv_icmp_ne (tgt := 147) hx hb dX2_follows_140 (by decide) (fun c_17 => ?_) (fun c_17 => ?_)
      · refine lv_iconst (v := 0) hx hb dX2_follows_147 (by decide) ?_
        have hsp : 0 = um_fls p1 p2 := by first | (simp only [um_fls, eq_true k_15, eq_false c_16, eq_false c_17, if_true, if_false]; done) | (simp [um_fls, k_15, c_16, c_17]; done)
        exact W.zret (v := 0) hx hb hr (us_nz (by decide)) (fun t ht hW => ⟨⟨0, (), rfl, hsp, trivial⟩, hS.F ht⟩) hS.2.2 dX2_follows_148
      · refine lv_iconst (v := 1) hx hb dX2_follows_143 (by decide) ?_
        refine lv_goto (tgt := 148) hx hb dX2_follows_144 (by decide) ?_
        have hsp : 1 = um_fls p1 p2 := by first | (simp only [um_fls, eq_true k_15, eq_false c_16, eq_true c_17, if_true, if_false]; done) | (simp [um_fls, k_15, c_16, c_17]; done)
        exact W.zret (v := 1) hx hb hr (us_nz (by decide)) (fun t ht hW => ⟨⟨1, (), rfl, hsp, trivial⟩, hS.F ht⟩) hS.2.2 dX2_follows_148
  by_cases k_18 : p1 = 6
  · refine lv_tableIn (tgt := 149) hx hb dX2_follows_1 (by rw [k_18]; decide) (by rw [k_18]; decide) (by rw [k_18]; rfl) (by decide) ?_
    refine lv_iload_n hx hb dX2_follows_149 rfl (lv_at hl 1 rfl) ?_
    refine lv_if_eq (tgt := 164) hx hb dX2_follows_150 (by decide) (fun c_19 => ?_) (fun c_19 => ?_)
    · refine lv_iconst (v := 1) hx hb dX2_follows_164 (by decide) ?_
      refine lv_goto (tgt := 169) hx hb dX2_follows_165 (by decide) ?_
      have hsp : 1 = um_fls p1 p2 := by first | (simp only [um_fls, eq_true k_18, eq_true c_19, if_true, if_false]; done) | (simp [um_fls, k_18, c_19]; done)
      exact W.zret (v := 1) hx hb hr (us_nz (by decide)) (fun t ht hW => ⟨⟨1, (), rfl, hsp, trivial⟩, hS.F ht⟩) hS.2.2 dX2_follows_169
    · refine lv_iload_n hx hb dX2_follows_153 rfl (lv_at hl 1 rfl) ?_
      refine lv_iconst (v := 1) hx hb dX2_follows_154 (by decide) ?_
      refine lv_icmp_eq (tgt := 164) hx hb dX2_follows_155 (by decide) (fun c_20 => ?_) (fun c_20 => ?_)
      · refine lv_iconst (v := 1) hx hb dX2_follows_164 (by decide) ?_
        refine lv_goto (tgt := 169) hx hb dX2_follows_165 (by decide) ?_
        have hsp : 1 = um_fls p1 p2 := by first | (simp only [um_fls, eq_true k_18, eq_false c_19, eq_true c_20, if_true, if_false]; done) | (simp [um_fls, k_18, c_19, c_20]; done)
        exact W.zret (v := 1) hx hb hr (us_nz (by decide)) (fun t ht hW => ⟨⟨1, (), rfl, hsp, trivial⟩, hS.F ht⟩) hS.2.2 dX2_follows_169
      · refine lv_iload_n hx hb dX2_follows_158 rfl (lv_at hl 1 rfl) ?_
        refine lv_bipush (v := 7) hx hb dX2_follows_159 (by decide) ?_
        refine lv_icmp_ne (tgt := 168) hx hb dX2_follows_161 (by decide) (fun c_21 => ?_) (fun c_21 => ?_)
        · refine lv_iconst (v := 0) hx hb dX2_follows_168 (by decide) ?_
          have hsp : 0 = um_fls p1 p2 := by first | (simp only [um_fls, eq_true k_18, eq_false c_19, eq_false c_20, eq_false c_21, if_true, if_false]; done) | (simp [um_fls, k_18, c_19, c_20, c_21]; done)
          exact W.zret (v := 0) hx hb hr (us_nz (by decide)) (fun t ht hW => ⟨⟨0, (), rfl, hsp, trivial⟩, hS.F ht⟩) hS.2.2 dX2_follows_169
        · refine lv_iconst (v := 1) hx hb dX2_follows_164 (by decide) ?_
          refine lv_goto (tgt := 169) hx hb dX2_follows_165 (by decide) ?_
          have hsp : 1 = um_fls p1 p2 := by first | (simp only [um_fls, eq_true k_18, eq_false c_19, eq_false c_20, eq_true c_21, if_true, if_false]; done) | (simp [um_fls, k_18, c_19, c_20, c_21]; done)
          exact W.zret (v := 1) hx hb hr (us_nz (by decide)) (fun t ht hW => ⟨⟨1, (), rfl, hsp, trivial⟩, hS.F ht⟩) hS.2.2 dX2_follows_169
  by_cases k_22 : p1 = 7
  · refine lv_tableIn (tgt := 170) hx hb dX2_follows_1 (by rw [k_22]; decide) (by rw [k_22]; decide) (by rw [k_22]; rfl) (by decide) ?_
    refine lv_iload_n hx hb dX2_follows_170 rfl (lv_at hl 1 rfl) ?_
    refine lv_if_eq (tgt := 180) hx hb dX2_follows_171 (by decide) (fun c_23 => ?_) (fun c_23 => ?_)
    · refine lv_iconst (v := 1) hx hb dX2_follows_180 (by decide) ?_
      refine lv_goto (tgt := 185) hx hb dX2_follows_181 (by decide) ?_
      have hsp : 1 = um_fls p1 p2 := by first | (simp only [um_fls, eq_true k_22, eq_true c_23, if_true, if_false]; done) | (simp [um_fls, k_22, c_23]; done)
      exact W.zret (v := 1) hx hb hr (us_nz (by decide)) (fun t ht hW => ⟨⟨1, (), rfl, hsp, trivial⟩, hS.F ht⟩) hS.2.2 dX2_follows_185
    · refine lv_iload_n hx hb dX2_follows_174 rfl (lv_at hl 1 rfl) ?_
      refine lv_bipush (v := 6) hx hb dX2_follows_175 (by decide) ?_
      refine lv_icmp_ne (tgt := 184) hx hb dX2_follows_177 (by decide) (fun c_24 => ?_) (fun c_24 => ?_)
      · refine lv_iconst (v := 0) hx hb dX2_follows_184 (by decide) ?_
        have hsp : 0 = um_fls p1 p2 := by first | (simp only [um_fls, eq_true k_22, eq_false c_23, eq_false c_24, if_true, if_false]; done) | (simp [um_fls, k_22, c_23, c_24]; done)
        exact W.zret (v := 0) hx hb hr (us_nz (by decide)) (fun t ht hW => ⟨⟨0, (), rfl, hsp, trivial⟩, hS.F ht⟩) hS.2.2 dX2_follows_185
      · refine lv_iconst (v := 1) hx hb dX2_follows_180 (by decide) ?_
        refine lv_goto (tgt := 185) hx hb dX2_follows_181 (by decide) ?_
        have hsp : 1 = um_fls p1 p2 := by first | (simp only [um_fls, eq_true k_22, eq_false c_23, eq_true c_24, if_true, if_false]; done) | (simp [um_fls, k_22, c_23, c_24]; done)
        exact W.zret (v := 1) hx hb hr (us_nz (by decide)) (fun t ht hW => ⟨⟨1, (), rfl, hsp, trivial⟩, hS.F ht⟩) hS.2.2 dX2_follows_185
  by_cases k_25 : p1 = 8
  · refine lv_tableIn (tgt := 186) hx hb dX2_follows_1 (by rw [k_25]; decide) (by rw [k_25]; decide) (by rw [k_25]; rfl) (by decide) ?_
    refine lv_iload_n hx hb dX2_follows_186 rfl (lv_at hl 1 rfl) ?_
    refine lv_if_eq (tgt := 196) hx hb dX2_follows_187 (by decide) (fun c_26 => ?_) (fun c_26 => ?_)
    · refine lv_iconst (v := 1) hx hb dX2_follows_196 (by decide) ?_
      refine lv_goto (tgt := 201) hx hb dX2_follows_197 (by decide) ?_
      have hsp : 1 = um_fls p1 p2 := by first | (simp only [um_fls, eq_true k_25, eq_true c_26, if_true, if_false]; done) | (simp [um_fls, k_25, c_26]; done)
      exact W.zret (v := 1) hx hb hr (us_nz (by decide)) (fun t ht hW => ⟨⟨1, (), rfl, hsp, trivial⟩, hS.F ht⟩) hS.2.2 dX2_follows_201
    · refine lv_iload_n hx hb dX2_follows_190 rfl (lv_at hl 1 rfl) ?_
      refine lv_bipush (v := 9) hx hb dX2_follows_191 (by decide) ?_
      refine lv_icmp_ne (tgt := 200) hx hb dX2_follows_193 (by decide) (fun c_27 => ?_) (fun c_27 => ?_)
      · refine lv_iconst (v := 0) hx hb dX2_follows_200 (by decide) ?_
        have hsp : 0 = um_fls p1 p2 := by first | (simp only [um_fls, eq_true k_25, eq_false c_26, eq_false c_27, if_true, if_false]; done) | (simp [um_fls, k_25, c_26, c_27]; done)
        exact W.zret (v := 0) hx hb hr (us_nz (by decide)) (fun t ht hW => ⟨⟨0, (), rfl, hsp, trivial⟩, hS.F ht⟩) hS.2.2 dX2_follows_201
      · refine lv_iconst (v := 1) hx hb dX2_follows_196 (by decide) ?_
        refine lv_goto (tgt := 201) hx hb dX2_follows_197 (by decide) ?_
        have hsp : 1 = um_fls p1 p2 := by first | (simp only [um_fls, eq_true k_25, eq_false c_26, eq_true c_27, if_true, if_false]; done) | (simp [um_fls, k_25, c_26, c_27]; done)
        exact W.zret (v := 1) hx hb hr (us_nz (by decide)) (fun t ht hW => ⟨⟨1, (), rfl, hsp, trivial⟩, hS.F ht⟩) hS.2.2 dX2_follows_201
  by_cases k_28 : p1 = 9
  · refine lv_tableIn (tgt := 202) hx hb dX2_follows_1 (by rw [k_28]; decide) (by rw [k_28]; decide) (by rw [k_28]; rfl) (by decide) ?_
    refine lv_iload_n hx hb dX2_follows_202 rfl (lv_at hl 1 rfl) ?_
    refine lv_if_eq (tgt := 212) hx hb dX2_follows_203 (by decide) (fun c_29 => ?_) (fun c_29 => ?_)
    · refine lv_iconst (v := 1) hx hb dX2_follows_212 (by decide) ?_
      refine lv_goto (tgt := 217) hx hb dX2_follows_213 (by decide) ?_
      have hsp : 1 = um_fls p1 p2 := by first | (simp only [um_fls, eq_true k_28, eq_true c_29, if_true, if_false]; done) | (simp [um_fls, k_28, c_29]; done)
      exact W.zret (v := 1) hx hb hr (us_nz (by decide)) (fun t ht hW => ⟨⟨1, (), rfl, hsp, trivial⟩, hS.F ht⟩) hS.2.2 dX2_follows_217
    · refine lv_iload_n hx hb dX2_follows_206 rfl (lv_at hl 1 rfl) ?_
      refine lv_bipush (v := 8) hx hb dX2_follows_207 (by decide) ?_
      refine lv_icmp_ne (tgt := 216) hx hb dX2_follows_209 (by decide) (fun c_30 => ?_) (fun c_30 => ?_)
      · refine lv_iconst (v := 0) hx hb dX2_follows_216 (by decide) ?_
        have hsp : 0 = um_fls p1 p2 := by first | (simp only [um_fls, eq_true k_28, eq_false c_29, eq_false c_30, if_true, if_false]; done) | (simp [um_fls, k_28, c_29, c_30]; done)
        exact W.zret (v := 0) hx hb hr (us_nz (by decide)) (fun t ht hW => ⟨⟨0, (), rfl, hsp, trivial⟩, hS.F ht⟩) hS.2.2 dX2_follows_217
      · refine lv_iconst (v := 1) hx hb dX2_follows_212 (by decide) ?_
        refine lv_goto (tgt := 217) hx hb dX2_follows_213 (by decide) ?_
        have hsp : 1 = um_fls p1 p2 := by first | (simp only [um_fls, eq_true k_28, eq_false c_29, eq_true c_30, if_true, if_false]; done) | (simp [um_fls, k_28, c_29, c_30]; done)
        exact W.zret (v := 1) hx hb hr (us_nz (by decide)) (fun t ht hW => ⟨⟨1, (), rfl, hsp, trivial⟩, hS.F ht⟩) hS.2.2 dX2_follows_217
  have hout_1 : p1.toInt < 0 ∨ 9 < p1.toInt := us_sw (lo := 0) (hi := 9) (fun z h1 h2 => by
    rcases (show z = 0 ∨ z = 1 ∨ z = 2 ∨ z = 3 ∨ z = 4 ∨ z = 5 ∨ z = 6 ∨ z = 7 ∨ z = 8 ∨ z = 9 by omega) with rfl | rfl | rfl | rfl | rfl | rfl | rfl | rfl | rfl | rfl
    · exact fun e => k_1 (e.trans (by decide))
    · exact fun e => k_4 (e.trans (by decide))
    · exact fun e => k_7 (e.trans (by decide))
    · exact fun e => k_10 (e.trans (by decide))
    · exact fun e => k_13 (e.trans (by decide))
    · exact fun e => k_15 (e.trans (by decide))
    · exact fun e => k_18 (e.trans (by decide))
    · exact fun e => k_22 (e.trans (by decide))
    · exact fun e => k_25 (e.trans (by decide))
    · exact fun e => k_28 (e.trans (by decide)))
  refine lv_tableOut (tgt := 218) hx hb dX2_follows_1 hout_1 (by decide) ?_
  refine lv_iload_n hx hb dX2_follows_218 rfl (lv_at hl 1 rfl) ?_
  refine lv_if_eq (tgt := 228) hx hb dX2_follows_219 (by decide) (fun c_31 => ?_) (fun c_31 => ?_)
  · refine lv_iconst (v := 1) hx hb dX2_follows_228 (by decide) ?_
    refine lv_goto (tgt := 233) hx hb dX2_follows_229 (by decide) ?_
    have hsp : 1 = um_fls p1 p2 := by first | (simp only [um_fls, eq_false k_1, eq_false k_4, eq_false k_7, eq_false k_10, eq_false k_13, eq_false k_15, eq_false k_18, eq_false k_22, eq_false k_25, eq_false k_28, eq_true c_31, if_true, if_false]; done) | (simp [um_fls, k_1, k_4, k_7, k_10, k_13, k_15, k_18, k_22, k_25, k_28, c_31]; done)
    exact W.zret (v := 1) hx hb hr (us_nz (by decide)) (fun t ht hW => ⟨⟨1, (), rfl, hsp, trivial⟩, hS.F ht⟩) hS.2.2 dX2_follows_233
  · refine lv_iload_n hx hb dX2_follows_222 rfl (lv_at hl 1 rfl) ?_
    refine lv_bipush (v := 9) hx hb dX2_follows_223 (by decide) ?_
    refine lv_icmp_ne (tgt := 232) hx hb dX2_follows_225 (by decide) (fun c_32 => ?_) (fun c_32 => ?_)
    · refine lv_iconst (v := 0) hx hb dX2_follows_232 (by decide) ?_
      have hsp : 0 = um_fls p1 p2 := by first | (simp only [um_fls, eq_false k_1, eq_false k_4, eq_false k_7, eq_false k_10, eq_false k_13, eq_false k_15, eq_false k_18, eq_false k_22, eq_false k_25, eq_false k_28, eq_false c_31, eq_false c_32, if_true, if_false]; done) | (simp [um_fls, k_1, k_4, k_7, k_10, k_13, k_15, k_18, k_22, k_25, k_28, c_31, c_32]; done)
      exact W.zret (v := 0) hx hb hr (us_nz (by decide)) (fun t ht hW => ⟨⟨0, (), rfl, hsp, trivial⟩, hS.F ht⟩) hS.2.2 dX2_follows_233
    · refine lv_iconst (v := 1) hx hb dX2_follows_228 (by decide) ?_
      refine lv_goto (tgt := 233) hx hb dX2_follows_229 (by decide) ?_
      have hsp : 1 = um_fls p1 p2 := by first | (simp only [um_fls, eq_false k_1, eq_false k_4, eq_false k_7, eq_false k_10, eq_false k_13, eq_false k_15, eq_false k_18, eq_false k_22, eq_false k_25, eq_false k_28, eq_false c_31, eq_true c_32, if_true, if_false]; done) | (simp [um_fls, k_1, k_4, k_7, k_10, k_13, k_15, k_18, k_22, k_25, k_28, c_31, c_32]; done)
      exact W.zret (v := 1) hx hb hr (us_nz (by decide)) (fun t ht hW => ⟨⟨1, (), rfl, hsp, trivial⟩, hS.F ht⟩) hS.2.2 dX2_follows_233
set_option maxHeartbeats 8000000 in
set_option maxRecDepth 100000 in
theorem kt_X2_spend (l : Launch) (dC : Nat → ClassId) (dI : Nat → Nat → Nat) (md : Nat → Nat) (cI : ClassId) (sz : Nat) (th : Int32) (nu nm : Nat) (sk : Int32) (G : Nat → Nat → Int32) (v : Nat → Int32) (p1 : Int32) : Met l yX2_spend wsX2_spend ({ frames := 0, cells := 0, slots := 0, locals := 0 }) (va_Pc [.ref (md 0), .int p1] (um_P dC dI md cI th nu nm sk G v sz)) (va_Qv (fun _ : Unit => True) (fun _ t => um_B dC dI md cI th nu nm sk G (um_spend v p1) t) (us_AA (um_ads md) sz)) 0 0 (us_AA (um_ads md) sz) := by
  refine Met.ofW (cc := cX2_spend) (maxL := 3) (ret := none) (by decide) rfl ?_
  intro p e s m args below meth c s₁ B hml hv
  obtain ⟨rfl, hsz, hP, hK, hD⟩ := hv
  have hx := B.exec
  have hb := B.bytes
  have hr := B.returns
  have htb := us_htb (atoms_spec (ws := wsX2_spend) B.pre)
  have hown : s.vm.findClass RX2 = some m.cls := findClass_of_methodNamed B.named
  have hlocks := B.notSynchronized
  subst hsz
  have hA : ∀ q : Nat, s.heap.size ≤ q → (us_AA (um_ads md) s.heap.size) q := fun q h => Or.inr h
  have hS : va_S (us_AA (um_ads md) s.heap.size) s.heap s.heap [] := va_S.rf
  have hP : va_P (dC, dI) vwCl (um_W md cI th nu nm sk G v) s.heap := hP
  have hD : va_D (us_AA (um_ads md) s.heap.size) (um_W md cI th nu nm sk G v) := us_D_aa hD
  have hl := lv_entry ([.ref (md 0), .int p1]) (n := 3) (Nat.le_of_ble_eq_true rfl)
  rw [lg_entry_eq]
  generalize (lg_sl ([.ref (md 0), .int p1]) ++ List.replicate (3 - (lg_sl ([.ref (md 0), .int p1])).length) Slot.unset).toArray = ls at hl ⊢
  have hl : lv_has ls 3 [(0, .ref (md 0)), (1, .int p1)] := hl
  refine lv_iload_n hx hb dX2_spend_0 rfl (lv_at hl 1 rfl) ?_
  refine lv_aload_n hx hb dX2_spend_1 rfl (lv_at hl 0 rfl) ?_
  refine um_get (x := (v 1)) hx hb htb us_inX2 hown hK hP 1 (by decide) (htb _ mw_434) rfl dX2_spend_2 ?_
  refine lv_isub hx hb dX2_spend_5 ?_
  refine lv_istore_n (lv' := [(2, .int (p1 - (v 1))), (0, .ref (md 0)), (1, .int p1)]) hx hb dX2_spend_6 rfl hl (by decide) rfl (fun ls hl => ?_)
  refine lv_aload_n hx hb dX2_spend_7 rfl (lv_at hl 1 rfl) ?_
  refine um_get (x := (v 0)) hx hb htb us_inX2 hown hK hP 0 (by decide) (htb _ mw_433) rfl dX2_spend_8 ?_
  refine lv_iconst (v := 2) hx hb dX2_spend_11 (by decide) ?_
  refine lv_icmp_eq (tgt := 24) hx hb dX2_spend_12 (by decide) (fun c_1 => ?_) (fun c_1 => ?_)
  · refine lv_aload_n hx hb dX2_spend_24 rfl (lv_at hl 1 rfl) ?_
    refine lv_dup hx hb dX2_spend_25 rfl ?_
    refine um_get (x := (v 7)) hx hb htb us_inX2 hown hK hP 7 (by decide) (htb _ mw_440) rfl dX2_spend_26 ?_
    refine lv_iload_n hx hb dX2_spend_29 rfl (lv_at hl 0 rfl) ?_
    refine lv_iadd hx hb dX2_spend_30 ?_
    refine um_put hx hb htb us_inX2 hown hK hP hD hS 7 (by decide) (htb _ mw_440) dX2_spend_31 (fun H_2 locs hP hD hS => ?_)
    have hP : va_P (dC, dI) vwCl (um_W md cI th nu nm sk G (upd v 7 ((v 7) + (p1 - (v 1))))) H_2 := hP
    have hD : va_D (us_AA (um_ads md) s.heap.size) (um_W md cI th nu nm sk G (upd v 7 ((v 7) + (p1 - (v 1))))) := hD
    refine lv_aload_n hx hb dX2_spend_34 rfl (lv_at hl 1 rfl) ?_
    refine um_get (x := (v 0)) hx hb htb us_inX2 hown hK hP 0 (by decide) (htb _ mw_433) rfl dX2_spend_35 ?_
    refine lv_if_eq (tgt := 50) hx hb dX2_spend_38 (by decide) (fun c_3 => ?_) (fun c_3 => ?_)
    · exact absurd (c_1.symm.trans c_3) (by decide)
    · refine lv_aload_n hx hb dX2_spend_41 rfl (lv_at hl 1 rfl) ?_
      refine um_get (x := (v 0)) hx hb htb us_inX2 hown hK hP 0 (by decide) (htb _ mw_433) rfl dX2_spend_42 ?_
      refine lv_bipush (v := 6) hx hb dX2_spend_45 (by decide) ?_
      refine lv_icmp_le (tgt := 61) hx hb dX2_spend_47 (by decide) (fun c_4 => ?_) (fun c_4 => ?_)
      · exact W.vret hx hb hr (fun t ht hW => ⟨⟨(), rfl, trivial, um_B_of ht hP rfl rfl rfl rfl rfl (by first | (simp only [um_spend, eq_true c_1, eq_false c_3, eq_true c_4, if_true, if_false]; done) | (simp [um_spend, c_1, c_3, c_4]; done))⟩, hS.F ht⟩) hS.2.2 dX2_spend_61
      · exact absurd (by rw [c_1]; decide) c_4
  · refine lv_aload_n hx hb dX2_spend_15 rfl (lv_at hl 1 rfl) ?_
    refine um_get (x := (v 0)) hx hb htb us_inX2 hown hK hP 0 (by decide) (htb _ mw_433) rfl dX2_spend_16 ?_
    refine lv_bipush (v := 6) hx hb dX2_spend_19 (by decide) ?_
    refine lv_icmp_ne (tgt := 34) hx hb dX2_spend_21 (by decide) (fun c_5 => ?_) (fun c_5 => ?_)
    · refine lv_aload_n hx hb dX2_spend_34 rfl (lv_at hl 1 rfl) ?_
      refine um_get (x := (v 0)) hx hb htb us_inX2 hown hK hP 0 (by decide) (htb _ mw_433) rfl dX2_spend_35 ?_
      refine lv_if_eq (tgt := 50) hx hb dX2_spend_38 (by decide) (fun c_6 => ?_) (fun c_6 => ?_)
      · refine lv_iload_n hx hb dX2_spend_50 rfl (lv_at hl 0 rfl) ?_
        refine lv_bipush (v := 30) hx hb dX2_spend_51 (by decide) ?_
        refine lv_icmp_lt (tgt := 61) hx hb dX2_spend_53 (by decide) (fun c_7 => ?_) (fun c_7 => ?_)
        · exact W.vret hx hb hr (fun t ht hW => ⟨⟨(), rfl, trivial, um_B_of ht hP rfl rfl rfl rfl rfl (by first | (simp only [um_spend, eq_false c_1, eq_false c_5, eq_true c_6, eq_true c_7, if_true, if_false]; done) | (simp [um_spend, c_1, c_5, c_6, c_7]; done))⟩, hS.F ht⟩) hS.2.2 dX2_spend_61
        · refine lv_aload_n hx hb dX2_spend_56 rfl (lv_at hl 1 rfl) ?_
          refine lv_iconst (v := 0) hx hb dX2_spend_57 (by decide) ?_
          refine um_put hx hb htb us_inX2 hown hK hP hD hS 7 (by decide) (htb _ mw_440) dX2_spend_58 (fun H_8 locs hP hD hS => ?_)
          have hP : va_P (dC, dI) vwCl (um_W md cI th nu nm sk G (upd v 7 0)) H_8 := hP
          have hD : va_D (us_AA (um_ads md) s.heap.size) (um_W md cI th nu nm sk G (upd v 7 0)) := hD
          exact W.vret hx hb hr (fun t ht hW => ⟨⟨(), rfl, trivial, um_B_of ht hP rfl rfl rfl rfl rfl (by first | (simp only [um_spend, eq_false c_1, eq_false c_5, eq_true c_6, eq_false c_7, if_true, if_false]; done) | (simp [um_spend, c_1, c_5, c_6, c_7]; done))⟩, hS.F ht⟩) hS.2.2 dX2_spend_61
      · refine lv_aload_n hx hb dX2_spend_41 rfl (lv_at hl 1 rfl) ?_
        refine um_get (x := (v 0)) hx hb htb us_inX2 hown hK hP 0 (by decide) (htb _ mw_433) rfl dX2_spend_42 ?_
        refine lv_bipush (v := 6) hx hb dX2_spend_45 (by decide) ?_
        refine lv_icmp_le (tgt := 61) hx hb dX2_spend_47 (by decide) (fun c_9 => ?_) (fun c_9 => ?_)
        · exact W.vret hx hb hr (fun t ht hW => ⟨⟨(), rfl, trivial, um_B_of ht hP rfl rfl rfl rfl rfl (by first | (simp only [um_spend, eq_false c_1, eq_false c_5, eq_false c_6, eq_true c_9, if_true, if_false]; done) | (simp [um_spend, c_1, c_5, c_6, c_9]; done))⟩, hS.F ht⟩) hS.2.2 dX2_spend_61
        · refine lv_iload_n hx hb dX2_spend_50 rfl (lv_at hl 0 rfl) ?_
          refine lv_bipush (v := 30) hx hb dX2_spend_51 (by decide) ?_
          refine lv_icmp_lt (tgt := 61) hx hb dX2_spend_53 (by decide) (fun c_10 => ?_) (fun c_10 => ?_)
          · exact W.vret hx hb hr (fun t ht hW => ⟨⟨(), rfl, trivial, um_B_of ht hP rfl rfl rfl rfl rfl (by first | (simp only [um_spend, eq_false c_1, eq_false c_5, eq_false c_6, eq_false c_9, eq_true c_10, if_true, if_false]; done) | (simp [um_spend, c_1, c_5, c_6, c_9, c_10]; done))⟩, hS.F ht⟩) hS.2.2 dX2_spend_61
          · refine lv_aload_n hx hb dX2_spend_56 rfl (lv_at hl 1 rfl) ?_
            refine lv_iconst (v := 0) hx hb dX2_spend_57 (by decide) ?_
            refine um_put hx hb htb us_inX2 hown hK hP hD hS 7 (by decide) (htb _ mw_440) dX2_spend_58 (fun H_11 locs hP hD hS => ?_)
            have hP : va_P (dC, dI) vwCl (um_W md cI th nu nm sk G (upd v 7 0)) H_11 := hP
            have hD : va_D (us_AA (um_ads md) s.heap.size) (um_W md cI th nu nm sk G (upd v 7 0)) := hD
            exact W.vret hx hb hr (fun t ht hW => ⟨⟨(), rfl, trivial, um_B_of ht hP rfl rfl rfl rfl rfl (by first | (simp only [um_spend, eq_false c_1, eq_false c_5, eq_false c_6, eq_false c_9, eq_false c_10, if_true, if_false]; done) | (simp [um_spend, c_1, c_5, c_6, c_9, c_10]; done))⟩, hS.F ht⟩) hS.2.2 dX2_spend_61
    · refine lv_aload_n hx hb dX2_spend_24 rfl (lv_at hl 1 rfl) ?_
      refine lv_dup hx hb dX2_spend_25 rfl ?_
      refine um_get (x := (v 7)) hx hb htb us_inX2 hown hK hP 7 (by decide) (htb _ mw_440) rfl dX2_spend_26 ?_
      refine lv_iload_n hx hb dX2_spend_29 rfl (lv_at hl 0 rfl) ?_
      refine lv_iadd hx hb dX2_spend_30 ?_
      refine um_put hx hb htb us_inX2 hown hK hP hD hS 7 (by decide) (htb _ mw_440) dX2_spend_31 (fun H_12 locs hP hD hS => ?_)
      have hP : va_P (dC, dI) vwCl (um_W md cI th nu nm sk G (upd v 7 ((v 7) + (p1 - (v 1))))) H_12 := hP
      have hD : va_D (us_AA (um_ads md) s.heap.size) (um_W md cI th nu nm sk G (upd v 7 ((v 7) + (p1 - (v 1))))) := hD
      refine lv_aload_n hx hb dX2_spend_34 rfl (lv_at hl 1 rfl) ?_
      refine um_get (x := (v 0)) hx hb htb us_inX2 hown hK hP 0 (by decide) (htb _ mw_433) rfl dX2_spend_35 ?_
      refine lv_if_eq (tgt := 50) hx hb dX2_spend_38 (by decide) (fun c_13 => ?_) (fun c_13 => ?_)
      · exact absurd (c_5.symm.trans c_13) (by decide)
      · refine lv_aload_n hx hb dX2_spend_41 rfl (lv_at hl 1 rfl) ?_
        refine um_get (x := (v 0)) hx hb htb us_inX2 hown hK hP 0 (by decide) (htb _ mw_433) rfl dX2_spend_42 ?_
        refine lv_bipush (v := 6) hx hb dX2_spend_45 (by decide) ?_
        refine lv_icmp_le (tgt := 61) hx hb dX2_spend_47 (by decide) (fun c_14 => ?_) (fun c_14 => ?_)
        · exact W.vret hx hb hr (fun t ht hW => ⟨⟨(), rfl, trivial, um_B_of ht hP rfl rfl rfl rfl rfl (by first | (simp only [um_spend, eq_false c_1, eq_true c_5, eq_false c_13, eq_true c_14, if_true, if_false]; done) | (simp [um_spend, c_1, c_5, c_13, c_14]; done))⟩, hS.F ht⟩) hS.2.2 dX2_spend_61
        · exact absurd (by rw [c_5]; decide) c_14
set_option maxHeartbeats 8000000 in
set_option maxRecDepth 100000 in
theorem kt_X2_become (l : Launch) (dC : Nat → ClassId) (dI : Nat → Nat → Nat) (md : Nat → Nat) (cI : ClassId) (sz : Nat) (th : Int32) (nu nm : Nat) (sk : Int32) (G : Nat → Nat → Int32) (v : Nat → Int32) (p1 : Nat) (hp1 : p1 < 200) : Met l yX2_become wsX2_become ({ frames := 1, cells := 0, slots := 0, locals := 22 }) (va_Pc [.ref (md 0), .int (nI p1)] (um_P dC dI md cI th nu nm sk G v sz)) (va_Qv (fun _ : Unit => True) (fun _ t => um_B dC dI md cI th nu nm sk G (um_become G v p1) t) (us_AA (um_ads md) sz)) 0 0 (us_AA (um_ads md) sz) := by
  refine Met.ofW (cc := cX2_become) (maxL := 2) (ret := none) (by decide) rfl ?_
  intro p e s m args below meth c s₁ B hml hv
  obtain ⟨rfl, hsz, hP, hK, hD⟩ := hv
  have hx := B.exec
  have hb := B.bytes
  have hr := B.returns
  have htb := us_htb (atoms_spec (ws := wsX2_become) B.pre)
  have hown : s.vm.findClass RX2 = some m.cls := findClass_of_methodNamed B.named
  have hlocks := B.notSynchronized
  subst hsz
  have hA : ∀ q : Nat, s.heap.size ≤ q → (us_AA (um_ads md) s.heap.size) q := fun q h => Or.inr h
  have hS : va_S (us_AA (um_ads md) s.heap.size) s.heap s.heap [] := va_S.rf
  have hP : va_P (dC, dI) vwCl (um_W md cI th nu nm sk G v) s.heap := hP
  have hD : va_D (us_AA (um_ads md) s.heap.size) (um_W md cI th nu nm sk G v) := us_D_aa hD
  have hl := lv_entry ([.ref (md 0), .int (nI p1)]) (n := 2) (Nat.le_of_ble_eq_true rfl)
  rw [lg_entry_eq]
  generalize (lg_sl ([.ref (md 0), .int (nI p1)]) ++ List.replicate (2 - (lg_sl ([.ref (md 0), .int (nI p1)])).length) Slot.unset).toArray = ls at hl ⊢
  have hl : lv_has ls 2 [(0, .ref (md 0)), (1, .int (nI p1))] := hl
  refine lv_aload_n hx hb dX2_become_0 rfl (lv_at hl 0 rfl) ?_
  refine lv_aload_n hx hb dX2_become_1 rfl (lv_at hl 0 rfl) ?_
  refine va_get (D := (dC, dI)) (ci := 2) (v := .ref (md 4)) (C := RX2) (T := TX2) (N := 23) hx hb htb us_inX2 hown hK hP 0 rfl rfl 6 (by decide) (htb _ mw_429) (fun _ h9 => h9) rfl dX2_become_2 ?_
  refine lv_iload_n hx hb dX2_become_5 rfl (lv_at hl 1 rfl) ?_
  refine us_iald (f := (G 3)) hx hb hK hP 4 0 rfl rfl hp1 (by decide) dX2_become_6 ?_
  refine va_callv (va_runV (As := [.int (G 3 p1)]) (rest := []) ⟨hx, hb, hml, hown, htb⟩ (kt_X2_spend l dC dI md cI s.heap.size th nu nm sk G v (G 3 p1)) (cwV 1 htb (us_gV mw_551 mw_553 mw_27 mw_34 mw_554) rfl rfl rfl (by decide +kernel) ⟨Nat.le_of_ble_eq_true rfl, Nat.le_of_ble_eq_true rfl⟩) ⟨um_P_blind, va_recv hK hP (ci := 2) (q0 := 0) rfl rfl, fun U hU hW => ⟨rfl, um_P_at hP hK hD hU hW⟩⟩ rfl rfl hl.1 rfl (lv_room (Nat.le_of_ble_eq_true rfl)) dX2_become_7 ⟨Nat.le_of_ble_eq_true rfl, Nat.le_of_ble_eq_true rfl⟩) hS (fun q _ h => us_AA_le hS q h) (us_AA_le hS) (fun _ t_3 H_1 locs ht hvm hw hB hz1 hk1 hS => ?_)
  have hP := um_B_use ht hB
  have hD : va_D (us_AA (um_ads md) s.heap.size) (um_W md cI th nu nm sk G (um_spend v (G 3 p1))) := us_D_of (by rw [um_W_adr, um_W_adr]) hD
  have hP : va_P (dC, dI) vwCl (um_W md cI th nu nm sk G (um_spend v (G 3 p1))) H_1 := hP
  refine lv_aload_n hx hb dX2_become_10 rfl (lv_at hl 0 rfl) ?_
  refine lv_aload_n hx hb dX2_become_11 rfl (lv_at hl 0 rfl) ?_
  refine va_get (D := (dC, dI)) (ci := 2) (v := .ref (md 5)) (C := RX2) (T := TX2) (N := 23) hx hb htb us_inX2 hown hK hP 0 rfl rfl 7 (by decide) (htb _ mw_430) (fun _ h9 => h9) rfl dX2_become_12 ?_
  refine lv_iload_n hx hb dX2_become_15 rfl (lv_at hl 1 rfl) ?_
  refine us_iald (f := (G 4)) hx hb hK hP 5 0 rfl rfl hp1 (by decide) dX2_become_16 ?_
  refine um_put hx hb htb us_inX2 hown hK hP hD hS 0 (by decide) (htb _ mw_433) dX2_become_17 (fun H_4 locs hP hD hS => ?_)
  have hP : va_P (dC, dI) vwCl (um_W md cI th nu nm sk G (upd (um_spend v (G 3 p1)) 0 (G 4 p1))) H_4 := hP
  have hD : va_D (us_AA (um_ads md) s.heap.size) (um_W md cI th nu nm sk G (upd (um_spend v (G 3 p1)) 0 (G 4 p1))) := hD
  refine lv_aload_n hx hb dX2_become_20 rfl (lv_at hl 0 rfl) ?_
  refine lv_aload_n hx hb dX2_become_21 rfl (lv_at hl 0 rfl) ?_
  refine va_get (D := (dC, dI)) (ci := 2) (v := .ref (md 4)) (C := RX2) (T := TX2) (N := 23) hx hb htb us_inX2 hown hK hP 0 rfl rfl 6 (by decide) (htb _ mw_429) (fun _ h9 => h9) rfl dX2_become_22 ?_
  refine lv_iload_n hx hb dX2_become_25 rfl (lv_at hl 1 rfl) ?_
  refine us_iald (f := (G 3)) hx hb hK hP 4 0 rfl rfl hp1 (by decide) dX2_become_26 ?_
  refine um_put hx hb htb us_inX2 hown hK hP hD hS 1 (by decide) (htb _ mw_434) dX2_become_27 (fun H_5 locs hP hD hS => ?_)
  have hP : va_P (dC, dI) vwCl (um_W md cI th nu nm sk G (upd (upd (um_spend v (G 3 p1)) 0 (G 4 p1)) 1 (G 3 p1))) H_5 := hP
  have hD : va_D (us_AA (um_ads md) s.heap.size) (um_W md cI th nu nm sk G (upd (upd (um_spend v (G 3 p1)) 0 (G 4 p1)) 1 (G 3 p1))) := hD
  refine lv_aload_n hx hb dX2_become_30 rfl (lv_at hl 0 rfl) ?_
  refine um_get (x := (G 4 p1)) hx hb htb us_inX2 hown hK hP 0 (by decide) (htb _ mw_433) rfl dX2_become_31 ?_
  refine lv_if_ne (tgt := 47) hx hb dX2_become_34 (by decide) (fun c_6 => ?_) (fun c_6 => ?_)
  · refine lv_aload_n hx hb dX2_become_47 rfl (lv_at hl 0 rfl) ?_
    refine um_get (x := (G 4 p1)) hx hb htb us_inX2 hown hK hP 0 (by decide) (htb _ mw_433) rfl dX2_become_48 ?_
    refine lv_iconst (v := 1) hx hb dX2_become_51 (by decide) ?_
    refine lv_icmp_ne (tgt := 65) hx hb dX2_become_52 (by decide) (fun c_7 => ?_) (fun c_7 => ?_)
    · refine lv_aload_n hx hb dX2_become_65 rfl (lv_at hl 0 rfl) ?_
      refine um_get (x := (G 4 p1)) hx hb htb us_inX2 hown hK hP 0 (by decide) (htb _ mw_433) rfl dX2_become_66 ?_
      refine lv_iconst (v := 3) hx hb dX2_become_69 (by decide) ?_
      refine lv_icmp_ne (tgt := 83) hx hb dX2_become_70 (by decide) (fun c_8 => ?_) (fun c_8 => ?_)
      · exact W.vret hx hb hr (fun t ht hW => ⟨⟨(), rfl, trivial, um_B_of ht hP rfl rfl rfl rfl rfl (by first | (simp only [um_become, um_be2, eq_false c_6, eq_false c_7, eq_false c_8, if_true, if_false]; done) | (simp [um_become, um_be2, c_6, c_7, c_8]; done))⟩, hS.F ht⟩) hS.2.2 dX2_become_83
      · refine lv_aload_n hx hb dX2_become_73 rfl (lv_at hl 0 rfl) ?_
        refine lv_iload_n hx hb dX2_become_74 rfl (lv_at hl 1 rfl) ?_
        refine um_put hx hb htb us_inX2 hown hK hP hD hS 11 (by decide) (htb _ mw_444) dX2_become_75 (fun H_9 locs hP hD hS => ?_)
        have hP : va_P (dC, dI) vwCl (um_W md cI th nu nm sk G (upd (upd (upd (um_spend v (G 3 p1)) 0 (G 4 p1)) 1 (G 3 p1)) 11 (nI p1))) H_9 := hP
        have hD : va_D (us_AA (um_ads md) s.heap.size) (um_W md cI th nu nm sk G (upd (upd (upd (um_spend v (G 3 p1)) 0 (G 4 p1)) 1 (G 3 p1)) 11 (nI p1))) := hD
        refine lv_aload_n hx hb dX2_become_78 rfl (lv_at hl 0 rfl) ?_
        refine lv_iconst (v := (-1)) hx hb dX2_become_79 (by decide) ?_
        refine um_put hx hb htb us_inX2 hown hK hP hD hS 10 (by decide) (htb _ mw_443) dX2_become_80 (fun H_10 locs hP hD hS => ?_)
        have hP : va_P (dC, dI) vwCl (um_W md cI th nu nm sk G (upd (upd (upd (upd (um_spend v (G 3 p1)) 0 (G 4 p1)) 1 (G 3 p1)) 11 (nI p1)) 10 (-1))) H_10 := hP
        have hD : va_D (us_AA (um_ads md) s.heap.size) (um_W md cI th nu nm sk G (upd (upd (upd (upd (um_spend v (G 3 p1)) 0 (G 4 p1)) 1 (G 3 p1)) 11 (nI p1)) 10 (-1))) := hD
        exact W.vret hx hb hr (fun t ht hW => ⟨⟨(), rfl, trivial, um_B_of ht hP rfl rfl rfl rfl rfl (by first | (simp only [um_become, um_be2, eq_false c_6, eq_false c_7, eq_true c_8, if_true, if_false]; done) | (simp [um_become, um_be2, c_6, c_7, c_8]; done))⟩, hS.F ht⟩) hS.2.2 dX2_become_83
    · refine lv_aload_n hx hb dX2_become_55 rfl (lv_at hl 0 rfl) ?_
      refine lv_aload_n hx hb dX2_become_56 rfl (lv_at hl 0 rfl) ?_
      refine va_get (D := (dC, dI)) (ci := 2) (v := .ref (md 6)) (C := RX2) (T := TX2) (N := 23) hx hb htb us_inX2 hown hK hP 0 rfl rfl 8 (by decide) (htb _ mw_431) (fun _ h9 => h9) rfl dX2_become_57 ?_
      refine lv_iload_n hx hb dX2_become_60 rfl (lv_at hl 1 rfl) ?_
      refine us_iald (f := (G 5)) hx hb hK hP 6 0 rfl rfl hp1 (by decide) dX2_become_61 ?_
      refine um_put hx hb htb us_inX2 hown hK hP hD hS 3 (by decide) (htb _ mw_436) dX2_become_62 (fun H_11 locs hP hD hS => ?_)
      have hP : va_P (dC, dI) vwCl (um_W md cI th nu nm sk G (upd (upd (upd (um_spend v (G 3 p1)) 0 (G 4 p1)) 1 (G 3 p1)) 3 (G 5 p1))) H_11 := hP
      have hD : va_D (us_AA (um_ads md) s.heap.size) (um_W md cI th nu nm sk G (upd (upd (upd (um_spend v (G 3 p1)) 0 (G 4 p1)) 1 (G 3 p1)) 3 (G 5 p1))) := hD
      refine lv_aload_n hx hb dX2_become_65 rfl (lv_at hl 0 rfl) ?_
      refine um_get (x := (G 4 p1)) hx hb htb us_inX2 hown hK hP 0 (by decide) (htb _ mw_433) rfl dX2_become_66 ?_
      refine lv_iconst (v := 3) hx hb dX2_become_69 (by decide) ?_
      refine lv_icmp_ne (tgt := 83) hx hb dX2_become_70 (by decide) (fun c_12 => ?_) (fun c_12 => ?_)
      · exact W.vret hx hb hr (fun t ht hW => ⟨⟨(), rfl, trivial, um_B_of ht hP rfl rfl rfl rfl rfl (by first | (simp only [um_become, um_be2, eq_false c_6, eq_true c_7, eq_false c_12, if_true, if_false]; done) | (simp [um_become, um_be2, c_6, c_7, c_12]; done))⟩, hS.F ht⟩) hS.2.2 dX2_become_83
      · exact absurd (c_7.symm.trans c_12) (by decide)
  · refine lv_aload_n hx hb dX2_become_37 rfl (lv_at hl 0 rfl) ?_
    refine lv_aload_n hx hb dX2_become_38 rfl (lv_at hl 0 rfl) ?_
    refine va_get (D := (dC, dI)) (ci := 2) (v := .ref (md 6)) (C := RX2) (T := TX2) (N := 23) hx hb htb us_inX2 hown hK hP 0 rfl rfl 8 (by decide) (htb _ mw_431) (fun _ h9 => h9) rfl dX2_become_39 ?_
    refine lv_iload_n hx hb dX2_become_42 rfl (lv_at hl 1 rfl) ?_
    refine us_iald (f := (G 5)) hx hb hK hP 6 0 rfl rfl hp1 (by decide) dX2_become_43 ?_
    refine um_put hx hb htb us_inX2 hown hK hP hD hS 2 (by decide) (htb _ mw_435) dX2_become_44 (fun H_13 locs hP hD hS => ?_)
    have hP : va_P (dC, dI) vwCl (um_W md cI th nu nm sk G (upd (upd (upd (um_spend v (G 3 p1)) 0 (G 4 p1)) 1 (G 3 p1)) 2 (G 5 p1))) H_13 := hP
    have hD : va_D (us_AA (um_ads md) s.heap.size) (um_W md cI th nu nm sk G (upd (upd (upd (um_spend v (G 3 p1)) 0 (G 4 p1)) 1 (G 3 p1)) 2 (G 5 p1))) := hD
    refine lv_aload_n hx hb dX2_become_47 rfl (lv_at hl 0 rfl) ?_
    refine um_get (x := (G 4 p1)) hx hb htb us_inX2 hown hK hP 0 (by decide) (htb _ mw_433) rfl dX2_become_48 ?_
    refine lv_iconst (v := 1) hx hb dX2_become_51 (by decide) ?_
    refine lv_icmp_ne (tgt := 65) hx hb dX2_become_52 (by decide) (fun c_14 => ?_) (fun c_14 => ?_)
    · refine lv_aload_n hx hb dX2_become_65 rfl (lv_at hl 0 rfl) ?_
      refine um_get (x := (G 4 p1)) hx hb htb us_inX2 hown hK hP 0 (by decide) (htb _ mw_433) rfl dX2_become_66 ?_
      refine lv_iconst (v := 3) hx hb dX2_become_69 (by decide) ?_
      refine lv_icmp_ne (tgt := 83) hx hb dX2_become_70 (by decide) (fun c_15 => ?_) (fun c_15 => ?_)
      · exact W.vret hx hb hr (fun t ht hW => ⟨⟨(), rfl, trivial, um_B_of ht hP rfl rfl rfl rfl rfl (by first | (simp only [um_become, um_be2, eq_true c_6, eq_false c_14, eq_false c_15, if_true, if_false]; done) | (simp [um_become, um_be2, c_6, c_14, c_15]; done))⟩, hS.F ht⟩) hS.2.2 dX2_become_83
      · exact absurd (c_6.symm.trans c_15) (by decide)
    · exact absurd (c_6.symm.trans c_14) (by decide)
set_option maxHeartbeats 8000000 in
set_option maxRecDepth 100000 in
theorem kt_X2_take (l : Launch) (dC : Nat → ClassId) (dI : Nat → Nat → Nat) (md : Nat → Nat) (cI : ClassId) (sz : Nat) (th : Int32) (nu nm : Nat) (sk : Int32) (G : Nat → Nat → Int32) (v : Nat → Int32) (p1 p2 : Nat) (hp1 : p1 < 30) (hp2 : p2 < 200) : Met l yX2_take wsX2_take ({ frames := 2, cells := 0, slots := 0, locals := 43 }) (va_Pc [.ref (md 0), .int (nI p1), .int (nI p2)] (um_P dC dI md cI th nu nm sk G v sz)) (va_Qv (fun _ : Unit => True) (fun _ t => um_B dC dI md cI th nu nm sk G (um_take G p1 p2 v) t) (us_AA (um_ads md) sz)) 0 0 (us_AA (um_ads md) sz) := by
  refine Met.ofW (cc := cX2_take) (maxL := 4) (ret := none) (by decide) rfl ?_
  intro p e s m args below meth c s₁ B hml hv
  obtain ⟨rfl, hsz, hP, hK, hD⟩ := hv
  have hx := B.exec
  have hb := B.bytes
  have hr := B.returns
  have htb := us_htb (atoms_spec (ws := wsX2_take) B.pre)
  have hown : s.vm.findClass RX2 = some m.cls := findClass_of_methodNamed B.named
  have hlocks := B.notSynchronized
  subst hsz
  have hA : ∀ q : Nat, s.heap.size ≤ q → (us_AA (um_ads md) s.heap.size) q := fun q h => Or.inr h
  have hS : va_S (us_AA (um_ads md) s.heap.size) s.heap s.heap [] := va_S.rf
  have hP : va_P (dC, dI) vwCl (um_W md cI th nu nm sk G v) s.heap := hP
  have hD : va_D (us_AA (um_ads md) s.heap.size) (um_W md cI th nu nm sk G v) := us_D_aa hD
  have hl := lv_entry ([.ref (md 0), .int (nI p1), .int (nI p2)]) (n := 4) (Nat.le_of_ble_eq_true rfl)
  rw [lg_entry_eq]
  generalize (lg_sl ([.ref (md 0), .int (nI p1), .int (nI p2)]) ++ List.replicate (4 - (lg_sl ([.ref (md 0), .int (nI p1), .int (nI p2)])).length) Slot.unset).toArray = ls at hl ⊢
  have hl : lv_has ls 4 [(0, .ref (md 0)), (1, .int (nI p1)), (2, .int (nI p2))] := hl
  refine lv_aload_n hx hb dX2_take_0 rfl (lv_at hl 0 rfl) ?_
  refine va_get (D := (dC, dI)) (ci := 2) (v := .ref (md 5)) (C := RX2) (T := TX2) (N := 23) hx hb htb us_inX2 hown hK hP 0 rfl rfl 7 (by decide) (htb _ mw_430) (fun _ h9 => h9) rfl dX2_take_1 ?_
  refine lv_iload_n hx hb dX2_take_4 rfl (lv_at hl 2 rfl) ?_
  refine us_iald (f := (G 4)) hx hb hK hP 5 0 rfl rfl hp2 (by decide) dX2_take_5 ?_
  refine lv_istore_n (lv' := [(3, .int (G 4 p2)), (0, .ref (md 0)), (1, .int (nI p1)), (2, .int (nI p2))]) hx hb dX2_take_6 rfl hl (by decide) rfl (fun ls hl => ?_)
  refine lv_aload_n hx hb dX2_take_7 rfl (lv_at hl 1 rfl) ?_
  refine lv_iconst (v := 0) hx hb dX2_take_8 (by decide) ?_
  refine um_put hx hb htb us_inX2 hown hK hP hD hS 12 (by decide) (htb _ mw_445) dX2_take_9 (fun H_1 locs hP hD hS => ?_)
  have hP : va_P (dC, dI) vwCl (um_W md cI th nu nm sk G (upd v 12 0)) H_1 := hP
  have hD : va_D (us_AA (um_ads md) s.heap.size) (um_W md cI th nu nm sk G (upd v 12 0)) := hD
  refine lv_iload_n hx hb dX2_take_12 rfl (lv_at hl 0 rfl) ?_
  refine lv_bipush (v := 11) hx hb dX2_take_13 (by decide) ?_
  refine lv_icmp_ge (tgt := 103) hx hb dX2_take_15 (by decide) (fun c_2 => ?_) (fun c_2 => ?_)
  · refine lv_iload_n hx hb dX2_take_103 rfl (lv_at hl 0 rfl) ?_
    refine lv_bipush (v := 11) hx hb dX2_take_104 (by decide) ?_
    refine lv_icmp_ne (tgt := 147) hx hb dX2_take_106 (by decide) (fun c_3 => ?_) (fun c_3 => ?_)
    · refine lv_iload_n hx hb dX2_take_147 rfl (lv_at hl 0 rfl) ?_
      refine lv_bipush (v := 12) hx hb dX2_take_148 (by decide) ?_
      refine lv_icmp_ne (tgt := 166) hx hb dX2_take_150 (by decide) (fun c_4 => ?_) (fun c_4 => ?_)
      · refine lv_iload_n hx hb dX2_take_166 rfl (lv_at hl 0 rfl) ?_
        refine lv_bipush (v := 13) hx hb dX2_take_167 (by decide) ?_
        refine lv_icmp_ne (tgt := 185) hx hb dX2_take_169 (by decide) (fun c_5 => ?_) (fun c_5 => ?_)
        · refine lv_iload_n hx hb dX2_take_185 rfl (lv_at hl 0 rfl) ?_
          refine lv_bipush (v := 14) hx hb dX2_take_186 (by decide) ?_
          refine lv_icmp_ne (tgt := 204) hx hb dX2_take_188 (by decide) (fun c_6 => ?_) (fun c_6 => ?_)
          · refine lv_aload_n hx hb dX2_take_204 rfl (lv_at hl 1 rfl) ?_
            refine lv_aload_n hx hb dX2_take_205 rfl (lv_at hl 1 rfl) ?_
            refine va_get (D := (dC, dI)) (ci := 2) (v := .ref (md 4)) (C := RX2) (T := TX2) (N := 23) hx hb htb us_inX2 hown hK hP 0 rfl rfl 6 (by decide) (htb _ mw_429) (fun _ h9 => h9) rfl dX2_take_206 ?_
            refine lv_iload_n hx hb dX2_take_209 rfl (lv_at hl 3 rfl) ?_
            refine us_iald (f := (G 3)) hx hb hK hP 4 0 rfl rfl hp2 (by decide) dX2_take_210 ?_
            refine lv_aload_n hx hb dX2_take_211 rfl (lv_at hl 1 rfl) ?_
            refine va_get (D := (dC, dI)) (ci := 2) (v := .ref (md 6)) (C := RX2) (T := TX2) (N := 23) hx hb htb us_inX2 hown hK hP 0 rfl rfl 8 (by decide) (htb _ mw_431) (fun _ h9 => h9) rfl dX2_take_212 ?_
            refine lv_iload_n hx hb dX2_take_215 rfl (lv_at hl 3 rfl) ?_
            refine us_iald (f := (G 5)) hx hb hK hP 6 0 rfl rfl hp2 (by decide) dX2_take_216 ?_
            refine lv_iadd hx hb dX2_take_217 ?_
            refine um_put hx hb htb us_inX2 hown hK hP hD hS 10 (by decide) (htb _ mw_443) dX2_take_218 (fun H_7 locs hP hD hS => ?_)
            have hP : va_P (dC, dI) vwCl (um_W md cI th nu nm sk G (upd (upd v 12 0) 10 ((G 3 p2) + (G 5 p2)))) H_7 := hP
            have hD : va_D (us_AA (um_ads md) s.heap.size) (um_W md cI th nu nm sk G (upd (upd v 12 0) 10 ((G 3 p2) + (G 5 p2)))) := hD
            exact W.vret hx hb hr (fun t ht hW => ⟨⟨(), rfl, trivial, um_B_of ht hP rfl rfl rfl rfl rfl (by first | (simp only [um_take, um_tst, eq_true c_2, eq_false c_3, eq_false c_4, eq_false c_5, eq_false c_6, if_true, if_false]; done) | (simp [um_take, um_tst, c_2, c_3, c_4, c_5, c_6]; done))⟩, hS.F ht⟩) hS.2.2 dX2_take_221
          · refine lv_aload_n hx hb dX2_take_191 rfl (lv_at hl 1 rfl) ?_
            refine lv_aload_n hx hb dX2_take_192 rfl (lv_at hl 1 rfl) ?_
            refine va_get (D := (dC, dI)) (ci := 2) (v := .ref (md 6)) (C := RX2) (T := TX2) (N := 23) hx hb htb us_inX2 hown hK hP 0 rfl rfl 8 (by decide) (htb _ mw_431) (fun _ h9 => h9) rfl dX2_take_193 ?_
            refine lv_iload_n hx hb dX2_take_196 rfl (lv_at hl 3 rfl) ?_
            refine us_iald (f := (G 5)) hx hb hK hP 6 0 rfl rfl hp2 (by decide) dX2_take_197 ?_
            refine um_put hx hb htb us_inX2 hown hK hP hD hS 6 (by decide) (htb _ mw_439) dX2_take_198 (fun H_8 locs hP hD hS => ?_)
            have hP : va_P (dC, dI) vwCl (um_W md cI th nu nm sk G (upd (upd v 12 0) 6 (G 5 p2))) H_8 := hP
            have hD : va_D (us_AA (um_ads md) s.heap.size) (um_W md cI th nu nm sk G (upd (upd v 12 0) 6 (G 5 p2))) := hD
            refine lv_goto (tgt := 221) hx hb dX2_take_201 (by decide) ?_
            exact W.vret hx hb hr (fun t ht hW => ⟨⟨(), rfl, trivial, um_B_of ht hP rfl rfl rfl rfl rfl (by first | (simp only [um_take, um_tst, eq_true c_2, eq_false c_3, eq_false c_4, eq_false c_5, eq_true c_6, if_true, if_false]; done) | (simp [um_take, um_tst, c_2, c_3, c_4, c_5, c_6]; done))⟩, hS.F ht⟩) hS.2.2 dX2_take_221
        · refine lv_aload_n hx hb dX2_take_172 rfl (lv_at hl 1 rfl) ?_
          refine lv_aload_n hx hb dX2_take_173 rfl (lv_at hl 1 rfl) ?_
          refine va_get (D := (dC, dI)) (ci := 2) (v := .ref (md 6)) (C := RX2) (T := TX2) (N := 23) hx hb htb us_inX2 hown hK hP 0 rfl rfl 8 (by decide) (htb _ mw_431) (fun _ h9 => h9) rfl dX2_take_174 ?_
          refine lv_iload_n hx hb dX2_take_177 rfl (lv_at hl 3 rfl) ?_
          refine us_iald (f := (G 5)) hx hb hK hP 6 0 rfl rfl hp2 (by decide) dX2_take_178 ?_
          refine um_put hx hb htb us_inX2 hown hK hP hD hS 5 (by decide) (htb _ mw_438) dX2_take_179 (fun H_9 locs hP hD hS => ?_)
          have hP : va_P (dC, dI) vwCl (um_W md cI th nu nm sk G (upd (upd v 12 0) 5 (G 5 p2))) H_9 := hP
          have hD : va_D (us_AA (um_ads md) s.heap.size) (um_W md cI th nu nm sk G (upd (upd v 12 0) 5 (G 5 p2))) := hD
          refine lv_goto (tgt := 221) hx hb dX2_take_182 (by decide) ?_
          exact W.vret hx hb hr (fun t ht hW => ⟨⟨(), rfl, trivial, um_B_of ht hP rfl rfl rfl rfl rfl (by first | (simp only [um_take, um_tst, eq_true c_2, eq_false c_3, eq_false c_4, eq_true c_5, if_true, if_false]; done) | (simp [um_take, um_tst, c_2, c_3, c_4, c_5]; done))⟩, hS.F ht⟩) hS.2.2 dX2_take_221
      · refine lv_aload_n hx hb dX2_take_153 rfl (lv_at hl 1 rfl) ?_
        refine lv_aload_n hx hb dX2_take_154 rfl (lv_at hl 1 rfl) ?_
        refine va_get (D := (dC, dI)) (ci := 2) (v := .ref (md 6)) (C := RX2) (T := TX2) (N := 23) hx hb htb us_inX2 hown hK hP 0 rfl rfl 8 (by decide) (htb _ mw_431) (fun _ h9 => h9) rfl dX2_take_155 ?_
        refine lv_iload_n hx hb dX2_take_158 rfl (lv_at hl 3 rfl) ?_
        refine us_iald (f := (G 5)) hx hb hK hP 6 0 rfl rfl hp2 (by decide) dX2_take_159 ?_
        refine um_put hx hb htb us_inX2 hown hK hP hD hS 4 (by decide) (htb _ mw_437) dX2_take_160 (fun H_10 locs hP hD hS => ?_)
        have hP : va_P (dC, dI) vwCl (um_W md cI th nu nm sk G (upd (upd v 12 0) 4 (G 5 p2))) H_10 := hP
        have hD : va_D (us_AA (um_ads md) s.heap.size) (um_W md cI th nu nm sk G (upd (upd v 12 0) 4 (G 5 p2))) := hD
        refine lv_goto (tgt := 221) hx hb dX2_take_163 (by decide) ?_
        exact W.vret hx hb hr (fun t ht hW => ⟨⟨(), rfl, trivial, um_B_of ht hP rfl rfl rfl rfl rfl (by first | (simp only [um_take, um_tst, eq_true c_2, eq_false c_3, eq_true c_4, if_true, if_false]; done) | (simp [um_take, um_tst, c_2, c_3, c_4]; done))⟩, hS.F ht⟩) hS.2.2 dX2_take_221
    · refine lv_aload_n hx hb dX2_take_109 rfl (lv_at hl 1 rfl) ?_
      refine um_get (x := (v 6)) hx hb htb us_inX2 hown hK hP 6 (by decide) (htb _ mw_439) rfl dX2_take_110 ?_
      refine lv_if_ne (tgt := 124) hx hb dX2_take_113 (by decide) (fun c_11 => ?_) (fun c_11 => ?_)
      · refine lv_aload_n hx hb dX2_take_124 rfl (lv_at hl 1 rfl) ?_
        refine lv_aload_n hx hb dX2_take_125 rfl (lv_at hl 1 rfl) ?_
        refine va_get (D := (dC, dI)) (ci := 2) (v := .ref (md 6)) (C := RX2) (T := TX2) (N := 23) hx hb htb us_inX2 hown hK hP 0 rfl rfl 8 (by decide) (htb _ mw_431) (fun _ h9 => h9) rfl dX2_take_126 ?_
        refine lv_iload_n hx hb dX2_take_129 rfl (lv_at hl 3 rfl) ?_
        refine us_iald (f := (G 5)) hx hb hK hP 6 0 rfl rfl hp2 (by decide) dX2_take_130 ?_
        refine um_put hx hb htb us_inX2 hown hK hP hD hS 8 (by decide) (htb _ mw_441) dX2_take_131 (fun H_12 locs hP hD hS => ?_)
        have hP : va_P (dC, dI) vwCl (um_W md cI th nu nm sk G (upd (upd v 12 0) 8 (G 5 p2))) H_12 := hP
        have hD : va_D (us_AA (um_ads md) s.heap.size) (um_W md cI th nu nm sk G (upd (upd v 12 0) 8 (G 5 p2))) := hD
        refine lv_aload_n hx hb dX2_take_134 rfl (lv_at hl 1 rfl) ?_
        refine lv_aload_n hx hb dX2_take_135 rfl (lv_at hl 1 rfl) ?_
        refine va_get (D := (dC, dI)) (ci := 2) (v := .ref (md 4)) (C := RX2) (T := TX2) (N := 23) hx hb htb us_inX2 hown hK hP 0 rfl rfl 6 (by decide) (htb _ mw_429) (fun _ h9 => h9) rfl dX2_take_136 ?_
        refine lv_iload_n hx hb dX2_take_139 rfl (lv_at hl 3 rfl) ?_
        refine us_iald (f := (G 3)) hx hb hK hP 4 0 rfl rfl hp2 (by decide) dX2_take_140 ?_
        refine um_put hx hb htb us_inX2 hown hK hP hD hS 9 (by decide) (htb _ mw_442) dX2_take_141 (fun H_13 locs hP hD hS => ?_)
        have hP : va_P (dC, dI) vwCl (um_W md cI th nu nm sk G (upd (upd (upd v 12 0) 8 (G 5 p2)) 9 (G 3 p2))) H_13 := hP
        have hD : va_D (us_AA (um_ads md) s.heap.size) (um_W md cI th nu nm sk G (upd (upd (upd v 12 0) 8 (G 5 p2)) 9 (G 3 p2))) := hD
        refine lv_goto (tgt := 221) hx hb dX2_take_144 (by decide) ?_
        exact W.vret hx hb hr (fun t ht hW => ⟨⟨(), rfl, trivial, um_B_of ht hP rfl rfl rfl rfl rfl (by first | (simp only [um_take, um_tst, eq_true c_2, eq_true c_3, eq_false c_11, if_true, if_false]; done) | (simp [um_take, um_tst, c_2, c_3, c_11]; done))⟩, hS.F ht⟩) hS.2.2 dX2_take_221
      · refine lv_aload_n hx hb dX2_take_116 rfl (lv_at hl 1 rfl) ?_
        refine lv_iconst (v := 4) hx hb dX2_take_117 (by decide) ?_
        refine um_put hx hb htb us_inX2 hown hK hP hD hS 12 (by decide) (htb _ mw_445) dX2_take_118 (fun H_14 locs hP hD hS => ?_)
        have hP : va_P (dC, dI) vwCl (um_W md cI th nu nm sk G (upd (upd v 12 0) 12 4)) H_14 := hP
        have hD : va_D (us_AA (um_ads md) s.heap.size) (um_W md cI th nu nm sk G (upd (upd v 12 0) 12 4)) := hD
        refine lv_goto (tgt := 221) hx hb dX2_take_121 (by decide) ?_
        exact W.vret hx hb hr (fun t ht hW => ⟨⟨(), rfl, trivial, um_B_of ht hP rfl rfl rfl rfl rfl (by first | (simp only [um_take, um_tst, eq_true c_2, eq_true c_3, eq_true c_11, if_true, if_false]; done) | (simp [um_take, um_tst, c_2, c_3, c_11]; done))⟩, hS.F ht⟩) hS.2.2 dX2_take_221
  · refine lv_aload_n hx hb dX2_take_18 rfl (lv_at hl 1 rfl) ?_
    refine um_get (x := (v 0)) hx hb htb us_inX2 hown hK hP 0 (by decide) (htb _ mw_433) rfl dX2_take_19 ?_
    refine lv_iload_n hx hb dX2_take_22 rfl (lv_at hl 0 rfl) ?_
    refine va_calli (va_runS (As := [.int (v 0), .int (G 4 p2)]) (rest := []) ⟨hx, hb, hml, hown, htb⟩ (kt_X2_follows l H_1.size (v 0) (G 4 p2)) (cwS 2 htb (us_gS mw_544 mw_545 mw_34 mw_546) rfl rfl rfl (by decide +kernel) ⟨Nat.le_of_ble_eq_true rfl, Nat.le_of_ble_eq_true rfl⟩) ⟨us_blind0, fun U hU _ => ⟨rfl, congrArg Array.size hU⟩⟩ rfl rfl hl.1 rfl (lv_room (Nat.le_of_ble_eq_true rfl)) dX2_take_23 ⟨Nat.le_of_ble_eq_true rfl, Nat.le_of_ble_eq_true rfl⟩) hS (fun q h1 h2 => absurd h2 (Nat.not_le.mpr h1)) (fun q h => hA q (Nat.le_trans hS.1 h)) (fun r_16 _ t_17 H_15 locs ht hvm hw hB hz1 hk1 hS => ?_)
    subst hw
    have hP := us_mono hP (fun q h => hk1 q h (Nat.not_le.mpr h))
    refine lv_if_ne (tgt := 37) hx hb dX2_take_26 (by decide) (fun c_18 => ?_) (fun c_18 => ?_)
    · refine lv_iload_n hx hb dX2_take_37 rfl (lv_at hl 0 rfl) ?_
      refine lv_iconst (v := 2) hx hb dX2_take_38 (by decide) ?_
      refine lv_iconst (v := 4) hx hb dX2_take_39 (by decide) ?_
      refine va_calli (va_runS (As := [.int (G 4 p2), .int 2, .int 4]) (rest := []) ⟨hx, hb, hml, hown, htb⟩ (kt_X2_in l H_15.size (G 4 p2) 2 4) (cwS 3 htb (us_gS mw_501 mw_502 mw_34 mw_503) rfl rfl rfl (by decide +kernel) ⟨Nat.le_of_ble_eq_true rfl, Nat.le_of_ble_eq_true rfl⟩) ⟨us_blind0, fun U hU _ => ⟨rfl, congrArg Array.size hU⟩⟩ rfl rfl hl.1 rfl (lv_room (Nat.le_of_ble_eq_true rfl)) dX2_take_40 ⟨Nat.le_of_ble_eq_true rfl, Nat.le_of_ble_eq_true rfl⟩) hS (fun q h1 h2 => absurd h2 (Nat.not_le.mpr h1)) (fun q h => hA q (Nat.le_trans hS.1 h)) (fun r_20 _ t_21 H_19 locs ht hvm hw hB hz1 hk1 hS => ?_)
      subst hw
      have hP := us_mono hP (fun q h => hk1 q h (Nat.not_le.mpr h))
      refine lv_if_eq (tgt := 67) hx hb dX2_take_43 (by decide) (fun c_22 => ?_) (fun c_22 => ?_)
      · refine lv_aload_n hx hb dX2_take_67 rfl (lv_at hl 1 rfl) ?_
        refine lv_iload_n hx hb dX2_take_68 rfl (lv_at hl 3 rfl) ?_
        refine va_callv (va_runV (As := [.int (nI p2)]) (rest := []) ⟨hx, hb, hml, hown, htb⟩ (kt_X2_become l dC dI md cI H_19.size th nu nm sk G (upd v 12 0) p2 hp2) (cwV 1 htb (us_gV mw_547 mw_549 mw_26 mw_34 mw_550) rfl rfl rfl (by decide +kernel) ⟨Nat.le_of_ble_eq_true rfl, Nat.le_of_ble_eq_true rfl⟩) ⟨um_P_blind, va_recv hK hP (ci := 2) (q0 := 0) rfl rfl, fun U hU hW => ⟨rfl, um_P_at hP hK hD hU hW⟩⟩ rfl rfl hl.1 rfl (lv_room (Nat.le_of_ble_eq_true rfl)) dX2_take_69 ⟨Nat.le_of_ble_eq_true rfl, Nat.le_of_ble_eq_true rfl⟩) hS (fun q _ h => us_AA_le hS q h) (us_AA_le hS) (fun _ t_25 H_23 locs ht hvm hw hB hz1 hk1 hS => ?_)
        have hP := um_B_use ht hB
        have hD : va_D (us_AA (um_ads md) s.heap.size) (um_W md cI th nu nm sk G (um_become G (upd v 12 0) p2)) := us_D_of (by rw [um_W_adr, um_W_adr]) hD
        have hP : va_P (dC, dI) vwCl (um_W md cI th nu nm sk G (um_become G (upd v 12 0) p2)) H_23 := hP
        refine lv_aload_n hx hb dX2_take_72 rfl (lv_at hl 1 rfl) ?_
        refine lv_iload_n hx hb dX2_take_73 rfl (lv_at hl 0 rfl) ?_
        refine lv_if_ne (tgt := 96) hx hb dX2_take_74 (by decide) (fun c_26 => ?_) (fun c_26 => ?_)
        · refine lv_iconst (v := 0) hx hb dX2_take_96 (by decide) ?_
          refine um_put hx hb htb us_inX2 hown hK hP hD hS 12 (by decide) (htb _ mw_445) dX2_take_97 (fun H_27 locs hP hD hS => ?_)
          have hP : va_P (dC, dI) vwCl (um_W md cI th nu nm sk G (upd (um_become G (upd v 12 0) p2) 12 0)) H_27 := hP
          have hD : va_D (us_AA (um_ads md) s.heap.size) (um_W md cI th nu nm sk G (upd (um_become G (upd v 12 0) p2) 12 0)) := hD
          refine lv_goto (tgt := 221) hx hb dX2_take_100 (by decide) ?_
          exact W.vret hx hb hr (fun t ht hW => ⟨⟨(), rfl, trivial, um_B_of ht hP rfl rfl rfl rfl rfl (by first | (simp only [um_take, um_tst, eq_false c_2, eq_false c_18, eq_true c_22, eq_false c_26, if_true, if_false]; done) | (simp [um_take, um_tst, c_2, c_18, c_22, c_26]; done))⟩, hS.F ht⟩) hS.2.2 dX2_take_221
        · refine lv_aload_n hx hb dX2_take_77 rfl (lv_at hl 1 rfl) ?_
          refine va_get (D := (dC, dI)) (ci := 2) (v := .ref (md 6)) (C := RX2) (T := TX2) (N := 23) hx hb htb us_inX2 hown hK hP 0 rfl rfl 8 (by decide) (htb _ mw_431) (fun _ h9 => h9) rfl dX2_take_78 ?_
          refine lv_iload_n hx hb dX2_take_81 rfl (lv_at hl 3 rfl) ?_
          refine us_iald (f := (G 5)) hx hb hK hP 6 0 rfl rfl hp2 (by decide) dX2_take_82 ?_
          refine lv_aload_n hx hb dX2_take_83 rfl (lv_at hl 1 rfl) ?_
          refine va_get (D := (dC, dI)) (ci := 2) (v := .ref (md 1)) (C := RX2) (T := TX2) (N := 23) hx hb htb us_inX2 hown hK hP 0 rfl rfl 2 (by decide) (htb _ mw_425) (fun _ h9 => h9) rfl dX2_take_84 ?_
          refine lv_iload_n hx hb dX2_take_87 rfl (lv_at hl 2 rfl) ?_
          refine us_iald (f := (G 0)) hx hb hK hP 1 0 rfl rfl hp1 (by decide) dX2_take_88 ?_
          refine lv_icmp_eq (tgt := 96) hx hb dX2_take_89 (by decide) (fun c_28 => ?_) (fun c_28 => ?_)
          · refine lv_iconst (v := 0) hx hb dX2_take_96 (by decide) ?_
            refine um_put hx hb htb us_inX2 hown hK hP hD hS 12 (by decide) (htb _ mw_445) dX2_take_97 (fun H_29 locs hP hD hS => ?_)
            have hP : va_P (dC, dI) vwCl (um_W md cI th nu nm sk G (upd (um_become G (upd v 12 0) p2) 12 0)) H_29 := hP
            have hD : va_D (us_AA (um_ads md) s.heap.size) (um_W md cI th nu nm sk G (upd (um_become G (upd v 12 0) p2) 12 0)) := hD
            refine lv_goto (tgt := 221) hx hb dX2_take_100 (by decide) ?_
            exact W.vret hx hb hr (fun t ht hW => ⟨⟨(), rfl, trivial, um_B_of ht hP rfl rfl rfl rfl rfl (by first | (simp only [um_take, um_tst, eq_false c_2, eq_false c_18, eq_true c_22, eq_true c_26, eq_true c_28, if_true, if_false]; done) | (simp [um_take, um_tst, c_2, c_18, c_22, c_26, c_28]; done))⟩, hS.F ht⟩) hS.2.2 dX2_take_221
          · refine lv_iconst (v := 3) hx hb dX2_take_92 (by decide) ?_
            refine lv_goto (tgt := 97) hx hb dX2_take_93 (by decide) ?_
            refine um_put hx hb htb us_inX2 hown hK hP hD hS 12 (by decide) (htb _ mw_445) dX2_take_97 (fun H_30 locs hP hD hS => ?_)
            have hP : va_P (dC, dI) vwCl (um_W md cI th nu nm sk G (upd (um_become G (upd v 12 0) p2) 12 3)) H_30 := hP
            have hD : va_D (us_AA (um_ads md) s.heap.size) (um_W md cI th nu nm sk G (upd (um_become G (upd v 12 0) p2) 12 3)) := hD
            refine lv_goto (tgt := 221) hx hb dX2_take_100 (by decide) ?_
            exact W.vret hx hb hr (fun t ht hW => ⟨⟨(), rfl, trivial, um_B_of ht hP rfl rfl rfl rfl rfl (by first | (simp only [um_take, um_tst, eq_false c_2, eq_false c_18, eq_true c_22, eq_true c_26, eq_false c_28, if_true, if_false]; done) | (simp [um_take, um_tst, c_2, c_18, c_22, c_26, c_28]; done))⟩, hS.F ht⟩) hS.2.2 dX2_take_221
      · refine lv_aload_n hx hb dX2_take_46 rfl (lv_at hl 1 rfl) ?_
        refine um_get (x := (v 4)) hx hb htb us_inX2 hown hK hP 4 (by decide) (htb _ mw_437) rfl dX2_take_47 ?_
        refine lv_aload_n hx hb dX2_take_50 rfl (lv_at hl 1 rfl) ?_
        refine va_get (D := (dC, dI)) (ci := 2) (v := .ref (md 2)) (C := RX2) (T := TX2) (N := 23) hx hb htb us_inX2 hown hK hP 0 rfl rfl 3 (by decide) (htb _ mw_426) (fun _ h9 => h9) rfl dX2_take_51 ?_
        refine lv_iload_n hx hb dX2_take_54 rfl (lv_at hl 2 rfl) ?_
        refine us_iald (f := (G 1)) hx hb hK hP 2 0 rfl rfl hp1 (by decide) dX2_take_55 ?_
        refine lv_icmp_ge (tgt := 67) hx hb dX2_take_56 (by decide) (fun c_31 => ?_) (fun c_31 => ?_)
        · refine lv_aload_n hx hb dX2_take_67 rfl (lv_at hl 1 rfl) ?_
          refine lv_iload_n hx hb dX2_take_68 rfl (lv_at hl 3 rfl) ?_
          refine va_callv (va_runV (As := [.int (nI p2)]) (rest := []) ⟨hx, hb, hml, hown, htb⟩ (kt_X2_become l dC dI md cI H_19.size th nu nm sk G (upd v 12 0) p2 hp2) (cwV 1 htb (us_gV mw_547 mw_549 mw_26 mw_34 mw_550) rfl rfl rfl (by decide +kernel) ⟨Nat.le_of_ble_eq_true rfl, Nat.le_of_ble_eq_true rfl⟩) ⟨um_P_blind, va_recv hK hP (ci := 2) (q0 := 0) rfl rfl, fun U hU hW => ⟨rfl, um_P_at hP hK hD hU hW⟩⟩ rfl rfl hl.1 rfl (lv_room (Nat.le_of_ble_eq_true rfl)) dX2_take_69 ⟨Nat.le_of_ble_eq_true rfl, Nat.le_of_ble_eq_true rfl⟩) hS (fun q _ h => us_AA_le hS q h) (us_AA_le hS) (fun _ t_34 H_32 locs ht hvm hw hB hz1 hk1 hS => ?_)
          have hP := um_B_use ht hB
          have hD : va_D (us_AA (um_ads md) s.heap.size) (um_W md cI th nu nm sk G (um_become G (upd v 12 0) p2)) := us_D_of (by rw [um_W_adr, um_W_adr]) hD
          have hP : va_P (dC, dI) vwCl (um_W md cI th nu nm sk G (um_become G (upd v 12 0) p2)) H_32 := hP
          refine lv_aload_n hx hb dX2_take_72 rfl (lv_at hl 1 rfl) ?_
          refine lv_iload_n hx hb dX2_take_73 rfl (lv_at hl 0 rfl) ?_
          refine lv_if_ne (tgt := 96) hx hb dX2_take_74 (by decide) (fun c_35 => ?_) (fun c_35 => ?_)
          · refine lv_iconst (v := 0) hx hb dX2_take_96 (by decide) ?_
            refine um_put hx hb htb us_inX2 hown hK hP hD hS 12 (by decide) (htb _ mw_445) dX2_take_97 (fun H_36 locs hP hD hS => ?_)
            have hP : va_P (dC, dI) vwCl (um_W md cI th nu nm sk G (upd (um_become G (upd v 12 0) p2) 12 0)) H_36 := hP
            have hD : va_D (us_AA (um_ads md) s.heap.size) (um_W md cI th nu nm sk G (upd (um_become G (upd v 12 0) p2) 12 0)) := hD
            refine lv_goto (tgt := 221) hx hb dX2_take_100 (by decide) ?_
            exact W.vret hx hb hr (fun t ht hW => ⟨⟨(), rfl, trivial, um_B_of ht hP rfl rfl rfl rfl rfl (by first | (simp only [um_take, um_tst, eq_false c_2, eq_false c_18, eq_false c_22, eq_true c_31, eq_false c_35, if_true, if_false]; done) | (simp [um_take, um_tst, c_2, c_18, c_22, c_31, c_35]; done))⟩, hS.F ht⟩) hS.2.2 dX2_take_221
          · refine lv_aload_n hx hb dX2_take_77 rfl (lv_at hl 1 rfl) ?_
            refine va_get (D := (dC, dI)) (ci := 2) (v := .ref (md 6)) (C := RX2) (T := TX2) (N := 23) hx hb htb us_inX2 hown hK hP 0 rfl rfl 8 (by decide) (htb _ mw_431) (fun _ h9 => h9) rfl dX2_take_78 ?_
            refine lv_iload_n hx hb dX2_take_81 rfl (lv_at hl 3 rfl) ?_
            refine us_iald (f := (G 5)) hx hb hK hP 6 0 rfl rfl hp2 (by decide) dX2_take_82 ?_
            refine lv_aload_n hx hb dX2_take_83 rfl (lv_at hl 1 rfl) ?_
            refine va_get (D := (dC, dI)) (ci := 2) (v := .ref (md 1)) (C := RX2) (T := TX2) (N := 23) hx hb htb us_inX2 hown hK hP 0 rfl rfl 2 (by decide) (htb _ mw_425) (fun _ h9 => h9) rfl dX2_take_84 ?_
            refine lv_iload_n hx hb dX2_take_87 rfl (lv_at hl 2 rfl) ?_
            refine us_iald (f := (G 0)) hx hb hK hP 1 0 rfl rfl hp1 (by decide) dX2_take_88 ?_
            refine lv_icmp_eq (tgt := 96) hx hb dX2_take_89 (by decide) (fun c_37 => ?_) (fun c_37 => ?_)
            · refine lv_iconst (v := 0) hx hb dX2_take_96 (by decide) ?_
              refine um_put hx hb htb us_inX2 hown hK hP hD hS 12 (by decide) (htb _ mw_445) dX2_take_97 (fun H_38 locs hP hD hS => ?_)
              have hP : va_P (dC, dI) vwCl (um_W md cI th nu nm sk G (upd (um_become G (upd v 12 0) p2) 12 0)) H_38 := hP
              have hD : va_D (us_AA (um_ads md) s.heap.size) (um_W md cI th nu nm sk G (upd (um_become G (upd v 12 0) p2) 12 0)) := hD
              refine lv_goto (tgt := 221) hx hb dX2_take_100 (by decide) ?_
              exact W.vret hx hb hr (fun t ht hW => ⟨⟨(), rfl, trivial, um_B_of ht hP rfl rfl rfl rfl rfl (by first | (simp only [um_take, um_tst, eq_false c_2, eq_false c_18, eq_false c_22, eq_true c_31, eq_true c_35, eq_true c_37, if_true, if_false]; done) | (simp [um_take, um_tst, c_2, c_18, c_22, c_31, c_35, c_37]; done))⟩, hS.F ht⟩) hS.2.2 dX2_take_221
            · refine lv_iconst (v := 3) hx hb dX2_take_92 (by decide) ?_
              refine lv_goto (tgt := 97) hx hb dX2_take_93 (by decide) ?_
              refine um_put hx hb htb us_inX2 hown hK hP hD hS 12 (by decide) (htb _ mw_445) dX2_take_97 (fun H_39 locs hP hD hS => ?_)
              have hP : va_P (dC, dI) vwCl (um_W md cI th nu nm sk G (upd (um_become G (upd v 12 0) p2) 12 3)) H_39 := hP
              have hD : va_D (us_AA (um_ads md) s.heap.size) (um_W md cI th nu nm sk G (upd (um_become G (upd v 12 0) p2) 12 3)) := hD
              refine lv_goto (tgt := 221) hx hb dX2_take_100 (by decide) ?_
              exact W.vret hx hb hr (fun t ht hW => ⟨⟨(), rfl, trivial, um_B_of ht hP rfl rfl rfl rfl rfl (by first | (simp only [um_take, um_tst, eq_false c_2, eq_false c_18, eq_false c_22, eq_true c_31, eq_true c_35, eq_false c_37, if_true, if_false]; done) | (simp [um_take, um_tst, c_2, c_18, c_22, c_31, c_35, c_37]; done))⟩, hS.F ht⟩) hS.2.2 dX2_take_221
        · refine lv_aload_n hx hb dX2_take_59 rfl (lv_at hl 1 rfl) ?_
          refine lv_iconst (v := 2) hx hb dX2_take_60 (by decide) ?_
          refine um_put hx hb htb us_inX2 hown hK hP hD hS 12 (by decide) (htb _ mw_445) dX2_take_61 (fun H_40 locs hP hD hS => ?_)
          have hP : va_P (dC, dI) vwCl (um_W md cI th nu nm sk G (upd (upd v 12 0) 12 2)) H_40 := hP
          have hD : va_D (us_AA (um_ads md) s.heap.size) (um_W md cI th nu nm sk G (upd (upd v 12 0) 12 2)) := hD
          refine lv_goto (tgt := 221) hx hb dX2_take_64 (by decide) ?_
          exact W.vret hx hb hr (fun t ht hW => ⟨⟨(), rfl, trivial, um_B_of ht hP rfl rfl rfl rfl rfl (by first | (simp only [um_take, um_tst, eq_false c_2, eq_false c_18, eq_false c_22, eq_false c_31, if_true, if_false]; done) | (simp [um_take, um_tst, c_2, c_18, c_22, c_31]; done))⟩, hS.F ht⟩) hS.2.2 dX2_take_221
    · refine lv_aload_n hx hb dX2_take_29 rfl (lv_at hl 1 rfl) ?_
      refine lv_iconst (v := 1) hx hb dX2_take_30 (by decide) ?_
      refine um_put hx hb htb us_inX2 hown hK hP hD hS 12 (by decide) (htb _ mw_445) dX2_take_31 (fun H_41 locs hP hD hS => ?_)
      have hP : va_P (dC, dI) vwCl (um_W md cI th nu nm sk G (upd (upd v 12 0) 12 1)) H_41 := hP
      have hD : va_D (us_AA (um_ads md) s.heap.size) (um_W md cI th nu nm sk G (upd (upd v 12 0) 12 1)) := hD
      refine lv_goto (tgt := 221) hx hb dX2_take_34 (by decide) ?_
      exact W.vret hx hb hr (fun t ht hW => ⟨⟨(), rfl, trivial, um_B_of ht hP rfl rfl rfl rfl rfl (by first | (simp only [um_take, um_tst, eq_false c_2, eq_true c_18, if_true, if_false]; done) | (simp [um_take, um_tst, c_2, c_18]; done))⟩, hS.F ht⟩) hS.2.2 dX2_take_221
set_option maxHeartbeats 8000000 in
set_option maxRecDepth 100000 in
theorem kt_X2_incidentNow (l : Launch) (dC : Nat → ClassId) (dI : Nat → Nat → Nat) (md : Nat → Nat) (cI : ClassId) (sz : Nat) (th : Int32) (nu nm : Nat) (sk : Int32) (G : Nat → Nat → Int32) (v : Nat → Int32) : Met l yX2_incidentNow wsX2_incidentNow ({ frames := 1, cells := 0, slots := 0, locals := 22 }) (va_Pc [.ref (md 0)] (um_P dC dI md cI th nu nm sk G v sz)) (va_Qi (fun r (_ : Unit) => r = um_inc v) (fun _ _ => True) (us_new sz)) 0 0 (us_new sz) := by
  refine Met.ofW (cc := cX2_incidentNow) (maxL := 1) (ret := (some .int)) (by decide) rfl ?_
  intro p e s m args below meth c s₁ B hml hv
  obtain ⟨rfl, hsz, hP, hK, hD⟩ := hv
  have hx := B.exec
  have hb := B.bytes
  have hr := B.returns
  have htb := us_htb (atoms_spec (ws := wsX2_incidentNow) B.pre)
  have hown : s.vm.findClass RX2 = some m.cls := findClass_of_methodNamed B.named
  have hlocks := B.notSynchronized
  subst hsz
  have hA : ∀ q : Nat, s.heap.size ≤ q → (us_new s.heap.size) q := fun q h => h
  have hS : va_S (us_new s.heap.size) s.heap s.heap [] := va_S.rf
  have hP : va_P (dC, dI) vwCl (um_W md cI th nu nm sk G v) s.heap := hP
  have hl := lv_entry ([.ref (md 0)]) (n := 1) (Nat.le_of_ble_eq_true rfl)
  rw [lg_entry_eq]
  generalize (lg_sl ([.ref (md 0)]) ++ List.replicate (1 - (lg_sl ([.ref (md 0)])).length) Slot.unset).toArray = ls at hl ⊢
  have hl : lv_has ls 1 [(0, .ref (md 0))] := hl
  refine lv_aload_n hx hb dX2_incidentNow_0 rfl (lv_at hl 0 rfl) ?_
  refine um_get (x := (v 0)) hx hb htb us_inX2 hown hK hP 0 (by decide) (htb _ mw_433) rfl dX2_incidentNow_1 ?_
  refine lv_iconst (v := 1) hx hb dX2_incidentNow_4 (by decide) ?_
  refine lv_iconst (v := 5) hx hb dX2_incidentNow_5 (by decide) ?_
  refine va_calli (va_runS (As := [.int (v 0), .int 1, .int 5]) (rest := []) ⟨hx, hb, hml, hown, htb⟩ (kt_X2_in l s.heap.size (v 0) 1 5) (cwS 3 htb (us_gS mw_501 mw_502 mw_34 mw_503) rfl rfl rfl (by decide +kernel) ⟨Nat.le_of_ble_eq_true rfl, Nat.le_of_ble_eq_true rfl⟩) ⟨us_blind0, fun U hU _ => ⟨rfl, congrArg Array.size hU⟩⟩ rfl rfl hl.1 rfl (lv_room (Nat.le_of_ble_eq_true rfl)) dX2_incidentNow_6 ⟨Nat.le_of_ble_eq_true rfl, Nat.le_of_ble_eq_true rfl⟩) hS (fun q h1 h2 => absurd h2 (Nat.not_le.mpr h1)) (fun q h => hA q (Nat.le_trans hS.1 h)) (fun r_2 _ t_3 H_1 locs ht hvm hw hB hz1 hk1 hS => ?_)
  subst hw
  have hP := us_mono hP (fun q h => hk1 q h (Nat.not_le.mpr h))
  refine lv_if_eq (tgt := 19) hx hb dX2_incidentNow_9 (by decide) (fun c_4 => ?_) (fun c_4 => ?_)
  · refine lv_iconst (v := (-1)) hx hb dX2_incidentNow_19 (by decide) ?_
    have hsp : (-1) = um_inc v := by first | (simp only [um_inc, eq_true c_4, if_true, if_false]; done) | (simp [um_inc, c_4]; done)
    exact W.iret (v := (-1)) hx hb hr (fun t ht hW => ⟨⟨(-1), (), rfl, hsp, trivial⟩, hS.F ht⟩) hS.2.2 dX2_incidentNow_20
  · refine lv_aload_n hx hb dX2_incidentNow_12 rfl (lv_at hl 0 rfl) ?_
    refine um_get (x := (v 3)) hx hb htb us_inX2 hown hK hP 3 (by decide) (htb _ mw_436) rfl dX2_incidentNow_13 ?_
    refine lv_goto (tgt := 20) hx hb dX2_incidentNow_16 (by decide) ?_
    have hsp : (v 3) = um_inc v := by first | (simp only [um_inc, eq_false c_4, if_true, if_false]; done) | (simp [um_inc, c_4]; done)
    exact W.iret (v := (v 3)) hx hb hr (fun t ht hW => ⟨⟨(v 3), (), rfl, hsp, trivial⟩, hS.F ht⟩) hS.2.2 dX2_incidentNow_20
set_option maxHeartbeats 8000000 in
set_option maxRecDepth 100000 in
theorem kt_X2_unit (l : Launch) (dC : Nat → ClassId) (dI : Nat → Nat → Nat) (md : Nat → Nat) (cI : ClassId) (sz : Nat) (th : Int32) (nu nm : Nat) (sk : Int32) (G : Nat → Nat → Int32) (v : Nat → Int32) (p1 : Int32) (p2 : Int32) (hnu : nu ≤ 30) : Met l yX2_unit wsX2_unit ({ frames := 1, cells := 0, slots := 0, locals := 23 }) (va_Pc [.ref (md 0), .int p1, .int p2] (um_P dC dI md cI th nu nm sk G v sz)) (va_Qi (fun r (_ : Unit) => um_unitK p1 p2 nu = 0 → r = nI nu) (fun _ t => um_B dC dI md cI (um_unitK p1 p2 nu) (if um_unitK p1 p2 nu = 0 then nu + 1 else nu) nm sk (if um_unitK p1 p2 nu = 0 then um_unitG nu G p1 p2 else G) v t) (us_AA (um_ads md) sz)) 0 0 (us_AA (um_ads md) sz) := by
  refine Met.ofW (cc := cX2_unit) (maxL := 3) (ret := (some .int)) (by decide) rfl ?_
  intro p e s m args below meth c s₁ B hml hv
  obtain ⟨rfl, hsz, hP, hK, hD⟩ := hv
  have hx := B.exec
  have hb := B.bytes
  have hr := B.returns
  have htb := us_htb (atoms_spec (ws := wsX2_unit) B.pre)
  have hown : s.vm.findClass RX2 = some m.cls := findClass_of_methodNamed B.named
  have hlocks := B.notSynchronized
  subst hsz
  have hA : ∀ q : Nat, s.heap.size ≤ q → (us_AA (um_ads md) s.heap.size) q := fun q h => Or.inr h
  have hS : va_S (us_AA (um_ads md) s.heap.size) s.heap s.heap [] := va_S.rf
  have hP : va_P (dC, dI) vwCl (um_W md cI th nu nm sk G v) s.heap := hP
  have hD : va_D (us_AA (um_ads md) s.heap.size) (um_W md cI th nu nm sk G v) := us_D_aa hD
  have hl := lv_entry ([.ref (md 0), .int p1, .int p2]) (n := 3) (Nat.le_of_ble_eq_true rfl)
  rw [lg_entry_eq]
  generalize (lg_sl ([.ref (md 0), .int p1, .int p2]) ++ List.replicate (3 - (lg_sl ([.ref (md 0), .int p1, .int p2])).length) Slot.unset).toArray = ls at hl ⊢
  have hl : lv_has ls 3 [(0, .ref (md 0)), (1, .int p1), (2, .int p2)] := hl
  refine lv_aload_n hx hb dX2_unit_0 rfl (lv_at hl 0 rfl) ?_
  refine lv_iload_n hx hb dX2_unit_1 rfl (lv_at hl 1 rfl) ?_
  refine lv_iconst (v := 0) hx hb dX2_unit_2 (by decide) ?_
  refine lv_bipush (v := 9) hx hb dX2_unit_3 (by decide) ?_
  refine va_calli (va_runS (As := [.int p1, .int 0, .int 9]) (rest := [.ref (md 0)]) ⟨hx, hb, hml, hown, htb⟩ (kt_X2_in l s.heap.size p1 0 9) (cwS 3 htb (us_gS mw_501 mw_502 mw_34 mw_503) rfl rfl rfl (by decide +kernel) ⟨Nat.le_of_ble_eq_true rfl, Nat.le_of_ble_eq_true rfl⟩) ⟨us_blind0, fun U hU _ => ⟨rfl, congrArg Array.size hU⟩⟩ rfl rfl hl.1 rfl (lv_room (Nat.le_of_ble_eq_true rfl)) dX2_unit_5 ⟨Nat.le_of_ble_eq_true rfl, Nat.le_of_ble_eq_true rfl⟩) hS (fun q h1 h2 => absurd h2 (Nat.not_le.mpr h1)) (fun q h => hA q (Nat.le_trans hS.1 h)) (fun r_2 _ t_3 H_1 locs ht hvm hw hB hz1 hk1 hS => ?_)
  subst hw
  have hP := us_mono hP (fun q h => hk1 q h (Nat.not_le.mpr h))
  refine lv_if_eq (tgt := 21) hx hb dX2_unit_8 (by decide) (fun c_4 => ?_) (fun c_4 => ?_)
  · refine lv_iconst (v := 1) hx hb dX2_unit_21 (by decide) ?_
    refine lv_goto (tgt := 26) hx hb dX2_unit_22 (by decide) ?_
    refine lv_aload_n hx hb dX2_unit_26 rfl (lv_at hl 0 rfl) ?_
    refine va_get (D := (dC, dI)) (ci := 2) (v := .int (nI nu)) (C := RX2) (T := TX2) (N := 23) hx hb htb us_inX2 hown hK hP 0 rfl rfl 1 (by decide) (htb _ mw_424) (fun _ h9 => h9) rfl dX2_unit_27 ?_
    refine lv_bipush (v := 30) hx hb dX2_unit_30 (by decide) ?_
    refine lv_icmp_ne (tgt := 39) hx hb dX2_unit_32 (by decide) (fun c_5 => ?_) (fun c_5 => ?_)
    · refine lv_iconst (v := 0) hx hb dX2_unit_39 (by decide) ?_
      refine lv_iconst (v := 0) hx hb dX2_unit_40 (by decide) ?_
      refine va_calli (va_runV (As := [.int 1, .int 0, .int 0]) (rest := []) ⟨hx, hb, hml, hown, htb⟩ (kt_X2_throwing l dC dI md cI H_1.size th nu nm sk G v 1 0 0) (cwV 3 htb (us_gV mw_504 mw_506 mw_20 mw_34 mw_507) rfl rfl rfl (by decide +kernel) ⟨Nat.le_of_ble_eq_true rfl, Nat.le_of_ble_eq_true rfl⟩) ⟨um_P_blind, va_recv hK hP (ci := 2) (q0 := 0) rfl rfl, fun U hU hW => ⟨rfl, um_P_at hP hK hD hU hW⟩⟩ rfl rfl hl.1 rfl (lv_room (Nat.le_of_ble_eq_true rfl)) dX2_unit_41 ⟨Nat.le_of_ble_eq_true rfl, Nat.le_of_ble_eq_true rfl⟩) hS (fun q _ h => us_AA_le hS q h) (us_AA_le hS) (fun r_7 _ t_8 H_6 locs ht hvm hw hB hz1 hk1 hS => ?_)
      subst hw
      have hP := um_B_use ht hB
      have hD : va_D (us_AA (um_ads md) s.heap.size) (um_W md cI (um_th 1 0 0) nu nm sk G v) := us_D_of (by rw [um_W_adr, um_W_adr]) hD
      have hP : va_P (dC, dI) vwCl (um_W md cI (um_th 1 0 0) nu nm sk G v) H_6 := hP
      refine lv_if_eq (tgt := 49) hx hb dX2_unit_44 (by decide) (fun c_9 => ?_) (fun c_9 => ?_)
      · exact absurd c_9 (by decide)
      · refine lv_iconst (v := 0) hx hb dX2_unit_47 (by decide) ?_
        have hkv : um_unitK p1 p2 nu = 1 := by first | (simp only [um_unitK, eq_true c_4, eq_false c_5, eq_false c_9, if_true, if_false]; done) | (simp [um_unitK, c_4, c_5, c_9]; done)
        have hsp : um_unitK p1 p2 nu = 0 → 0 = nI nu := by exact fun h9 => absurd (hkv.symm.trans h9) (by decide)
        exact W.iret (v := 0) hx hb hr (fun t ht hW => ⟨⟨0, (), rfl, hsp, um_B_of ht hP (by rw [hkv]; decide) (by rw [hkv, if_neg (by decide)]) rfl rfl (by rw [hkv, if_neg (by decide)]) rfl⟩, hS.F ht⟩) hS.2.2 dX2_unit_48
    · refine lv_iconst (v := 1) hx hb dX2_unit_35 (by decide) ?_
      refine lv_goto (tgt := 40) hx hb dX2_unit_36 (by decide) ?_
      refine lv_iconst (v := 0) hx hb dX2_unit_40 (by decide) ?_
      refine va_calli (va_runV (As := [.int 1, .int 1, .int 0]) (rest := []) ⟨hx, hb, hml, hown, htb⟩ (kt_X2_throwing l dC dI md cI H_1.size th nu nm sk G v 1 1 0) (cwV 3 htb (us_gV mw_504 mw_506 mw_20 mw_34 mw_507) rfl rfl rfl (by decide +kernel) ⟨Nat.le_of_ble_eq_true rfl, Nat.le_of_ble_eq_true rfl⟩) ⟨um_P_blind, va_recv hK hP (ci := 2) (q0 := 0) rfl rfl, fun U hU hW => ⟨rfl, um_P_at hP hK hD hU hW⟩⟩ rfl rfl hl.1 rfl (lv_room (Nat.le_of_ble_eq_true rfl)) dX2_unit_41 ⟨Nat.le_of_ble_eq_true rfl, Nat.le_of_ble_eq_true rfl⟩) hS (fun q _ h => us_AA_le hS q h) (us_AA_le hS) (fun r_11 _ t_12 H_10 locs ht hvm hw hB hz1 hk1 hS => ?_)
      subst hw
      have hP := um_B_use ht hB
      have hD : va_D (us_AA (um_ads md) s.heap.size) (um_W md cI (um_th 1 1 0) nu nm sk G v) := us_D_of (by rw [um_W_adr, um_W_adr]) hD
      have hP : va_P (dC, dI) vwCl (um_W md cI (um_th 1 1 0) nu nm sk G v) H_10 := hP
      refine lv_if_eq (tgt := 49) hx hb dX2_unit_44 (by decide) (fun c_13 => ?_) (fun c_13 => ?_)
      · exact absurd c_13 (by decide)
      · refine lv_iconst (v := 0) hx hb dX2_unit_47 (by decide) ?_
        have hkv : um_unitK p1 p2 nu = 1 := by first | (simp only [um_unitK, eq_true c_4, eq_true c_5, eq_false c_13, if_true, if_false]; done) | (simp [um_unitK, c_4, c_5, c_13]; done)
        have hsp : um_unitK p1 p2 nu = 0 → 0 = nI nu := by exact fun h9 => absurd (hkv.symm.trans h9) (by decide)
        exact W.iret (v := 0) hx hb hr (fun t ht hW => ⟨⟨0, (), rfl, hsp, um_B_of ht hP (by rw [hkv]; decide) (by rw [hkv, if_neg (by decide)]) rfl rfl (by rw [hkv, if_neg (by decide)]) rfl⟩, hS.F ht⟩) hS.2.2 dX2_unit_48
  · refine lv_iload_n hx hb dX2_unit_11 rfl (lv_at hl 2 rfl) ?_
    refine lv_iconst (v := 0) hx hb dX2_unit_12 (by decide) ?_
    refine lv_bipush (v := 9) hx hb dX2_unit_13 (by decide) ?_
    refine va_calli (va_runS (As := [.int p2, .int 0, .int 9]) (rest := [.ref (md 0)]) ⟨hx, hb, hml, hown, htb⟩ (kt_X2_in l H_1.size p2 0 9) (cwS 3 htb (us_gS mw_501 mw_502 mw_34 mw_503) rfl rfl rfl (by decide +kernel) ⟨Nat.le_of_ble_eq_true rfl, Nat.le_of_ble_eq_true rfl⟩) ⟨us_blind0, fun U hU _ => ⟨rfl, congrArg Array.size hU⟩⟩ rfl rfl hl.1 rfl (lv_room (Nat.le_of_ble_eq_true rfl)) dX2_unit_15 ⟨Nat.le_of_ble_eq_true rfl, Nat.le_of_ble_eq_true rfl⟩) hS (fun q h1 h2 => absurd h2 (Nat.not_le.mpr h1)) (fun q h => hA q (Nat.le_trans hS.1 h)) (fun r_15 _ t_16 H_14 locs ht hvm hw hB hz1 hk1 hS => ?_)
    subst hw
    have hP := us_mono hP (fun q h => hk1 q h (Nat.not_le.mpr h))
    refine lv_if_ne (tgt := 25) hx hb dX2_unit_18 (by decide) (fun c_17 => ?_) (fun c_17 => ?_)
    · refine lv_iconst (v := 0) hx hb dX2_unit_25 (by decide) ?_
      refine lv_aload_n hx hb dX2_unit_26 rfl (lv_at hl 0 rfl) ?_
      refine va_get (D := (dC, dI)) (ci := 2) (v := .int (nI nu)) (C := RX2) (T := TX2) (N := 23) hx hb htb us_inX2 hown hK hP 0 rfl rfl 1 (by decide) (htb _ mw_424) (fun _ h9 => h9) rfl dX2_unit_27 ?_
      refine lv_bipush (v := 30) hx hb dX2_unit_30 (by decide) ?_
      refine lv_icmp_ne (tgt := 39) hx hb dX2_unit_32 (by decide) (fun c_18 => ?_) (fun c_18 => ?_)
      · refine lv_iconst (v := 0) hx hb dX2_unit_39 (by decide) ?_
        refine lv_iconst (v := 0) hx hb dX2_unit_40 (by decide) ?_
        refine va_calli (va_runV (As := [.int 0, .int 0, .int 0]) (rest := []) ⟨hx, hb, hml, hown, htb⟩ (kt_X2_throwing l dC dI md cI H_14.size th nu nm sk G v 0 0 0) (cwV 3 htb (us_gV mw_504 mw_506 mw_20 mw_34 mw_507) rfl rfl rfl (by decide +kernel) ⟨Nat.le_of_ble_eq_true rfl, Nat.le_of_ble_eq_true rfl⟩) ⟨um_P_blind, va_recv hK hP (ci := 2) (q0 := 0) rfl rfl, fun U hU hW => ⟨rfl, um_P_at hP hK hD hU hW⟩⟩ rfl rfl hl.1 rfl (lv_room (Nat.le_of_ble_eq_true rfl)) dX2_unit_41 ⟨Nat.le_of_ble_eq_true rfl, Nat.le_of_ble_eq_true rfl⟩) hS (fun q _ h => us_AA_le hS q h) (us_AA_le hS) (fun r_20 _ t_21 H_19 locs ht hvm hw hB hz1 hk1 hS => ?_)
        subst hw
        have hP := um_B_use ht hB
        have hD : va_D (us_AA (um_ads md) s.heap.size) (um_W md cI (um_th 0 0 0) nu nm sk G v) := us_D_of (by rw [um_W_adr, um_W_adr]) hD
        have hP : va_P (dC, dI) vwCl (um_W md cI (um_th 0 0 0) nu nm sk G v) H_19 := hP
        refine lv_if_eq (tgt := 49) hx hb dX2_unit_44 (by decide) (fun c_22 => ?_) (fun c_22 => ?_)
        · have hn3 : nu < 30 := by
            rcases Nat.lt_or_ge nu 30 with h | h
            · exact h
            · exact absurd (by rw [show nu = 30 by omega]; rfl) c_18
          refine lv_aload_n hx hb dX2_unit_49 rfl (lv_at hl 0 rfl) ?_
          refine va_get (D := (dC, dI)) (ci := 2) (v := .ref (md 1)) (C := RX2) (T := TX2) (N := 23) hx hb htb us_inX2 hown hK hP 0 rfl rfl 2 (by decide) (htb _ mw_425) (fun _ h9 => h9) rfl dX2_unit_50 ?_
          refine lv_aload_n hx hb dX2_unit_53 rfl (lv_at hl 0 rfl) ?_
          refine va_get (D := (dC, dI)) (ci := 2) (v := .int (nI nu)) (C := RX2) (T := TX2) (N := 23) hx hb htb us_inX2 hown hK hP 0 rfl rfl 1 (by decide) (htb _ mw_424) (fun _ h9 => h9) rfl dX2_unit_54 ?_
          refine lv_iload_n hx hb dX2_unit_57 rfl (lv_at hl 1 rfl) ?_
          refine us_iast (f := (G 0)) hx hb hK hP hD hS 1 0 rfl rfl hn3 (by decide) dX2_unit_58 (fun H_23 locs hP hD hS => ?_)
          have hP : va_P (dC, dI) vwCl (um_W md cI (um_th 0 0 0) nu nm sk (va_up G 0 (upd (G 0) nu p1)) v) H_23 := hP
          have hD : va_D (us_AA (um_ads md) s.heap.size) (um_W md cI (um_th 0 0 0) nu nm sk (va_up G 0 (upd (G 0) nu p1)) v) := hD
          refine lv_aload_n hx hb dX2_unit_59 rfl (lv_at hl 0 rfl) ?_
          refine va_get (D := (dC, dI)) (ci := 2) (v := .ref (md 2)) (C := RX2) (T := TX2) (N := 23) hx hb htb us_inX2 hown hK hP 0 rfl rfl 3 (by decide) (htb _ mw_426) (fun _ h9 => h9) rfl dX2_unit_60 ?_
          refine lv_aload_n hx hb dX2_unit_63 rfl (lv_at hl 0 rfl) ?_
          refine va_get (D := (dC, dI)) (ci := 2) (v := .int (nI nu)) (C := RX2) (T := TX2) (N := 23) hx hb htb us_inX2 hown hK hP 0 rfl rfl 1 (by decide) (htb _ mw_424) (fun _ h9 => h9) rfl dX2_unit_64 ?_
          refine lv_iload_n hx hb dX2_unit_67 rfl (lv_at hl 2 rfl) ?_
          refine us_iast (f := (G 1)) hx hb hK hP hD hS 2 0 rfl rfl hn3 (by decide) dX2_unit_68 (fun H_24 locs hP hD hS => ?_)
          have hP : va_P (dC, dI) vwCl (um_W md cI (um_th 0 0 0) nu nm sk (va_up (va_up G 0 (upd (G 0) nu p1)) 1 (upd (G 1) nu p2)) v) H_24 := hP
          have hD : va_D (us_AA (um_ads md) s.heap.size) (um_W md cI (um_th 0 0 0) nu nm sk (va_up (va_up G 0 (upd (G 0) nu p1)) 1 (upd (G 1) nu p2)) v) := hD
          refine lv_aload_n hx hb dX2_unit_69 rfl (lv_at hl 0 rfl) ?_
          refine lv_dup hx hb dX2_unit_70 rfl ?_
          refine va_get (D := (dC, dI)) (ci := 2) (v := .int (nI nu)) (C := RX2) (T := TX2) (N := 23) hx hb htb us_inX2 hown hK hP 0 rfl rfl 1 (by decide) (htb _ mw_424) (fun _ h9 => h9) rfl dX2_unit_71 ?_
          refine lv_iconst (v := 1) hx hb dX2_unit_74 (by decide) ?_
          refine lv_iadd hx hb dX2_unit_75 ?_
          rw [nI_1]
          refine va_put (D := (dC, dI)) (ci := 2) (v := .int (nI (nu + 1))) (ty := .int) (C := RX2) (T := TX2) (N := 23) hx hb htb us_inX2 tyX2 tyX2_ok nmX2 hown hK hP hD hS 0 rfl rfl 1 (by decide) (htb _ mw_424) (fun _ h9 => h9) rfl (by decide +kernel) rfl rfl (Nat.le_of_ble_eq_true rfl) dX2_unit_76 (fun H_25 locs hP hD hS => ?_)
          have hP : va_P (dC, dI) vwCl (um_W md cI (um_th 0 0 0) (nu + 1) nm sk (va_up (va_up G 0 (upd (G 0) nu p1)) 1 (upd (G 1) nu p2)) v) H_25 := hP
          have hD : va_D (us_AA (um_ads md) s.heap.size) (um_W md cI (um_th 0 0 0) (nu + 1) nm sk (va_up (va_up G 0 (upd (G 0) nu p1)) 1 (upd (G 1) nu p2)) v) := hD
          refine lv_aload_n hx hb dX2_unit_79 rfl (lv_at hl 0 rfl) ?_
          refine va_get (D := (dC, dI)) (ci := 2) (v := .int (nI (nu + 1))) (C := RX2) (T := TX2) (N := 23) hx hb htb us_inX2 hown hK hP 0 rfl rfl 1 (by decide) (htb _ mw_424) (fun _ h9 => h9) rfl dX2_unit_80 ?_
          refine lv_iconst (v := 1) hx hb dX2_unit_83 (by decide) ?_
          refine lv_isub hx hb dX2_unit_84 ?_
          rw [nI_pred]
          have hkv : um_unitK p1 p2 nu = 0 := by first | (simp only [um_unitK, eq_false c_4, eq_false c_17, eq_false c_18, eq_true c_22, if_true, if_false]; done) | (simp [um_unitK, c_4, c_17, c_18, c_22]; done)
          have hsp : um_unitK p1 p2 nu = 0 → (nI nu) = nI nu := by intro _; rfl
          exact W.iret (v := (nI nu)) hx hb hr (fun t ht hW => ⟨⟨(nI nu), (), rfl, hsp, um_B_of ht hP (by rw [hkv]; decide) (by rw [hkv, if_pos rfl]) rfl rfl (by rw [hkv, if_pos rfl]; rfl) rfl⟩, hS.F ht⟩) hS.2.2 dX2_unit_85
        · exact absurd (by decide) c_22
      · refine lv_iconst (v := 1) hx hb dX2_unit_35 (by decide) ?_
        refine lv_goto (tgt := 40) hx hb dX2_unit_36 (by decide) ?_
        refine lv_iconst (v := 0) hx hb dX2_unit_40 (by decide) ?_
        refine va_calli (va_runV (As := [.int 0, .int 1, .int 0]) (rest := []) ⟨hx, hb, hml, hown, htb⟩ (kt_X2_throwing l dC dI md cI H_14.size th nu nm sk G v 0 1 0) (cwV 3 htb (us_gV mw_504 mw_506 mw_20 mw_34 mw_507) rfl rfl rfl (by decide +kernel) ⟨Nat.le_of_ble_eq_true rfl, Nat.le_of_ble_eq_true rfl⟩) ⟨um_P_blind, va_recv hK hP (ci := 2) (q0 := 0) rfl rfl, fun U hU hW => ⟨rfl, um_P_at hP hK hD hU hW⟩⟩ rfl rfl hl.1 rfl (lv_room (Nat.le_of_ble_eq_true rfl)) dX2_unit_41 ⟨Nat.le_of_ble_eq_true rfl, Nat.le_of_ble_eq_true rfl⟩) hS (fun q _ h => us_AA_le hS q h) (us_AA_le hS) (fun r_27 _ t_28 H_26 locs ht hvm hw hB hz1 hk1 hS => ?_)
        subst hw
        have hP := um_B_use ht hB
        have hD : va_D (us_AA (um_ads md) s.heap.size) (um_W md cI (um_th 0 1 0) nu nm sk G v) := us_D_of (by rw [um_W_adr, um_W_adr]) hD
        have hP : va_P (dC, dI) vwCl (um_W md cI (um_th 0 1 0) nu nm sk G v) H_26 := hP
        refine lv_if_eq (tgt := 49) hx hb dX2_unit_44 (by decide) (fun c_29 => ?_) (fun c_29 => ?_)
        · exact absurd c_29 (by decide)
        · refine lv_iconst (v := 0) hx hb dX2_unit_47 (by decide) ?_
          have hkv : um_unitK p1 p2 nu = 2 := by first | (simp only [um_unitK, eq_false c_4, eq_false c_17, eq_true c_18, eq_false c_29, if_true, if_false]; done) | (simp [um_unitK, c_4, c_17, c_18, c_29]; done)
          have hsp : um_unitK p1 p2 nu = 0 → 0 = nI nu := by exact fun h9 => absurd (hkv.symm.trans h9) (by decide)
          exact W.iret (v := 0) hx hb hr (fun t ht hW => ⟨⟨0, (), rfl, hsp, um_B_of ht hP (by rw [hkv]; decide) (by rw [hkv, if_neg (by decide)]) rfl rfl (by rw [hkv, if_neg (by decide)]) rfl⟩, hS.F ht⟩) hS.2.2 dX2_unit_48
    · refine lv_iconst (v := 1) hx hb dX2_unit_21 (by decide) ?_
      refine lv_goto (tgt := 26) hx hb dX2_unit_22 (by decide) ?_
      refine lv_aload_n hx hb dX2_unit_26 rfl (lv_at hl 0 rfl) ?_
      refine va_get (D := (dC, dI)) (ci := 2) (v := .int (nI nu)) (C := RX2) (T := TX2) (N := 23) hx hb htb us_inX2 hown hK hP 0 rfl rfl 1 (by decide) (htb _ mw_424) (fun _ h9 => h9) rfl dX2_unit_27 ?_
      refine lv_bipush (v := 30) hx hb dX2_unit_30 (by decide) ?_
      refine lv_icmp_ne (tgt := 39) hx hb dX2_unit_32 (by decide) (fun c_30 => ?_) (fun c_30 => ?_)
      · refine lv_iconst (v := 0) hx hb dX2_unit_39 (by decide) ?_
        refine lv_iconst (v := 0) hx hb dX2_unit_40 (by decide) ?_
        refine va_calli (va_runV (As := [.int 1, .int 0, .int 0]) (rest := []) ⟨hx, hb, hml, hown, htb⟩ (kt_X2_throwing l dC dI md cI H_14.size th nu nm sk G v 1 0 0) (cwV 3 htb (us_gV mw_504 mw_506 mw_20 mw_34 mw_507) rfl rfl rfl (by decide +kernel) ⟨Nat.le_of_ble_eq_true rfl, Nat.le_of_ble_eq_true rfl⟩) ⟨um_P_blind, va_recv hK hP (ci := 2) (q0 := 0) rfl rfl, fun U hU hW => ⟨rfl, um_P_at hP hK hD hU hW⟩⟩ rfl rfl hl.1 rfl (lv_room (Nat.le_of_ble_eq_true rfl)) dX2_unit_41 ⟨Nat.le_of_ble_eq_true rfl, Nat.le_of_ble_eq_true rfl⟩) hS (fun q _ h => us_AA_le hS q h) (us_AA_le hS) (fun r_32 _ t_33 H_31 locs ht hvm hw hB hz1 hk1 hS => ?_)
        subst hw
        have hP := um_B_use ht hB
        have hD : va_D (us_AA (um_ads md) s.heap.size) (um_W md cI (um_th 1 0 0) nu nm sk G v) := us_D_of (by rw [um_W_adr, um_W_adr]) hD
        have hP : va_P (dC, dI) vwCl (um_W md cI (um_th 1 0 0) nu nm sk G v) H_31 := hP
        refine lv_if_eq (tgt := 49) hx hb dX2_unit_44 (by decide) (fun c_34 => ?_) (fun c_34 => ?_)
        · exact absurd c_34 (by decide)
        · refine lv_iconst (v := 0) hx hb dX2_unit_47 (by decide) ?_
          have hkv : um_unitK p1 p2 nu = 1 := by first | (simp only [um_unitK, eq_false c_4, eq_true c_17, eq_false c_30, eq_false c_34, if_true, if_false]; done) | (simp [um_unitK, c_4, c_17, c_30, c_34]; done)
          have hsp : um_unitK p1 p2 nu = 0 → 0 = nI nu := by exact fun h9 => absurd (hkv.symm.trans h9) (by decide)
          exact W.iret (v := 0) hx hb hr (fun t ht hW => ⟨⟨0, (), rfl, hsp, um_B_of ht hP (by rw [hkv]; decide) (by rw [hkv, if_neg (by decide)]) rfl rfl (by rw [hkv, if_neg (by decide)]) rfl⟩, hS.F ht⟩) hS.2.2 dX2_unit_48
      · refine lv_iconst (v := 1) hx hb dX2_unit_35 (by decide) ?_
        refine lv_goto (tgt := 40) hx hb dX2_unit_36 (by decide) ?_
        refine lv_iconst (v := 0) hx hb dX2_unit_40 (by decide) ?_
        refine va_calli (va_runV (As := [.int 1, .int 1, .int 0]) (rest := []) ⟨hx, hb, hml, hown, htb⟩ (kt_X2_throwing l dC dI md cI H_14.size th nu nm sk G v 1 1 0) (cwV 3 htb (us_gV mw_504 mw_506 mw_20 mw_34 mw_507) rfl rfl rfl (by decide +kernel) ⟨Nat.le_of_ble_eq_true rfl, Nat.le_of_ble_eq_true rfl⟩) ⟨um_P_blind, va_recv hK hP (ci := 2) (q0 := 0) rfl rfl, fun U hU hW => ⟨rfl, um_P_at hP hK hD hU hW⟩⟩ rfl rfl hl.1 rfl (lv_room (Nat.le_of_ble_eq_true rfl)) dX2_unit_41 ⟨Nat.le_of_ble_eq_true rfl, Nat.le_of_ble_eq_true rfl⟩) hS (fun q _ h => us_AA_le hS q h) (us_AA_le hS) (fun r_36 _ t_37 H_35 locs ht hvm hw hB hz1 hk1 hS => ?_)
        subst hw
        have hP := um_B_use ht hB
        have hD : va_D (us_AA (um_ads md) s.heap.size) (um_W md cI (um_th 1 1 0) nu nm sk G v) := us_D_of (by rw [um_W_adr, um_W_adr]) hD
        have hP : va_P (dC, dI) vwCl (um_W md cI (um_th 1 1 0) nu nm sk G v) H_35 := hP
        refine lv_if_eq (tgt := 49) hx hb dX2_unit_44 (by decide) (fun c_38 => ?_) (fun c_38 => ?_)
        · exact absurd c_38 (by decide)
        · refine lv_iconst (v := 0) hx hb dX2_unit_47 (by decide) ?_
          have hkv : um_unitK p1 p2 nu = 1 := by first | (simp only [um_unitK, eq_false c_4, eq_true c_17, eq_true c_30, eq_false c_38, if_true, if_false]; done) | (simp [um_unitK, c_4, c_17, c_30, c_38]; done)
          have hsp : um_unitK p1 p2 nu = 0 → 0 = nI nu := by exact fun h9 => absurd (hkv.symm.trans h9) (by decide)
          exact W.iret (v := 0) hx hb hr (fun t ht hW => ⟨⟨0, (), rfl, hsp, um_B_of ht hP (by rw [hkv]; decide) (by rw [hkv, if_neg (by decide)]) rfl rfl (by rw [hkv, if_neg (by decide)]) rfl⟩, hS.F ht⟩) hS.2.2 dX2_unit_48
set_option maxHeartbeats 8000000 in
set_option maxRecDepth 100000 in
theorem kt_X2_message (l : Launch) (dC : Nat → ClassId) (dI : Nat → Nat → Nat) (md : Nat → Nat) (cI : ClassId) (sz : Nat) (th : Int32) (nu nm : Nat) (sk : Int32) (G : Nat → Nat → Int32) (v : Nat → Int32) (p1 : Int32) (p2 : Int32) (p3 : Int32) (p4 : Int32) (hnm : nm ≤ 200) : Met l yX2_message wsX2_message ({ frames := 2, cells := 0, slots := 0, locals := 43 }) (va_Pc [.ref (md 0), .int p1, .int p2, .int p3, .int p4] (um_P dC dI md cI th nu nm sk G v sz)) (va_Qi (fun r (_ : Unit) => um_msgK p1 p2 p3 p4 nu nm = 0 → r = nI nm) (fun _ t => um_B dC dI md cI (um_msgK p1 p2 p3 p4 nu nm) nu (if um_msgK p1 p2 p3 p4 nu nm = 0 then nm + 1 else nm) (sk + (if um_isU p1 nu = 0 then 1 else 0)) (if um_msgK p1 p2 p3 p4 nu nm = 0 then um_msgG nm G p1 p2 p3 p4 else G) v t) (us_AA (um_ads md) sz)) 0 0 (us_AA (um_ads md) sz) := by
  refine Met.ofW (cc := cX2_message) (maxL := 6) (ret := (some .int)) (by decide) rfl ?_
  intro p e s m args below meth c s₁ B hml hv
  obtain ⟨rfl, hsz, hP, hK, hD⟩ := hv
  have hx := B.exec
  have hb := B.bytes
  have hr := B.returns
  have htb := us_htb (atoms_spec (ws := wsX2_message) B.pre)
  have hown : s.vm.findClass RX2 = some m.cls := findClass_of_methodNamed B.named
  have hlocks := B.notSynchronized
  subst hsz
  have hA : ∀ q : Nat, s.heap.size ≤ q → (us_AA (um_ads md) s.heap.size) q := fun q h => Or.inr h
  have hS : va_S (us_AA (um_ads md) s.heap.size) s.heap s.heap [] := va_S.rf
  have hP : va_P (dC, dI) vwCl (um_W md cI th nu nm sk G v) s.heap := hP
  have hD : va_D (us_AA (um_ads md) s.heap.size) (um_W md cI th nu nm sk G v) := us_D_aa hD
  have hl := lv_entry ([.ref (md 0), .int p1, .int p2, .int p3, .int p4]) (n := 6) (Nat.le_of_ble_eq_true rfl)
  rw [lg_entry_eq]
  generalize (lg_sl ([.ref (md 0), .int p1, .int p2, .int p3, .int p4]) ++ List.replicate (6 - (lg_sl ([.ref (md 0), .int p1, .int p2, .int p3, .int p4])).length) Slot.unset).toArray = ls at hl ⊢
  have hl : lv_has ls 6 [(0, .ref (md 0)), (1, .int p1), (2, .int p2), (3, .int p3), (4, .int p4)] := hl
  refine lv_aload_n hx hb dX2_message_0 rfl (lv_at hl 0 rfl) ?_
  refine lv_iload_n hx hb dX2_message_1 rfl (lv_at hl 1 rfl) ?_
  refine va_calli (va_runV (As := [.int p1]) (rest := []) ⟨hx, hb, hml, hown, htb⟩ (kt_X2_isUnit l dC dI md cI s.heap.size th nu nm sk G v p1) (cwV 1 htb (us_gV mw_512 mw_514 mw_21 mw_34 mw_515) rfl rfl rfl (by decide +kernel) ⟨Nat.le_of_ble_eq_true rfl, Nat.le_of_ble_eq_true rfl⟩) ⟨um_P_blind, va_recv hK hP (ci := 2) (q0 := 0) rfl rfl, fun U hU hW => ⟨rfl, um_P_at hP hK hD hU hW⟩⟩ rfl rfl hl.1 rfl (lv_room (Nat.le_of_ble_eq_true rfl)) dX2_message_2 ⟨Nat.le_of_ble_eq_true rfl, Nat.le_of_ble_eq_true rfl⟩) hS (fun q h1 h2 => absurd h2 (Nat.not_le.mpr h1)) (fun q h => hA q (Nat.le_trans hS.1 h)) (fun r_2 _ t_3 H_1 locs ht hvm hw hB hz1 hk1 hS => ?_)
  subst hw
  have hP := us_mono hP (fun q h => hk1 q h (Nat.not_le.mpr h))
  refine lv_if_ne (tgt := 12) hx hb dX2_message_5 (by decide) (fun c_4 => ?_) (fun c_4 => ?_)
  · refine lv_iconst (v := 0) hx hb dX2_message_12 (by decide) ?_
    refine lv_istore (lv' := [(5, .int 0), (0, .ref (md 0)), (1, .int p1), (2, .int p2), (3, .int p3), (4, .int p4)]) hx hb dX2_message_13 hl (by decide) rfl (fun ls hl => ?_)
    refine lv_aload_n hx hb dX2_message_15 rfl (lv_at hl 1 rfl) ?_
    refine lv_dup hx hb dX2_message_16 rfl ?_
    refine va_get (D := (dC, dI)) (ci := 2) (v := .int sk) (C := RX2) (T := TX2) (N := 23) hx hb htb us_inX2 hown hK hP 0 rfl rfl 9 (by decide) (htb _ mw_432) (fun _ h9 => h9) rfl dX2_message_17 ?_
    refine lv_iload hx hb dX2_message_20 (lv_at hl 0 rfl) ?_
    refine lv_if_eq (tgt := 29) hx hb dX2_message_22 (by decide) (fun c_5 => ?_) (fun c_5 => ?_)
    · refine lv_iconst (v := 0) hx hb dX2_message_29 (by decide) ?_
      refine lv_iadd hx hb dX2_message_30 ?_
      refine va_put (D := (dC, dI)) (ci := 2) (v := .int (sk + 0)) (ty := .int) (C := RX2) (T := TX2) (N := 23) hx hb htb us_inX2 tyX2 tyX2_ok nmX2 hown hK hP hD hS 0 rfl rfl 9 (by decide) (htb _ mw_432) (fun _ h9 => h9) rfl (by decide +kernel) rfl rfl (Nat.le_of_ble_eq_true rfl) dX2_message_31 (fun H_6 locs hP hD hS => ?_)
      have hP : va_P (dC, dI) vwCl (um_W md cI th nu nm (sk + 0) G v) H_6 := hP
      have hD : va_D (us_AA (um_ads md) s.heap.size) (um_W md cI th nu nm (sk + 0) G v) := hD
      refine lv_iload hx hb dX2_message_34 (lv_at hl 0 rfl) ?_
      refine lv_if_ne (tgt := 49) hx hb dX2_message_36 (by decide) (fun c_7 => ?_) (fun c_7 => ?_)
      · exact absurd (by decide) c_7
      · refine lv_iload_n hx hb dX2_message_39 rfl (lv_at hl 4 rfl) ?_
        refine lv_iconst (v := 0) hx hb dX2_message_40 (by decide) ?_
        refine lv_bipush (v := 15) hx hb dX2_message_41 (by decide) ?_
        refine va_calli (va_runS (As := [.int p3, .int 0, .int 15]) (rest := []) ⟨hx, hb, hml, hown, htb⟩ (kt_X2_in l H_6.size p3 0 15) (cwS 3 htb (us_gS mw_501 mw_502 mw_34 mw_503) rfl rfl rfl (by decide +kernel) ⟨Nat.le_of_ble_eq_true rfl, Nat.le_of_ble_eq_true rfl⟩) ⟨us_blind0, fun U hU _ => ⟨rfl, congrArg Array.size hU⟩⟩ rfl rfl hl.1 rfl (lv_room (Nat.le_of_ble_eq_true rfl)) dX2_message_43 ⟨Nat.le_of_ble_eq_true rfl, Nat.le_of_ble_eq_true rfl⟩) hS (fun q h1 h2 => absurd h2 (Nat.not_le.mpr h1)) (fun q h => hA q (Nat.le_trans hS.1 h)) (fun r_9 _ t_10 H_8 locs ht hvm hw hB hz1 hk1 hS => ?_)
        subst hw
        have hP := us_mono hP (fun q h => hk1 q h (Nat.not_le.mpr h))
        refine lv_if_ne (tgt := 53) hx hb dX2_message_46 (by decide) (fun c_11 => ?_) (fun c_11 => ?_)
        · refine lv_iconst (v := 0) hx hb dX2_message_53 (by decide) ?_
          refine lv_istore (lv' := [(5, .int 0), (0, .ref (md 0)), (1, .int p1), (2, .int p2), (3, .int p3), (4, .int p4)]) hx hb dX2_message_54 hl (by decide) rfl (fun ls hl => ?_)
          refine lv_aload_n hx hb dX2_message_56 rfl (lv_at hl 1 rfl) ?_
          refine lv_iload hx hb dX2_message_57 (lv_at hl 0 rfl) ?_
          refine lv_iload_n hx hb dX2_message_59 rfl (lv_at hl 3 rfl) ?_
          refine va_calli (va_runS (As := [.int p2]) (rest := [.int 0, .ref (md 0)]) ⟨hx, hb, hml, hown, htb⟩ (kt_X2_isMinute l H_8.size p2) (cwS 1 htb (us_gS mw_516 mw_517 mw_34 mw_518) rfl rfl rfl (by decide +kernel) ⟨Nat.le_of_ble_eq_true rfl, Nat.le_of_ble_eq_true rfl⟩) ⟨us_blind0, fun U hU _ => ⟨rfl, congrArg Array.size hU⟩⟩ rfl rfl hl.1 rfl (lv_room (Nat.le_of_ble_eq_true rfl)) dX2_message_60 ⟨Nat.le_of_ble_eq_true rfl, Nat.le_of_ble_eq_true rfl⟩) hS (fun q h1 h2 => absurd h2 (Nat.not_le.mpr h1)) (fun q h => hA q (Nat.le_trans hS.1 h)) (fun r_13 _ t_14 H_12 locs ht hvm hw hB hz1 hk1 hS => ?_)
          subst hw
          have hP := us_mono hP (fun q h => hk1 q h (Nat.not_le.mpr h))
          refine lv_if_eq (tgt := 75) hx hb dX2_message_63 (by decide) (fun c_15 => ?_) (fun c_15 => ?_)
          · refine lv_iconst (v := 1) hx hb dX2_message_75 (by decide) ?_
            refine lv_goto (tgt := 80) hx hb dX2_message_76 (by decide) ?_
            refine lv_aload_n hx hb dX2_message_80 rfl (lv_at hl 1 rfl) ?_
            refine va_get (D := (dC, dI)) (ci := 2) (v := .int (nI nm)) (C := RX2) (T := TX2) (N := 23) hx hb htb us_inX2 hown hK hP 0 rfl rfl 4 (by decide) (htb _ mw_427) (fun _ h9 => h9) rfl dX2_message_81 ?_
            refine lv_sipush (v := 200) hx hb dX2_message_84 (by decide) ?_
            refine lv_icmp_ne (tgt := 94) hx hb dX2_message_87 (by decide) (fun c_16 => ?_) (fun c_16 => ?_)
            · refine lv_iconst (v := 0) hx hb dX2_message_94 (by decide) ?_
              refine va_calli (va_runV (As := [.int 0, .int 1, .int 0]) (rest := []) ⟨hx, hb, hml, hown, htb⟩ (kt_X2_throwing l dC dI md cI H_12.size th nu nm (sk + 0) G v 0 1 0) (cwV 3 htb (us_gV mw_504 mw_506 mw_20 mw_34 mw_507) rfl rfl rfl (by decide +kernel) ⟨Nat.le_of_ble_eq_true rfl, Nat.le_of_ble_eq_true rfl⟩) ⟨um_P_blind, va_recv hK hP (ci := 2) (q0 := 0) rfl rfl, fun U hU hW => ⟨rfl, um_P_at hP hK hD hU hW⟩⟩ rfl rfl hl.1 rfl (lv_room (Nat.le_of_ble_eq_true rfl)) dX2_message_95 ⟨Nat.le_of_ble_eq_true rfl, Nat.le_of_ble_eq_true rfl⟩) hS (fun q _ h => us_AA_le hS q h) (us_AA_le hS) (fun r_18 _ t_19 H_17 locs ht hvm hw hB hz1 hk1 hS => ?_)
              subst hw
              have hP := um_B_use ht hB
              have hD : va_D (us_AA (um_ads md) s.heap.size) (um_W md cI (um_th 0 1 0) nu nm (sk + 0) G v) := us_D_of (by rw [um_W_adr, um_W_adr]) hD
              have hP : va_P (dC, dI) vwCl (um_W md cI (um_th 0 1 0) nu nm (sk + 0) G v) H_17 := hP
              refine lv_if_eq (tgt := 103) hx hb dX2_message_98 (by decide) (fun c_20 => ?_) (fun c_20 => ?_)
              · exact absurd c_20 (by decide)
              · refine lv_iconst (v := 0) hx hb dX2_message_101 (by decide) ?_
                have hkv : um_msgK p1 p2 p3 p4 nu nm = 2 := by first | (simp only [um_msgK, eq_false c_4, eq_true c_5, eq_true c_7, eq_false c_11, eq_true c_15, eq_false c_16, eq_false c_20, if_true, if_false]; done) | (simp [um_msgK, c_4, c_5, c_7, c_11, c_15, c_16, c_20]; done)
                have hsp : um_msgK p1 p2 p3 p4 nu nm = 0 → 0 = nI nm := by exact fun h9 => absurd (hkv.symm.trans h9) (by decide)
                exact W.iret (v := 0) hx hb hr (fun t ht hW => ⟨⟨0, (), rfl, hsp, um_B_of ht hP (by rw [hkv]; decide) rfl (by rw [hkv, if_neg (by decide)]) (by rw [if_neg c_4]) (by rw [hkv, if_neg (by decide)]) rfl⟩, hS.F ht⟩) hS.2.2 dX2_message_102
            · refine lv_iconst (v := 1) hx hb dX2_message_90 (by decide) ?_
              refine lv_goto (tgt := 95) hx hb dX2_message_91 (by decide) ?_
              refine va_calli (va_runV (As := [.int 0, .int 1, .int 1]) (rest := []) ⟨hx, hb, hml, hown, htb⟩ (kt_X2_throwing l dC dI md cI H_12.size th nu nm (sk + 0) G v 0 1 1) (cwV 3 htb (us_gV mw_504 mw_506 mw_20 mw_34 mw_507) rfl rfl rfl (by decide +kernel) ⟨Nat.le_of_ble_eq_true rfl, Nat.le_of_ble_eq_true rfl⟩) ⟨um_P_blind, va_recv hK hP (ci := 2) (q0 := 0) rfl rfl, fun U hU hW => ⟨rfl, um_P_at hP hK hD hU hW⟩⟩ rfl rfl hl.1 rfl (lv_room (Nat.le_of_ble_eq_true rfl)) dX2_message_95 ⟨Nat.le_of_ble_eq_true rfl, Nat.le_of_ble_eq_true rfl⟩) hS (fun q _ h => us_AA_le hS q h) (us_AA_le hS) (fun r_22 _ t_23 H_21 locs ht hvm hw hB hz1 hk1 hS => ?_)
              subst hw
              have hP := um_B_use ht hB
              have hD : va_D (us_AA (um_ads md) s.heap.size) (um_W md cI (um_th 0 1 1) nu nm (sk + 0) G v) := us_D_of (by rw [um_W_adr, um_W_adr]) hD
              have hP : va_P (dC, dI) vwCl (um_W md cI (um_th 0 1 1) nu nm (sk + 0) G v) H_21 := hP
              refine lv_if_eq (tgt := 103) hx hb dX2_message_98 (by decide) (fun c_24 => ?_) (fun c_24 => ?_)
              · exact absurd c_24 (by decide)
              · refine lv_iconst (v := 0) hx hb dX2_message_101 (by decide) ?_
                have hkv : um_msgK p1 p2 p3 p4 nu nm = 2 := by first | (simp only [um_msgK, eq_false c_4, eq_true c_5, eq_true c_7, eq_false c_11, eq_true c_15, eq_true c_16, eq_false c_24, if_true, if_false]; done) | (simp [um_msgK, c_4, c_5, c_7, c_11, c_15, c_16, c_24]; done)
                have hsp : um_msgK p1 p2 p3 p4 nu nm = 0 → 0 = nI nm := by exact fun h9 => absurd (hkv.symm.trans h9) (by decide)
                exact W.iret (v := 0) hx hb hr (fun t ht hW => ⟨⟨0, (), rfl, hsp, um_B_of ht hP (by rw [hkv]; decide) rfl (by rw [hkv, if_neg (by decide)]) (by rw [if_neg c_4]) (by rw [hkv, if_neg (by decide)]) rfl⟩, hS.F ht⟩) hS.2.2 dX2_message_102
          · refine lv_iload_n hx hb dX2_message_66 rfl (lv_at hl 4 rfl) ?_
            refine lv_iload hx hb dX2_message_67 (lv_at hl 5 rfl) ?_
            refine va_calli (va_runS (As := [.int p3, .int p4]) (rest := [.int 0, .ref (md 0)]) ⟨hx, hb, hml, hown, htb⟩ (kt_X2_isValue l H_12.size p3 p4) (cwS 2 htb (us_gS mw_520 mw_521 mw_34 mw_522) rfl rfl rfl (by decide +kernel) ⟨Nat.le_of_ble_eq_true rfl, Nat.le_of_ble_eq_true rfl⟩) ⟨us_blind0, fun U hU _ => ⟨rfl, congrArg Array.size hU⟩⟩ rfl rfl hl.1 rfl (lv_room (Nat.le_of_ble_eq_true rfl)) dX2_message_69 ⟨Nat.le_of_ble_eq_true rfl, Nat.le_of_ble_eq_true rfl⟩) hS (fun q h1 h2 => absurd h2 (Nat.not_le.mpr h1)) (fun q h => hA q (Nat.le_trans hS.1 h)) (fun r_26 _ t_27 H_25 locs ht hvm hw hB hz1 hk1 hS => ?_)
            subst hw
            have hP := us_mono hP (fun q h => hk1 q h (Nat.not_le.mpr h))
            refine lv_if_ne (tgt := 79) hx hb dX2_message_72 (by decide) (fun c_28 => ?_) (fun c_28 => ?_)
            · refine lv_iconst (v := 0) hx hb dX2_message_79 (by decide) ?_
              refine lv_aload_n hx hb dX2_message_80 rfl (lv_at hl 1 rfl) ?_
              refine va_get (D := (dC, dI)) (ci := 2) (v := .int (nI nm)) (C := RX2) (T := TX2) (N := 23) hx hb htb us_inX2 hown hK hP 0 rfl rfl 4 (by decide) (htb _ mw_427) (fun _ h9 => h9) rfl dX2_message_81 ?_
              refine lv_sipush (v := 200) hx hb dX2_message_84 (by decide) ?_
              refine lv_icmp_ne (tgt := 94) hx hb dX2_message_87 (by decide) (fun c_29 => ?_) (fun c_29 => ?_)
              · refine lv_iconst (v := 0) hx hb dX2_message_94 (by decide) ?_
                refine va_calli (va_runV (As := [.int 0, .int 0, .int 0]) (rest := []) ⟨hx, hb, hml, hown, htb⟩ (kt_X2_throwing l dC dI md cI H_25.size th nu nm (sk + 0) G v 0 0 0) (cwV 3 htb (us_gV mw_504 mw_506 mw_20 mw_34 mw_507) rfl rfl rfl (by decide +kernel) ⟨Nat.le_of_ble_eq_true rfl, Nat.le_of_ble_eq_true rfl⟩) ⟨um_P_blind, va_recv hK hP (ci := 2) (q0 := 0) rfl rfl, fun U hU hW => ⟨rfl, um_P_at hP hK hD hU hW⟩⟩ rfl rfl hl.1 rfl (lv_room (Nat.le_of_ble_eq_true rfl)) dX2_message_95 ⟨Nat.le_of_ble_eq_true rfl, Nat.le_of_ble_eq_true rfl⟩) hS (fun q _ h => us_AA_le hS q h) (us_AA_le hS) (fun r_31 _ t_32 H_30 locs ht hvm hw hB hz1 hk1 hS => ?_)
                subst hw
                have hP := um_B_use ht hB
                have hD : va_D (us_AA (um_ads md) s.heap.size) (um_W md cI (um_th 0 0 0) nu nm (sk + 0) G v) := us_D_of (by rw [um_W_adr, um_W_adr]) hD
                have hP : va_P (dC, dI) vwCl (um_W md cI (um_th 0 0 0) nu nm (sk + 0) G v) H_30 := hP
                refine lv_if_eq (tgt := 103) hx hb dX2_message_98 (by decide) (fun c_33 => ?_) (fun c_33 => ?_)
                · have hn2 : nm < 200 := by
                    rcases Nat.lt_or_ge nm 200 with h | h
                    · exact h
                    · exact absurd (by rw [show nm = 200 by omega]; rfl) c_29
                  refine lv_aload_n hx hb dX2_message_103 rfl (lv_at hl 1 rfl) ?_
                  refine va_get (D := (dC, dI)) (ci := 2) (v := .ref (md 3)) (C := RX2) (T := TX2) (N := 23) hx hb htb us_inX2 hown hK hP 0 rfl rfl 5 (by decide) (htb _ mw_428) (fun _ h9 => h9) rfl dX2_message_104 ?_
                  refine lv_aload_n hx hb dX2_message_107 rfl (lv_at hl 1 rfl) ?_
                  refine va_get (D := (dC, dI)) (ci := 2) (v := .int (nI nm)) (C := RX2) (T := TX2) (N := 23) hx hb htb us_inX2 hown hK hP 0 rfl rfl 4 (by decide) (htb _ mw_427) (fun _ h9 => h9) rfl dX2_message_108 ?_
                  refine lv_iload_n hx hb dX2_message_111 rfl (lv_at hl 2 rfl) ?_
                  refine us_iast (f := (G 2)) hx hb hK hP hD hS 3 0 rfl rfl hn2 (by decide) dX2_message_112 (fun H_34 locs hP hD hS => ?_)
                  have hP : va_P (dC, dI) vwCl (um_W md cI (um_th 0 0 0) nu nm (sk + 0) (va_up G 2 (upd (G 2) nm p1)) v) H_34 := hP
                  have hD : va_D (us_AA (um_ads md) s.heap.size) (um_W md cI (um_th 0 0 0) nu nm (sk + 0) (va_up G 2 (upd (G 2) nm p1)) v) := hD
                  refine lv_aload_n hx hb dX2_message_113 rfl (lv_at hl 1 rfl) ?_
                  refine va_get (D := (dC, dI)) (ci := 2) (v := .ref (md 4)) (C := RX2) (T := TX2) (N := 23) hx hb htb us_inX2 hown hK hP 0 rfl rfl 6 (by decide) (htb _ mw_429) (fun _ h9 => h9) rfl dX2_message_114 ?_
                  refine lv_aload_n hx hb dX2_message_117 rfl (lv_at hl 1 rfl) ?_
                  refine va_get (D := (dC, dI)) (ci := 2) (v := .int (nI nm)) (C := RX2) (T := TX2) (N := 23) hx hb htb us_inX2 hown hK hP 0 rfl rfl 4 (by decide) (htb _ mw_427) (fun _ h9 => h9) rfl dX2_message_118 ?_
                  refine lv_iload_n hx hb dX2_message_121 rfl (lv_at hl 3 rfl) ?_
                  refine us_iast (f := (G 3)) hx hb hK hP hD hS 4 0 rfl rfl hn2 (by decide) dX2_message_122 (fun H_35 locs hP hD hS => ?_)
                  have hP : va_P (dC, dI) vwCl (um_W md cI (um_th 0 0 0) nu nm (sk + 0) (va_up (va_up G 2 (upd (G 2) nm p1)) 3 (upd (G 3) nm p2)) v) H_35 := hP
                  have hD : va_D (us_AA (um_ads md) s.heap.size) (um_W md cI (um_th 0 0 0) nu nm (sk + 0) (va_up (va_up G 2 (upd (G 2) nm p1)) 3 (upd (G 3) nm p2)) v) := hD
                  refine lv_aload_n hx hb dX2_message_123 rfl (lv_at hl 1 rfl) ?_
                  refine va_get (D := (dC, dI)) (ci := 2) (v := .ref (md 5)) (C := RX2) (T := TX2) (N := 23) hx hb htb us_inX2 hown hK hP 0 rfl rfl 7 (by decide) (htb _ mw_430) (fun _ h9 => h9) rfl dX2_message_124 ?_
                  refine lv_aload_n hx hb dX2_message_127 rfl (lv_at hl 1 rfl) ?_
                  refine va_get (D := (dC, dI)) (ci := 2) (v := .int (nI nm)) (C := RX2) (T := TX2) (N := 23) hx hb htb us_inX2 hown hK hP 0 rfl rfl 4 (by decide) (htb _ mw_427) (fun _ h9 => h9) rfl dX2_message_128 ?_
                  refine lv_iload_n hx hb dX2_message_131 rfl (lv_at hl 4 rfl) ?_
                  refine us_iast (f := (G 4)) hx hb hK hP hD hS 5 0 rfl rfl hn2 (by decide) dX2_message_132 (fun H_36 locs hP hD hS => ?_)
                  have hP : va_P (dC, dI) vwCl (um_W md cI (um_th 0 0 0) nu nm (sk + 0) (va_up (va_up (va_up G 2 (upd (G 2) nm p1)) 3 (upd (G 3) nm p2)) 4 (upd (G 4) nm p3)) v) H_36 := hP
                  have hD : va_D (us_AA (um_ads md) s.heap.size) (um_W md cI (um_th 0 0 0) nu nm (sk + 0) (va_up (va_up (va_up G 2 (upd (G 2) nm p1)) 3 (upd (G 3) nm p2)) 4 (upd (G 4) nm p3)) v) := hD
                  refine lv_aload_n hx hb dX2_message_133 rfl (lv_at hl 1 rfl) ?_
                  refine va_get (D := (dC, dI)) (ci := 2) (v := .ref (md 6)) (C := RX2) (T := TX2) (N := 23) hx hb htb us_inX2 hown hK hP 0 rfl rfl 8 (by decide) (htb _ mw_431) (fun _ h9 => h9) rfl dX2_message_134 ?_
                  refine lv_aload_n hx hb dX2_message_137 rfl (lv_at hl 1 rfl) ?_
                  refine va_get (D := (dC, dI)) (ci := 2) (v := .int (nI nm)) (C := RX2) (T := TX2) (N := 23) hx hb htb us_inX2 hown hK hP 0 rfl rfl 4 (by decide) (htb _ mw_427) (fun _ h9 => h9) rfl dX2_message_138 ?_
                  refine lv_iload hx hb dX2_message_141 (lv_at hl 5 rfl) ?_
                  refine us_iast (f := (G 5)) hx hb hK hP hD hS 6 0 rfl rfl hn2 (by decide) dX2_message_143 (fun H_37 locs hP hD hS => ?_)
                  have hP : va_P (dC, dI) vwCl (um_W md cI (um_th 0 0 0) nu nm (sk + 0) (va_up (va_up (va_up (va_up G 2 (upd (G 2) nm p1)) 3 (upd (G 3) nm p2)) 4 (upd (G 4) nm p3)) 5 (upd (G 5) nm p4)) v) H_37 := hP
                  have hD : va_D (us_AA (um_ads md) s.heap.size) (um_W md cI (um_th 0 0 0) nu nm (sk + 0) (va_up (va_up (va_up (va_up G 2 (upd (G 2) nm p1)) 3 (upd (G 3) nm p2)) 4 (upd (G 4) nm p3)) 5 (upd (G 5) nm p4)) v) := hD
                  refine lv_aload_n hx hb dX2_message_144 rfl (lv_at hl 1 rfl) ?_
                  refine lv_dup hx hb dX2_message_145 rfl ?_
                  refine va_get (D := (dC, dI)) (ci := 2) (v := .int (nI nm)) (C := RX2) (T := TX2) (N := 23) hx hb htb us_inX2 hown hK hP 0 rfl rfl 4 (by decide) (htb _ mw_427) (fun _ h9 => h9) rfl dX2_message_146 ?_
                  refine lv_iconst (v := 1) hx hb dX2_message_149 (by decide) ?_
                  refine lv_iadd hx hb dX2_message_150 ?_
                  rw [nI_1]
                  refine va_put (D := (dC, dI)) (ci := 2) (v := .int (nI (nm + 1))) (ty := .int) (C := RX2) (T := TX2) (N := 23) hx hb htb us_inX2 tyX2 tyX2_ok nmX2 hown hK hP hD hS 0 rfl rfl 4 (by decide) (htb _ mw_427) (fun _ h9 => h9) rfl (by decide +kernel) rfl rfl (Nat.le_of_ble_eq_true rfl) dX2_message_151 (fun H_38 locs hP hD hS => ?_)
                  have hP : va_P (dC, dI) vwCl (um_W md cI (um_th 0 0 0) nu (nm + 1) (sk + 0) (va_up (va_up (va_up (va_up G 2 (upd (G 2) nm p1)) 3 (upd (G 3) nm p2)) 4 (upd (G 4) nm p3)) 5 (upd (G 5) nm p4)) v) H_38 := hP
                  have hD : va_D (us_AA (um_ads md) s.heap.size) (um_W md cI (um_th 0 0 0) nu (nm + 1) (sk + 0) (va_up (va_up (va_up (va_up G 2 (upd (G 2) nm p1)) 3 (upd (G 3) nm p2)) 4 (upd (G 4) nm p3)) 5 (upd (G 5) nm p4)) v) := hD
                  refine lv_aload_n hx hb dX2_message_154 rfl (lv_at hl 1 rfl) ?_
                  refine va_get (D := (dC, dI)) (ci := 2) (v := .int (nI (nm + 1))) (C := RX2) (T := TX2) (N := 23) hx hb htb us_inX2 hown hK hP 0 rfl rfl 4 (by decide) (htb _ mw_427) (fun _ h9 => h9) rfl dX2_message_155 ?_
                  refine lv_iconst (v := 1) hx hb dX2_message_158 (by decide) ?_
                  refine lv_isub hx hb dX2_message_159 ?_
                  rw [nI_pred]
                  have hkv : um_msgK p1 p2 p3 p4 nu nm = 0 := by first | (simp only [um_msgK, eq_false c_4, eq_true c_5, eq_true c_7, eq_false c_11, eq_false c_15, eq_false c_28, eq_false c_29, eq_true c_33, if_true, if_false]; done) | (simp [um_msgK, c_4, c_5, c_7, c_11, c_15, c_28, c_29, c_33]; done)
                  have hsp : um_msgK p1 p2 p3 p4 nu nm = 0 → (nI nm) = nI nm := by intro _; rfl
                  exact W.iret (v := (nI nm)) hx hb hr (fun t ht hW => ⟨⟨(nI nm), (), rfl, hsp, um_B_of ht hP (by rw [hkv]; decide) rfl (by rw [hkv, if_pos rfl]) (by rw [if_neg c_4]) (by rw [hkv, if_pos rfl]; rfl) rfl⟩, hS.F ht⟩) hS.2.2 dX2_message_160
                · exact absurd (by decide) c_33
              · refine lv_iconst (v := 1) hx hb dX2_message_90 (by decide) ?_
                refine lv_goto (tgt := 95) hx hb dX2_message_91 (by decide) ?_
                refine va_calli (va_runV (As := [.int 0, .int 0, .int 1]) (rest := []) ⟨hx, hb, hml, hown, htb⟩ (kt_X2_throwing l dC dI md cI H_25.size th nu nm (sk + 0) G v 0 0 1) (cwV 3 htb (us_gV mw_504 mw_506 mw_20 mw_34 mw_507) rfl rfl rfl (by decide +kernel) ⟨Nat.le_of_ble_eq_true rfl, Nat.le_of_ble_eq_true rfl⟩) ⟨um_P_blind, va_recv hK hP (ci := 2) (q0 := 0) rfl rfl, fun U hU hW => ⟨rfl, um_P_at hP hK hD hU hW⟩⟩ rfl rfl hl.1 rfl (lv_room (Nat.le_of_ble_eq_true rfl)) dX2_message_95 ⟨Nat.le_of_ble_eq_true rfl, Nat.le_of_ble_eq_true rfl⟩) hS (fun q _ h => us_AA_le hS q h) (us_AA_le hS) (fun r_40 _ t_41 H_39 locs ht hvm hw hB hz1 hk1 hS => ?_)
                subst hw
                have hP := um_B_use ht hB
                have hD : va_D (us_AA (um_ads md) s.heap.size) (um_W md cI (um_th 0 0 1) nu nm (sk + 0) G v) := us_D_of (by rw [um_W_adr, um_W_adr]) hD
                have hP : va_P (dC, dI) vwCl (um_W md cI (um_th 0 0 1) nu nm (sk + 0) G v) H_39 := hP
                refine lv_if_eq (tgt := 103) hx hb dX2_message_98 (by decide) (fun c_42 => ?_) (fun c_42 => ?_)
                · exact absurd c_42 (by decide)
                · refine lv_iconst (v := 0) hx hb dX2_message_101 (by decide) ?_
                  have hkv : um_msgK p1 p2 p3 p4 nu nm = 3 := by first | (simp only [um_msgK, eq_false c_4, eq_true c_5, eq_true c_7, eq_false c_11, eq_false c_15, eq_false c_28, eq_true c_29, eq_false c_42, if_true, if_false]; done) | (simp [um_msgK, c_4, c_5, c_7, c_11, c_15, c_28, c_29, c_42]; done)
                  have hsp : um_msgK p1 p2 p3 p4 nu nm = 0 → 0 = nI nm := by exact fun h9 => absurd (hkv.symm.trans h9) (by decide)
                  exact W.iret (v := 0) hx hb hr (fun t ht hW => ⟨⟨0, (), rfl, hsp, um_B_of ht hP (by rw [hkv]; decide) rfl (by rw [hkv, if_neg (by decide)]) (by rw [if_neg c_4]) (by rw [hkv, if_neg (by decide)]) rfl⟩, hS.F ht⟩) hS.2.2 dX2_message_102
            · refine lv_iconst (v := 1) hx hb dX2_message_75 (by decide) ?_
              refine lv_goto (tgt := 80) hx hb dX2_message_76 (by decide) ?_
              refine lv_aload_n hx hb dX2_message_80 rfl (lv_at hl 1 rfl) ?_
              refine va_get (D := (dC, dI)) (ci := 2) (v := .int (nI nm)) (C := RX2) (T := TX2) (N := 23) hx hb htb us_inX2 hown hK hP 0 rfl rfl 4 (by decide) (htb _ mw_427) (fun _ h9 => h9) rfl dX2_message_81 ?_
              refine lv_sipush (v := 200) hx hb dX2_message_84 (by decide) ?_
              refine lv_icmp_ne (tgt := 94) hx hb dX2_message_87 (by decide) (fun c_43 => ?_) (fun c_43 => ?_)
              · refine lv_iconst (v := 0) hx hb dX2_message_94 (by decide) ?_
                refine va_calli (va_runV (As := [.int 0, .int 1, .int 0]) (rest := []) ⟨hx, hb, hml, hown, htb⟩ (kt_X2_throwing l dC dI md cI H_25.size th nu nm (sk + 0) G v 0 1 0) (cwV 3 htb (us_gV mw_504 mw_506 mw_20 mw_34 mw_507) rfl rfl rfl (by decide +kernel) ⟨Nat.le_of_ble_eq_true rfl, Nat.le_of_ble_eq_true rfl⟩) ⟨um_P_blind, va_recv hK hP (ci := 2) (q0 := 0) rfl rfl, fun U hU hW => ⟨rfl, um_P_at hP hK hD hU hW⟩⟩ rfl rfl hl.1 rfl (lv_room (Nat.le_of_ble_eq_true rfl)) dX2_message_95 ⟨Nat.le_of_ble_eq_true rfl, Nat.le_of_ble_eq_true rfl⟩) hS (fun q _ h => us_AA_le hS q h) (us_AA_le hS) (fun r_45 _ t_46 H_44 locs ht hvm hw hB hz1 hk1 hS => ?_)
                subst hw
                have hP := um_B_use ht hB
                have hD : va_D (us_AA (um_ads md) s.heap.size) (um_W md cI (um_th 0 1 0) nu nm (sk + 0) G v) := us_D_of (by rw [um_W_adr, um_W_adr]) hD
                have hP : va_P (dC, dI) vwCl (um_W md cI (um_th 0 1 0) nu nm (sk + 0) G v) H_44 := hP
                refine lv_if_eq (tgt := 103) hx hb dX2_message_98 (by decide) (fun c_47 => ?_) (fun c_47 => ?_)
                · exact absurd c_47 (by decide)
                · refine lv_iconst (v := 0) hx hb dX2_message_101 (by decide) ?_
                  have hkv : um_msgK p1 p2 p3 p4 nu nm = 2 := by first | (simp only [um_msgK, eq_false c_4, eq_true c_5, eq_true c_7, eq_false c_11, eq_false c_15, eq_true c_28, eq_false c_43, eq_false c_47, if_true, if_false]; done) | (simp [um_msgK, c_4, c_5, c_7, c_11, c_15, c_28, c_43, c_47]; done)
                  have hsp : um_msgK p1 p2 p3 p4 nu nm = 0 → 0 = nI nm := by exact fun h9 => absurd (hkv.symm.trans h9) (by decide)
                  exact W.iret (v := 0) hx hb hr (fun t ht hW => ⟨⟨0, (), rfl, hsp, um_B_of ht hP (by rw [hkv]; decide) rfl (by rw [hkv, if_neg (by decide)]) (by rw [if_neg c_4]) (by rw [hkv, if_neg (by decide)]) rfl⟩, hS.F ht⟩) hS.2.2 dX2_message_102
              · refine lv_iconst (v := 1) hx hb dX2_message_90 (by decide) ?_
                refine lv_goto (tgt := 95) hx hb dX2_message_91 (by decide) ?_
                refine va_calli (va_runV (As := [.int 0, .int 1, .int 1]) (rest := []) ⟨hx, hb, hml, hown, htb⟩ (kt_X2_throwing l dC dI md cI H_25.size th nu nm (sk + 0) G v 0 1 1) (cwV 3 htb (us_gV mw_504 mw_506 mw_20 mw_34 mw_507) rfl rfl rfl (by decide +kernel) ⟨Nat.le_of_ble_eq_true rfl, Nat.le_of_ble_eq_true rfl⟩) ⟨um_P_blind, va_recv hK hP (ci := 2) (q0 := 0) rfl rfl, fun U hU hW => ⟨rfl, um_P_at hP hK hD hU hW⟩⟩ rfl rfl hl.1 rfl (lv_room (Nat.le_of_ble_eq_true rfl)) dX2_message_95 ⟨Nat.le_of_ble_eq_true rfl, Nat.le_of_ble_eq_true rfl⟩) hS (fun q _ h => us_AA_le hS q h) (us_AA_le hS) (fun r_49 _ t_50 H_48 locs ht hvm hw hB hz1 hk1 hS => ?_)
                subst hw
                have hP := um_B_use ht hB
                have hD : va_D (us_AA (um_ads md) s.heap.size) (um_W md cI (um_th 0 1 1) nu nm (sk + 0) G v) := us_D_of (by rw [um_W_adr, um_W_adr]) hD
                have hP : va_P (dC, dI) vwCl (um_W md cI (um_th 0 1 1) nu nm (sk + 0) G v) H_48 := hP
                refine lv_if_eq (tgt := 103) hx hb dX2_message_98 (by decide) (fun c_51 => ?_) (fun c_51 => ?_)
                · exact absurd c_51 (by decide)
                · refine lv_iconst (v := 0) hx hb dX2_message_101 (by decide) ?_
                  have hkv : um_msgK p1 p2 p3 p4 nu nm = 2 := by first | (simp only [um_msgK, eq_false c_4, eq_true c_5, eq_true c_7, eq_false c_11, eq_false c_15, eq_true c_28, eq_true c_43, eq_false c_51, if_true, if_false]; done) | (simp [um_msgK, c_4, c_5, c_7, c_11, c_15, c_28, c_43, c_51]; done)
                  have hsp : um_msgK p1 p2 p3 p4 nu nm = 0 → 0 = nI nm := by exact fun h9 => absurd (hkv.symm.trans h9) (by decide)
                  exact W.iret (v := 0) hx hb hr (fun t ht hW => ⟨⟨0, (), rfl, hsp, um_B_of ht hP (by rw [hkv]; decide) rfl (by rw [hkv, if_neg (by decide)]) (by rw [if_neg c_4]) (by rw [hkv, if_neg (by decide)]) rfl⟩, hS.F ht⟩) hS.2.2 dX2_message_102
        · refine lv_iconst (v := 1) hx hb dX2_message_49 (by decide) ?_
          refine lv_goto (tgt := 54) hx hb dX2_message_50 (by decide) ?_
          refine lv_istore (lv' := [(5, .int 1), (0, .ref (md 0)), (1, .int p1), (2, .int p2), (3, .int p3), (4, .int p4)]) hx hb dX2_message_54 hl (by decide) rfl (fun ls hl => ?_)
          refine lv_aload_n hx hb dX2_message_56 rfl (lv_at hl 1 rfl) ?_
          refine lv_iload hx hb dX2_message_57 (lv_at hl 0 rfl) ?_
          refine lv_iload_n hx hb dX2_message_59 rfl (lv_at hl 3 rfl) ?_
          refine va_calli (va_runS (As := [.int p2]) (rest := [.int 1, .ref (md 0)]) ⟨hx, hb, hml, hown, htb⟩ (kt_X2_isMinute l H_8.size p2) (cwS 1 htb (us_gS mw_516 mw_517 mw_34 mw_518) rfl rfl rfl (by decide +kernel) ⟨Nat.le_of_ble_eq_true rfl, Nat.le_of_ble_eq_true rfl⟩) ⟨us_blind0, fun U hU _ => ⟨rfl, congrArg Array.size hU⟩⟩ rfl rfl hl.1 rfl (lv_room (Nat.le_of_ble_eq_true rfl)) dX2_message_60 ⟨Nat.le_of_ble_eq_true rfl, Nat.le_of_ble_eq_true rfl⟩) hS (fun q h1 h2 => absurd h2 (Nat.not_le.mpr h1)) (fun q h => hA q (Nat.le_trans hS.1 h)) (fun r_53 _ t_54 H_52 locs ht hvm hw hB hz1 hk1 hS => ?_)
          subst hw
          have hP := us_mono hP (fun q h => hk1 q h (Nat.not_le.mpr h))
          refine lv_if_eq (tgt := 75) hx hb dX2_message_63 (by decide) (fun c_55 => ?_) (fun c_55 => ?_)
          · refine lv_iconst (v := 1) hx hb dX2_message_75 (by decide) ?_
            refine lv_goto (tgt := 80) hx hb dX2_message_76 (by decide) ?_
            refine lv_aload_n hx hb dX2_message_80 rfl (lv_at hl 1 rfl) ?_
            refine va_get (D := (dC, dI)) (ci := 2) (v := .int (nI nm)) (C := RX2) (T := TX2) (N := 23) hx hb htb us_inX2 hown hK hP 0 rfl rfl 4 (by decide) (htb _ mw_427) (fun _ h9 => h9) rfl dX2_message_81 ?_
            refine lv_sipush (v := 200) hx hb dX2_message_84 (by decide) ?_
            refine lv_icmp_ne (tgt := 94) hx hb dX2_message_87 (by decide) (fun c_56 => ?_) (fun c_56 => ?_)
            · refine lv_iconst (v := 0) hx hb dX2_message_94 (by decide) ?_
              refine va_calli (va_runV (As := [.int 1, .int 1, .int 0]) (rest := []) ⟨hx, hb, hml, hown, htb⟩ (kt_X2_throwing l dC dI md cI H_52.size th nu nm (sk + 0) G v 1 1 0) (cwV 3 htb (us_gV mw_504 mw_506 mw_20 mw_34 mw_507) rfl rfl rfl (by decide +kernel) ⟨Nat.le_of_ble_eq_true rfl, Nat.le_of_ble_eq_true rfl⟩) ⟨um_P_blind, va_recv hK hP (ci := 2) (q0 := 0) rfl rfl, fun U hU hW => ⟨rfl, um_P_at hP hK hD hU hW⟩⟩ rfl rfl hl.1 rfl (lv_room (Nat.le_of_ble_eq_true rfl)) dX2_message_95 ⟨Nat.le_of_ble_eq_true rfl, Nat.le_of_ble_eq_true rfl⟩) hS (fun q _ h => us_AA_le hS q h) (us_AA_le hS) (fun r_58 _ t_59 H_57 locs ht hvm hw hB hz1 hk1 hS => ?_)
              subst hw
              have hP := um_B_use ht hB
              have hD : va_D (us_AA (um_ads md) s.heap.size) (um_W md cI (um_th 1 1 0) nu nm (sk + 0) G v) := us_D_of (by rw [um_W_adr, um_W_adr]) hD
              have hP : va_P (dC, dI) vwCl (um_W md cI (um_th 1 1 0) nu nm (sk + 0) G v) H_57 := hP
              refine lv_if_eq (tgt := 103) hx hb dX2_message_98 (by decide) (fun c_60 => ?_) (fun c_60 => ?_)
              · exact absurd c_60 (by decide)
              · refine lv_iconst (v := 0) hx hb dX2_message_101 (by decide) ?_
                have hkv : um_msgK p1 p2 p3 p4 nu nm = 1 := by first | (simp only [um_msgK, eq_false c_4, eq_true c_5, eq_true c_7, eq_true c_11, eq_true c_55, eq_false c_56, eq_false c_60, if_true, if_false]; done) | (simp [um_msgK, c_4, c_5, c_7, c_11, c_55, c_56, c_60]; done)
                have hsp : um_msgK p1 p2 p3 p4 nu nm = 0 → 0 = nI nm := by exact fun h9 => absurd (hkv.symm.trans h9) (by decide)
                exact W.iret (v := 0) hx hb hr (fun t ht hW => ⟨⟨0, (), rfl, hsp, um_B_of ht hP (by rw [hkv]; decide) rfl (by rw [hkv, if_neg (by decide)]) (by rw [if_neg c_4]) (by rw [hkv, if_neg (by decide)]) rfl⟩, hS.F ht⟩) hS.2.2 dX2_message_102
            · refine lv_iconst (v := 1) hx hb dX2_message_90 (by decide) ?_
              refine lv_goto (tgt := 95) hx hb dX2_message_91 (by decide) ?_
              refine va_calli (va_runV (As := [.int 1, .int 1, .int 1]) (rest := []) ⟨hx, hb, hml, hown, htb⟩ (kt_X2_throwing l dC dI md cI H_52.size th nu nm (sk + 0) G v 1 1 1) (cwV 3 htb (us_gV mw_504 mw_506 mw_20 mw_34 mw_507) rfl rfl rfl (by decide +kernel) ⟨Nat.le_of_ble_eq_true rfl, Nat.le_of_ble_eq_true rfl⟩) ⟨um_P_blind, va_recv hK hP (ci := 2) (q0 := 0) rfl rfl, fun U hU hW => ⟨rfl, um_P_at hP hK hD hU hW⟩⟩ rfl rfl hl.1 rfl (lv_room (Nat.le_of_ble_eq_true rfl)) dX2_message_95 ⟨Nat.le_of_ble_eq_true rfl, Nat.le_of_ble_eq_true rfl⟩) hS (fun q _ h => us_AA_le hS q h) (us_AA_le hS) (fun r_62 _ t_63 H_61 locs ht hvm hw hB hz1 hk1 hS => ?_)
              subst hw
              have hP := um_B_use ht hB
              have hD : va_D (us_AA (um_ads md) s.heap.size) (um_W md cI (um_th 1 1 1) nu nm (sk + 0) G v) := us_D_of (by rw [um_W_adr, um_W_adr]) hD
              have hP : va_P (dC, dI) vwCl (um_W md cI (um_th 1 1 1) nu nm (sk + 0) G v) H_61 := hP
              refine lv_if_eq (tgt := 103) hx hb dX2_message_98 (by decide) (fun c_64 => ?_) (fun c_64 => ?_)
              · exact absurd c_64 (by decide)
              · refine lv_iconst (v := 0) hx hb dX2_message_101 (by decide) ?_
                have hkv : um_msgK p1 p2 p3 p4 nu nm = 1 := by first | (simp only [um_msgK, eq_false c_4, eq_true c_5, eq_true c_7, eq_true c_11, eq_true c_55, eq_true c_56, eq_false c_64, if_true, if_false]; done) | (simp [um_msgK, c_4, c_5, c_7, c_11, c_55, c_56, c_64]; done)
                have hsp : um_msgK p1 p2 p3 p4 nu nm = 0 → 0 = nI nm := by exact fun h9 => absurd (hkv.symm.trans h9) (by decide)
                exact W.iret (v := 0) hx hb hr (fun t ht hW => ⟨⟨0, (), rfl, hsp, um_B_of ht hP (by rw [hkv]; decide) rfl (by rw [hkv, if_neg (by decide)]) (by rw [if_neg c_4]) (by rw [hkv, if_neg (by decide)]) rfl⟩, hS.F ht⟩) hS.2.2 dX2_message_102
          · refine lv_iload_n hx hb dX2_message_66 rfl (lv_at hl 4 rfl) ?_
            refine lv_iload hx hb dX2_message_67 (lv_at hl 5 rfl) ?_
            refine va_calli (va_runS (As := [.int p3, .int p4]) (rest := [.int 1, .ref (md 0)]) ⟨hx, hb, hml, hown, htb⟩ (kt_X2_isValue l H_52.size p3 p4) (cwS 2 htb (us_gS mw_520 mw_521 mw_34 mw_522) rfl rfl rfl (by decide +kernel) ⟨Nat.le_of_ble_eq_true rfl, Nat.le_of_ble_eq_true rfl⟩) ⟨us_blind0, fun U hU _ => ⟨rfl, congrArg Array.size hU⟩⟩ rfl rfl hl.1 rfl (lv_room (Nat.le_of_ble_eq_true rfl)) dX2_message_69 ⟨Nat.le_of_ble_eq_true rfl, Nat.le_of_ble_eq_true rfl⟩) hS (fun q h1 h2 => absurd h2 (Nat.not_le.mpr h1)) (fun q h => hA q (Nat.le_trans hS.1 h)) (fun r_66 _ t_67 H_65 locs ht hvm hw hB hz1 hk1 hS => ?_)
            subst hw
            have hP := us_mono hP (fun q h => hk1 q h (Nat.not_le.mpr h))
            refine lv_if_ne (tgt := 79) hx hb dX2_message_72 (by decide) (fun c_68 => ?_) (fun c_68 => ?_)
            · refine lv_iconst (v := 0) hx hb dX2_message_79 (by decide) ?_
              refine lv_aload_n hx hb dX2_message_80 rfl (lv_at hl 1 rfl) ?_
              refine va_get (D := (dC, dI)) (ci := 2) (v := .int (nI nm)) (C := RX2) (T := TX2) (N := 23) hx hb htb us_inX2 hown hK hP 0 rfl rfl 4 (by decide) (htb _ mw_427) (fun _ h9 => h9) rfl dX2_message_81 ?_
              refine lv_sipush (v := 200) hx hb dX2_message_84 (by decide) ?_
              refine lv_icmp_ne (tgt := 94) hx hb dX2_message_87 (by decide) (fun c_69 => ?_) (fun c_69 => ?_)
              · refine lv_iconst (v := 0) hx hb dX2_message_94 (by decide) ?_
                refine va_calli (va_runV (As := [.int 1, .int 0, .int 0]) (rest := []) ⟨hx, hb, hml, hown, htb⟩ (kt_X2_throwing l dC dI md cI H_65.size th nu nm (sk + 0) G v 1 0 0) (cwV 3 htb (us_gV mw_504 mw_506 mw_20 mw_34 mw_507) rfl rfl rfl (by decide +kernel) ⟨Nat.le_of_ble_eq_true rfl, Nat.le_of_ble_eq_true rfl⟩) ⟨um_P_blind, va_recv hK hP (ci := 2) (q0 := 0) rfl rfl, fun U hU hW => ⟨rfl, um_P_at hP hK hD hU hW⟩⟩ rfl rfl hl.1 rfl (lv_room (Nat.le_of_ble_eq_true rfl)) dX2_message_95 ⟨Nat.le_of_ble_eq_true rfl, Nat.le_of_ble_eq_true rfl⟩) hS (fun q _ h => us_AA_le hS q h) (us_AA_le hS) (fun r_71 _ t_72 H_70 locs ht hvm hw hB hz1 hk1 hS => ?_)
                subst hw
                have hP := um_B_use ht hB
                have hD : va_D (us_AA (um_ads md) s.heap.size) (um_W md cI (um_th 1 0 0) nu nm (sk + 0) G v) := us_D_of (by rw [um_W_adr, um_W_adr]) hD
                have hP : va_P (dC, dI) vwCl (um_W md cI (um_th 1 0 0) nu nm (sk + 0) G v) H_70 := hP
                refine lv_if_eq (tgt := 103) hx hb dX2_message_98 (by decide) (fun c_73 => ?_) (fun c_73 => ?_)
                · exact absurd c_73 (by decide)
                · refine lv_iconst (v := 0) hx hb dX2_message_101 (by decide) ?_
                  have hkv : um_msgK p1 p2 p3 p4 nu nm = 1 := by first | (simp only [um_msgK, eq_false c_4, eq_true c_5, eq_true c_7, eq_true c_11, eq_false c_55, eq_false c_68, eq_false c_69, eq_false c_73, if_true, if_false]; done) | (simp [um_msgK, c_4, c_5, c_7, c_11, c_55, c_68, c_69, c_73]; done)
                  have hsp : um_msgK p1 p2 p3 p4 nu nm = 0 → 0 = nI nm := by exact fun h9 => absurd (hkv.symm.trans h9) (by decide)
                  exact W.iret (v := 0) hx hb hr (fun t ht hW => ⟨⟨0, (), rfl, hsp, um_B_of ht hP (by rw [hkv]; decide) rfl (by rw [hkv, if_neg (by decide)]) (by rw [if_neg c_4]) (by rw [hkv, if_neg (by decide)]) rfl⟩, hS.F ht⟩) hS.2.2 dX2_message_102
              · refine lv_iconst (v := 1) hx hb dX2_message_90 (by decide) ?_
                refine lv_goto (tgt := 95) hx hb dX2_message_91 (by decide) ?_
                refine va_calli (va_runV (As := [.int 1, .int 0, .int 1]) (rest := []) ⟨hx, hb, hml, hown, htb⟩ (kt_X2_throwing l dC dI md cI H_65.size th nu nm (sk + 0) G v 1 0 1) (cwV 3 htb (us_gV mw_504 mw_506 mw_20 mw_34 mw_507) rfl rfl rfl (by decide +kernel) ⟨Nat.le_of_ble_eq_true rfl, Nat.le_of_ble_eq_true rfl⟩) ⟨um_P_blind, va_recv hK hP (ci := 2) (q0 := 0) rfl rfl, fun U hU hW => ⟨rfl, um_P_at hP hK hD hU hW⟩⟩ rfl rfl hl.1 rfl (lv_room (Nat.le_of_ble_eq_true rfl)) dX2_message_95 ⟨Nat.le_of_ble_eq_true rfl, Nat.le_of_ble_eq_true rfl⟩) hS (fun q _ h => us_AA_le hS q h) (us_AA_le hS) (fun r_75 _ t_76 H_74 locs ht hvm hw hB hz1 hk1 hS => ?_)
                subst hw
                have hP := um_B_use ht hB
                have hD : va_D (us_AA (um_ads md) s.heap.size) (um_W md cI (um_th 1 0 1) nu nm (sk + 0) G v) := us_D_of (by rw [um_W_adr, um_W_adr]) hD
                have hP : va_P (dC, dI) vwCl (um_W md cI (um_th 1 0 1) nu nm (sk + 0) G v) H_74 := hP
                refine lv_if_eq (tgt := 103) hx hb dX2_message_98 (by decide) (fun c_77 => ?_) (fun c_77 => ?_)
                · exact absurd c_77 (by decide)
                · refine lv_iconst (v := 0) hx hb dX2_message_101 (by decide) ?_
                  have hkv : um_msgK p1 p2 p3 p4 nu nm = 1 := by first | (simp only [um_msgK, eq_false c_4, eq_true c_5, eq_true c_7, eq_true c_11, eq_false c_55, eq_false c_68, eq_true c_69, eq_false c_77, if_true, if_false]; done) | (simp [um_msgK, c_4, c_5, c_7, c_11, c_55, c_68, c_69, c_77]; done)
                  have hsp : um_msgK p1 p2 p3 p4 nu nm = 0 → 0 = nI nm := by exact fun h9 => absurd (hkv.symm.trans h9) (by decide)
                  exact W.iret (v := 0) hx hb hr (fun t ht hW => ⟨⟨0, (), rfl, hsp, um_B_of ht hP (by rw [hkv]; decide) rfl (by rw [hkv, if_neg (by decide)]) (by rw [if_neg c_4]) (by rw [hkv, if_neg (by decide)]) rfl⟩, hS.F ht⟩) hS.2.2 dX2_message_102
            · refine lv_iconst (v := 1) hx hb dX2_message_75 (by decide) ?_
              refine lv_goto (tgt := 80) hx hb dX2_message_76 (by decide) ?_
              refine lv_aload_n hx hb dX2_message_80 rfl (lv_at hl 1 rfl) ?_
              refine va_get (D := (dC, dI)) (ci := 2) (v := .int (nI nm)) (C := RX2) (T := TX2) (N := 23) hx hb htb us_inX2 hown hK hP 0 rfl rfl 4 (by decide) (htb _ mw_427) (fun _ h9 => h9) rfl dX2_message_81 ?_
              refine lv_sipush (v := 200) hx hb dX2_message_84 (by decide) ?_
              refine lv_icmp_ne (tgt := 94) hx hb dX2_message_87 (by decide) (fun c_78 => ?_) (fun c_78 => ?_)
              · refine lv_iconst (v := 0) hx hb dX2_message_94 (by decide) ?_
                refine va_calli (va_runV (As := [.int 1, .int 1, .int 0]) (rest := []) ⟨hx, hb, hml, hown, htb⟩ (kt_X2_throwing l dC dI md cI H_65.size th nu nm (sk + 0) G v 1 1 0) (cwV 3 htb (us_gV mw_504 mw_506 mw_20 mw_34 mw_507) rfl rfl rfl (by decide +kernel) ⟨Nat.le_of_ble_eq_true rfl, Nat.le_of_ble_eq_true rfl⟩) ⟨um_P_blind, va_recv hK hP (ci := 2) (q0 := 0) rfl rfl, fun U hU hW => ⟨rfl, um_P_at hP hK hD hU hW⟩⟩ rfl rfl hl.1 rfl (lv_room (Nat.le_of_ble_eq_true rfl)) dX2_message_95 ⟨Nat.le_of_ble_eq_true rfl, Nat.le_of_ble_eq_true rfl⟩) hS (fun q _ h => us_AA_le hS q h) (us_AA_le hS) (fun r_80 _ t_81 H_79 locs ht hvm hw hB hz1 hk1 hS => ?_)
                subst hw
                have hP := um_B_use ht hB
                have hD : va_D (us_AA (um_ads md) s.heap.size) (um_W md cI (um_th 1 1 0) nu nm (sk + 0) G v) := us_D_of (by rw [um_W_adr, um_W_adr]) hD
                have hP : va_P (dC, dI) vwCl (um_W md cI (um_th 1 1 0) nu nm (sk + 0) G v) H_79 := hP
                refine lv_if_eq (tgt := 103) hx hb dX2_message_98 (by decide) (fun c_82 => ?_) (fun c_82 => ?_)
                · exact absurd c_82 (by decide)
                · refine lv_iconst (v := 0) hx hb dX2_message_101 (by decide) ?_
                  have hkv : um_msgK p1 p2 p3 p4 nu nm = 1 := by first | (simp only [um_msgK, eq_false c_4, eq_true c_5, eq_true c_7, eq_true c_11, eq_false c_55, eq_true c_68, eq_false c_78, eq_false c_82, if_true, if_false]; done) | (simp [um_msgK, c_4, c_5, c_7, c_11, c_55, c_68, c_78, c_82]; done)
                  have hsp : um_msgK p1 p2 p3 p4 nu nm = 0 → 0 = nI nm := by exact fun h9 => absurd (hkv.symm.trans h9) (by decide)
                  exact W.iret (v := 0) hx hb hr (fun t ht hW => ⟨⟨0, (), rfl, hsp, um_B_of ht hP (by rw [hkv]; decide) rfl (by rw [hkv, if_neg (by decide)]) (by rw [if_neg c_4]) (by rw [hkv, if_neg (by decide)]) rfl⟩, hS.F ht⟩) hS.2.2 dX2_message_102
              · refine lv_iconst (v := 1) hx hb dX2_message_90 (by decide) ?_
                refine lv_goto (tgt := 95) hx hb dX2_message_91 (by decide) ?_
                refine va_calli (va_runV (As := [.int 1, .int 1, .int 1]) (rest := []) ⟨hx, hb, hml, hown, htb⟩ (kt_X2_throwing l dC dI md cI H_65.size th nu nm (sk + 0) G v 1 1 1) (cwV 3 htb (us_gV mw_504 mw_506 mw_20 mw_34 mw_507) rfl rfl rfl (by decide +kernel) ⟨Nat.le_of_ble_eq_true rfl, Nat.le_of_ble_eq_true rfl⟩) ⟨um_P_blind, va_recv hK hP (ci := 2) (q0 := 0) rfl rfl, fun U hU hW => ⟨rfl, um_P_at hP hK hD hU hW⟩⟩ rfl rfl hl.1 rfl (lv_room (Nat.le_of_ble_eq_true rfl)) dX2_message_95 ⟨Nat.le_of_ble_eq_true rfl, Nat.le_of_ble_eq_true rfl⟩) hS (fun q _ h => us_AA_le hS q h) (us_AA_le hS) (fun r_84 _ t_85 H_83 locs ht hvm hw hB hz1 hk1 hS => ?_)
                subst hw
                have hP := um_B_use ht hB
                have hD : va_D (us_AA (um_ads md) s.heap.size) (um_W md cI (um_th 1 1 1) nu nm (sk + 0) G v) := us_D_of (by rw [um_W_adr, um_W_adr]) hD
                have hP : va_P (dC, dI) vwCl (um_W md cI (um_th 1 1 1) nu nm (sk + 0) G v) H_83 := hP
                refine lv_if_eq (tgt := 103) hx hb dX2_message_98 (by decide) (fun c_86 => ?_) (fun c_86 => ?_)
                · exact absurd c_86 (by decide)
                · refine lv_iconst (v := 0) hx hb dX2_message_101 (by decide) ?_
                  have hkv : um_msgK p1 p2 p3 p4 nu nm = 1 := by first | (simp only [um_msgK, eq_false c_4, eq_true c_5, eq_true c_7, eq_true c_11, eq_false c_55, eq_true c_68, eq_true c_78, eq_false c_86, if_true, if_false]; done) | (simp [um_msgK, c_4, c_5, c_7, c_11, c_55, c_68, c_78, c_86]; done)
                  have hsp : um_msgK p1 p2 p3 p4 nu nm = 0 → 0 = nI nm := by exact fun h9 => absurd (hkv.symm.trans h9) (by decide)
                  exact W.iret (v := 0) hx hb hr (fun t ht hW => ⟨⟨0, (), rfl, hsp, um_B_of ht hP (by rw [hkv]; decide) rfl (by rw [hkv, if_neg (by decide)]) (by rw [if_neg c_4]) (by rw [hkv, if_neg (by decide)]) rfl⟩, hS.F ht⟩) hS.2.2 dX2_message_102
    · exact absurd (by decide) c_5
  · refine lv_iconst (v := 1) hx hb dX2_message_8 (by decide) ?_
    refine lv_goto (tgt := 13) hx hb dX2_message_9 (by decide) ?_
    refine lv_istore (lv' := [(5, .int 1), (0, .ref (md 0)), (1, .int p1), (2, .int p2), (3, .int p3), (4, .int p4)]) hx hb dX2_message_13 hl (by decide) rfl (fun ls hl => ?_)
    refine lv_aload_n hx hb dX2_message_15 rfl (lv_at hl 1 rfl) ?_
    refine lv_dup hx hb dX2_message_16 rfl ?_
    refine va_get (D := (dC, dI)) (ci := 2) (v := .int sk) (C := RX2) (T := TX2) (N := 23) hx hb htb us_inX2 hown hK hP 0 rfl rfl 9 (by decide) (htb _ mw_432) (fun _ h9 => h9) rfl dX2_message_17 ?_
    refine lv_iload hx hb dX2_message_20 (lv_at hl 0 rfl) ?_
    refine lv_if_eq (tgt := 29) hx hb dX2_message_22 (by decide) (fun c_87 => ?_) (fun c_87 => ?_)
    · exact absurd c_87 (by decide)
    · refine lv_iconst (v := 1) hx hb dX2_message_25 (by decide) ?_
      refine lv_goto (tgt := 30) hx hb dX2_message_26 (by decide) ?_
      refine lv_iadd hx hb dX2_message_30 ?_
      refine va_put (D := (dC, dI)) (ci := 2) (v := .int (sk + 1)) (ty := .int) (C := RX2) (T := TX2) (N := 23) hx hb htb us_inX2 tyX2 tyX2_ok nmX2 hown hK hP hD hS 0 rfl rfl 9 (by decide) (htb _ mw_432) (fun _ h9 => h9) rfl (by decide +kernel) rfl rfl (Nat.le_of_ble_eq_true rfl) dX2_message_31 (fun H_88 locs hP hD hS => ?_)
      have hP : va_P (dC, dI) vwCl (um_W md cI th nu nm (sk + 1) G v) H_88 := hP
      have hD : va_D (us_AA (um_ads md) s.heap.size) (um_W md cI th nu nm (sk + 1) G v) := hD
      refine lv_iload hx hb dX2_message_34 (lv_at hl 0 rfl) ?_
      refine lv_if_ne (tgt := 49) hx hb dX2_message_36 (by decide) (fun c_89 => ?_) (fun c_89 => ?_)
      · refine lv_iconst (v := 1) hx hb dX2_message_49 (by decide) ?_
        refine lv_goto (tgt := 54) hx hb dX2_message_50 (by decide) ?_
        refine lv_istore (lv' := [(5, .int 1), (0, .ref (md 0)), (1, .int p1), (2, .int p2), (3, .int p3), (4, .int p4)]) hx hb dX2_message_54 hl (by decide) rfl (fun ls hl => ?_)
        refine lv_aload_n hx hb dX2_message_56 rfl (lv_at hl 1 rfl) ?_
        refine lv_iload hx hb dX2_message_57 (lv_at hl 0 rfl) ?_
        refine lv_iload_n hx hb dX2_message_59 rfl (lv_at hl 3 rfl) ?_
        refine va_calli (va_runS (As := [.int p2]) (rest := [.int 1, .ref (md 0)]) ⟨hx, hb, hml, hown, htb⟩ (kt_X2_isMinute l H_88.size p2) (cwS 1 htb (us_gS mw_516 mw_517 mw_34 mw_518) rfl rfl rfl (by decide +kernel) ⟨Nat.le_of_ble_eq_true rfl, Nat.le_of_ble_eq_true rfl⟩) ⟨us_blind0, fun U hU _ => ⟨rfl, congrArg Array.size hU⟩⟩ rfl rfl hl.1 rfl (lv_room (Nat.le_of_ble_eq_true rfl)) dX2_message_60 ⟨Nat.le_of_ble_eq_true rfl, Nat.le_of_ble_eq_true rfl⟩) hS (fun q h1 h2 => absurd h2 (Nat.not_le.mpr h1)) (fun q h => hA q (Nat.le_trans hS.1 h)) (fun r_91 _ t_92 H_90 locs ht hvm hw hB hz1 hk1 hS => ?_)
        subst hw
        have hP := us_mono hP (fun q h => hk1 q h (Nat.not_le.mpr h))
        refine lv_if_eq (tgt := 75) hx hb dX2_message_63 (by decide) (fun c_93 => ?_) (fun c_93 => ?_)
        · refine lv_iconst (v := 1) hx hb dX2_message_75 (by decide) ?_
          refine lv_goto (tgt := 80) hx hb dX2_message_76 (by decide) ?_
          refine lv_aload_n hx hb dX2_message_80 rfl (lv_at hl 1 rfl) ?_
          refine va_get (D := (dC, dI)) (ci := 2) (v := .int (nI nm)) (C := RX2) (T := TX2) (N := 23) hx hb htb us_inX2 hown hK hP 0 rfl rfl 4 (by decide) (htb _ mw_427) (fun _ h9 => h9) rfl dX2_message_81 ?_
          refine lv_sipush (v := 200) hx hb dX2_message_84 (by decide) ?_
          refine lv_icmp_ne (tgt := 94) hx hb dX2_message_87 (by decide) (fun c_94 => ?_) (fun c_94 => ?_)
          · refine lv_iconst (v := 0) hx hb dX2_message_94 (by decide) ?_
            refine va_calli (va_runV (As := [.int 1, .int 1, .int 0]) (rest := []) ⟨hx, hb, hml, hown, htb⟩ (kt_X2_throwing l dC dI md cI H_90.size th nu nm (sk + 1) G v 1 1 0) (cwV 3 htb (us_gV mw_504 mw_506 mw_20 mw_34 mw_507) rfl rfl rfl (by decide +kernel) ⟨Nat.le_of_ble_eq_true rfl, Nat.le_of_ble_eq_true rfl⟩) ⟨um_P_blind, va_recv hK hP (ci := 2) (q0 := 0) rfl rfl, fun U hU hW => ⟨rfl, um_P_at hP hK hD hU hW⟩⟩ rfl rfl hl.1 rfl (lv_room (Nat.le_of_ble_eq_true rfl)) dX2_message_95 ⟨Nat.le_of_ble_eq_true rfl, Nat.le_of_ble_eq_true rfl⟩) hS (fun q _ h => us_AA_le hS q h) (us_AA_le hS) (fun r_96 _ t_97 H_95 locs ht hvm hw hB hz1 hk1 hS => ?_)
            subst hw
            have hP := um_B_use ht hB
            have hD : va_D (us_AA (um_ads md) s.heap.size) (um_W md cI (um_th 1 1 0) nu nm (sk + 1) G v) := us_D_of (by rw [um_W_adr, um_W_adr]) hD
            have hP : va_P (dC, dI) vwCl (um_W md cI (um_th 1 1 0) nu nm (sk + 1) G v) H_95 := hP
            refine lv_if_eq (tgt := 103) hx hb dX2_message_98 (by decide) (fun c_98 => ?_) (fun c_98 => ?_)
            · exact absurd c_98 (by decide)
            · refine lv_iconst (v := 0) hx hb dX2_message_101 (by decide) ?_
              have hkv : um_msgK p1 p2 p3 p4 nu nm = 1 := by first | (simp only [um_msgK, eq_true c_4, eq_false c_87, eq_false c_89, eq_true c_93, eq_false c_94, eq_false c_98, if_true, if_false]; done) | (simp [um_msgK, c_4, c_87, c_89, c_93, c_94, c_98]; done)
              have hsp : um_msgK p1 p2 p3 p4 nu nm = 0 → 0 = nI nm := by exact fun h9 => absurd (hkv.symm.trans h9) (by decide)
              exact W.iret (v := 0) hx hb hr (fun t ht hW => ⟨⟨0, (), rfl, hsp, um_B_of ht hP (by rw [hkv]; decide) rfl (by rw [hkv, if_neg (by decide)]) (by rw [if_pos c_4]) (by rw [hkv, if_neg (by decide)]) rfl⟩, hS.F ht⟩) hS.2.2 dX2_message_102
          · refine lv_iconst (v := 1) hx hb dX2_message_90 (by decide) ?_
            refine lv_goto (tgt := 95) hx hb dX2_message_91 (by decide) ?_
            refine va_calli (va_runV (As := [.int 1, .int 1, .int 1]) (rest := []) ⟨hx, hb, hml, hown, htb⟩ (kt_X2_throwing l dC dI md cI H_90.size th nu nm (sk + 1) G v 1 1 1) (cwV 3 htb (us_gV mw_504 mw_506 mw_20 mw_34 mw_507) rfl rfl rfl (by decide +kernel) ⟨Nat.le_of_ble_eq_true rfl, Nat.le_of_ble_eq_true rfl⟩) ⟨um_P_blind, va_recv hK hP (ci := 2) (q0 := 0) rfl rfl, fun U hU hW => ⟨rfl, um_P_at hP hK hD hU hW⟩⟩ rfl rfl hl.1 rfl (lv_room (Nat.le_of_ble_eq_true rfl)) dX2_message_95 ⟨Nat.le_of_ble_eq_true rfl, Nat.le_of_ble_eq_true rfl⟩) hS (fun q _ h => us_AA_le hS q h) (us_AA_le hS) (fun r_100 _ t_101 H_99 locs ht hvm hw hB hz1 hk1 hS => ?_)
            subst hw
            have hP := um_B_use ht hB
            have hD : va_D (us_AA (um_ads md) s.heap.size) (um_W md cI (um_th 1 1 1) nu nm (sk + 1) G v) := us_D_of (by rw [um_W_adr, um_W_adr]) hD
            have hP : va_P (dC, dI) vwCl (um_W md cI (um_th 1 1 1) nu nm (sk + 1) G v) H_99 := hP
            refine lv_if_eq (tgt := 103) hx hb dX2_message_98 (by decide) (fun c_102 => ?_) (fun c_102 => ?_)
            · exact absurd c_102 (by decide)
            · refine lv_iconst (v := 0) hx hb dX2_message_101 (by decide) ?_
              have hkv : um_msgK p1 p2 p3 p4 nu nm = 1 := by first | (simp only [um_msgK, eq_true c_4, eq_false c_87, eq_false c_89, eq_true c_93, eq_true c_94, eq_false c_102, if_true, if_false]; done) | (simp [um_msgK, c_4, c_87, c_89, c_93, c_94, c_102]; done)
              have hsp : um_msgK p1 p2 p3 p4 nu nm = 0 → 0 = nI nm := by exact fun h9 => absurd (hkv.symm.trans h9) (by decide)
              exact W.iret (v := 0) hx hb hr (fun t ht hW => ⟨⟨0, (), rfl, hsp, um_B_of ht hP (by rw [hkv]; decide) rfl (by rw [hkv, if_neg (by decide)]) (by rw [if_pos c_4]) (by rw [hkv, if_neg (by decide)]) rfl⟩, hS.F ht⟩) hS.2.2 dX2_message_102
        · refine lv_iload_n hx hb dX2_message_66 rfl (lv_at hl 4 rfl) ?_
          refine lv_iload hx hb dX2_message_67 (lv_at hl 5 rfl) ?_
          refine va_calli (va_runS (As := [.int p3, .int p4]) (rest := [.int 1, .ref (md 0)]) ⟨hx, hb, hml, hown, htb⟩ (kt_X2_isValue l H_90.size p3 p4) (cwS 2 htb (us_gS mw_520 mw_521 mw_34 mw_522) rfl rfl rfl (by decide +kernel) ⟨Nat.le_of_ble_eq_true rfl, Nat.le_of_ble_eq_true rfl⟩) ⟨us_blind0, fun U hU _ => ⟨rfl, congrArg Array.size hU⟩⟩ rfl rfl hl.1 rfl (lv_room (Nat.le_of_ble_eq_true rfl)) dX2_message_69 ⟨Nat.le_of_ble_eq_true rfl, Nat.le_of_ble_eq_true rfl⟩) hS (fun q h1 h2 => absurd h2 (Nat.not_le.mpr h1)) (fun q h => hA q (Nat.le_trans hS.1 h)) (fun r_104 _ t_105 H_103 locs ht hvm hw hB hz1 hk1 hS => ?_)
          subst hw
          have hP := us_mono hP (fun q h => hk1 q h (Nat.not_le.mpr h))
          refine lv_if_ne (tgt := 79) hx hb dX2_message_72 (by decide) (fun c_106 => ?_) (fun c_106 => ?_)
          · refine lv_iconst (v := 0) hx hb dX2_message_79 (by decide) ?_
            refine lv_aload_n hx hb dX2_message_80 rfl (lv_at hl 1 rfl) ?_
            refine va_get (D := (dC, dI)) (ci := 2) (v := .int (nI nm)) (C := RX2) (T := TX2) (N := 23) hx hb htb us_inX2 hown hK hP 0 rfl rfl 4 (by decide) (htb _ mw_427) (fun _ h9 => h9) rfl dX2_message_81 ?_
            refine lv_sipush (v := 200) hx hb dX2_message_84 (by decide) ?_
            refine lv_icmp_ne (tgt := 94) hx hb dX2_message_87 (by decide) (fun c_107 => ?_) (fun c_107 => ?_)
            · refine lv_iconst (v := 0) hx hb dX2_message_94 (by decide) ?_
              refine va_calli (va_runV (As := [.int 1, .int 0, .int 0]) (rest := []) ⟨hx, hb, hml, hown, htb⟩ (kt_X2_throwing l dC dI md cI H_103.size th nu nm (sk + 1) G v 1 0 0) (cwV 3 htb (us_gV mw_504 mw_506 mw_20 mw_34 mw_507) rfl rfl rfl (by decide +kernel) ⟨Nat.le_of_ble_eq_true rfl, Nat.le_of_ble_eq_true rfl⟩) ⟨um_P_blind, va_recv hK hP (ci := 2) (q0 := 0) rfl rfl, fun U hU hW => ⟨rfl, um_P_at hP hK hD hU hW⟩⟩ rfl rfl hl.1 rfl (lv_room (Nat.le_of_ble_eq_true rfl)) dX2_message_95 ⟨Nat.le_of_ble_eq_true rfl, Nat.le_of_ble_eq_true rfl⟩) hS (fun q _ h => us_AA_le hS q h) (us_AA_le hS) (fun r_109 _ t_110 H_108 locs ht hvm hw hB hz1 hk1 hS => ?_)
              subst hw
              have hP := um_B_use ht hB
              have hD : va_D (us_AA (um_ads md) s.heap.size) (um_W md cI (um_th 1 0 0) nu nm (sk + 1) G v) := us_D_of (by rw [um_W_adr, um_W_adr]) hD
              have hP : va_P (dC, dI) vwCl (um_W md cI (um_th 1 0 0) nu nm (sk + 1) G v) H_108 := hP
              refine lv_if_eq (tgt := 103) hx hb dX2_message_98 (by decide) (fun c_111 => ?_) (fun c_111 => ?_)
              · exact absurd c_111 (by decide)
              · refine lv_iconst (v := 0) hx hb dX2_message_101 (by decide) ?_
                have hkv : um_msgK p1 p2 p3 p4 nu nm = 1 := by first | (simp only [um_msgK, eq_true c_4, eq_false c_87, eq_false c_89, eq_false c_93, eq_false c_106, eq_false c_107, eq_false c_111, if_true, if_false]; done) | (simp [um_msgK, c_4, c_87, c_89, c_93, c_106, c_107, c_111]; done)
                have hsp : um_msgK p1 p2 p3 p4 nu nm = 0 → 0 = nI nm := by exact fun h9 => absurd (hkv.symm.trans h9) (by decide)
                exact W.iret (v := 0) hx hb hr (fun t ht hW => ⟨⟨0, (), rfl, hsp, um_B_of ht hP (by rw [hkv]; decide) rfl (by rw [hkv, if_neg (by decide)]) (by rw [if_pos c_4]) (by rw [hkv, if_neg (by decide)]) rfl⟩, hS.F ht⟩) hS.2.2 dX2_message_102
            · refine lv_iconst (v := 1) hx hb dX2_message_90 (by decide) ?_
              refine lv_goto (tgt := 95) hx hb dX2_message_91 (by decide) ?_
              refine va_calli (va_runV (As := [.int 1, .int 0, .int 1]) (rest := []) ⟨hx, hb, hml, hown, htb⟩ (kt_X2_throwing l dC dI md cI H_103.size th nu nm (sk + 1) G v 1 0 1) (cwV 3 htb (us_gV mw_504 mw_506 mw_20 mw_34 mw_507) rfl rfl rfl (by decide +kernel) ⟨Nat.le_of_ble_eq_true rfl, Nat.le_of_ble_eq_true rfl⟩) ⟨um_P_blind, va_recv hK hP (ci := 2) (q0 := 0) rfl rfl, fun U hU hW => ⟨rfl, um_P_at hP hK hD hU hW⟩⟩ rfl rfl hl.1 rfl (lv_room (Nat.le_of_ble_eq_true rfl)) dX2_message_95 ⟨Nat.le_of_ble_eq_true rfl, Nat.le_of_ble_eq_true rfl⟩) hS (fun q _ h => us_AA_le hS q h) (us_AA_le hS) (fun r_113 _ t_114 H_112 locs ht hvm hw hB hz1 hk1 hS => ?_)
              subst hw
              have hP := um_B_use ht hB
              have hD : va_D (us_AA (um_ads md) s.heap.size) (um_W md cI (um_th 1 0 1) nu nm (sk + 1) G v) := us_D_of (by rw [um_W_adr, um_W_adr]) hD
              have hP : va_P (dC, dI) vwCl (um_W md cI (um_th 1 0 1) nu nm (sk + 1) G v) H_112 := hP
              refine lv_if_eq (tgt := 103) hx hb dX2_message_98 (by decide) (fun c_115 => ?_) (fun c_115 => ?_)
              · exact absurd c_115 (by decide)
              · refine lv_iconst (v := 0) hx hb dX2_message_101 (by decide) ?_
                have hkv : um_msgK p1 p2 p3 p4 nu nm = 1 := by first | (simp only [um_msgK, eq_true c_4, eq_false c_87, eq_false c_89, eq_false c_93, eq_false c_106, eq_true c_107, eq_false c_115, if_true, if_false]; done) | (simp [um_msgK, c_4, c_87, c_89, c_93, c_106, c_107, c_115]; done)
                have hsp : um_msgK p1 p2 p3 p4 nu nm = 0 → 0 = nI nm := by exact fun h9 => absurd (hkv.symm.trans h9) (by decide)
                exact W.iret (v := 0) hx hb hr (fun t ht hW => ⟨⟨0, (), rfl, hsp, um_B_of ht hP (by rw [hkv]; decide) rfl (by rw [hkv, if_neg (by decide)]) (by rw [if_pos c_4]) (by rw [hkv, if_neg (by decide)]) rfl⟩, hS.F ht⟩) hS.2.2 dX2_message_102
          · refine lv_iconst (v := 1) hx hb dX2_message_75 (by decide) ?_
            refine lv_goto (tgt := 80) hx hb dX2_message_76 (by decide) ?_
            refine lv_aload_n hx hb dX2_message_80 rfl (lv_at hl 1 rfl) ?_
            refine va_get (D := (dC, dI)) (ci := 2) (v := .int (nI nm)) (C := RX2) (T := TX2) (N := 23) hx hb htb us_inX2 hown hK hP 0 rfl rfl 4 (by decide) (htb _ mw_427) (fun _ h9 => h9) rfl dX2_message_81 ?_
            refine lv_sipush (v := 200) hx hb dX2_message_84 (by decide) ?_
            refine lv_icmp_ne (tgt := 94) hx hb dX2_message_87 (by decide) (fun c_116 => ?_) (fun c_116 => ?_)
            · refine lv_iconst (v := 0) hx hb dX2_message_94 (by decide) ?_
              refine va_calli (va_runV (As := [.int 1, .int 1, .int 0]) (rest := []) ⟨hx, hb, hml, hown, htb⟩ (kt_X2_throwing l dC dI md cI H_103.size th nu nm (sk + 1) G v 1 1 0) (cwV 3 htb (us_gV mw_504 mw_506 mw_20 mw_34 mw_507) rfl rfl rfl (by decide +kernel) ⟨Nat.le_of_ble_eq_true rfl, Nat.le_of_ble_eq_true rfl⟩) ⟨um_P_blind, va_recv hK hP (ci := 2) (q0 := 0) rfl rfl, fun U hU hW => ⟨rfl, um_P_at hP hK hD hU hW⟩⟩ rfl rfl hl.1 rfl (lv_room (Nat.le_of_ble_eq_true rfl)) dX2_message_95 ⟨Nat.le_of_ble_eq_true rfl, Nat.le_of_ble_eq_true rfl⟩) hS (fun q _ h => us_AA_le hS q h) (us_AA_le hS) (fun r_118 _ t_119 H_117 locs ht hvm hw hB hz1 hk1 hS => ?_)
              subst hw
              have hP := um_B_use ht hB
              have hD : va_D (us_AA (um_ads md) s.heap.size) (um_W md cI (um_th 1 1 0) nu nm (sk + 1) G v) := us_D_of (by rw [um_W_adr, um_W_adr]) hD
              have hP : va_P (dC, dI) vwCl (um_W md cI (um_th 1 1 0) nu nm (sk + 1) G v) H_117 := hP
              refine lv_if_eq (tgt := 103) hx hb dX2_message_98 (by decide) (fun c_120 => ?_) (fun c_120 => ?_)
              · exact absurd c_120 (by decide)
              · refine lv_iconst (v := 0) hx hb dX2_message_101 (by decide) ?_
                have hkv : um_msgK p1 p2 p3 p4 nu nm = 1 := by first | (simp only [um_msgK, eq_true c_4, eq_false c_87, eq_false c_89, eq_false c_93, eq_true c_106, eq_false c_116, eq_false c_120, if_true, if_false]; done) | (simp [um_msgK, c_4, c_87, c_89, c_93, c_106, c_116, c_120]; done)
                have hsp : um_msgK p1 p2 p3 p4 nu nm = 0 → 0 = nI nm := by exact fun h9 => absurd (hkv.symm.trans h9) (by decide)
                exact W.iret (v := 0) hx hb hr (fun t ht hW => ⟨⟨0, (), rfl, hsp, um_B_of ht hP (by rw [hkv]; decide) rfl (by rw [hkv, if_neg (by decide)]) (by rw [if_pos c_4]) (by rw [hkv, if_neg (by decide)]) rfl⟩, hS.F ht⟩) hS.2.2 dX2_message_102
            · refine lv_iconst (v := 1) hx hb dX2_message_90 (by decide) ?_
              refine lv_goto (tgt := 95) hx hb dX2_message_91 (by decide) ?_
              refine va_calli (va_runV (As := [.int 1, .int 1, .int 1]) (rest := []) ⟨hx, hb, hml, hown, htb⟩ (kt_X2_throwing l dC dI md cI H_103.size th nu nm (sk + 1) G v 1 1 1) (cwV 3 htb (us_gV mw_504 mw_506 mw_20 mw_34 mw_507) rfl rfl rfl (by decide +kernel) ⟨Nat.le_of_ble_eq_true rfl, Nat.le_of_ble_eq_true rfl⟩) ⟨um_P_blind, va_recv hK hP (ci := 2) (q0 := 0) rfl rfl, fun U hU hW => ⟨rfl, um_P_at hP hK hD hU hW⟩⟩ rfl rfl hl.1 rfl (lv_room (Nat.le_of_ble_eq_true rfl)) dX2_message_95 ⟨Nat.le_of_ble_eq_true rfl, Nat.le_of_ble_eq_true rfl⟩) hS (fun q _ h => us_AA_le hS q h) (us_AA_le hS) (fun r_122 _ t_123 H_121 locs ht hvm hw hB hz1 hk1 hS => ?_)
              subst hw
              have hP := um_B_use ht hB
              have hD : va_D (us_AA (um_ads md) s.heap.size) (um_W md cI (um_th 1 1 1) nu nm (sk + 1) G v) := us_D_of (by rw [um_W_adr, um_W_adr]) hD
              have hP : va_P (dC, dI) vwCl (um_W md cI (um_th 1 1 1) nu nm (sk + 1) G v) H_121 := hP
              refine lv_if_eq (tgt := 103) hx hb dX2_message_98 (by decide) (fun c_124 => ?_) (fun c_124 => ?_)
              · exact absurd c_124 (by decide)
              · refine lv_iconst (v := 0) hx hb dX2_message_101 (by decide) ?_
                have hkv : um_msgK p1 p2 p3 p4 nu nm = 1 := by first | (simp only [um_msgK, eq_true c_4, eq_false c_87, eq_false c_89, eq_false c_93, eq_true c_106, eq_true c_116, eq_false c_124, if_true, if_false]; done) | (simp [um_msgK, c_4, c_87, c_89, c_93, c_106, c_116, c_124]; done)
                have hsp : um_msgK p1 p2 p3 p4 nu nm = 0 → 0 = nI nm := by exact fun h9 => absurd (hkv.symm.trans h9) (by decide)
                exact W.iret (v := 0) hx hb hr (fun t ht hW => ⟨⟨0, (), rfl, hsp, um_B_of ht hP (by rw [hkv]; decide) rfl (by rw [hkv, if_neg (by decide)]) (by rw [if_pos c_4]) (by rw [hkv, if_neg (by decide)]) rfl⟩, hS.F ht⟩) hS.2.2 dX2_message_102
      · exact absurd c_89 (by decide)
