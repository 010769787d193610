set_option maxHeartbeats 4000000 in
set_option maxRecDepth 100000 in
theorem kt_X0_settle (l : Launch) (dC : Nat → ClassId) (dI : Nat → Nat → Nat) (h0 : Nat) (sz : Nat) (u : Nat → Int32) (p1 p2 : Int32) : Met l yX0_settle wsX0_settle ({ frames := 0, cells := 0, slots := 0, locals := 0 }) (va_Pc [.ref h0, .int p1, .int p2] (us_Pu dC dI h0 u sz)) (va_Qv (fun _ : Unit => True) (fun _ t => us_Bu dC dI h0 (sp_settle u p1 p2) t) (us_Au h0 sz)) 0 0 (us_Au h0 sz) := by
  refine Met.ofW (cc := cX0_settle) (maxL := 3) (ret := none) (by decide) rfl ?_
  intro p e s m args below meth c s₁ B hml hv
  obtain ⟨rfl, hsz, hP, hK⟩ := hv
  have hx := B.exec
  have hb := B.bytes
  have hr := B.returns
  have htb := us_htb (atoms_spec (ws := wsX0_settle) B.pre)
  have hown : s.vm.findClass RX0 = some m.cls := findClass_of_methodNamed B.named
  have hlocks := B.notSynchronized
  subst hsz
  have hA : ∀ q : Nat, s.heap.size ≤ q → us_Au h0 s.heap.size q := fun q h => Or.inr h
  have hD : va_D (us_Au h0 s.heap.size) (us_wu h0 u) := us_D1 (Or.inl rfl)
  have hS : va_S (us_Au h0 s.heap.size) s.heap s.heap [] := va_S.rf
  have hP : va_P (dC, dI) vwCl (us_wu h0 u) s.heap := hP
  have hl := lv_entry ([.ref h0, .int p1, .int p2]) (n := 3) (Nat.le_of_ble_eq_true rfl)
  rw [lg_entry_eq]
  generalize (lg_sl ([.ref h0, .int p1, .int p2]) ++ List.replicate (3 - (lg_sl ([.ref h0, .int p1, .int p2])).length) Slot.unset).toArray = ls at hl ⊢
  have hl : lv_has ls 3 [(0, .ref h0), (1, .int p1), (2, .int p2)] := hl
  refine lv_aload_n hx hb dX0_settle_0 rfl (lv_at hl 0 rfl) ?_
  refine lv_iload_n hx hb dX0_settle_1 rfl (lv_at hl 1 rfl) ?_
  refine us_putU (u := u) hx hb htb us_inX0 hown hK hP hD hS 0 rfl 0 (by decide) (htb _ mw_56) dX0_settle_2 (fun H_1 locs hP hD hS => ?_)
  have hP : va_P (dC, dI) vwCl (us_wu h0 (upd u 0 p1)) H_1 := hP
  have hD : va_D (us_Au h0 s.heap.size) (us_wu h0 (upd u 0 p1)) := hD
  refine lv_aload_n hx hb dX0_settle_5 rfl (lv_at hl 0 rfl) ?_
  refine lv_iload_n hx hb dX0_settle_6 rfl (lv_at hl 2 rfl) ?_
  refine us_putU (u := (upd u 0 p1)) hx hb htb us_inX0 hown hK hP hD hS 0 rfl 1 (by decide) (htb _ mw_57) dX0_settle_7 (fun H_2 locs hP hD hS => ?_)
  have hP : va_P (dC, dI) vwCl (us_wu h0 (upd (upd u 0 p1) 1 p2)) H_2 := hP
  have hD : va_D (us_Au h0 s.heap.size) (us_wu h0 (upd (upd u 0 p1) 1 p2)) := hD
  exact W.vret hx hb hr (fun t ht hW => ⟨⟨(), rfl, trivial, us_Bu_of ht hP (by first | (simp only [sp_settle, if_true, if_false]; done) | (simp [sp_settle]; done))⟩, hS.F ht⟩) hS.2.2 dX0_settle_10
set_option maxHeartbeats 4000000 in
set_option maxRecDepth 100000 in
theorem kt_X0_startAnew (l : Launch) (dC : Nat → ClassId) (dI : Nat → Nat → Nat) (h0 : Nat) (sz : Nat) (u : Nat → Int32) : Met l yX0_startAnew wsX0_startAnew ({ frames := 0, cells := 0, slots := 0, locals := 0 }) (va_Pc [.ref h0] (us_Pu dC dI h0 u sz)) (va_Qv (fun _ : Unit => True) (fun _ t => us_Bu dC dI h0 (sp_fresh u) t) (us_Au h0 sz)) 0 0 (us_Au h0 sz) := by
  refine Met.ofW (cc := cX0_startAnew) (maxL := 1) (ret := none) (by decide) rfl ?_
  intro p e s m args below meth c s₁ B hml hv
  obtain ⟨rfl, hsz, hP, hK⟩ := hv
  have hx := B.exec
  have hb := B.bytes
  have hr := B.returns
  have htb := us_htb (atoms_spec (ws := wsX0_startAnew) B.pre)
  have hown : s.vm.findClass RX0 = some m.cls := findClass_of_methodNamed B.named
  have hlocks := B.notSynchronized
  subst hsz
  have hA : ∀ q : Nat, s.heap.size ≤ q → us_Au h0 s.heap.size q := fun q h => Or.inr h
  have hD : va_D (us_Au h0 s.heap.size) (us_wu h0 u) := us_D1 (Or.inl rfl)
  have hS : va_S (us_Au h0 s.heap.size) s.heap s.heap [] := va_S.rf
  have hP : va_P (dC, dI) vwCl (us_wu h0 u) s.heap := hP
  have hl := lv_entry ([.ref h0]) (n := 1) (Nat.le_of_ble_eq_true rfl)
  rw [lg_entry_eq]
  generalize (lg_sl ([.ref h0]) ++ List.replicate (1 - (lg_sl ([.ref h0])).length) Slot.unset).toArray = ls at hl ⊢
  have hl : lv_has ls 1 [(0, .ref h0)] := hl
  refine lv_aload_n hx hb dX0_startAnew_0 rfl (lv_at hl 0 rfl) ?_
  refine lv_iconst (v := 0) hx hb dX0_startAnew_1 (by decide) ?_
  refine us_putU (u := u) hx hb htb us_inX0 hown hK hP hD hS 0 rfl 2 (by decide) (htb _ mw_58) dX0_startAnew_2 (fun H_1 locs hP hD hS => ?_)
  have hP : va_P (dC, dI) vwCl (us_wu h0 (upd u 2 0)) H_1 := hP
  have hD : va_D (us_Au h0 s.heap.size) (us_wu h0 (upd u 2 0)) := hD
  refine lv_aload_n hx hb dX0_startAnew_5 rfl (lv_at hl 0 rfl) ?_
  refine lv_iconst (v := 0) hx hb dX0_startAnew_6 (by decide) ?_
  refine us_putU (u := (upd u 2 0)) hx hb htb us_inX0 hown hK hP hD hS 0 rfl 3 (by decide) (htb _ mw_60) dX0_startAnew_7 (fun H_2 locs hP hD hS => ?_)
  have hP : va_P (dC, dI) vwCl (us_wu h0 (upd (upd u 2 0) 3 0)) H_2 := hP
  have hD : va_D (us_Au h0 s.heap.size) (us_wu h0 (upd (upd u 2 0) 3 0)) := hD
  refine lv_aload_n hx hb dX0_startAnew_10 rfl (lv_at hl 0 rfl) ?_
  refine lv_aload_n hx hb dX0_startAnew_11 rfl (lv_at hl 0 rfl) ?_
  refine us_getU (v := (u 0)) hx hb htb us_inX0 hown hK hP 0 rfl 0 (by decide) (htb _ mw_56) rfl dX0_startAnew_12 ?_
  refine us_putU (u := (upd (upd u 2 0) 3 0)) hx hb htb us_inX0 hown hK hP hD hS 0 rfl 4 (by decide) (htb _ mw_62) dX0_startAnew_15 (fun H_3 locs hP hD hS => ?_)
  have hP : va_P (dC, dI) vwCl (us_wu h0 (upd (upd (upd u 2 0) 3 0) 4 (u 0))) H_3 := hP
  have hD : va_D (us_Au h0 s.heap.size) (us_wu h0 (upd (upd (upd u 2 0) 3 0) 4 (u 0))) := hD
  refine lv_aload_n hx hb dX0_startAnew_18 rfl (lv_at hl 0 rfl) ?_
  refine lv_iconst (v := (-1)) hx hb dX0_startAnew_19 (by decide) ?_
  refine us_putU (u := (upd (upd (upd u 2 0) 3 0) 4 (u 0))) hx hb htb us_inX0 hown hK hP hD hS 0 rfl 5 (by decide) (htb _ mw_63) dX0_startAnew_20 (fun H_4 locs hP hD hS => ?_)
  have hP : va_P (dC, dI) vwCl (us_wu h0 (upd (upd (upd (upd u 2 0) 3 0) 4 (u 0)) 5 (-1))) H_4 := hP
  have hD : va_D (us_Au h0 s.heap.size) (us_wu h0 (upd (upd (upd (upd u 2 0) 3 0) 4 (u 0)) 5 (-1))) := hD
  refine lv_aload_n hx hb dX0_startAnew_23 rfl (lv_at hl 0 rfl) ?_
  refine lv_aload_n hx hb dX0_startAnew_24 rfl (lv_at hl 0 rfl) ?_
  refine us_getU (v := (u 1)) hx hb htb us_inX0 hown hK hP 0 rfl 1 (by decide) (htb _ mw_57) rfl dX0_startAnew_25 ?_
  refine us_putU (u := (upd (upd (upd (upd u 2 0) 3 0) 4 (u 0)) 5 (-1))) hx hb htb us_inX0 hown hK hP hD hS 0 rfl 6 (by decide) (htb _ mw_64) dX0_startAnew_28 (fun H_5 locs hP hD hS => ?_)
  have hP : va_P (dC, dI) vwCl (us_wu h0 (upd (upd (upd (upd (upd u 2 0) 3 0) 4 (u 0)) 5 (-1)) 6 (u 1))) H_5 := hP
  have hD : va_D (us_Au h0 s.heap.size) (us_wu h0 (upd (upd (upd (upd (upd u 2 0) 3 0) 4 (u 0)) 5 (-1)) 6 (u 1))) := hD
  refine lv_aload_n hx hb dX0_startAnew_31 rfl (lv_at hl 0 rfl) ?_
  refine lv_iconst (v := 0) hx hb dX0_startAnew_32 (by decide) ?_
  refine us_putU (u := (upd (upd (upd (upd (upd u 2 0) 3 0) 4 (u 0)) 5 (-1)) 6 (u 1))) hx hb htb us_inX0 hown hK hP hD hS 0 rfl 7 (by decide) (htb _ mw_66) dX0_startAnew_33 (fun H_6 locs hP hD hS => ?_)
  have hP : va_P (dC, dI) vwCl (us_wu h0 (upd (upd (upd (upd (upd (upd u 2 0) 3 0) 4 (u 0)) 5 (-1)) 6 (u 1)) 7 0)) H_6 := hP
  have hD : va_D (us_Au h0 s.heap.size) (us_wu h0 (upd (upd (upd (upd (upd (upd u 2 0) 3 0) 4 (u 0)) 5 (-1)) 6 (u 1)) 7 0)) := hD
  refine lv_aload_n hx hb dX0_startAnew_36 rfl (lv_at hl 0 rfl) ?_
  refine lv_iconst (v := 1) hx hb dX0_startAnew_37 (by decide) ?_
  refine us_putU (u := (upd (upd (upd (upd (upd (upd u 2 0) 3 0) 4 (u 0)) 5 (-1)) 6 (u 1)) 7 0)) hx hb htb us_inX0 hown hK hP hD hS 0 rfl 8 (by decide) (htb _ mw_68) dX0_startAnew_38 (fun H_7 locs hP hD hS => ?_)
  have hP : va_P (dC, dI) vwCl (us_wu h0 (upd (upd (upd (upd (upd (upd (upd u 2 0) 3 0) 4 (u 0)) 5 (-1)) 6 (u 1)) 7 0) 8 1)) H_7 := hP
  have hD : va_D (us_Au h0 s.heap.size) (us_wu h0 (upd (upd (upd (upd (upd (upd (upd u 2 0) 3 0) 4 (u 0)) 5 (-1)) 6 (u 1)) 7 0) 8 1)) := hD
  refine lv_aload_n hx hb dX0_startAnew_41 rfl (lv_at hl 0 rfl) ?_
  refine lv_iconst (v := (-1)) hx hb dX0_startAnew_42 (by decide) ?_
  refine us_putU (u := (upd (upd (upd (upd (upd (upd (upd u 2 0) 3 0) 4 (u 0)) 5 (-1)) 6 (u 1)) 7 0) 8 1)) hx hb htb us_inX0 hown hK hP hD hS 0 rfl 9 (by decide) (htb _ mw_70) dX0_startAnew_43 (fun H_8 locs hP hD hS => ?_)
  have hP : va_P (dC, dI) vwCl (us_wu h0 (upd (upd (upd (upd (upd (upd (upd (upd u 2 0) 3 0) 4 (u 0)) 5 (-1)) 6 (u 1)) 7 0) 8 1) 9 (-1))) H_8 := hP
  have hD : va_D (us_Au h0 s.heap.size) (us_wu h0 (upd (upd (upd (upd (upd (upd (upd (upd u 2 0) 3 0) 4 (u 0)) 5 (-1)) 6 (u 1)) 7 0) 8 1) 9 (-1))) := hD
  refine lv_aload_n hx hb dX0_startAnew_46 rfl (lv_at hl 0 rfl) ?_
  refine lv_iconst (v := 0) hx hb dX0_startAnew_47 (by decide) ?_
  refine us_putU (u := (upd (upd (upd (upd (upd (upd (upd (upd u 2 0) 3 0) 4 (u 0)) 5 (-1)) 6 (u 1)) 7 0) 8 1) 9 (-1))) hx hb htb us_inX0 hown hK hP hD hS 0 rfl 10 (by decide) (htb _ mw_72) dX0_startAnew_48 (fun H_9 locs hP hD hS => ?_)
  have hP : va_P (dC, dI) vwCl (us_wu h0 (upd (upd (upd (upd (upd (upd (upd (upd (upd u 2 0) 3 0) 4 (u 0)) 5 (-1)) 6 (u 1)) 7 0) 8 1) 9 (-1)) 10 0)) H_9 := hP
  have hD : va_D (us_Au h0 s.heap.size) (us_wu h0 (upd (upd (upd (upd (upd (upd (upd (upd (upd u 2 0) 3 0) 4 (u 0)) 5 (-1)) 6 (u 1)) 7 0) 8 1) 9 (-1)) 10 0)) := hD
  refine lv_aload_n hx hb dX0_startAnew_51 rfl (lv_at hl 0 rfl) ?_
  refine lv_iconst (v := (-1)) hx hb dX0_startAnew_52 (by decide) ?_
  refine us_putU (u := (upd (upd (upd (upd (upd (upd (upd (upd (upd u 2 0) 3 0) 4 (u 0)) 5 (-1)) 6 (u 1)) 7 0) 8 1) 9 (-1)) 10 0)) hx hb htb us_inX0 hown hK hP hD hS 0 rfl 11 (by decide) (htb _ mw_74) dX0_startAnew_53 (fun H_10 locs hP hD hS => ?_)
  have hP : va_P (dC, dI) vwCl (us_wu h0 (upd (upd (upd (upd (upd (upd (upd (upd (upd (upd u 2 0) 3 0) 4 (u 0)) 5 (-1)) 6 (u 1)) 7 0) 8 1) 9 (-1)) 10 0) 11 (-1))) H_10 := hP
  have hD : va_D (us_Au h0 s.heap.size) (us_wu h0 (upd (upd (upd (upd (upd (upd (upd (upd (upd (upd u 2 0) 3 0) 4 (u 0)) 5 (-1)) 6 (u 1)) 7 0) 8 1) 9 (-1)) 10 0) 11 (-1))) := hD
  refine lv_aload_n hx hb dX0_startAnew_56 rfl (lv_at hl 0 rfl) ?_
  refine lv_iconst (v := (-1)) hx hb dX0_startAnew_57 (by decide) ?_
  refine us_putU (u := (upd (upd (upd (upd (upd (upd (upd (upd (upd (upd u 2 0) 3 0) 4 (u 0)) 5 (-1)) 6 (u 1)) 7 0) 8 1) 9 (-1)) 10 0) 11 (-1))) hx hb htb us_inX0 hown hK hP hD hS 0 rfl 12 (by decide) (htb _ mw_76) dX0_startAnew_58 (fun H_11 locs hP hD hS => ?_)
  have hP : va_P (dC, dI) vwCl (us_wu h0 (upd (upd (upd (upd (upd (upd (upd (upd (upd (upd (upd u 2 0) 3 0) 4 (u 0)) 5 (-1)) 6 (u 1)) 7 0) 8 1) 9 (-1)) 10 0) 11 (-1)) 12 (-1))) H_11 := hP
  have hD : va_D (us_Au h0 s.heap.size) (us_wu h0 (upd (upd (upd (upd (upd (upd (upd (upd (upd (upd (upd u 2 0) 3 0) 4 (u 0)) 5 (-1)) 6 (u 1)) 7 0) 8 1) 9 (-1)) 10 0) 11 (-1)) 12 (-1))) := hD
  refine lv_aload_n hx hb dX0_startAnew_61 rfl (lv_at hl 0 rfl) ?_
  refine lv_iconst (v := 0) hx hb dX0_startAnew_62 (by decide) ?_
  refine us_putU (u := (upd (upd (upd (upd (upd (upd (upd (upd (upd (upd (upd u 2 0) 3 0) 4 (u 0)) 5 (-1)) 6 (u 1)) 7 0) 8 1) 9 (-1)) 10 0) 11 (-1)) 12 (-1))) hx hb htb us_inX0 hown hK hP hD hS 0 rfl 13 (by decide) (htb _ mw_78) dX0_startAnew_63 (fun H_12 locs hP hD hS => ?_)
  have hP : va_P (dC, dI) vwCl (us_wu h0 (upd (upd (upd (upd (upd (upd (upd (upd (upd (upd (upd (upd u 2 0) 3 0) 4 (u 0)) 5 (-1)) 6 (u 1)) 7 0) 8 1) 9 (-1)) 10 0) 11 (-1)) 12 (-1)) 13 0)) H_12 := hP
  have hD : va_D (us_Au h0 s.heap.size) (us_wu h0 (upd (upd (upd (upd (upd (upd (upd (upd (upd (upd (upd (upd u 2 0) 3 0) 4 (u 0)) 5 (-1)) 6 (u 1)) 7 0) 8 1) 9 (-1)) 10 0) 11 (-1)) 12 (-1)) 13 0)) := hD
  exact W.vret hx hb hr (fun t ht hW => ⟨⟨(), rfl, trivial, us_Bu_of ht hP (by first | (simp only [sp_fresh, if_true, if_false]; done) | (simp [sp_fresh]; done))⟩, hS.F ht⟩) hS.2.2 dX0_startAnew_66
set_option maxHeartbeats 4000000 in
set_option maxRecDepth 100000 in
theorem kt_X0_canFollow (l : Launch) (sz : Nat) (p1 p2 : Int32) : Met l yX0_canFollow wsX0_canFollow ({ frames := 0, cells := 0, slots := 0, locals := 0 }) (va_Pc [.int p1, .int p2] (fun U => U.heap.size = sz)) (va_Qi (fun r (_ : Unit) => r = sp_can p1 p2) (fun _ _ => True) (us_new sz)) 0 0 (us_new sz) := by
  refine Met.ofW (cc := cX0_canFollow) (maxL := 2) (ret := (some .boolean)) (by decide) rfl ?_
  intro p e s m args below meth c s₁ B hml hv
  obtain ⟨rfl, hsz⟩ := hv
  have hx := B.exec
  have hb := B.bytes
  have hr := B.returns
  have htb := us_htb (atoms_spec (ws := wsX0_canFollow) B.pre)
  have hown : s.vm.findClass RX0 = some m.cls := findClass_of_methodNamed B.named
  have hlocks := B.notSynchronized
  subst hsz
  have hA : ∀ q : Nat, s.heap.size ≤ q → us_new s.heap.size q := fun q h => h
  have hS : va_S (us_new s.heap.size) s.heap s.heap [] := va_S.rf
  have hl := lv_entry ([.int p1, .int p2]) (n := 2) (Nat.le_of_ble_eq_true rfl)
  rw [lg_entry_eq]
  generalize (lg_sl ([.int p1, .int p2]) ++ List.replicate (2 - (lg_sl ([.int p1, .int p2])).length) Slot.unset).toArray = ls at hl ⊢
  have hl : lv_has ls 2 [(0, .int p1), (1, .int p2)] := hl
  refine lv_iload_n hx hb dX0_canFollow_0 rfl (lv_at hl 0 rfl) ?_
  by_cases k_1 : p1 = 0
  · refine lv_tableIn (tgt := 60) hx hb dX0_canFollow_1 (by rw [k_1]; decide) (by rw [k_1]; decide) (by rw [k_1]; rfl) (by decide) ?_
    refine lv_iload_n hx hb dX0_canFollow_60 rfl (lv_at hl 1 rfl) ?_
    refine lv_iconst (v := 1) hx hb dX0_canFollow_61 (by decide) ?_
    refine lv_icmp_eq (tgt := 71) hx hb dX0_canFollow_62 (by decide) (fun c_2 => ?_) (fun c_2 => ?_)
    · refine lv_iconst (v := 1) hx hb dX0_canFollow_71 (by decide) ?_
      refine lv_goto (tgt := 76) hx hb dX0_canFollow_72 (by decide) ?_
      have hsp : 1 = sp_can p1 p2 := by first | (simp only [sp_can, eq_true k_1, eq_true c_2, if_true, if_false]; done) | (simp [sp_can, k_1, c_2]; done)
      exact W.zret (v := 1) hx hb hr (us_nz (by decide)) (fun t ht hW => ⟨⟨1, (), rfl, hsp, trivial⟩, hS.F ht⟩) hS.2.2 dX0_canFollow_76
    · refine lv_iload_n hx hb dX0_canFollow_65 rfl (lv_at hl 1 rfl) ?_
      refine lv_bipush (v := 7) hx hb dX0_canFollow_66 (by decide) ?_
      refine lv_icmp_lt (tgt := 75) hx hb dX0_canFollow_68 (by decide) (fun c_3 => ?_) (fun c_3 => ?_)
      · refine lv_iconst (v := 0) hx hb dX0_canFollow_75 (by decide) ?_
        have hsp : 0 = sp_can p1 p2 := by first | (simp only [sp_can, eq_true k_1, eq_false c_2, eq_true c_3, if_true, if_false]; done) | (simp [sp_can, k_1, c_2, c_3]; done)
        exact W.zret (v := 0) hx hb hr (us_nz (by decide)) (fun t ht hW => ⟨⟨0, (), rfl, hsp, trivial⟩, hS.F ht⟩) hS.2.2 dX0_canFollow_76
      · refine lv_iconst (v := 1) hx hb dX0_canFollow_71 (by decide) ?_
        refine lv_goto (tgt := 76) hx hb dX0_canFollow_72 (by decide) ?_
        have hsp : 1 = sp_can p1 p2 := by first | (simp only [sp_can, eq_true k_1, eq_false c_2, eq_false c_3, if_true, if_false]; done) | (simp [sp_can, k_1, c_2, c_3]; done)
        exact W.zret (v := 1) hx hb hr (us_nz (by decide)) (fun t ht hW => ⟨⟨1, (), rfl, hsp, trivial⟩, hS.F ht⟩) hS.2.2 dX0_canFollow_76
  by_cases k_4 : p1 = 1
  · refine lv_tableIn (tgt := 77) hx hb dX0_canFollow_1 (by rw [k_4]; decide) (by rw [k_4]; decide) (by rw [k_4]; rfl) (by decide) ?_
    refine lv_iload_n hx hb dX0_canFollow_77 rfl (lv_at hl 1 rfl) ?_
    refine lv_iconst (v := 2) hx hb dX0_canFollow_78 (by decide) ?_
    refine lv_icmp_eq (tgt := 86) hx hb dX0_canFollow_79 (by decide) (fun c_5 => ?_) (fun c_5 => ?_)
    · refine lv_iconst (v := 1) hx hb dX0_canFollow_86 (by decide) ?_
      refine lv_goto (tgt := 91) hx hb dX0_canFollow_87 (by decide) ?_
      have hsp : 1 = sp_can p1 p2 := by first | (simp only [sp_can, eq_true k_4, eq_true c_5, if_true, if_false]; done) | (simp [sp_can, k_4, c_5]; done)
      exact W.zret (v := 1) hx hb hr (us_nz (by decide)) (fun t ht hW => ⟨⟨1, (), rfl, hsp, trivial⟩, hS.F ht⟩) hS.2.2 dX0_canFollow_91
    · refine lv_iload_n hx hb dX0_canFollow_82 rfl (lv_at hl 1 rfl) ?_
      refine lv_if_ne (tgt := 90) hx hb dX0_canFollow_83 (by decide) (fun c_6 => ?_) (fun c_6 => ?_)
      · refine lv_iconst (v := 0) hx hb dX0_canFollow_90 (by decide) ?_
        have hsp : 0 = sp_can p1 p2 := by first | (simp only [sp_can, eq_true k_4, eq_false c_5, eq_false c_6, if_true, if_false]; done) | (simp [sp_can, k_4, c_5, c_6]; done)
        exact W.zret (v := 0) hx hb hr (us_nz (by decide)) (fun t ht hW => ⟨⟨0, (), rfl, hsp, trivial⟩, hS.F ht⟩) hS.2.2 dX0_canFollow_91
      · refine lv_iconst (v := 1) hx hb dX0_canFollow_86 (by decide) ?_
        refine lv_goto (tgt := 91) hx hb dX0_canFollow_87 (by decide) ?_
        have hsp : 1 = sp_can p1 p2 := by first | (simp only [sp_can, eq_true k_4, eq_false c_5, eq_true c_6, if_true, if_false]; done) | (simp [sp_can, k_4, c_5, c_6]; done)
        exact W.zret (v := 1) hx hb hr (us_nz (by decide)) (fun t ht hW => ⟨⟨1, (), rfl, hsp, trivial⟩, hS.F ht⟩) hS.2.2 dX0_canFollow_91
  by_cases k_7 : p1 = 2
  · refine lv_tableIn (tgt := 92) hx hb dX0_canFollow_1 (by rw [k_7]; decide) (by rw [k_7]; decide) (by rw [k_7]; rfl) (by decide) ?_
    refine lv_iload_n hx hb dX0_canFollow_92 rfl (lv_at hl 1 rfl) ?_
    refine lv_iconst (v := 3) hx hb dX0_canFollow_93 (by decide) ?_
    refine lv_icmp_eq (tgt := 103) hx hb dX0_canFollow_94 (by decide) (fun c_8 => ?_) (fun c_8 => ?_)
    · refine lv_iconst (v := 1) hx hb dX0_canFollow_103 (by decide) ?_
      refine lv_goto (tgt := 108) hx hb dX0_canFollow_104 (by decide) ?_
      have hsp : 1 = sp_can p1 p2 := by first | (simp only [sp_can, eq_true k_7, eq_true c_8, if_true, if_false]; done) | (simp [sp_can, k_7, c_8]; done)
      exact W.zret (v := 1) hx hb hr (us_nz (by decide)) (fun t ht hW => ⟨⟨1, (), rfl, hsp, trivial⟩, hS.F ht⟩) hS.2.2 dX0_canFollow_108
    · refine lv_iload_n hx hb dX0_canFollow_97 rfl (lv_at hl 1 rfl) ?_
      refine lv_bipush (v := 6) hx hb dX0_canFollow_98 (by decide) ?_
      refine lv_icmp_ne (tgt := 107) hx hb dX0_canFollow_100 (by decide) (fun c_9 => ?_) (fun c_9 => ?_)
      · refine lv_iconst (v := 0) hx hb dX0_canFollow_107 (by decide) ?_
        have hsp : 0 = sp_can p1 p2 := by first | (simp only [sp_can, eq_true k_7, eq_false c_8, eq_false c_9, if_true, if_false]; done) | (simp [sp_can, k_7, c_8, c_9]; done)
        exact W.zret (v := 0) hx hb hr (us_nz (by decide)) (fun t ht hW => ⟨⟨0, (), rfl, hsp, trivial⟩, hS.F ht⟩) hS.2.2 dX0_canFollow_108
      · refine lv_iconst (v := 1) hx hb dX0_canFollow_103 (by decide) ?_
        refine lv_goto (tgt := 108) hx hb dX0_canFollow_104 (by decide) ?_
        have hsp : 1 = sp_can p1 p2 := by first | (simp only [sp_can, eq_true k_7, eq_false c_8, eq_true c_9, if_true, if_false]; done) | (simp [sp_can, k_7, c_8, c_9]; done)
        exact W.zret (v := 1) hx hb hr (us_nz (by decide)) (fun t ht hW => ⟨⟨1, (), rfl, hsp, trivial⟩, hS.F ht⟩) hS.2.2 dX0_canFollow_108
  by_cases k_10 : p1 = 3
  · refine lv_tableIn (tgt := 109) hx hb dX0_canFollow_1 (by rw [k_10]; decide) (by rw [k_10]; decide) (by rw [k_10]; rfl) (by decide) ?_
    refine lv_iload_n hx hb dX0_canFollow_109 rfl (lv_at hl 1 rfl) ?_
    refine lv_iconst (v := 4) hx hb dX0_canFollow_110 (by decide) ?_
    refine lv_icmp_eq (tgt := 119) hx hb dX0_canFollow_111 (by decide) (fun c_11 => ?_) (fun c_11 => ?_)
    · refine lv_iconst (v := 1) hx hb dX0_canFollow_119 (by decide) ?_
      refine lv_goto (tgt := 124) hx hb dX0_canFollow_120 (by decide) ?_
      have hsp : 1 = sp_can p1 p2 := by first | (simp only [sp_can, eq_true k_10, eq_true c_11, if_true, if_false]; done) | (simp [sp_can, k_10, c_11]; done)
      exact W.zret (v := 1) hx hb hr (us_nz (by decide)) (fun t ht hW => ⟨⟨1, (), rfl, hsp, trivial⟩, hS.F ht⟩) hS.2.2 dX0_canFollow_124
    · refine lv_iload_n hx hb dX0_canFollow_114 rfl (lv_at hl 1 rfl) ?_
      refine lv_iconst (v := 5) hx hb dX0_canFollow_115 (by decide) ?_
      refine lv_icmp_ne (tgt := 123) hx hb dX0_canFollow_116 (by decide) (fun c_12 => ?_) (fun c_12 => ?_)
      · refine lv_iconst (v := 0) hx hb dX0_canFollow_123 (by decide) ?_
        have hsp : 0 = sp_can p1 p2 := by first | (simp only [sp_can, eq_true k_10, eq_false c_11, eq_false c_12, if_true, if_false]; done) | (simp [sp_can, k_10, c_11, c_12]; done)
        exact W.zret (v := 0) hx hb hr (us_nz (by decide)) (fun t ht hW => ⟨⟨0, (), rfl, hsp, trivial⟩, hS.F ht⟩) hS.2.2 dX0_canFollow_124
      · refine lv_iconst (v := 1) hx hb dX0_canFollow_119 (by decide) ?_
        refine lv_goto (tgt := 124) hx hb dX0_canFollow_120 (by decide) ?_
        have hsp : 1 = sp_can p1 p2 := by first | (simp only [sp_can, eq_true k_10, eq_false c_11, eq_true c_12, if_true, if_false]; done) | (simp [sp_can, k_10, c_11, c_12]; done)
        exact W.zret (v := 1) hx hb hr (us_nz (by decide)) (fun t ht hW => ⟨⟨1, (), rfl, hsp, trivial⟩, hS.F ht⟩) hS.2.2 dX0_canFollow_124
  by_cases k_13 : p1 = 4
  · refine lv_tableIn (tgt := 125) hx hb dX0_canFollow_1 (by rw [k_13]; decide) (by rw [k_13]; decide) (by rw [k_13]; rfl) (by decide) ?_
    refine lv_iload_n hx hb dX0_canFollow_125 rfl (lv_at hl 1 rfl) ?_
    refine lv_iconst (v := 5) hx hb dX0_canFollow_126 (by decide) ?_
    refine lv_icmp_ne (tgt := 134) hx hb dX0_canFollow_127 (by decide) (fun c_14 => ?_) (fun c_14 => ?_)
    · refine lv_iconst (v := 0) hx hb dX0_canFollow_134 (by decide) ?_
      have hsp : 0 = sp_can p1 p2 := by first | (simp only [sp_can, eq_true k_13, eq_false c_14, if_true, if_false]; done) | (simp [sp_can, k_13, c_14]; done)
      exact W.zret (v := 0) hx hb hr (us_nz (by decide)) (fun t ht hW => ⟨⟨0, (), rfl, hsp, trivial⟩, hS.F ht⟩) hS.2.2 dX0_canFollow_135
    · refine lv_iconst (v := 1) hx hb dX0_canFollow_130 (by decide) ?_
      refine lv_goto (tgt := 135) hx hb dX0_canFollow_131 (by decide) ?_
      have hsp : 1 = sp_can p1 p2 := by first | (simp only [sp_can, eq_true k_13, eq_true c_14, if_true, if_false]; done) | (simp [sp_can, k_13, c_14]; done)
      exact W.zret (v := 1) hx hb hr (us_nz (by decide)) (fun t ht hW => ⟨⟨1, (), rfl, hsp, trivial⟩, hS.F ht⟩) hS.2.2 dX0_canFollow_135
  by_cases k_15 : p1 = 5
  · refine lv_tableIn (tgt := 136) hx hb dX0_canFollow_1 (by rw [k_15]; decide) (by rw [k_15]; decide) (by rw [k_15]; rfl) (by decide) ?_
    refine lv_iload_n hx hb dX0_canFollow_136 rfl (lv_at hl 1 rfl) ?_
    refine lv_iconst (v := 1) hx hb dX0_canFollow_137 (by decide) ?_
    refine lv_icmp_eq (tgt := 147) hx hb dX0_canFollow_138 (by decide) (fun c_16 => ?_) (fun c_16 => ?_)
    · refine lv_iconst (v := 1) hx hb dX0_canFollow_147 (by decide) ?_
      refine lv_goto (tgt := 152) hx hb dX0_canFollow_148 (by decide) ?_
      have hsp : 1 = sp_can p1 p2 := by first | (simp only [sp_can, eq_true k_15, eq_true c_16, if_true, if_false]; done) | (simp [sp_can, k_15, c_16]; done)
      exact W.zret (v := 1) hx hb hr (us_nz (by decide)) (fun t ht hW => ⟨⟨1, (), rfl, hsp, trivial⟩, hS.F ht⟩) hS.2.2 dX0_canFollow_152
    · refine lv_iload_n hx hb dX0_canFollow_141 rfl (lv_at hl 1 rfl) ?_
      refine lv_bipush (v := 6) hx hb dX0_canFollow_142 (by decide) ?_
      refine lv_icmp_ne (tgt := 151) hx hb dX0_canFollow_144 (by decide) (fun c_17 => ?_) (fun c_17 => ?_)
      · refine lv_iconst (v := 0) hx hb dX0_canFollow_151 (by decide) ?_
        have hsp : 0 = sp_can p1 p2 := by first | (simp only [sp_can, eq_true k_15, eq_false c_16, eq_false c_17, if_true, if_false]; done) | (simp [sp_can, k_15, c_16, c_17]; done)
        exact W.zret (v := 0) hx hb hr (us_nz (by decide)) (fun t ht hW => ⟨⟨0, (), rfl, hsp, trivial⟩, hS.F ht⟩) hS.2.2 dX0_canFollow_152
      · refine lv_iconst (v := 1) hx hb dX0_canFollow_147 (by decide) ?_
        refine lv_goto (tgt := 152) hx hb dX0_canFollow_148 (by decide) ?_
        have hsp : 1 = sp_can p1 p2 := by first | (simp only [sp_can, eq_true k_15, eq_false c_16, eq_true c_17, if_true, if_false]; done) | (simp [sp_can, k_15, c_16, c_17]; done)
        exact W.zret (v := 1) hx hb hr (us_nz (by decide)) (fun t ht hW => ⟨⟨1, (), rfl, hsp, trivial⟩, hS.F ht⟩) hS.2.2 dX0_canFollow_152
  by_cases k_18 : p1 = 6
  · refine lv_tableIn (tgt := 153) hx hb dX0_canFollow_1 (by rw [k_18]; decide) (by rw [k_18]; decide) (by rw [k_18]; rfl) (by decide) ?_
    refine lv_iload_n hx hb dX0_canFollow_153 rfl (lv_at hl 1 rfl) ?_
    refine lv_if_eq (tgt := 168) hx hb dX0_canFollow_154 (by decide) (fun c_19 => ?_) (fun c_19 => ?_)
    · refine lv_iconst (v := 1) hx hb dX0_canFollow_168 (by decide) ?_
      refine lv_goto (tgt := 173) hx hb dX0_canFollow_169 (by decide) ?_
      have hsp : 1 = sp_can p1 p2 := by first | (simp only [sp_can, eq_true k_18, eq_true c_19, if_true, if_false]; done) | (simp [sp_can, k_18, c_19]; done)
      exact W.zret (v := 1) hx hb hr (us_nz (by decide)) (fun t ht hW => ⟨⟨1, (), rfl, hsp, trivial⟩, hS.F ht⟩) hS.2.2 dX0_canFollow_173
    · refine lv_iload_n hx hb dX0_canFollow_157 rfl (lv_at hl 1 rfl) ?_
      refine lv_iconst (v := 1) hx hb dX0_canFollow_158 (by decide) ?_
      refine lv_icmp_eq (tgt := 168) hx hb dX0_canFollow_159 (by decide) (fun c_20 => ?_) (fun c_20 => ?_)
      · refine lv_iconst (v := 1) hx hb dX0_canFollow_168 (by decide) ?_
        refine lv_goto (tgt := 173) hx hb dX0_canFollow_169 (by decide) ?_
        have hsp : 1 = sp_can p1 p2 := by first | (simp only [sp_can, eq_true k_18, eq_false c_19, eq_true c_20, if_true, if_false]; done) | (simp [sp_can, k_18, c_19, c_20]; done)
        exact W.zret (v := 1) hx hb hr (us_nz (by decide)) (fun t ht hW => ⟨⟨1, (), rfl, hsp, trivial⟩, hS.F ht⟩) hS.2.2 dX0_canFollow_173
      · refine lv_iload_n hx hb dX0_canFollow_162 rfl (lv_at hl 1 rfl) ?_
        refine lv_bipush (v := 7) hx hb dX0_canFollow_163 (by decide) ?_
        refine lv_icmp_ne (tgt := 172) hx hb dX0_canFollow_165 (by decide) (fun c_21 => ?_) (fun c_21 => ?_)
        · refine lv_iconst (v := 0) hx hb dX0_canFollow_172 (by decide) ?_
          have hsp : 0 = sp_can p1 p2 := by first | (simp only [sp_can, eq_true k_18, eq_false c_19, eq_false c_20, eq_false c_21, if_true, if_false]; done) | (simp [sp_can, k_18, c_19, c_20, c_21]; done)
          exact W.zret (v := 0) hx hb hr (us_nz (by decide)) (fun t ht hW => ⟨⟨0, (), rfl, hsp, trivial⟩, hS.F ht⟩) hS.2.2 dX0_canFollow_173
        · refine lv_iconst (v := 1) hx hb dX0_canFollow_168 (by decide) ?_
          refine lv_goto (tgt := 173) hx hb dX0_canFollow_169 (by decide) ?_
          have hsp : 1 = sp_can p1 p2 := by first | (simp only [sp_can, eq_true k_18, eq_false c_19, eq_false c_20, eq_true c_21, if_true, if_false]; done) | (simp [sp_can, k_18, c_19, c_20, c_21]; done)
          exact W.zret (v := 1) hx hb hr (us_nz (by decide)) (fun t ht hW => ⟨⟨1, (), rfl, hsp, trivial⟩, hS.F ht⟩) hS.2.2 dX0_canFollow_173
  by_cases k_22 : p1 = 7
  · refine lv_tableIn (tgt := 174) hx hb dX0_canFollow_1 (by rw [k_22]; decide) (by rw [k_22]; decide) (by rw [k_22]; rfl) (by decide) ?_
    refine lv_iload_n hx hb dX0_canFollow_174 rfl (lv_at hl 1 rfl) ?_
    refine lv_if_eq (tgt := 184) hx hb dX0_canFollow_175 (by decide) (fun c_23 => ?_) (fun c_23 => ?_)
    · refine lv_iconst (v := 1) hx hb dX0_canFollow_184 (by decide) ?_
      refine lv_goto (tgt := 189) hx hb dX0_canFollow_185 (by decide) ?_
      have hsp : 1 = sp_can p1 p2 := by first | (simp only [sp_can, eq_true k_22, eq_true c_23, if_true, if_false]; done) | (simp [sp_can, k_22, c_23]; done)
      exact W.zret (v := 1) hx hb hr (us_nz (by decide)) (fun t ht hW => ⟨⟨1, (), rfl, hsp, trivial⟩, hS.F ht⟩) hS.2.2 dX0_canFollow_189
    · refine lv_iload_n hx hb dX0_canFollow_178 rfl (lv_at hl 1 rfl) ?_
      refine lv_bipush (v := 6) hx hb dX0_canFollow_179 (by decide) ?_
      refine lv_icmp_ne (tgt := 188) hx hb dX0_canFollow_181 (by decide) (fun c_24 => ?_) (fun c_24 => ?_)
      · refine lv_iconst (v := 0) hx hb dX0_canFollow_188 (by decide) ?_
        have hsp : 0 = sp_can p1 p2 := by first | (simp only [sp_can, eq_true k_22, eq_false c_23, eq_false c_24, if_true, if_false]; done) | (simp [sp_can, k_22, c_23, c_24]; done)
        exact W.zret (v := 0) hx hb hr (us_nz (by decide)) (fun t ht hW => ⟨⟨0, (), rfl, hsp, trivial⟩, hS.F ht⟩) hS.2.2 dX0_canFollow_189
      · refine lv_iconst (v := 1) hx hb dX0_canFollow_184 (by decide) ?_
        refine lv_goto (tgt := 189) hx hb dX0_canFollow_185 (by decide) ?_
        have hsp : 1 = sp_can p1 p2 := by first | (simp only [sp_can, eq_true k_22, eq_false c_23, eq_true c_24, if_true, if_false]; done) | (simp [sp_can, k_22, c_23, c_24]; done)
        exact W.zret (v := 1) hx hb hr (us_nz (by decide)) (fun t ht hW => ⟨⟨1, (), rfl, hsp, trivial⟩, hS.F ht⟩) hS.2.2 dX0_canFollow_189
  by_cases k_25 : p1 = 8
  · refine lv_tableIn (tgt := 190) hx hb dX0_canFollow_1 (by rw [k_25]; decide) (by rw [k_25]; decide) (by rw [k_25]; rfl) (by decide) ?_
    refine lv_iload_n hx hb dX0_canFollow_190 rfl (lv_at hl 1 rfl) ?_
    refine lv_if_eq (tgt := 200) hx hb dX0_canFollow_191 (by decide) (fun c_26 => ?_) (fun c_26 => ?_)
    · refine lv_iconst (v := 1) hx hb dX0_canFollow_200 (by decide) ?_
      refine lv_goto (tgt := 205) hx hb dX0_canFollow_201 (by decide) ?_
      have hsp : 1 = sp_can p1 p2 := by first | (simp only [sp_can, eq_true k_25, eq_true c_26, if_true, if_false]; done) | (simp [sp_can, k_25, c_26]; done)
      exact W.zret (v := 1) hx hb hr (us_nz (by decide)) (fun t ht hW => ⟨⟨1, (), rfl, hsp, trivial⟩, hS.F ht⟩) hS.2.2 dX0_canFollow_205
    · refine lv_iload_n hx hb dX0_canFollow_194 rfl (lv_at hl 1 rfl) ?_
      refine lv_bipush (v := 9) hx hb dX0_canFollow_195 (by decide) ?_
      refine lv_icmp_ne (tgt := 204) hx hb dX0_canFollow_197 (by decide) (fun c_27 => ?_) (fun c_27 => ?_)
      · refine lv_iconst (v := 0) hx hb dX0_canFollow_204 (by decide) ?_
        have hsp : 0 = sp_can p1 p2 := by first | (simp only [sp_can, eq_true k_25, eq_false c_26, eq_false c_27, if_true, if_false]; done) | (simp [sp_can, k_25, c_26, c_27]; done)
        exact W.zret (v := 0) hx hb hr (us_nz (by decide)) (fun t ht hW => ⟨⟨0, (), rfl, hsp, trivial⟩, hS.F ht⟩) hS.2.2 dX0_canFollow_205
      · refine lv_iconst (v := 1) hx hb dX0_canFollow_200 (by decide) ?_
        refine lv_goto (tgt := 205) hx hb dX0_canFollow_201 (by decide) ?_
        have hsp : 1 = sp_can p1 p2 := by first | (simp only [sp_can, eq_true k_25, eq_false c_26, eq_true c_27, if_true, if_false]; done) | (simp [sp_can, k_25, c_26, c_27]; done)
        exact W.zret (v := 1) hx hb hr (us_nz (by decide)) (fun t ht hW => ⟨⟨1, (), rfl, hsp, trivial⟩, hS.F ht⟩) hS.2.2 dX0_canFollow_205
  by_cases k_28 : p1 = 9
  · refine lv_tableIn (tgt := 206) hx hb dX0_canFollow_1 (by rw [k_28]; decide) (by rw [k_28]; decide) (by rw [k_28]; rfl) (by decide) ?_
    refine lv_iload_n hx hb dX0_canFollow_206 rfl (lv_at hl 1 rfl) ?_
    refine lv_if_eq (tgt := 216) hx hb dX0_canFollow_207 (by decide) (fun c_29 => ?_) (fun c_29 => ?_)
    · refine lv_iconst (v := 1) hx hb dX0_canFollow_216 (by decide) ?_
      refine lv_goto (tgt := 221) hx hb dX0_canFollow_217 (by decide) ?_
      have hsp : 1 = sp_can p1 p2 := by first | (simp only [sp_can, eq_true k_28, eq_true c_29, if_true, if_false]; done) | (simp [sp_can, k_28, c_29]; done)
      exact W.zret (v := 1) hx hb hr (us_nz (by decide)) (fun t ht hW => ⟨⟨1, (), rfl, hsp, trivial⟩, hS.F ht⟩) hS.2.2 dX0_canFollow_221
    · refine lv_iload_n hx hb dX0_canFollow_210 rfl (lv_at hl 1 rfl) ?_
      refine lv_bipush (v := 8) hx hb dX0_canFollow_211 (by decide) ?_
      refine lv_icmp_ne (tgt := 220) hx hb dX0_canFollow_213 (by decide) (fun c_30 => ?_) (fun c_30 => ?_)
      · refine lv_iconst (v := 0) hx hb dX0_canFollow_220 (by decide) ?_
        have hsp : 0 = sp_can p1 p2 := by first | (simp only [sp_can, eq_true k_28, eq_false c_29, eq_false c_30, if_true, if_false]; done) | (simp [sp_can, k_28, c_29, c_30]; done)
        exact W.zret (v := 0) hx hb hr (us_nz (by decide)) (fun t ht hW => ⟨⟨0, (), rfl, hsp, trivial⟩, hS.F ht⟩) hS.2.2 dX0_canFollow_221
      · refine lv_iconst (v := 1) hx hb dX0_canFollow_216 (by decide) ?_
        refine lv_goto (tgt := 221) hx hb dX0_canFollow_217 (by decide) ?_
        have hsp : 1 = sp_can p1 p2 := by first | (simp only [sp_can, eq_true k_28, eq_false c_29, eq_true c_30, if_true, if_false]; done) | (simp [sp_can, k_28, c_29, c_30]; done)
        exact W.zret (v := 1) hx hb hr (us_nz (by decide)) (fun t ht hW => ⟨⟨1, (), rfl, hsp, trivial⟩, hS.F ht⟩) hS.2.2 dX0_canFollow_221
  by_cases k_31 : p1 = 10
  · refine lv_tableIn (tgt := 222) hx hb dX0_canFollow_1 (by rw [k_31]; decide) (by rw [k_31]; decide) (by rw [k_31]; rfl) (by decide) ?_
    refine lv_iload_n hx hb dX0_canFollow_222 rfl (lv_at hl 1 rfl) ?_
    refine lv_if_eq (tgt := 232) hx hb dX0_canFollow_223 (by decide) (fun c_32 => ?_) (fun c_32 => ?_)
    · refine lv_iconst (v := 1) hx hb dX0_canFollow_232 (by decide) ?_
      refine lv_goto (tgt := 237) hx hb dX0_canFollow_233 (by decide) ?_
      have hsp : 1 = sp_can p1 p2 := by first | (simp only [sp_can, eq_true k_31, eq_true c_32, if_true, if_false]; done) | (simp [sp_can, k_31, c_32]; done)
      exact W.zret (v := 1) hx hb hr (us_nz (by decide)) (fun t ht hW => ⟨⟨1, (), rfl, hsp, trivial⟩, hS.F ht⟩) hS.2.2 dX0_canFollow_237
    · refine lv_iload_n hx hb dX0_canFollow_226 rfl (lv_at hl 1 rfl) ?_
      refine lv_bipush (v := 9) hx hb dX0_canFollow_227 (by decide) ?_
      refine lv_icmp_ne (tgt := 236) hx hb dX0_canFollow_229 (by decide) (fun c_33 => ?_) (fun c_33 => ?_)
      · refine lv_iconst (v := 0) hx hb dX0_canFollow_236 (by decide) ?_
        have hsp : 0 = sp_can p1 p2 := by first | (simp only [sp_can, eq_true k_31, eq_false c_32, eq_false c_33, if_true, if_false]; done) | (simp [sp_can, k_31, c_32, c_33]; done)
        exact W.zret (v := 0) hx hb hr (us_nz (by decide)) (fun t ht hW => ⟨⟨0, (), rfl, hsp, trivial⟩, hS.F ht⟩) hS.2.2 dX0_canFollow_237
      · refine lv_iconst (v := 1) hx hb dX0_canFollow_232 (by decide) ?_
        refine lv_goto (tgt := 237) hx hb dX0_canFollow_233 (by decide) ?_
        have hsp : 1 = sp_can p1 p2 := by first | (simp only [sp_can, eq_true k_31, eq_false c_32, eq_true c_33, if_true, if_false]; done) | (simp [sp_can, k_31, c_32, c_33]; done)
        exact W.zret (v := 1) hx hb hr (us_nz (by decide)) (fun t ht hW => ⟨⟨1, (), rfl, hsp, trivial⟩, hS.F ht⟩) hS.2.2 dX0_canFollow_237
  have hout_1 : p1.toInt < 0 ∨ 10 < p1.toInt := us_sw (lo := 0) (hi := 10) (fun z h1 h2 => by
    rcases (show z = 0 ∨ z = 1 ∨ z = 2 ∨ z = 3 ∨ z = 4 ∨ z = 5 ∨ z = 6 ∨ z = 7 ∨ z = 8 ∨ z = 9 ∨ z = 10 by omega) with rfl | rfl | rfl | rfl | rfl | rfl | rfl | rfl | rfl | rfl | rfl
    · exact fun e => k_1 (e.trans (by decide))
    · exact fun e => k_4 (e.trans (by decide))
    · exact fun e => k_7 (e.trans (by decide))
    · exact fun e => k_10 (e.trans (by decide))
    · exact fun e => k_13 (e.trans (by decide))
    · exact fun e => k_15 (e.trans (by decide))
    · exact fun e => k_18 (e.trans (by decide))
    · exact fun e => k_22 (e.trans (by decide))
    · exact fun e => k_25 (e.trans (by decide))
    · exact fun e => k_28 (e.trans (by decide))
    · exact fun e => k_31 (e.trans (by decide)))
  refine lv_tableOut (tgt := 238) hx hb dX0_canFollow_1 hout_1 (by decide) ?_
  refine lv_iconst (v := 0) hx hb dX0_canFollow_238 (by decide) ?_
  have hsp : 0 = sp_can p1 p2 := by first | (simp only [sp_can, eq_false k_1, eq_false k_4, eq_false k_7, eq_false k_10, eq_false k_13, eq_false k_15, eq_false k_18, eq_false k_22, eq_false k_25, eq_false k_28, eq_false k_31, if_true, if_false]; done) | (simp [sp_can, k_1, k_4, k_7, k_10, k_13, k_15, k_18, k_22, k_25, k_28, k_31]; done)
  exact W.zret (v := 0) hx hb hr (us_nz (by decide)) (fun t ht hW => ⟨⟨0, (), rfl, hsp, trivial⟩, hS.F ht⟩) hS.2.2 dX0_canFollow_239
set_option maxHeartbeats 4000000 in
set_option maxRecDepth 100000 in
theorem kt_X0_needsCrew (l : Launch) (sz : Nat) (p1 : Int32) : Met l yX0_needsCrew wsX0_needsCrew ({ frames := 0, cells := 0, slots := 0, locals := 0 }) (va_Pc [.int p1] (fun U => U.heap.size = sz)) (va_Qi (fun r (_ : Unit) => r = sp_nc p1) (fun _ _ => True) (us_new sz)) 0 0 (us_new sz) := by
  refine Met.ofW (cc := cX0_needsCrew) (maxL := 1) (ret := (some .boolean)) (by decide) rfl ?_
  intro p e s m args below meth c s₁ B hml hv
  obtain ⟨rfl, hsz⟩ := hv
  have hx := B.exec
  have hb := B.bytes
  have hr := B.returns
  have htb := us_htb (atoms_spec (ws := wsX0_needsCrew) B.pre)
  have hown : s.vm.findClass RX0 = some m.cls := findClass_of_methodNamed B.named
  have hlocks := B.notSynchronized
  subst hsz
  have hA : ∀ q : Nat, s.heap.size ≤ q → us_new s.heap.size q := fun q h => h
  have hS : va_S (us_new s.heap.size) s.heap s.heap [] := va_S.rf
  have hl := lv_entry ([.int p1]) (n := 1) (Nat.le_of_ble_eq_true rfl)
  rw [lg_entry_eq]
  generalize (lg_sl ([.int p1]) ++ List.replicate (1 - (lg_sl ([.int p1])).length) Slot.unset).toArray = ls at hl ⊢
  have hl : lv_has ls 1 [(0, .int p1)] := hl
  refine lv_iload_n hx hb dX0_needsCrew_0 rfl (lv_at hl 0 rfl) ?_
  refine lv_iconst (v := 2) hx hb dX0_needsCrew_1 (by decide) ?_
  refine lv_icmp_lt (tgt := 14) hx hb dX0_needsCrew_2 (by decide) (fun c_1 => ?_) (fun c_1 => ?_)
  · refine lv_iconst (v := 0) hx hb dX0_needsCrew_14 (by decide) ?_
    have hsp : 0 = sp_nc p1 := by first | (simp only [sp_nc, eq_true c_1, if_true, if_false]; done) | (simp [sp_nc, c_1]; done)
    exact W.zret (v := 0) hx hb hr (us_nz (by decide)) (fun t ht hW => ⟨⟨0, (), rfl, hsp, trivial⟩, hS.F ht⟩) hS.2.2 dX0_needsCrew_15
  · refine lv_iload_n hx hb dX0_needsCrew_5 rfl (lv_at hl 0 rfl) ?_
    refine lv_iconst (v := 4) hx hb dX0_needsCrew_6 (by decide) ?_
    refine lv_icmp_gt (tgt := 14) hx hb dX0_needsCrew_7 (by decide) (fun c_2 => ?_) (fun c_2 => ?_)
    · refine lv_iconst (v := 0) hx hb dX0_needsCrew_14 (by decide) ?_
      have hsp : 0 = sp_nc p1 := by first | (simp only [sp_nc, eq_false c_1, eq_true c_2, if_true, if_false]; done) | (simp [sp_nc, c_1, c_2]; done)
      exact W.zret (v := 0) hx hb hr (us_nz (by decide)) (fun t ht hW => ⟨⟨0, (), rfl, hsp, trivial⟩, hS.F ht⟩) hS.2.2 dX0_needsCrew_15
    · refine lv_iconst (v := 1) hx hb dX0_needsCrew_10 (by decide) ?_
      refine lv_goto (tgt := 15) hx hb dX0_needsCrew_11 (by decide) ?_
      have hsp : 1 = sp_nc p1 := by first | (simp only [sp_nc, eq_false c_1, eq_false c_2, if_true, if_false]; done) | (simp [sp_nc, c_1, c_2]; done)
      exact W.zret (v := 1) hx hb hr (us_nz (by decide)) (fun t ht hW => ⟨⟨1, (), rfl, hsp, trivial⟩, hS.F ht⟩) hS.2.2 dX0_needsCrew_15
set_option maxHeartbeats 4000000 in
set_option maxRecDepth 100000 in
theorem kt_X0_isRestful (l : Launch) (dC : Nat → ClassId) (dI : Nat → Nat → Nat) (h0 : Nat) (sz : Nat) (u : Nat → Int32) : Met l yX0_isRestful wsX0_isRestful ({ frames := 0, cells := 0, slots := 0, locals := 0 }) (va_Pc [.ref h0] (us_Pu dC dI h0 u sz)) (va_Qi (fun r (_ : Unit) => r = sp_rest u) (fun _ _ => True) (us_new sz)) 0 0 (us_new sz) := by
  refine Met.ofW (cc := cX0_isRestful) (maxL := 1) (ret := (some .boolean)) (by decide) rfl ?_
  intro p e s m args below meth c s₁ B hml hv
  obtain ⟨rfl, hsz, hP, hK⟩ := hv
  have hx := B.exec
  have hb := B.bytes
  have hr := B.returns
  have htb := us_htb (atoms_spec (ws := wsX0_isRestful) B.pre)
  have hown : s.vm.findClass RX0 = some m.cls := findClass_of_methodNamed B.named
  have hlocks := B.notSynchronized
  subst hsz
  have hA : ∀ q : Nat, s.heap.size ≤ q → us_new s.heap.size q := fun q h => h
  have hS : va_S (us_new s.heap.size) s.heap s.heap [] := va_S.rf
  have hP : va_P (dC, dI) vwCl (us_wu h0 u) s.heap := hP
  have hl := lv_entry ([.ref h0]) (n := 1) (Nat.le_of_ble_eq_true rfl)
  rw [lg_entry_eq]
  generalize (lg_sl ([.ref h0]) ++ List.replicate (1 - (lg_sl ([.ref h0])).length) Slot.unset).toArray = ls at hl ⊢
  have hl : lv_has ls 1 [(0, .ref h0)] := hl
  refine lv_aload_n hx hb dX0_isRestful_0 rfl (lv_at hl 0 rfl) ?_
  refine us_getU (v := (u 2)) hx hb htb us_inX0 hown hK hP 0 rfl 2 (by decide) (htb _ mw_58) rfl dX0_isRestful_1 ?_
  refine lv_if_eq (tgt := 16) hx hb dX0_isRestful_4 (by decide) (fun c_1 => ?_) (fun c_1 => ?_)
  · refine lv_iconst (v := 1) hx hb dX0_isRestful_16 (by decide) ?_
    refine lv_goto (tgt := 21) hx hb dX0_isRestful_17 (by decide) ?_
    have hsp : 1 = sp_rest u := by first | (simp only [sp_rest, eq_true c_1, if_true, if_false]; done) | (simp [sp_rest, c_1]; done)
    exact W.zret (v := 1) hx hb hr (us_nz (by decide)) (fun t ht hW => ⟨⟨1, (), rfl, hsp, trivial⟩, hS.F ht⟩) hS.2.2 dX0_isRestful_21
  · refine lv_aload_n hx hb dX0_isRestful_7 rfl (lv_at hl 0 rfl) ?_
    refine us_getU (v := (u 2)) hx hb htb us_inX0 hown hK hP 0 rfl 2 (by decide) (htb _ mw_58) rfl dX0_isRestful_8 ?_
    refine lv_bipush (v := 7) hx hb dX0_isRestful_11 (by decide) ?_
    refine lv_icmp_lt (tgt := 20) hx hb dX0_isRestful_13 (by decide) (fun c_2 => ?_) (fun c_2 => ?_)
    · refine lv_iconst (v := 0) hx hb dX0_isRestful_20 (by decide) ?_
      have hsp : 0 = sp_rest u := by first | (simp only [sp_rest, eq_false c_1, eq_true c_2, if_true, if_false]; done) | (simp [sp_rest, c_1, c_2]; done)
      exact W.zret (v := 0) hx hb hr (us_nz (by decide)) (fun t ht hW => ⟨⟨0, (), rfl, hsp, trivial⟩, hS.F ht⟩) hS.2.2 dX0_isRestful_21
    · refine lv_iconst (v := 1) hx hb dX0_isRestful_16 (by decide) ?_
      refine lv_goto (tgt := 21) hx hb dX0_isRestful_17 (by decide) ?_
      have hsp : 1 = sp_rest u := by first | (simp only [sp_rest, eq_false c_1, eq_false c_2, if_true, if_false]; done) | (simp [sp_rest, c_1, c_2]; done)
      exact W.zret (v := 1) hx hb hr (us_nz (by decide)) (fun t ht hW => ⟨⟨1, (), rfl, hsp, trivial⟩, hS.F ht⟩) hS.2.2 dX0_isRestful_21
set_option maxHeartbeats 4000000 in
set_option maxRecDepth 100000 in
theorem kt_X0_drivenUpTo (l : Launch) (dC : Nat → ClassId) (dI : Nat → Nat → Nat) (h0 : Nat) (sz : Nat) (u : Nat → Int32) (p1 : Int32) : Met l yX0_drivenUpTo wsX0_drivenUpTo ({ frames := 1, cells := 0, slots := 0, locals := 20 }) (va_Pc [.ref h0, .int p1] (us_Pu dC dI h0 u sz)) (va_Qi (fun r (_ : Unit) => r = sp_dr u p1) (fun _ _ => True) (us_new sz)) 0 0 (us_new sz) := by
  refine Met.ofW (cc := cX0_drivenUpTo) (maxL := 3) (ret := (some .int)) (by decide) rfl ?_
  intro p e s m args below meth c s₁ B hml hv
  obtain ⟨rfl, hsz, hP, hK⟩ := hv
  have hx := B.exec
  have hb := B.bytes
  have hr := B.returns
  have htb := us_htb (atoms_spec (ws := wsX0_drivenUpTo) B.pre)
  have hown : s.vm.findClass RX0 = some m.cls := findClass_of_methodNamed B.named
  have hlocks := B.notSynchronized
  subst hsz
  have hA : ∀ q : Nat, s.heap.size ≤ q → us_new s.heap.size q := fun q h => h
  have hS : va_S (us_new s.heap.size) s.heap s.heap [] := va_S.rf
  have hP : va_P (dC, dI) vwCl (us_wu h0 u) s.heap := hP
  have hl := lv_entry ([.ref h0, .int p1]) (n := 3) (Nat.le_of_ble_eq_true rfl)
  rw [lg_entry_eq]
  generalize (lg_sl ([.ref h0, .int p1]) ++ List.replicate (3 - (lg_sl ([.ref h0, .int p1])).length) Slot.unset).toArray = ls at hl ⊢
  have hl : lv_has ls 3 [(0, .ref h0), (1, .int p1)] := hl
  refine lv_iload_n hx hb dX0_drivenUpTo_0 rfl (lv_at hl 1 rfl) ?_
  refine lv_aload_n hx hb dX0_drivenUpTo_1 rfl (lv_at hl 0 rfl) ?_
  refine us_getU (v := (u 3)) hx hb htb us_inX0 hown hK hP 0 rfl 3 (by decide) (htb _ mw_60) rfl dX0_drivenUpTo_2 ?_
  refine lv_isub hx hb dX0_drivenUpTo_5 ?_
  refine lv_istore_n (lv' := [(2, .int (p1 - (u 3))), (0, .ref h0), (1, .int p1)]) hx hb dX0_drivenUpTo_6 rfl hl (by decide) rfl (fun ls hl => ?_)
  refine lv_aload_n hx hb dX0_drivenUpTo_7 rfl (lv_at hl 1 rfl) ?_
  refine us_getU (v := (u 2)) hx hb htb us_inX0 hown hK hP 0 rfl 2 (by decide) (htb _ mw_58) rfl dX0_drivenUpTo_8 ?_
  refine lv_iconst (v := 2) hx hb dX0_drivenUpTo_11 (by decide) ?_
  refine lv_icmp_eq (tgt := 24) hx hb dX0_drivenUpTo_12 (by decide) (fun c_1 => ?_) (fun c_1 => ?_)
  · refine lv_aload_n hx hb dX0_drivenUpTo_24 rfl (lv_at hl 1 rfl) ?_
    refine us_getU (v := (u 13)) hx hb htb us_inX0 hown hK hP 0 rfl 13 (by decide) (htb _ mw_78) rfl dX0_drivenUpTo_25 ?_
    refine lv_iload_n hx hb dX0_drivenUpTo_28 rfl (lv_at hl 0 rfl) ?_
    refine lv_iadd hx hb dX0_drivenUpTo_29 ?_
    have hsp : ((u 13) + (p1 - (u 3))) = sp_dr u p1 := by first | (simp only [sp_dr, eq_true c_1, if_true, if_false]; done) | (simp [sp_dr, c_1]; done)
    exact W.iret (v := ((u 13) + (p1 - (u 3)))) hx hb hr (fun t ht hW => ⟨⟨((u 13) + (p1 - (u 3))), (), rfl, hsp, trivial⟩, hS.F ht⟩) hS.2.2 dX0_drivenUpTo_30
  · refine lv_aload_n hx hb dX0_drivenUpTo_15 rfl (lv_at hl 1 rfl) ?_
    refine us_getU (v := (u 2)) hx hb htb us_inX0 hown hK hP 0 rfl 2 (by decide) (htb _ mw_58) rfl dX0_drivenUpTo_16 ?_
    refine lv_bipush (v := 6) hx hb dX0_drivenUpTo_19 (by decide) ?_
    refine lv_icmp_ne (tgt := 31) hx hb dX0_drivenUpTo_21 (by decide) (fun c_2 => ?_) (fun c_2 => ?_)
    · refine lv_aload_n hx hb dX0_drivenUpTo_31 rfl (lv_at hl 1 rfl) ?_
      refine va_calli (va_runV (As := []) (rest := []) ⟨hx, hb, hml, hown, htb⟩ (kt_X0_isRestful l dC dI h0 s.heap.size u) (cwV 0 htb (us_gV mw_327 mw_329 mw_11 mw_33 mw_330) rfl rfl rfl (by decide +kernel) ⟨Nat.le_of_ble_eq_true rfl, Nat.le_of_ble_eq_true rfl⟩) ⟨us_Pu_blind, va_recv hK hP (ci := 0) (q0 := 0) rfl rfl, fun U hU hW => ⟨rfl, us_Pu_at hP hK hU hW⟩⟩ rfl rfl hl.1 rfl (lv_room (Nat.le_of_ble_eq_true rfl)) dX0_drivenUpTo_32 ⟨Nat.le_of_ble_eq_true rfl, Nat.le_of_ble_eq_true rfl⟩) hS (fun q h1 h2 => absurd h2 (Nat.not_le.mpr h1)) (fun q h => hA q (Nat.le_trans hS.1 h)) (fun r_4 _ t_5 H_3 locs ht hvm hw hB hz1 hk1 hS => ?_)
      subst hw
      have hP := us_mono hP (fun q h => hk1 q h (Nat.not_le.mpr h))
      refine lv_if_eq (tgt := 48) hx hb dX0_drivenUpTo_35 (by decide) (fun c_6 => ?_) (fun c_6 => ?_)
      · refine lv_aload_n hx hb dX0_drivenUpTo_48 rfl (lv_at hl 1 rfl) ?_
        refine us_getU (v := (u 13)) hx hb htb us_inX0 hown hK hP 0 rfl 13 (by decide) (htb _ mw_78) rfl dX0_drivenUpTo_49 ?_
        have hsp : (u 13) = sp_dr u p1 := by first | (simp only [sp_dr, eq_false c_1, eq_false c_2, eq_true c_6, if_true, if_false]; done) | (simp [sp_dr, c_1, c_2, c_6]; done)
        exact W.iret (v := (u 13)) hx hb hr (fun t ht hW => ⟨⟨(u 13), (), rfl, hsp, trivial⟩, hS.F ht⟩) hS.2.2 dX0_drivenUpTo_52
      · refine lv_iload_n hx hb dX0_drivenUpTo_38 rfl (lv_at hl 0 rfl) ?_
        refine lv_bipush (v := 30) hx hb dX0_drivenUpTo_39 (by decide) ?_
        refine lv_icmp_lt (tgt := 48) hx hb dX0_drivenUpTo_41 (by decide) (fun c_7 => ?_) (fun c_7 => ?_)
        · refine lv_aload_n hx hb dX0_drivenUpTo_48 rfl (lv_at hl 1 rfl) ?_
          refine us_getU (v := (u 13)) hx hb htb us_inX0 hown hK hP 0 rfl 13 (by decide) (htb _ mw_78) rfl dX0_drivenUpTo_49 ?_
          have hsp : (u 13) = sp_dr u p1 := by first | (simp only [sp_dr, eq_false c_1, eq_false c_2, eq_false c_6, eq_true c_7, if_true, if_false]; done) | (simp [sp_dr, c_1, c_2, c_6, c_7]; done)
          exact W.iret (v := (u 13)) hx hb hr (fun t ht hW => ⟨⟨(u 13), (), rfl, hsp, trivial⟩, hS.F ht⟩) hS.2.2 dX0_drivenUpTo_52
        · refine lv_iconst (v := 0) hx hb dX0_drivenUpTo_44 (by decide) ?_
          refine lv_goto (tgt := 52) hx hb dX0_drivenUpTo_45 (by decide) ?_
          have hsp : 0 = sp_dr u p1 := by first | (simp only [sp_dr, eq_false c_1, eq_false c_2, eq_false c_6, eq_false c_7, if_true, if_false]; done) | (simp [sp_dr, c_1, c_2, c_6, c_7]; done)
          exact W.iret (v := 0) hx hb hr (fun t ht hW => ⟨⟨0, (), rfl, hsp, trivial⟩, hS.F ht⟩) hS.2.2 dX0_drivenUpTo_52
    · refine lv_aload_n hx hb dX0_drivenUpTo_24 rfl (lv_at hl 1 rfl) ?_
      refine us_getU (v := (u 13)) hx hb htb us_inX0 hown hK hP 0 rfl 13 (by decide) (htb _ mw_78) rfl dX0_drivenUpTo_25 ?_
      refine lv_iload_n hx hb dX0_drivenUpTo_28 rfl (lv_at hl 0 rfl) ?_
      refine lv_iadd hx hb dX0_drivenUpTo_29 ?_
      have hsp : ((u 13) + (p1 - (u 3))) = sp_dr u p1 := by first | (simp only [sp_dr, eq_false c_1, eq_true c_2, if_true, if_false]; done) | (simp [sp_dr, c_1, c_2]; done)
      exact W.iret (v := ((u 13) + (p1 - (u 3)))) hx hb hr (fun t ht hW => ⟨⟨((u 13) + (p1 - (u 3))), (), rfl, hsp, trivial⟩, hS.F ht⟩) hS.2.2 dX0_drivenUpTo_30
set_option maxHeartbeats 4000000 in
set_option maxRecDepth 100000 in
theorem kt_X0_isSendable (l : Launch) (dC : Nat → ClassId) (dI : Nat → Nat → Nat) (h0 : Nat) (sz : Nat) (u : Nat → Int32) (p1 : Int32) : Met l yX0_isSendable wsX0_isSendable ({ frames := 2, cells := 0, slots := 0, locals := 42 }) (va_Pc [.ref h0, .int p1] (us_Pu dC dI h0 u sz)) (va_Qi (fun r (_ : Unit) => r = sp_send u p1) (fun _ _ => True) (us_new sz)) 0 0 (us_new sz) := by
  refine Met.ofW (cc := cX0_isSendable) (maxL := 2) (ret := (some .boolean)) (by decide) rfl ?_
  intro p e s m args below meth c s₁ B hml hv
  obtain ⟨rfl, hsz, hP, hK⟩ := hv
  have hx := B.exec
  have hb := B.bytes
  have hr := B.returns
  have htb := us_htb (atoms_spec (ws := wsX0_isSendable) B.pre)
  have hown : s.vm.findClass RX0 = some m.cls := findClass_of_methodNamed B.named
  have hlocks := B.notSynchronized
  subst hsz
  have hA : ∀ q : Nat, s.heap.size ≤ q → us_new s.heap.size q := fun q h => h
  have hS : va_S (us_new s.heap.size) s.heap s.heap [] := va_S.rf
  have hP : va_P (dC, dI) vwCl (us_wu h0 u) s.heap := hP
  have hl := lv_entry ([.ref h0, .int p1]) (n := 2) (Nat.le_of_ble_eq_true rfl)
  rw [lg_entry_eq]
  generalize (lg_sl ([.ref h0, .int p1]) ++ List.replicate (2 - (lg_sl ([.ref h0, .int p1])).length) Slot.unset).toArray = ls at hl ⊢
  have hl : lv_has ls 2 [(0, .ref h0), (1, .int p1)] := hl
  refine lv_aload_n hx hb dX0_isSendable_0 rfl (lv_at hl 0 rfl) ?_
  refine us_getU (v := (u 2)) hx hb htb us_inX0 hown hK hP 0 rfl 2 (by decide) (htb _ mw_58) rfl dX0_isSendable_1 ?_
  refine lv_if_eq (tgt := 24) hx hb dX0_isSendable_4 (by decide) (fun c_1 => ?_) (fun c_1 => ?_)
  · refine lv_aload_n hx hb dX0_isSendable_24 rfl (lv_at hl 0 rfl) ?_
    refine us_getU (v := (u 6)) hx hb htb us_inX0 hown hK hP 0 rfl 6 (by decide) (htb _ mw_64) rfl dX0_isSendable_25 ?_
    refine lv_aload_n hx hb dX0_isSendable_28 rfl (lv_at hl 0 rfl) ?_
    refine us_getU (v := (u 1)) hx hb htb us_inX0 hown hK hP 0 rfl 1 (by decide) (htb _ mw_57) rfl dX0_isSendable_29 ?_
    refine lv_icmp_lt (tgt := 58) hx hb dX0_isSendable_32 (by decide) (fun c_2 => ?_) (fun c_2 => ?_)
    · refine lv_iconst (v := 0) hx hb dX0_isSendable_58 (by decide) ?_
      have hsp : 0 = sp_send u p1 := by first | (simp only [sp_send, sp_send2, eq_true c_1, eq_true c_2, if_true, if_false]; done) | (simp [sp_send, sp_send2, c_1, c_2]; done)
      exact W.zret (v := 0) hx hb hr (us_nz (by decide)) (fun t ht hW => ⟨⟨0, (), rfl, hsp, trivial⟩, hS.F ht⟩) hS.2.2 dX0_isSendable_59
    · refine lv_aload_n hx hb dX0_isSendable_35 rfl (lv_at hl 0 rfl) ?_
      refine us_getU (v := (u 8)) hx hb htb us_inX0 hown hK hP 0 rfl 8 (by decide) (htb _ mw_68) rfl dX0_isSendable_36 ?_
      refine lv_iconst (v := 1) hx hb dX0_isSendable_39 (by decide) ?_
      refine lv_icmp_ne (tgt := 58) hx hb dX0_isSendable_40 (by decide) (fun c_3 => ?_) (fun c_3 => ?_)
      · refine lv_iconst (v := 0) hx hb dX0_isSendable_58 (by decide) ?_
        have hsp : 0 = sp_send u p1 := by first | (simp only [sp_send, sp_send2, eq_true c_1, eq_false c_2, eq_false c_3, if_true, if_false]; done) | (simp [sp_send, sp_send2, c_1, c_2, c_3]; done)
        exact W.zret (v := 0) hx hb hr (us_nz (by decide)) (fun t ht hW => ⟨⟨0, (), rfl, hsp, trivial⟩, hS.F ht⟩) hS.2.2 dX0_isSendable_59
      · refine lv_aload_n hx hb dX0_isSendable_43 rfl (lv_at hl 0 rfl) ?_
        refine lv_iload_n hx hb dX0_isSendable_44 rfl (lv_at hl 1 rfl) ?_
        refine va_calli (va_runV (As := [.int p1]) (rest := []) ⟨hx, hb, hml, hown, htb⟩ (kt_X0_drivenUpTo l dC dI h0 s.heap.size u p1) (cwV 1 htb (us_gV mw_323 mw_325 mw_10 mw_33 mw_326) rfl rfl rfl (by decide +kernel) ⟨Nat.le_of_ble_eq_true rfl, Nat.le_of_ble_eq_true rfl⟩) ⟨us_Pu_blind, va_recv hK hP (ci := 0) (q0 := 0) rfl rfl, fun U hU hW => ⟨rfl, us_Pu_at hP hK hU hW⟩⟩ rfl rfl hl.1 rfl (lv_room (Nat.le_of_ble_eq_true rfl)) dX0_isSendable_45 ⟨Nat.le_of_ble_eq_true rfl, Nat.le_of_ble_eq_true rfl⟩) hS (fun q h1 h2 => absurd h2 (Nat.not_le.mpr h1)) (fun q h => hA q (Nat.le_trans hS.1 h)) (fun r_5 _ t_6 H_4 locs ht hvm hw hB hz1 hk1 hS => ?_)
        subst hw
        have hP := us_mono hP (fun q h => hk1 q h (Nat.not_le.mpr h))
        refine lv_sipush (v := 240) hx hb dX0_isSendable_48 (by decide) ?_
        refine lv_icmp_ge (tgt := 58) hx hb dX0_isSendable_51 (by decide) (fun c_7 => ?_) (fun c_7 => ?_)
        · refine lv_iconst (v := 0) hx hb dX0_isSendable_58 (by decide) ?_
          have hsp : 0 = sp_send u p1 := by first | (simp only [sp_send, sp_send2, eq_true c_1, eq_false c_2, eq_true c_3, eq_true c_7, if_true, if_false]; done) | (simp [sp_send, sp_send2, c_1, c_2, c_3, c_7]; done)
          exact W.zret (v := 0) hx hb hr (us_nz (by decide)) (fun t ht hW => ⟨⟨0, (), rfl, hsp, trivial⟩, hS.F ht⟩) hS.2.2 dX0_isSendable_59
        · refine lv_iconst (v := 1) hx hb dX0_isSendable_54 (by decide) ?_
          refine lv_goto (tgt := 59) hx hb dX0_isSendable_55 (by decide) ?_
          have hsp : 1 = sp_send u p1 := by first | (simp only [sp_send, sp_send2, eq_true c_1, eq_false c_2, eq_true c_3, eq_false c_7, if_true, if_false]; done) | (simp [sp_send, sp_send2, c_1, c_2, c_3, c_7]; done)
          exact W.zret (v := 1) hx hb hr (us_nz (by decide)) (fun t ht hW => ⟨⟨1, (), rfl, hsp, trivial⟩, hS.F ht⟩) hS.2.2 dX0_isSendable_59
  · refine lv_aload_n hx hb dX0_isSendable_7 rfl (lv_at hl 0 rfl) ?_
    refine us_getU (v := (u 2)) hx hb htb us_inX0 hown hK hP 0 rfl 2 (by decide) (htb _ mw_58) rfl dX0_isSendable_8 ?_
    refine lv_iconst (v := 5) hx hb dX0_isSendable_11 (by decide) ?_
    refine lv_icmp_eq (tgt := 24) hx hb dX0_isSendable_12 (by decide) (fun c_8 => ?_) (fun c_8 => ?_)
    · refine lv_aload_n hx hb dX0_isSendable_24 rfl (lv_at hl 0 rfl) ?_
      refine us_getU (v := (u 6)) hx hb htb us_inX0 hown hK hP 0 rfl 6 (by decide) (htb _ mw_64) rfl dX0_isSendable_25 ?_
      refine lv_aload_n hx hb dX0_isSendable_28 rfl (lv_at hl 0 rfl) ?_
      refine us_getU (v := (u 1)) hx hb htb us_inX0 hown hK hP 0 rfl 1 (by decide) (htb _ mw_57) rfl dX0_isSendable_29 ?_
      refine lv_icmp_lt (tgt := 58) hx hb dX0_isSendable_32 (by decide) (fun c_9 => ?_) (fun c_9 => ?_)
      · refine lv_iconst (v := 0) hx hb dX0_isSendable_58 (by decide) ?_
        have hsp : 0 = sp_send u p1 := by first | (simp only [sp_send, sp_send2, eq_false c_1, eq_true c_8, eq_true c_9, if_true, if_false]; done) | (simp [sp_send, sp_send2, c_1, c_8, c_9]; done)
        exact W.zret (v := 0) hx hb hr (us_nz (by decide)) (fun t ht hW => ⟨⟨0, (), rfl, hsp, trivial⟩, hS.F ht⟩) hS.2.2 dX0_isSendable_59
      · refine lv_aload_n hx hb dX0_isSendable_35 rfl (lv_at hl 0 rfl) ?_
        refine us_getU (v := (u 8)) hx hb htb us_inX0 hown hK hP 0 rfl 8 (by decide) (htb _ mw_68) rfl dX0_isSendable_36 ?_
        refine lv_iconst (v := 1) hx hb dX0_isSendable_39 (by decide) ?_
        refine lv_icmp_ne (tgt := 58) hx hb dX0_isSendable_40 (by decide) (fun c_10 => ?_) (fun c_10 => ?_)
        · refine lv_iconst (v := 0) hx hb dX0_isSendable_58 (by decide) ?_
          have hsp : 0 = sp_send u p1 := by first | (simp only [sp_send, sp_send2, eq_false c_1, eq_true c_8, eq_false c_9, eq_false c_10, if_true, if_false]; done) | (simp [sp_send, sp_send2, c_1, c_8, c_9, c_10]; done)
          exact W.zret (v := 0) hx hb hr (us_nz (by decide)) (fun t ht hW => ⟨⟨0, (), rfl, hsp, trivial⟩, hS.F ht⟩) hS.2.2 dX0_isSendable_59
        · refine lv_aload_n hx hb dX0_isSendable_43 rfl (lv_at hl 0 rfl) ?_
          refine lv_iload_n hx hb dX0_isSendable_44 rfl (lv_at hl 1 rfl) ?_
          refine va_calli (va_runV (As := [.int p1]) (rest := []) ⟨hx, hb, hml, hown, htb⟩ (kt_X0_drivenUpTo l dC dI h0 s.heap.size u p1) (cwV 1 htb (us_gV mw_323 mw_325 mw_10 mw_33 mw_326) rfl rfl rfl (by decide +kernel) ⟨Nat.le_of_ble_eq_true rfl, Nat.le_of_ble_eq_true rfl⟩) ⟨us_Pu_blind, va_recv hK hP (ci := 0) (q0 := 0) rfl rfl, fun U hU hW => ⟨rfl, us_Pu_at hP hK hU hW⟩⟩ rfl rfl hl.1 rfl (lv_room (Nat.le_of_ble_eq_true rfl)) dX0_isSendable_45 ⟨Nat.le_of_ble_eq_true rfl, Nat.le_of_ble_eq_true rfl⟩) hS (fun q h1 h2 => absurd h2 (Nat.not_le.mpr h1)) (fun q h => hA q (Nat.le_trans hS.1 h)) (fun r_12 _ t_13 H_11 locs ht hvm hw hB hz1 hk1 hS => ?_)
          subst hw
          have hP := us_mono hP (fun q h => hk1 q h (Nat.not_le.mpr h))
          refine lv_sipush (v := 240) hx hb dX0_isSendable_48 (by decide) ?_
          refine lv_icmp_ge (tgt := 58) hx hb dX0_isSendable_51 (by decide) (fun c_14 => ?_) (fun c_14 => ?_)
          · refine lv_iconst (v := 0) hx hb dX0_isSendable_58 (by decide) ?_
            have hsp : 0 = sp_send u p1 := by first | (simp only [sp_send, sp_send2, eq_false c_1, eq_true c_8, eq_false c_9, eq_true c_10, eq_true c_14, if_true, if_false]; done) | (simp [sp_send, sp_send2, c_1, c_8, c_9, c_10, c_14]; done)
            exact W.zret (v := 0) hx hb hr (us_nz (by decide)) (fun t ht hW => ⟨⟨0, (), rfl, hsp, trivial⟩, hS.F ht⟩) hS.2.2 dX0_isSendable_59
          · refine lv_iconst (v := 1) hx hb dX0_isSendable_54 (by decide) ?_
            refine lv_goto (tgt := 59) hx hb dX0_isSendable_55 (by decide) ?_
            have hsp : 1 = sp_send u p1 := by first | (simp only [sp_send, sp_send2, eq_false c_1, eq_true c_8, eq_false c_9, eq_true c_10, eq_false c_14, if_true, if_false]; done) | (simp [sp_send, sp_send2, c_1, c_8, c_9, c_10, c_14]; done)
            exact W.zret (v := 1) hx hb hr (us_nz (by decide)) (fun t ht hW => ⟨⟨1, (), rfl, hsp, trivial⟩, hS.F ht⟩) hS.2.2 dX0_isSendable_59
    · refine lv_aload_n hx hb dX0_isSendable_15 rfl (lv_at hl 0 rfl) ?_
      refine us_getU (v := (u 2)) hx hb htb us_inX0 hown hK hP 0 rfl 2 (by decide) (htb _ mw_58) rfl dX0_isSendable_16 ?_
      refine lv_bipush (v := 6) hx hb dX0_isSendable_19 (by decide) ?_
      refine lv_icmp_ne (tgt := 58) hx hb dX0_isSendable_21 (by decide) (fun c_15 => ?_) (fun c_15 => ?_)
      · refine lv_iconst (v := 0) hx hb dX0_isSendable_58 (by decide) ?_
        have hsp : 0 = sp_send u p1 := by first | (simp only [sp_send, sp_send2, eq_false c_1, eq_false c_8, eq_false c_15, if_true, if_false]; done) | (simp [sp_send, sp_send2, c_1, c_8, c_15]; done)
        exact W.zret (v := 0) hx hb hr (us_nz (by decide)) (fun t ht hW => ⟨⟨0, (), rfl, hsp, trivial⟩, hS.F ht⟩) hS.2.2 dX0_isSendable_59
      · refine lv_aload_n hx hb dX0_isSendable_24 rfl (lv_at hl 0 rfl) ?_
        refine us_getU (v := (u 6)) hx hb htb us_inX0 hown hK hP 0 rfl 6 (by decide) (htb _ mw_64) rfl dX0_isSendable_25 ?_
        refine lv_aload_n hx hb dX0_isSendable_28 rfl (lv_at hl 0 rfl) ?_
        refine us_getU (v := (u 1)) hx hb htb us_inX0 hown hK hP 0 rfl 1 (by decide) (htb _ mw_57) rfl dX0_isSendable_29 ?_
        refine lv_icmp_lt (tgt := 58) hx hb dX0_isSendable_32 (by decide) (fun c_16 => ?_) (fun c_16 => ?_)
        · refine lv_iconst (v := 0) hx hb dX0_isSendable_58 (by decide) ?_
          have hsp : 0 = sp_send u p1 := by first | (simp only [sp_send, sp_send2, eq_false c_1, eq_false c_8, eq_true c_15, eq_true c_16, if_true, if_false]; done) | (simp [sp_send, sp_send2, c_1, c_8, c_15, c_16]; done)
          exact W.zret (v := 0) hx hb hr (us_nz (by decide)) (fun t ht hW => ⟨⟨0, (), rfl, hsp, trivial⟩, hS.F ht⟩) hS.2.2 dX0_isSendable_59
        · refine lv_aload_n hx hb dX0_isSendable_35 rfl (lv_at hl 0 rfl) ?_
          refine us_getU (v := (u 8)) hx hb htb us_inX0 hown hK hP 0 rfl 8 (by decide) (htb _ mw_68) rfl dX0_isSendable_36 ?_
          refine lv_iconst (v := 1) hx hb dX0_isSendable_39 (by decide) ?_
          refine lv_icmp_ne (tgt := 58) hx hb dX0_isSendable_40 (by decide) (fun c_17 => ?_) (fun c_17 => ?_)
          · refine lv_iconst (v := 0) hx hb dX0_isSendable_58 (by decide) ?_
            have hsp : 0 = sp_send u p1 := by first | (simp only [sp_send, sp_send2, eq_false c_1, eq_false c_8, eq_true c_15, eq_false c_16, eq_false c_17, if_true, if_false]; done) | (simp [sp_send, sp_send2, c_1, c_8, c_15, c_16, c_17]; done)
            exact W.zret (v := 0) hx hb hr (us_nz (by decide)) (fun t ht hW => ⟨⟨0, (), rfl, hsp, trivial⟩, hS.F ht⟩) hS.2.2 dX0_isSendable_59
          · refine lv_aload_n hx hb dX0_isSendable_43 rfl (lv_at hl 0 rfl) ?_
            refine lv_iload_n hx hb dX0_isSendable_44 rfl (lv_at hl 1 rfl) ?_
            refine va_calli (va_runV (As := [.int p1]) (rest := []) ⟨hx, hb, hml, hown, htb⟩ (kt_X0_drivenUpTo l dC dI h0 s.heap.size u p1) (cwV 1 htb (us_gV mw_323 mw_325 mw_10 mw_33 mw_326) rfl rfl rfl (by decide +kernel) ⟨Nat.le_of_ble_eq_true rfl, Nat.le_of_ble_eq_true rfl⟩) ⟨us_Pu_blind, va_recv hK hP (ci := 0) (q0 := 0) rfl rfl, fun U hU hW => ⟨rfl, us_Pu_at hP hK hU hW⟩⟩ rfl rfl hl.1 rfl (lv_room (Nat.le_of_ble_eq_true rfl)) dX0_isSendable_45 ⟨Nat.le_of_ble_eq_true rfl, Nat.le_of_ble_eq_true rfl⟩) hS (fun q h1 h2 => absurd h2 (Nat.not_le.mpr h1)) (fun q h => hA q (Nat.le_trans hS.1 h)) (fun r_19 _ t_20 H_18 locs ht hvm hw hB hz1 hk1 hS => ?_)
            subst hw
            have hP := us_mono hP (fun q h => hk1 q h (Nat.not_le.mpr h))
            refine lv_sipush (v := 240) hx hb dX0_isSendable_48 (by decide) ?_
            refine lv_icmp_ge (tgt := 58) hx hb dX0_isSendable_51 (by decide) (fun c_21 => ?_) (fun c_21 => ?_)
            · refine lv_iconst (v := 0) hx hb dX0_isSendable_58 (by decide) ?_
              have hsp : 0 = sp_send u p1 := by first | (simp only [sp_send, sp_send2, eq_false c_1, eq_false c_8, eq_true c_15, eq_false c_16, eq_true c_17, eq_true c_21, if_true, if_false]; done) | (simp [sp_send, sp_send2, c_1, c_8, c_15, c_16, c_17, c_21]; done)
              exact W.zret (v := 0) hx hb hr (us_nz (by decide)) (fun t ht hW => ⟨⟨0, (), rfl, hsp, trivial⟩, hS.F ht⟩) hS.2.2 dX0_isSendable_59
            · refine lv_iconst (v := 1) hx hb dX0_isSendable_54 (by decide) ?_
              refine lv_goto (tgt := 59) hx hb dX0_isSendable_55 (by decide) ?_
              have hsp : 1 = sp_send u p1 := by first | (simp only [sp_send, sp_send2, eq_false c_1, eq_false c_8, eq_true c_15, eq_false c_16, eq_true c_17, eq_false c_21, if_true, if_false]; done) | (simp [sp_send, sp_send2, c_1, c_8, c_15, c_16, c_17, c_21]; done)
              exact W.zret (v := 1) hx hb hr (us_nz (by decide)) (fun t ht hW => ⟨⟨1, (), rfl, hsp, trivial⟩, hS.F ht⟩) hS.2.2 dX0_isSendable_59
set_option maxHeartbeats 4000000 in
set_option maxRecDepth 100000 in
theorem kt_X0_stationNow (l : Launch) (dC : Nat → ClassId) (dI : Nat → Nat → Nat) (h0 : Nat) (sz : Nat) (u : Nat → Int32) : Met l yX0_stationNow wsX0_stationNow ({ frames := 0, cells := 0, slots := 0, locals := 0 }) (va_Pc [.ref h0] (us_Pu dC dI h0 u sz)) (va_Qi (fun r (_ : Unit) => r = sp_stn u) (fun _ _ => True) (us_new sz)) 0 0 (us_new sz) := by
  refine Met.ofW (cc := cX0_stationNow) (maxL := 1) (ret := (some .int)) (by decide) rfl ?_
  intro p e s m args below meth c s₁ B hml hv
  obtain ⟨rfl, hsz, hP, hK⟩ := hv
  have hx := B.exec
  have hb := B.bytes
  have hr := B.returns
  have htb := us_htb (atoms_spec (ws := wsX0_stationNow) B.pre)
  have hown : s.vm.findClass RX0 = some m.cls := findClass_of_methodNamed B.named
  have hlocks := B.notSynchronized
  subst hsz
  have hA : ∀ q : Nat, s.heap.size ≤ q → us_new s.heap.size q := fun q h => h
  have hS : va_S (us_new s.heap.size) s.heap s.heap [] := va_S.rf
  have hP : va_P (dC, dI) vwCl (us_wu h0 u) s.heap := hP
  have hl := lv_entry ([.ref h0]) (n := 1) (Nat.le_of_ble_eq_true rfl)
  rw [lg_entry_eq]
  generalize (lg_sl ([.ref h0]) ++ List.replicate (1 - (lg_sl ([.ref h0])).length) Slot.unset).toArray = ls at hl ⊢
  have hl : lv_has ls 1 [(0, .ref h0)] := hl
  refine lv_aload_n hx hb dX0_stationNow_0 rfl (lv_at hl 0 rfl) ?_
  refine us_getU (v := (u 2)) hx hb htb us_inX0 hown hK hP 0 rfl 2 (by decide) (htb _ mw_58) rfl dX0_stationNow_1 ?_
  refine lv_if_ne (tgt := 14) hx hb dX0_stationNow_4 (by decide) (fun c_1 => ?_) (fun c_1 => ?_)
  · refine lv_iconst (v := (-1)) hx hb dX0_stationNow_14 (by decide) ?_
    have hsp : (-1) = sp_stn u := by first | (simp only [sp_stn, eq_false c_1, if_true, if_false]; done) | (simp [sp_stn, c_1]; done)
    exact W.iret (v := (-1)) hx hb hr (fun t ht hW => ⟨⟨(-1), (), rfl, hsp, trivial⟩, hS.F ht⟩) hS.2.2 dX0_stationNow_15
  · refine lv_aload_n hx hb dX0_stationNow_7 rfl (lv_at hl 0 rfl) ?_
    refine us_getU (v := (u 4)) hx hb htb us_inX0 hown hK hP 0 rfl 4 (by decide) (htb _ mw_62) rfl dX0_stationNow_8 ?_
    refine lv_goto (tgt := 15) hx hb dX0_stationNow_11 (by decide) ?_
    have hsp : (u 4) = sp_stn u := by first | (simp only [sp_stn, eq_true c_1, if_true, if_false]; done) | (simp [sp_stn, c_1]; done)
    exact W.iret (v := (u 4)) hx hb hr (fun t ht hW => ⟨⟨(u 4), (), rfl, hsp, trivial⟩, hS.F ht⟩) hS.2.2 dX0_stationNow_15
set_option maxHeartbeats 4000000 in
set_option maxRecDepth 100000 in
theorem kt_X0_incidentNow (l : Launch) (dC : Nat → ClassId) (dI : Nat → Nat → Nat) (h0 : Nat) (sz : Nat) (u : Nat → Int32) : Met l yX0_incidentNow wsX0_incidentNow ({ frames := 0, cells := 0, slots := 0, locals := 0 }) (va_Pc [.ref h0] (us_Pu dC dI h0 u sz)) (va_Qi (fun r (_ : Unit) => r = sp_inc u) (fun _ _ => True) (us_new sz)) 0 0 (us_new sz) := by
  refine Met.ofW (cc := cX0_incidentNow) (maxL := 1) (ret := (some .int)) (by decide) rfl ?_
  intro p e s m args below meth c s₁ B hml hv
  obtain ⟨rfl, hsz, hP, hK⟩ := hv
  have hx := B.exec
  have hb := B.bytes
  have hr := B.returns
  have htb := us_htb (atoms_spec (ws := wsX0_incidentNow) B.pre)
  have hown : s.vm.findClass RX0 = some m.cls := findClass_of_methodNamed B.named
  have hlocks := B.notSynchronized
  subst hsz
  have hA : ∀ q : Nat, s.heap.size ≤ q → us_new s.heap.size q := fun q h => h
  have hS : va_S (us_new s.heap.size) s.heap s.heap [] := va_S.rf
  have hP : va_P (dC, dI) vwCl (us_wu h0 u) s.heap := hP
  have hl := lv_entry ([.ref h0]) (n := 1) (Nat.le_of_ble_eq_true rfl)
  rw [lg_entry_eq]
  generalize (lg_sl ([.ref h0]) ++ List.replicate (1 - (lg_sl ([.ref h0])).length) Slot.unset).toArray = ls at hl ⊢
  have hl : lv_has ls 1 [(0, .ref h0)] := hl
  refine lv_aload_n hx hb dX0_incidentNow_0 rfl (lv_at hl 0 rfl) ?_
  refine us_getU (v := (u 2)) hx hb htb us_inX0 hown hK hP 0 rfl 2 (by decide) (htb _ mw_58) rfl dX0_incidentNow_1 ?_
  refine lv_iconst (v := 1) hx hb dX0_incidentNow_4 (by decide) ?_
  refine lv_icmp_lt (tgt := 23) hx hb dX0_incidentNow_5 (by decide) (fun c_1 => ?_) (fun c_1 => ?_)
  · refine lv_iconst (v := (-1)) hx hb dX0_incidentNow_23 (by decide) ?_
    have hsp : (-1) = sp_inc u := by first | (simp only [sp_inc, eq_true c_1, if_true, if_false]; done) | (simp [sp_inc, c_1]; done)
    exact W.iret (v := (-1)) hx hb hr (fun t ht hW => ⟨⟨(-1), (), rfl, hsp, trivial⟩, hS.F ht⟩) hS.2.2 dX0_incidentNow_24
  · refine lv_aload_n hx hb dX0_incidentNow_8 rfl (lv_at hl 0 rfl) ?_
    refine us_getU (v := (u 2)) hx hb htb us_inX0 hown hK hP 0 rfl 2 (by decide) (htb _ mw_58) rfl dX0_incidentNow_9 ?_
    refine lv_iconst (v := 5) hx hb dX0_incidentNow_12 (by decide) ?_
    refine lv_icmp_gt (tgt := 23) hx hb dX0_incidentNow_13 (by decide) (fun c_2 => ?_) (fun c_2 => ?_)
    · refine lv_iconst (v := (-1)) hx hb dX0_incidentNow_23 (by decide) ?_
      have hsp : (-1) = sp_inc u := by first | (simp only [sp_inc, eq_false c_1, eq_true c_2, if_true, if_false]; done) | (simp [sp_inc, c_1, c_2]; done)
      exact W.iret (v := (-1)) hx hb hr (fun t ht hW => ⟨⟨(-1), (), rfl, hsp, trivial⟩, hS.F ht⟩) hS.2.2 dX0_incidentNow_24
    · refine lv_aload_n hx hb dX0_incidentNow_16 rfl (lv_at hl 0 rfl) ?_
      refine us_getU (v := (u 5)) hx hb htb us_inX0 hown hK hP 0 rfl 5 (by decide) (htb _ mw_63) rfl dX0_incidentNow_17 ?_
      refine lv_goto (tgt := 24) hx hb dX0_incidentNow_20 (by decide) ?_
      have hsp : (u 5) = sp_inc u := by first | (simp only [sp_inc, eq_false c_1, eq_false c_2, if_true, if_false]; done) | (simp [sp_inc, c_1, c_2]; done)
      exact W.iret (v := (u 5)) hx hb hr (fun t ht hW => ⟨⟨(u 5), (), rfl, hsp, trivial⟩, hS.F ht⟩) hS.2.2 dX0_incidentNow_24
set_option maxHeartbeats 4000000 in
set_option maxRecDepth 100000 in
theorem kt_X0_isThereAt (l : Launch) (dC : Nat → ClassId) (dI : Nat → Nat → Nat) (h0 : Nat) (sz : Nat) (u : Nat → Int32) (p1 : Int32) : Met l yX0_isThereAt wsX0_isThereAt ({ frames := 0, cells := 0, slots := 0, locals := 0 }) (va_Pc [.ref h0, .int p1] (us_Pu dC dI h0 u sz)) (va_Qi (fun r (_ : Unit) => r = sp_there u p1) (fun _ _ => True) (us_new sz)) 0 0 (us_new sz) := by
  refine Met.ofW (cc := cX0_isThereAt) (maxL := 2) (ret := (some .boolean)) (by decide) rfl ?_
  intro p e s m args below meth c s₁ B hml hv
  obtain ⟨rfl, hsz, hP, hK⟩ := hv
  have hx := B.exec
  have hb := B.bytes
  have hr := B.returns
  have htb := us_htb (atoms_spec (ws := wsX0_isThereAt) B.pre)
  have hown : s.vm.findClass RX0 = some m.cls := findClass_of_methodNamed B.named
  have hlocks := B.notSynchronized
  subst hsz
  have hA : ∀ q : Nat, s.heap.size ≤ q → us_new s.heap.size q := fun q h => h
  have hS : va_S (us_new s.heap.size) s.heap s.heap [] := va_S.rf
  have hP : va_P (dC, dI) vwCl (us_wu h0 u) s.heap := hP
  have hl := lv_entry ([.ref h0, .int p1]) (n := 2) (Nat.le_of_ble_eq_true rfl)
  rw [lg_entry_eq]
  generalize (lg_sl ([.ref h0, .int p1]) ++ List.replicate (2 - (lg_sl ([.ref h0, .int p1])).length) Slot.unset).toArray = ls at hl ⊢
  have hl : lv_has ls 2 [(0, .ref h0), (1, .int p1)] := hl
  refine lv_aload_n hx hb dX0_isThereAt_0 rfl (lv_at hl 0 rfl) ?_
  refine us_getU (v := (u 2)) hx hb htb us_inX0 hown hK hP 0 rfl 2 (by decide) (htb _ mw_58) rfl dX0_isThereAt_1 ?_
  refine lv_iconst (v := 3) hx hb dX0_isThereAt_4 (by decide) ?_
  refine lv_icmp_lt (tgt := 28) hx hb dX0_isThereAt_5 (by decide) (fun c_1 => ?_) (fun c_1 => ?_)
  · refine lv_iconst (v := 0) hx hb dX0_isThereAt_28 (by decide) ?_
    have hsp : 0 = sp_there u p1 := by first | (simp only [sp_there, eq_true c_1, if_true, if_false]; done) | (simp [sp_there, c_1]; done)
    exact W.zret (v := 0) hx hb hr (us_nz (by decide)) (fun t ht hW => ⟨⟨0, (), rfl, hsp, trivial⟩, hS.F ht⟩) hS.2.2 dX0_isThereAt_29
  · refine lv_aload_n hx hb dX0_isThereAt_8 rfl (lv_at hl 0 rfl) ?_
    refine us_getU (v := (u 2)) hx hb htb us_inX0 hown hK hP 0 rfl 2 (by decide) (htb _ mw_58) rfl dX0_isThereAt_9 ?_
    refine lv_iconst (v := 5) hx hb dX0_isThereAt_12 (by decide) ?_
    refine lv_icmp_gt (tgt := 28) hx hb dX0_isThereAt_13 (by decide) (fun c_2 => ?_) (fun c_2 => ?_)
    · refine lv_iconst (v := 0) hx hb dX0_isThereAt_28 (by decide) ?_
      have hsp : 0 = sp_there u p1 := by first | (simp only [sp_there, eq_false c_1, eq_true c_2, if_true, if_false]; done) | (simp [sp_there, c_1, c_2]; done)
      exact W.zret (v := 0) hx hb hr (us_nz (by decide)) (fun t ht hW => ⟨⟨0, (), rfl, hsp, trivial⟩, hS.F ht⟩) hS.2.2 dX0_isThereAt_29
    · refine lv_aload_n hx hb dX0_isThereAt_16 rfl (lv_at hl 0 rfl) ?_
      refine us_getU (v := (u 5)) hx hb htb us_inX0 hown hK hP 0 rfl 5 (by decide) (htb _ mw_63) rfl dX0_isThereAt_17 ?_
      refine lv_iload_n hx hb dX0_isThereAt_20 rfl (lv_at hl 1 rfl) ?_
      refine lv_icmp_ne (tgt := 28) hx hb dX0_isThereAt_21 (by decide) (fun c_3 => ?_) (fun c_3 => ?_)
      · refine lv_iconst (v := 0) hx hb dX0_isThereAt_28 (by decide) ?_
        have hsp : 0 = sp_there u p1 := by first | (simp only [sp_there, eq_false c_1, eq_false c_2, eq_false c_3, if_true, if_false]; done) | (simp [sp_there, c_1, c_2, c_3]; done)
        exact W.zret (v := 0) hx hb hr (us_nz (by decide)) (fun t ht hW => ⟨⟨0, (), rfl, hsp, trivial⟩, hS.F ht⟩) hS.2.2 dX0_isThereAt_29
      · refine lv_iconst (v := 1) hx hb dX0_isThereAt_24 (by decide) ?_
        refine lv_goto (tgt := 29) hx hb dX0_isThereAt_25 (by decide) ?_
        have hsp : 1 = sp_there u p1 := by first | (simp only [sp_there, eq_false c_1, eq_false c_2, eq_true c_3, if_true, if_false]; done) | (simp [sp_there, c_1, c_2, c_3]; done)
        exact W.zret (v := 1) hx hb hr (us_nz (by decide)) (fun t ht hW => ⟨⟨1, (), rfl, hsp, trivial⟩, hS.F ht⟩) hS.2.2 dX0_isThereAt_29
set_option maxHeartbeats 4000000 in
set_option maxRecDepth 100000 in
theorem kt_X0_takePlace (l : Launch) (dC : Nat → ClassId) (dI : Nat → Nat → Nat) (h0 : Nat) (sz : Nat) (u : Nat → Int32) (p1 p2 : Int32) : Met l yX0_takePlace wsX0_takePlace ({ frames := 0, cells := 0, slots := 0, locals := 0 }) (va_Pc [.ref h0, .int p1, .int p2] (us_Pu dC dI h0 u sz)) (va_Qi (fun r (_ : Unit) => r = (sp_tp u p1 p2).1) (fun _ t => us_Bu dC dI h0 (sp_tp u p1 p2).2 t) (us_Au h0 sz)) 0 0 (us_Au h0 sz) := by
  refine Met.ofW (cc := cX0_takePlace) (maxL := 3) (ret := (some .int)) (by decide) rfl ?_
  intro p e s m args below meth c s₁ B hml hv
  obtain ⟨rfl, hsz, hP, hK⟩ := hv
  have hx := B.exec
  have hb := B.bytes
  have hr := B.returns
  have htb := us_htb (atoms_spec (ws := wsX0_takePlace) B.pre)
  have hown : s.vm.findClass RX0 = some m.cls := findClass_of_methodNamed B.named
  have hlocks := B.notSynchronized
  subst hsz
  have hA : ∀ q : Nat, s.heap.size ≤ q → us_Au h0 s.heap.size q := fun q h => Or.inr h
  have hD : va_D (us_Au h0 s.heap.size) (us_wu h0 u) := us_D1 (Or.inl rfl)
  have hS : va_S (us_Au h0 s.heap.size) s.heap s.heap [] := va_S.rf
  have hP : va_P (dC, dI) vwCl (us_wu h0 u) s.heap := hP
  have hl := lv_entry ([.ref h0, .int p1, .int p2]) (n := 3) (Nat.le_of_ble_eq_true rfl)
  rw [lg_entry_eq]
  generalize (lg_sl ([.ref h0, .int p1, .int p2]) ++ List.replicate (3 - (lg_sl ([.ref h0, .int p1, .int p2])).length) Slot.unset).toArray = ls at hl ⊢
  have hl : lv_has ls 3 [(0, .ref h0), (1, .int p1), (2, .int p2)] := hl
  refine lv_aload_n hx hb dX0_takePlace_0 rfl (lv_at hl 0 rfl) ?_
  refine us_getU (v := (u 8)) hx hb htb us_inX0 hown hK hP 0 rfl 8 (by decide) (htb _ mw_68) rfl dX0_takePlace_1 ?_
  refine lv_if_ne (tgt := 9) hx hb dX0_takePlace_4 (by decide) (fun c_1 => ?_) (fun c_1 => ?_)
  · refine lv_aload_n hx hb dX0_takePlace_9 rfl (lv_at hl 0 rfl) ?_
    refine lv_iload_n hx hb dX0_takePlace_10 rfl (lv_at hl 1 rfl) ?_
    refine us_putU (u := u) hx hb htb us_inX0 hown hK hP hD hS 0 rfl 9 (by decide) (htb _ mw_70) dX0_takePlace_11 (fun H_2 locs hP hD hS => ?_)
    have hP : va_P (dC, dI) vwCl (us_wu h0 (upd u 9 p1)) H_2 := hP
    have hD : va_D (us_Au h0 s.heap.size) (us_wu h0 (upd u 9 p1)) := hD
    refine lv_aload_n hx hb dX0_takePlace_14 rfl (lv_at hl 0 rfl) ?_
    refine lv_iload_n hx hb dX0_takePlace_15 rfl (lv_at hl 2 rfl) ?_
    refine us_putU (u := (upd u 9 p1)) hx hb htb us_inX0 hown hK hP hD hS 0 rfl 10 (by decide) (htb _ mw_72) dX0_takePlace_16 (fun H_3 locs hP hD hS => ?_)
    have hP : va_P (dC, dI) vwCl (us_wu h0 (upd (upd u 9 p1) 10 p2)) H_3 := hP
    have hD : va_D (us_Au h0 s.heap.size) (us_wu h0 (upd (upd u 9 p1) 10 p2)) := hD
    refine lv_iconst (v := 0) hx hb dX0_takePlace_19 (by decide) ?_
    have hsp : sp_tp u p1 p2 = (0, (upd (upd u 9 p1) 10 p2)) := by first | (simp only [sp_tp, eq_false c_1, if_true, if_false]; done) | (simp [sp_tp, c_1]; done)
    exact W.iret (v := 0) hx hb hr (fun t ht hW => ⟨⟨0, (), rfl, by rw [hsp], us_Bu_of ht hP (by rw [hsp])⟩, hS.F ht⟩) hS.2.2 dX0_takePlace_20
  · refine lv_iconst (v := 4) hx hb dX0_takePlace_7 (by decide) ?_
    have hsp : sp_tp u p1 p2 = (4, u) := by first | (simp only [sp_tp, eq_true c_1, if_true, if_false]; done) | (simp [sp_tp, c_1]; done)
    exact W.iret (v := 4) hx hb hr (fun t ht hW => ⟨⟨4, (), rfl, by rw [hsp], us_Bu_of ht hP (by rw [hsp])⟩, hS.F ht⟩) hS.2.2 dX0_takePlace_8
set_option maxHeartbeats 4000000 in
set_option maxRecDepth 100000 in
theorem kt_X0_takeStation (l : Launch) (dC : Nat → ClassId) (dI : Nat → Nat → Nat) (h0 : Nat) (sz : Nat) (u : Nat → Int32) (p1 : Int32) : Met l yX0_takeStation wsX0_takeStation ({ frames := 0, cells := 0, slots := 0, locals := 0 }) (va_Pc [.ref h0, .int p1] (us_Pu dC dI h0 u sz)) (va_Qi (fun r (_ : Unit) => r = (sp_ts u p1).1) (fun _ t => us_Bu dC dI h0 (sp_ts u p1).2 t) (us_Au h0 sz)) 0 0 (us_Au h0 sz) := by
  refine Met.ofW (cc := cX0_takeStation) (maxL := 2) (ret := (some .int)) (by decide) rfl ?_
  intro p e s m args below meth c s₁ B hml hv
  obtain ⟨rfl, hsz, hP, hK⟩ := hv
  have hx := B.exec
  have hb := B.bytes
  have hr := B.returns
  have htb := us_htb (atoms_spec (ws := wsX0_takeStation) B.pre)
  have hown : s.vm.findClass RX0 = some m.cls := findClass_of_methodNamed B.named
  have hlocks := B.notSynchronized
  subst hsz
  have hA : ∀ q : Nat, s.heap.size ≤ q → us_Au h0 s.heap.size q := fun q h => Or.inr h
  have hD : va_D (us_Au h0 s.heap.size) (us_wu h0 u) := us_D1 (Or.inl rfl)
  have hS : va_S (us_Au h0 s.heap.size) s.heap s.heap [] := va_S.rf
  have hP : va_P (dC, dI) vwCl (us_wu h0 u) s.heap := hP
  have hl := lv_entry ([.ref h0, .int p1]) (n := 2) (Nat.le_of_ble_eq_true rfl)
  rw [lg_entry_eq]
  generalize (lg_sl ([.ref h0, .int p1]) ++ List.replicate (2 - (lg_sl ([.ref h0, .int p1])).length) Slot.unset).toArray = ls at hl ⊢
  have hl : lv_has ls 2 [(0, .ref h0), (1, .int p1)] := hl
  refine lv_aload_n hx hb dX0_takeStation_0 rfl (lv_at hl 0 rfl) ?_
  refine lv_iload_n hx hb dX0_takeStation_1 rfl (lv_at hl 1 rfl) ?_
  refine us_putU (u := u) hx hb htb us_inX0 hown hK hP hD hS 0 rfl 4 (by decide) (htb _ mw_62) dX0_takeStation_2 (fun H_1 locs hP hD hS => ?_)
  have hP : va_P (dC, dI) vwCl (us_wu h0 (upd u 4 p1)) H_1 := hP
  have hD : va_D (us_Au h0 s.heap.size) (us_wu h0 (upd u 4 p1)) := hD
  refine lv_aload_n hx hb dX0_takeStation_5 rfl (lv_at hl 0 rfl) ?_
  refine us_getU (v := p1) hx hb htb us_inX0 hown hK hP 0 rfl 4 (by decide) (htb _ mw_62) rfl dX0_takeStation_6 ?_
  refine lv_aload_n hx hb dX0_takeStation_9 rfl (lv_at hl 0 rfl) ?_
  refine us_getU (v := (u 0)) hx hb htb us_inX0 hown hK hP 0 rfl 0 (by decide) (htb _ mw_56) rfl dX0_takeStation_10 ?_
  refine lv_icmp_ne (tgt := 20) hx hb dX0_takeStation_13 (by decide) (fun c_2 => ?_) (fun c_2 => ?_)
  · refine lv_iconst (v := 3) hx hb dX0_takeStation_20 (by decide) ?_
    have hsp : sp_ts u p1 = (3, (upd u 4 p1)) := by first | (simp only [sp_ts, eq_false c_2, if_true, if_false]; done) | (simp [sp_ts, c_2]; done)
    exact W.iret (v := 3) hx hb hr (fun t ht hW => ⟨⟨3, (), rfl, by rw [hsp], us_Bu_of ht hP (by rw [hsp])⟩, hS.F ht⟩) hS.2.2 dX0_takeStation_21
  · refine lv_iconst (v := 0) hx hb dX0_takeStation_16 (by decide) ?_
    refine lv_goto (tgt := 21) hx hb dX0_takeStation_17 (by decide) ?_
    have hsp : sp_ts u p1 = (0, (upd u 4 p1)) := by first | (simp only [sp_ts, eq_true c_2, if_true, if_false]; done) | (simp [sp_ts, c_2]; done)
    exact W.iret (v := 0) hx hb hr (fun t ht hW => ⟨⟨0, (), rfl, by rw [hsp], us_Bu_of ht hP (by rw [hsp])⟩, hS.F ht⟩) hS.2.2 dX0_takeStation_21
set_option maxHeartbeats 4000000 in
set_option maxRecDepth 100000 in
theorem kt_X0_takeState (l : Launch) (dC : Nat → ClassId) (dI : Nat → Nat → Nat) (h0 : Nat) (sz : Nat) (u : Nat → Int32) (p1 p2 p3 p4 : Int32) : Met l yX0_takeState wsX0_takeState ({ frames := 2, cells := 0, slots := 0, locals := 42 }) (va_Pc [.ref h0, .int p1, .int p2, .int p3, .int p4] (us_Pu dC dI h0 u sz)) (va_Qi (fun r (_ : Unit) => r = (sp_tst u p1 p2 p3 p4).1) (fun _ t => us_Bu dC dI h0 (sp_tst u p1 p2 p3 p4).2 t) (us_Au h0 sz)) 0 0 (us_Au h0 sz) := by
  refine Met.ofW (cc := cX0_takeState) (maxL := 5) (ret := (some .int)) (by decide) rfl ?_
  intro p e s m args below meth c s₁ B hml hv
  obtain ⟨rfl, hsz, hP, hK⟩ := hv
  have hx := B.exec
  have hb := B.bytes
  have hr := B.returns
  have htb := us_htb (atoms_spec (ws := wsX0_takeState) B.pre)
  have hown : s.vm.findClass RX0 = some m.cls := findClass_of_methodNamed B.named
  have hlocks := B.notSynchronized
  subst hsz
  have hA : ∀ q : Nat, s.heap.size ≤ q → us_Au h0 s.heap.size q := fun q h => Or.inr h
  have hD : va_D (us_Au h0 s.heap.size) (us_wu h0 u) := us_D1 (Or.inl rfl)
  have hS : va_S (us_Au h0 s.heap.size) s.heap s.heap [] := va_S.rf
  have hP : va_P (dC, dI) vwCl (us_wu h0 u) s.heap := hP
  have hl := lv_entry ([.ref h0, .int p1, .int p2, .int p3, .int p4]) (n := 5) (Nat.le_of_ble_eq_true rfl)
  rw [lg_entry_eq]
  generalize (lg_sl ([.ref h0, .int p1, .int p2, .int p3, .int p4]) ++ List.replicate (5 - (lg_sl ([.ref h0, .int p1, .int p2, .int p3, .int p4])).length) Slot.unset).toArray = ls at hl ⊢
  have hl : lv_has ls 5 [(0, .ref h0), (1, .int p1), (2, .int p2), (3, .int p3), (4, .int p4)] := hl
  refine lv_aload_n hx hb dX0_takeState_0 rfl (lv_at hl 0 rfl) ?_
  refine us_getU (v := (u 2)) hx hb htb us_inX0 hown hK hP 0 rfl 2 (by decide) (htb _ mw_58) rfl dX0_takeState_1 ?_
  refine lv_iload_n hx hb dX0_takeState_4 rfl (lv_at hl 1 rfl) ?_
  refine va_calli (va_runS (As := [.int (u 2), .int p1]) (rest := []) ⟨hx, hb, hml, hown, htb⟩ (kt_X0_canFollow l s.heap.size (u 2) p1) (cwS 2 htb (us_gS mw_317 mw_318 mw_33 mw_319) rfl rfl rfl (by decide +kernel) ⟨Nat.le_of_ble_eq_true rfl, Nat.le_of_ble_eq_true rfl⟩) ⟨us_blind0, fun U hU _ => ⟨rfl, congrArg Array.size hU⟩⟩ rfl rfl hl.1 rfl (lv_room (Nat.le_of_ble_eq_true rfl)) dX0_takeState_5 ⟨Nat.le_of_ble_eq_true rfl, Nat.le_of_ble_eq_true rfl⟩) hS (fun q h1 h2 => absurd h2 (Nat.not_le.mpr h1)) (fun q h => hA q (Nat.le_trans hS.1 h)) (fun r_2 _ t_3 H_1 locs ht hvm hw hB hz1 hk1 hS => ?_)
  subst hw
  have hP := us_mono hP (fun q h => hk1 q h (Nat.not_le.mpr h))
  refine lv_if_ne (tgt := 13) hx hb dX0_takeState_8 (by decide) (fun c_4 => ?_) (fun c_4 => ?_)
  · refine lv_iload_n hx hb dX0_takeState_13 rfl (lv_at hl 1 rfl) ?_
    refine va_calli (va_runS (As := [.int p1]) (rest := []) ⟨hx, hb, hml, hown, htb⟩ (kt_X0_needsCrew l H_1.size p1) (cwS 1 htb (us_gS mw_320 mw_321 mw_33 mw_322) rfl rfl rfl (by decide +kernel) ⟨Nat.le_of_ble_eq_true rfl, Nat.le_of_ble_eq_true rfl⟩) ⟨us_blind0, fun U hU _ => ⟨rfl, congrArg Array.size hU⟩⟩ rfl rfl hl.1 rfl (lv_room (Nat.le_of_ble_eq_true rfl)) dX0_takeState_14 ⟨Nat.le_of_ble_eq_true rfl, Nat.le_of_ble_eq_true rfl⟩) hS (fun q h1 h2 => absurd h2 (Nat.not_le.mpr h1)) (fun q h => hA q (Nat.le_trans hS.1 h)) (fun r_6 _ t_7 H_5 locs ht hvm hw hB hz1 hk1 hS => ?_)
    subst hw
    have hP := us_mono hP (fun q h => hk1 q h (Nat.not_le.mpr h))
    refine lv_if_eq (tgt := 33) hx hb dX0_takeState_17 (by decide) (fun c_8 => ?_) (fun c_8 => ?_)
    · refine lv_aload_n hx hb dX0_takeState_33 rfl (lv_at hl 0 rfl) ?_
      refine lv_aload_n hx hb dX0_takeState_34 rfl (lv_at hl 0 rfl) ?_
      refine lv_iload_n hx hb dX0_takeState_35 rfl (lv_at hl 3 rfl) ?_
      refine va_calli (va_runV (As := [.int p3]) (rest := [.ref h0]) ⟨hx, hb, hml, hown, htb⟩ (kt_X0_drivenUpTo l dC dI h0 H_5.size u p3) (cwV 1 htb (us_gV mw_323 mw_325 mw_10 mw_33 mw_326) rfl rfl rfl (by decide +kernel) ⟨Nat.le_of_ble_eq_true rfl, Nat.le_of_ble_eq_true rfl⟩) ⟨us_Pu_blind, va_recv hK hP (ci := 0) (q0 := 0) rfl rfl, fun U hU hW => ⟨rfl, us_Pu_at hP hK hU hW⟩⟩ rfl rfl hl.1 rfl (lv_room (Nat.le_of_ble_eq_true rfl)) dX0_takeState_36 ⟨Nat.le_of_ble_eq_true rfl, Nat.le_of_ble_eq_true rfl⟩) hS (fun q h1 h2 => absurd h2 (Nat.not_le.mpr h1)) (fun q h => hA q (Nat.le_trans hS.1 h)) (fun r_10 _ t_11 H_9 locs ht hvm hw hB hz1 hk1 hS => ?_)
      subst hw
      have hP := us_mono hP (fun q h => hk1 q h (Nat.not_le.mpr h))
      refine us_putU (u := u) hx hb htb us_inX0 hown hK hP hD hS 0 rfl 13 (by decide) (htb _ mw_78) dX0_takeState_39 (fun H_12 locs hP hD hS => ?_)
      have hP : va_P (dC, dI) vwCl (us_wu h0 (upd u 13 (sp_dr u p3))) H_12 := hP
      have hD : va_D (us_Au h0 s.heap.size) (us_wu h0 (upd u 13 (sp_dr u p3))) := hD
      refine lv_aload_n hx hb dX0_takeState_42 rfl (lv_at hl 0 rfl) ?_
      refine lv_iload_n hx hb dX0_takeState_43 rfl (lv_at hl 1 rfl) ?_
      refine us_putU (u := (upd u 13 (sp_dr u p3))) hx hb htb us_inX0 hown hK hP hD hS 0 rfl 2 (by decide) (htb _ mw_58) dX0_takeState_44 (fun H_13 locs hP hD hS => ?_)
      have hP : va_P (dC, dI) vwCl (us_wu h0 (upd (upd u 13 (sp_dr u p3)) 2 p1)) H_13 := hP
      have hD : va_D (us_Au h0 s.heap.size) (us_wu h0 (upd (upd u 13 (sp_dr u p3)) 2 p1)) := hD
      refine lv_aload_n hx hb dX0_takeState_47 rfl (lv_at hl 0 rfl) ?_
      refine lv_iload_n hx hb dX0_takeState_48 rfl (lv_at hl 3 rfl) ?_
      refine us_putU (u := (upd (upd u 13 (sp_dr u p3)) 2 p1)) hx hb htb us_inX0 hown hK hP hD hS 0 rfl 3 (by decide) (htb _ mw_60) dX0_takeState_49 (fun H_14 locs hP hD hS => ?_)
      have hP : va_P (dC, dI) vwCl (us_wu h0 (upd (upd (upd u 13 (sp_dr u p3)) 2 p1) 3 p3)) H_14 := hP
      have hD : va_D (us_Au h0 s.heap.size) (us_wu h0 (upd (upd (upd u 13 (sp_dr u p3)) 2 p1) 3 p3)) := hD
      refine lv_iload_n hx hb dX0_takeState_52 rfl (lv_at hl 1 rfl) ?_
      refine lv_iconst (v := 1) hx hb dX0_takeState_53 (by decide) ?_
      refine lv_icmp_ne (tgt := 62) hx hb dX0_takeState_54 (by decide) (fun c_15 => ?_) (fun c_15 => ?_)
      · refine lv_iload_n hx hb dX0_takeState_62 rfl (lv_at hl 1 rfl) ?_
        refine lv_iconst (v := 3) hx hb dX0_takeState_63 (by decide) ?_
        refine lv_icmp_ne (tgt := 78) hx hb dX0_takeState_64 (by decide) (fun c_16 => ?_) (fun c_16 => ?_)
        · refine lv_iload_n hx hb dX0_takeState_78 rfl (lv_at hl 1 rfl) ?_
          refine lv_if_ne (tgt := 90) hx hb dX0_takeState_79 (by decide) (fun c_17 => ?_) (fun c_17 => ?_)
          · refine lv_iconst (v := 0) hx hb dX0_takeState_90 (by decide) ?_
            have hsp : sp_tst u p1 p2 p3 p4 = (0, (upd (upd (upd u 13 (sp_dr u p3)) 2 p1) 3 p3)) := by first | (simp only [sp_tst, sp_go, eq_false c_4, eq_true c_8, eq_false c_15, eq_false c_16, eq_false c_17, if_true, if_false]; done) | (simp [sp_tst, sp_go, c_4, c_8, c_15, c_16, c_17]; done)
            exact W.iret (v := 0) hx hb hr (fun t ht hW => ⟨⟨0, (), rfl, by rw [hsp], us_Bu_of ht hP (by rw [hsp])⟩, hS.F ht⟩) hS.2.2 dX0_takeState_91
          · refine lv_aload_n hx hb dX0_takeState_82 rfl (lv_at hl 0 rfl) ?_
            refine lv_iload_n hx hb dX0_takeState_83 rfl (lv_at hl 2 rfl) ?_
            refine va_calli (va_runV (As := [.int p2]) (rest := []) ⟨hx, hb, hml, hown, htb⟩ (kt_X0_takeStation l dC dI h0 H_14.size (upd (upd (upd u 13 (sp_dr u p3)) 2 p1) 3 p3) p2) (cwV 1 htb (us_gV mw_331 mw_333 mw_12 mw_33 mw_334) rfl rfl rfl (by decide +kernel) ⟨Nat.le_of_ble_eq_true rfl, Nat.le_of_ble_eq_true rfl⟩) ⟨us_Pu_blind, va_recv hK hP (ci := 0) (q0 := 0) rfl rfl, fun U hU hW => ⟨rfl, us_Pu_at hP hK hU hW⟩⟩ rfl rfl hl.1 rfl (lv_room (Nat.le_of_ble_eq_true rfl)) dX0_takeState_84 ⟨Nat.le_of_ble_eq_true rfl, Nat.le_of_ble_eq_true rfl⟩) hS (fun q _ h => (us_Au_le (Or.inl rfl) hS hA) q h) (us_Au_le (Or.inl rfl) hS hA) (fun r_19 _ t_20 H_18 locs ht hvm hw hB hz1 hk1 hS => ?_)
            subst hw
            have hP := us_Bu_use ht hB
            have hD : va_D (us_Au h0 s.heap.size) (us_wu h0 (sp_ts (upd (upd (upd u 13 (sp_dr u p3)) 2 p1) 3 p3) p2).2) := us_D1 (Or.inl rfl)
            refine lv_goto (tgt := 91) hx hb dX0_takeState_87 (by decide) ?_
            have hsp : sp_tst u p1 p2 p3 p4 = ((sp_ts (upd (upd (upd u 13 (sp_dr u p3)) 2 p1) 3 p3) p2).1, (sp_ts (upd (upd (upd u 13 (sp_dr u p3)) 2 p1) 3 p3) p2).2) := by first | (simp only [sp_tst, sp_go, eq_false c_4, eq_true c_8, eq_false c_15, eq_false c_16, eq_true c_17, if_true, if_false]; done) | (simp [sp_tst, sp_go, c_4, c_8, c_15, c_16, c_17]; done)
            exact W.iret (v := (sp_ts (upd (upd (upd u 13 (sp_dr u p3)) 2 p1) 3 p3) p2).1) hx hb hr (fun t ht hW => ⟨⟨(sp_ts (upd (upd (upd u 13 (sp_dr u p3)) 2 p1) 3 p3) p2).1, (), rfl, by rw [hsp], us_Bu_of ht hP (by rw [hsp])⟩, hS.F ht⟩) hS.2.2 dX0_takeState_91
        · refine lv_aload_n hx hb dX0_takeState_67 rfl (lv_at hl 0 rfl) ?_
          refine lv_iload hx hb dX0_takeState_68 (lv_at hl 4 rfl) ?_
          refine us_putU (u := (upd (upd (upd u 13 (sp_dr u p3)) 2 p1) 3 p3)) hx hb htb us_inX0 hown hK hP hD hS 0 rfl 12 (by decide) (htb _ mw_76) dX0_takeState_70 (fun H_21 locs hP hD hS => ?_)
          have hP : va_P (dC, dI) vwCl (us_wu h0 (upd (upd (upd (upd u 13 (sp_dr u p3)) 2 p1) 3 p3) 12 p4)) H_21 := hP
          have hD : va_D (us_Au h0 s.heap.size) (us_wu h0 (upd (upd (upd (upd u 13 (sp_dr u p3)) 2 p1) 3 p3) 12 p4)) := hD
          refine lv_aload_n hx hb dX0_takeState_73 rfl (lv_at hl 0 rfl) ?_
          refine lv_iconst (v := (-1)) hx hb dX0_takeState_74 (by decide) ?_
          refine us_putU (u := (upd (upd (upd (upd u 13 (sp_dr u p3)) 2 p1) 3 p3) 12 p4)) hx hb htb us_inX0 hown hK hP hD hS 0 rfl 11 (by decide) (htb _ mw_74) dX0_takeState_75 (fun H_22 locs hP hD hS => ?_)
          have hP : va_P (dC, dI) vwCl (us_wu h0 (upd (upd (upd (upd (upd u 13 (sp_dr u p3)) 2 p1) 3 p3) 12 p4) 11 (-1))) H_22 := hP
          have hD : va_D (us_Au h0 s.heap.size) (us_wu h0 (upd (upd (upd (upd (upd u 13 (sp_dr u p3)) 2 p1) 3 p3) 12 p4) 11 (-1))) := hD
          refine lv_iload_n hx hb dX0_takeState_78 rfl (lv_at hl 1 rfl) ?_
          refine lv_if_ne (tgt := 90) hx hb dX0_takeState_79 (by decide) (fun c_23 => ?_) (fun c_23 => ?_)
          · refine lv_iconst (v := 0) hx hb dX0_takeState_90 (by decide) ?_
            have hsp : sp_tst u p1 p2 p3 p4 = (0, (upd (upd (upd (upd (upd u 13 (sp_dr u p3)) 2 p1) 3 p3) 12 p4) 11 (-1))) := by first | (simp only [sp_tst, sp_go, eq_false c_4, eq_true c_8, eq_false c_15, eq_true c_16, eq_false c_23, if_true, if_false]; done) | (simp [sp_tst, sp_go, c_4, c_8, c_15, c_16, c_23]; done)
            exact W.iret (v := 0) hx hb hr (fun t ht hW => ⟨⟨0, (), rfl, by rw [hsp], us_Bu_of ht hP (by rw [hsp])⟩, hS.F ht⟩) hS.2.2 dX0_takeState_91
          · exact absurd (c_16.symm.trans c_23) (by decide)
      · refine lv_aload_n hx hb dX0_takeState_57 rfl (lv_at hl 0 rfl) ?_
        refine lv_iload_n hx hb dX0_takeState_58 rfl (lv_at hl 2 rfl) ?_
        refine us_putU (u := (upd (upd (upd u 13 (sp_dr u p3)) 2 p1) 3 p3)) hx hb htb us_inX0 hown hK hP hD hS 0 rfl 5 (by decide) (htb _ mw_63) dX0_takeState_59 (fun H_24 locs hP hD hS => ?_)
        have hP : va_P (dC, dI) vwCl (us_wu h0 (upd (upd (upd (upd u 13 (sp_dr u p3)) 2 p1) 3 p3) 5 p2)) H_24 := hP
        have hD : va_D (us_Au h0 s.heap.size) (us_wu h0 (upd (upd (upd (upd u 13 (sp_dr u p3)) 2 p1) 3 p3) 5 p2)) := hD
        refine lv_iload_n hx hb dX0_takeState_62 rfl (lv_at hl 1 rfl) ?_
        refine lv_iconst (v := 3) hx hb dX0_takeState_63 (by decide) ?_
        refine lv_icmp_ne (tgt := 78) hx hb dX0_takeState_64 (by decide) (fun c_25 => ?_) (fun c_25 => ?_)
        · refine lv_iload_n hx hb dX0_takeState_78 rfl (lv_at hl 1 rfl) ?_
          refine lv_if_ne (tgt := 90) hx hb dX0_takeState_79 (by decide) (fun c_26 => ?_) (fun c_26 => ?_)
          · refine lv_iconst (v := 0) hx hb dX0_takeState_90 (by decide) ?_
            have hsp : sp_tst u p1 p2 p3 p4 = (0, (upd (upd (upd (upd u 13 (sp_dr u p3)) 2 p1) 3 p3) 5 p2)) := by first | (simp only [sp_tst, sp_go, eq_false c_4, eq_true c_8, eq_true c_15, eq_false c_25, eq_false c_26, if_true, if_false]; done) | (simp [sp_tst, sp_go, c_4, c_8, c_15, c_25, c_26]; done)
            exact W.iret (v := 0) hx hb hr (fun t ht hW => ⟨⟨0, (), rfl, by rw [hsp], us_Bu_of ht hP (by rw [hsp])⟩, hS.F ht⟩) hS.2.2 dX0_takeState_91
          · exact absurd (c_15.symm.trans c_26) (by decide)
        · exact absurd (c_15.symm.trans c_25) (by decide)
    · refine lv_aload_n hx hb dX0_takeState_20 rfl (lv_at hl 0 rfl) ?_
      refine us_getU (v := (u 6)) hx hb htb us_inX0 hown hK hP 0 rfl 6 (by decide) (htb _ mw_64) rfl dX0_takeState_21 ?_
      refine lv_aload_n hx hb dX0_takeState_24 rfl (lv_at hl 0 rfl) ?_
      refine us_getU (v := (u 1)) hx hb htb us_inX0 hown hK hP 0 rfl 1 (by decide) (htb _ mw_57) rfl dX0_takeState_25 ?_
      refine lv_icmp_ge (tgt := 33) hx hb dX0_takeState_28 (by decide) (fun c_27 => ?_) (fun c_27 => ?_)
      · refine lv_aload_n hx hb dX0_takeState_33 rfl (lv_at hl 0 rfl) ?_
        refine lv_aload_n hx hb dX0_takeState_34 rfl (lv_at hl 0 rfl) ?_
        refine lv_iload_n hx hb dX0_takeState_35 rfl (lv_at hl 3 rfl) ?_
        refine va_calli (va_runV (As := [.int p3]) (rest := [.ref h0]) ⟨hx, hb, hml, hown, htb⟩ (kt_X0_drivenUpTo l dC dI h0 H_5.size u p3) (cwV 1 htb (us_gV mw_323 mw_325 mw_10 mw_33 mw_326) rfl rfl rfl (by decide +kernel) ⟨Nat.le_of_ble_eq_true rfl, Nat.le_of_ble_eq_true rfl⟩) ⟨us_Pu_blind, va_recv hK hP (ci := 0) (q0 := 0) rfl rfl, fun U hU hW => ⟨rfl, us_Pu_at hP hK hU hW⟩⟩ rfl rfl hl.1 rfl (lv_room (Nat.le_of_ble_eq_true rfl)) dX0_takeState_36 ⟨Nat.le_of_ble_eq_true rfl, Nat.le_of_ble_eq_true rfl⟩) hS (fun q h1 h2 => absurd h2 (Nat.not_le.mpr h1)) (fun q h => hA q (Nat.le_trans hS.1 h)) (fun r_29 _ t_30 H_28 locs ht hvm hw hB hz1 hk1 hS => ?_)
        subst hw
        have hP := us_mono hP (fun q h => hk1 q h (Nat.not_le.mpr h))
        refine us_putU (u := u) hx hb htb us_inX0 hown hK hP hD hS 0 rfl 13 (by decide) (htb _ mw_78) dX0_takeState_39 (fun H_31 locs hP hD hS => ?_)
        have hP : va_P (dC, dI) vwCl (us_wu h0 (upd u 13 (sp_dr u p3))) H_31 := hP
        have hD : va_D (us_Au h0 s.heap.size) (us_wu h0 (upd u 13 (sp_dr u p3))) := hD
        refine lv_aload_n hx hb dX0_takeState_42 rfl (lv_at hl 0 rfl) ?_
        refine lv_iload_n hx hb dX0_takeState_43 rfl (lv_at hl 1 rfl) ?_
        refine us_putU (u := (upd u 13 (sp_dr u p3))) hx hb htb us_inX0 hown hK hP hD hS 0 rfl 2 (by decide) (htb _ mw_58) dX0_takeState_44 (fun H_32 locs hP hD hS => ?_)
        have hP : va_P (dC, dI) vwCl (us_wu h0 (upd (upd u 13 (sp_dr u p3)) 2 p1)) H_32 := hP
        have hD : va_D (us_Au h0 s.heap.size) (us_wu h0 (upd (upd u 13 (sp_dr u p3)) 2 p1)) := hD
        refine lv_aload_n hx hb dX0_takeState_47 rfl (lv_at hl 0 rfl) ?_
        refine lv_iload_n hx hb dX0_takeState_48 rfl (lv_at hl 3 rfl) ?_
        refine us_putU (u := (upd (upd u 13 (sp_dr u p3)) 2 p1)) hx hb htb us_inX0 hown hK hP hD hS 0 rfl 3 (by decide) (htb _ mw_60) dX0_takeState_49 (fun H_33 locs hP hD hS => ?_)
        have hP : va_P (dC, dI) vwCl (us_wu h0 (upd (upd (upd u 13 (sp_dr u p3)) 2 p1) 3 p3)) H_33 := hP
        have hD : va_D (us_Au h0 s.heap.size) (us_wu h0 (upd (upd (upd u 13 (sp_dr u p3)) 2 p1) 3 p3)) := hD
        refine lv_iload_n hx hb dX0_takeState_52 rfl (lv_at hl 1 rfl) ?_
        refine lv_iconst (v := 1) hx hb dX0_takeState_53 (by decide) ?_
        refine lv_icmp_ne (tgt := 62) hx hb dX0_takeState_54 (by decide) (fun c_34 => ?_) (fun c_34 => ?_)
        · refine lv_iload_n hx hb dX0_takeState_62 rfl (lv_at hl 1 rfl) ?_
          refine lv_iconst (v := 3) hx hb dX0_takeState_63 (by decide) ?_
          refine lv_icmp_ne (tgt := 78) hx hb dX0_takeState_64 (by decide) (fun c_35 => ?_) (fun c_35 => ?_)
          · refine lv_iload_n hx hb dX0_takeState_78 rfl (lv_at hl 1 rfl) ?_
            refine lv_if_ne (tgt := 90) hx hb dX0_takeState_79 (by decide) (fun c_36 => ?_) (fun c_36 => ?_)
            · refine lv_iconst (v := 0) hx hb dX0_takeState_90 (by decide) ?_
              have hsp : sp_tst u p1 p2 p3 p4 = (0, (upd (upd (upd u 13 (sp_dr u p3)) 2 p1) 3 p3)) := by first | (simp only [sp_tst, sp_go, eq_false c_4, eq_false c_8, eq_true c_27, eq_false c_34, eq_false c_35, eq_false c_36, if_true, if_false]; done) | (simp [sp_tst, sp_go, c_4, c_8, c_27, c_34, c_35, c_36]; done)
              exact W.iret (v := 0) hx hb hr (fun t ht hW => ⟨⟨0, (), rfl, by rw [hsp], us_Bu_of ht hP (by rw [hsp])⟩, hS.F ht⟩) hS.2.2 dX0_takeState_91
            · refine lv_aload_n hx hb dX0_takeState_82 rfl (lv_at hl 0 rfl) ?_
              refine lv_iload_n hx hb dX0_takeState_83 rfl (lv_at hl 2 rfl) ?_
              refine va_calli (va_runV (As := [.int p2]) (rest := []) ⟨hx, hb, hml, hown, htb⟩ (kt_X0_takeStation l dC dI h0 H_33.size (upd (upd (upd u 13 (sp_dr u p3)) 2 p1) 3 p3) p2) (cwV 1 htb (us_gV mw_331 mw_333 mw_12 mw_33 mw_334) rfl rfl rfl (by decide +kernel) ⟨Nat.le_of_ble_eq_true rfl, Nat.le_of_ble_eq_true rfl⟩) ⟨us_Pu_blind, va_recv hK hP (ci := 0) (q0 := 0) rfl rfl, fun U hU hW => ⟨rfl, us_Pu_at hP hK hU hW⟩⟩ rfl rfl hl.1 rfl (lv_room (Nat.le_of_ble_eq_true rfl)) dX0_takeState_84 ⟨Nat.le_of_ble_eq_true rfl, Nat.le_of_ble_eq_true rfl⟩) hS (fun q _ h => (us_Au_le (Or.inl rfl) hS hA) q h) (us_Au_le (Or.inl rfl) hS hA) (fun r_38 _ t_39 H_37 locs ht hvm hw hB hz1 hk1 hS => ?_)
              subst hw
              have hP := us_Bu_use ht hB
              have hD : va_D (us_Au h0 s.heap.size) (us_wu h0 (sp_ts (upd (upd (upd u 13 (sp_dr u p3)) 2 p1) 3 p3) p2).2) := us_D1 (Or.inl rfl)
              refine lv_goto (tgt := 91) hx hb dX0_takeState_87 (by decide) ?_
              have hsp : sp_tst u p1 p2 p3 p4 = ((sp_ts (upd (upd (upd u 13 (sp_dr u p3)) 2 p1) 3 p3) p2).1, (sp_ts (upd (upd (upd u 13 (sp_dr u p3)) 2 p1) 3 p3) p2).2) := by first | (simp only [sp_tst, sp_go, eq_false c_4, eq_false c_8, eq_true c_27, eq_false c_34, eq_false c_35, eq_true c_36, if_true, if_false]; done) | (simp [sp_tst, sp_go, c_4, c_8, c_27, c_34, c_35, c_36]; done)
              exact W.iret (v := (sp_ts (upd (upd (upd u 13 (sp_dr u p3)) 2 p1) 3 p3) p2).1) hx hb hr (fun t ht hW => ⟨⟨(sp_ts (upd (upd (upd u 13 (sp_dr u p3)) 2 p1) 3 p3) p2).1, (), rfl, by rw [hsp], us_Bu_of ht hP (by rw [hsp])⟩, hS.F ht⟩) hS.2.2 dX0_takeState_91
          · refine lv_aload_n hx hb dX0_takeState_67 rfl (lv_at hl 0 rfl) ?_
            refine lv_iload hx hb dX0_takeState_68 (lv_at hl 4 rfl) ?_
            refine us_putU (u := (upd (upd (upd u 13 (sp_dr u p3)) 2 p1) 3 p3)) hx hb htb us_inX0 hown hK hP hD hS 0 rfl 12 (by decide) (htb _ mw_76) dX0_takeState_70 (fun H_40 locs hP hD hS => ?_)
            have hP : va_P (dC, dI) vwCl (us_wu h0 (upd (upd (upd (upd u 13 (sp_dr u p3)) 2 p1) 3 p3) 12 p4)) H_40 := hP
            have hD : va_D (us_Au h0 s.heap.size) (us_wu h0 (upd (upd (upd (upd u 13 (sp_dr u p3)) 2 p1) 3 p3) 12 p4)) := hD
            refine lv_aload_n hx hb dX0_takeState_73 rfl (lv_at hl 0 rfl) ?_
            refine lv_iconst (v := (-1)) hx hb dX0_takeState_74 (by decide) ?_
            refine us_putU (u := (upd (upd (upd (upd u 13 (sp_dr u p3)) 2 p1) 3 p3) 12 p4)) hx hb htb us_inX0 hown hK hP hD hS 0 rfl 11 (by decide) (htb _ mw_74) dX0_takeState_75 (fun H_41 locs hP hD hS => ?_)
            have hP : va_P (dC, dI) vwCl (us_wu h0 (upd (upd (upd (upd (upd u 13 (sp_dr u p3)) 2 p1) 3 p3) 12 p4) 11 (-1))) H_41 := hP
            have hD : va_D (us_Au h0 s.heap.size) (us_wu h0 (upd (upd (upd (upd (upd u 13 (sp_dr u p3)) 2 p1) 3 p3) 12 p4) 11 (-1))) := hD
            refine lv_iload_n hx hb dX0_takeState_78 rfl (lv_at hl 1 rfl) ?_
            refine lv_if_ne (tgt := 90) hx hb dX0_takeState_79 (by decide) (fun c_42 => ?_) (fun c_42 => ?_)
            · refine lv_iconst (v := 0) hx hb dX0_takeState_90 (by decide) ?_
              have hsp : sp_tst u p1 p2 p3 p4 = (0, (upd (upd (upd (upd (upd u 13 (sp_dr u p3)) 2 p1) 3 p3) 12 p4) 11 (-1))) := by first | (simp only [sp_tst, sp_go, eq_false c_4, eq_false c_8, eq_true c_27, eq_false c_34, eq_true c_35, eq_false c_42, if_true, if_false]; done) | (simp [sp_tst, sp_go, c_4, c_8, c_27, c_34, c_35, c_42]; done)
              exact W.iret (v := 0) hx hb hr (fun t ht hW => ⟨⟨0, (), rfl, by rw [hsp], us_Bu_of ht hP (by rw [hsp])⟩, hS.F ht⟩) hS.2.2 dX0_takeState_91
            · exact absurd (c_35.symm.trans c_42) (by decide)
        · refine lv_aload_n hx hb dX0_takeState_57 rfl (lv_at hl 0 rfl) ?_
          refine lv_iload_n hx hb dX0_takeState_58 rfl (lv_at hl 2 rfl) ?_
          refine us_putU (u := (upd (upd (upd u 13 (sp_dr u p3)) 2 p1) 3 p3)) hx hb htb us_inX0 hown hK hP hD hS 0 rfl 5 (by decide) (htb _ mw_63) dX0_takeState_59 (fun H_43 locs hP hD hS => ?_)
          have hP : va_P (dC, dI) vwCl (us_wu h0 (upd (upd (upd (upd u 13 (sp_dr u p3)) 2 p1) 3 p3) 5 p2)) H_43 := hP
          have hD : va_D (us_Au h0 s.heap.size) (us_wu h0 (upd (upd (upd (upd u 13 (sp_dr u p3)) 2 p1) 3 p3) 5 p2)) := hD
          refine lv_iload_n hx hb dX0_takeState_62 rfl (lv_at hl 1 rfl) ?_
          refine lv_iconst (v := 3) hx hb dX0_takeState_63 (by decide) ?_
          refine lv_icmp_ne (tgt := 78) hx hb dX0_takeState_64 (by decide) (fun c_44 => ?_) (fun c_44 => ?_)
          · refine lv_iload_n hx hb dX0_takeState_78 rfl (lv_at hl 1 rfl) ?_
            refine lv_if_ne (tgt := 90) hx hb dX0_takeState_79 (by decide) (fun c_45 => ?_) (fun c_45 => ?_)
            · refine lv_iconst (v := 0) hx hb dX0_takeState_90 (by decide) ?_
              have hsp : sp_tst u p1 p2 p3 p4 = (0, (upd (upd (upd (upd u 13 (sp_dr u p3)) 2 p1) 3 p3) 5 p2)) := by first | (simp only [sp_tst, sp_go, eq_false c_4, eq_false c_8, eq_true c_27, eq_true c_34, eq_false c_44, eq_false c_45, if_true, if_false]; done) | (simp [sp_tst, sp_go, c_4, c_8, c_27, c_34, c_44, c_45]; done)
              exact W.iret (v := 0) hx hb hr (fun t ht hW => ⟨⟨0, (), rfl, by rw [hsp], us_Bu_of ht hP (by rw [hsp])⟩, hS.F ht⟩) hS.2.2 dX0_takeState_91
            · exact absurd (c_34.symm.trans c_45) (by decide)
          · exact absurd (c_34.symm.trans c_44) (by decide)
      · refine lv_iconst (v := 2) hx hb dX0_takeState_31 (by decide) ?_
        have hsp : sp_tst u p1 p2 p3 p4 = (2, u) := by first | (simp only [sp_tst, sp_go, eq_false c_4, eq_false c_8, eq_false c_27, if_true, if_false]; done) | (simp [sp_tst, sp_go, c_4, c_8, c_27]; done)
        exact W.iret (v := 2) hx hb hr (fun t ht hW => ⟨⟨2, (), rfl, by rw [hsp], us_Bu_of ht hP (by rw [hsp])⟩, hS.F ht⟩) hS.2.2 dX0_takeState_32
  · refine lv_iconst (v := 1) hx hb dX0_takeState_11 (by decide) ?_
    have hsp : sp_tst u p1 p2 p3 p4 = (1, u) := by first | (simp only [sp_tst, sp_go, eq_true c_4, if_true, if_false]; done) | (simp [sp_tst, sp_go, c_4]; done)
    exact W.iret (v := 1) hx hb hr (fun t ht hW => ⟨⟨1, (), rfl, by rw [hsp], us_Bu_of ht hP (by rw [hsp])⟩, hS.F ht⟩) hS.2.2 dX0_takeState_12
set_option maxHeartbeats 4000000 in
set_option maxRecDepth 100000 in
theorem kt_X0_take (l : Launch) (dC : Nat → ClassId) (dI : Nat → Nat → Nat) (h0 : Nat) (sz : Nat) (u : Nat → Int32) (p1 p2 p3 p4 : Int32) : Met l yX0_take wsX0_take ({ frames := 3, cells := 0, slots := 0, locals := 66 }) (va_Pc [.ref h0, .int p1, .int p2, .int p3, .int p4] (us_Pu dC dI h0 u sz)) (va_Qi (fun r (_ : Unit) => r = (sp_take u p1 p2 p3 p4).1) (fun _ t => us_Bu dC dI h0 (sp_take u p1 p2 p3 p4).2 t) (us_Au h0 sz)) 0 0 (us_Au h0 sz) := by
  refine Met.ofW (cc := cX0_take) (maxL := 5) (ret := (some .int)) (by decide) rfl ?_
  intro p e s m args below meth c s₁ B hml hv
  obtain ⟨rfl, hsz, hP, hK⟩ := hv
  have hx := B.exec
  have hb := B.bytes
  have hr := B.returns
  have htb := us_htb (atoms_spec (ws := wsX0_take) B.pre)
  have hown : s.vm.findClass RX0 = some m.cls := findClass_of_methodNamed B.named
  have hlocks := B.notSynchronized
  subst hsz
  have hA : ∀ q : Nat, s.heap.size ≤ q → us_Au h0 s.heap.size q := fun q h => Or.inr h
  have hD : va_D (us_Au h0 s.heap.size) (us_wu h0 u) := us_D1 (Or.inl rfl)
  have hS : va_S (us_Au h0 s.heap.size) s.heap s.heap [] := va_S.rf
  have hP : va_P (dC, dI) vwCl (us_wu h0 u) s.heap := hP
  have hl := lv_entry ([.ref h0, .int p1, .int p2, .int p3, .int p4]) (n := 5) (Nat.le_of_ble_eq_true rfl)
  rw [lg_entry_eq]
  generalize (lg_sl ([.ref h0, .int p1, .int p2, .int p3, .int p4]) ++ List.replicate (5 - (lg_sl ([.ref h0, .int p1, .int p2, .int p3, .int p4])).length) Slot.unset).toArray = ls at hl ⊢
  have hl : lv_has ls 5 [(0, .ref h0), (1, .int p1), (2, .int p2), (3, .int p3), (4, .int p4)] := hl
  refine lv_iload_n hx hb dX0_take_0 rfl (lv_at hl 1 rfl) ?_
  by_cases k_1 : p1 = 11
  · refine lv_tableIn (tgt := 36) hx hb dX0_take_1 (by rw [k_1]; decide) (by rw [k_1]; decide) (by rw [k_1]; rfl) (by decide) ?_
    refine lv_aload_n hx hb dX0_take_36 rfl (lv_at hl 0 rfl) ?_
    refine lv_iload_n hx hb dX0_take_37 rfl (lv_at hl 2 rfl) ?_
    refine lv_iload_n hx hb dX0_take_38 rfl (lv_at hl 3 rfl) ?_
    refine va_calli (va_runV (As := [.int p2, .int p3]) (rest := []) ⟨hx, hb, hml, hown, htb⟩ (kt_X0_takePlace l dC dI h0 s.heap.size u p2 p3) (cwV 2 htb (us_gV mw_309 mw_311 mw_8 mw_33 mw_312) rfl rfl rfl (by decide +kernel) ⟨Nat.le_of_ble_eq_true rfl, Nat.le_of_ble_eq_true rfl⟩) ⟨us_Pu_blind, va_recv hK hP (ci := 0) (q0 := 0) rfl rfl, fun U hU hW => ⟨rfl, us_Pu_at hP hK hU hW⟩⟩ rfl rfl hl.1 rfl (lv_room (Nat.le_of_ble_eq_true rfl)) dX0_take_39 ⟨Nat.le_of_ble_eq_true rfl, Nat.le_of_ble_eq_true rfl⟩) hS (fun q _ h => (us_Au_le (Or.inl rfl) hS hA) q h) (us_Au_le (Or.inl rfl) hS hA) (fun r_3 _ t_4 H_2 locs ht hvm hw hB hz1 hk1 hS => ?_)
    subst hw
    have hP := us_Bu_use ht hB
    have hD : va_D (us_Au h0 s.heap.size) (us_wu h0 (sp_tp u p2 p3).2) := us_D1 (Or.inl rfl)
    have hsp : sp_take u p1 p2 p3 p4 = ((sp_tp u p2 p3).1, (sp_tp u p2 p3).2) := by first | (simp only [sp_take, eq_true k_1, if_true, if_false]; done) | (simp [sp_take, k_1]; done)
    exact W.iret (v := (sp_tp u p2 p3).1) hx hb hr (fun t ht hW => ⟨⟨(sp_tp u p2 p3).1, (), rfl, by rw [hsp], us_Bu_of ht hP (by rw [hsp])⟩, hS.F ht⟩) hS.2.2 dX0_take_42
  by_cases k_5 : p1 = 12
  · refine lv_tableIn (tgt := 43) hx hb dX0_take_1 (by rw [k_5]; decide) (by rw [k_5]; decide) (by rw [k_5]; rfl) (by decide) ?_
    refine lv_aload_n hx hb dX0_take_43 rfl (lv_at hl 0 rfl) ?_
    refine lv_iload_n hx hb dX0_take_44 rfl (lv_at hl 2 rfl) ?_
    refine us_putU (u := u) hx hb htb us_inX0 hown hK hP hD hS 0 rfl 6 (by decide) (htb _ mw_64) dX0_take_45 (fun H_6 locs hP hD hS => ?_)
    have hP : va_P (dC, dI) vwCl (us_wu h0 (upd u 6 p2)) H_6 := hP
    have hD : va_D (us_Au h0 s.heap.size) (us_wu h0 (upd u 6 p2)) := hD
    refine lv_iconst (v := 0) hx hb dX0_take_48 (by decide) ?_
    have hsp : sp_take u p1 p2 p3 p4 = (0, (upd u 6 p2)) := by first | (simp only [sp_take, eq_true k_5, if_true, if_false]; done) | (simp [sp_take, k_5]; done)
    exact W.iret (v := 0) hx hb hr (fun t ht hW => ⟨⟨0, (), rfl, by rw [hsp], us_Bu_of ht hP (by rw [hsp])⟩, hS.F ht⟩) hS.2.2 dX0_take_49
  by_cases k_7 : p1 = 13
  · refine lv_tableIn (tgt := 50) hx hb dX0_take_1 (by rw [k_7]; decide) (by rw [k_7]; decide) (by rw [k_7]; rfl) (by decide) ?_
    refine lv_aload_n hx hb dX0_take_50 rfl (lv_at hl 0 rfl) ?_
    refine lv_iload_n hx hb dX0_take_51 rfl (lv_at hl 2 rfl) ?_
    refine us_putU (u := u) hx hb htb us_inX0 hown hK hP hD hS 0 rfl 7 (by decide) (htb _ mw_66) dX0_take_52 (fun H_8 locs hP hD hS => ?_)
    have hP : va_P (dC, dI) vwCl (us_wu h0 (upd u 7 p2)) H_8 := hP
    have hD : va_D (us_Au h0 s.heap.size) (us_wu h0 (upd u 7 p2)) := hD
    refine lv_iconst (v := 0) hx hb dX0_take_55 (by decide) ?_
    have hsp : sp_take u p1 p2 p3 p4 = (0, (upd u 7 p2)) := by first | (simp only [sp_take, eq_true k_7, if_true, if_false]; done) | (simp [sp_take, k_7]; done)
    exact W.iret (v := 0) hx hb hr (fun t ht hW => ⟨⟨0, (), rfl, by rw [hsp], us_Bu_of ht hP (by rw [hsp])⟩, hS.F ht⟩) hS.2.2 dX0_take_56
  by_cases k_9 : p1 = 14
  · refine lv_tableIn (tgt := 57) hx hb dX0_take_1 (by rw [k_9]; decide) (by rw [k_9]; decide) (by rw [k_9]; rfl) (by decide) ?_
    refine lv_aload_n hx hb dX0_take_57 rfl (lv_at hl 0 rfl) ?_
    refine lv_iload_n hx hb dX0_take_58 rfl (lv_at hl 2 rfl) ?_
    refine us_putU (u := u) hx hb htb us_inX0 hown hK hP hD hS 0 rfl 8 (by decide) (htb _ mw_68) dX0_take_59 (fun H_10 locs hP hD hS => ?_)
    have hP : va_P (dC, dI) vwCl (us_wu h0 (upd u 8 p2)) H_10 := hP
    have hD : va_D (us_Au h0 s.heap.size) (us_wu h0 (upd u 8 p2)) := hD
    refine lv_iconst (v := 0) hx hb dX0_take_62 (by decide) ?_
    have hsp : sp_take u p1 p2 p3 p4 = (0, (upd u 8 p2)) := by first | (simp only [sp_take, eq_true k_9, if_true, if_false]; done) | (simp [sp_take, k_9]; done)
    exact W.iret (v := 0) hx hb hr (fun t ht hW => ⟨⟨0, (), rfl, by rw [hsp], us_Bu_of ht hP (by rw [hsp])⟩, hS.F ht⟩) hS.2.2 dX0_take_63
  by_cases k_11 : p1 = 15
  · refine lv_tableIn (tgt := 64) hx hb dX0_take_1 (by rw [k_11]; decide) (by rw [k_11]; decide) (by rw [k_11]; rfl) (by decide) ?_
    refine lv_aload_n hx hb dX0_take_64 rfl (lv_at hl 0 rfl) ?_
    refine lv_iload_n hx hb dX0_take_65 rfl (lv_at hl 3 rfl) ?_
    refine lv_iload_n hx hb dX0_take_66 rfl (lv_at hl 2 rfl) ?_
    refine lv_iadd hx hb dX0_take_67 ?_
    refine us_putU (u := u) hx hb htb us_inX0 hown hK hP hD hS 0 rfl 11 (by decide) (htb _ mw_74) dX0_take_68 (fun H_12 locs hP hD hS => ?_)
    have hP : va_P (dC, dI) vwCl (us_wu h0 (upd u 11 (p3 + p2))) H_12 := hP
    have hD : va_D (us_Au h0 s.heap.size) (us_wu h0 (upd u 11 (p3 + p2))) := hD
    refine lv_iconst (v := 0) hx hb dX0_take_71 (by decide) ?_
    have hsp : sp_take u p1 p2 p3 p4 = (0, (upd u 11 (p3 + p2))) := by first | (simp only [sp_take, eq_true k_11, if_true, if_false]; done) | (simp [sp_take, k_11]; done)
    exact W.iret (v := 0) hx hb hr (fun t ht hW => ⟨⟨0, (), rfl, by rw [hsp], us_Bu_of ht hP (by rw [hsp])⟩, hS.F ht⟩) hS.2.2 dX0_take_72
  have hout_1 : p1.toInt < 11 ∨ 15 < p1.toInt := us_sw (lo := 11) (hi := 15) (fun z h1 h2 => by
    rcases (show z = 11 ∨ z = 12 ∨ z = 13 ∨ z = 14 ∨ z = 15 by omega) with rfl | rfl | rfl | rfl | rfl
    · exact fun e => k_1 (e.trans (by decide))
    · exact fun e => k_5 (e.trans (by decide))
    · exact fun e => k_7 (e.trans (by decide))
    · exact fun e => k_9 (e.trans (by decide))
    · exact fun e => k_11 (e.trans (by decide)))
  refine lv_tableOut (tgt := 73) hx hb dX0_take_1 hout_1 (by decide) ?_
  refine lv_aload_n hx hb dX0_take_73 rfl (lv_at hl 0 rfl) ?_
  refine lv_iload_n hx hb dX0_take_74 rfl (lv_at hl 1 rfl) ?_
  refine lv_iload_n hx hb dX0_take_75 rfl (lv_at hl 2 rfl) ?_
  refine lv_iload_n hx hb dX0_take_76 rfl (lv_at hl 3 rfl) ?_
  refine lv_iload hx hb dX0_take_77 (lv_at hl 4 rfl) ?_
  refine va_calli (va_runV (As := [.int p1, .int p2, .int p3, .int p4]) (rest := []) ⟨hx, hb, hml, hown, htb⟩ (kt_X0_takeState l dC dI h0 s.heap.size u p1 p2 p3 p4) (cwV 4 htb (us_gV mw_313 mw_315 mw_9 mw_33 mw_316) rfl rfl rfl (by decide +kernel) ⟨Nat.le_of_ble_eq_true rfl, Nat.le_of_ble_eq_true rfl⟩) ⟨us_Pu_blind, va_recv hK hP (ci := 0) (q0 := 0) rfl rfl, fun U hU hW => ⟨rfl, us_Pu_at hP hK hU hW⟩⟩ rfl rfl hl.1 rfl (lv_room (Nat.le_of_ble_eq_true rfl)) dX0_take_79 ⟨Nat.le_of_ble_eq_true rfl, Nat.le_of_ble_eq_true rfl⟩) hS (fun q _ h => (us_Au_le (Or.inl rfl) hS hA) q h) (us_Au_le (Or.inl rfl) hS hA) (fun r_14 _ t_15 H_13 locs ht hvm hw hB hz1 hk1 hS => ?_)
  subst hw
  have hP := us_Bu_use ht hB
  have hD : va_D (us_Au h0 s.heap.size) (us_wu h0 (sp_tst u p1 p2 p3 p4).2) := us_D1 (Or.inl rfl)
  have hsp : sp_take u p1 p2 p3 p4 = ((sp_tst u p1 p2 p3 p4).1, (sp_tst u p1 p2 p3 p4).2) := by first | (simp only [sp_take, eq_false k_1, eq_false k_5, eq_false k_7, eq_false k_9, eq_false k_11, if_true, if_false]; done) | (simp [sp_take, k_1, k_5, k_7, k_9, k_11]; done)
  exact W.iret (v := (sp_tst u p1 p2 p3 p4).1) hx hb hr (fun t ht hW => ⟨⟨(sp_tst u p1 p2 p3 p4).1, (), rfl, by rw [hsp], us_Bu_of ht hP (by rw [hsp])⟩, hS.F ht⟩) hS.2.2 dX0_take_82
