set_option maxHeartbeats 8000000 in
set_option maxRecDepth 100000 in
theorem kt_X1_isWithin (l : Launch) (sz : Nat) (p1 : Int32) (p2 : Int32) : Met l yX1_isWithin wsX1_isWithin ({ frames := 0, cells := 0, slots := 0, locals := 0 }) (va_Pc [.int p1, .int p2] (fun S => S.heap.size = sz)) (va_Qi (fun r (_ : Unit) => True ∧ r = sp_in p1 p2) (fun _ _ => True) (us_new sz)) 0 0 (us_new sz) := by
  refine Met.ofW (cc := cX1_isWithin) (maxL := 2) (ret := (some .boolean)) (by decide) rfl ?_
  intro p e s m args below meth c s₁ B hml hv
  obtain ⟨rfl, hsz⟩ := hv
  have hx := B.exec
  have hb := B.bytes
  have hr := B.returns
  have htb := us_htb (atoms_spec (ws := wsX1_isWithin) B.pre)
  have hown : s.vm.findClass RX1 = some m.cls := findClass_of_methodNamed B.named
  have hlocks := B.notSynchronized
  subst hsz
  have hA : ∀ q : Nat, s.heap.size ≤ q → (us_new s.heap.size) q := fun q h => h
  have hS : va_S (us_new s.heap.size) s.heap s.heap [] := va_S.rf
  have hl := lv_entry ([.int p1, .int p2]) (n := 2) (Nat.le_of_ble_eq_true rfl)
  rw [lg_entry_eq]
  generalize (lg_sl ([.int p1, .int p2]) ++ List.replicate (2 - (lg_sl ([.int p1, .int p2])).length) Slot.unset).toArray = ls at hl ⊢
  have hl : lv_has ls 2 [(0, .int p1), (1, .int p2)] := hl
  refine lv_iload_n hx hb dX1_isWithin_0 rfl (lv_at hl 0 rfl) ?_
  refine lv_if_lt (tgt := 13) hx hb dX1_isWithin_1 (by decide) (fun c_1 => ?_) (fun c_1 => ?_)
  · refine lv_iconst (v := 0) hx hb dX1_isWithin_13 (by decide) ?_
    have hsp : 0 = sp_in p1 p2 := by first | (simp only [sp_in, eq_true c_1, if_true, if_false]; done) | (simp [sp_in, c_1]; done)
    exact ((W.zret (v := 0) hx hb hr (us_nz (by decide)) (fun t ht hW => ⟨⟨0, (), rfl, ⟨trivial, hsp⟩, trivial⟩, hS.F ht⟩) hS.2.2 dX1_isWithin_14))
  · refine lv_iload_n hx hb dX1_isWithin_4 rfl (lv_at hl 0 rfl) ?_
    refine lv_iload_n hx hb dX1_isWithin_5 rfl (lv_at hl 1 rfl) ?_
    refine lv_icmp_gt (tgt := 13) hx hb dX1_isWithin_6 (by decide) (fun c_2 => ?_) (fun c_2 => ?_)
    · refine lv_iconst (v := 0) hx hb dX1_isWithin_13 (by decide) ?_
      have hsp : 0 = sp_in p1 p2 := by first | (simp only [sp_in, eq_false c_1, eq_true c_2, if_true, if_false]; done) | (simp [sp_in, c_1, c_2]; done)
      exact ((W.zret (v := 0) hx hb hr (us_nz (by decide)) (fun t ht hW => ⟨⟨0, (), rfl, ⟨trivial, hsp⟩, trivial⟩, hS.F ht⟩) hS.2.2 dX1_isWithin_14))
    · refine lv_iconst (v := 1) hx hb dX1_isWithin_9 (by decide) ?_
      refine lv_goto (tgt := 14) hx hb dX1_isWithin_10 (by decide) ?_
      have hsp : 1 = sp_in p1 p2 := by first | (simp only [sp_in, eq_false c_1, eq_false c_2, if_true, if_false]; done) | (simp [sp_in, c_1, c_2]; done)
      exact ((W.zret (v := 1) hx hb hr (us_nz (by decide)) (fun t ht hW => ⟨⟨1, (), rfl, ⟨trivial, hsp⟩, trivial⟩, hS.F ht⟩) hS.2.2 dX1_isWithin_14))
set_option maxHeartbeats 8000000 in
set_option maxRecDepth 100000 in
theorem kt_X1_isValueOf (l : Launch) (sz : Nat) (p1 : Int32) (p2 : Int32) : Met l yX1_isValueOf wsX1_isValueOf ({ frames := 1, cells := 0, slots := 0, locals := 21 }) (va_Pc [.int p1, .int p2] (fun S => S.heap.size = sz)) (va_Qi (fun r (_ : Unit) => True ∧ r = sp_val p1 p2) (fun _ _ => True) (us_new sz)) 0 0 (us_new sz) := by
  refine Met.ofW (cc := cX1_isValueOf) (maxL := 2) (ret := (some .boolean)) (by decide) rfl ?_
  intro p e s m args below meth c s₁ B hml hv
  obtain ⟨rfl, hsz⟩ := hv
  have hx := B.exec
  have hb := B.bytes
  have hr := B.returns
  have htb := us_htb (atoms_spec (ws := wsX1_isValueOf) B.pre)
  have hown : s.vm.findClass RX1 = some m.cls := findClass_of_methodNamed B.named
  have hlocks := B.notSynchronized
  subst hsz
  have hA : ∀ q : Nat, s.heap.size ≤ q → (us_new s.heap.size) q := fun q h => h
  have hS : va_S (us_new s.heap.size) s.heap s.heap [] := va_S.rf
  have hl := lv_entry ([.int p1, .int p2]) (n := 2) (Nat.le_of_ble_eq_true rfl)
  rw [lg_entry_eq]
  generalize (lg_sl ([.int p1, .int p2]) ++ List.replicate (2 - (lg_sl ([.int p1, .int p2])).length) Slot.unset).toArray = ls at hl ⊢
  have hl : lv_has ls 2 [(0, .int p1), (1, .int p2)] := hl
  refine lv_iload_n hx hb dX1_isValueOf_0 rfl (lv_at hl 0 rfl) ?_
  by_cases k_1 : p1 = 0
  · refine lv_tableIn (tgt := 80) hx hb dX1_isValueOf_1 (by rw [k_1]; decide) (by rw [k_1]; decide) (by rw [k_1]; rfl) (by decide) ?_
    refine lv_iload_n hx hb dX1_isValueOf_80 rfl (lv_at hl 1 rfl) ?_
    refine lv_bipush (v := 9) hx hb dX1_isValueOf_81 (by decide) ?_
    refine va_calli (va_runS (As := [.int p2, .int 9]) (rest := []) ⟨hx, hb, hml, hown, htb⟩ (kt_X1_isWithin l s.heap.size p2 9) (cwS 2 htb (us_gS mw_149 mw_150 mw_32 mw_151) rfl rfl rfl (by decide +kernel) ⟨Nat.le_of_ble_eq_true rfl, Nat.le_of_ble_eq_true rfl⟩) ⟨us_blind0, fun U hU _ => ⟨rfl, congrArg Array.size hU⟩⟩ rfl rfl hl.1 rfl (lv_room (Nat.le_of_ble_eq_true rfl)) dX1_isValueOf_83 ⟨Nat.le_of_ble_eq_true rfl, Nat.le_of_ble_eq_true rfl⟩) hS (fun q h1 h2 => absurd h2 (Nat.not_le.mpr h1)) (fun q h => hA q (Nat.le_trans hS.1 h)) (fun r_3 _ t_4 H_2 locs ht hvm hw hB hz1 hk1 hS => ?_)
    obtain ⟨-, hw⟩ := hw
    subst hw
    have hsp : (sp_in p2 9) = sp_val p1 p2 := by first | (simp only [sp_val, eq_true k_1, if_true, if_false]; done) | (simp [sp_val, k_1]; done)
    exact ((W.zret (v := (sp_in p2 9)) hx hb hr (us_nz (sp_in_01 _ _)) (fun t ht hW => ⟨⟨(sp_in p2 9), (), rfl, ⟨trivial, hsp⟩, trivial⟩, hS.F ht⟩) hS.2.2 dX1_isValueOf_86))
  by_cases k_5 : p1 = 1
  · refine lv_tableIn (tgt := 87) hx hb dX1_isValueOf_1 (by rw [k_5]; decide) (by rw [k_5]; decide) (by rw [k_5]; rfl) (by decide) ?_
    refine lv_iload_n hx hb dX1_isValueOf_87 rfl (lv_at hl 1 rfl) ?_
    refine lv_bipush (v := 19) hx hb dX1_isValueOf_88 (by decide) ?_
    refine va_calli (va_runS (As := [.int p2, .int 19]) (rest := []) ⟨hx, hb, hml, hown, htb⟩ (kt_X1_isWithin l s.heap.size p2 19) (cwS 2 htb (us_gS mw_149 mw_150 mw_32 mw_151) rfl rfl rfl (by decide +kernel) ⟨Nat.le_of_ble_eq_true rfl, Nat.le_of_ble_eq_true rfl⟩) ⟨us_blind0, fun U hU _ => ⟨rfl, congrArg Array.size hU⟩⟩ rfl rfl hl.1 rfl (lv_room (Nat.le_of_ble_eq_true rfl)) dX1_isValueOf_90 ⟨Nat.le_of_ble_eq_true rfl, Nat.le_of_ble_eq_true rfl⟩) hS (fun q h1 h2 => absurd h2 (Nat.not_le.mpr h1)) (fun q h => hA q (Nat.le_trans hS.1 h)) (fun r_7 _ t_8 H_6 locs ht hvm hw hB hz1 hk1 hS => ?_)
    obtain ⟨-, hw⟩ := hw
    subst hw
    have hsp : (sp_in p2 19) = sp_val p1 p2 := by first | (simp only [sp_val, eq_true k_5, if_true, if_false]; done) | (simp [sp_val, k_5]; done)
    exact ((W.zret (v := (sp_in p2 19)) hx hb hr (us_nz (sp_in_01 _ _)) (fun t ht hW => ⟨⟨(sp_in p2 19), (), rfl, ⟨trivial, hsp⟩, trivial⟩, hS.F ht⟩) hS.2.2 dX1_isValueOf_93))
  by_cases k_9 : p1 = 2
  · refine lv_tableIn (tgt := 130) hx hb dX1_isValueOf_1 (by rw [k_9]; decide) (by rw [k_9]; decide) (by rw [k_9]; rfl) (by decide) ?_
    refine lv_iconst (v := 1) hx hb dX1_isValueOf_130 (by decide) ?_
    have hsp : 1 = sp_val p1 p2 := by first | (simp only [sp_val, eq_true k_9, if_true, if_false]; done) | (simp [sp_val, k_9]; done)
    exact ((W.zret (v := 1) hx hb hr (us_nz (by decide)) (fun t ht hW => ⟨⟨1, (), rfl, ⟨trivial, hsp⟩, trivial⟩, hS.F ht⟩) hS.2.2 dX1_isValueOf_131))
  by_cases k_10 : p1 = 3
  · refine lv_tableIn (tgt := 130) hx hb dX1_isValueOf_1 (by rw [k_10]; decide) (by rw [k_10]; decide) (by rw [k_10]; rfl) (by decide) ?_
    refine lv_iconst (v := 1) hx hb dX1_isValueOf_130 (by decide) ?_
    have hsp : 1 = sp_val p1 p2 := by first | (simp only [sp_val, eq_true k_10, if_true, if_false]; done) | (simp [sp_val, k_10]; done)
    exact ((W.zret (v := 1) hx hb hr (us_nz (by decide)) (fun t ht hW => ⟨⟨1, (), rfl, ⟨trivial, hsp⟩, trivial⟩, hS.F ht⟩) hS.2.2 dX1_isValueOf_131))
  by_cases k_11 : p1 = 4
  · refine lv_tableIn (tgt := 130) hx hb dX1_isValueOf_1 (by rw [k_11]; decide) (by rw [k_11]; decide) (by rw [k_11]; rfl) (by decide) ?_
    refine lv_iconst (v := 1) hx hb dX1_isValueOf_130 (by decide) ?_
    have hsp : 1 = sp_val p1 p2 := by first | (simp only [sp_val, eq_true k_11, if_true, if_false]; done) | (simp [sp_val, k_11]; done)
    exact ((W.zret (v := 1) hx hb hr (us_nz (by decide)) (fun t ht hW => ⟨⟨1, (), rfl, ⟨trivial, hsp⟩, trivial⟩, hS.F ht⟩) hS.2.2 dX1_isValueOf_131))
  by_cases k_12 : p1 = 5
  · refine lv_tableIn (tgt := 130) hx hb dX1_isValueOf_1 (by rw [k_12]; decide) (by rw [k_12]; decide) (by rw [k_12]; rfl) (by decide) ?_
    refine lv_iconst (v := 1) hx hb dX1_isValueOf_130 (by decide) ?_
    have hsp : 1 = sp_val p1 p2 := by first | (simp only [sp_val, eq_true k_12, if_true, if_false]; done) | (simp [sp_val, k_12]; done)
    exact ((W.zret (v := 1) hx hb hr (us_nz (by decide)) (fun t ht hW => ⟨⟨1, (), rfl, ⟨trivial, hsp⟩, trivial⟩, hS.F ht⟩) hS.2.2 dX1_isValueOf_131))
  by_cases k_13 : p1 = 6
  · refine lv_tableIn (tgt := 130) hx hb dX1_isValueOf_1 (by rw [k_13]; decide) (by rw [k_13]; decide) (by rw [k_13]; rfl) (by decide) ?_
    refine lv_iconst (v := 1) hx hb dX1_isValueOf_130 (by decide) ?_
    have hsp : 1 = sp_val p1 p2 := by first | (simp only [sp_val, eq_true k_13, if_true, if_false]; done) | (simp [sp_val, k_13]; done)
    exact ((W.zret (v := 1) hx hb hr (us_nz (by decide)) (fun t ht hW => ⟨⟨1, (), rfl, ⟨trivial, hsp⟩, trivial⟩, hS.F ht⟩) hS.2.2 dX1_isValueOf_131))
  by_cases k_14 : p1 = 7
  · refine lv_tableIn (tgt := 130) hx hb dX1_isValueOf_1 (by rw [k_14]; decide) (by rw [k_14]; decide) (by rw [k_14]; rfl) (by decide) ?_
    refine lv_iconst (v := 1) hx hb dX1_isValueOf_130 (by decide) ?_
    have hsp : 1 = sp_val p1 p2 := by first | (simp only [sp_val, eq_true k_14, if_true, if_false]; done) | (simp [sp_val, k_14]; done)
    exact ((W.zret (v := 1) hx hb hr (us_nz (by decide)) (fun t ht hW => ⟨⟨1, (), rfl, ⟨trivial, hsp⟩, trivial⟩, hS.F ht⟩) hS.2.2 dX1_isValueOf_131))
  by_cases k_15 : p1 = 8
  · refine lv_tableIn (tgt := 130) hx hb dX1_isValueOf_1 (by rw [k_15]; decide) (by rw [k_15]; decide) (by rw [k_15]; rfl) (by decide) ?_
    refine lv_iconst (v := 1) hx hb dX1_isValueOf_130 (by decide) ?_
    have hsp : 1 = sp_val p1 p2 := by first | (simp only [sp_val, eq_true k_15, if_true, if_false]; done) | (simp [sp_val, k_15]; done)
    exact ((W.zret (v := 1) hx hb hr (us_nz (by decide)) (fun t ht hW => ⟨⟨1, (), rfl, ⟨trivial, hsp⟩, trivial⟩, hS.F ht⟩) hS.2.2 dX1_isValueOf_131))
  by_cases k_16 : p1 = 9
  · refine lv_tableIn (tgt := 130) hx hb dX1_isValueOf_1 (by rw [k_16]; decide) (by rw [k_16]; decide) (by rw [k_16]; rfl) (by decide) ?_
    refine lv_iconst (v := 1) hx hb dX1_isValueOf_130 (by decide) ?_
    have hsp : 1 = sp_val p1 p2 := by first | (simp only [sp_val, eq_true k_16, if_true, if_false]; done) | (simp [sp_val, k_16]; done)
    exact ((W.zret (v := 1) hx hb hr (us_nz (by decide)) (fun t ht hW => ⟨⟨1, (), rfl, ⟨trivial, hsp⟩, trivial⟩, hS.F ht⟩) hS.2.2 dX1_isValueOf_131))
  by_cases k_17 : p1 = 10
  · refine lv_tableIn (tgt := 130) hx hb dX1_isValueOf_1 (by rw [k_17]; decide) (by rw [k_17]; decide) (by rw [k_17]; rfl) (by decide) ?_
    refine lv_iconst (v := 1) hx hb dX1_isValueOf_130 (by decide) ?_
    have hsp : 1 = sp_val p1 p2 := by first | (simp only [sp_val, eq_true k_17, if_true, if_false]; done) | (simp [sp_val, k_17]; done)
    exact ((W.zret (v := 1) hx hb hr (us_nz (by decide)) (fun t ht hW => ⟨⟨1, (), rfl, ⟨trivial, hsp⟩, trivial⟩, hS.F ht⟩) hS.2.2 dX1_isValueOf_131))
  by_cases k_18 : p1 = 11
  · refine lv_tableIn (tgt := 94) hx hb dX1_isValueOf_1 (by rw [k_18]; decide) (by rw [k_18]; decide) (by rw [k_18]; rfl) (by decide) ?_
    refine lv_iload_n hx hb dX1_isValueOf_94 rfl (lv_at hl 1 rfl) ?_
    refine lv_ldc (v := 999999) hx hb hown (htb _ mw_278) dX1_isValueOf_95 ?_
    refine va_calli (va_runS (As := [.int p2, .int 999999]) (rest := []) ⟨hx, hb, hml, hown, htb⟩ (kt_X1_isWithin l s.heap.size p2 999999) (cwS 2 htb (us_gS mw_149 mw_150 mw_32 mw_151) rfl rfl rfl (by decide +kernel) ⟨Nat.le_of_ble_eq_true rfl, Nat.le_of_ble_eq_true rfl⟩) ⟨us_blind0, fun U hU _ => ⟨rfl, congrArg Array.size hU⟩⟩ rfl rfl hl.1 rfl (lv_room (Nat.le_of_ble_eq_true rfl)) dX1_isValueOf_97 ⟨Nat.le_of_ble_eq_true rfl, Nat.le_of_ble_eq_true rfl⟩) hS (fun q h1 h2 => absurd h2 (Nat.not_le.mpr h1)) (fun q h => hA q (Nat.le_trans hS.1 h)) (fun r_20 _ t_21 H_19 locs ht hvm hw hB hz1 hk1 hS => ?_)
    obtain ⟨-, hw⟩ := hw
    subst hw
    have hsp : (sp_in p2 999999) = sp_val p1 p2 := by first | (simp only [sp_val, eq_true k_18, if_true, if_false]; done) | (simp [sp_val, k_18]; done)
    exact ((W.zret (v := (sp_in p2 999999)) hx hb hr (us_nz (sp_in_01 _ _)) (fun t ht hW => ⟨⟨(sp_in p2 999999), (), rfl, ⟨trivial, hsp⟩, trivial⟩, hS.F ht⟩) hS.2.2 dX1_isValueOf_100))
  by_cases k_22 : p1 = 12
  · refine lv_tableIn (tgt := 101) hx hb dX1_isValueOf_1 (by rw [k_22]; decide) (by rw [k_22]; decide) (by rw [k_22]; rfl) (by decide) ?_
    refine lv_iload_n hx hb dX1_isValueOf_101 rfl (lv_at hl 1 rfl) ?_
    refine lv_bipush (v := 9) hx hb dX1_isValueOf_102 (by decide) ?_
    refine va_calli (va_runS (As := [.int p2, .int 9]) (rest := []) ⟨hx, hb, hml, hown, htb⟩ (kt_X1_isWithin l s.heap.size p2 9) (cwS 2 htb (us_gS mw_149 mw_150 mw_32 mw_151) rfl rfl rfl (by decide +kernel) ⟨Nat.le_of_ble_eq_true rfl, Nat.le_of_ble_eq_true rfl⟩) ⟨us_blind0, fun U hU _ => ⟨rfl, congrArg Array.size hU⟩⟩ rfl rfl hl.1 rfl (lv_room (Nat.le_of_ble_eq_true rfl)) dX1_isValueOf_104 ⟨Nat.le_of_ble_eq_true rfl, Nat.le_of_ble_eq_true rfl⟩) hS (fun q h1 h2 => absurd h2 (Nat.not_le.mpr h1)) (fun q h => hA q (Nat.le_trans hS.1 h)) (fun r_24 _ t_25 H_23 locs ht hvm hw hB hz1 hk1 hS => ?_)
    obtain ⟨-, hw⟩ := hw
    subst hw
    have hsp : (sp_in p2 9) = sp_val p1 p2 := by first | (simp only [sp_val, eq_true k_22, if_true, if_false]; done) | (simp [sp_val, k_22]; done)
    exact ((W.zret (v := (sp_in p2 9)) hx hb hr (us_nz (sp_in_01 _ _)) (fun t ht hW => ⟨⟨(sp_in p2 9), (), rfl, ⟨trivial, hsp⟩, trivial⟩, hS.F ht⟩) hS.2.2 dX1_isValueOf_107))
  by_cases k_26 : p1 = 13
  · refine lv_tableIn (tgt := 108) hx hb dX1_isValueOf_1 (by rw [k_26]; decide) (by rw [k_26]; decide) (by rw [k_26]; rfl) (by decide) ?_
    refine lv_iload_n hx hb dX1_isValueOf_108 rfl (lv_at hl 1 rfl) ?_
    refine lv_sipush (v := 255) hx hb dX1_isValueOf_109 (by decide) ?_
    refine va_calli (va_runS (As := [.int p2, .int 255]) (rest := []) ⟨hx, hb, hml, hown, htb⟩ (kt_X1_isWithin l s.heap.size p2 255) (cwS 2 htb (us_gS mw_149 mw_150 mw_32 mw_151) rfl rfl rfl (by decide +kernel) ⟨Nat.le_of_ble_eq_true rfl, Nat.le_of_ble_eq_true rfl⟩) ⟨us_blind0, fun U hU _ => ⟨rfl, congrArg Array.size hU⟩⟩ rfl rfl hl.1 rfl (lv_room (Nat.le_of_ble_eq_true rfl)) dX1_isValueOf_112 ⟨Nat.le_of_ble_eq_true rfl, Nat.le_of_ble_eq_true rfl⟩) hS (fun q h1 h2 => absurd h2 (Nat.not_le.mpr h1)) (fun q h => hA q (Nat.le_trans hS.1 h)) (fun r_28 _ t_29 H_27 locs ht hvm hw hB hz1 hk1 hS => ?_)
    obtain ⟨-, hw⟩ := hw
    subst hw
    have hsp : (sp_in p2 255) = sp_val p1 p2 := by first | (simp only [sp_val, eq_true k_26, if_true, if_false]; done) | (simp [sp_val, k_26]; done)
    exact ((W.zret (v := (sp_in p2 255)) hx hb hr (us_nz (sp_in_01 _ _)) (fun t ht hW => ⟨⟨(sp_in p2 255), (), rfl, ⟨trivial, hsp⟩, trivial⟩, hS.F ht⟩) hS.2.2 dX1_isValueOf_115))
  by_cases k_30 : p1 = 14
  · refine lv_tableIn (tgt := 116) hx hb dX1_isValueOf_1 (by rw [k_30]; decide) (by rw [k_30]; decide) (by rw [k_30]; rfl) (by decide) ?_
    refine lv_iload_n hx hb dX1_isValueOf_116 rfl (lv_at hl 1 rfl) ?_
    refine lv_iconst (v := 1) hx hb dX1_isValueOf_117 (by decide) ?_
    refine va_calli (va_runS (As := [.int p2, .int 1]) (rest := []) ⟨hx, hb, hml, hown, htb⟩ (kt_X1_isWithin l s.heap.size p2 1) (cwS 2 htb (us_gS mw_149 mw_150 mw_32 mw_151) rfl rfl rfl (by decide +kernel) ⟨Nat.le_of_ble_eq_true rfl, Nat.le_of_ble_eq_true rfl⟩) ⟨us_blind0, fun U hU _ => ⟨rfl, congrArg Array.size hU⟩⟩ rfl rfl hl.1 rfl (lv_room (Nat.le_of_ble_eq_true rfl)) dX1_isValueOf_118 ⟨Nat.le_of_ble_eq_true rfl, Nat.le_of_ble_eq_true rfl⟩) hS (fun q h1 h2 => absurd h2 (Nat.not_le.mpr h1)) (fun q h => hA q (Nat.le_trans hS.1 h)) (fun r_32 _ t_33 H_31 locs ht hvm hw hB hz1 hk1 hS => ?_)
    obtain ⟨-, hw⟩ := hw
    subst hw
    have hsp : (sp_in p2 1) = sp_val p1 p2 := by first | (simp only [sp_val, eq_true k_30, if_true, if_false]; done) | (simp [sp_val, k_30]; done)
    exact ((W.zret (v := (sp_in p2 1)) hx hb hr (us_nz (sp_in_01 _ _)) (fun t ht hW => ⟨⟨(sp_in p2 1), (), rfl, ⟨trivial, hsp⟩, trivial⟩, hS.F ht⟩) hS.2.2 dX1_isValueOf_121))
  by_cases k_34 : p1 = 15
  · refine lv_tableIn (tgt := 122) hx hb dX1_isValueOf_1 (by rw [k_34]; decide) (by rw [k_34]; decide) (by rw [k_34]; rfl) (by decide) ?_
    refine lv_iload_n hx hb dX1_isValueOf_122 rfl (lv_at hl 1 rfl) ?_
    refine lv_sipush (v := 999) hx hb dX1_isValueOf_123 (by decide) ?_
    refine va_calli (va_runS (As := [.int p2, .int 999]) (rest := []) ⟨hx, hb, hml, hown, htb⟩ (kt_X1_isWithin l s.heap.size p2 999) (cwS 2 htb (us_gS mw_149 mw_150 mw_32 mw_151) rfl rfl rfl (by decide +kernel) ⟨Nat.le_of_ble_eq_true rfl, Nat.le_of_ble_eq_true rfl⟩) ⟨us_blind0, fun U hU _ => ⟨rfl, congrArg Array.size hU⟩⟩ rfl rfl hl.1 rfl (lv_room (Nat.le_of_ble_eq_true rfl)) dX1_isValueOf_126 ⟨Nat.le_of_ble_eq_true rfl, Nat.le_of_ble_eq_true rfl⟩) hS (fun q h1 h2 => absurd h2 (Nat.not_le.mpr h1)) (fun q h => hA q (Nat.le_trans hS.1 h)) (fun r_36 _ t_37 H_35 locs ht hvm hw hB hz1 hk1 hS => ?_)
    obtain ⟨-, hw⟩ := hw
    subst hw
    have hsp : (sp_in p2 999) = sp_val p1 p2 := by first | (simp only [sp_val, eq_true k_34, if_true, if_false]; done) | (simp [sp_val, k_34]; done)
    exact ((W.zret (v := (sp_in p2 999)) hx hb hr (us_nz (sp_in_01 _ _)) (fun t ht hW => ⟨⟨(sp_in p2 999), (), rfl, ⟨trivial, hsp⟩, trivial⟩, hS.F ht⟩) hS.2.2 dX1_isValueOf_129))
  have hout_1 : p1.toInt < 0 ∨ 15 < p1.toInt := us_sw (lo := 0) (hi := 15) (fun z h1 h2 => by
    rcases (show z = 0 ∨ z = 1 ∨ z = 2 ∨ z = 3 ∨ z = 4 ∨ z = 5 ∨ z = 6 ∨ z = 7 ∨ z = 8 ∨ z = 9 ∨ z = 10 ∨ z = 11 ∨ z = 12 ∨ z = 13 ∨ z = 14 ∨ z = 15 by omega) with rfl | rfl | rfl | rfl | rfl | rfl | rfl | rfl | rfl | rfl | rfl | rfl | rfl | rfl | rfl | rfl
    · exact fun e => k_1 (e.trans (by decide))
    · exact fun e => k_5 (e.trans (by decide))
    · exact fun e => k_9 (e.trans (by decide))
    · exact fun e => k_10 (e.trans (by decide))
    · exact fun e => k_11 (e.trans (by decide))
    · exact fun e => k_12 (e.trans (by decide))
    · exact fun e => k_13 (e.trans (by decide))
    · exact fun e => k_14 (e.trans (by decide))
    · exact fun e => k_15 (e.trans (by decide))
    · exact fun e => k_16 (e.trans (by decide))
    · exact fun e => k_17 (e.trans (by decide))
    · exact fun e => k_18 (e.trans (by decide))
    · exact fun e => k_22 (e.trans (by decide))
    · exact fun e => k_26 (e.trans (by decide))
    · exact fun e => k_30 (e.trans (by decide))
    · exact fun e => k_34 (e.trans (by decide)))
  refine lv_tableOut (tgt := 130) hx hb dX1_isValueOf_1 hout_1 (by decide) ?_
  refine lv_iconst (v := 1) hx hb dX1_isValueOf_130 (by decide) ?_
  have hsp : 1 = sp_val p1 p2 := by first | (simp only [sp_val, eq_false k_1, eq_false k_5, eq_false k_9, eq_false k_10, eq_false k_11, eq_false k_12, eq_false k_13, eq_false k_14, eq_false k_15, eq_false k_16, eq_false k_17, eq_false k_18, eq_false k_22, eq_false k_26, eq_false k_30, eq_false k_34, if_true, if_false]; done) | (simp [sp_val, k_1, k_5, k_9, k_10, k_11, k_12, k_13, k_14, k_15, k_16, k_17, k_18, k_22, k_26, k_30, k_34]; done)
  exact ((W.zret (v := 1) hx hb hr (us_nz (by decide)) (fun t ht hW => ⟨⟨1, (), rfl, ⟨trivial, hsp⟩, trivial⟩, hS.F ht⟩) hS.2.2 dX1_isValueOf_131))
set_option maxHeartbeats 8000000 in
set_option maxRecDepth 100000 in
theorem kt_X1_refuseOutsideMinutes (l : Launch) (hl9 : l.stackTraces = false) (sz : Nat) (p1 : Int32) : vx_Met l yX1_refuseOutsideMinutes wsX1_refuseOutsideMinutes ({ frames := 6, cells := 1, slots := 6, locals := 91 }) (va_Pc [.int p1] (us_P0 sz)) (va_Qv (fun _ : Unit => sp_minK p1 = 0) (fun _ _ => True) (us_new sz)) (vx_X (fun _ : Unit => ¬ sp_minK p1 = 0) (fun E _ t => E = us_en (sp_minK p1)) (us_new sz)) 1 6 (us_new sz) := by
  refine vx_ofW (cc := cX1_refuseOutsideMinutes) (maxL := 1) (ret := none) (by decide) rfl ?_
  intro p e s m args below meth c s₁ B hml hte hv
  obtain ⟨rfl, hsz, hE⟩ := hv
  have hx := B.exec
  have hb := B.bytes
  have hr := B.returns
  have htb := us_htb (atoms_spec (ws := wsX1_refuseOutsideMinutes) B.pre)
  have hown : s.vm.findClass RX1 = some m.cls := findClass_of_methodNamed B.named
  have hlocks := B.notSynchronized
  subst hsz
  have hA : ∀ q : Nat, s.heap.size ≤ q → (us_new s.heap.size) q := fun q h => h
  have hS : va_S (us_new s.heap.size) s.heap s.heap [] := va_S.rf
  have hl := lv_entry ([.int p1]) (n := 1) (Nat.le_of_ble_eq_true rfl)
  rw [lg_entry_eq]
  generalize (lg_sl ([.int p1]) ++ List.replicate (1 - (lg_sl ([.int p1])).length) Slot.unset).toArray = ls at hl ⊢
  have hl : lv_has ls 1 [(0, .int p1)] := hl
  refine lv_iload_n hx hb dX1_refuseOutsideMinutes_0 rfl (lv_at hl 0 rfl) ?_
  refine lv_ldc (v := 99999) hx hb hown (htb _ mw_273) dX1_refuseOutsideMinutes_1 ?_
  refine va_calli (va_runS (As := [.int p1, .int 99999]) (rest := []) ⟨hx, hb, hml, hown, htb⟩ (kt_X1_isWithin l s.heap.size p1 99999) (cwS 2 htb (us_gS mw_149 mw_150 mw_32 mw_151) rfl rfl rfl (by decide +kernel) ⟨Nat.le_of_ble_eq_true rfl, Nat.le_of_ble_eq_true rfl⟩) ⟨us_blind0, fun U hU _ => ⟨rfl, congrArg Array.size hU⟩⟩ rfl rfl hl.1 rfl (lv_room (Nat.le_of_ble_eq_true rfl)) dX1_refuseOutsideMinutes_3 ⟨Nat.le_of_ble_eq_true rfl, Nat.le_of_ble_eq_true rfl⟩) hS (fun q h1 h2 => absurd h2 (Nat.not_le.mpr h1)) (fun q h => hA q (Nat.le_trans hS.1 h)) (fun r_2 _ t_3 H_1 locs ht hvm hw hB hz1 hk1 hS => ?_)
  obtain ⟨-, hw⟩ := hw
  subst hw
  refine lv_if_ne (tgt := 19) hx hb dX1_refuseOutsideMinutes_6 (by decide) (fun c_4 => ?_) (fun c_4 => ?_)
  · have hk9 : sp_minK p1 = 0 := by first | (simp only [sp_minK, eq_false c_4, if_true, if_false]; done) | (simp [sp_minK, c_4]; done)
    exact vx_ret (W.widen (k := 1) (n := 6) (Nat.le_of_ble_eq_true rfl) (Nat.le_of_ble_eq_true rfl) (W.vret hx hb hr (fun t ht hW => ⟨⟨(), rfl, hk9, trivial⟩, hS.F ht⟩) hS.2.2 dX1_refuseOutsideMinutes_19))
  · obtain ⟨sa_5, hst_sa_5⟩ := hE.2.2.2.2 (RX1, 162, "no such minute") (by decide +kernel)
    have hk9 : sp_minK p1 = 2 := by first | (simp only [sp_minK, eq_true c_4, if_true, if_false]; done) | (simp [sp_minK, c_4]; done)
    exact vx_throwS (own := RX1) (cls := "java/lang/IndexOutOfBoundsException") (names := ["java/lang/RuntimeException", "java/lang/Exception"]) hx hb hl9 hown (by decide +kernel) (by decide +kernel) (htb _ mw_152) (htb _ mw_38) hst_sa_5 (vx_hat (L := vx_atS RX1 43 "java/lang/IndexOutOfBoundsException" ["java/lang/RuntimeException", "java/lang/Exception"]) (B := [.castable "java/lang/IndexOutOfBoundsException" "java/lang/IndexOutOfBoundsException", .declares ⟨"java/lang/RuntimeException", "<init>", "(Ljava/lang/String;)V"⟩, .declares ⟨"java/lang/Exception", "<init>", "(Ljava/lang/String;)V"⟩, .declares ⟨"java/lang/Throwable", "<init>", "(Ljava/lang/String;)V"⟩]) (fun w hw => htb w (us_at43 w hw)) us_ab43 (vx_c (va_Nw.use rfl (hE.2.2.1 _ (by decide +kernel))) (vx_c (va_Nw.use rfl (hE.2.2.1 _ (by decide +kernel))) (vx_c (va_Nw.use rfl (hE.2.2.1 _ (by decide +kernel))) (vx_c (va_Nw.use rfl (hE.2.2.1 _ (by decide +kernel))) (vx_n)))))) us_ag43 hE.1 hE.2.1 hS (hl.1.trans hml.symm) dX1_refuseOutsideMinutes_9 dX1_refuseOutsideMinutes_12 dX1_refuseOutsideMinutes_13 dX1_refuseOutsideMinutes_15 dX1_refuseOutsideMinutes_18 (fun x hx => (hte x hx).elim) (Nat.le_of_ble_eq_true rfl) (Nat.le_of_ble_eq_true rfl) (Nat.le_of_ble_eq_true rfl) (Nat.le_of_ble_eq_true rfl) hlocks (fun t ha hsz hk => ⟨(), (by rw [hk9]; decide), (by rw [hk9]; rfl), Nat.le_trans hS.1 hsz, fun q h1 h2 => (hk q (Nat.lt_of_lt_of_le h1 hS.1)).trans (hS.2.1 q h1 h2)⟩) hS.2.2 (Nat.le_of_ble_eq_true rfl) (Nat.le_of_ble_eq_true rfl)
set_option maxHeartbeats 8000000 in
set_option maxRecDepth 100000 in
theorem kt_X1_isUnit (l : Launch) (dC : Nat → ClassId) (dI : Nat → Nat → Nat) (ad : Nat → Nat) (cU cI : ClassId) (pa : Nat → Nat) (sz : Nat) (nu nm : Nat) (nk : Int32) (F U : Nat → Nat → Int32) (p1 : Int32) : Met l yX1_isUnit wsX1_isUnit ({ frames := 0, cells := 0, slots := 0, locals := 0 }) (va_Pc [.ref (ad 0), .int p1] (us_Px dC dI ad cU cI pa nu nm nk F U (us_new sz) sz)) (va_Qi (fun r (_ : Unit) => True ∧ r = sp_isU p1 nu) (fun _ _ => True) (us_new sz)) 0 0 (us_new sz) := by
  refine Met.ofW (cc := cX1_isUnit) (maxL := 2) (ret := (some .boolean)) (by decide) rfl ?_
  intro p e s m args below meth c s₁ B hml hv
  obtain ⟨rfl, hsz, hP, hK, hD, hE⟩ := hv
  have hx := B.exec
  have hb := B.bytes
  have hr := B.returns
  have htb := us_htb (atoms_spec (ws := wsX1_isUnit) B.pre)
  have hown : s.vm.findClass RX1 = some m.cls := findClass_of_methodNamed B.named
  have hlocks := B.notSynchronized
  subst hsz
  have hA : ∀ q : Nat, s.heap.size ≤ q → (us_new s.heap.size) q := fun q h => h
  have hS : va_S (us_new s.heap.size) s.heap s.heap [] := va_S.rf
  have hP : va_P (dC, dI) vwCl (us_W ad cU cI pa nu nm nk F U) s.heap := hP
  have hl := lv_entry ([.ref (ad 0), .int p1]) (n := 2) (Nat.le_of_ble_eq_true rfl)
  rw [lg_entry_eq]
  generalize (lg_sl ([.ref (ad 0), .int p1]) ++ List.replicate (2 - (lg_sl ([.ref (ad 0), .int p1])).length) Slot.unset).toArray = ls at hl ⊢
  have hl : lv_has ls 2 [(0, .ref (ad 0)), (1, .int p1)] := hl
  refine lv_iload_n hx hb dX1_isUnit_0 rfl (lv_at hl 1 rfl) ?_
  refine lv_if_lt (tgt := 16) hx hb dX1_isUnit_1 (by decide) (fun c_1 => ?_) (fun c_1 => ?_)
  · refine lv_iconst (v := 0) hx hb dX1_isUnit_16 (by decide) ?_
    have hsp : 0 = sp_isU p1 nu := by first | (simp only [sp_isU, eq_true c_1, if_true, if_false]; done) | (simp [sp_isU, c_1]; done)
    exact ((W.zret (v := 0) hx hb hr (us_nz (by decide)) (fun t ht hW => ⟨⟨0, (), rfl, ⟨trivial, hsp⟩, trivial⟩, hS.F ht⟩) hS.2.2 dX1_isUnit_17))
  · refine lv_iload_n hx hb dX1_isUnit_4 rfl (lv_at hl 1 rfl) ?_
    refine lv_aload_n hx hb dX1_isUnit_5 rfl (lv_at hl 0 rfl) ?_
    refine va_get (D := (dC, dI)) (ci := 1) (v := .int (nI nu)) (C := RX1) (T := TX1) (N := 10) hx hb htb us_inX1 hown hK hP 0 rfl rfl 1 (by decide) (htb _ mw_110) (fun _ h9 => h9) rfl dX1_isUnit_6 ?_
    refine lv_icmp_ge (tgt := 16) hx hb dX1_isUnit_9 (by decide) (fun c_2 => ?_) (fun c_2 => ?_)
    · refine lv_iconst (v := 0) hx hb dX1_isUnit_16 (by decide) ?_
      have hsp : 0 = sp_isU p1 nu := by first | (simp only [sp_isU, eq_false c_1, eq_true c_2, if_true, if_false]; done) | (simp [sp_isU, c_1, c_2]; done)
      exact ((W.zret (v := 0) hx hb hr (us_nz (by decide)) (fun t ht hW => ⟨⟨0, (), rfl, ⟨trivial, hsp⟩, trivial⟩, hS.F ht⟩) hS.2.2 dX1_isUnit_17))
    · refine lv_iconst (v := 1) hx hb dX1_isUnit_12 (by decide) ?_
      refine lv_goto (tgt := 17) hx hb dX1_isUnit_13 (by decide) ?_
      have hsp : 1 = sp_isU p1 nu := by first | (simp only [sp_isU, eq_false c_1, eq_false c_2, if_true, if_false]; done) | (simp [sp_isU, c_1, c_2]; done)
      exact ((W.zret (v := 1) hx hb hr (us_nz (by decide)) (fun t ht hW => ⟨⟨1, (), rfl, ⟨trivial, hsp⟩, trivial⟩, hS.F ht⟩) hS.2.2 dX1_isUnit_17))
set_option maxHeartbeats 8000000 in
set_option maxRecDepth 100000 in
theorem kt_X1_refuseUnknownUnit (l : Launch) (hl9 : l.stackTraces = false) (dC : Nat → ClassId) (dI : Nat → Nat → Nat) (ad : Nat → Nat) (cU cI : ClassId) (pa : Nat → Nat) (sz : Nat) (nu nm : Nat) (nk : Int32) (F U : Nat → Nat → Int32) (p1 : Int32) : vx_Met l yX1_refuseUnknownUnit wsX1_refuseUnknownUnit ({ frames := 6, cells := 1, slots := 6, locals := 91 }) (va_Pc [.ref (ad 0), .int p1] (us_Px dC dI ad cU cI pa nu nm nk F U (us_new sz) sz)) (va_Qv (fun _ : Unit => sp_refK p1 nu = 0) (fun _ _ => True) (us_new sz)) (vx_X (fun _ : Unit => ¬ sp_refK p1 nu = 0) (fun E _ t => E = us_en (sp_refK p1 nu)) (us_new sz)) 1 6 (us_new sz) := by
  refine vx_ofW (cc := cX1_refuseUnknownUnit) (maxL := 2) (ret := none) (by decide) rfl ?_
  intro p e s m args below meth c s₁ B hml hte hv
  obtain ⟨rfl, hsz, hP, hK, hD, hE⟩ := hv
  have hx := B.exec
  have hb := B.bytes
  have hr := B.returns
  have htb := us_htb (atoms_spec (ws := wsX1_refuseUnknownUnit) B.pre)
  have hown : s.vm.findClass RX1 = some m.cls := findClass_of_methodNamed B.named
  have hlocks := B.notSynchronized
  subst hsz
  have hA : ∀ q : Nat, s.heap.size ≤ q → (us_new s.heap.size) q := fun q h => h
  have hS : va_S (us_new s.heap.size) s.heap s.heap [] := va_S.rf
  have hP : va_P (dC, dI) vwCl (us_W ad cU cI pa nu nm nk F U) s.heap := hP
  have hl := lv_entry ([.ref (ad 0), .int p1]) (n := 2) (Nat.le_of_ble_eq_true rfl)
  rw [lg_entry_eq]
  generalize (lg_sl ([.ref (ad 0), .int p1]) ++ List.replicate (2 - (lg_sl ([.ref (ad 0), .int p1])).length) Slot.unset).toArray = ls at hl ⊢
  have hl : lv_has ls 2 [(0, .ref (ad 0)), (1, .int p1)] := hl
  refine lv_aload_n hx hb dX1_refuseUnknownUnit_0 rfl (lv_at hl 0 rfl) ?_
  refine lv_iload_n hx hb dX1_refuseUnknownUnit_1 rfl (lv_at hl 1 rfl) ?_
  refine va_calli (va_runV (As := [.int p1]) (rest := []) ⟨hx, hb, hml, hown, htb⟩ (kt_X1_isUnit l dC dI ad cU cI pa s.heap.size nu nm nk F U p1) (cwV 1 htb (us_gV mw_249 mw_251 mw_2 mw_32 mw_252) rfl rfl rfl (by decide +kernel) ⟨Nat.le_of_ble_eq_true rfl, Nat.le_of_ble_eq_true rfl⟩) ⟨us_Px_blind, va_recv hK hP (ci := 1) (q0 := 0) rfl rfl, fun U hU hW => ⟨rfl, us_Px_at hP hK hD hE hS (fun q h => hA q (Nat.le_trans hS.1 h)) hU hW⟩⟩ rfl rfl hl.1 rfl (lv_room (Nat.le_of_ble_eq_true rfl)) dX1_refuseUnknownUnit_2 ⟨Nat.le_of_ble_eq_true rfl, Nat.le_of_ble_eq_true rfl⟩) hS (fun q h1 h2 => absurd h2 (Nat.not_le.mpr h1)) (fun q h => hA q (Nat.le_trans hS.1 h)) (fun r_2 _ t_3 H_1 locs ht hvm hw hB hz1 hk1 hS => ?_)
  obtain ⟨-, hw⟩ := hw
  subst hw
  have hP := us_mono hP (fun q h => hk1 q h (Nat.not_le.mpr h))
  refine lv_if_ne (tgt := 18) hx hb dX1_refuseUnknownUnit_5 (by decide) (fun c_4 => ?_) (fun c_4 => ?_)
  · have hk9 : sp_refK p1 nu = 0 := by first | (simp only [sp_refK, eq_false c_4, if_true, if_false]; done) | (simp [sp_refK, c_4]; done)
    exact vx_ret (W.widen (k := 1) (n := 6) (Nat.le_of_ble_eq_true rfl) (Nat.le_of_ble_eq_true rfl) (W.vret hx hb hr (fun t ht hW => ⟨⟨(), rfl, hk9, trivial⟩, hS.F ht⟩) hS.2.2 dX1_refuseUnknownUnit_18))
  · obtain ⟨sa_5, hst_sa_5⟩ := hE.2.2.2.2 (RX1, 70, "no such unit") (by decide +kernel)
    have hk9 : sp_refK p1 nu = 1 := by first | (simp only [sp_refK, eq_true c_4, if_true, if_false]; done) | (simp [sp_refK, c_4]; done)
    exact vx_throwS (own := RX1) (cls := "java/lang/IllegalArgumentException") (names := ["java/lang/RuntimeException", "java/lang/Exception"]) hx hb hl9 hown (by decide +kernel) (by decide +kernel) (htb _ mw_253) (htb _ mw_40) hst_sa_5 (vx_hat (L := vx_atS RX1 72 "java/lang/IllegalArgumentException" ["java/lang/RuntimeException", "java/lang/Exception"]) (B := [.castable "java/lang/IllegalArgumentException" "java/lang/IllegalArgumentException", .declares ⟨"java/lang/RuntimeException", "<init>", "(Ljava/lang/String;)V"⟩, .declares ⟨"java/lang/Exception", "<init>", "(Ljava/lang/String;)V"⟩, .declares ⟨"java/lang/Throwable", "<init>", "(Ljava/lang/String;)V"⟩]) (fun w hw => htb w (us_at72 w hw)) us_ab72 (vx_c (va_Nw.use rfl (hE.2.2.1 _ (by decide +kernel))) (vx_c (va_Nw.use rfl (hE.2.2.1 _ (by decide +kernel))) (vx_c (va_Nw.use rfl (hE.2.2.1 _ (by decide +kernel))) (vx_c (va_Nw.use rfl (hE.2.2.1 _ (by decide +kernel))) (vx_n)))))) us_ag72 hE.1 hE.2.1 hS (hl.1.trans hml.symm) dX1_refuseUnknownUnit_8 dX1_refuseUnknownUnit_11 dX1_refuseUnknownUnit_12 dX1_refuseUnknownUnit_14 dX1_refuseUnknownUnit_17 (fun x hx => (hte x hx).elim) (Nat.le_of_ble_eq_true rfl) (Nat.le_of_ble_eq_true rfl) (Nat.le_of_ble_eq_true rfl) (Nat.le_of_ble_eq_true rfl) hlocks (fun t ha hsz hk => ⟨(), (by rw [hk9]; decide), (by rw [hk9]; rfl), Nat.le_trans hS.1 hsz, fun q h1 h2 => (hk q (Nat.lt_of_lt_of_le h1 hS.1)).trans (hS.2.1 q h1 h2)⟩) hS.2.2 (Nat.le_of_ble_eq_true rfl) (Nat.le_of_ble_eq_true rfl)
set_option maxHeartbeats 8000000 in
set_option maxRecDepth 100000 in
theorem kt_X1_putInOrder (l : Launch) (dC : Nat → ClassId) (dI : Nat → Nat → Nat) (ad : Nat → Nat) (cU cI : ClassId) (pa : Nat → Nat) (sz : Nat) (nu nm : Nat) (nk : Int32) (F U : Nat → Nat → Int32) (p1 : Int32) (p2 : Int32) (hnm : nm < 200) (hO : ∀ q, q < nm → ∃ n, n < 200 ∧ F 5 q = nI n) : Met l yX1_putInOrder wsX1_putInOrder ({ frames := 0, cells := 0, slots := 0, locals := 0 }) (va_Pc [.ref (ad 0), .int p1, .int p2] (us_Px dC dI ad cU cI pa nu nm nk F U (us_AA (us_ads ad pa) sz) sz)) (va_Qv (fun _ : Unit => True) (fun _ t => us_Bx dC dI ad cU cI pa nu nm nk (va_up F 5 (sp_ins (F 1) p1 p2 nm (F 5))) U t) (us_AA (us_ads ad pa) sz)) 0 0 (us_AA (us_ads ad pa) sz) := by
  refine Met.ofW (cc := cX1_putInOrder) (maxL := 4) (ret := none) (by decide) rfl ?_
  intro p e s m args below meth c s₁ B hml hv
  obtain ⟨rfl, hsz, hP, hK, hD, hE⟩ := hv
  have hx := B.exec
  have hb := B.bytes
  have hr := B.returns
  have htb := us_htb (atoms_spec (ws := wsX1_putInOrder) B.pre)
  have hown : s.vm.findClass RX1 = some m.cls := findClass_of_methodNamed B.named
  have hlocks := B.notSynchronized
  subst hsz
  have hA : ∀ q : Nat, s.heap.size ≤ q → (us_AA (us_ads ad pa) s.heap.size) q := fun q h => Or.inr h
  have hS : va_S (us_AA (us_ads ad pa) s.heap.size) s.heap s.heap [] := va_S.rf
  have hP : va_P (dC, dI) vwCl (us_W ad cU cI pa nu nm nk F U) s.heap := hP
  have hD : va_D (us_AA (us_ads ad pa) s.heap.size) (us_W ad cU cI pa nu nm nk F U) := us_D_aa hD
  have hl := lv_entry ([.ref (ad 0), .int p1, .int p2]) (n := 4) (Nat.le_of_ble_eq_true rfl)
  rw [lg_entry_eq]
  generalize (lg_sl ([.ref (ad 0), .int p1, .int p2]) ++ List.replicate (4 - (lg_sl ([.ref (ad 0), .int p1, .int p2])).length) Slot.unset).toArray = ls at hl ⊢
  have hl : lv_has ls 4 [(0, .ref (ad 0)), (1, .int p1), (2, .int p2)] := hl
  have lp5 : ∀ (po : Nat) (oo : Nat → Int32) (H : Heap) (locs : List Loc) (ls : Array Slot), po ≤ nm → (∀ q, q < nm → ∃ n, n < 200 ∧ oo q = nI n) → sp_ins (F 1) p1 p2 po oo = sp_ins (F 1) p1 p2 nm (F 5) → va_P (dC, dI) vwCl (us_W ad cU cI pa nu nm nk (va_up F 5 oo) U) H → va_D (us_AA (us_ads ad pa) s.heap.size) (us_W ad cU cI pa nu nm nk (va_up F 5 oo) U) → va_S (us_AA (us_ads ad pa) s.heap.size) s.heap H locs → lv_has ls 4 [(3, .int (nI po)), (0, .ref (ad 0)), (1, .int p1), (2, .int p2)] → W p l e (headSpec wsX1_putInOrder ({ frames := 0, cells := 0, slots := 0, locals := 0 })).room s m ([.ref (ad 0), .int p1, .int p2]).toArray below meth c H locs 0 0 (MQ below (va_Qv (fun _ : Unit => True) (fun _ t => us_Bx dC dI ad cU cI pa nu nm nk (va_up F 5 (sp_ins (F 1) p1 p2 nm (F 5))) U t) (us_AA (us_ads ad pa) s.heap.size)) ([.ref (ad 0), .int p1, .int p2]).toArray s 0 0 (us_AA (us_ads ad pa) s.heap.size)) (F0 m 5 ls []) := by
    intro po
    induction po with
    | zero =>
      intro oo H locs ls hpn hO hR hP hD hS hl
      have hp2 : 0 < 200 := by omega
      refine lv_iload_n hx hb dX1_putInOrder_5 rfl (lv_at hl 0 rfl) ?_
      refine lv_if_le (tgt := 46) hx hb dX1_putInOrder_6 (by decide) (fun c_1 => ?_) (fun c_1 => ?_)
      · refine lv_aload_n hx hb dX1_putInOrder_46 rfl (lv_at hl 1 rfl) ?_
        refine va_get (D := (dC, dI)) (ci := 1) (v := .ref (ad 7)) (C := RX1) (T := TX1) (N := 10) hx hb htb us_inX1 hown hK hP 0 rfl rfl 7 (by decide) (htb _ mw_116) (fun _ h9 => h9) rfl dX1_putInOrder_47 ?_
        refine lv_iload_n hx hb dX1_putInOrder_50 rfl (lv_at hl 0 rfl) ?_
        refine lv_iload_n hx hb dX1_putInOrder_51 rfl (lv_at hl 2 rfl) ?_
        refine us_iast (f := oo) hx hb hK hP hD hS 7 1 rfl rfl hp2 (by decide) dX1_putInOrder_52 (fun H_2 locs hP hD hS => ?_)
        have hP : va_P (dC, dI) vwCl (us_W ad cU cI pa nu nm nk (va_up (va_up F 5 oo) 5 (upd oo 0 p1)) U) H_2 := hP
        have hD : va_D (us_AA (us_ads ad pa) s.heap.size) (us_W ad cU cI pa nu nm nk (va_up (va_up F 5 oo) 5 (upd oo 0 p1)) U) := hD
        exact ((W.vret hx hb hr (fun t ht hW => ⟨⟨(), rfl, trivial, us_Bx_of ht hP rfl (by rw [← hR, us_up_up]; rfl) rfl⟩, hS.F ht⟩) hS.2.2 dX1_putInOrder_53))
      · exact absurd (show nI 0 ≤ 0 by decide) c_1
    | succ po ih =>
      intro oo H locs ls hpn hO hR hP hD hS hl
      have hpl : po < nm := by omega
      obtain ⟨n, hn, en⟩ := hO po hpl
      have hp2 : po + 1 < 200 := by omega
      have hp3 : po < 200 := by omega
      refine lv_iload_n hx hb dX1_putInOrder_5 rfl (lv_at hl 0 rfl) ?_
      refine lv_if_le (tgt := 46) hx hb dX1_putInOrder_6 (by decide) (fun c_3 => ?_) (fun c_3 => ?_)
      · exact absurd c_3 (nI_nle (by omega) (by omega))
      · refine lv_aload_n hx hb dX1_putInOrder_9 rfl (lv_at hl 1 rfl) ?_
        refine va_get (D := (dC, dI)) (ci := 1) (v := .ref (ad 3)) (C := RX1) (T := TX1) (N := 10) hx hb htb us_inX1 hown hK hP 0 rfl rfl 3 (by decide) (htb _ mw_112) (fun _ h9 => h9) rfl dX1_putInOrder_10 ?_
        refine lv_aload_n hx hb dX1_putInOrder_13 rfl (lv_at hl 1 rfl) ?_
        refine va_get (D := (dC, dI)) (ci := 1) (v := .ref (ad 7)) (C := RX1) (T := TX1) (N := 10) hx hb htb us_inX1 hown hK hP 0 rfl rfl 7 (by decide) (htb _ mw_116) (fun _ h9 => h9) rfl dX1_putInOrder_14 ?_
        refine lv_iload_n hx hb dX1_putInOrder_17 rfl (lv_at hl 0 rfl) ?_
        refine lv_iconst (v := 1) hx hb dX1_putInOrder_18 (by decide) ?_
        refine lv_isub hx hb dX1_putInOrder_19 ?_
        rw [nI_pred]
        refine us_iald (f := oo) hx hb hK hP 7 1 rfl rfl hp3 (by decide) dX1_putInOrder_20 ?_
        rw [en]
        refine us_iald (f := (F 1)) hx hb hK hP 3 1 rfl rfl hn (by decide) dX1_putInOrder_21 ?_
        refine lv_iload_n hx hb dX1_putInOrder_22 rfl (lv_at hl 3 rfl) ?_
        refine lv_icmp_le (tgt := 46) hx hb dX1_putInOrder_23 (by decide) (fun c_4 => ?_) (fun c_4 => ?_)
        · have hR2 : sp_ins (F 1) p1 p2 (po + 1) oo = upd oo (po + 1) p1 := by
            rw [sp_ins, en, nI_clamp (by omega), if_pos c_4]
          refine lv_aload_n hx hb dX1_putInOrder_46 rfl (lv_at hl 1 rfl) ?_
          refine va_get (D := (dC, dI)) (ci := 1) (v := .ref (ad 7)) (C := RX1) (T := TX1) (N := 10) hx hb htb us_inX1 hown hK hP 0 rfl rfl 7 (by decide) (htb _ mw_116) (fun _ h9 => h9) rfl dX1_putInOrder_47 ?_
          refine lv_iload_n hx hb dX1_putInOrder_50 rfl (lv_at hl 0 rfl) ?_
          refine lv_iload_n hx hb dX1_putInOrder_51 rfl (lv_at hl 2 rfl) ?_
          refine us_iast (f := oo) hx hb hK hP hD hS 7 1 rfl rfl hp2 (by decide) dX1_putInOrder_52 (fun H_5 locs hP hD hS => ?_)
          have hP : va_P (dC, dI) vwCl (us_W ad cU cI pa nu nm nk (va_up (va_up F 5 oo) 5 (upd oo (po + 1) p1)) U) H_5 := hP
          have hD : va_D (us_AA (us_ads ad pa) s.heap.size) (us_W ad cU cI pa nu nm nk (va_up (va_up F 5 oo) 5 (upd oo (po + 1) p1)) U) := hD
          exact ((W.vret hx hb hr (fun t ht hW => ⟨⟨(), rfl, trivial, us_Bx_of ht hP rfl (by rw [← hR, hR2, us_up_up]) rfl⟩, hS.F ht⟩) hS.2.2 dX1_putInOrder_53))
        · refine lv_aload_n hx hb dX1_putInOrder_26 rfl (lv_at hl 1 rfl) ?_
          refine va_get (D := (dC, dI)) (ci := 1) (v := .ref (ad 7)) (C := RX1) (T := TX1) (N := 10) hx hb htb us_inX1 hown hK hP 0 rfl rfl 7 (by decide) (htb _ mw_116) (fun _ h9 => h9) rfl dX1_putInOrder_27 ?_
          refine lv_iload_n hx hb dX1_putInOrder_30 rfl (lv_at hl 0 rfl) ?_
          refine lv_aload_n hx hb dX1_putInOrder_31 rfl (lv_at hl 1 rfl) ?_
          refine va_get (D := (dC, dI)) (ci := 1) (v := .ref (ad 7)) (C := RX1) (T := TX1) (N := 10) hx hb htb us_inX1 hown hK hP 0 rfl rfl 7 (by decide) (htb _ mw_116) (fun _ h9 => h9) rfl dX1_putInOrder_32 ?_
          refine lv_iload_n hx hb dX1_putInOrder_35 rfl (lv_at hl 0 rfl) ?_
          refine lv_iconst (v := 1) hx hb dX1_putInOrder_36 (by decide) ?_
          refine lv_isub hx hb dX1_putInOrder_37 ?_
          rw [nI_pred]
          refine us_iald (f := oo) hx hb hK hP 7 1 rfl rfl hp3 (by decide) dX1_putInOrder_38 ?_
          refine us_iast (f := oo) hx hb hK hP hD hS 7 1 rfl rfl hp2 (by decide) dX1_putInOrder_39 (fun H_6 locs hP hD hS => ?_)
          have hP : va_P (dC, dI) vwCl (us_W ad cU cI pa nu nm nk (va_up (va_up F 5 oo) 5 (upd oo (po + 1) (oo po))) U) H_6 := hP
          have hD : va_D (us_AA (us_ads ad pa) s.heap.size) (us_W ad cU cI pa nu nm nk (va_up (va_up F 5 oo) 5 (upd oo (po + 1) (oo po))) U) := hD
          refine lv_iinc (v := (nI po)) (lv' := [(3, .int (nI po)), (0, .ref (ad 0)), (1, .int p1), (2, .int p2)]) hx hb dX1_putInOrder_40 hl (k := 0) rfl (pk_m1 po) (by decide) rfl (fun ls hl => ?_)
          refine lv_goto (tgt := 5) hx hb dX1_putInOrder_43 (by decide) ?_
          rw [us_up_up] at hP hD
          refine ih (upd oo (po + 1) (oo po)) _ _ _ (by omega) (us_ins_ok hO en hn) ?_ hP hD hS (lv_sub hl [0, 1, 2, 3] rfl)
          rw [← hR, sp_ins, en, nI_clamp (by omega), if_neg c_4]
  refine lv_aload_n hx hb dX1_putInOrder_0 rfl (lv_at hl 0 rfl) ?_
  refine va_get (D := (dC, dI)) (ci := 1) (v := .int (nI nm)) (C := RX1) (T := TX1) (N := 10) hx hb htb us_inX1 hown hK hP 0 rfl rfl 8 (by decide) (htb _ mw_117) (fun _ h9 => h9) rfl dX1_putInOrder_1 ?_
  refine lv_istore_n (lv' := [(3, .int (nI nm)), (0, .ref (ad 0)), (1, .int p1), (2, .int p2)]) hx hb dX1_putInOrder_4 rfl hl (by decide) rfl (fun ls hl => ?_)
  exact lp5 nm (F 5) _ _ _ (Nat.le_refl _) hO rfl (by rw [us_up_self]; exact hP) (by rw [us_up_self]; exact hD) hS (lv_sub hl [0, 1, 2, 3] rfl)
