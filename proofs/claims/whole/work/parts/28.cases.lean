set_option maxHeartbeats 8000000 in
set_option maxRecDepth 100000 in
theorem lw_c_unit {p : Program} {l : Launch} {e : Env} {s : State} {m : MethodId} {below : List Frame} {meth : Method} {c : Code} {dC : Nat → ClassId} {dI : Nat → Nat → Nat} {ad : Nat → Nat} {cU cI : ClassId} {pa md : Nat → Nat} {cM : ClassId} {ao : Nat} {cJ : ClassId} {b L : Nat} {xs : Nat → Int32} {Q : State → Prop} (hl9 : l.stackTraces = false) (hL : L ≤ 2560) (C0 : lw_At p s m meth c b L xs) (X0 : lw_X dC dI ad cU cI pa md cM ao cJ s) (k : Nat) (hk : 5 * k + 5 ≤ L) {H : Heap} {locs : List Loc} {ls : Array Slot} (hJ : lw_J dC dI ad cU cI pa md cM ao cJ H) (hS : va_S (us_new s.heap.size) s.heap H locs) (hl : lv_has ls 7 [(4, .int (nI (5 * k))), (3, .ref ao), (2, .ref (md 0)), (1, .ref (ad 0)), (0, .ref b)])
    (kk : ∀ (H1 : Heap) (locs1 : List Loc) (ls1 : Array Slot), lw_J dC dI ad cU cI pa md cM ao cJ H1 → va_S (us_new s.heap.size) s.heap H1 locs1 → lv_has ls1 7 [(4, .int (nI (5 * k))), (3, .ref ao), (2, .ref (md 0)), (1, .ref (ad 0)), (0, .ref b)] → W p l e room_1 s m #[Value.ref b] below meth c H1 locs1 (46 + 2 * k + 2) (2544 + 12 * k + 12) Q (F0 m 796 ls1 [])) : W p l e room_1 s m #[Value.ref b] below meth c H locs (46 + 2 * k) (2544 + 12 * k) Q (F0 m 92 ls []) := by
  obtain ⟨hx, hb, hr, hml, hown, hts, hX, hbl, hlocks, hgv⟩ := C0
  obtain ⟨hK, hKm, hKJ, hE, hD0, hDm0, hao0, hao, haom, hdis⟩ := X0
  obtain ⟨nu, nm, nk, th, F, U, G, v, o, hP, hPm, hOut, hB2, hH⟩ := hJ
  have htb : ∀ w ∈ us_big, w.before #[Value.ref b] s = true := fun w hw => hts w (List.mem_filter.mp hw).1
  have hown : s.vm.findClass RL = some m.cls := hown
  have hbA : ¬ us_new s.heap.size b := Nat.not_le.mpr hbl
  have hnu := hB2.1
  have hnm := hB2.2.1
  have hO : ∀ p, p < nm → ∃ n, n < nm ∧ F 5 p = nI n := hB2.2.2.2.2.2.2.1
  have hVm : ∀ m, m < nm → ∃ j, j < nu ∧ G 2 m = nI j := fun n hn => (hB2.2.2.2.2.2.2.2.2.2 n hn).1
  have hV : ∀ n, n < nm → ∃ j, j < nu ∧ F 0 n = nI j := by rw [hB2.2.2.1]; exact hVm
  have hD : va_D (us_new s.heap.size) (us_W ad cU cI pa nu nm nk F U) := us_D_of (by rw [us_W_adr, us_W_adr]) hD0
  have hga := lw_ge hD0 us_W_adr
  have hgm := lw_ge hDm0 um_W_adr
  have hgc := lw_cons hao0 hga
  obtain ⟨p1, ep1⟩ : ∃ y : Int32, y = xs (5 * k + 1) := ⟨_, rfl⟩
  obtain ⟨p2, ep2⟩ : ∃ y : Int32, y = xs (5 * k + 2) := ⟨_, rfl⟩
  refine lv_aload_n hx hb dL_law_92 rfl (lv_at hl 3 rfl) ?_
  refine lv_aload_n hx hb dL_law_93 rfl (lv_at hl 4 rfl) ?_
  refine lv_iload hx hb dL_law_94 (lv_at hl 0 rfl) ?_
  refine lv_iconst (v := 1) hx hb dL_law_96 (by decide) ?_
  refine lv_iadd hx hb dL_law_97 ?_
  refine lw_sld hx hb hX hbl hbA hS (5 * k + 1) (y := p1) (nI_1 _) (by omega) hL ep1 dL_law_98 ?_
  refine lv_aload_n hx hb dL_law_99 rfl (lv_at hl 4 rfl) ?_
  refine lv_iload hx hb dL_law_100 (lv_at hl 0 rfl) ?_
  refine lv_iconst (v := 2) hx hb dL_law_102 (by decide) ?_
  refine lv_iadd hx hb dL_law_103 ?_
  refine lw_sld hx hb hX hbl hbA hS (5 * k + 2) (y := p2) (nI_add _ 2) (by omega) hL ep2 dL_law_104 ?_
  refine lv_aload_n hx hb dL_law_105 rfl (lv_at hl 1 rfl) ?_
  refine va_calli (vx_runSW (As := [.ref (ad 0), .int p1, .int p2, .ref ao]) (rest := []) ⟨hx, hb, hml, hown, htb⟩ (kt_L_unit l hl9 dC dI ad cU cI pa H.size nu nm nk F U ao cJ o p1 p2 hnu hao) (vx_cwSW 4 htb (us_gSW mw_140 mw_141 mw_31 mw_142) rfl rfl rfl (by decide +kernel) ⟨Nat.le_of_ble_eq_true rfl, Nat.le_of_ble_eq_true rfl⟩) ⟨lh_blind, fun U hU hW => ⟨rfl, us_Px_at hP hK hD hE hS (lw_AA hgc hS.1) hU hW, by rw [hU]; exact hOut, va_K.moved hW.alike hKJ⟩⟩ rfl rfl hl.1 rfl (lv_room (Nat.le_of_ble_eq_true rfl)) dL_law_106 ⟨by show 46 + 2 * k + 1 ≤ 601024; omega, by show 2544 + 12 * k + 6 ≤ 7293034; omega⟩) hS (fun q _ h => lw_AA hgc hS.1 q h) (lw_AA hgc hS.1) (fun r5 _ t H1 locs ht hvm hw hB hz1 hk1 hS => ?_)
  refine W.widen (k := 46 + 2 * k + 2) (n := 2544 + 12 * k + 12) (by omega) (by omega) ?_
  obtain rfl : r5 = um_unitK p1 p2 nu := hw.trans (lw_unitE hnu).symm
  have hkz : um_unitK p1 p2 nu = 0 ↔ sp_unitK p1 p2 nu = 0 := lw_unitZ hnu
  have hPm := lh_keep hPm (lw_notin haom hdis) hk1
  by_cases h0 : um_unitK p1 p2 nu = 0
  · have hz : sp_unitK p1 p2 nu = 0 := hkz.mp h0
    obtain ⟨hB, o2, hOut, ho⟩ := hB.1 hz
    have hP := us_Bx_use ht hB
    rw [ht] at hOut
    have hPm : va_P (dC, dI) vwCl (um_W md cM th nu nm nk G v) H1 := hPm
    have hDm : va_D (us_new s.heap.size) (um_W md cM th nu nm nk G v) := us_D_of (by rw [um_W_adr, um_W_adr]) hDm0
    refine lv_istore (lv' := [(5, .int (um_unitK p1 p2 nu)), (4, .int (nI (5 * k))), (3, .ref ao), (2, .ref (md 0)), (1, .ref (ad 0)), (0, .ref b)]) hx hb dL_law_109 hl (by decide) rfl (fun ls hl => ?_)
    refine lv_aload_n hx hb dL_law_111 rfl (lv_at hl 3 rfl) ?_
    refine lv_aload_n hx hb dL_law_112 rfl (lv_at hl 5 rfl) ?_
    refine lv_iload hx hb dL_law_113 (lv_at hl 1 rfl) ?_
    refine lv_iconst (v := 1) hx hb dL_law_115 (by decide) ?_
    refine lv_iadd hx hb dL_law_116 ?_
    refine lw_sld hx hb hX hbl hbA hS (5 * k + 1) (y := p1) (nI_1 _) (by omega) hL ep1 dL_law_117 ?_
    refine lv_aload_n hx hb dL_law_118 rfl (lv_at hl 5 rfl) ?_
    refine lv_iload hx hb dL_law_119 (lv_at hl 1 rfl) ?_
    refine lv_iconst (v := 2) hx hb dL_law_121 (by decide) ?_
    refine lv_iadd hx hb dL_law_122 ?_
    refine lw_sld hx hb hX hbl hbA hS (5 * k + 2) (y := p2) (nI_add _ 2) (by omega) hL ep2 dL_law_123 ?_
    refine va_calli (va_runV (As := [.int p1, .int p2]) (rest := []) ⟨hx, hb, hml, hown, htb⟩ (kt_X2_unit l dC dI md cM H1.size th nu nm nk G v p1 p2 hnu) (cwV 2 htb (us_gV mw_497 mw_498 mw_499 mw_34 mw_500) rfl rfl rfl (by decide +kernel) ⟨Nat.le_of_ble_eq_true rfl, Nat.le_of_ble_eq_true rfl⟩) ⟨um_P_blind, va_recv hKm hPm (ci := 2) (q0 := 0) rfl rfl, fun U hU hW => ⟨rfl, um_P_at hPm hKm hDm hU hW⟩⟩ rfl rfl hl.1 rfl (lv_room (Nat.le_of_ble_eq_true rfl)) dL_law_124 ⟨by show 46 + 2 * k + 2 + 0 ≤ 601024; omega, by show 2544 + 12 * k + 12 + 0 ≤ 7293034; omega⟩) hS (fun q _ h => lw_AA hgm hS.1 q h) (lw_AA hgm hS.1) (fun r6 _ t H2 locs ht hvm hw hB hz1 hk1 hS => ?_)
    obtain ⟨v2, rfl⟩ : ∃ v2, v2 = v := ⟨_, rfl⟩
    have hP := lh_keep hP (by rw [us_W_adr]; exact hdis) hk1
    have hOut := lh_keep hOut (fun x h => by cases List.mem_singleton.mp h; exact haom) hk1
    have hPm : va_P (dC, dI) vwCl (um_W md cM (um_unitK p1 p2 nu) (nu + 1) nm nk (um_unitG nu G p1 p2) v2) H2 := um_W_to (um_B_use ht hB) (if_pos h0) rfl rfl (if_pos h0)
    have hDm : va_D (us_new s.heap.size) (um_W md cM (um_unitK p1 p2 nu) (nu + 1) nm nk (um_unitG nu G p1 p2) v2) := us_D_of (by rw [um_W_adr, um_W_adr]) hDm0
    have he : o2 0 = r6.toInt64 := by rw [ho, hw h0]
    refine lv_istore (lv' := [(6, .int r6), (5, .int (um_unitK p1 p2 nu)), (4, .int (nI (5 * k))), (3, .ref ao), (2, .ref (md 0)), (1, .ref (ad 0)), (0, .ref b)]) hx hb dL_law_127 hl (by decide) rfl (fun ls hl => ?_)
    refine lv_aload_n hx hb dL_law_129 rfl (lv_at hl 4 rfl) ?_
    refine va_calli (va_runV (As := []) (rest := []) ⟨hx, hb, hml, hown, htb⟩ (kt_X2_thrown l dC dI md cM H2.size (um_unitK p1 p2 nu) (nu + 1) nm nk (um_unitG nu G p1 p2) v2) (cwV 0 htb (us_gV mw_493 mw_494 mw_495 mw_34 mw_496) rfl rfl rfl (by decide +kernel) ⟨Nat.le_of_ble_eq_true rfl, Nat.le_of_ble_eq_true rfl⟩) ⟨um_P_blind, va_recv hKm hPm (ci := 2) (q0 := 0) rfl rfl, fun U hU hW => ⟨rfl, um_P_at hPm hKm hDm hU hW⟩⟩ rfl rfl hl.1 rfl (lv_room (Nat.le_of_ble_eq_true rfl)) dL_law_130 ⟨by show 46 + 2 * k + 2 + 0 ≤ 601024; omega, by show 2544 + 12 * k + 12 + 0 ≤ 7293034; omega⟩) hS (fun q h1 h2 => absurd h2 (Nat.not_le.mpr h1)) (fun q h => Nat.le_trans hS.1 h) (fun r7 _ t H3 locs ht hvm hw hB hz1 hk1 hS => ?_)
    subst hw
    have hP := us_mono hP (fun q h => hk1 q h (Nat.not_le.mpr h))
    have hPm := us_mono hPm (fun q h => hk1 q h (Nat.not_le.mpr h))
    have hOut := us_mono hOut (fun q h => hk1 q h (Nat.not_le.mpr h))
    refine lv_iload hx hb dL_law_133 (lv_at hl 1 rfl) ?_
    refine lv_icmp_eq (tgt := 140) hx hb dL_law_135 (by decide) (fun c_1 => ?_) (fun c_1 => ?_)
    · refine lv_iload hx hb dL_law_140 (lv_at hl 1 rfl) ?_
      refine lv_if_ne (tgt := 157) hx hb dL_law_142 (by decide) (fun c_2 => ?_) (fun c_2 => ?_)
      · exact absurd h0 c_2
      · refine lv_aload_n hx hb dL_law_145 rfl (lv_at hl 3 rfl) ?_
        refine lv_iconst (v := 0) hx hb dL_law_146 (by decide) ?_
        refine va_lald hx hb hKJ hOut 0 0 rfl rfl (vp_in_nI (n := 0) (N := 1) (by decide) (by decide)) dL_law_147 ?_
        refine lv_iload hx hb dL_law_148 (lv_at hl 0 rfl) ?_
        refine lv_i2l hx hb dL_law_150 rfl ?_
        refine W.lcmp hx hb dL_law_151 ?_
        refine lv_if_eq (tgt := 157) hx hb dL_law_152 (by decide) (fun c_3 => ?_) (fun c_3 => ?_)
        · refine lv_goto (tgt := 796) hx hb dL_law_157 (by decide) ?_
          obtain ⟨hB3, hH3⟩ := (show _ ∧ _ from (um_unit_keep hB2 hH (lw_unitL hnu hz) p1 p2))
          exact kk _ _ _ ⟨_, _, _, _, _, _, _, _, _, hP, hPm, hOut, hB3, hH3⟩ hS (lv_sub hl [2, 3, 4, 5, 6] rfl)
        · exact absurd (lw_cmp he) c_3
    · exact absurd rfl c_1
  · have hz : ¬ sp_unitK p1 p2 nu = 0 := fun h => h0 (hkz.mpr h)
    obtain ⟨hB, o2, hOut, ho⟩ := hB.2 hz
    have hP := us_Bx_use ht hB
    rw [ht] at hOut
    have hPm : va_P (dC, dI) vwCl (um_W md cM th nu nm nk G v) H1 := hPm
    have hDm : va_D (us_new s.heap.size) (um_W md cM th nu nm nk G v) := us_D_of (by rw [um_W_adr, um_W_adr]) hDm0
    refine lv_istore (lv' := [(5, .int (um_unitK p1 p2 nu)), (4, .int (nI (5 * k))), (3, .ref ao), (2, .ref (md 0)), (1, .ref (ad 0)), (0, .ref b)]) hx hb dL_law_109 hl (by decide) rfl (fun ls hl => ?_)
    refine lv_aload_n hx hb dL_law_111 rfl (lv_at hl 3 rfl) ?_
    refine lv_aload_n hx hb dL_law_112 rfl (lv_at hl 5 rfl) ?_
    refine lv_iload hx hb dL_law_113 (lv_at hl 1 rfl) ?_
    refine lv_iconst (v := 1) hx hb dL_law_115 (by decide) ?_
    refine lv_iadd hx hb dL_law_116 ?_
    refine lw_sld hx hb hX hbl hbA hS (5 * k + 1) (y := p1) (nI_1 _) (by omega) hL ep1 dL_law_117 ?_
    refine lv_aload_n hx hb dL_law_118 rfl (lv_at hl 5 rfl) ?_
    refine lv_iload hx hb dL_law_119 (lv_at hl 1 rfl) ?_
    refine lv_iconst (v := 2) hx hb dL_law_121 (by decide) ?_
    refine lv_iadd hx hb dL_law_122 ?_
    refine lw_sld hx hb hX hbl hbA hS (5 * k + 2) (y := p2) (nI_add _ 2) (by omega) hL ep2 dL_law_123 ?_
    refine va_calli (va_runV (As := [.int p1, .int p2]) (rest := []) ⟨hx, hb, hml, hown, htb⟩ (kt_X2_unit l dC dI md cM H1.size th nu nm nk G v p1 p2 hnu) (cwV 2 htb (us_gV mw_497 mw_498 mw_499 mw_34 mw_500) rfl rfl rfl (by decide +kernel) ⟨Nat.le_of_ble_eq_true rfl, Nat.le_of_ble_eq_true rfl⟩) ⟨um_P_blind, va_recv hKm hPm (ci := 2) (q0 := 0) rfl rfl, fun U hU hW => ⟨rfl, um_P_at hPm hKm hDm hU hW⟩⟩ rfl rfl hl.1 rfl (lv_room (Nat.le_of_ble_eq_true rfl)) dL_law_124 ⟨by show 46 + 2 * k + 2 + 0 ≤ 601024; omega, by show 2544 + 12 * k + 12 + 0 ≤ 7293034; omega⟩) hS (fun q _ h => lw_AA hgm hS.1 q h) (lw_AA hgm hS.1) (fun r6 _ t H2 locs ht hvm hw hB hz1 hk1 hS => ?_)
    obtain ⟨v2, rfl⟩ : ∃ v2, v2 = v := ⟨_, rfl⟩
    have hP := lh_keep hP (by rw [us_W_adr]; exact hdis) hk1
    have hOut := lh_keep hOut (fun x h => by cases List.mem_singleton.mp h; exact haom) hk1
    have hPm : va_P (dC, dI) vwCl (um_W md cM (um_unitK p1 p2 nu) nu nm nk G v2) H2 := um_W_to (um_B_use ht hB) (if_neg h0) rfl rfl (if_neg h0)
    have hDm : va_D (us_new s.heap.size) (um_W md cM (um_unitK p1 p2 nu) nu nm nk G v2) := us_D_of (by rw [um_W_adr, um_W_adr]) hDm0
    refine lv_istore (lv' := [(6, .int r6), (5, .int (um_unitK p1 p2 nu)), (4, .int (nI (5 * k))), (3, .ref ao), (2, .ref (md 0)), (1, .ref (ad 0)), (0, .ref b)]) hx hb dL_law_127 hl (by decide) rfl (fun ls hl => ?_)
    refine lv_aload_n hx hb dL_law_129 rfl (lv_at hl 4 rfl) ?_
    refine va_calli (va_runV (As := []) (rest := []) ⟨hx, hb, hml, hown, htb⟩ (kt_X2_thrown l dC dI md cM H2.size (um_unitK p1 p2 nu) nu nm nk G v2) (cwV 0 htb (us_gV mw_493 mw_494 mw_495 mw_34 mw_496) rfl rfl rfl (by decide +kernel) ⟨Nat.le_of_ble_eq_true rfl, Nat.le_of_ble_eq_true rfl⟩) ⟨um_P_blind, va_recv hKm hPm (ci := 2) (q0 := 0) rfl rfl, fun U hU hW => ⟨rfl, um_P_at hPm hKm hDm hU hW⟩⟩ rfl rfl hl.1 rfl (lv_room (Nat.le_of_ble_eq_true rfl)) dL_law_130 ⟨by show 46 + 2 * k + 2 + 0 ≤ 601024; omega, by show 2544 + 12 * k + 12 + 0 ≤ 7293034; omega⟩) hS (fun q h1 h2 => absurd h2 (Nat.not_le.mpr h1)) (fun q h => Nat.le_trans hS.1 h) (fun r7 _ t H3 locs ht hvm hw hB hz1 hk1 hS => ?_)
    subst hw
    have hP := us_mono hP (fun q h => hk1 q h (Nat.not_le.mpr h))
    have hPm := us_mono hPm (fun q h => hk1 q h (Nat.not_le.mpr h))
    have hOut := us_mono hOut (fun q h => hk1 q h (Nat.not_le.mpr h))
    refine lv_iload hx hb dL_law_133 (lv_at hl 1 rfl) ?_
    refine lv_icmp_eq (tgt := 140) hx hb dL_law_135 (by decide) (fun c_4 => ?_) (fun c_4 => ?_)
    · refine lv_iload hx hb dL_law_140 (lv_at hl 1 rfl) ?_
      refine lv_if_ne (tgt := 157) hx hb dL_law_142 (by decide) (fun c_5 => ?_) (fun c_5 => ?_)
      · refine lv_goto (tgt := 796) hx hb dL_law_157 (by decide) ?_
        exact kk _ _ _ ⟨_, _, _, _, _, _, _, _, _, hP, hPm, hOut, hB2, hH⟩ hS (lv_sub hl [2, 3, 4, 5, 6] rfl)
      · exact absurd c_5 h0
    · exact absurd rfl c_4
set_option maxHeartbeats 8000000 in
set_option maxRecDepth 100000 in
theorem lw_c_message {p : Program} {l : Launch} {e : Env} {s : State} {m : MethodId} {below : List Frame} {meth : Method} {c : Code} {dC : Nat → ClassId} {dI : Nat → Nat → Nat} {ad : Nat → Nat} {cU cI : ClassId} {pa md : Nat → Nat} {cM : ClassId} {ao : Nat} {cJ : ClassId} {b L : Nat} {xs : Nat → Int32} {Q : State → Prop} (hl9 : l.stackTraces = false) (hL : L ≤ 2560) (C0 : lw_At p s m meth c b L xs) (X0 : lw_X dC dI ad cU cI pa md cM ao cJ s) (k : Nat) (hk : 5 * k + 5 ≤ L) {H : Heap} {locs : List Loc} {ls : Array Slot} (hJ : lw_J dC dI ad cU cI pa md cM ao cJ H) (hS : va_S (us_new s.heap.size) s.heap H locs) (hl : lv_has ls 7 [(4, .int (nI (5 * k))), (3, .ref ao), (2, .ref (md 0)), (1, .ref (ad 0)), (0, .ref b)])
    (kk : ∀ (H1 : Heap) (locs1 : List Loc) (ls1 : Array Slot), lw_J dC dI ad cU cI pa md cM ao cJ H1 → va_S (us_new s.heap.size) s.heap H1 locs1 → lv_has ls1 7 [(4, .int (nI (5 * k))), (3, .ref ao), (2, .ref (md 0)), (1, .ref (ad 0)), (0, .ref b)] → W p l e room_1 s m #[Value.ref b] below meth c H1 locs1 (46 + 2 * k + 2) (2544 + 12 * k + 12) Q (F0 m 796 ls1 [])) : W p l e room_1 s m #[Value.ref b] below meth c H locs (46 + 2 * k) (2544 + 12 * k) Q (F0 m 160 ls []) := by
  obtain ⟨hx, hb, hr, hml, hown, hts, hX, hbl, hlocks, hgv⟩ := C0
  obtain ⟨hK, hKm, hKJ, hE, hD0, hDm0, hao0, hao, haom, hdis⟩ := X0
  obtain ⟨nu, nm, nk, th, F, U, G, v, o, hP, hPm, hOut, hB2, hH⟩ := hJ
  have htb : ∀ w ∈ us_big, w.before #[Value.ref b] s = true := fun w hw => hts w (List.mem_filter.mp hw).1
  have hown : s.vm.findClass RL = some m.cls := hown
  have hbA : ¬ us_new s.heap.size b := Nat.not_le.mpr hbl
  have hnu := hB2.1
  have hnm := hB2.2.1
  have hO : ∀ p, p < nm → ∃ n, n < nm ∧ F 5 p = nI n := hB2.2.2.2.2.2.2.1
  have hVm : ∀ m, m < nm → ∃ j, j < nu ∧ G 2 m = nI j := fun n hn => (hB2.2.2.2.2.2.2.2.2.2 n hn).1
  have hV : ∀ n, n < nm → ∃ j, j < nu ∧ F 0 n = nI j := by rw [hB2.2.2.1]; exact hVm
  have hD : va_D (us_new s.heap.size) (us_W ad cU cI pa nu nm nk F U) := us_D_of (by rw [us_W_adr, us_W_adr]) hD0
  have hga := lw_ge hD0 us_W_adr
  have hgm := lw_ge hDm0 um_W_adr
  have hgc := lw_cons hao0 hga
  obtain ⟨p1, ep1⟩ : ∃ y : Int32, y = xs (5 * k + 1) := ⟨_, rfl⟩
  obtain ⟨p2, ep2⟩ : ∃ y : Int32, y = xs (5 * k + 2) := ⟨_, rfl⟩
  obtain ⟨p3, ep3⟩ : ∃ y : Int32, y = xs (5 * k + 3) := ⟨_, rfl⟩
  obtain ⟨p4, ep4⟩ : ∃ y : Int32, y = xs (5 * k + 4) := ⟨_, rfl⟩
  refine lv_aload_n hx hb dL_law_160 rfl (lv_at hl 3 rfl) ?_
  refine lv_aload_n hx hb dL_law_161 rfl (lv_at hl 4 rfl) ?_
  refine lv_iload hx hb dL_law_162 (lv_at hl 0 rfl) ?_
  refine lv_iconst (v := 1) hx hb dL_law_164 (by decide) ?_
  refine lv_iadd hx hb dL_law_165 ?_
  refine lw_sld hx hb hX hbl hbA hS (5 * k + 1) (y := p1) (nI_1 _) (by omega) hL ep1 dL_law_166 ?_
  refine lv_aload_n hx hb dL_law_167 rfl (lv_at hl 4 rfl) ?_
  refine lv_iload hx hb dL_law_168 (lv_at hl 0 rfl) ?_
  refine lv_iconst (v := 2) hx hb dL_law_170 (by decide) ?_
  refine lv_iadd hx hb dL_law_171 ?_
  refine lw_sld hx hb hX hbl hbA hS (5 * k + 2) (y := p2) (nI_add _ 2) (by omega) hL ep2 dL_law_172 ?_
  refine lv_aload_n hx hb dL_law_173 rfl (lv_at hl 4 rfl) ?_
  refine lv_iload hx hb dL_law_174 (lv_at hl 0 rfl) ?_
  refine lv_iconst (v := 3) hx hb dL_law_176 (by decide) ?_
  refine lv_iadd hx hb dL_law_177 ?_
  refine lw_sld hx hb hX hbl hbA hS (5 * k + 3) (y := p3) (nI_add _ 3) (by omega) hL ep3 dL_law_178 ?_
  refine lv_aload_n hx hb dL_law_179 rfl (lv_at hl 4 rfl) ?_
  refine lv_iload hx hb dL_law_180 (lv_at hl 0 rfl) ?_
  refine lv_iconst (v := 4) hx hb dL_law_182 (by decide) ?_
  refine lv_iadd hx hb dL_law_183 ?_
  refine lw_sld hx hb hX hbl hbA hS (5 * k + 4) (y := p4) (nI_add _ 4) (by omega) hL ep4 dL_law_184 ?_
  refine lv_aload_n hx hb dL_law_185 rfl (lv_at hl 1 rfl) ?_
  refine va_calli (vx_runSW (As := [.ref (ad 0), .int p1, .int p2, .int p3, .int p4, .ref ao]) (rest := []) ⟨hx, hb, hml, hown, htb⟩ (kt_L_message l hl9 dC dI ad cU cI pa H.size nu nm nk F U ao cJ o p1 p2 p3 p4 hnu hnm hO hV hao) (vx_cwSW 6 htb (us_gSW mw_241 mw_242 mw_31 mw_243) rfl rfl rfl (by decide +kernel) ⟨Nat.le_of_ble_eq_true rfl, Nat.le_of_ble_eq_true rfl⟩) ⟨lh_blind, fun U hU hW => ⟨rfl, us_Px_at hP hK hD hE hS (lw_AA hgc hS.1) hU hW, by rw [hU]; exact hOut, va_K.moved hW.alike hKJ⟩⟩ rfl rfl hl.1 rfl (lv_room (Nat.le_of_ble_eq_true rfl)) dL_law_186 ⟨by show 46 + 2 * k + 2 ≤ 601024; omega, by show 2544 + 12 * k + 12 ≤ 7293034; omega⟩) hS (fun q _ h => lw_AA hgc hS.1 q h) (lw_AA hgc hS.1) (fun r5 _ t H1 locs ht hvm hw hB hz1 hk1 hS => ?_)
  refine W.widen (k := 46 + 2 * k + 2) (n := 2544 + 12 * k + 12) (by omega) (by omega) ?_
  obtain rfl : r5 = um_msgK p1 p2 p3 p4 nu nm := hw.trans (um_msgK_eq hnu hnm).symm
  have hkz : um_msgK p1 p2 p3 p4 nu nm = 0 ↔ sp_msgK p1 p2 p3 p4 nu nm = 0 := by rw [(um_msgK_eq hnu hnm)]
  have hPm := lh_keep hPm (lw_notin haom hdis) hk1
  by_cases h0 : um_msgK p1 p2 p3 p4 nu nm = 0
  · have hz : sp_msgK p1 p2 p3 p4 nu nm = 0 := hkz.mp h0
    obtain ⟨hB, o2, hOut, ho⟩ := hB.1 hz
    have hP := us_Bx_use ht hB
    rw [ht] at hOut
    have hPm : va_P (dC, dI) vwCl (um_W md cM th nu nm nk G v) H1 := hPm
    have hDm : va_D (us_new s.heap.size) (um_W md cM th nu nm nk G v) := us_D_of (by rw [um_W_adr, um_W_adr]) hDm0
    refine lv_istore (lv' := [(5, .int (um_msgK p1 p2 p3 p4 nu nm)), (4, .int (nI (5 * k))), (3, .ref ao), (2, .ref (md 0)), (1, .ref (ad 0)), (0, .ref b)]) hx hb dL_law_189 hl (by decide) rfl (fun ls hl => ?_)
    refine lv_aload_n hx hb dL_law_191 rfl (lv_at hl 3 rfl) ?_
    refine lv_aload_n hx hb dL_law_192 rfl (lv_at hl 5 rfl) ?_
    refine lv_iload hx hb dL_law_193 (lv_at hl 1 rfl) ?_
    refine lv_iconst (v := 1) hx hb dL_law_195 (by decide) ?_
    refine lv_iadd hx hb dL_law_196 ?_
    refine lw_sld hx hb hX hbl hbA hS (5 * k + 1) (y := p1) (nI_1 _) (by omega) hL ep1 dL_law_197 ?_
    refine lv_aload_n hx hb dL_law_198 rfl (lv_at hl 5 rfl) ?_
    refine lv_iload hx hb dL_law_199 (lv_at hl 1 rfl) ?_
    refine lv_iconst (v := 2) hx hb dL_law_201 (by decide) ?_
    refine lv_iadd hx hb dL_law_202 ?_
    refine lw_sld hx hb hX hbl hbA hS (5 * k + 2) (y := p2) (nI_add _ 2) (by omega) hL ep2 dL_law_203 ?_
    refine lv_aload_n hx hb dL_law_204 rfl (lv_at hl 5 rfl) ?_
    refine lv_iload hx hb dL_law_205 (lv_at hl 1 rfl) ?_
    refine lv_iconst (v := 3) hx hb dL_law_207 (by decide) ?_
    refine lv_iadd hx hb dL_law_208 ?_
    refine lw_sld hx hb hX hbl hbA hS (5 * k + 3) (y := p3) (nI_add _ 3) (by omega) hL ep3 dL_law_209 ?_
    refine lv_aload_n hx hb dL_law_210 rfl (lv_at hl 5 rfl) ?_
    refine lv_iload hx hb dL_law_211 (lv_at hl 1 rfl) ?_
    refine lv_iconst (v := 4) hx hb dL_law_213 (by decide) ?_
    refine lv_iadd hx hb dL_law_214 ?_
    refine lw_sld hx hb hX hbl hbA hS (5 * k + 4) (y := p4) (nI_add _ 4) (by omega) hL ep4 dL_law_215 ?_
    refine va_calli (va_runV (As := [.int p1, .int p2, .int p3, .int p4]) (rest := []) ⟨hx, hb, hml, hown, htb⟩ (kt_X2_message l dC dI md cM H1.size th nu nm nk G v p1 p2 p3 p4 hnm) (cwV 4 htb (us_gV mw_508 mw_509 mw_510 mw_34 mw_511) rfl rfl rfl (by decide +kernel) ⟨Nat.le_of_ble_eq_true rfl, Nat.le_of_ble_eq_true rfl⟩) ⟨um_P_blind, va_recv hKm hPm (ci := 2) (q0 := 0) rfl rfl, fun U hU hW => ⟨rfl, um_P_at hPm hKm hDm hU hW⟩⟩ rfl rfl hl.1 rfl (lv_room (Nat.le_of_ble_eq_true rfl)) dL_law_216 ⟨by show 46 + 2 * k + 2 + 0 ≤ 601024; omega, by show 2544 + 12 * k + 12 + 0 ≤ 7293034; omega⟩) hS (fun q _ h => lw_AA hgm hS.1 q h) (lw_AA hgm hS.1) (fun r6 _ t H2 locs ht hvm hw hB hz1 hk1 hS => ?_)
    obtain ⟨v2, rfl⟩ : ∃ v2, v2 = v := ⟨_, rfl⟩
    have hP := lh_keep hP (by rw [us_W_adr]; exact hdis) hk1
    have hOut := lh_keep hOut (fun x h => by cases List.mem_singleton.mp h; exact haom) hk1
    have hPm : va_P (dC, dI) vwCl (um_W md cM (um_msgK p1 p2 p3 p4 nu nm) nu (nm + 1) nk (um_msgG nm G p1 p2 p3 p4) v2) H2 := um_W_to (um_B_use ht hB) rfl (if_pos h0) ((lw_sk hnu).trans (if_neg (lw_msgF hnu hnm hz).2.2.2.2.2)) (if_pos h0)
    have hDm : va_D (us_new s.heap.size) (um_W md cM (um_msgK p1 p2 p3 p4 nu nm) nu (nm + 1) nk (um_msgG nm G p1 p2 p3 p4) v2) := us_D_of (by rw [um_W_adr, um_W_adr]) hDm0
    have he : o2 0 = r6.toInt64 := by rw [ho, hw h0]
    refine lv_istore (lv' := [(6, .int r6), (5, .int (um_msgK p1 p2 p3 p4 nu nm)), (4, .int (nI (5 * k))), (3, .ref ao), (2, .ref (md 0)), (1, .ref (ad 0)), (0, .ref b)]) hx hb dL_law_219 hl (by decide) rfl (fun ls hl => ?_)
    refine lv_aload_n hx hb dL_law_221 rfl (lv_at hl 4 rfl) ?_
    refine va_calli (va_runV (As := []) (rest := []) ⟨hx, hb, hml, hown, htb⟩ (kt_X2_thrown l dC dI md cM H2.size (um_msgK p1 p2 p3 p4 nu nm) nu (nm + 1) nk (um_msgG nm G p1 p2 p3 p4) v2) (cwV 0 htb (us_gV mw_493 mw_494 mw_495 mw_34 mw_496) rfl rfl rfl (by decide +kernel) ⟨Nat.le_of_ble_eq_true rfl, Nat.le_of_ble_eq_true rfl⟩) ⟨um_P_blind, va_recv hKm hPm (ci := 2) (q0 := 0) rfl rfl, fun U hU hW => ⟨rfl, um_P_at hPm hKm hDm hU hW⟩⟩ rfl rfl hl.1 rfl (lv_room (Nat.le_of_ble_eq_true rfl)) dL_law_222 ⟨by show 46 + 2 * k + 2 + 0 ≤ 601024; omega, by show 2544 + 12 * k + 12 + 0 ≤ 7293034; omega⟩) hS (fun q h1 h2 => absurd h2 (Nat.not_le.mpr h1)) (fun q h => Nat.le_trans hS.1 h) (fun r7 _ t H3 locs ht hvm hw hB hz1 hk1 hS => ?_)
    subst hw
    have hP := us_mono hP (fun q h => hk1 q h (Nat.not_le.mpr h))
    have hPm := us_mono hPm (fun q h => hk1 q h (Nat.not_le.mpr h))
    have hOut := us_mono hOut (fun q h => hk1 q h (Nat.not_le.mpr h))
    refine lv_iload hx hb dL_law_225 (lv_at hl 1 rfl) ?_
    refine lv_icmp_eq (tgt := 232) hx hb dL_law_227 (by decide) (fun c_1 => ?_) (fun c_1 => ?_)
    · refine lv_iload hx hb dL_law_232 (lv_at hl 1 rfl) ?_
      refine lv_if_ne (tgt := 249) hx hb dL_law_234 (by decide) (fun c_2 => ?_) (fun c_2 => ?_)
      · exact absurd h0 c_2
      · refine lv_aload_n hx hb dL_law_237 rfl (lv_at hl 3 rfl) ?_
        refine lv_iconst (v := 0) hx hb dL_law_238 (by decide) ?_
        refine va_lald hx hb hKJ hOut 0 0 rfl rfl (vp_in_nI (n := 0) (N := 1) (by decide) (by decide)) dL_law_239 ?_
        refine lv_iload hx hb dL_law_240 (lv_at hl 0 rfl) ?_
        refine lv_i2l hx hb dL_law_242 rfl ?_
        refine W.lcmp hx hb dL_law_243 ?_
        refine lv_if_eq (tgt := 249) hx hb dL_law_244 (by decide) (fun c_3 => ?_) (fun c_3 => ?_)
        · refine lv_goto (tgt := 796) hx hb dL_law_249 (by decide) ?_
          obtain ⟨hB3, hH3⟩ := (show _ ∧ _ from (um_msg_keep hB2 hH (lw_msgF hnu hnm hz).1 (lw_msgF hnu hnm hz).2.1 (lw_msgF hnu hnm hz).2.2.1 (lw_msgF hnu hnm hz).2.2.2.1 (lw_msgF hnu hnm hz).2.2.2.2.1))
          exact kk _ _ _ ⟨_, _, _, _, _, _, _, _, _, hP, hPm, hOut, hB3, hH3⟩ hS (lv_sub hl [2, 3, 4, 5, 6] rfl)
        · exact absurd (lw_cmp he) c_3
    · exact absurd rfl c_1
  · have hz : ¬ sp_msgK p1 p2 p3 p4 nu nm = 0 := fun h => h0 (hkz.mpr h)
    obtain ⟨hB, o2, hOut, ho⟩ := hB.2 hz
    have hP := us_Bx_use ht hB
    rw [ht] at hOut
    have hPm : va_P (dC, dI) vwCl (um_W md cM th nu nm nk G v) H1 := hPm
    have hDm : va_D (us_new s.heap.size) (um_W md cM th nu nm nk G v) := us_D_of (by rw [um_W_adr, um_W_adr]) hDm0
    refine lv_istore (lv' := [(5, .int (um_msgK p1 p2 p3 p4 nu nm)), (4, .int (nI (5 * k))), (3, .ref ao), (2, .ref (md 0)), (1, .ref (ad 0)), (0, .ref b)]) hx hb dL_law_189 hl (by decide) rfl (fun ls hl => ?_)
    refine lv_aload_n hx hb dL_law_191 rfl (lv_at hl 3 rfl) ?_
    refine lv_aload_n hx hb dL_law_192 rfl (lv_at hl 5 rfl) ?_
    refine lv_iload hx hb dL_law_193 (lv_at hl 1 rfl) ?_
    refine lv_iconst (v := 1) hx hb dL_law_195 (by decide) ?_
    refine lv_iadd hx hb dL_law_196 ?_
    refine lw_sld hx hb hX hbl hbA hS (5 * k + 1) (y := p1) (nI_1 _) (by omega) hL ep1 dL_law_197 ?_
    refine lv_aload_n hx hb dL_law_198 rfl (lv_at hl 5 rfl) ?_
    refine lv_iload hx hb dL_law_199 (lv_at hl 1 rfl) ?_
    refine lv_iconst (v := 2) hx hb dL_law_201 (by decide) ?_
    refine lv_iadd hx hb dL_law_202 ?_
    refine lw_sld hx hb hX hbl hbA hS (5 * k + 2) (y := p2) (nI_add _ 2) (by omega) hL ep2 dL_law_203 ?_
    refine lv_aload_n hx hb dL_law_204 rfl (lv_at hl 5 rfl) ?_
    refine lv_iload hx hb dL_law_205 (lv_at hl 1 rfl) ?_
    refine lv_iconst (v := 3) hx hb dL_law_207 (by decide) ?_
    refine lv_iadd hx hb dL_law_208 ?_
    refine lw_sld hx hb hX hbl hbA hS (5 * k + 3) (y := p3) (nI_add _ 3) (by omega) hL ep3 dL_law_209 ?_
    refine lv_aload_n hx hb dL_law_210 rfl (lv_at hl 5 rfl) ?_
    refine lv_iload hx hb dL_law_211 (lv_at hl 1 rfl) ?_
    refine lv_iconst (v := 4) hx hb dL_law_213 (by decide) ?_
    refine lv_iadd hx hb dL_law_214 ?_
    refine lw_sld hx hb hX hbl hbA hS (5 * k + 4) (y := p4) (nI_add _ 4) (by omega) hL ep4 dL_law_215 ?_
    refine va_calli (va_runV (As := [.int p1, .int p2, .int p3, .int p4]) (rest := []) ⟨hx, hb, hml, hown, htb⟩ (kt_X2_message l dC dI md cM H1.size th nu nm nk G v p1 p2 p3 p4 hnm) (cwV 4 htb (us_gV mw_508 mw_509 mw_510 mw_34 mw_511) rfl rfl rfl (by decide +kernel) ⟨Nat.le_of_ble_eq_true rfl, Nat.le_of_ble_eq_true rfl⟩) ⟨um_P_blind, va_recv hKm hPm (ci := 2) (q0 := 0) rfl rfl, fun U hU hW => ⟨rfl, um_P_at hPm hKm hDm hU hW⟩⟩ rfl rfl hl.1 rfl (lv_room (Nat.le_of_ble_eq_true rfl)) dL_law_216 ⟨by show 46 + 2 * k + 2 + 0 ≤ 601024; omega, by show 2544 + 12 * k + 12 + 0 ≤ 7293034; omega⟩) hS (fun q _ h => lw_AA hgm hS.1 q h) (lw_AA hgm hS.1) (fun r6 _ t H2 locs ht hvm hw hB hz1 hk1 hS => ?_)
    obtain ⟨v2, rfl⟩ : ∃ v2, v2 = v := ⟨_, rfl⟩
    have hP := lh_keep hP (by rw [us_W_adr]; exact hdis) hk1
    have hOut := lh_keep hOut (fun x h => by cases List.mem_singleton.mp h; exact haom) hk1
    have hPm : va_P (dC, dI) vwCl (um_W md cM (um_msgK p1 p2 p3 p4 nu nm) nu nm (if sp_isU p1 nu = 0 then nk + 1 else nk) G v2) H2 := um_W_to (um_B_use ht hB) rfl (if_neg h0) (lw_sk hnu) (if_neg h0)
    have hDm : va_D (us_new s.heap.size) (um_W md cM (um_msgK p1 p2 p3 p4 nu nm) nu nm (if sp_isU p1 nu = 0 then nk + 1 else nk) G v2) := us_D_of (by rw [um_W_adr, um_W_adr]) hDm0
    refine lv_istore (lv' := [(6, .int r6), (5, .int (um_msgK p1 p2 p3 p4 nu nm)), (4, .int (nI (5 * k))), (3, .ref ao), (2, .ref (md 0)), (1, .ref (ad 0)), (0, .ref b)]) hx hb dL_law_219 hl (by decide) rfl (fun ls hl => ?_)
    refine lv_aload_n hx hb dL_law_221 rfl (lv_at hl 4 rfl) ?_
    refine va_calli (va_runV (As := []) (rest := []) ⟨hx, hb, hml, hown, htb⟩ (kt_X2_thrown l dC dI md cM H2.size (um_msgK p1 p2 p3 p4 nu nm) nu nm (if sp_isU p1 nu = 0 then nk + 1 else nk) G v2) (cwV 0 htb (us_gV mw_493 mw_494 mw_495 mw_34 mw_496) rfl rfl rfl (by decide +kernel) ⟨Nat.le_of_ble_eq_true rfl, Nat.le_of_ble_eq_true rfl⟩) ⟨um_P_blind, va_recv hKm hPm (ci := 2) (q0 := 0) rfl rfl, fun U hU hW => ⟨rfl, um_P_at hPm hKm hDm hU hW⟩⟩ rfl rfl hl.1 rfl (lv_room (Nat.le_of_ble_eq_true rfl)) dL_law_222 ⟨by show 46 + 2 * k + 2 + 0 ≤ 601024; omega, by show 2544 + 12 * k + 12 + 0 ≤ 7293034; omega⟩) hS (fun q h1 h2 => absurd h2 (Nat.not_le.mpr h1)) (fun q h => Nat.le_trans hS.1 h) (fun r7 _ t H3 locs ht hvm hw hB hz1 hk1 hS => ?_)
    subst hw
    have hP := us_mono hP (fun q h => hk1 q h (Nat.not_le.mpr h))
    have hPm := us_mono hPm (fun q h => hk1 q h (Nat.not_le.mpr h))
    have hOut := us_mono hOut (fun q h => hk1 q h (Nat.not_le.mpr h))
    refine lv_iload hx hb dL_law_225 (lv_at hl 1 rfl) ?_
    refine lv_icmp_eq (tgt := 232) hx hb dL_law_227 (by decide) (fun c_4 => ?_) (fun c_4 => ?_)
    · refine lv_iload hx hb dL_law_232 (lv_at hl 1 rfl) ?_
      refine lv_if_ne (tgt := 249) hx hb dL_law_234 (by decide) (fun c_5 => ?_) (fun c_5 => ?_)
      · refine lv_goto (tgt := 796) hx hb dL_law_249 (by decide) ?_
        exact kk _ _ _ ⟨_, _, _, _, _, _, _, _, _, hP, hPm, hOut, hB2, hH⟩ hS (lv_sub hl [2, 3, 4, 5, 6] rfl)
      · exact absurd c_5 h0
    · exact absurd rfl c_4
set_option maxHeartbeats 8000000 in
set_option maxRecDepth 100000 in
theorem lw_c_at {p : Program} {l : Launch} {e : Env} {s : State} {m : MethodId} {below : List Frame} {meth : Method} {c : Code} {dC : Nat → ClassId} {dI : Nat → Nat → Nat} {ad : Nat → Nat} {cU cI : ClassId} {pa md : Nat → Nat} {cM : ClassId} {ao : Nat} {cJ : ClassId} {b L : Nat} {xs : Nat → Int32} {Q : State → Prop} (hl9 : l.stackTraces = false) (hL : L ≤ 2560) (C0 : lw_At p s m meth c b L xs) (X0 : lw_X dC dI ad cU cI pa md cM ao cJ s) (k : Nat) (hk : 5 * k + 5 ≤ L) {H : Heap} {locs : List Loc} {ls : Array Slot} (hJ : lw_J dC dI ad cU cI pa md cM ao cJ H) (hS : va_S (us_new s.heap.size) s.heap H locs) (hl : lv_has ls 7 [(4, .int (nI (5 * k))), (3, .ref ao), (2, .ref (md 0)), (1, .ref (ad 0)), (0, .ref b)])
    (kk : ∀ (H1 : Heap) (locs1 : List Loc) (ls1 : Array Slot), lw_J dC dI ad cU cI pa md cM ao cJ H1 → va_S (us_new s.heap.size) s.heap H1 locs1 → lv_has ls1 7 [(4, .int (nI (5 * k))), (3, .ref ao), (2, .ref (md 0)), (1, .ref (ad 0)), (0, .ref b)] → W p l e room_1 s m #[Value.ref b] below meth c H1 locs1 (46 + 2 * k + 2) (2544 + 12 * k + 12) Q (F0 m 796 ls1 [])) : W p l e room_1 s m #[Value.ref b] below meth c H locs (46 + 2 * k) (2544 + 12 * k) Q (F0 m 252 ls []) := by
  obtain ⟨hx, hb, hr, hml, hown, hts, hX, hbl, hlocks, hgv⟩ := C0
  obtain ⟨hK, hKm, hKJ, hE, hD0, hDm0, hao0, hao, haom, hdis⟩ := X0
  obtain ⟨nu, nm, nk, th, F, U, G, v, o, hP, hPm, hOut, hB2, hH⟩ := hJ
  have htb : ∀ w ∈ us_big, w.before #[Value.ref b] s = true := fun w hw => hts w (List.mem_filter.mp hw).1
  have hown : s.vm.findClass RL = some m.cls := hown
  have hbA : ¬ us_new s.heap.size b := Nat.not_le.mpr hbl
  have hnu := hB2.1
  have hnm := hB2.2.1
  have hO : ∀ p, p < nm → ∃ n, n < nm ∧ F 5 p = nI n := hB2.2.2.2.2.2.2.1
  have hVm : ∀ m, m < nm → ∃ j, j < nu ∧ G 2 m = nI j := fun n hn => (hB2.2.2.2.2.2.2.2.2.2 n hn).1
  have hV : ∀ n, n < nm → ∃ j, j < nu ∧ F 0 n = nI j := by rw [hB2.2.2.1]; exact hVm
  have hLo : um_ok G nm (um_L nm F) := um_ok_of hB2
  have hAr : ∀ (t : Int32) (j : Nat), j < nu → ¬ um_in (um_st G (um_L nm F) t j 0) 3 5 = 0 → ∃ a, a < nm ∧ um_st G (um_L nm F) t j 11 = nI a := fun t j hj h => um_arr_ok hB2 hH t j hj h
  have hD : va_D (us_new s.heap.size) (us_W ad cU cI pa nu nm nk F U) := us_D_of (by rw [us_W_adr, us_W_adr]) hD0
  have hga := lw_ge hD0 us_W_adr
  have hgm := lw_ge hDm0 um_W_adr
  have hgc := lw_cons hao0 hga
  obtain ⟨p1, ep1⟩ : ∃ y : Int32, y = xs (5 * k + 1) := ⟨_, rfl⟩
  obtain ⟨p2, ep2⟩ : ∃ y : Int32, y = xs (5 * k + 2) := ⟨_, rfl⟩
  obtain ⟨p3, ep3⟩ : ∃ y : Int32, y = xs (5 * k + 3) := ⟨_, rfl⟩
  refine lv_aload_n hx hb dL_law_252 rfl (lv_at hl 3 rfl) ?_
  refine lv_aload_n hx hb dL_law_253 rfl (lv_at hl 4 rfl) ?_
  refine lv_iload hx hb dL_law_254 (lv_at hl 0 rfl) ?_
  refine lv_iconst (v := 1) hx hb dL_law_256 (by decide) ?_
  refine lv_iadd hx hb dL_law_257 ?_
  refine lw_sld hx hb hX hbl hbA hS (5 * k + 1) (y := p1) (nI_1 _) (by omega) hL ep1 dL_law_258 ?_
  refine lv_aload_n hx hb dL_law_259 rfl (lv_at hl 4 rfl) ?_
  refine lv_iload hx hb dL_law_260 (lv_at hl 0 rfl) ?_
  refine lv_iconst (v := 2) hx hb dL_law_262 (by decide) ?_
  refine lv_iadd hx hb dL_law_263 ?_
  refine lw_sld hx hb hX hbl hbA hS (5 * k + 2) (y := p2) (nI_add _ 2) (by omega) hL ep2 dL_law_264 ?_
  refine lv_aload_n hx hb dL_law_265 rfl (lv_at hl 4 rfl) ?_
  refine lv_iload hx hb dL_law_266 (lv_at hl 0 rfl) ?_
  refine lv_iconst (v := 3) hx hb dL_law_268 (by decide) ?_
  refine lv_iadd hx hb dL_law_269 ?_
  refine lw_sld hx hb hX hbl hbA hS (5 * k + 3) (y := p3) (nI_add _ 3) (by omega) hL ep3 dL_law_270 ?_
  refine lv_aload_n hx hb dL_law_271 rfl (lv_at hl 1 rfl) ?_
  refine va_calli (vx_runSW (As := [.ref (ad 0), .int p1, .int p2, .int p3, .ref ao]) (rest := []) ⟨hx, hb, hml, hown, htb⟩ (kt_L_at l hl9 dC dI ad cU cI pa H.size nu nm nk F U ao cJ o p1 p2 p3 hnu hnm hO hV hao) (vx_cwSW 5 htb (us_gSW mw_285 mw_286 mw_31 mw_287) rfl rfl rfl (by decide +kernel) ⟨Nat.le_of_ble_eq_true rfl, Nat.le_of_ble_eq_true rfl⟩) ⟨lh_blind, fun U hU hW => ⟨rfl, us_Px_at hP hK hD hE hS (lw_AA hgc hS.1) hU hW, by rw [hU]; exact hOut, va_K.moved hW.alike hKJ⟩⟩ rfl rfl hl.1 rfl (lv_room (Nat.le_of_ble_eq_true rfl)) dL_law_272 ⟨by show 46 + 2 * k + 2 ≤ 601024; omega, by show 2544 + 12 * k + 12 ≤ 7293034; omega⟩) hS (fun q _ h => lw_AA hgc hS.1 q h) (lw_AA hgc hS.1) (fun r5 _ t H1 locs ht hvm hw hB hz1 hk1 hS => ?_)
  refine W.widen (k := 46 + 2 * k + 2) (n := 2544 + 12 * k + 12) (by omega) (by omega) ?_
  obtain rfl : r5 = um_atK p1 p2 p3 nu := hw.trans (um_atK_eq hnu).symm
  have hkz : um_atK p1 p2 p3 nu = 0 ↔ sp_atK p1 p2 p3 nu = 0 := by rw [(um_atK_eq hnu)]
  have hPm := lh_keep hPm (lw_notin haom hdis) hk1
  by_cases h0 : um_atK p1 p2 p3 nu = 0
  · have hz : sp_atK p1 p2 p3 nu = 0 := hkz.mp h0
    obtain ⟨hB, o2, hOut, ho⟩ := hB.1 hz
    have hP := us_Bx_use ht hB
    rw [ht] at hOut
    have hPm : va_P (dC, dI) vwCl (um_W md cM th nu nm nk G v) H1 := hPm
    have hDm : va_D (us_new s.heap.size) (um_W md cM th nu nm nk G v) := us_D_of (by rw [um_W_adr, um_W_adr]) hDm0
    refine lv_istore (lv' := [(5, .int (um_atK p1 p2 p3 nu)), (4, .int (nI (5 * k))), (3, .ref ao), (2, .ref (md 0)), (1, .ref (ad 0)), (0, .ref b)]) hx hb dL_law_275 hl (by decide) rfl (fun ls hl => ?_)
    refine lv_aload_n hx hb dL_law_277 rfl (lv_at hl 3 rfl) ?_
    refine lv_aload_n hx hb dL_law_278 rfl (lv_at hl 5 rfl) ?_
    refine lv_iload hx hb dL_law_279 (lv_at hl 1 rfl) ?_
    refine lv_iconst (v := 1) hx hb dL_law_281 (by decide) ?_
    refine lv_iadd hx hb dL_law_282 ?_
    refine lw_sld hx hb hX hbl hbA hS (5 * k + 1) (y := p1) (nI_1 _) (by omega) hL ep1 dL_law_283 ?_
    refine lv_aload_n hx hb dL_law_284 rfl (lv_at hl 5 rfl) ?_
    refine lv_iload hx hb dL_law_285 (lv_at hl 1 rfl) ?_
    refine lv_iconst (v := 2) hx hb dL_law_287 (by decide) ?_
    refine lv_iadd hx hb dL_law_288 ?_
    refine lw_sld hx hb hX hbl hbA hS (5 * k + 2) (y := p2) (nI_add _ 2) (by omega) hL ep2 dL_law_289 ?_
    refine lv_aload_n hx hb dL_law_290 rfl (lv_at hl 5 rfl) ?_
    refine lv_iload hx hb dL_law_291 (lv_at hl 1 rfl) ?_
    refine lv_iconst (v := 3) hx hb dL_law_293 (by decide) ?_
    refine lv_iadd hx hb dL_law_294 ?_
    refine lw_sld hx hb hX hbl hbA hS (5 * k + 3) (y := p3) (nI_add _ 3) (by omega) hL ep3 dL_law_295 ?_
    refine va_calli (va_runV (As := [.int p1, .int p2, .int p3]) (rest := []) ⟨hx, hb, hml, hown, htb⟩ (kt_X2_at l dC dI md cM H1.size th nu nm nk G v p1 p2 p3 (um_L nm F) hnu hnm hLo hAr) (cwV 3 htb (us_gV mw_524 mw_525 mw_526 mw_34 mw_527) rfl rfl rfl (by decide +kernel) ⟨Nat.le_of_ble_eq_true rfl, Nat.le_of_ble_eq_true rfl⟩) ⟨um_P_blind, va_recv hKm hPm (ci := 2) (q0 := 0) rfl rfl, fun U hU hW => ⟨rfl, um_P_at hPm hKm hDm hU hW⟩⟩ rfl rfl hl.1 rfl (lv_room (Nat.le_of_ble_eq_true rfl)) dL_law_296 ⟨by show 46 + 2 * k + 2 + 0 ≤ 601024; omega, by show 2544 + 12 * k + 12 + 0 ≤ 7293034; omega⟩) hS (fun q _ h => lw_AA hgm hS.1 q h) (lw_AA hgm hS.1) (fun r6 v2 t H2 locs ht hvm hw hB hz1 hk1 hS => ?_)
    have hP := lh_keep hP (by rw [us_W_adr]; exact hdis) hk1
    have hOut := lh_keep hOut (fun x h => by cases List.mem_singleton.mp h; exact haom) hk1
    have hPm : va_P (dC, dI) vwCl (um_W md cM (um_atK p1 p2 p3 nu) nu nm nk G v2) H2 := um_W_to (um_B_use ht hB) rfl rfl rfl rfl
    have hDm : va_D (us_new s.heap.size) (um_W md cM (um_atK p1 p2 p3 nu) nu nm nk G v2) := us_D_of (by rw [um_W_adr, um_W_adr]) hDm0
    have he : o2 0 = r6.toInt64 := by rw [ho, hw h0, (um_at_eq hB2 hH p2 p3 (lw_isU hnu (lw_atF hz).1) (lw_atF hz).2)]
    refine lv_istore (lv' := [(6, .int r6), (5, .int (um_atK p1 p2 p3 nu)), (4, .int (nI (5 * k))), (3, .ref ao), (2, .ref (md 0)), (1, .ref (ad 0)), (0, .ref b)]) hx hb dL_law_299 hl (by decide) rfl (fun ls hl => ?_)
    refine lv_aload_n hx hb dL_law_301 rfl (lv_at hl 4 rfl) ?_
    refine va_calli (va_runV (As := []) (rest := []) ⟨hx, hb, hml, hown, htb⟩ (kt_X2_thrown l dC dI md cM H2.size (um_atK p1 p2 p3 nu) nu nm nk G v2) (cwV 0 htb (us_gV mw_493 mw_494 mw_495 mw_34 mw_496) rfl rfl rfl (by decide +kernel) ⟨Nat.le_of_ble_eq_true rfl, Nat.le_of_ble_eq_true rfl⟩) ⟨um_P_blind, va_recv hKm hPm (ci := 2) (q0 := 0) rfl rfl, fun U hU hW => ⟨rfl, um_P_at hPm hKm hDm hU hW⟩⟩ rfl rfl hl.1 rfl (lv_room (Nat.le_of_ble_eq_true rfl)) dL_law_302 ⟨by show 46 + 2 * k + 2 + 0 ≤ 601024; omega, by show 2544 + 12 * k + 12 + 0 ≤ 7293034; omega⟩) hS (fun q h1 h2 => absurd h2 (Nat.not_le.mpr h1)) (fun q h => Nat.le_trans hS.1 h) (fun r7 _ t H3 locs ht hvm hw hB hz1 hk1 hS => ?_)
    subst hw
    have hP := us_mono hP (fun q h => hk1 q h (Nat.not_le.mpr h))
    have hPm := us_mono hPm (fun q h => hk1 q h (Nat.not_le.mpr h))
    have hOut := us_mono hOut (fun q h => hk1 q h (Nat.not_le.mpr h))
    refine lv_iload hx hb dL_law_305 (lv_at hl 1 rfl) ?_
    refine lv_icmp_eq (tgt := 312) hx hb dL_law_307 (by decide) (fun c_1 => ?_) (fun c_1 => ?_)
    · refine lv_iload hx hb dL_law_312 (lv_at hl 1 rfl) ?_
      refine lv_if_ne (tgt := 329) hx hb dL_law_314 (by decide) (fun c_2 => ?_) (fun c_2 => ?_)
      · exact absurd h0 c_2
      · refine lv_aload_n hx hb dL_law_317 rfl (lv_at hl 3 rfl) ?_
        refine lv_iconst (v := 0) hx hb dL_law_318 (by decide) ?_
        refine va_lald hx hb hKJ hOut 0 0 rfl rfl (vp_in_nI (n := 0) (N := 1) (by decide) (by decide)) dL_law_319 ?_
        refine lv_iload hx hb dL_law_320 (lv_at hl 0 rfl) ?_
        refine lv_i2l hx hb dL_law_322 rfl ?_
        refine W.lcmp hx hb dL_law_323 ?_
        refine lv_if_eq (tgt := 329) hx hb dL_law_324 (by decide) (fun c_3 => ?_) (fun c_3 => ?_)
        · refine lv_goto (tgt := 796) hx hb dL_law_329 (by decide) ?_
          obtain ⟨hB3, hH3⟩ := (show _ ∧ _ from ⟨um_both_rf hB2 p2, um_home_ru hB2 hH p2⟩)
          exact kk _ _ _ ⟨_, _, _, _, _, _, _, _, _, hP, hPm, hOut, hB3, hH3⟩ hS (lv_sub hl [2, 3, 4, 5, 6] rfl)
        · exact absurd (lw_cmp he) c_3
    · exact absurd rfl c_1
  · have hz : ¬ sp_atK p1 p2 p3 nu = 0 := fun h => h0 (hkz.mpr h)
    obtain ⟨hB, o2, hOut, ho⟩ := hB.2 hz
    have hP := us_Bx_use ht hB
    rw [ht] at hOut
    have hPm : va_P (dC, dI) vwCl (um_W md cM th nu nm nk G v) H1 := hPm
    have hDm : va_D (us_new s.heap.size) (um_W md cM th nu nm nk G v) := us_D_of (by rw [um_W_adr, um_W_adr]) hDm0
    refine lv_istore (lv' := [(5, .int (um_atK p1 p2 p3 nu)), (4, .int (nI (5 * k))), (3, .ref ao), (2, .ref (md 0)), (1, .ref (ad 0)), (0, .ref b)]) hx hb dL_law_275 hl (by decide) rfl (fun ls hl => ?_)
    refine lv_aload_n hx hb dL_law_277 rfl (lv_at hl 3 rfl) ?_
    refine lv_aload_n hx hb dL_law_278 rfl (lv_at hl 5 rfl) ?_
    refine lv_iload hx hb dL_law_279 (lv_at hl 1 rfl) ?_
    refine lv_iconst (v := 1) hx hb dL_law_281 (by decide) ?_
    refine lv_iadd hx hb dL_law_282 ?_
    refine lw_sld hx hb hX hbl hbA hS (5 * k + 1) (y := p1) (nI_1 _) (by omega) hL ep1 dL_law_283 ?_
    refine lv_aload_n hx hb dL_law_284 rfl (lv_at hl 5 rfl) ?_
    refine lv_iload hx hb dL_law_285 (lv_at hl 1 rfl) ?_
    refine lv_iconst (v := 2) hx hb dL_law_287 (by decide) ?_
    refine lv_iadd hx hb dL_law_288 ?_
    refine lw_sld hx hb hX hbl hbA hS (5 * k + 2) (y := p2) (nI_add _ 2) (by omega) hL ep2 dL_law_289 ?_
    refine lv_aload_n hx hb dL_law_290 rfl (lv_at hl 5 rfl) ?_
    refine lv_iload hx hb dL_law_291 (lv_at hl 1 rfl) ?_
    refine lv_iconst (v := 3) hx hb dL_law_293 (by decide) ?_
    refine lv_iadd hx hb dL_law_294 ?_
    refine lw_sld hx hb hX hbl hbA hS (5 * k + 3) (y := p3) (nI_add _ 3) (by omega) hL ep3 dL_law_295 ?_
    refine va_calli (va_runV (As := [.int p1, .int p2, .int p3]) (rest := []) ⟨hx, hb, hml, hown, htb⟩ (kt_X2_at l dC dI md cM H1.size th nu nm nk G v p1 p2 p3 (um_L nm F) hnu hnm hLo hAr) (cwV 3 htb (us_gV mw_524 mw_525 mw_526 mw_34 mw_527) rfl rfl rfl (by decide +kernel) ⟨Nat.le_of_ble_eq_true rfl, Nat.le_of_ble_eq_true rfl⟩) ⟨um_P_blind, va_recv hKm hPm (ci := 2) (q0 := 0) rfl rfl, fun U hU hW => ⟨rfl, um_P_at hPm hKm hDm hU hW⟩⟩ rfl rfl hl.1 rfl (lv_room (Nat.le_of_ble_eq_true rfl)) dL_law_296 ⟨by show 46 + 2 * k + 2 + 0 ≤ 601024; omega, by show 2544 + 12 * k + 12 + 0 ≤ 7293034; omega⟩) hS (fun q _ h => lw_AA hgm hS.1 q h) (lw_AA hgm hS.1) (fun r6 v2 t H2 locs ht hvm hw hB hz1 hk1 hS => ?_)
    have hP := lh_keep hP (by rw [us_W_adr]; exact hdis) hk1
    have hOut := lh_keep hOut (fun x h => by cases List.mem_singleton.mp h; exact haom) hk1
    have hPm : va_P (dC, dI) vwCl (um_W md cM (um_atK p1 p2 p3 nu) nu nm nk G v2) H2 := um_W_to (um_B_use ht hB) rfl rfl rfl rfl
    have hDm : va_D (us_new s.heap.size) (um_W md cM (um_atK p1 p2 p3 nu) nu nm nk G v2) := us_D_of (by rw [um_W_adr, um_W_adr]) hDm0
    refine lv_istore (lv' := [(6, .int r6), (5, .int (um_atK p1 p2 p3 nu)), (4, .int (nI (5 * k))), (3, .ref ao), (2, .ref (md 0)), (1, .ref (ad 0)), (0, .ref b)]) hx hb dL_law_299 hl (by decide) rfl (fun ls hl => ?_)
    refine lv_aload_n hx hb dL_law_301 rfl (lv_at hl 4 rfl) ?_
    refine va_calli (va_runV (As := []) (rest := []) ⟨hx, hb, hml, hown, htb⟩ (kt_X2_thrown l dC dI md cM H2.size (um_atK p1 p2 p3 nu) nu nm nk G v2) (cwV 0 htb (us_gV mw_493 mw_494 mw_495 mw_34 mw_496) rfl rfl rfl (by decide +kernel) ⟨Nat.le_of_ble_eq_true rfl, Nat.le_of_ble_eq_true rfl⟩) ⟨um_P_blind, va_recv hKm hPm (ci := 2) (q0 := 0) rfl rfl, fun U hU hW => ⟨rfl, um_P_at hPm hKm hDm hU hW⟩⟩ rfl rfl hl.1 rfl (lv_room (Nat.le_of_ble_eq_true rfl)) dL_law_302 ⟨by show 46 + 2 * k + 2 + 0 ≤ 601024; omega, by show 2544 + 12 * k + 12 + 0 ≤ 7293034; omega⟩) hS (fun q h1 h2 => absurd h2 (Nat.not_le.mpr h1)) (fun q h => Nat.le_trans hS.1 h) (fun r7 _ t H3 locs ht hvm hw hB hz1 hk1 hS => ?_)
    subst hw
    have hP := us_mono hP (fun q h => hk1 q h (Nat.not_le.mpr h))
    have hPm := us_mono hPm (fun q h => hk1 q h (Nat.not_le.mpr h))
    have hOut := us_mono hOut (fun q h => hk1 q h (Nat.not_le.mpr h))
    refine lv_iload hx hb dL_law_305 (lv_at hl 1 rfl) ?_
    refine lv_icmp_eq (tgt := 312) hx hb dL_law_307 (by decide) (fun c_4 => ?_) (fun c_4 => ?_)
    · refine lv_iload hx hb dL_law_312 (lv_at hl 1 rfl) ?_
      refine lv_if_ne (tgt := 329) hx hb dL_law_314 (by decide) (fun c_5 => ?_) (fun c_5 => ?_)
      · refine lv_goto (tgt := 796) hx hb dL_law_329 (by decide) ?_
        exact kk _ _ _ ⟨_, _, _, _, _, _, _, _, _, hP, hPm, hOut, hB2, hH⟩ hS (lv_sub hl [2, 3, 4, 5, 6] rfl)
      · exact absurd c_5 h0
    · exact absurd rfl c_4
set_option maxHeartbeats 8000000 in
set_option maxRecDepth 100000 in
theorem lw_c_place {p : Program} {l : Launch} {e : Env} {s : State} {m : MethodId} {below : List Frame} {meth : Method} {c : Code} {dC : Nat → ClassId} {dI : Nat → Nat → Nat} {ad : Nat → Nat} {cU cI : ClassId} {pa md : Nat → Nat} {cM : ClassId} {ao : Nat} {cJ : ClassId} {b L : Nat} {xs : Nat → Int32} {Q : State → Prop} (hl9 : l.stackTraces = false) (hL : L ≤ 2560) (C0 : lw_At p s m meth c b L xs) (X0 : lw_X dC dI ad cU cI pa md cM ao cJ s) (k : Nat) (hk : 5 * k + 5 ≤ L) {H : Heap} {locs : List Loc} {ls : Array Slot} (hJ : lw_J dC dI ad cU cI pa md cM ao cJ H) (hS : va_S (us_new s.heap.size) s.heap H locs) (hl : lv_has ls 7 [(4, .int (nI (5 * k))), (3, .ref ao), (2, .ref (md 0)), (1, .ref (ad 0)), (0, .ref b)])
    (kk : ∀ (H1 : Heap) (locs1 : List Loc) (ls1 : Array Slot), lw_J dC dI ad cU cI pa md cM ao cJ H1 → va_S (us_new s.heap.size) s.heap H1 locs1 → lv_has ls1 7 [(4, .int (nI (5 * k))), (3, .ref ao), (2, .ref (md 0)), (1, .ref (ad 0)), (0, .ref b)] → W p l e room_1 s m #[Value.ref b] below meth c H1 locs1 (46 + 2 * k + 2) (2544 + 12 * k + 12) Q (F0 m 796 ls1 [])) : W p l e room_1 s m #[Value.ref b] below meth c H locs (46 + 2 * k) (2544 + 12 * k) Q (F0 m 332 ls []) := by
  obtain ⟨hx, hb, hr, hml, hown, hts, hX, hbl, hlocks, hgv⟩ := C0
  obtain ⟨hK, hKm, hKJ, hE, hD0, hDm0, hao0, hao, haom, hdis⟩ := X0
  obtain ⟨nu, nm, nk, th, F, U, G, v, o, hP, hPm, hOut, hB2, hH⟩ := hJ
  have htb : ∀ w ∈ us_big, w.before #[Value.ref b] s = true := fun w hw => hts w (List.mem_filter.mp hw).1
  have hown : s.vm.findClass RL = some m.cls := hown
  have hbA : ¬ us_new s.heap.size b := Nat.not_le.mpr hbl
  have hnu := hB2.1
  have hnm := hB2.2.1
  have hO : ∀ p, p < nm → ∃ n, n < nm ∧ F 5 p = nI n := hB2.2.2.2.2.2.2.1
  have hVm : ∀ m, m < nm → ∃ j, j < nu ∧ G 2 m = nI j := fun n hn => (hB2.2.2.2.2.2.2.2.2.2 n hn).1
  have hV : ∀ n, n < nm → ∃ j, j < nu ∧ F 0 n = nI j := by rw [hB2.2.2.1]; exact hVm
  have hLo : um_ok G nm (um_L nm F) := um_ok_of hB2
  have hAr : ∀ (t : Int32) (j : Nat), j < nu → ¬ um_in (um_st G (um_L nm F) t j 0) 3 5 = 0 → ∃ a, a < nm ∧ um_st G (um_L nm F) t j 11 = nI a := fun t j hj h => um_arr_ok hB2 hH t j hj h
  have hD : va_D (us_new s.heap.size) (us_W ad cU cI pa nu nm nk F U) := us_D_of (by rw [us_W_adr, us_W_adr]) hD0
  have hga := lw_ge hD0 us_W_adr
  have hgm := lw_ge hDm0 um_W_adr
  have hgc := lw_cons hao0 hga
  obtain ⟨p1, ep1⟩ : ∃ y : Int32, y = xs (5 * k + 1) := ⟨_, rfl⟩
  obtain ⟨p2, ep2⟩ : ∃ y : Int32, y = xs (5 * k + 2) := ⟨_, rfl⟩
  refine lv_aload_n hx hb dL_law_332 rfl (lv_at hl 3 rfl) ?_
  refine lv_aload_n hx hb dL_law_333 rfl (lv_at hl 4 rfl) ?_
  refine lv_iload hx hb dL_law_334 (lv_at hl 0 rfl) ?_
  refine lv_iconst (v := 1) hx hb dL_law_336 (by decide) ?_
  refine lv_iadd hx hb dL_law_337 ?_
  refine lw_sld hx hb hX hbl hbA hS (5 * k + 1) (y := p1) (nI_1 _) (by omega) hL ep1 dL_law_338 ?_
  refine lv_aload_n hx hb dL_law_339 rfl (lv_at hl 4 rfl) ?_
  refine lv_iload hx hb dL_law_340 (lv_at hl 0 rfl) ?_
  refine lv_iconst (v := 2) hx hb dL_law_342 (by decide) ?_
  refine lv_iadd hx hb dL_law_343 ?_
  refine lw_sld hx hb hX hbl hbA hS (5 * k + 2) (y := p2) (nI_add _ 2) (by omega) hL ep2 dL_law_344 ?_
  refine lv_aload_n hx hb dL_law_345 rfl (lv_at hl 1 rfl) ?_
  refine va_calli (vx_runSW (As := [.ref (ad 0), .int p1, .int p2, .ref ao]) (rest := []) ⟨hx, hb, hml, hown, htb⟩ (kt_L_place l hl9 dC dI ad cU cI pa H.size nu nm nk F U ao cJ o p1 p2 hnu hnm hO hV hao) (vx_cwSW 4 htb (us_gSW mw_356 mw_357 mw_31 mw_358) rfl rfl rfl (by decide +kernel) ⟨Nat.le_of_ble_eq_true rfl, Nat.le_of_ble_eq_true rfl⟩) ⟨lh_blind, fun U hU hW => ⟨rfl, us_Px_at hP hK hD hE hS (lw_AA hgc hS.1) hU hW, by rw [hU]; exact hOut, va_K.moved hW.alike hKJ⟩⟩ rfl rfl hl.1 rfl (lv_room (Nat.le_of_ble_eq_true rfl)) dL_law_346 ⟨by show 46 + 2 * k + 2 ≤ 601024; omega, by show 2544 + 12 * k + 12 ≤ 7293034; omega⟩) hS (fun q _ h => lw_AA hgc hS.1 q h) (lw_AA hgc hS.1) (fun r5 _ t H1 locs ht hvm hw hB hz1 hk1 hS => ?_)
  refine W.widen (k := 46 + 2 * k + 2) (n := 2544 + 12 * k + 12) (by omega) (by omega) ?_
  obtain rfl : r5 = um_plK p1 p2 nu := hw.trans (um_plK_eq hnu).symm
  have hkz : um_plK p1 p2 nu = 0 ↔ sp_ruK p1 p2 nu = 0 := by rw [(um_plK_eq hnu)]
  have hPm := lh_keep hPm (lw_notin haom hdis) hk1
  by_cases h0 : um_plK p1 p2 nu = 0
  · have hz : sp_ruK p1 p2 nu = 0 := hkz.mp h0
    obtain ⟨hB, o2, hOut, ho⟩ := hB.1 hz
    have hP := us_Bx_use ht hB
    rw [ht] at hOut
    have hPm : va_P (dC, dI) vwCl (um_W md cM th nu nm nk G v) H1 := hPm
    have hDm : va_D (us_new s.heap.size) (um_W md cM th nu nm nk G v) := us_D_of (by rw [um_W_adr, um_W_adr]) hDm0
    refine lv_istore (lv' := [(5, .int (um_plK p1 p2 nu)), (4, .int (nI (5 * k))), (3, .ref ao), (2, .ref (md 0)), (1, .ref (ad 0)), (0, .ref b)]) hx hb dL_law_349 hl (by decide) rfl (fun ls hl => ?_)
    refine lv_aload_n hx hb dL_law_351 rfl (lv_at hl 3 rfl) ?_
    refine lv_aload_n hx hb dL_law_352 rfl (lv_at hl 5 rfl) ?_
    refine lv_iload hx hb dL_law_353 (lv_at hl 1 rfl) ?_
    refine lv_iconst (v := 1) hx hb dL_law_355 (by decide) ?_
    refine lv_iadd hx hb dL_law_356 ?_
    refine lw_sld hx hb hX hbl hbA hS (5 * k + 1) (y := p1) (nI_1 _) (by omega) hL ep1 dL_law_357 ?_
    refine lv_aload_n hx hb dL_law_358 rfl (lv_at hl 5 rfl) ?_
    refine lv_iload hx hb dL_law_359 (lv_at hl 1 rfl) ?_
    refine lv_iconst (v := 2) hx hb dL_law_361 (by decide) ?_
    refine lv_iadd hx hb dL_law_362 ?_
    refine lw_sld hx hb hX hbl hbA hS (5 * k + 2) (y := p2) (nI_add _ 2) (by omega) hL ep2 dL_law_363 ?_
    refine va_calli (va_runV (As := [.int p1, .int p2]) (rest := []) ⟨hx, hb, hml, hown, htb⟩ (kt_X2_place l dC dI md cM H1.size th nu nm nk G v p1 p2 (um_L nm F) hnu hnm hLo hAr) (cwV 2 htb (us_gV mw_563 mw_564 mw_565 mw_34 mw_566) rfl rfl rfl (by decide +kernel) ⟨Nat.le_of_ble_eq_true rfl, Nat.le_of_ble_eq_true rfl⟩) ⟨um_P_blind, va_recv hKm hPm (ci := 2) (q0 := 0) rfl rfl, fun U hU hW => ⟨rfl, um_P_at hPm hKm hDm hU hW⟩⟩ rfl rfl hl.1 rfl (lv_room (Nat.le_of_ble_eq_true rfl)) dL_law_364 ⟨by show 46 + 2 * k + 2 + 0 ≤ 601024; omega, by show 2544 + 12 * k + 12 + 0 ≤ 7293034; omega⟩) hS (fun q _ h => lw_AA hgm hS.1 q h) (lw_AA hgm hS.1) (fun r6 v2 t H2 locs ht hvm hw hB hz1 hk1 hS => ?_)
    have hP := lh_keep hP (by rw [us_W_adr]; exact hdis) hk1
    have hOut := lh_keep hOut (fun x h => by cases List.mem_singleton.mp h; exact haom) hk1
    have hPm : va_P (dC, dI) vwCl (um_W md cM (um_plK p1 p2 nu) nu nm nk G v2) H2 := um_W_to (um_B_use ht hB) rfl rfl rfl rfl
    have hDm : va_D (us_new s.heap.size) (um_W md cM (um_plK p1 p2 nu) nu nm nk G v2) := us_D_of (by rw [um_W_adr, um_W_adr]) hDm0
    have he : o2 0 = r6.toInt64 := by rw [ho, hw h0, (um_place_eq hB2 hH p2 (lw_isU hnu (lw_ruF hz))).1]
    refine lv_istore (lv' := [(6, .int r6), (5, .int (um_plK p1 p2 nu)), (4, .int (nI (5 * k))), (3, .ref ao), (2, .ref (md 0)), (1, .ref (ad 0)), (0, .ref b)]) hx hb dL_law_367 hl (by decide) rfl (fun ls hl => ?_)
    refine lv_aload_n hx hb dL_law_369 rfl (lv_at hl 4 rfl) ?_
    refine va_calli (va_runV (As := []) (rest := []) ⟨hx, hb, hml, hown, htb⟩ (kt_X2_thrown l dC dI md cM H2.size (um_plK p1 p2 nu) nu nm nk G v2) (cwV 0 htb (us_gV mw_493 mw_494 mw_495 mw_34 mw_496) rfl rfl rfl (by decide +kernel) ⟨Nat.le_of_ble_eq_true rfl, Nat.le_of_ble_eq_true rfl⟩) ⟨um_P_blind, va_recv hKm hPm (ci := 2) (q0 := 0) rfl rfl, fun U hU hW => ⟨rfl, um_P_at hPm hKm hDm hU hW⟩⟩ rfl rfl hl.1 rfl (lv_room (Nat.le_of_ble_eq_true rfl)) dL_law_370 ⟨by show 46 + 2 * k + 2 + 0 ≤ 601024; omega, by show 2544 + 12 * k + 12 + 0 ≤ 7293034; omega⟩) hS (fun q h1 h2 => absurd h2 (Nat.not_le.mpr h1)) (fun q h => Nat.le_trans hS.1 h) (fun r7 _ t H3 locs ht hvm hw hB hz1 hk1 hS => ?_)
    subst hw
    have hP := us_mono hP (fun q h => hk1 q h (Nat.not_le.mpr h))
    have hPm := us_mono hPm (fun q h => hk1 q h (Nat.not_le.mpr h))
    have hOut := us_mono hOut (fun q h => hk1 q h (Nat.not_le.mpr h))
    refine lv_iload hx hb dL_law_373 (lv_at hl 1 rfl) ?_
    refine lv_icmp_eq (tgt := 380) hx hb dL_law_375 (by decide) (fun c_1 => ?_) (fun c_1 => ?_)
    · refine lv_iload hx hb dL_law_380 (lv_at hl 1 rfl) ?_
      refine lv_if_ne (tgt := 397) hx hb dL_law_382 (by decide) (fun c_2 => ?_) (fun c_2 => ?_)
      · exact absurd h0 c_2
      · refine lv_aload_n hx hb dL_law_385 rfl (lv_at hl 3 rfl) ?_
        refine lv_iconst (v := 0) hx hb dL_law_386 (by decide) ?_
        refine va_lald hx hb hKJ hOut 0 0 rfl rfl (vp_in_nI (n := 0) (N := 1) (by decide) (by decide)) dL_law_387 ?_
        refine lv_iload hx hb dL_law_388 (lv_at hl 0 rfl) ?_
        refine lv_i2l hx hb dL_law_390 rfl ?_
        refine W.lcmp hx hb dL_law_391 ?_
        refine lv_if_eq (tgt := 397) hx hb dL_law_392 (by decide) (fun c_3 => ?_) (fun c_3 => ?_)
        · refine lv_goto (tgt := 796) hx hb dL_law_397 (by decide) ?_
          obtain ⟨hB3, hH3⟩ := (show _ ∧ _ from ⟨um_both_rf hB2 p2, um_home_ru hB2 hH p2⟩)
          exact kk _ _ _ ⟨_, _, _, _, _, _, _, _, _, hP, hPm, hOut, hB3, hH3⟩ hS (lv_sub hl [2, 3, 4, 5, 6] rfl)
        · exact absurd (lw_cmp he) c_3
    · exact absurd rfl c_1
  · have hz : ¬ sp_ruK p1 p2 nu = 0 := fun h => h0 (hkz.mpr h)
    obtain ⟨hB, o2, hOut, ho⟩ := hB.2 hz
    have hP := us_Bx_use ht hB
    rw [ht] at hOut
    have hPm : va_P (dC, dI) vwCl (um_W md cM th nu nm nk G v) H1 := hPm
    have hDm : va_D (us_new s.heap.size) (um_W md cM th nu nm nk G v) := us_D_of (by rw [um_W_adr, um_W_adr]) hDm0
    refine lv_istore (lv' := [(5, .int (um_plK p1 p2 nu)), (4, .int (nI (5 * k))), (3, .ref ao), (2, .ref (md 0)), (1, .ref (ad 0)), (0, .ref b)]) hx hb dL_law_349 hl (by decide) rfl (fun ls hl => ?_)
    refine lv_aload_n hx hb dL_law_351 rfl (lv_at hl 3 rfl) ?_
    refine lv_aload_n hx hb dL_law_352 rfl (lv_at hl 5 rfl) ?_
    refine lv_iload hx hb dL_law_353 (lv_at hl 1 rfl) ?_
    refine lv_iconst (v := 1) hx hb dL_law_355 (by decide) ?_
    refine lv_iadd hx hb dL_law_356 ?_
    refine lw_sld hx hb hX hbl hbA hS (5 * k + 1) (y := p1) (nI_1 _) (by omega) hL ep1 dL_law_357 ?_
    refine lv_aload_n hx hb dL_law_358 rfl (lv_at hl 5 rfl) ?_
    refine lv_iload hx hb dL_law_359 (lv_at hl 1 rfl) ?_
    refine lv_iconst (v := 2) hx hb dL_law_361 (by decide) ?_
    refine lv_iadd hx hb dL_law_362 ?_
    refine lw_sld hx hb hX hbl hbA hS (5 * k + 2) (y := p2) (nI_add _ 2) (by omega) hL ep2 dL_law_363 ?_
    refine va_calli (va_runV (As := [.int p1, .int p2]) (rest := []) ⟨hx, hb, hml, hown, htb⟩ (kt_X2_place l dC dI md cM H1.size th nu nm nk G v p1 p2 (um_L nm F) hnu hnm hLo hAr) (cwV 2 htb (us_gV mw_563 mw_564 mw_565 mw_34 mw_566) rfl rfl rfl (by decide +kernel) ⟨Nat.le_of_ble_eq_true rfl, Nat.le_of_ble_eq_true rfl⟩) ⟨um_P_blind, va_recv hKm hPm (ci := 2) (q0 := 0) rfl rfl, fun U hU hW => ⟨rfl, um_P_at hPm hKm hDm hU hW⟩⟩ rfl rfl hl.1 rfl (lv_room (Nat.le_of_ble_eq_true rfl)) dL_law_364 ⟨by show 46 + 2 * k + 2 + 0 ≤ 601024; omega, by show 2544 + 12 * k + 12 + 0 ≤ 7293034; omega⟩) hS (fun q _ h => lw_AA hgm hS.1 q h) (lw_AA hgm hS.1) (fun r6 v2 t H2 locs ht hvm hw hB hz1 hk1 hS => ?_)
    have hP := lh_keep hP (by rw [us_W_adr]; exact hdis) hk1
    have hOut := lh_keep hOut (fun x h => by cases List.mem_singleton.mp h; exact haom) hk1
    have hPm : va_P (dC, dI) vwCl (um_W md cM (um_plK p1 p2 nu) nu nm nk G v2) H2 := um_W_to (um_B_use ht hB) rfl rfl rfl rfl
    have hDm : va_D (us_new s.heap.size) (um_W md cM (um_plK p1 p2 nu) nu nm nk G v2) := us_D_of (by rw [um_W_adr, um_W_adr]) hDm0
    refine lv_istore (lv' := [(6, .int r6), (5, .int (um_plK p1 p2 nu)), (4, .int (nI (5 * k))), (3, .ref ao), (2, .ref (md 0)), (1, .ref (ad 0)), (0, .ref b)]) hx hb dL_law_367 hl (by decide) rfl (fun ls hl => ?_)
    refine lv_aload_n hx hb dL_law_369 rfl (lv_at hl 4 rfl) ?_
    refine va_calli (va_runV (As := []) (rest := []) ⟨hx, hb, hml, hown, htb⟩ (kt_X2_thrown l dC dI md cM H2.size (um_plK p1 p2 nu) nu nm nk G v2) (cwV 0 htb (us_gV mw_493 mw_494 mw_495 mw_34 mw_496) rfl rfl rfl (by decide +kernel) ⟨Nat.le_of_ble_eq_true rfl, Nat.le_of_ble_eq_true rfl⟩) ⟨um_P_blind, va_recv hKm hPm (ci := 2) (q0 := 0) rfl rfl, fun U hU hW => ⟨rfl, um_P_at hPm hKm hDm hU hW⟩⟩ rfl rfl hl.1 rfl (lv_room (Nat.le_of_ble_eq_true rfl)) dL_law_370 ⟨by show 46 + 2 * k + 2 + 0 ≤ 601024; omega, by show 2544 + 12 * k + 12 + 0 ≤ 7293034; omega⟩) hS (fun q h1 h2 => absurd h2 (Nat.not_le.mpr h1)) (fun q h => Nat.le_trans hS.1 h) (fun r7 _ t H3 locs ht hvm hw hB hz1 hk1 hS => ?_)
    subst hw
    have hP := us_mono hP (fun q h => hk1 q h (Nat.not_le.mpr h))
    have hPm := us_mono hPm (fun q h => hk1 q h (Nat.not_le.mpr h))
    have hOut := us_mono hOut (fun q h => hk1 q h (Nat.not_le.mpr h))
    refine lv_iload hx hb dL_law_373 (lv_at hl 1 rfl) ?_
    refine lv_icmp_eq (tgt := 380) hx hb dL_law_375 (by decide) (fun c_4 => ?_) (fun c_4 => ?_)
    · refine lv_iload hx hb dL_law_380 (lv_at hl 1 rfl) ?_
      refine lv_if_ne (tgt := 397) hx hb dL_law_382 (by decide) (fun c_5 => ?_) (fun c_5 => ?_)
      · refine lv_goto (tgt := 796) hx hb dL_law_397 (by decide) ?_
        exact kk _ _ _ ⟨_, _, _, _, _, _, _, _, _, hP, hPm, hOut, hB2, hH⟩ hS (lv_sub hl [2, 3, 4, 5, 6] rfl)
      · exact absurd c_5 h0
    · exact absurd rfl c_4
set_option maxHeartbeats 8000000 in
set_option maxRecDepth 100000 in
theorem lw_c_age {p : Program} {l : Launch} {e : Env} {s : State} {m : MethodId} {below : List Frame} {meth : Method} {c : Code} {dC : Nat → ClassId} {dI : Nat → Nat → Nat} {ad : Nat → Nat} {cU cI : ClassId} {pa md : Nat → Nat} {cM : ClassId} {ao : Nat} {cJ : ClassId} {b L : Nat} {xs : Nat → Int32} {Q : State → Prop} (hl9 : l.stackTraces = false) (hL : L ≤ 2560) (C0 : lw_At p s m meth c b L xs) (X0 : lw_X dC dI ad cU cI pa md cM ao cJ s) (k : Nat) (hk : 5 * k + 5 ≤ L) {H : Heap} {locs : List Loc} {ls : Array Slot} (hJ : lw_J dC dI ad cU cI pa md cM ao cJ H) (hS : va_S (us_new s.heap.size) s.heap H locs) (hl : lv_has ls 7 [(4, .int (nI (5 * k))), (3, .ref ao), (2, .ref (md 0)), (1, .ref (ad 0)), (0, .ref b)])
    (kk : ∀ (H1 : Heap) (locs1 : List Loc) (ls1 : Array Slot), lw_J dC dI ad cU cI pa md cM ao cJ H1 → va_S (us_new s.heap.size) s.heap H1 locs1 → lv_has ls1 7 [(4, .int (nI (5 * k))), (3, .ref ao), (2, .ref (md 0)), (1, .ref (ad 0)), (0, .ref b)] → W p l e room_1 s m #[Value.ref b] below meth c H1 locs1 (46 + 2 * k + 2) (2544 + 12 * k + 12) Q (F0 m 796 ls1 [])) : W p l e room_1 s m #[Value.ref b] below meth c H locs (46 + 2 * k) (2544 + 12 * k) Q (F0 m 400 ls []) := by
  obtain ⟨hx, hb, hr, hml, hown, hts, hX, hbl, hlocks, hgv⟩ := C0
  obtain ⟨hK, hKm, hKJ, hE, hD0, hDm0, hao0, hao, haom, hdis⟩ := X0
  obtain ⟨nu, nm, nk, th, F, U, G, v, o, hP, hPm, hOut, hB2, hH⟩ := hJ
  have htb : ∀ w ∈ us_big, w.before #[Value.ref b] s = true := fun w hw => hts w (List.mem_filter.mp hw).1
  have hown : s.vm.findClass RL = some m.cls := hown
  have hbA : ¬ us_new s.heap.size b := Nat.not_le.mpr hbl
  have hnu := hB2.1
  have hnm := hB2.2.1
  have hO : ∀ p, p < nm → ∃ n, n < nm ∧ F 5 p = nI n := hB2.2.2.2.2.2.2.1
  have hVm : ∀ m, m < nm → ∃ j, j < nu ∧ G 2 m = nI j := fun n hn => (hB2.2.2.2.2.2.2.2.2.2 n hn).1
  have hV : ∀ n, n < nm → ∃ j, j < nu ∧ F 0 n = nI j := by rw [hB2.2.2.1]; exact hVm
  have hLo : um_ok G nm (um_L nm F) := um_ok_of hB2
  have hAr : ∀ (t : Int32) (j : Nat), j < nu → ¬ um_in (um_st G (um_L nm F) t j 0) 3 5 = 0 → ∃ a, a < nm ∧ um_st G (um_L nm F) t j 11 = nI a := fun t j hj h => um_arr_ok hB2 hH t j hj h
  have hD : va_D (us_new s.heap.size) (us_W ad cU cI pa nu nm nk F U) := us_D_of (by rw [us_W_adr, us_W_adr]) hD0
  have hga := lw_ge hD0 us_W_adr
  have hgm := lw_ge hDm0 um_W_adr
  have hgc := lw_cons hao0 hga
  obtain ⟨p1, ep1⟩ : ∃ y : Int32, y = xs (5 * k + 1) := ⟨_, rfl⟩
  obtain ⟨p2, ep2⟩ : ∃ y : Int32, y = xs (5 * k + 2) := ⟨_, rfl⟩
  refine lv_aload_n hx hb dL_law_400 rfl (lv_at hl 3 rfl) ?_
  refine lv_aload_n hx hb dL_law_401 rfl (lv_at hl 4 rfl) ?_
  refine lv_iload hx hb dL_law_402 (lv_at hl 0 rfl) ?_
  refine lv_iconst (v := 1) hx hb dL_law_404 (by decide) ?_
  refine lv_iadd hx hb dL_law_405 ?_
  refine lw_sld hx hb hX hbl hbA hS (5 * k + 1) (y := p1) (nI_1 _) (by omega) hL ep1 dL_law_406 ?_
  refine lv_aload_n hx hb dL_law_407 rfl (lv_at hl 4 rfl) ?_
  refine lv_iload hx hb dL_law_408 (lv_at hl 0 rfl) ?_
  refine lv_iconst (v := 2) hx hb dL_law_410 (by decide) ?_
  refine lv_iadd hx hb dL_law_411 ?_
  refine lw_sld hx hb hX hbl hbA hS (5 * k + 2) (y := p2) (nI_add _ 2) (by omega) hL ep2 dL_law_412 ?_
  refine lv_aload_n hx hb dL_law_413 rfl (lv_at hl 1 rfl) ?_
  refine va_calli (vx_runSW (As := [.ref (ad 0), .int p1, .int p2, .ref ao]) (rest := []) ⟨hx, hb, hml, hown, htb⟩ (kt_L_age l hl9 dC dI ad cU cI pa H.size nu nm nk F U ao cJ o p1 p2 hnu hnm hO hV hao) (vx_cwSW 4 htb (us_gSW mw_367 mw_368 mw_31 mw_369) rfl rfl rfl (by decide +kernel) ⟨Nat.le_of_ble_eq_true rfl, Nat.le_of_ble_eq_true rfl⟩) ⟨lh_blind, fun U hU hW => ⟨rfl, us_Px_at hP hK hD hE hS (lw_AA hgc hS.1) hU hW, by rw [hU]; exact hOut, va_K.moved hW.alike hKJ⟩⟩ rfl rfl hl.1 rfl (lv_room (Nat.le_of_ble_eq_true rfl)) dL_law_414 ⟨by show 46 + 2 * k + 2 ≤ 601024; omega, by show 2544 + 12 * k + 12 ≤ 7293034; omega⟩) hS (fun q _ h => lw_AA hgc hS.1 q h) (lw_AA hgc hS.1) (fun r5 _ t H1 locs ht hvm hw hB hz1 hk1 hS => ?_)
  refine W.widen (k := 46 + 2 * k + 2) (n := 2544 + 12 * k + 12) (by omega) (by omega) ?_
  obtain rfl : r5 = um_plK p1 p2 nu := hw.trans (um_plK_eq hnu).symm
  have hkz : um_plK p1 p2 nu = 0 ↔ sp_ruK p1 p2 nu = 0 := by rw [(um_plK_eq hnu)]
  have hPm := lh_keep hPm (lw_notin haom hdis) hk1
  by_cases h0 : um_plK p1 p2 nu = 0
  · have hz : sp_ruK p1 p2 nu = 0 := hkz.mp h0
    obtain ⟨hB, o2, hOut, ho⟩ := hB.1 hz
    have hP := us_Bx_use ht hB
    rw [ht] at hOut
    have hPm : va_P (dC, dI) vwCl (um_W md cM th nu nm nk G v) H1 := hPm
    have hDm : va_D (us_new s.heap.size) (um_W md cM th nu nm nk G v) := us_D_of (by rw [um_W_adr, um_W_adr]) hDm0
    refine lv_istore (lv' := [(5, .int (um_plK p1 p2 nu)), (4, .int (nI (5 * k))), (3, .ref ao), (2, .ref (md 0)), (1, .ref (ad 0)), (0, .ref b)]) hx hb dL_law_417 hl (by decide) rfl (fun ls hl => ?_)
    refine lv_aload_n hx hb dL_law_419 rfl (lv_at hl 3 rfl) ?_
    refine lv_aload_n hx hb dL_law_420 rfl (lv_at hl 5 rfl) ?_
    refine lv_iload hx hb dL_law_421 (lv_at hl 1 rfl) ?_
    refine lv_iconst (v := 1) hx hb dL_law_423 (by decide) ?_
    refine lv_iadd hx hb dL_law_424 ?_
    refine lw_sld hx hb hX hbl hbA hS (5 * k + 1) (y := p1) (nI_1 _) (by omega) hL ep1 dL_law_425 ?_
    refine lv_aload_n hx hb dL_law_426 rfl (lv_at hl 5 rfl) ?_
    refine lv_iload hx hb dL_law_427 (lv_at hl 1 rfl) ?_
    refine lv_iconst (v := 2) hx hb dL_law_429 (by decide) ?_
    refine lv_iadd hx hb dL_law_430 ?_
    refine lw_sld hx hb hX hbl hbA hS (5 * k + 2) (y := p2) (nI_add _ 2) (by omega) hL ep2 dL_law_431 ?_
    refine va_calli (va_runV (As := [.int p1, .int p2]) (rest := []) ⟨hx, hb, hml, hown, htb⟩ (kt_X2_age l dC dI md cM H1.size th nu nm nk G v p1 p2 (um_L nm F) hnu hnm hLo hAr) (cwV 2 htb (us_gV mw_567 mw_568 mw_569 mw_34 mw_570) rfl rfl rfl (by decide +kernel) ⟨Nat.le_of_ble_eq_true rfl, Nat.le_of_ble_eq_true rfl⟩) ⟨um_P_blind, va_recv hKm hPm (ci := 2) (q0 := 0) rfl rfl, fun U hU hW => ⟨rfl, um_P_at hPm hKm hDm hU hW⟩⟩ rfl rfl hl.1 rfl (lv_room (Nat.le_of_ble_eq_true rfl)) dL_law_432 ⟨by show 46 + 2 * k + 2 + 0 ≤ 601024; omega, by show 2544 + 12 * k + 12 + 0 ≤ 7293034; omega⟩) hS (fun q _ h => lw_AA hgm hS.1 q h) (lw_AA hgm hS.1) (fun r6 v2 t H2 locs ht hvm hw hB hz1 hk1 hS => ?_)
    have hP := lh_keep hP (by rw [us_W_adr]; exact hdis) hk1
    have hOut := lh_keep hOut (fun x h => by cases List.mem_singleton.mp h; exact haom) hk1
    have hPm : va_P (dC, dI) vwCl (um_W md cM (um_plK p1 p2 nu) nu nm nk G v2) H2 := um_W_to (um_B_use ht hB) rfl rfl rfl rfl
    have hDm : va_D (us_new s.heap.size) (um_W md cM (um_plK p1 p2 nu) nu nm nk G v2) := us_D_of (by rw [um_W_adr, um_W_adr]) hDm0
    have he : o2 0 = r6.toInt64 := by rw [ho, hw h0, (um_place_eq hB2 hH p2 (lw_isU hnu (lw_ruF hz))).2.2]
    refine lv_istore (lv' := [(6, .int r6), (5, .int (um_plK p1 p2 nu)), (4, .int (nI (5 * k))), (3, .ref ao), (2, .ref (md 0)), (1, .ref (ad 0)), (0, .ref b)]) hx hb dL_law_435 hl (by decide) rfl (fun ls hl => ?_)
    refine lv_aload_n hx hb dL_law_437 rfl (lv_at hl 4 rfl) ?_
    refine va_calli (va_runV (As := []) (rest := []) ⟨hx, hb, hml, hown, htb⟩ (kt_X2_thrown l dC dI md cM H2.size (um_plK p1 p2 nu) nu nm nk G v2) (cwV 0 htb (us_gV mw_493 mw_494 mw_495 mw_34 mw_496) rfl rfl rfl (by decide +kernel) ⟨Nat.le_of_ble_eq_true rfl, Nat.le_of_ble_eq_true rfl⟩) ⟨um_P_blind, va_recv hKm hPm (ci := 2) (q0 := 0) rfl rfl, fun U hU hW => ⟨rfl, um_P_at hPm hKm hDm hU hW⟩⟩ rfl rfl hl.1 rfl (lv_room (Nat.le_of_ble_eq_true rfl)) dL_law_438 ⟨by show 46 + 2 * k + 2 + 0 ≤ 601024; omega, by show 2544 + 12 * k + 12 + 0 ≤ 7293034; omega⟩) hS (fun q h1 h2 => absurd h2 (Nat.not_le.mpr h1)) (fun q h => Nat.le_trans hS.1 h) (fun r7 _ t H3 locs ht hvm hw hB hz1 hk1 hS => ?_)
    subst hw
    have hP := us_mono hP (fun q h => hk1 q h (Nat.not_le.mpr h))
    have hPm := us_mono hPm (fun q h => hk1 q h (Nat.not_le.mpr h))
    have hOut := us_mono hOut (fun q h => hk1 q h (Nat.not_le.mpr h))
    refine lv_iload hx hb dL_law_441 (lv_at hl 1 rfl) ?_
    refine lv_icmp_eq (tgt := 448) hx hb dL_law_443 (by decide) (fun c_1 => ?_) (fun c_1 => ?_)
    · refine lv_iload hx hb dL_law_448 (lv_at hl 1 rfl) ?_
      refine lv_if_ne (tgt := 465) hx hb dL_law_450 (by decide) (fun c_2 => ?_) (fun c_2 => ?_)
      · exact absurd h0 c_2
      · refine lv_aload_n hx hb dL_law_453 rfl (lv_at hl 3 rfl) ?_
        refine lv_iconst (v := 0) hx hb dL_law_454 (by decide) ?_
        refine va_lald hx hb hKJ hOut 0 0 rfl rfl (vp_in_nI (n := 0) (N := 1) (by decide) (by decide)) dL_law_455 ?_
        refine lv_iload hx hb dL_law_456 (lv_at hl 0 rfl) ?_
        refine lv_i2l hx hb dL_law_458 rfl ?_
        refine W.lcmp hx hb dL_law_459 ?_
        refine lv_if_eq (tgt := 465) hx hb dL_law_460 (by decide) (fun c_3 => ?_) (fun c_3 => ?_)
        · refine lv_goto (tgt := 796) hx hb dL_law_465 (by decide) ?_
          obtain ⟨hB3, hH3⟩ := (show _ ∧ _ from ⟨um_both_rf hB2 p2, um_home_ru hB2 hH p2⟩)
          exact kk _ _ _ ⟨_, _, _, _, _, _, _, _, _, hP, hPm, hOut, hB3, hH3⟩ hS (lv_sub hl [2, 3, 4, 5, 6] rfl)
        · exact absurd (lw_cmp he) c_3
    · exact absurd rfl c_1
  · have hz : ¬ sp_ruK p1 p2 nu = 0 := fun h => h0 (hkz.mpr h)
    obtain ⟨hB, o2, hOut, ho⟩ := hB.2 hz
    have hP := us_Bx_use ht hB
    rw [ht] at hOut
    have hPm : va_P (dC, dI) vwCl (um_W md cM th nu nm nk G v) H1 := hPm
    have hDm : va_D (us_new s.heap.size) (um_W md cM th nu nm nk G v) := us_D_of (by rw [um_W_adr, um_W_adr]) hDm0
    refine lv_istore (lv' := [(5, .int (um_plK p1 p2 nu)), (4, .int (nI (5 * k))), (3, .ref ao), (2, .ref (md 0)), (1, .ref (ad 0)), (0, .ref b)]) hx hb dL_law_417 hl (by decide) rfl (fun ls hl => ?_)
    refine lv_aload_n hx hb dL_law_419 rfl (lv_at hl 3 rfl) ?_
    refine lv_aload_n hx hb dL_law_420 rfl (lv_at hl 5 rfl) ?_
    refine lv_iload hx hb dL_law_421 (lv_at hl 1 rfl) ?_
    refine lv_iconst (v := 1) hx hb dL_law_423 (by decide) ?_
    refine lv_iadd hx hb dL_law_424 ?_
    refine lw_sld hx hb hX hbl hbA hS (5 * k + 1) (y := p1) (nI_1 _) (by omega) hL ep1 dL_law_425 ?_
    refine lv_aload_n hx hb dL_law_426 rfl (lv_at hl 5 rfl) ?_
    refine lv_iload hx hb dL_law_427 (lv_at hl 1 rfl) ?_
    refine lv_iconst (v := 2) hx hb dL_law_429 (by decide) ?_
    refine lv_iadd hx hb dL_law_430 ?_
    refine lw_sld hx hb hX hbl hbA hS (5 * k + 2) (y := p2) (nI_add _ 2) (by omega) hL ep2 dL_law_431 ?_
    refine va_calli (va_runV (As := [.int p1, .int p2]) (rest := []) ⟨hx, hb, hml, hown, htb⟩ (kt_X2_age l dC dI md cM H1.size th nu nm nk G v p1 p2 (um_L nm F) hnu hnm hLo hAr) (cwV 2 htb (us_gV mw_567 mw_568 mw_569 mw_34 mw_570) rfl rfl rfl (by decide +kernel) ⟨Nat.le_of_ble_eq_true rfl, Nat.le_of_ble_eq_true rfl⟩) ⟨um_P_blind, va_recv hKm hPm (ci := 2) (q0 := 0) rfl rfl, fun U hU hW => ⟨rfl, um_P_at hPm hKm hDm hU hW⟩⟩ rfl rfl hl.1 rfl (lv_room (Nat.le_of_ble_eq_true rfl)) dL_law_432 ⟨by show 46 + 2 * k + 2 + 0 ≤ 601024; omega, by show 2544 + 12 * k + 12 + 0 ≤ 7293034; omega⟩) hS (fun q _ h => lw_AA hgm hS.1 q h) (lw_AA hgm hS.1) (fun r6 v2 t H2 locs ht hvm hw hB hz1 hk1 hS => ?_)
    have hP := lh_keep hP (by rw [us_W_adr]; exact hdis) hk1
    have hOut := lh_keep hOut (fun x h => by cases List.mem_singleton.mp h; exact haom) hk1
    have hPm : va_P (dC, dI) vwCl (um_W md cM (um_plK p1 p2 nu) nu nm nk G v2) H2 := um_W_to (um_B_use ht hB) rfl rfl rfl rfl
    have hDm : va_D (us_new s.heap.size) (um_W md cM (um_plK p1 p2 nu) nu nm nk G v2) := us_D_of (by rw [um_W_adr, um_W_adr]) hDm0
    refine lv_istore (lv' := [(6, .int r6), (5, .int (um_plK p1 p2 nu)), (4, .int (nI (5 * k))), (3, .ref ao), (2, .ref (md 0)), (1, .ref (ad 0)), (0, .ref b)]) hx hb dL_law_435 hl (by decide) rfl (fun ls hl => ?_)
    refine lv_aload_n hx hb dL_law_437 rfl (lv_at hl 4 rfl) ?_
    refine va_calli (va_runV (As := []) (rest := []) ⟨hx, hb, hml, hown, htb⟩ (kt_X2_thrown l dC dI md cM H2.size (um_plK p1 p2 nu) nu nm nk G v2) (cwV 0 htb (us_gV mw_493 mw_494 mw_495 mw_34 mw_496) rfl rfl rfl (by decide +kernel) ⟨Nat.le_of_ble_eq_true rfl, Nat.le_of_ble_eq_true rfl⟩) ⟨um_P_blind, va_recv hKm hPm (ci := 2) (q0 := 0) rfl rfl, fun U hU hW => ⟨rfl, um_P_at hPm hKm hDm hU hW⟩⟩ rfl rfl hl.1 rfl (lv_room (Nat.le_of_ble_eq_true rfl)) dL_law_438 ⟨by show 46 + 2 * k + 2 + 0 ≤ 601024; omega, by show 2544 + 12 * k + 12 + 0 ≤ 7293034; omega⟩) hS (fun q h1 h2 => absurd h2 (Nat.not_le.mpr h1)) (fun q h => Nat.le_trans hS.1 h) (fun r7 _ t H3 locs ht hvm hw hB hz1 hk1 hS => ?_)
    subst hw
    have hP := us_mono hP (fun q h => hk1 q h (Nat.not_le.mpr h))
    have hPm := us_mono hPm (fun q h => hk1 q h (Nat.not_le.mpr h))
    have hOut := us_mono hOut (fun q h => hk1 q h (Nat.not_le.mpr h))
    refine lv_iload hx hb dL_law_441 (lv_at hl 1 rfl) ?_
    refine lv_icmp_eq (tgt := 448) hx hb dL_law_443 (by decide) (fun c_4 => ?_) (fun c_4 => ?_)
    · refine lv_iload hx hb dL_law_448 (lv_at hl 1 rfl) ?_
      refine lv_if_ne (tgt := 465) hx hb dL_law_450 (by decide) (fun c_5 => ?_) (fun c_5 => ?_)
      · refine lv_goto (tgt := 796) hx hb dL_law_465 (by decide) ?_
        exact kk _ _ _ ⟨_, _, _, _, _, _, _, _, _, hP, hPm, hOut, hB2, hH⟩ hS (lv_sub hl [2, 3, 4, 5, 6] rfl)
      · exact absurd c_5 h0
    · exact absurd rfl c_4
set_option maxHeartbeats 8000000 in
set_option maxRecDepth 100000 in
theorem lw_c_expected {p : Program} {l : Launch} {e : Env} {s : State} {m : MethodId} {below : List Frame} {meth : Method} {c : Code} {dC : Nat → ClassId} {dI : Nat → Nat → Nat} {ad : Nat → Nat} {cU cI : ClassId} {pa md : Nat → Nat} {cM : ClassId} {ao : Nat} {cJ : ClassId} {b L : Nat} {xs : Nat → Int32} {Q : State → Prop} (hl9 : l.stackTraces = false) (hL : L ≤ 2560) (C0 : lw_At p s m meth c b L xs) (X0 : lw_X dC dI ad cU cI pa md cM ao cJ s) (k : Nat) (hk : 5 * k + 5 ≤ L) {H : Heap} {locs : List Loc} {ls : Array Slot} (hJ : lw_J dC dI ad cU cI pa md cM ao cJ H) (hS : va_S (us_new s.heap.size) s.heap H locs) (hl : lv_has ls 7 [(4, .int (nI (5 * k))), (3, .ref ao), (2, .ref (md 0)), (1, .ref (ad 0)), (0, .ref b)])
    (kk : ∀ (H1 : Heap) (locs1 : List Loc) (ls1 : Array Slot), lw_J dC dI ad cU cI pa md cM ao cJ H1 → va_S (us_new s.heap.size) s.heap H1 locs1 → lv_has ls1 7 [(4, .int (nI (5 * k))), (3, .ref ao), (2, .ref (md 0)), (1, .ref (ad 0)), (0, .ref b)] → W p l e room_1 s m #[Value.ref b] below meth c H1 locs1 (46 + 2 * k + 2) (2544 + 12 * k + 12) Q (F0 m 796 ls1 [])) : W p l e room_1 s m #[Value.ref b] below meth c H locs (46 + 2 * k) (2544 + 12 * k) Q (F0 m 468 ls []) := by
  obtain ⟨hx, hb, hr, hml, hown, hts, hX, hbl, hlocks, hgv⟩ := C0
  obtain ⟨hK, hKm, hKJ, hE, hD0, hDm0, hao0, hao, haom, hdis⟩ := X0
  obtain ⟨nu, nm, nk, th, F, U, G, v, o, hP, hPm, hOut, hB2, hH⟩ := hJ
  have htb : ∀ w ∈ us_big, w.before #[Value.ref b] s = true := fun w hw => hts w (List.mem_filter.mp hw).1
  have hown : s.vm.findClass RL = some m.cls := hown
  have hbA : ¬ us_new s.heap.size b := Nat.not_le.mpr hbl
  have hnu := hB2.1
  have hnm := hB2.2.1
  have hO : ∀ p, p < nm → ∃ n, n < nm ∧ F 5 p = nI n := hB2.2.2.2.2.2.2.1
  have hVm : ∀ m, m < nm → ∃ j, j < nu ∧ G 2 m = nI j := fun n hn => (hB2.2.2.2.2.2.2.2.2.2 n hn).1
  have hV : ∀ n, n < nm → ∃ j, j < nu ∧ F 0 n = nI j := by rw [hB2.2.2.1]; exact hVm
  have hLo : um_ok G nm (um_L nm F) := um_ok_of hB2
  have hAr : ∀ (t : Int32) (j : Nat), j < nu → ¬ um_in (um_st G (um_L nm F) t j 0) 3 5 = 0 → ∃ a, a < nm ∧ um_st G (um_L nm F) t j 11 = nI a := fun t j hj h => um_arr_ok hB2 hH t j hj h
  have hD : va_D (us_new s.heap.size) (us_W ad cU cI pa nu nm nk F U) := us_D_of (by rw [us_W_adr, us_W_adr]) hD0
  have hga := lw_ge hD0 us_W_adr
  have hgm := lw_ge hDm0 um_W_adr
  have hgc := lw_cons hao0 hga
  obtain ⟨p1, ep1⟩ : ∃ y : Int32, y = xs (5 * k + 1) := ⟨_, rfl⟩
  obtain ⟨p2, ep2⟩ : ∃ y : Int32, y = xs (5 * k + 2) := ⟨_, rfl⟩
  refine lv_aload_n hx hb dL_law_468 rfl (lv_at hl 3 rfl) ?_
  refine lv_aload_n hx hb dL_law_469 rfl (lv_at hl 4 rfl) ?_
  refine lv_iload hx hb dL_law_470 (lv_at hl 0 rfl) ?_
  refine lv_iconst (v := 1) hx hb dL_law_472 (by decide) ?_
  refine lv_iadd hx hb dL_law_473 ?_
  refine lw_sld hx hb hX hbl hbA hS (5 * k + 1) (y := p1) (nI_1 _) (by omega) hL ep1 dL_law_474 ?_
  refine lv_aload_n hx hb dL_law_475 rfl (lv_at hl 4 rfl) ?_
  refine lv_iload hx hb dL_law_476 (lv_at hl 0 rfl) ?_
  refine lv_iconst (v := 2) hx hb dL_law_478 (by decide) ?_
  refine lv_iadd hx hb dL_law_479 ?_
  refine lw_sld hx hb hX hbl hbA hS (5 * k + 2) (y := p2) (nI_add _ 2) (by omega) hL ep2 dL_law_480 ?_
  refine lv_aload_n hx hb dL_law_481 rfl (lv_at hl 1 rfl) ?_
  refine va_calli (vx_runSW (As := [.ref (ad 0), .int p1, .int p2, .ref ao]) (rest := []) ⟨hx, hb, hml, hown, htb⟩ (kt_L_expected l hl9 dC dI ad cU cI pa H.size nu nm nk F U ao cJ o p1 p2 hnu hnm hO hV hao) (vx_cwSW 4 htb (us_gSW mw_374 mw_375 mw_31 mw_376) rfl rfl rfl (by decide +kernel) ⟨Nat.le_of_ble_eq_true rfl, Nat.le_of_ble_eq_true rfl⟩) ⟨lh_blind, fun U hU hW => ⟨rfl, us_Px_at hP hK hD hE hS (lw_AA hgc hS.1) hU hW, by rw [hU]; exact hOut, va_K.moved hW.alike hKJ⟩⟩ rfl rfl hl.1 rfl (lv_room (Nat.le_of_ble_eq_true rfl)) dL_law_482 ⟨by show 46 + 2 * k + 2 ≤ 601024; omega, by show 2544 + 12 * k + 12 ≤ 7293034; omega⟩) hS (fun q _ h => lw_AA hgc hS.1 q h) (lw_AA hgc hS.1) (fun r5 _ t H1 locs ht hvm hw hB hz1 hk1 hS => ?_)
  refine W.widen (k := 46 + 2 * k + 2) (n := 2544 + 12 * k + 12) (by omega) (by omega) ?_
  obtain rfl : r5 = um_plK p1 p2 nu := hw.trans (um_plK_eq hnu).symm
  have hkz : um_plK p1 p2 nu = 0 ↔ sp_ruK p1 p2 nu = 0 := by rw [(um_plK_eq hnu)]
  have hPm := lh_keep hPm (lw_notin haom hdis) hk1
  by_cases h0 : um_plK p1 p2 nu = 0
  · have hz : sp_ruK p1 p2 nu = 0 := hkz.mp h0
    obtain ⟨hB, o2, hOut, ho⟩ := hB.1 hz
    have hP := us_Bx_use ht hB
    rw [ht] at hOut
    have hPm : va_P (dC, dI) vwCl (um_W md cM th nu nm nk G v) H1 := hPm
    have hDm : va_D (us_new s.heap.size) (um_W md cM th nu nm nk G v) := us_D_of (by rw [um_W_adr, um_W_adr]) hDm0
    refine lv_istore (lv' := [(5, .int (um_plK p1 p2 nu)), (4, .int (nI (5 * k))), (3, .ref ao), (2, .ref (md 0)), (1, .ref (ad 0)), (0, .ref b)]) hx hb dL_law_485 hl (by decide) rfl (fun ls hl => ?_)
    refine lv_aload_n hx hb dL_law_487 rfl (lv_at hl 3 rfl) ?_
    refine lv_aload_n hx hb dL_law_488 rfl (lv_at hl 5 rfl) ?_
    refine lv_iload hx hb dL_law_489 (lv_at hl 1 rfl) ?_
    refine lv_iconst (v := 1) hx hb dL_law_491 (by decide) ?_
    refine lv_iadd hx hb dL_law_492 ?_
    refine lw_sld hx hb hX hbl hbA hS (5 * k + 1) (y := p1) (nI_1 _) (by omega) hL ep1 dL_law_493 ?_
    refine lv_aload_n hx hb dL_law_494 rfl (lv_at hl 5 rfl) ?_
    refine lv_iload hx hb dL_law_495 (lv_at hl 1 rfl) ?_
    refine lv_iconst (v := 2) hx hb dL_law_497 (by decide) ?_
    refine lv_iadd hx hb dL_law_498 ?_
    refine lw_sld hx hb hX hbl hbA hS (5 * k + 2) (y := p2) (nI_add _ 2) (by omega) hL ep2 dL_law_499 ?_
    refine va_calli (va_runV (As := [.int p1, .int p2]) (rest := []) ⟨hx, hb, hml, hown, htb⟩ (kt_X2_expected l dC dI md cM H1.size th nu nm nk G v p1 p2 (um_L nm F) hnu hnm hLo hAr) (cwV 2 htb (us_gV mw_571 mw_572 mw_573 mw_34 mw_574) rfl rfl rfl (by decide +kernel) ⟨Nat.le_of_ble_eq_true rfl, Nat.le_of_ble_eq_true rfl⟩) ⟨um_P_blind, va_recv hKm hPm (ci := 2) (q0 := 0) rfl rfl, fun U hU hW => ⟨rfl, um_P_at hPm hKm hDm hU hW⟩⟩ rfl rfl hl.1 rfl (lv_room (Nat.le_of_ble_eq_true rfl)) dL_law_500 ⟨by show 46 + 2 * k + 2 + 0 ≤ 601024; omega, by show 2544 + 12 * k + 12 + 0 ≤ 7293034; omega⟩) hS (fun q _ h => lw_AA hgm hS.1 q h) (lw_AA hgm hS.1) (fun r6 v2 t H2 locs ht hvm hw hB hz1 hk1 hS => ?_)
    have hP := lh_keep hP (by rw [us_W_adr]; exact hdis) hk1
    have hOut := lh_keep hOut (fun x h => by cases List.mem_singleton.mp h; exact haom) hk1
    have hPm : va_P (dC, dI) vwCl (um_W md cM (um_plK p1 p2 nu) nu nm nk G v2) H2 := um_W_to (um_B_use ht hB) rfl rfl rfl rfl
    have hDm : va_D (us_new s.heap.size) (um_W md cM (um_plK p1 p2 nu) nu nm nk G v2) := us_D_of (by rw [um_W_adr, um_W_adr]) hDm0
    have he : o2 0 = r6.toInt64 := by rw [ho, hw h0, (um_place_eq hB2 hH p2 (lw_isU hnu (lw_ruF hz))).2.1]
    refine lv_istore (lv' := [(6, .int r6), (5, .int (um_plK p1 p2 nu)), (4, .int (nI (5 * k))), (3, .ref ao), (2, .ref (md 0)), (1, .ref (ad 0)), (0, .ref b)]) hx hb dL_law_503 hl (by decide) rfl (fun ls hl => ?_)
    refine lv_aload_n hx hb dL_law_505 rfl (lv_at hl 4 rfl) ?_
    refine va_calli (va_runV (As := []) (rest := []) ⟨hx, hb, hml, hown, htb⟩ (kt_X2_thrown l dC dI md cM H2.size (um_plK p1 p2 nu) nu nm nk G v2) (cwV 0 htb (us_gV mw_493 mw_494 mw_495 mw_34 mw_496) rfl rfl rfl (by decide +kernel) ⟨Nat.le_of_ble_eq_true rfl, Nat.le_of_ble_eq_true rfl⟩) ⟨um_P_blind, va_recv hKm hPm (ci := 2) (q0 := 0) rfl rfl, fun U hU hW => ⟨rfl, um_P_at hPm hKm hDm hU hW⟩⟩ rfl rfl hl.1 rfl (lv_room (Nat.le_of_ble_eq_true rfl)) dL_law_506 ⟨by show 46 + 2 * k + 2 + 0 ≤ 601024; omega, by show 2544 + 12 * k + 12 + 0 ≤ 7293034; omega⟩) hS (fun q h1 h2 => absurd h2 (Nat.not_le.mpr h1)) (fun q h => Nat.le_trans hS.1 h) (fun r7 _ t H3 locs ht hvm hw hB hz1 hk1 hS => ?_)
    subst hw
    have hP := us_mono hP (fun q h => hk1 q h (Nat.not_le.mpr h))
    have hPm := us_mono hPm (fun q h => hk1 q h (Nat.not_le.mpr h))
    have hOut := us_mono hOut (fun q h => hk1 q h (Nat.not_le.mpr h))
    refine lv_iload hx hb dL_law_509 (lv_at hl 1 rfl) ?_
    refine lv_icmp_eq (tgt := 516) hx hb dL_law_511 (by decide) (fun c_1 => ?_) (fun c_1 => ?_)
    · refine lv_iload hx hb dL_law_516 (lv_at hl 1 rfl) ?_
      refine lv_if_ne (tgt := 533) hx hb dL_law_518 (by decide) (fun c_2 => ?_) (fun c_2 => ?_)
      · exact absurd h0 c_2
      · refine lv_aload_n hx hb dL_law_521 rfl (lv_at hl 3 rfl) ?_
        refine lv_iconst (v := 0) hx hb dL_law_522 (by decide) ?_
        refine va_lald hx hb hKJ hOut 0 0 rfl rfl (vp_in_nI (n := 0) (N := 1) (by decide) (by decide)) dL_law_523 ?_
        refine lv_iload hx hb dL_law_524 (lv_at hl 0 rfl) ?_
        refine lv_i2l hx hb dL_law_526 rfl ?_
        refine W.lcmp hx hb dL_law_527 ?_
        refine lv_if_eq (tgt := 533) hx hb dL_law_528 (by decide) (fun c_3 => ?_) (fun c_3 => ?_)
        · refine lv_goto (tgt := 796) hx hb dL_law_533 (by decide) ?_
          obtain ⟨hB3, hH3⟩ := (show _ ∧ _ from ⟨um_both_rf hB2 p2, um_home_ru hB2 hH p2⟩)
          exact kk _ _ _ ⟨_, _, _, _, _, _, _, _, _, hP, hPm, hOut, hB3, hH3⟩ hS (lv_sub hl [2, 3, 4, 5, 6] rfl)
        · exact absurd (lw_cmp he) c_3
    · exact absurd rfl c_1
  · have hz : ¬ sp_ruK p1 p2 nu = 0 := fun h => h0 (hkz.mpr h)
    obtain ⟨hB, o2, hOut, ho⟩ := hB.2 hz
    have hP := us_Bx_use ht hB
    rw [ht] at hOut
    have hPm : va_P (dC, dI) vwCl (um_W md cM th nu nm nk G v) H1 := hPm
    have hDm : va_D (us_new s.heap.size) (um_W md cM th nu nm nk G v) := us_D_of (by rw [um_W_adr, um_W_adr]) hDm0
    refine lv_istore (lv' := [(5, .int (um_plK p1 p2 nu)), (4, .int (nI (5 * k))), (3, .ref ao), (2, .ref (md 0)), (1, .ref (ad 0)), (0, .ref b)]) hx hb dL_law_485 hl (by decide) rfl (fun ls hl => ?_)
    refine lv_aload_n hx hb dL_law_487 rfl (lv_at hl 3 rfl) ?_
    refine lv_aload_n hx hb dL_law_488 rfl (lv_at hl 5 rfl) ?_
    refine lv_iload hx hb dL_law_489 (lv_at hl 1 rfl) ?_
    refine lv_iconst (v := 1) hx hb dL_law_491 (by decide) ?_
    refine lv_iadd hx hb dL_law_492 ?_
    refine lw_sld hx hb hX hbl hbA hS (5 * k + 1) (y := p1) (nI_1 _) (by omega) hL ep1 dL_law_493 ?_
    refine lv_aload_n hx hb dL_law_494 rfl (lv_at hl 5 rfl) ?_
    refine lv_iload hx hb dL_law_495 (lv_at hl 1 rfl) ?_
    refine lv_iconst (v := 2) hx hb dL_law_497 (by decide) ?_
    refine lv_iadd hx hb dL_law_498 ?_
    refine lw_sld hx hb hX hbl hbA hS (5 * k + 2) (y := p2) (nI_add _ 2) (by omega) hL ep2 dL_law_499 ?_
    refine va_calli (va_runV (As := [.int p1, .int p2]) (rest := []) ⟨hx, hb, hml, hown, htb⟩ (kt_X2_expected l dC dI md cM H1.size th nu nm nk G v p1 p2 (um_L nm F) hnu hnm hLo hAr) (cwV 2 htb (us_gV mw_571 mw_572 mw_573 mw_34 mw_574) rfl rfl rfl (by decide +kernel) ⟨Nat.le_of_ble_eq_true rfl, Nat.le_of_ble_eq_true rfl⟩) ⟨um_P_blind, va_recv hKm hPm (ci := 2) (q0 := 0) rfl rfl, fun U hU hW => ⟨rfl, um_P_at hPm hKm hDm hU hW⟩⟩ rfl rfl hl.1 rfl (lv_room (Nat.le_of_ble_eq_true rfl)) dL_law_500 ⟨by show 46 + 2 * k + 2 + 0 ≤ 601024; omega, by show 2544 + 12 * k + 12 + 0 ≤ 7293034; omega⟩) hS (fun q _ h => lw_AA hgm hS.1 q h) (lw_AA hgm hS.1) (fun r6 v2 t H2 locs ht hvm hw hB hz1 hk1 hS => ?_)
    have hP := lh_keep hP (by rw [us_W_adr]; exact hdis) hk1
    have hOut := lh_keep hOut (fun x h => by cases List.mem_singleton.mp h; exact haom) hk1
    have hPm : va_P (dC, dI) vwCl (um_W md cM (um_plK p1 p2 nu) nu nm nk G v2) H2 := um_W_to (um_B_use ht hB) rfl rfl rfl rfl
    have hDm : va_D (us_new s.heap.size) (um_W md cM (um_plK p1 p2 nu) nu nm nk G v2) := us_D_of (by rw [um_W_adr, um_W_adr]) hDm0
    refine lv_istore (lv' := [(6, .int r6), (5, .int (um_plK p1 p2 nu)), (4, .int (nI (5 * k))), (3, .ref ao), (2, .ref (md 0)), (1, .ref (ad 0)), (0, .ref b)]) hx hb dL_law_503 hl (by decide) rfl (fun ls hl => ?_)
    refine lv_aload_n hx hb dL_law_505 rfl (lv_at hl 4 rfl) ?_
    refine va_calli (va_runV (As := []) (rest := []) ⟨hx, hb, hml, hown, htb⟩ (kt_X2_thrown l dC dI md cM H2.size (um_plK p1 p2 nu) nu nm nk G v2) (cwV 0 htb (us_gV mw_493 mw_494 mw_495 mw_34 mw_496) rfl rfl rfl (by decide +kernel) ⟨Nat.le_of_ble_eq_true rfl, Nat.le_of_ble_eq_true rfl⟩) ⟨um_P_blind, va_recv hKm hPm (ci := 2) (q0 := 0) rfl rfl, fun U hU hW => ⟨rfl, um_P_at hPm hKm hDm hU hW⟩⟩ rfl rfl hl.1 rfl (lv_room (Nat.le_of_ble_eq_true rfl)) dL_law_506 ⟨by show 46 + 2 * k + 2 + 0 ≤ 601024; omega, by show 2544 + 12 * k + 12 + 0 ≤ 7293034; omega⟩) hS (fun q h1 h2 => absurd h2 (Nat.not_le.mpr h1)) (fun q h => Nat.le_trans hS.1 h) (fun r7 _ t H3 locs ht hvm hw hB hz1 hk1 hS => ?_)
    subst hw
    have hP := us_mono hP (fun q h => hk1 q h (Nat.not_le.mpr h))
    have hPm := us_mono hPm (fun q h => hk1 q h (Nat.not_le.mpr h))
    have hOut := us_mono hOut (fun q h => hk1 q h (Nat.not_le.mpr h))
    refine lv_iload hx hb dL_law_509 (lv_at hl 1 rfl) ?_
    refine lv_icmp_eq (tgt := 516) hx hb dL_law_511 (by decide) (fun c_4 => ?_) (fun c_4 => ?_)
    · refine lv_iload hx hb dL_law_516 (lv_at hl 1 rfl) ?_
      refine lv_if_ne (tgt := 533) hx hb dL_law_518 (by decide) (fun c_5 => ?_) (fun c_5 => ?_)
      · refine lv_goto (tgt := 796) hx hb dL_law_533 (by decide) ?_
        exact kk _ _ _ ⟨_, _, _, _, _, _, _, _, _, hP, hPm, hOut, hB2, hH⟩ hS (lv_sub hl [2, 3, 4, 5, 6] rfl)
      · exact absurd c_5 h0
    · exact absurd rfl c_4
set_option maxHeartbeats 8000000 in
set_option maxRecDepth 100000 in
theorem lw_c_wrong {p : Program} {l : Launch} {e : Env} {s : State} {m : MethodId} {below : List Frame} {meth : Method} {c : Code} {dC : Nat → ClassId} {dI : Nat → Nat → Nat} {ad : Nat → Nat} {cU cI : ClassId} {pa md : Nat → Nat} {cM : ClassId} {ao : Nat} {cJ : ClassId} {b L : Nat} {xs : Nat → Int32} {Q : State → Prop} (hl9 : l.stackTraces = false) (hL : L ≤ 2560) (C0 : lw_At p s m meth c b L xs) (X0 : lw_X dC dI ad cU cI pa md cM ao cJ s) (k : Nat) (hk : 5 * k + 5 ≤ L) {H : Heap} {locs : List Loc} {ls : Array Slot} (hJ : lw_J dC dI ad cU cI pa md cM ao cJ H) (hS : va_S (us_new s.heap.size) s.heap H locs) (hl : lv_has ls 7 [(4, .int (nI (5 * k))), (3, .ref ao), (2, .ref (md 0)), (1, .ref (ad 0)), (0, .ref b)])
    (kk : ∀ (H1 : Heap) (locs1 : List Loc) (ls1 : Array Slot), lw_J dC dI ad cU cI pa md cM ao cJ H1 → va_S (us_new s.heap.size) s.heap H1 locs1 → lv_has ls1 7 [(4, .int (nI (5 * k))), (3, .ref ao), (2, .ref (md 0)), (1, .ref (ad 0)), (0, .ref b)] → W p l e room_1 s m #[Value.ref b] below meth c H1 locs1 (46 + 2 * k + 2) (2544 + 12 * k + 12) Q (F0 m 796 ls1 [])) : W p l e room_1 s m #[Value.ref b] below meth c H locs (46 + 2 * k) (2544 + 12 * k) Q (F0 m 536 ls []) := by
  obtain ⟨hx, hb, hr, hml, hown, hts, hX, hbl, hlocks, hgv⟩ := C0
  obtain ⟨hK, hKm, hKJ, hE, hD0, hDm0, hao0, hao, haom, hdis⟩ := X0
  obtain ⟨nu, nm, nk, th, F, U, G, v, o, hP, hPm, hOut, hB2, hH⟩ := hJ
  have htb : ∀ w ∈ us_big, w.before #[Value.ref b] s = true := fun w hw => hts w (List.mem_filter.mp hw).1
  have hown : s.vm.findClass RL = some m.cls := hown
  have hbA : ¬ us_new s.heap.size b := Nat.not_le.mpr hbl
  have hnu := hB2.1
  have hnm := hB2.2.1
  have hO : ∀ p, p < nm → ∃ n, n < nm ∧ F 5 p = nI n := hB2.2.2.2.2.2.2.1
  have hVm : ∀ m, m < nm → ∃ j, j < nu ∧ G 2 m = nI j := fun n hn => (hB2.2.2.2.2.2.2.2.2.2 n hn).1
  have hV : ∀ n, n < nm → ∃ j, j < nu ∧ F 0 n = nI j := by rw [hB2.2.2.1]; exact hVm
  have hMi : ∀ m, m < nm → G 3 m ≤ 99999 := fun n hn => (hB2.2.2.2.2.2.2.2.2.2 n hn).2.2.2
  have hLo : um_ok G nm (um_L nm F) := um_ok_of hB2
  have hD : va_D (us_new s.heap.size) (us_W ad cU cI pa nu nm nk F U) := us_D_of (by rw [us_W_adr, us_W_adr]) hD0
  have hga := lw_ge hD0 us_W_adr
  have hgm := lw_ge hDm0 um_W_adr
  have hgc := lw_cons hao0 hga
  obtain ⟨p1, ep1⟩ : ∃ y : Int32, y = xs (5 * k + 1) := ⟨_, rfl⟩
  refine lv_aload_n hx hb dL_law_536 rfl (lv_at hl 3 rfl) ?_
  refine lv_aload_n hx hb dL_law_537 rfl (lv_at hl 4 rfl) ?_
  refine lv_iload hx hb dL_law_538 (lv_at hl 0 rfl) ?_
  refine lv_iconst (v := 1) hx hb dL_law_540 (by decide) ?_
  refine lv_iadd hx hb dL_law_541 ?_
  refine lw_sld hx hb hX hbl hbA hS (5 * k + 1) (y := p1) (nI_1 _) (by omega) hL ep1 dL_law_542 ?_
  refine lv_aload_n hx hb dL_law_543 rfl (lv_at hl 1 rfl) ?_
  refine va_calli (vx_runSW (As := [.ref (ad 0), .int p1, .ref ao]) (rest := []) ⟨hx, hb, hml, hown, htb⟩ (kt_L_wrong l hl9 dC dI ad cU cI pa H.size nu nm nk F U ao cJ o p1 hnu hnm hO hV hao) (vx_cwSW 3 htb (us_gSW mw_381 mw_382 mw_31 mw_383) rfl rfl rfl (by decide +kernel) ⟨Nat.le_of_ble_eq_true rfl, Nat.le_of_ble_eq_true rfl⟩) ⟨lh_blind, fun U hU hW => ⟨rfl, us_Px_at hP hK hD hE hS (lw_AA hgc hS.1) hU hW, by rw [hU]; exact hOut, va_K.moved hW.alike hKJ⟩⟩ rfl rfl hl.1 rfl (lv_room (Nat.le_of_ble_eq_true rfl)) dL_law_544 ⟨by show 46 + 2 * k + 1 ≤ 601024; omega, by show 2544 + 12 * k + 6 ≤ 7293034; omega⟩) hS (fun q _ h => lw_AA hgc hS.1 q h) (lw_AA hgc hS.1) (fun r5 _ t H1 locs ht hvm hw hB hz1 hk1 hS => ?_)
  refine W.widen (k := 46 + 2 * k + 2) (n := 2544 + 12 * k + 12) (by omega) (by omega) ?_
  obtain rfl : r5 = um_wrK p1 nm := hw.trans (um_wrK_eq hnm).symm
  have hkz : um_wrK p1 nm = 0 ↔ sp_wrongK p1 nm = 0 := by rw [(um_wrK_eq hnm)]
  have hPm := lh_keep hPm (lw_notin haom hdis) hk1
  by_cases h0 : um_wrK p1 nm = 0
  · have hz : sp_wrongK p1 nm = 0 := hkz.mp h0
    obtain ⟨hB, o2, hOut, ho⟩ := hB.1 hz
    have hP := us_Bx_use ht hB
    rw [ht] at hOut
    have hPm : va_P (dC, dI) vwCl (um_W md cM th nu nm nk G v) H1 := hPm
    have hDm : va_D (us_new s.heap.size) (um_W md cM th nu nm nk G v) := us_D_of (by rw [um_W_adr, um_W_adr]) hDm0
    refine lv_istore (lv' := [(5, .int (um_wrK p1 nm)), (4, .int (nI (5 * k))), (3, .ref ao), (2, .ref (md 0)), (1, .ref (ad 0)), (0, .ref b)]) hx hb dL_law_547 hl (by decide) rfl (fun ls hl => ?_)
    refine lv_aload_n hx hb dL_law_549 rfl (lv_at hl 3 rfl) ?_
    refine lv_aload_n hx hb dL_law_550 rfl (lv_at hl 5 rfl) ?_
    refine lv_iload hx hb dL_law_551 (lv_at hl 1 rfl) ?_
    refine lv_iconst (v := 1) hx hb dL_law_553 (by decide) ?_
    refine lv_iadd hx hb dL_law_554 ?_
    refine lw_sld hx hb hX hbl hbA hS (5 * k + 1) (y := p1) (nI_1 _) (by omega) hL ep1 dL_law_555 ?_
    refine va_calli (va_runV (As := [.int p1]) (rest := []) ⟨hx, hb, hml, hown, htb⟩ (kt_X2_wrong l dC dI md cM H1.size th nu nm nk G v p1 (um_L nm F) hnu hnm hLo hVm hMi) (cwV 1 htb (us_gV mw_575 mw_576 mw_577 mw_34 mw_578) rfl rfl rfl (by decide +kernel) ⟨Nat.le_of_ble_eq_true rfl, Nat.le_of_ble_eq_true rfl⟩) ⟨um_P_blind, va_recv hKm hPm (ci := 2) (q0 := 0) rfl rfl, fun U hU hW => ⟨rfl, um_P_at hPm hKm hDm hU hW⟩⟩ rfl rfl hl.1 rfl (lv_room (Nat.le_of_ble_eq_true rfl)) dL_law_556 ⟨by show 46 + 2 * k + 2 + 0 ≤ 601024; omega, by show 2544 + 12 * k + 12 + 0 ≤ 7293034; omega⟩) hS (fun q _ h => lw_AA hgm hS.1 q h) (lw_AA hgm hS.1) (fun r6 v2 t H2 locs ht hvm hw hB hz1 hk1 hS => ?_)
    have hP := lh_keep hP (by rw [us_W_adr]; exact hdis) hk1
    have hOut := lh_keep hOut (fun x h => by cases List.mem_singleton.mp h; exact haom) hk1
    have hPm : va_P (dC, dI) vwCl (um_W md cM (um_wrK p1 nm) nu nm nk G v2) H2 := um_W_to (um_B_use ht hB) rfl rfl rfl rfl
    have hDm : va_D (us_new s.heap.size) (um_W md cM (um_wrK p1 nm) nu nm nk G v2) := us_D_of (by rw [um_W_adr, um_W_adr]) hDm0
    have he : o2 0 = r6.toInt64 := by rw [ho, hw h0, (um_said_of hB2 hH (lw_wrF hnm hz))]
    refine lv_istore (lv' := [(6, .int r6), (5, .int (um_wrK p1 nm)), (4, .int (nI (5 * k))), (3, .ref ao), (2, .ref (md 0)), (1, .ref (ad 0)), (0, .ref b)]) hx hb dL_law_559 hl (by decide) rfl (fun ls hl => ?_)
    refine lv_aload_n hx hb dL_law_561 rfl (lv_at hl 4 rfl) ?_
    refine va_calli (va_runV (As := []) (rest := []) ⟨hx, hb, hml, hown, htb⟩ (kt_X2_thrown l dC dI md cM H2.size (um_wrK p1 nm) nu nm nk G v2) (cwV 0 htb (us_gV mw_493 mw_494 mw_495 mw_34 mw_496) rfl rfl rfl (by decide +kernel) ⟨Nat.le_of_ble_eq_true rfl, Nat.le_of_ble_eq_true rfl⟩) ⟨um_P_blind, va_recv hKm hPm (ci := 2) (q0 := 0) rfl rfl, fun U hU hW => ⟨rfl, um_P_at hPm hKm hDm hU hW⟩⟩ rfl rfl hl.1 rfl (lv_room (Nat.le_of_ble_eq_true rfl)) dL_law_562 ⟨by show 46 + 2 * k + 2 + 0 ≤ 601024; omega, by show 2544 + 12 * k + 12 + 0 ≤ 7293034; omega⟩) hS (fun q h1 h2 => absurd h2 (Nat.not_le.mpr h1)) (fun q h => Nat.le_trans hS.1 h) (fun r7 _ t H3 locs ht hvm hw hB hz1 hk1 hS => ?_)
    subst hw
    have hP := us_mono hP (fun q h => hk1 q h (Nat.not_le.mpr h))
    have hPm := us_mono hPm (fun q h => hk1 q h (Nat.not_le.mpr h))
    have hOut := us_mono hOut (fun q h => hk1 q h (Nat.not_le.mpr h))
    refine lv_iload hx hb dL_law_565 (lv_at hl 1 rfl) ?_
    refine lv_icmp_eq (tgt := 572) hx hb dL_law_567 (by decide) (fun c_1 => ?_) (fun c_1 => ?_)
    · refine lv_iload hx hb dL_law_572 (lv_at hl 1 rfl) ?_
      refine lv_if_ne (tgt := 589) hx hb dL_law_574 (by decide) (fun c_2 => ?_) (fun c_2 => ?_)
      · exact absurd h0 c_2
      · refine lv_aload_n hx hb dL_law_577 rfl (lv_at hl 3 rfl) ?_
        refine lv_iconst (v := 0) hx hb dL_law_578 (by decide) ?_
        refine va_lald hx hb hKJ hOut 0 0 rfl rfl (vp_in_nI (n := 0) (N := 1) (by decide) (by decide)) dL_law_579 ?_
        refine lv_iload hx hb dL_law_580 (lv_at hl 0 rfl) ?_
        refine lv_i2l hx hb dL_law_582 rfl ?_
        refine W.lcmp hx hb dL_law_583 ?_
        refine lv_if_eq (tgt := 589) hx hb dL_law_584 (by decide) (fun c_3 => ?_) (fun c_3 => ?_)
        · refine lv_goto (tgt := 796) hx hb dL_law_589 (by decide) ?_
          obtain ⟨hB3, hH3⟩ := (show _ ∧ _ from ⟨um_both_rf hB2 99999, um_home_ru hB2 hH 99999⟩)
          exact kk _ _ _ ⟨_, _, _, _, _, _, _, _, _, hP, hPm, hOut, hB3, hH3⟩ hS (lv_sub hl [2, 3, 4, 5, 6] rfl)
        · exact absurd (lw_cmp he) c_3
    · exact absurd rfl c_1
  · have hz : ¬ sp_wrongK p1 nm = 0 := fun h => h0 (hkz.mpr h)
    obtain ⟨hB, o2, hOut, ho⟩ := hB.2 hz
    have hP := us_Bx_use ht hB
    rw [ht] at hOut
    have hPm : va_P (dC, dI) vwCl (um_W md cM th nu nm nk G v) H1 := hPm
    have hDm : va_D (us_new s.heap.size) (um_W md cM th nu nm nk G v) := us_D_of (by rw [um_W_adr, um_W_adr]) hDm0
    refine lv_istore (lv' := [(5, .int (um_wrK p1 nm)), (4, .int (nI (5 * k))), (3, .ref ao), (2, .ref (md 0)), (1, .ref (ad 0)), (0, .ref b)]) hx hb dL_law_547 hl (by decide) rfl (fun ls hl => ?_)
    refine lv_aload_n hx hb dL_law_549 rfl (lv_at hl 3 rfl) ?_
    refine lv_aload_n hx hb dL_law_550 rfl (lv_at hl 5 rfl) ?_
    refine lv_iload hx hb dL_law_551 (lv_at hl 1 rfl) ?_
    refine lv_iconst (v := 1) hx hb dL_law_553 (by decide) ?_
    refine lv_iadd hx hb dL_law_554 ?_
    refine lw_sld hx hb hX hbl hbA hS (5 * k + 1) (y := p1) (nI_1 _) (by omega) hL ep1 dL_law_555 ?_
    refine va_calli (va_runV (As := [.int p1]) (rest := []) ⟨hx, hb, hml, hown, htb⟩ (kt_X2_wrong l dC dI md cM H1.size th nu nm nk G v p1 (um_L nm F) hnu hnm hLo hVm hMi) (cwV 1 htb (us_gV mw_575 mw_576 mw_577 mw_34 mw_578) rfl rfl rfl (by decide +kernel) ⟨Nat.le_of_ble_eq_true rfl, Nat.le_of_ble_eq_true rfl⟩) ⟨um_P_blind, va_recv hKm hPm (ci := 2) (q0 := 0) rfl rfl, fun U hU hW => ⟨rfl, um_P_at hPm hKm hDm hU hW⟩⟩ rfl rfl hl.1 rfl (lv_room (Nat.le_of_ble_eq_true rfl)) dL_law_556 ⟨by show 46 + 2 * k + 2 + 0 ≤ 601024; omega, by show 2544 + 12 * k + 12 + 0 ≤ 7293034; omega⟩) hS (fun q _ h => lw_AA hgm hS.1 q h) (lw_AA hgm hS.1) (fun r6 v2 t H2 locs ht hvm hw hB hz1 hk1 hS => ?_)
    have hP := lh_keep hP (by rw [us_W_adr]; exact hdis) hk1
    have hOut := lh_keep hOut (fun x h => by cases List.mem_singleton.mp h; exact haom) hk1
    have hPm : va_P (dC, dI) vwCl (um_W md cM (um_wrK p1 nm) nu nm nk G v2) H2 := um_W_to (um_B_use ht hB) rfl rfl rfl rfl
    have hDm : va_D (us_new s.heap.size) (um_W md cM (um_wrK p1 nm) nu nm nk G v2) := us_D_of (by rw [um_W_adr, um_W_adr]) hDm0
    refine lv_istore (lv' := [(6, .int r6), (5, .int (um_wrK p1 nm)), (4, .int (nI (5 * k))), (3, .ref ao), (2, .ref (md 0)), (1, .ref (ad 0)), (0, .ref b)]) hx hb dL_law_559 hl (by decide) rfl (fun ls hl => ?_)
    refine lv_aload_n hx hb dL_law_561 rfl (lv_at hl 4 rfl) ?_
    refine va_calli (va_runV (As := []) (rest := []) ⟨hx, hb, hml, hown, htb⟩ (kt_X2_thrown l dC dI md cM H2.size (um_wrK p1 nm) nu nm nk G v2) (cwV 0 htb (us_gV mw_493 mw_494 mw_495 mw_34 mw_496) rfl rfl rfl (by decide +kernel) ⟨Nat.le_of_ble_eq_true rfl, Nat.le_of_ble_eq_true rfl⟩) ⟨um_P_blind, va_recv hKm hPm (ci := 2) (q0 := 0) rfl rfl, fun U hU hW => ⟨rfl, um_P_at hPm hKm hDm hU hW⟩⟩ rfl rfl hl.1 rfl (lv_room (Nat.le_of_ble_eq_true rfl)) dL_law_562 ⟨by show 46 + 2 * k + 2 + 0 ≤ 601024; omega, by show 2544 + 12 * k + 12 + 0 ≤ 7293034; omega⟩) hS (fun q h1 h2 => absurd h2 (Nat.not_le.mpr h1)) (fun q h => Nat.le_trans hS.1 h) (fun r7 _ t H3 locs ht hvm hw hB hz1 hk1 hS => ?_)
    subst hw
    have hP := us_mono hP (fun q h => hk1 q h (Nat.not_le.mpr h))
    have hPm := us_mono hPm (fun q h => hk1 q h (Nat.not_le.mpr h))
    have hOut := us_mono hOut (fun q h => hk1 q h (Nat.not_le.mpr h))
    refine lv_iload hx hb dL_law_565 (lv_at hl 1 rfl) ?_
    refine lv_icmp_eq (tgt := 572) hx hb dL_law_567 (by decide) (fun c_4 => ?_) (fun c_4 => ?_)
    · refine lv_iload hx hb dL_law_572 (lv_at hl 1 rfl) ?_
      refine lv_if_ne (tgt := 589) hx hb dL_law_574 (by decide) (fun c_5 => ?_) (fun c_5 => ?_)
      · refine lv_goto (tgt := 796) hx hb dL_law_589 (by decide) ?_
        exact kk _ _ _ ⟨_, _, _, _, _, _, _, _, _, hP, hPm, hOut, hB2, hH⟩ hS (lv_sub hl [2, 3, 4, 5, 6] rfl)
      · exact absurd c_5 h0
    · exact absurd rfl c_4
set_option maxHeartbeats 8000000 in
set_option maxRecDepth 100000 in
theorem lw_c_told {p : Program} {l : Launch} {e : Env} {s : State} {m : MethodId} {below : List Frame} {meth : Method} {c : Code} {dC : Nat → ClassId} {dI : Nat → Nat → Nat} {ad : Nat → Nat} {cU cI : ClassId} {pa md : Nat → Nat} {cM : ClassId} {ao : Nat} {cJ : ClassId} {b L : Nat} {xs : Nat → Int32} {Q : State → Prop} (hl9 : l.stackTraces = false) (hL : L ≤ 2560) (C0 : lw_At p s m meth c b L xs) (X0 : lw_X dC dI ad cU cI pa md cM ao cJ s) (k : Nat) (hk : 5 * k + 5 ≤ L) {H : Heap} {locs : List Loc} {ls : Array Slot} (hJ : lw_J dC dI ad cU cI pa md cM ao cJ H) (hS : va_S (us_new s.heap.size) s.heap H locs) (hl : lv_has ls 7 [(4, .int (nI (5 * k))), (3, .ref ao), (2, .ref (md 0)), (1, .ref (ad 0)), (0, .ref b)])
    (kk : ∀ (H1 : Heap) (locs1 : List Loc) (ls1 : Array Slot), lw_J dC dI ad cU cI pa md cM ao cJ H1 → va_S (us_new s.heap.size) s.heap H1 locs1 → lv_has ls1 7 [(4, .int (nI (5 * k))), (3, .ref ao), (2, .ref (md 0)), (1, .ref (ad 0)), (0, .ref b)] → W p l e room_1 s m #[Value.ref b] below meth c H1 locs1 (46 + 2 * k + 2) (2544 + 12 * k + 12) Q (F0 m 796 ls1 [])) : W p l e room_1 s m #[Value.ref b] below meth c H locs (46 + 2 * k) (2544 + 12 * k) Q (F0 m 592 ls []) := by
  obtain ⟨hx, hb, hr, hml, hown, hts, hX, hbl, hlocks, hgv⟩ := C0
  obtain ⟨hK, hKm, hKJ, hE, hD0, hDm0, hao0, hao, haom, hdis⟩ := X0
  obtain ⟨nu, nm, nk, th, F, U, G, v, o, hP, hPm, hOut, hB2, hH⟩ := hJ
  have htb : ∀ w ∈ us_big, w.before #[Value.ref b] s = true := fun w hw => hts w (List.mem_filter.mp hw).1
  have hown : s.vm.findClass RL = some m.cls := hown
  have hbA : ¬ us_new s.heap.size b := Nat.not_le.mpr hbl
  have hnu := hB2.1
  have hnm := hB2.2.1
  have hO : ∀ p, p < nm → ∃ n, n < nm ∧ F 5 p = nI n := hB2.2.2.2.2.2.2.1
  have hVm : ∀ m, m < nm → ∃ j, j < nu ∧ G 2 m = nI j := fun n hn => (hB2.2.2.2.2.2.2.2.2.2 n hn).1
  have hV : ∀ n, n < nm → ∃ j, j < nu ∧ F 0 n = nI j := by rw [hB2.2.2.1]; exact hVm
  have hMi : ∀ m, m < nm → G 3 m ≤ 99999 := fun n hn => (hB2.2.2.2.2.2.2.2.2.2 n hn).2.2.2
  have hLo : um_ok G nm (um_L nm F) := um_ok_of hB2
  have hD : va_D (us_new s.heap.size) (us_W ad cU cI pa nu nm nk F U) := us_D_of (by rw [us_W_adr, us_W_adr]) hD0
  have hga := lw_ge hD0 us_W_adr
  have hgm := lw_ge hDm0 um_W_adr
  have hgc := lw_cons hao0 hga
  obtain ⟨p1, ep1⟩ : ∃ y : Int32, y = xs (5 * k + 1) := ⟨_, rfl⟩
  refine lv_aload_n hx hb dL_law_592 rfl (lv_at hl 3 rfl) ?_
  refine lv_aload_n hx hb dL_law_593 rfl (lv_at hl 4 rfl) ?_
  refine lv_iload hx hb dL_law_594 (lv_at hl 0 rfl) ?_
  refine lv_iconst (v := 1) hx hb dL_law_596 (by decide) ?_
  refine lv_iadd hx hb dL_law_597 ?_
  refine lw_sld hx hb hX hbl hbA hS (5 * k + 1) (y := p1) (nI_1 _) (by omega) hL ep1 dL_law_598 ?_
  refine lv_aload_n hx hb dL_law_599 rfl (lv_at hl 1 rfl) ?_
  refine va_calli (vx_runSW (As := [.ref (ad 0), .int p1, .ref ao]) (rest := []) ⟨hx, hb, hml, hown, htb⟩ (kt_L_told l hl9 dC dI ad cU cI pa H.size nu nm nk F U ao cJ o p1 hnu hnm hO hV hao) (vx_cwSW 3 htb (us_gSW mw_389 mw_390 mw_31 mw_391) rfl rfl rfl (by decide +kernel) ⟨Nat.le_of_ble_eq_true rfl, Nat.le_of_ble_eq_true rfl⟩) ⟨lh_blind, fun U hU hW => ⟨rfl, us_Px_at hP hK hD hE hS (lw_AA hgc hS.1) hU hW, by rw [hU]; exact hOut, va_K.moved hW.alike hKJ⟩⟩ rfl rfl hl.1 rfl (lv_room (Nat.le_of_ble_eq_true rfl)) dL_law_600 ⟨by show 46 + 2 * k + 1 ≤ 601024; omega, by show 2544 + 12 * k + 6 ≤ 7293034; omega⟩) hS (fun q _ h => lw_AA hgc hS.1 q h) (lw_AA hgc hS.1) (fun r5 _ t H1 locs ht hvm hw hB hz1 hk1 hS => ?_)
  refine W.widen (k := 46 + 2 * k + 2) (n := 2544 + 12 * k + 12) (by omega) (by omega) ?_
  obtain rfl : r5 = um_toK p1 := hw.trans (um_toK_eq p1).symm
  have hkz : um_toK p1 = 0 ↔ sp_toldK p1 = 0 := by rw [(um_toK_eq p1)]
  have hPm := lh_keep hPm (lw_notin haom hdis) hk1
  by_cases h0 : um_toK p1 = 0
  · have hz : sp_toldK p1 = 0 := hkz.mp h0
    obtain ⟨hB, o2, hOut, ho⟩ := hB.1 hz
    have hP := us_Bx_use ht hB
    rw [ht] at hOut
    have hPm : va_P (dC, dI) vwCl (um_W md cM th nu nm nk G v) H1 := hPm
    have hDm : va_D (us_new s.heap.size) (um_W md cM th nu nm nk G v) := us_D_of (by rw [um_W_adr, um_W_adr]) hDm0
    refine lv_istore (lv' := [(5, .int (um_toK p1)), (4, .int (nI (5 * k))), (3, .ref ao), (2, .ref (md 0)), (1, .ref (ad 0)), (0, .ref b)]) hx hb dL_law_603 hl (by decide) rfl (fun ls hl => ?_)
    refine lv_aload_n hx hb dL_law_605 rfl (lv_at hl 3 rfl) ?_
    refine lv_aload_n hx hb dL_law_606 rfl (lv_at hl 5 rfl) ?_
    refine lv_iload hx hb dL_law_607 (lv_at hl 1 rfl) ?_
    refine lv_iconst (v := 1) hx hb dL_law_609 (by decide) ?_
    refine lv_iadd hx hb dL_law_610 ?_
    refine lw_sld hx hb hX hbl hbA hS (5 * k + 1) (y := p1) (nI_1 _) (by omega) hL ep1 dL_law_611 ?_
    refine va_calli (va_runV (As := [.int p1]) (rest := []) ⟨hx, hb, hml, hown, htb⟩ (kt_X2_told l dC dI md cM H1.size th nu nm nk G v p1 (um_L nm F) hnu hnm hLo hVm hMi) (cwV 1 htb (us_gV mw_583 mw_584 mw_585 mw_34 mw_586) rfl rfl rfl (by decide +kernel) ⟨Nat.le_of_ble_eq_true rfl, Nat.le_of_ble_eq_true rfl⟩) ⟨um_P_blind, va_recv hKm hPm (ci := 2) (q0 := 0) rfl rfl, fun U hU hW => ⟨rfl, um_P_at hPm hKm hDm hU hW⟩⟩ rfl rfl hl.1 rfl (lv_room (Nat.le_of_ble_eq_true rfl)) dL_law_612 ⟨by show 46 + 2 * k + 2 + 0 ≤ 601024; omega, by show 2544 + 12 * k + 12 + 0 ≤ 7293034; omega⟩) hS (fun q _ h => lw_AA hgm hS.1 q h) (lw_AA hgm hS.1) (fun r6 v2 t H2 locs ht hvm hw hB hz1 hk1 hS => ?_)
    have hP := lh_keep hP (by rw [us_W_adr]; exact hdis) hk1
    have hOut := lh_keep hOut (fun x h => by cases List.mem_singleton.mp h; exact haom) hk1
    have hPm : va_P (dC, dI) vwCl (um_W md cM (um_toK p1) nu nm nk G v2) H2 := um_W_to (um_B_use ht hB) rfl rfl rfl rfl
    have hDm : va_D (us_new s.heap.size) (um_W md cM (um_toK p1) nu nm nk G v2) := us_D_of (by rw [um_W_adr, um_W_adr]) hDm0
    have he : o2 0 = r6.toInt64 := by rw [ho, hw h0, (um_told_eq hB2 hH (lw_toF h0))]
    refine lv_istore (lv' := [(6, .int r6), (5, .int (um_toK p1)), (4, .int (nI (5 * k))), (3, .ref ao), (2, .ref (md 0)), (1, .ref (ad 0)), (0, .ref b)]) hx hb dL_law_615 hl (by decide) rfl (fun ls hl => ?_)
    refine lv_aload_n hx hb dL_law_617 rfl (lv_at hl 4 rfl) ?_
    refine va_calli (va_runV (As := []) (rest := []) ⟨hx, hb, hml, hown, htb⟩ (kt_X2_thrown l dC dI md cM H2.size (um_toK p1) nu nm nk G v2) (cwV 0 htb (us_gV mw_493 mw_494 mw_495 mw_34 mw_496) rfl rfl rfl (by decide +kernel) ⟨Nat.le_of_ble_eq_true rfl, Nat.le_of_ble_eq_true rfl⟩) ⟨um_P_blind, va_recv hKm hPm (ci := 2) (q0 := 0) rfl rfl, fun U hU hW => ⟨rfl, um_P_at hPm hKm hDm hU hW⟩⟩ rfl rfl hl.1 rfl (lv_room (Nat.le_of_ble_eq_true rfl)) dL_law_618 ⟨by show 46 + 2 * k + 2 + 0 ≤ 601024; omega, by show 2544 + 12 * k + 12 + 0 ≤ 7293034; omega⟩) hS (fun q h1 h2 => absurd h2 (Nat.not_le.mpr h1)) (fun q h => Nat.le_trans hS.1 h) (fun r7 _ t H3 locs ht hvm hw hB hz1 hk1 hS => ?_)
    subst hw
    have hP := us_mono hP (fun q h => hk1 q h (Nat.not_le.mpr h))
    have hPm := us_mono hPm (fun q h => hk1 q h (Nat.not_le.mpr h))
    have hOut := us_mono hOut (fun q h => hk1 q h (Nat.not_le.mpr h))
    refine lv_iload hx hb dL_law_621 (lv_at hl 1 rfl) ?_
    refine lv_icmp_eq (tgt := 628) hx hb dL_law_623 (by decide) (fun c_1 => ?_) (fun c_1 => ?_)
    · refine lv_iload hx hb dL_law_628 (lv_at hl 1 rfl) ?_
      refine lv_if_ne (tgt := 645) hx hb dL_law_630 (by decide) (fun c_2 => ?_) (fun c_2 => ?_)
      · exact absurd h0 c_2
      · refine lv_aload_n hx hb dL_law_633 rfl (lv_at hl 3 rfl) ?_
        refine lv_iconst (v := 0) hx hb dL_law_634 (by decide) ?_
        refine va_lald hx hb hKJ hOut 0 0 rfl rfl (vp_in_nI (n := 0) (N := 1) (by decide) (by decide)) dL_law_635 ?_
        refine lv_iload hx hb dL_law_636 (lv_at hl 0 rfl) ?_
        refine lv_i2l hx hb dL_law_638 rfl ?_
        refine W.lcmp hx hb dL_law_639 ?_
        refine lv_if_eq (tgt := 645) hx hb dL_law_640 (by decide) (fun c_3 => ?_) (fun c_3 => ?_)
        · refine lv_goto (tgt := 796) hx hb dL_law_645 (by decide) ?_
          obtain ⟨hB3, hH3⟩ := (show _ ∧ _ from ⟨lw_toB p1 hB2, lw_toH p1 hB2 hH⟩)
          exact kk _ _ _ ⟨_, _, _, _, _, _, _, _, _, hP, hPm, hOut, hB3, hH3⟩ hS (lv_sub hl [2, 3, 4, 5, 6] rfl)
        · exact absurd (lw_cmp he) c_3
    · exact absurd rfl c_1
  · have hz : ¬ sp_toldK p1 = 0 := fun h => h0 (hkz.mpr h)
    obtain ⟨hB, o2, hOut, ho⟩ := hB.2 hz
    have hP := us_Bx_use ht hB
    rw [ht] at hOut
    have hPm : va_P (dC, dI) vwCl (um_W md cM th nu nm nk G v) H1 := hPm
    have hDm : va_D (us_new s.heap.size) (um_W md cM th nu nm nk G v) := us_D_of (by rw [um_W_adr, um_W_adr]) hDm0
    refine lv_istore (lv' := [(5, .int (um_toK p1)), (4, .int (nI (5 * k))), (3, .ref ao), (2, .ref (md 0)), (1, .ref (ad 0)), (0, .ref b)]) hx hb dL_law_603 hl (by decide) rfl (fun ls hl => ?_)
    refine lv_aload_n hx hb dL_law_605 rfl (lv_at hl 3 rfl) ?_
    refine lv_aload_n hx hb dL_law_606 rfl (lv_at hl 5 rfl) ?_
    refine lv_iload hx hb dL_law_607 (lv_at hl 1 rfl) ?_
    refine lv_iconst (v := 1) hx hb dL_law_609 (by decide) ?_
    refine lv_iadd hx hb dL_law_610 ?_
    refine lw_sld hx hb hX hbl hbA hS (5 * k + 1) (y := p1) (nI_1 _) (by omega) hL ep1 dL_law_611 ?_
    refine va_calli (va_runV (As := [.int p1]) (rest := []) ⟨hx, hb, hml, hown, htb⟩ (kt_X2_told l dC dI md cM H1.size th nu nm nk G v p1 (um_L nm F) hnu hnm hLo hVm hMi) (cwV 1 htb (us_gV mw_583 mw_584 mw_585 mw_34 mw_586) rfl rfl rfl (by decide +kernel) ⟨Nat.le_of_ble_eq_true rfl, Nat.le_of_ble_eq_true rfl⟩) ⟨um_P_blind, va_recv hKm hPm (ci := 2) (q0 := 0) rfl rfl, fun U hU hW => ⟨rfl, um_P_at hPm hKm hDm hU hW⟩⟩ rfl rfl hl.1 rfl (lv_room (Nat.le_of_ble_eq_true rfl)) dL_law_612 ⟨by show 46 + 2 * k + 2 + 0 ≤ 601024; omega, by show 2544 + 12 * k + 12 + 0 ≤ 7293034; omega⟩) hS (fun q _ h => lw_AA hgm hS.1 q h) (lw_AA hgm hS.1) (fun r6 v2 t H2 locs ht hvm hw hB hz1 hk1 hS => ?_)
    have hP := lh_keep hP (by rw [us_W_adr]; exact hdis) hk1
    have hOut := lh_keep hOut (fun x h => by cases List.mem_singleton.mp h; exact haom) hk1
    have hPm : va_P (dC, dI) vwCl (um_W md cM (um_toK p1) nu nm nk G v2) H2 := um_W_to (um_B_use ht hB) rfl rfl rfl rfl
    have hDm : va_D (us_new s.heap.size) (um_W md cM (um_toK p1) nu nm nk G v2) := us_D_of (by rw [um_W_adr, um_W_adr]) hDm0
    refine lv_istore (lv' := [(6, .int r6), (5, .int (um_toK p1)), (4, .int (nI (5 * k))), (3, .ref ao), (2, .ref (md 0)), (1, .ref (ad 0)), (0, .ref b)]) hx hb dL_law_615 hl (by decide) rfl (fun ls hl => ?_)
    refine lv_aload_n hx hb dL_law_617 rfl (lv_at hl 4 rfl) ?_
    refine va_calli (va_runV (As := []) (rest := []) ⟨hx, hb, hml, hown, htb⟩ (kt_X2_thrown l dC dI md cM H2.size (um_toK p1) nu nm nk G v2) (cwV 0 htb (us_gV mw_493 mw_494 mw_495 mw_34 mw_496) rfl rfl rfl (by decide +kernel) ⟨Nat.le_of_ble_eq_true rfl, Nat.le_of_ble_eq_true rfl⟩) ⟨um_P_blind, va_recv hKm hPm (ci := 2) (q0 := 0) rfl rfl, fun U hU hW => ⟨rfl, um_P_at hPm hKm hDm hU hW⟩⟩ rfl rfl hl.1 rfl (lv_room (Nat.le_of_ble_eq_true rfl)) dL_law_618 ⟨by show 46 + 2 * k + 2 + 0 ≤ 601024; omega, by show 2544 + 12 * k + 12 + 0 ≤ 7293034; omega⟩) hS (fun q h1 h2 => absurd h2 (Nat.not_le.mpr h1)) (fun q h => Nat.le_trans hS.1 h) (fun r7 _ t H3 locs ht hvm hw hB hz1 hk1 hS => ?_)
    subst hw
    have hP := us_mono hP (fun q h => hk1 q h (Nat.not_le.mpr h))
    have hPm := us_mono hPm (fun q h => hk1 q h (Nat.not_le.mpr h))
    have hOut := us_mono hOut (fun q h => hk1 q h (Nat.not_le.mpr h))
    refine lv_iload hx hb dL_law_621 (lv_at hl 1 rfl) ?_
    refine lv_icmp_eq (tgt := 628) hx hb dL_law_623 (by decide) (fun c_4 => ?_) (fun c_4 => ?_)
    · refine lv_iload hx hb dL_law_628 (lv_at hl 1 rfl) ?_
      refine lv_if_ne (tgt := 645) hx hb dL_law_630 (by decide) (fun c_5 => ?_) (fun c_5 => ?_)
      · refine lv_goto (tgt := 796) hx hb dL_law_645 (by decide) ?_
        exact kk _ _ _ ⟨_, _, _, _, _, _, _, _, _, hP, hPm, hOut, hB2, hH⟩ hS (lv_sub hl [2, 3, 4, 5, 6] rfl)
      · exact absurd c_5 h0
    · exact absurd rfl c_4
set_option maxHeartbeats 8000000 in
set_option maxRecDepth 100000 in
theorem lw_c_many {p : Program} {l : Launch} {e : Env} {s : State} {m : MethodId} {below : List Frame} {meth : Method} {c : Code} {dC : Nat → ClassId} {dI : Nat → Nat → Nat} {ad : Nat → Nat} {cU cI : ClassId} {pa md : Nat → Nat} {cM : ClassId} {ao : Nat} {cJ : ClassId} {b L : Nat} {xs : Nat → Int32} {Q : State → Prop} (hl9 : l.stackTraces = false) (hL : L ≤ 2560) (C0 : lw_At p s m meth c b L xs) (X0 : lw_X dC dI ad cU cI pa md cM ao cJ s) (k : Nat) (hk : 5 * k + 5 ≤ L) {H : Heap} {locs : List Loc} {ls : Array Slot} (hJ : lw_J dC dI ad cU cI pa md cM ao cJ H) (hS : va_S (us_new s.heap.size) s.heap H locs) (hl : lv_has ls 7 [(4, .int (nI (5 * k))), (3, .ref ao), (2, .ref (md 0)), (1, .ref (ad 0)), (0, .ref b)])
    (kk : ∀ (H1 : Heap) (locs1 : List Loc) (ls1 : Array Slot), lw_J dC dI ad cU cI pa md cM ao cJ H1 → va_S (us_new s.heap.size) s.heap H1 locs1 → lv_has ls1 7 [(4, .int (nI (5 * k))), (3, .ref ao), (2, .ref (md 0)), (1, .ref (ad 0)), (0, .ref b)] → W p l e room_1 s m #[Value.ref b] below meth c H1 locs1 (46 + 2 * k + 2) (2544 + 12 * k + 12) Q (F0 m 796 ls1 [])) : W p l e room_1 s m #[Value.ref b] below meth c H locs (46 + 2 * k) (2544 + 12 * k) Q (F0 m 648 ls []) := by
  obtain ⟨hx, hb, hr, hml, hown, hts, hX, hbl, hlocks, hgv⟩ := C0
  obtain ⟨hK, hKm, hKJ, hE, hD0, hDm0, hao0, hao, haom, hdis⟩ := X0
  obtain ⟨nu, nm, nk, th, F, U, G, v, o, hP, hPm, hOut, hB2, hH⟩ := hJ
  have htb : ∀ w ∈ us_big, w.before #[Value.ref b] s = true := fun w hw => hts w (List.mem_filter.mp hw).1
  have hown : s.vm.findClass RL = some m.cls := hown
  have hbA : ¬ us_new s.heap.size b := Nat.not_le.mpr hbl
  have hnu := hB2.1
  have hnm := hB2.2.1
  have hO : ∀ p, p < nm → ∃ n, n < nm ∧ F 5 p = nI n := hB2.2.2.2.2.2.2.1
  have hVm : ∀ m, m < nm → ∃ j, j < nu ∧ G 2 m = nI j := fun n hn => (hB2.2.2.2.2.2.2.2.2.2 n hn).1
  have hV : ∀ n, n < nm → ∃ j, j < nu ∧ F 0 n = nI j := by rw [hB2.2.2.1]; exact hVm
  have hLo : um_ok G nm (um_L nm F) := um_ok_of hB2
  have hD : va_D (us_new s.heap.size) (us_W ad cU cI pa nu nm nk F U) := us_D_of (by rw [us_W_adr, us_W_adr]) hD0
  have hga := lw_ge hD0 us_W_adr
  have hgm := lw_ge hDm0 um_W_adr
  have hgc := lw_cons hao0 hga
  obtain ⟨p1, ep1⟩ : ∃ y : Int32, y = xs (5 * k + 1) := ⟨_, rfl⟩
  obtain ⟨p2, ep2⟩ : ∃ y : Int32, y = xs (5 * k + 2) := ⟨_, rfl⟩
  refine lv_aload_n hx hb dL_law_648 rfl (lv_at hl 3 rfl) ?_
  refine lv_aload_n hx hb dL_law_649 rfl (lv_at hl 4 rfl) ?_
  refine lv_iload hx hb dL_law_650 (lv_at hl 0 rfl) ?_
  refine lv_iconst (v := 1) hx hb dL_law_652 (by decide) ?_
  refine lv_iadd hx hb dL_law_653 ?_
  refine lw_sld hx hb hX hbl hbA hS (5 * k + 1) (y := p1) (nI_1 _) (by omega) hL ep1 dL_law_654 ?_
  refine lv_aload_n hx hb dL_law_655 rfl (lv_at hl 4 rfl) ?_
  refine lv_iload hx hb dL_law_656 (lv_at hl 0 rfl) ?_
  refine lv_iconst (v := 2) hx hb dL_law_658 (by decide) ?_
  refine lv_iadd hx hb dL_law_659 ?_
  refine lw_sld hx hb hX hbl hbA hS (5 * k + 2) (y := p2) (nI_add _ 2) (by omega) hL ep2 dL_law_660 ?_
  refine lv_aload_n hx hb dL_law_661 rfl (lv_at hl 1 rfl) ?_
  refine va_calli (vx_runSW (As := [.ref (ad 0), .int p1, .int p2, .ref ao]) (rest := []) ⟨hx, hb, hml, hown, htb⟩ (kt_L_many l hl9 dC dI ad cU cI pa H.size nu nm nk F U ao cJ o p1 p2 hnu hnm hO hV hao) (vx_cwSW 4 htb (us_gSW mw_400 mw_401 mw_31 mw_402) rfl rfl rfl (by decide +kernel) ⟨Nat.le_of_ble_eq_true rfl, Nat.le_of_ble_eq_true rfl⟩) ⟨lh_blind, fun U hU hW => ⟨rfl, us_Px_at hP hK hD hE hS (lw_AA hgc hS.1) hU hW, by rw [hU]; exact hOut, va_K.moved hW.alike hKJ⟩⟩ rfl rfl hl.1 rfl (lv_room (Nat.le_of_ble_eq_true rfl)) dL_law_662 ⟨by show 46 + 2 * k + 1 ≤ 601024; omega, by show 2544 + 12 * k + 6 ≤ 7293034; omega⟩) hS (fun q _ h => lw_AA hgc hS.1 q h) (lw_AA hgc hS.1) (fun r5 _ t H1 locs ht hvm hw hB hz1 hk1 hS => ?_)
  refine W.widen (k := 46 + 2 * k + 2) (n := 2544 + 12 * k + 12) (by omega) (by omega) ?_
  obtain rfl : r5 = um_maK p1 p2 := hw.trans (um_maK_eq p1 p2).symm
  have hkz : um_maK p1 p2 = 0 ↔ sp_manyK p1 p2 = 0 := by rw [(um_maK_eq p1 p2)]
  have hPm := lh_keep hPm (lw_notin haom hdis) hk1
  by_cases h0 : um_maK p1 p2 = 0
  · have hz : sp_manyK p1 p2 = 0 := hkz.mp h0
    obtain ⟨hB, o2, hOut, ho⟩ := hB.1 hz
    have hP := us_Bx_use ht hB
    rw [ht] at hOut
    have hPm : va_P (dC, dI) vwCl (um_W md cM th nu nm nk G v) H1 := hPm
    have hDm : va_D (us_new s.heap.size) (um_W md cM th nu nm nk G v) := us_D_of (by rw [um_W_adr, um_W_adr]) hDm0
    refine lv_istore (lv' := [(5, .int (um_maK p1 p2)), (4, .int (nI (5 * k))), (3, .ref ao), (2, .ref (md 0)), (1, .ref (ad 0)), (0, .ref b)]) hx hb dL_law_665 hl (by decide) rfl (fun ls hl => ?_)
    refine lv_aload_n hx hb dL_law_667 rfl (lv_at hl 3 rfl) ?_
    refine lv_aload_n hx hb dL_law_668 rfl (lv_at hl 5 rfl) ?_
    refine lv_iload hx hb dL_law_669 (lv_at hl 1 rfl) ?_
    refine lv_iconst (v := 1) hx hb dL_law_671 (by decide) ?_
    refine lv_iadd hx hb dL_law_672 ?_
    refine lw_sld hx hb hX hbl hbA hS (5 * k + 1) (y := p1) (nI_1 _) (by omega) hL ep1 dL_law_673 ?_
    refine lv_aload_n hx hb dL_law_674 rfl (lv_at hl 5 rfl) ?_
    refine lv_iload hx hb dL_law_675 (lv_at hl 1 rfl) ?_
    refine lv_iconst (v := 2) hx hb dL_law_677 (by decide) ?_
    refine lv_iadd hx hb dL_law_678 ?_
    refine lw_sld hx hb hX hbl hbA hS (5 * k + 2) (y := p2) (nI_add _ 2) (by omega) hL ep2 dL_law_679 ?_
    refine va_calli (va_runV (As := [.int p1, .int p2]) (rest := []) ⟨hx, hb, hml, hown, htb⟩ (kt_X2_many l dC dI md cM H1.size th nu nm nk G v p1 p2 (um_L nm F) hnu hnm hLo) (cwV 2 htb (us_gV mw_587 mw_588 mw_589 mw_34 mw_590) rfl rfl rfl (by decide +kernel) ⟨Nat.le_of_ble_eq_true rfl, Nat.le_of_ble_eq_true rfl⟩) ⟨um_P_blind, va_recv hKm hPm (ci := 2) (q0 := 0) rfl rfl, fun U hU hW => ⟨rfl, um_P_at hPm hKm hDm hU hW⟩⟩ rfl rfl hl.1 rfl (lv_room (Nat.le_of_ble_eq_true rfl)) dL_law_680 ⟨by show 46 + 2 * k + 2 + 0 ≤ 601024; omega, by show 2544 + 12 * k + 12 + 0 ≤ 7293034; omega⟩) hS (fun q _ h => lw_AA hgm hS.1 q h) (lw_AA hgm hS.1) (fun r6 v2 t H2 locs ht hvm hw hB hz1 hk1 hS => ?_)
    have hP := lh_keep hP (by rw [us_W_adr]; exact hdis) hk1
    have hOut := lh_keep hOut (fun x h => by cases List.mem_singleton.mp h; exact haom) hk1
    have hPm : va_P (dC, dI) vwCl (um_W md cM (um_maK p1 p2) nu nm nk G v2) H2 := um_W_to (um_B_use ht hB) rfl rfl rfl rfl
    have hDm : va_D (us_new s.heap.size) (um_W md cM (um_maK p1 p2) nu nm nk G v2) := us_D_of (by rw [um_W_adr, um_W_adr]) hDm0
    have he : o2 0 = r6.toInt64 := by rw [ho, hw h0, (um_many_eq hB2 hH p2 p1 nu (Nat.le_refl nu))]
    refine lv_istore (lv' := [(6, .int r6), (5, .int (um_maK p1 p2)), (4, .int (nI (5 * k))), (3, .ref ao), (2, .ref (md 0)), (1, .ref (ad 0)), (0, .ref b)]) hx hb dL_law_683 hl (by decide) rfl (fun ls hl => ?_)
    refine lv_aload_n hx hb dL_law_685 rfl (lv_at hl 4 rfl) ?_
    refine va_calli (va_runV (As := []) (rest := []) ⟨hx, hb, hml, hown, htb⟩ (kt_X2_thrown l dC dI md cM H2.size (um_maK p1 p2) nu nm nk G v2) (cwV 0 htb (us_gV mw_493 mw_494 mw_495 mw_34 mw_496) rfl rfl rfl (by decide +kernel) ⟨Nat.le_of_ble_eq_true rfl, Nat.le_of_ble_eq_true rfl⟩) ⟨um_P_blind, va_recv hKm hPm (ci := 2) (q0 := 0) rfl rfl, fun U hU hW => ⟨rfl, um_P_at hPm hKm hDm hU hW⟩⟩ rfl rfl hl.1 rfl (lv_room (Nat.le_of_ble_eq_true rfl)) dL_law_686 ⟨by show 46 + 2 * k + 2 + 0 ≤ 601024; omega, by show 2544 + 12 * k + 12 + 0 ≤ 7293034; omega⟩) hS (fun q h1 h2 => absurd h2 (Nat.not_le.mpr h1)) (fun q h => Nat.le_trans hS.1 h) (fun r7 _ t H3 locs ht hvm hw hB hz1 hk1 hS => ?_)
    subst hw
    have hP := us_mono hP (fun q h => hk1 q h (Nat.not_le.mpr h))
    have hPm := us_mono hPm (fun q h => hk1 q h (Nat.not_le.mpr h))
    have hOut := us_mono hOut (fun q h => hk1 q h (Nat.not_le.mpr h))
    refine lv_iload hx hb dL_law_689 (lv_at hl 1 rfl) ?_
    refine lv_icmp_eq (tgt := 696) hx hb dL_law_691 (by decide) (fun c_1 => ?_) (fun c_1 => ?_)
    · refine lv_iload hx hb dL_law_696 (lv_at hl 1 rfl) ?_
      refine lv_if_ne (tgt := 713) hx hb dL_law_698 (by decide) (fun c_2 => ?_) (fun c_2 => ?_)
      · exact absurd h0 c_2
      · refine lv_aload_n hx hb dL_law_701 rfl (lv_at hl 3 rfl) ?_
        refine lv_iconst (v := 0) hx hb dL_law_702 (by decide) ?_
        refine va_lald hx hb hKJ hOut 0 0 rfl rfl (vp_in_nI (n := 0) (N := 1) (by decide) (by decide)) dL_law_703 ?_
        refine lv_iload hx hb dL_law_704 (lv_at hl 0 rfl) ?_
        refine lv_i2l hx hb dL_law_706 rfl ?_
        refine W.lcmp hx hb dL_law_707 ?_
        refine lv_if_eq (tgt := 713) hx hb dL_law_708 (by decide) (fun c_3 => ?_) (fun c_3 => ?_)
        · refine lv_goto (tgt := 796) hx hb dL_law_713 (by decide) ?_
          obtain ⟨hB3, hH3⟩ := (show _ ∧ _ from ⟨um_both_rf hB2 p2, um_home_ru hB2 hH p2⟩)
          exact kk _ _ _ ⟨_, _, _, _, _, _, _, _, _, hP, hPm, hOut, hB3, hH3⟩ hS (lv_sub hl [2, 3, 4, 5, 6] rfl)
        · exact absurd (lw_cmp he) c_3
    · exact absurd rfl c_1
  · have hz : ¬ sp_manyK p1 p2 = 0 := fun h => h0 (hkz.mpr h)
    obtain ⟨hB, o2, hOut, ho⟩ := hB.2 hz
    have hP := us_Bx_use ht hB
    rw [ht] at hOut
    have hPm : va_P (dC, dI) vwCl (um_W md cM th nu nm nk G v) H1 := hPm
    have hDm : va_D (us_new s.heap.size) (um_W md cM th nu nm nk G v) := us_D_of (by rw [um_W_adr, um_W_adr]) hDm0
    refine lv_istore (lv' := [(5, .int (um_maK p1 p2)), (4, .int (nI (5 * k))), (3, .ref ao), (2, .ref (md 0)), (1, .ref (ad 0)), (0, .ref b)]) hx hb dL_law_665 hl (by decide) rfl (fun ls hl => ?_)
    refine lv_aload_n hx hb dL_law_667 rfl (lv_at hl 3 rfl) ?_
    refine lv_aload_n hx hb dL_law_668 rfl (lv_at hl 5 rfl) ?_
    refine lv_iload hx hb dL_law_669 (lv_at hl 1 rfl) ?_
    refine lv_iconst (v := 1) hx hb dL_law_671 (by decide) ?_
    refine lv_iadd hx hb dL_law_672 ?_
    refine lw_sld hx hb hX hbl hbA hS (5 * k + 1) (y := p1) (nI_1 _) (by omega) hL ep1 dL_law_673 ?_
    refine lv_aload_n hx hb dL_law_674 rfl (lv_at hl 5 rfl) ?_
    refine lv_iload hx hb dL_law_675 (lv_at hl 1 rfl) ?_
    refine lv_iconst (v := 2) hx hb dL_law_677 (by decide) ?_
    refine lv_iadd hx hb dL_law_678 ?_
    refine lw_sld hx hb hX hbl hbA hS (5 * k + 2) (y := p2) (nI_add _ 2) (by omega) hL ep2 dL_law_679 ?_
    refine va_calli (va_runV (As := [.int p1, .int p2]) (rest := []) ⟨hx, hb, hml, hown, htb⟩ (kt_X2_many l dC dI md cM H1.size th nu nm nk G v p1 p2 (um_L nm F) hnu hnm hLo) (cwV 2 htb (us_gV mw_587 mw_588 mw_589 mw_34 mw_590) rfl rfl rfl (by decide +kernel) ⟨Nat.le_of_ble_eq_true rfl, Nat.le_of_ble_eq_true rfl⟩) ⟨um_P_blind, va_recv hKm hPm (ci := 2) (q0 := 0) rfl rfl, fun U hU hW => ⟨rfl, um_P_at hPm hKm hDm hU hW⟩⟩ rfl rfl hl.1 rfl (lv_room (Nat.le_of_ble_eq_true rfl)) dL_law_680 ⟨by show 46 + 2 * k + 2 + 0 ≤ 601024; omega, by show 2544 + 12 * k + 12 + 0 ≤ 7293034; omega⟩) hS (fun q _ h => lw_AA hgm hS.1 q h) (lw_AA hgm hS.1) (fun r6 v2 t H2 locs ht hvm hw hB hz1 hk1 hS => ?_)
    have hP := lh_keep hP (by rw [us_W_adr]; exact hdis) hk1
    have hOut := lh_keep hOut (fun x h => by cases List.mem_singleton.mp h; exact haom) hk1
    have hPm : va_P (dC, dI) vwCl (um_W md cM (um_maK p1 p2) nu nm nk G v2) H2 := um_W_to (um_B_use ht hB) rfl rfl rfl rfl
    have hDm : va_D (us_new s.heap.size) (um_W md cM (um_maK p1 p2) nu nm nk G v2) := us_D_of (by rw [um_W_adr, um_W_adr]) hDm0
    refine lv_istore (lv' := [(6, .int r6), (5, .int (um_maK p1 p2)), (4, .int (nI (5 * k))), (3, .ref ao), (2, .ref (md 0)), (1, .ref (ad 0)), (0, .ref b)]) hx hb dL_law_683 hl (by decide) rfl (fun ls hl => ?_)
    refine lv_aload_n hx hb dL_law_685 rfl (lv_at hl 4 rfl) ?_
    refine va_calli (va_runV (As := []) (rest := []) ⟨hx, hb, hml, hown, htb⟩ (kt_X2_thrown l dC dI md cM H2.size (um_maK p1 p2) nu nm nk G v2) (cwV 0 htb (us_gV mw_493 mw_494 mw_495 mw_34 mw_496) rfl rfl rfl (by decide +kernel) ⟨Nat.le_of_ble_eq_true rfl, Nat.le_of_ble_eq_true rfl⟩) ⟨um_P_blind, va_recv hKm hPm (ci := 2) (q0 := 0) rfl rfl, fun U hU hW => ⟨rfl, um_P_at hPm hKm hDm hU hW⟩⟩ rfl rfl hl.1 rfl (lv_room (Nat.le_of_ble_eq_true rfl)) dL_law_686 ⟨by show 46 + 2 * k + 2 + 0 ≤ 601024; omega, by show 2544 + 12 * k + 12 + 0 ≤ 7293034; omega⟩) hS (fun q h1 h2 => absurd h2 (Nat.not_le.mpr h1)) (fun q h => Nat.le_trans hS.1 h) (fun r7 _ t H3 locs ht hvm hw hB hz1 hk1 hS => ?_)
    subst hw
    have hP := us_mono hP (fun q h => hk1 q h (Nat.not_le.mpr h))
    have hPm := us_mono hPm (fun q h => hk1 q h (Nat.not_le.mpr h))
    have hOut := us_mono hOut (fun q h => hk1 q h (Nat.not_le.mpr h))
    refine lv_iload hx hb dL_law_689 (lv_at hl 1 rfl) ?_
    refine lv_icmp_eq (tgt := 696) hx hb dL_law_691 (by decide) (fun c_4 => ?_) (fun c_4 => ?_)
    · refine lv_iload hx hb dL_law_696 (lv_at hl 1 rfl) ?_
      refine lv_if_ne (tgt := 713) hx hb dL_law_698 (by decide) (fun c_5 => ?_) (fun c_5 => ?_)
      · refine lv_goto (tgt := 796) hx hb dL_law_713 (by decide) ?_
        exact kk _ _ _ ⟨_, _, _, _, _, _, _, _, _, hP, hPm, hOut, hB2, hH⟩ hS (lv_sub hl [2, 3, 4, 5, 6] rfl)
      · exact absurd c_5 h0
    · exact absurd rfl c_4
set_option maxHeartbeats 8000000 in
set_option maxRecDepth 100000 in
theorem lw_c_arrived {p : Program} {l : Launch} {e : Env} {s : State} {m : MethodId} {below : List Frame} {meth : Method} {c : Code} {dC : Nat → ClassId} {dI : Nat → Nat → Nat} {ad : Nat → Nat} {cU cI : ClassId} {pa md : Nat → Nat} {cM : ClassId} {ao : Nat} {cJ : ClassId} {b L : Nat} {xs : Nat → Int32} {Q : State → Prop} (hl9 : l.stackTraces = false) (hL : L ≤ 2560) (C0 : lw_At p s m meth c b L xs) (X0 : lw_X dC dI ad cU cI pa md cM ao cJ s) (k : Nat) (hk : 5 * k + 5 ≤ L) {H : Heap} {locs : List Loc} {ls : Array Slot} (hJ : lw_J dC dI ad cU cI pa md cM ao cJ H) (hS : va_S (us_new s.heap.size) s.heap H locs) (hl : lv_has ls 7 [(4, .int (nI (5 * k))), (3, .ref ao), (2, .ref (md 0)), (1, .ref (ad 0)), (0, .ref b)])
    (kk : ∀ (H1 : Heap) (locs1 : List Loc) (ls1 : Array Slot), lw_J dC dI ad cU cI pa md cM ao cJ H1 → va_S (us_new s.heap.size) s.heap H1 locs1 → lv_has ls1 7 [(4, .int (nI (5 * k))), (3, .ref ao), (2, .ref (md 0)), (1, .ref (ad 0)), (0, .ref b)] → W p l e room_1 s m #[Value.ref b] below meth c H1 locs1 (46 + 2 * k + 2) (2544 + 12 * k + 12) Q (F0 m 796 ls1 [])) : W p l e room_1 s m #[Value.ref b] below meth c H locs (46 + 2 * k) (2544 + 12 * k) Q (F0 m 716 ls []) := by
  obtain ⟨hx, hb, hr, hml, hown, hts, hX, hbl, hlocks, hgv⟩ := C0
  obtain ⟨hK, hKm, hKJ, hE, hD0, hDm0, hao0, hao, haom, hdis⟩ := X0
  obtain ⟨nu, nm, nk, th, F, U, G, v, o, hP, hPm, hOut, hB2, hH⟩ := hJ
  have htb : ∀ w ∈ us_big, w.before #[Value.ref b] s = true := fun w hw => hts w (List.mem_filter.mp hw).1
  have hown : s.vm.findClass RL = some m.cls := hown
  have hbA : ¬ us_new s.heap.size b := Nat.not_le.mpr hbl
  have hnu := hB2.1
  have hnm := hB2.2.1
  have hO : ∀ p, p < nm → ∃ n, n < nm ∧ F 5 p = nI n := hB2.2.2.2.2.2.2.1
  have hVm : ∀ m, m < nm → ∃ j, j < nu ∧ G 2 m = nI j := fun n hn => (hB2.2.2.2.2.2.2.2.2.2 n hn).1
  have hV : ∀ n, n < nm → ∃ j, j < nu ∧ F 0 n = nI j := by rw [hB2.2.2.1]; exact hVm
  have hLo : um_ok G nm (um_L nm F) := um_ok_of hB2
  have hAr : ∀ (t : Int32) (j : Nat), j < nu → ¬ um_in (um_st G (um_L nm F) t j 0) 3 5 = 0 → ∃ a, a < nm ∧ um_st G (um_L nm F) t j 11 = nI a := fun t j hj h => um_arr_ok hB2 hH t j hj h
  have hD : va_D (us_new s.heap.size) (us_W ad cU cI pa nu nm nk F U) := us_D_of (by rw [us_W_adr, us_W_adr]) hD0
  have hga := lw_ge hD0 us_W_adr
  have hgm := lw_ge hDm0 um_W_adr
  have hgc := lw_cons hao0 hga
  obtain ⟨p1, ep1⟩ : ∃ y : Int32, y = xs (5 * k + 1) := ⟨_, rfl⟩
  obtain ⟨p2, ep2⟩ : ∃ y : Int32, y = xs (5 * k + 2) := ⟨_, rfl⟩
  obtain ⟨p3, ep3⟩ : ∃ y : Int32, y = xs (5 * k + 3) := ⟨_, rfl⟩
  refine lv_aload_n hx hb dL_law_716 rfl (lv_at hl 3 rfl) ?_
  refine lv_aload_n hx hb dL_law_717 rfl (lv_at hl 4 rfl) ?_
  refine lv_iload hx hb dL_law_718 (lv_at hl 0 rfl) ?_
  refine lv_iconst (v := 1) hx hb dL_law_720 (by decide) ?_
  refine lv_iadd hx hb dL_law_721 ?_
  refine lw_sld hx hb hX hbl hbA hS (5 * k + 1) (y := p1) (nI_1 _) (by omega) hL ep1 dL_law_722 ?_
  refine lv_aload_n hx hb dL_law_723 rfl (lv_at hl 4 rfl) ?_
  refine lv_iload hx hb dL_law_724 (lv_at hl 0 rfl) ?_
  refine lv_iconst (v := 2) hx hb dL_law_726 (by decide) ?_
  refine lv_iadd hx hb dL_law_727 ?_
  refine lw_sld hx hb hX hbl hbA hS (5 * k + 2) (y := p2) (nI_add _ 2) (by omega) hL ep2 dL_law_728 ?_
  refine lv_aload_n hx hb dL_law_729 rfl (lv_at hl 4 rfl) ?_
  refine lv_iload hx hb dL_law_730 (lv_at hl 0 rfl) ?_
  refine lv_iconst (v := 3) hx hb dL_law_732 (by decide) ?_
  refine lv_iadd hx hb dL_law_733 ?_
  refine lw_sld hx hb hX hbl hbA hS (5 * k + 3) (y := p3) (nI_add _ 3) (by omega) hL ep3 dL_law_734 ?_
  refine lv_aload_n hx hb dL_law_735 rfl (lv_at hl 1 rfl) ?_
  refine va_calli (vx_runSW (As := [.ref (ad 0), .int p1, .int p2, .int p3, .ref ao]) (rest := []) ⟨hx, hb, hml, hown, htb⟩ (kt_L_arrived l hl9 dC dI ad cU cI pa H.size nu nm nk F U ao cJ o p1 p2 p3 hnu hnm hO hV hao) (vx_cwSW 5 htb (us_gSW mw_408 mw_409 mw_31 mw_410) rfl rfl rfl (by decide +kernel) ⟨Nat.le_of_ble_eq_true rfl, Nat.le_of_ble_eq_true rfl⟩) ⟨lh_blind, fun U hU hW => ⟨rfl, us_Px_at hP hK hD hE hS (lw_AA hgc hS.1) hU hW, by rw [hU]; exact hOut, va_K.moved hW.alike hKJ⟩⟩ rfl rfl hl.1 rfl (lv_room (Nat.le_of_ble_eq_true rfl)) dL_law_736 ⟨by show 46 + 2 * k + 2 ≤ 601024; omega, by show 2544 + 12 * k + 12 ≤ 7293034; omega⟩) hS (fun q _ h => lw_AA hgc hS.1 q h) (lw_AA hgc hS.1) (fun r5 _ t H1 locs ht hvm hw hB hz1 hk1 hS => ?_)
  refine W.widen (k := 46 + 2 * k + 2) (n := 2544 + 12 * k + 12) (by omega) (by omega) ?_
  obtain rfl : r5 = um_arK p1 p2 p3 := hw.trans (um_arK_eq p1 p2 p3).symm
  have hkz : um_arK p1 p2 p3 = 0 ↔ sp_arrK p1 p2 p3 = 0 := by rw [(um_arK_eq p1 p2 p3)]
  have hPm := lh_keep hPm (lw_notin haom hdis) hk1
  by_cases h0 : um_arK p1 p2 p3 = 0
  · have hz : sp_arrK p1 p2 p3 = 0 := hkz.mp h0
    obtain ⟨hB, o2, hOut, ho⟩ := hB.1 hz
    have hP := us_Bx_use ht hB
    rw [ht] at hOut
    have hPm : va_P (dC, dI) vwCl (um_W md cM th nu nm nk G v) H1 := hPm
    have hDm : va_D (us_new s.heap.size) (um_W md cM th nu nm nk G v) := us_D_of (by rw [um_W_adr, um_W_adr]) hDm0
    refine lv_istore (lv' := [(5, .int (um_arK p1 p2 p3)), (4, .int (nI (5 * k))), (3, .ref ao), (2, .ref (md 0)), (1, .ref (ad 0)), (0, .ref b)]) hx hb dL_law_739 hl (by decide) rfl (fun ls hl => ?_)
    refine lv_aload_n hx hb dL_law_741 rfl (lv_at hl 3 rfl) ?_
    refine lv_aload_n hx hb dL_law_742 rfl (lv_at hl 5 rfl) ?_
    refine lv_iload hx hb dL_law_743 (lv_at hl 1 rfl) ?_
    refine lv_iconst (v := 1) hx hb dL_law_745 (by decide) ?_
    refine lv_iadd hx hb dL_law_746 ?_
    refine lw_sld hx hb hX hbl hbA hS (5 * k + 1) (y := p1) (nI_1 _) (by omega) hL ep1 dL_law_747 ?_
    refine lv_aload_n hx hb dL_law_748 rfl (lv_at hl 5 rfl) ?_
    refine lv_iload hx hb dL_law_749 (lv_at hl 1 rfl) ?_
    refine lv_iconst (v := 2) hx hb dL_law_751 (by decide) ?_
    refine lv_iadd hx hb dL_law_752 ?_
    refine lw_sld hx hb hX hbl hbA hS (5 * k + 2) (y := p2) (nI_add _ 2) (by omega) hL ep2 dL_law_753 ?_
    refine lv_aload_n hx hb dL_law_754 rfl (lv_at hl 5 rfl) ?_
    refine lv_iload hx hb dL_law_755 (lv_at hl 1 rfl) ?_
    refine lv_iconst (v := 3) hx hb dL_law_757 (by decide) ?_
    refine lv_iadd hx hb dL_law_758 ?_
    refine lw_sld hx hb hX hbl hbA hS (5 * k + 3) (y := p3) (nI_add _ 3) (by omega) hL ep3 dL_law_759 ?_
    refine va_calli (va_runV (As := [.int p1, .int p2, .int p3]) (rest := []) ⟨hx, hb, hml, hown, htb⟩ (kt_X2_arrived l dC dI md cM H1.size th nu nm nk G v p1 p2 p3 (um_L nm F) hnu hnm hLo hAr) (cwV 3 htb (us_gV mw_591 mw_592 mw_593 mw_34 mw_594) rfl rfl rfl (by decide +kernel) ⟨Nat.le_of_ble_eq_true rfl, Nat.le_of_ble_eq_true rfl⟩) ⟨um_P_blind, va_recv hKm hPm (ci := 2) (q0 := 0) rfl rfl, fun U hU hW => ⟨rfl, um_P_at hPm hKm hDm hU hW⟩⟩ rfl rfl hl.1 rfl (lv_room (Nat.le_of_ble_eq_true rfl)) dL_law_760 ⟨by show 46 + 2 * k + 2 + 0 ≤ 601024; omega, by show 2544 + 12 * k + 12 + 0 ≤ 7293034; omega⟩) hS (fun q _ h => lw_AA hgm hS.1 q h) (lw_AA hgm hS.1) (fun r6 v2 t H2 locs ht hvm hw hB hz1 hk1 hS => ?_)
    have hP := lh_keep hP (by rw [us_W_adr]; exact hdis) hk1
    have hOut := lh_keep hOut (fun x h => by cases List.mem_singleton.mp h; exact haom) hk1
    have hPm : va_P (dC, dI) vwCl (um_W md cM (um_arK p1 p2 p3) nu nm nk G v2) H2 := um_W_to (um_B_use ht hB) rfl rfl rfl rfl
    have hDm : va_D (us_new s.heap.size) (um_W md cM (um_arK p1 p2 p3) nu nm nk G v2) := us_D_of (by rw [um_W_adr, um_W_adr]) hDm0
    have he : o2 0 = r6.toInt64 := by rw [ho, hw h0, (um_arr_eq hB2 hH p3 p1 p2 nu 0 (by omega))]
    refine lv_istore (lv' := [(6, .int r6), (5, .int (um_arK p1 p2 p3)), (4, .int (nI (5 * k))), (3, .ref ao), (2, .ref (md 0)), (1, .ref (ad 0)), (0, .ref b)]) hx hb dL_law_763 hl (by decide) rfl (fun ls hl => ?_)
    refine lv_aload_n hx hb dL_law_765 rfl (lv_at hl 4 rfl) ?_
    refine va_calli (va_runV (As := []) (rest := []) ⟨hx, hb, hml, hown, htb⟩ (kt_X2_thrown l dC dI md cM H2.size (um_arK p1 p2 p3) nu nm nk G v2) (cwV 0 htb (us_gV mw_493 mw_494 mw_495 mw_34 mw_496) rfl rfl rfl (by decide +kernel) ⟨Nat.le_of_ble_eq_true rfl, Nat.le_of_ble_eq_true rfl⟩) ⟨um_P_blind, va_recv hKm hPm (ci := 2) (q0 := 0) rfl rfl, fun U hU hW => ⟨rfl, um_P_at hPm hKm hDm hU hW⟩⟩ rfl rfl hl.1 rfl (lv_room (Nat.le_of_ble_eq_true rfl)) dL_law_766 ⟨by show 46 + 2 * k + 2 + 0 ≤ 601024; omega, by show 2544 + 12 * k + 12 + 0 ≤ 7293034; omega⟩) hS (fun q h1 h2 => absurd h2 (Nat.not_le.mpr h1)) (fun q h => Nat.le_trans hS.1 h) (fun r7 _ t H3 locs ht hvm hw hB hz1 hk1 hS => ?_)
    subst hw
    have hP := us_mono hP (fun q h => hk1 q h (Nat.not_le.mpr h))
    have hPm := us_mono hPm (fun q h => hk1 q h (Nat.not_le.mpr h))
    have hOut := us_mono hOut (fun q h => hk1 q h (Nat.not_le.mpr h))
    refine lv_iload hx hb dL_law_769 (lv_at hl 1 rfl) ?_
    refine lv_icmp_eq (tgt := 776) hx hb dL_law_771 (by decide) (fun c_1 => ?_) (fun c_1 => ?_)
    · refine lv_iload hx hb dL_law_776 (lv_at hl 1 rfl) ?_
      refine lv_if_ne (tgt := 793) hx hb dL_law_778 (by decide) (fun c_2 => ?_) (fun c_2 => ?_)
      · exact absurd h0 c_2
      · refine lv_aload_n hx hb dL_law_781 rfl (lv_at hl 3 rfl) ?_
        refine lv_iconst (v := 0) hx hb dL_law_782 (by decide) ?_
        refine va_lald hx hb hKJ hOut 0 0 rfl rfl (vp_in_nI (n := 0) (N := 1) (by decide) (by decide)) dL_law_783 ?_
        refine lv_iload hx hb dL_law_784 (lv_at hl 0 rfl) ?_
        refine lv_i2l hx hb dL_law_786 rfl ?_
        refine W.lcmp hx hb dL_law_787 ?_
        refine lv_if_eq (tgt := 793) hx hb dL_law_788 (by decide) (fun c_3 => ?_) (fun c_3 => ?_)
        · refine lv_goto (tgt := 796) hx hb dL_law_793 (by decide) ?_
          obtain ⟨hB3, hH3⟩ := (show _ ∧ _ from ⟨um_both_rf hB2 p3, um_home_ru hB2 hH p3⟩)
          exact kk _ _ _ ⟨_, _, _, _, _, _, _, _, _, hP, hPm, hOut, hB3, hH3⟩ hS (lv_sub hl [2, 3, 4, 5, 6] rfl)
        · exact absurd (lw_cmp he) c_3
    · exact absurd rfl c_1
  · have hz : ¬ sp_arrK p1 p2 p3 = 0 := fun h => h0 (hkz.mpr h)
    obtain ⟨hB, o2, hOut, ho⟩ := hB.2 hz
    have hP := us_Bx_use ht hB
    rw [ht] at hOut
    have hPm : va_P (dC, dI) vwCl (um_W md cM th nu nm nk G v) H1 := hPm
    have hDm : va_D (us_new s.heap.size) (um_W md cM th nu nm nk G v) := us_D_of (by rw [um_W_adr, um_W_adr]) hDm0
    refine lv_istore (lv' := [(5, .int (um_arK p1 p2 p3)), (4, .int (nI (5 * k))), (3, .ref ao), (2, .ref (md 0)), (1, .ref (ad 0)), (0, .ref b)]) hx hb dL_law_739 hl (by decide) rfl (fun ls hl => ?_)
    refine lv_aload_n hx hb dL_law_741 rfl (lv_at hl 3 rfl) ?_
    refine lv_aload_n hx hb dL_law_742 rfl (lv_at hl 5 rfl) ?_
    refine lv_iload hx hb dL_law_743 (lv_at hl 1 rfl) ?_
    refine lv_iconst (v := 1) hx hb dL_law_745 (by decide) ?_
    refine lv_iadd hx hb dL_law_746 ?_
    refine lw_sld hx hb hX hbl hbA hS (5 * k + 1) (y := p1) (nI_1 _) (by omega) hL ep1 dL_law_747 ?_
    refine lv_aload_n hx hb dL_law_748 rfl (lv_at hl 5 rfl) ?_
    refine lv_iload hx hb dL_law_749 (lv_at hl 1 rfl) ?_
    refine lv_iconst (v := 2) hx hb dL_law_751 (by decide) ?_
    refine lv_iadd hx hb dL_law_752 ?_
    refine lw_sld hx hb hX hbl hbA hS (5 * k + 2) (y := p2) (nI_add _ 2) (by omega) hL ep2 dL_law_753 ?_
    refine lv_aload_n hx hb dL_law_754 rfl (lv_at hl 5 rfl) ?_
    refine lv_iload hx hb dL_law_755 (lv_at hl 1 rfl) ?_
    refine lv_iconst (v := 3) hx hb dL_law_757 (by decide) ?_
    refine lv_iadd hx hb dL_law_758 ?_
    refine lw_sld hx hb hX hbl hbA hS (5 * k + 3) (y := p3) (nI_add _ 3) (by omega) hL ep3 dL_law_759 ?_
    refine va_calli (va_runV (As := [.int p1, .int p2, .int p3]) (rest := []) ⟨hx, hb, hml, hown, htb⟩ (kt_X2_arrived l dC dI md cM H1.size th nu nm nk G v p1 p2 p3 (um_L nm F) hnu hnm hLo hAr) (cwV 3 htb (us_gV mw_591 mw_592 mw_593 mw_34 mw_594) rfl rfl rfl (by decide +kernel) ⟨Nat.le_of_ble_eq_true rfl, Nat.le_of_ble_eq_true rfl⟩) ⟨um_P_blind, va_recv hKm hPm (ci := 2) (q0 := 0) rfl rfl, fun U hU hW => ⟨rfl, um_P_at hPm hKm hDm hU hW⟩⟩ rfl rfl hl.1 rfl (lv_room (Nat.le_of_ble_eq_true rfl)) dL_law_760 ⟨by show 46 + 2 * k + 2 + 0 ≤ 601024; omega, by show 2544 + 12 * k + 12 + 0 ≤ 7293034; omega⟩) hS (fun q _ h => lw_AA hgm hS.1 q h) (lw_AA hgm hS.1) (fun r6 v2 t H2 locs ht hvm hw hB hz1 hk1 hS => ?_)
    have hP := lh_keep hP (by rw [us_W_adr]; exact hdis) hk1
    have hOut := lh_keep hOut (fun x h => by cases List.mem_singleton.mp h; exact haom) hk1
    have hPm : va_P (dC, dI) vwCl (um_W md cM (um_arK p1 p2 p3) nu nm nk G v2) H2 := um_W_to (um_B_use ht hB) rfl rfl rfl rfl
    have hDm : va_D (us_new s.heap.size) (um_W md cM (um_arK p1 p2 p3) nu nm nk G v2) := us_D_of (by rw [um_W_adr, um_W_adr]) hDm0
    refine lv_istore (lv' := [(6, .int r6), (5, .int (um_arK p1 p2 p3)), (4, .int (nI (5 * k))), (3, .ref ao), (2, .ref (md 0)), (1, .ref (ad 0)), (0, .ref b)]) hx hb dL_law_763 hl (by decide) rfl (fun ls hl => ?_)
    refine lv_aload_n hx hb dL_law_765 rfl (lv_at hl 4 rfl) ?_
    refine va_calli (va_runV (As := []) (rest := []) ⟨hx, hb, hml, hown, htb⟩ (kt_X2_thrown l dC dI md cM H2.size (um_arK p1 p2 p3) nu nm nk G v2) (cwV 0 htb (us_gV mw_493 mw_494 mw_495 mw_34 mw_496) rfl rfl rfl (by decide +kernel) ⟨Nat.le_of_ble_eq_true rfl, Nat.le_of_ble_eq_true rfl⟩) ⟨um_P_blind, va_recv hKm hPm (ci := 2) (q0 := 0) rfl rfl, fun U hU hW => ⟨rfl, um_P_at hPm hKm hDm hU hW⟩⟩ rfl rfl hl.1 rfl (lv_room (Nat.le_of_ble_eq_true rfl)) dL_law_766 ⟨by show 46 + 2 * k + 2 + 0 ≤ 601024; omega, by show 2544 + 12 * k + 12 + 0 ≤ 7293034; omega⟩) hS (fun q h1 h2 => absurd h2 (Nat.not_le.mpr h1)) (fun q h => Nat.le_trans hS.1 h) (fun r7 _ t H3 locs ht hvm hw hB hz1 hk1 hS => ?_)
    subst hw
    have hP := us_mono hP (fun q h => hk1 q h (Nat.not_le.mpr h))
    have hPm := us_mono hPm (fun q h => hk1 q h (Nat.not_le.mpr h))
    have hOut := us_mono hOut (fun q h => hk1 q h (Nat.not_le.mpr h))
    refine lv_iload hx hb dL_law_769 (lv_at hl 1 rfl) ?_
    refine lv_icmp_eq (tgt := 776) hx hb dL_law_771 (by decide) (fun c_4 => ?_) (fun c_4 => ?_)
    · refine lv_iload hx hb dL_law_776 (lv_at hl 1 rfl) ?_
      refine lv_if_ne (tgt := 793) hx hb dL_law_778 (by decide) (fun c_5 => ?_) (fun c_5 => ?_)
      · refine lv_goto (tgt := 796) hx hb dL_law_793 (by decide) ?_
        exact kk _ _ _ ⟨_, _, _, _, _, _, _, _, _, hP, hPm, hOut, hB2, hH⟩ hS (lv_sub hl [2, 3, 4, 5, 6] rfl)
      · exact absurd c_5 h0
    · exact absurd rfl c_4
