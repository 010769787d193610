set_option maxHeartbeats 8000000 in
set_option maxRecDepth 100000 in
theorem law_loop {p : Program} {l : Launch} {e : Env} {s : State} {m : MethodId} {below : List Frame} {meth : Method} {c : Code} {dC : Nat → ClassId} {dI : Nat → Nat → Nat} {ad : Nat → Nat} {cU cI : ClassId} {pa md : Nat → Nat} {cM : ClassId} {ao : Nat} {cJ : ClassId} {b L : Nat} {xs : Nat → Int32} (hl9 : l.stackTraces = false) (hL : L ≤ 2560) (C0 : lw_At p s m meth c b L xs) (X0 : lw_X dC dI ad cU cI pa md cM ao cJ s) : ∀ (n k : Nat), 5 * k ≤ L → L + 1 ≤ 5 * (k + n) → ∀ (H : Heap) (locs : List Loc) (ls : Array Slot), lw_J dC dI ad cU cI pa md cM ao cJ H → va_S (us_new s.heap.size) s.heap H locs → lv_has ls 7 [(4, .int (nI (5 * k))), (3, .ref ao), (2, .ref (md 0)), (1, .ref (ad 0)), (0, .ref b)] → W p l e room_1 s m #[Value.ref b] below meth c H locs (46 + 2 * k) (2544 + 12 * k) (lw_Z below #[Value.ref b] s) (F0 m 23 ls []) := by
  obtain ⟨hx, hb, hr, hml, hown, hts, hX, hbl, hlocks, hgv⟩ := id C0
  have hbA : ¬ us_new s.heap.size b := Nat.not_le.mpr hbl
  intro n
  induction n with
  | zero =>
    intro k h1 h2
    omega
  | succ n ih =>
    intro k hk1 hk2 H locs ls hJ hS hl
    have tail : 5 * k + 5 ≤ L → ∀ (H1 : Heap) (locs1 : List Loc) (ls1 : Array Slot), lw_J dC dI ad cU cI pa md cM ao cJ H1 → va_S (us_new s.heap.size) s.heap H1 locs1 → lv_has ls1 7 [(4, .int (nI (5 * k))), (3, .ref ao), (2, .ref (md 0)), (1, .ref (ad 0)), (0, .ref b)] → W p l e room_1 s m #[Value.ref b] below meth c H1 locs1 (46 + 2 * k + 2) (2544 + 12 * k + 12) (lw_Z below #[Value.ref b] s) (F0 m 796 ls1 []) := by
      intro hk H1 locs1 ls1 hJ hS hl
      refine lv_iinc (v := nI (5 * (k + 1))) (lv' := [(4, .int (nI (5 * (k + 1)))), (3, .ref ao), (2, .ref (md 0)), (1, .ref (ad 0)), (0, .ref b)]) hx hb dL_law_796 hl (k := 0) rfl (nI_add (5 * k) 5) (by decide) rfl (fun ls hl => ?_)
      refine lv_goto (tgt := 23) hx hb dL_law_799 (by decide) ?_
      refine W.widen (k := 46 + 2 * (k + 1)) (n := 2544 + 12 * (k + 1)) (by omega) (by omega) ?_
      exact ih (k + 1) (by omega) (by omega) _ _ _ hJ hS hl
    refine lv_iload hx hb dL_law_23 (lv_at hl 0 rfl) ?_
    refine lv_aload_n hx hb dL_law_25 rfl (lv_at hl 4 rfl) ?_
    refine va_slen hx hb hX hbl hbA hS dL_law_26 ?_
    refine lv_iconst (v := 5) hx hb dL_law_27 (by decide) ?_
    refine lv_isub hx hb dL_law_28 ?_
    refine lv_icmp_gt (tgt := 802) hx hb dL_law_29 (by decide) (fun c1 => ?_) (fun c1 => ?_)
    · refine lv_iconst (v := 1) hx hb dL_law_802 (by decide) ?_
      refine va_forget (fun q hq => hS.2.2 q hq) ?_
      refine W.widen (k := 601024) (n := 7293034) (by omega) (by omega) ?_
      exact lw_ret hx hb hr hlocks dL_law_803
    · have hk : 5 * k + 5 ≤ L := by
        rcases Nat.lt_or_ge L (5 * k + 5) with q | q
        · refine absurd ?_ c1
          rw [Int32.lt_iff_toInt_lt, show (Int32.ofNat L - 5) = nI L - nI 5 from rfl, pk_sub_toInt (by omega) (by omega), nI_toInt (by omega)]
          omega
        · exact q
      have tl := tail hk
      refine lv_aload_n hx hb dL_law_32 rfl (lv_at hl 4 rfl) ?_
      refine lv_iload hx hb dL_law_33 (lv_at hl 0 rfl) ?_
      refine lw_sld hx hb hX hbl hbA hS (5 * k) (y := xs (5 * k)) rfl (by omega) hL rfl dL_law_35 ?_
      refine lv_bipush (v := 15) hx hb dL_law_36 (by decide) ?_
      refine lv_iand hx hb dL_law_38 ?_
      refine lv_topi (fun w9 ew9 => ?_)
      by_cases k0 : w9 = 0
      · refine lv_tableIn (tgt := 92) hx hb dL_law_39 (by rw [k0]; decide) (by rw [k0]; decide) (by rw [k0]; rfl) (by decide) ?_
        exact lw_c_unit hl9 hL C0 X0 k hk hJ hS hl tl
      by_cases k1 : w9 = 1
      · refine lv_tableIn (tgt := 160) hx hb dL_law_39 (by rw [k1]; decide) (by rw [k1]; decide) (by rw [k1]; rfl) (by decide) ?_
        exact lw_c_message hl9 hL C0 X0 k hk hJ hS hl tl
      by_cases k2 : w9 = 2
      · refine lv_tableIn (tgt := 252) hx hb dL_law_39 (by rw [k2]; decide) (by rw [k2]; decide) (by rw [k2]; rfl) (by decide) ?_
        exact lw_c_at hl9 hL C0 X0 k hk hJ hS hl tl
      by_cases k3 : w9 = 3
      · refine lv_tableIn (tgt := 332) hx hb dL_law_39 (by rw [k3]; decide) (by rw [k3]; decide) (by rw [k3]; rfl) (by decide) ?_
        exact lw_c_place hl9 hL C0 X0 k hk hJ hS hl tl
      by_cases k4 : w9 = 4
      · refine lv_tableIn (tgt := 400) hx hb dL_law_39 (by rw [k4]; decide) (by rw [k4]; decide) (by rw [k4]; rfl) (by decide) ?_
        exact lw_c_age hl9 hL C0 X0 k hk hJ hS hl tl
      by_cases k5 : w9 = 5
      · refine lv_tableIn (tgt := 468) hx hb dL_law_39 (by rw [k5]; decide) (by rw [k5]; decide) (by rw [k5]; rfl) (by decide) ?_
        exact lw_c_expected hl9 hL C0 X0 k hk hJ hS hl tl
      by_cases k6 : w9 = 6
      · refine lv_tableIn (tgt := 536) hx hb dL_law_39 (by rw [k6]; decide) (by rw [k6]; decide) (by rw [k6]; rfl) (by decide) ?_
        exact lw_c_wrong hl9 hL C0 X0 k hk hJ hS hl tl
      by_cases k7 : w9 = 7
      · refine lv_tableIn (tgt := 592) hx hb dL_law_39 (by rw [k7]; decide) (by rw [k7]; decide) (by rw [k7]; rfl) (by decide) ?_
        exact lw_c_told hl9 hL C0 X0 k hk hJ hS hl tl
      by_cases k8 : w9 = 8
      · refine lv_tableIn (tgt := 648) hx hb dL_law_39 (by rw [k8]; decide) (by rw [k8]; decide) (by rw [k8]; rfl) (by decide) ?_
        exact lw_c_many hl9 hL C0 X0 k hk hJ hS hl tl
      by_cases k9 : w9 = 9
      · refine lv_tableIn (tgt := 716) hx hb dL_law_39 (by rw [k9]; decide) (by rw [k9]; decide) (by rw [k9]; rfl) (by decide) ?_
        exact lw_c_arrived hl9 hL C0 X0 k hk hJ hS hl tl
      have hout : w9.toInt < 0 ∨ 9 < w9.toInt := us_sw (lo := 0) (hi := 9) (fun z h1 h2 => by
        rcases (show z = 0 ∨ z = 1 ∨ z = 2 ∨ z = 3 ∨ z = 4 ∨ z = 5 ∨ z = 6 ∨ z = 7 ∨ z = 8 ∨ z = 9 by omega) with rfl | rfl | rfl | rfl | rfl | rfl | rfl | rfl | rfl | rfl
        · exact fun e => k0 (e.trans (by decide))
        · exact fun e => k1 (e.trans (by decide))
        · exact fun e => k2 (e.trans (by decide))
        · exact fun e => k3 (e.trans (by decide))
        · exact fun e => k4 (e.trans (by decide))
        · exact fun e => k5 (e.trans (by decide))
        · exact fun e => k6 (e.trans (by decide))
        · exact fun e => k7 (e.trans (by decide))
        · exact fun e => k8 (e.trans (by decide))
        · exact fun e => k9 (e.trans (by decide)))
      refine lv_tableOut (tgt := 796) hx hb dL_law_39 hout (by decide) ?_
      refine W.widen (k := 46 + 2 * k + 2) (n := 2544 + 12 * k + 12) (by omega) (by omega) ?_
      exact tl _ _ _ hJ hS hl
