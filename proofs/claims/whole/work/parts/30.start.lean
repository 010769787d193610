set_option maxHeartbeats 8000000 in
set_option maxRecDepth 100000 in
theorem whole_start {p : Program} {e : Env} {s : State} {m : MethodId} {below : List Frame} {meth : Method} {c : Code} (l : Launch) (hl9 : l.stackTraces = false) {b L : Nat} {xs : Nat → Int32} (hL : L ≤ 2560) (C0 : lw_At p s m meth c b L xs) : W p l e room_1 s m #[Value.ref b] below meth c s.heap [] 0 0 (lw_Z below #[Value.ref b] s) (entryFrame m ([Value.ref b] : List Value).toArray 7) := by
  obtain ⟨hx, hb, hr, hml, hown, hts, hX, hbl, hlocks, hgv⟩ := id C0
  have htb : ∀ w ∈ us_big, w.before #[Value.ref b] s = true := fun w hw => hts w (List.mem_filter.mp hw).1
  have hown : s.vm.findClass RL = some m.cls := hown
  have hE := lw_Ev hts hgv
  have hA : ∀ q : Nat, s.heap.size ≤ q → (us_new s.heap.size) q := fun _ h => h
  obtain ⟨c0, i0, hKn0⟩ := u_known (C := RX0) (T := TX0) (N := 14) (n := 14) htb us_inX0 (htb _ mw_51)
  obtain ⟨c1, i1, hKn1⟩ := u_known (C := RX1) (T := TX1) (N := 10) (n := 10) htb us_inX1 (htb _ mw_42)
  obtain ⟨c2, i2, hKn2⟩ := u_known (C := RX2) (T := TX2) (N := 23) (n := 23) htb us_inX2 (htb _ mw_418)
  obtain ⟨dC, dI, hKc⟩ : ∃ (dC : Nat → ClassId) (dI : Nat → Nat → Nat), ∀ (k : Nat) (q : vw_C), vwCl[k]? = some q → u_Kn s q.1 q.2.1 q.2.2 (dC k) (dI k) := by
    refine ⟨fun k => if k = 0 then c0 else if k = 1 then c1 else c2, fun k => if k = 0 then i0 else if k = 1 then i1 else i2, ?_⟩
    intro k q hq
    match k, hq with
    | 0, hq => cases hq; exact hKn0
    | 1, hq => cases hq; exact hKn1
    | 2, hq => cases hq; exact hKn2
    | k + 3, hq => simp at hq
  have hS : va_S (us_new s.heap.size) s.heap s.heap [] := va_S.rf
  have hK0 : va_K (dC, dI) vwCl [] s := ⟨hKc, fun k q h => by simp at h⟩
  have hP : va_P (dC, dI) vwCl [] s.heap := fun k q h => by simp at h
  have hD : va_D (us_new s.heap.size) [] := ⟨fun i j p q h => by simp at h, fun k q h => by simp at h⟩
  have hAO : va_AO RX0 s := va_AO.of (hts (.arrayOver (.object "UnitStates$Unit")) (by decide +kernel))
  have hNe : va_Nw (.methodLinkNest RX1 34 yX0_init "UnitStates") s := va_Nw.of rfl (hts (.methodLinkNest RX1 34 yX0_init "UnitStates") (by decide +kernel))
  have hl := lv_entry ([.ref b]) (n := 7) (Nat.le_of_ble_eq_true rfl)
  rw [lg_entry_eq]
  generalize (lg_sl ([.ref b]) ++ List.replicate (7 - (lg_sl ([.ref b])).length) Slot.unset).toArray = ls at hl ⊢
  have hl : lv_has ls 7 [(0, .ref b)] := hl
  refine va_new (ci := 1) (fs := [.null, .int 0, .null, .null, .null, .null, .null, .null, .int 0, .int 0]) (C := RX1) (T := TX1) (N := 10) hx hb htb us_inX1 tyX1 tyX1_ok hown (htb _ mw_41) (htb _ mw_42) (htb _ mw_32) hK0 hP hD hS hA rfl (fun j hj => by rcases (show j = 0 ∨ j = 1 ∨ j = 2 ∨ j = 3 ∨ j = 4 ∨ j = 5 ∨ j = 6 ∨ j = 7 ∨ j = 8 ∨ j = 9 by omega) with rfl | rfl | rfl | rfl | rfl | rfl | rfl | rfl | rfl | rfl <;> rfl) (Nat.le_of_ble_eq_true rfl) (Nat.le_of_ble_eq_true rfl) dL_law_0 (fun q0 H hP hD hS => ?_)
  have hP : va_P (dC, dI) vwCl [(q0, .inr (1, [.null, .int 0, .null, .null, .null, .null, .null, .null, .int 0, .int 0]))] H := hP
  have hq0 : s.heap.size ≤ q0 := hD.2 0 _ rfl
  have hsH : s.heap.size ≤ H.size := hS.1
  refine lv_dup hx hb dL_law_3 rfl ?_
  refine va_callv (va_runI (As := []) (rest := [.ref q0]) ⟨hx, hb, hml, hown, htb⟩ (kt_X1_init l dC dI q0 H.size) (cwI 0 htb (us_g0 mw_45) rfl rfl rfl (htb _ mw_32) (htb _ mw_43) (htb _ mw_44) rfl (by decide +kernel) ⟨Nat.le_of_ble_eq_true rfl, Nat.le_of_ble_eq_true rfl⟩) ⟨us_Pn_blind, fun U hU hW => ⟨rfl, by rw [hU], by rw [hU]; exact hP, va_K.moved hW.alike hK0, va_AO.moved hW.alike hAO, va_Nw.warmM hW hNe⟩⟩ rfl rfl hl.1 rfl (lv_room (Nat.le_of_ble_eq_true rfl)) dL_law_4 ⟨Nat.le_of_ble_eq_true rfl, Nat.le_of_ble_eq_true rfl⟩) hS (fun q _ h => lw_ou hq0 hS.1 q h) (lw_ou hq0 hS.1) (fun _ t H1 locs ht hvm hw hB hz1 hk1 hS => ?_)
  obtain ⟨ad, cU, cI, pa, rfl, hP, hK, hD1⟩ := hB
  rw [ht] at hP
  have hK := va_K.moved hvm.symm hK
  have hD0 : va_D (us_new s.heap.size) (us_W ad cU cI pa 0 0 0 (fun _ _ => 0) (fun _ _ => 0)) := hD1.weaken (fun _ q _ h => lw_ou hq0 hsH q.1 h)
  refine lv_astore_n (lv' := [(1, .ref (ad 0)), (0, .ref b)]) hx hb dL_law_7 rfl hl (by decide) rfl (fun ls hl => ?_)
  refine va_new (ci := 2) (fs := [.int 0, .int 0, .null, .null, .int 0, .null, .null, .null, .null, .int 0, .int 0, .int 0, .int 0, .int 0, .int 0, .int 0, .int 0, .int 0, .int 0, .int 0, .int 0, .int 0, .int 0]) (C := RX2) (T := TX2) (N := 23) hx hb htb us_inX2 tyX2 tyX2_ok hown (htb _ mw_417) (htb _ mw_418) (htb _ mw_34) hK hP hD0 hS hA rfl (fun j hj => by rcases (show j = 0 ∨ j = 1 ∨ j = 2 ∨ j = 3 ∨ j = 4 ∨ j = 5 ∨ j = 6 ∨ j = 7 ∨ j = 8 ∨ j = 9 ∨ j = 10 ∨ j = 11 ∨ j = 12 ∨ j = 13 ∨ j = 14 ∨ j = 15 ∨ j = 16 ∨ j = 17 ∨ j = 18 ∨ j = 19 ∨ j = 20 ∨ j = 21 ∨ j = 22 by omega) with rfl | rfl | rfl | rfl | rfl | rfl | rfl | rfl | rfl | rfl | rfl | rfl | rfl | rfl | rfl | rfl | rfl | rfl | rfl | rfl | rfl | rfl | rfl <;> rfl) (Nat.le_of_ble_eq_true rfl) (Nat.le_of_ble_eq_true rfl) dL_law_8 (fun q1 H2 hPz hDz hS => ?_)
  obtain ⟨hq1n, hq1⟩ := lw_D_last hDz
  have hsH2 : s.heap.size ≤ H2.size := hS.1
  have hPq : va_P (dC, dI) vwCl [(q1, .inr (2, [.int 0, .int 0, .null, .null, .int 0, .null, .null, .null, .null, .int 0, .int 0, .int 0, .int 0, .int 0, .int 0, .int 0, .int 0, .int 0, .int 0, .int 0, .int 0, .int 0, .int 0]))] H2 := lw_P_r hPz
  have hP : va_P (dC, dI) vwCl (us_W ad cU cI pa 0 0 0 (fun _ _ => 0) (fun _ _ => 0)) H2 := lw_P_l hPz
  have hlt2 := lw_lt hP
  refine lv_dup hx hb dL_law_11 rfl ?_
  refine va_callv (va_runI (As := []) (rest := [.ref q1]) ⟨hx, hb, hml, hown, htb⟩ (kt_X2_init l dC dI q1 H2.size) (cwI 0 htb (us_g0 mw_421) rfl rfl rfl (htb _ mw_34) (htb _ mw_419) (htb _ mw_420) rfl (by decide +kernel) ⟨Nat.le_of_ble_eq_true rfl, Nat.le_of_ble_eq_true rfl⟩) ⟨um_Pn_blind, fun U hU hW => ⟨rfl, by rw [hU], by rw [hU]; exact hPq, va_K.moved hW.alike hK0⟩⟩ rfl rfl hl.1 rfl (lv_room (Nat.le_of_ble_eq_true rfl)) dL_law_12 ⟨Nat.le_of_ble_eq_true rfl, Nat.le_of_ble_eq_true rfl⟩) hS (fun q _ h => lw_ou hq1 hS.1 q h) (lw_ou hq1 hS.1) (fun _ t H3 locs ht hvm hw hB hz1 hk1 hS => ?_)
  have hPu := lw_keepU hP hq1n hk1
  obtain ⟨md, cM, rfl, hPm, hKm, hDm⟩ := hB
  have hP : va_P (dC, dI) vwCl (us_W ad cU cI pa 0 0 0 (fun _ _ => 0) (fun _ _ => 0)) H3 := hPu
  rw [ht] at hPm
  have hKm := va_K.moved hvm.symm hKm
  have hdis : ∀ x ∈ us_adr (us_W ad cU cI pa 0 0 0 (fun _ _ => 0) (fun _ _ => 0)), x ∉ us_adr (um_W md cM 0 0 0 0 (fun _ _ => 0) (fun _ => 0)) := fun x h1 h2 => (lw_in hDm x h2).elim (fun e => hq1n (e ▸ h1)) (fun e => absurd (hlt2 x h1) (Nat.not_lt.mpr e))
  have hDm0 : va_D (us_new s.heap.size) (um_W md cM 0 0 0 0 (fun _ _ => 0) (fun _ => 0)) := hDm.weaken (fun _ q _ h => lw_ou hq1 hsH2 q.1 h)
  refine lv_astore_n (lv' := [(2, .ref (md 0)), (1, .ref (ad 0)), (0, .ref b)]) hx hb dL_law_15 rfl hl (by decide) rfl (fun ls hl => ?_)
  refine lv_iconst (v := 1) hx hb dL_law_16 (by decide) ?_
  refine va_newa (atype := .long) (a0 := (1, .inr (.inl (fun _ => 0)))) (ty := .long) hx hb (htb _ mw_595) rfl hK0 (hP.app hPm) (lw_D_app hD0 hDm0 hdis) hS hA (N' := 1) (fun _ => rfl) (by decide) (by decide) (by decide) (Nat.le_of_ble_eq_true rfl) (Nat.le_of_ble_eq_true rfl) dL_law_17 (fun ao cJ H4 hKJ hP hD hS => ?_)
  obtain ⟨haon, hao0⟩ := lw_D_last hD
  have hOut : va_P (dC, dI) vwCl (lh_w ao cJ (fun _ => 0)) H4 := lw_P_r hP
  have hPm := lw_P_r (lw_P_l hP)
  have hP := lw_P_l (lw_P_l hP)
  refine lv_astore_n (lv' := [(3, .ref ao), (2, .ref (md 0)), (1, .ref (ad 0)), (0, .ref b)]) hx hb dL_law_19 rfl hl (by decide) rfl (fun ls hl => ?_)
  refine lv_iconst (v := nI (5 * 0)) hx hb dL_law_20 (by decide) ?_
  refine lv_istore (lv' := [(4, .int (nI (5 * 0))), (3, .ref ao), (2, .ref (md 0)), (1, .ref (ad 0)), (0, .ref b)]) hx hb dL_law_21 hl (by decide) rfl (fun ls hl => ?_)
  refine W.widen (k := 46 + 2 * 0) (n := 2544 + 12 * 0) (by decide) (by decide) ?_
  have hadr : us_adr (us_W ad cU cI pa 0 0 0 (fun _ _ => 0) (fun _ _ => 0) ++ um_W md cM 0 0 0 0 (fun _ _ => 0) (fun _ => 0)) = us_ads ad pa ++ um_ads md := by rw [us_adr, List.map_append, ← us_adr, ← us_adr, us_W_adr, um_W_adr]
  rw [hadr] at haon
  rw [us_W_adr, um_W_adr] at hdis
  exact law_loop hl9 hL C0 ⟨hK, hKm, hKJ, hE, hD0, hDm0, hao0, fun h => haon (List.mem_append_left _ h), fun h => haon (List.mem_append_right _ h), hdis⟩ (L + 1) 0 (by omega) (by omega) _ _ _ ⟨0, 0, 0, 0, _, _, _, _, _, hP, hPm, hOut, lw_both0, lw_home0⟩ hS hl
