set_option maxHeartbeats 8000000 in
set_option maxRecDepth 100000 in
theorem kt_X1_replay (l : Launch) (dC : Nat → ClassId) (dI : Nat → Nat → Nat) (ad : Nat → Nat) (cU cI : ClassId) (pa : Nat → Nat) (sz : Nat) (nu nm : Nat) (nk : Int32) (F U : Nat → Nat → Int32) (p1 : Int32) (hnu : nu ≤ 30) (hnm : nm ≤ 200) (hO : ∀ p, p < nm → ∃ n, n < nm ∧ F 5 p = nI n) (hV : ∀ n, n < nm → ∃ j, j < nu ∧ F 0 n = nI j) : Met l yX1_replay wsX1_replay ({ frames := 4, cells := 0, slots := 0, locals := 90 }) (va_Pc [.ref (ad 0), .int p1] (us_Px dC dI ad cU cI pa nu nm nk F U (us_AA (us_ads ad pa) sz) sz)) (va_Qv (fun _ : Unit => True) (fun _ t => us_Bx dC dI ad cU cI pa nu nm nk (sp_rf nu nm F U p1) (sp_ru nu nm F U p1) t) (us_AA (us_ads ad pa) sz)) 0 0 (us_AA (us_ads ad pa) sz) := by
  refine Met.ofW (cc := cX1_replay) (maxL := 5) (ret := none) (by decide) rfl ?_
  intro p e s m args below meth c s₁ B hml hv
  obtain ⟨rfl, hsz, hP, hK, hD, hE⟩ := hv
  have hx := B.exec
  have hb := B.bytes
  have hr := B.returns
  have htb := us_htb (atoms_spec (ws := wsX1_replay) B.pre)
  have hown : s.vm.findClass RX1 = some m.cls := findClass_of_methodNamed B.named
  have hlocks := B.notSynchronized
  subst hsz
  have hA : ∀ q : Nat, s.heap.size ≤ q → (us_AA (us_ads ad pa) s.heap.size) q := fun q h => Or.inr h
  have hS : va_S (us_AA (us_ads ad pa) s.heap.size) s.heap s.heap [] := va_S.rf
  have hP : va_P (dC, dI) vwCl (us_W ad cU cI pa nu nm nk F U) s.heap := hP
  have hD : va_D (us_AA (us_ads ad pa) s.heap.size) (us_W ad cU cI pa nu nm nk F U) := us_D_aa hD
  have hl := lv_entry ([.ref (ad 0), .int p1]) (n := 5) (Nat.le_of_ble_eq_true rfl)
  rw [lg_entry_eq]
  generalize (lg_sl ([.ref (ad 0), .int p1]) ++ List.replicate (5 - (lg_sl ([.ref (ad 0), .int p1])).length) Slot.unset).toArray = ls at hl ⊢
  have hl : lv_has ls 5 [(0, .ref (ad 0)), (1, .int p1)] := hl
  have lp27 : ∀ (f po : Nat) (V : Nat → Nat → Int32) (fo : Nat → Int32) (H : Heap) (locs : List Loc) (ls : Array Slot) (lv : List (Nat × Value)), po + f = nm → sp_rp F p1 f po (V, fo) = sp_rp F p1 nm 0 (sp_st nu U, F 4) → va_P (dC, dI) vwCl (us_W ad cU cI pa nu nm nk (va_up F 4 fo) V) H → va_D (us_AA (us_ads ad pa) s.heap.size) (us_W ad cU cI pa nu nm nk (va_up F 4 fo) V) → va_S (us_AA (us_ads ad pa) s.heap.size) s.heap H locs → lv_has ls 5 [(2, .int (nI po)), (0, .ref (ad 0)), (1, .int p1)] → W p l e (headSpec wsX1_replay ({ frames := 4, cells := 0, slots := 0, locals := 90 })).room s m ([.ref (ad 0), .int p1]).toArray below meth c H locs 0 0 (MQ below (va_Qv (fun _ : Unit => True) (fun _ t => us_Bx dC dI ad cU cI pa nu nm nk (sp_rf nu nm F U p1) (sp_ru nu nm F U p1) t) (us_AA (us_ads ad pa) s.heap.size)) ([.ref (ad 0), .int p1]).toArray s 0 0 (us_AA (us_ads ad pa) s.heap.size)) (F0 m 27 ls []) := by
    intro f
    induction f with
    | zero =>
      intro po V fo H locs ls lv hpf hR hP hD hS hl
      have hpe : po = nm := by omega
      refine lv_iload_n hx hb dX1_replay_27 rfl (lv_at hl 0 rfl) ?_
      refine lv_aload_n hx hb dX1_replay_28 rfl (lv_at hl 1 rfl) ?_
      refine va_get (D := (dC, dI)) (ci := 1) (v := .int (nI nm)) (C := RX1) (T := TX1) (N := 10) hx hb htb us_inX1 hown hK hP 0 rfl rfl 8 (by decide) (htb _ mw_117) (fun _ h9 => h9) rfl dX1_replay_29 ?_
      refine lv_icmp_ge (tgt := 104) hx hb dX1_replay_32 (by decide) (fun c_1 => ?_) (fun c_1 => ?_)
      · exact ((W.vret hx hb hr (fun t ht hW => ⟨⟨(), rfl, trivial, us_Bx_of ht hP rfl (by rw [sp_rf, ← hR]; rfl) (by rw [sp_ru, ← hR]; rfl)⟩, hS.F ht⟩) hS.2.2 dX1_replay_104))
      · exact absurd (nI_le (by omega) (by omega)) c_1
    | succ f ih =>
      intro po V fo H locs ls lv hpf hR hP hD hS hl
      have hpl : po < nm := by omega
      obtain ⟨n, hn, en⟩ := hO po hpl
      obtain ⟨j, hj, ej⟩ := hV n hn
      have hp2 : po < 200 := by omega
      have hn2 : n < 200 := by omega
      have hj3 : j < 30 := by omega
      refine lv_iload_n hx hb dX1_replay_27 rfl (lv_at hl 0 rfl) ?_
      refine lv_aload_n hx hb dX1_replay_28 rfl (lv_at hl 1 rfl) ?_
      refine va_get (D := (dC, dI)) (ci := 1) (v := .int (nI nm)) (C := RX1) (T := TX1) (N := 10) hx hb htb us_inX1 hown hK hP 0 rfl rfl 8 (by decide) (htb _ mw_117) (fun _ h9 => h9) rfl dX1_replay_29 ?_
      refine lv_icmp_ge (tgt := 104) hx hb dX1_replay_32 (by decide) (fun c_2 => ?_) (fun c_2 => ?_)
      · exact absurd c_2 (nI_ge (by omega) (by omega))
      · refine lv_aload_n hx hb dX1_replay_35 rfl (lv_at hl 1 rfl) ?_
        refine va_get (D := (dC, dI)) (ci := 1) (v := .ref (ad 7)) (C := RX1) (T := TX1) (N := 10) hx hb htb us_inX1 hown hK hP 0 rfl rfl 7 (by decide) (htb _ mw_116) (fun _ h9 => h9) rfl dX1_replay_36 ?_
        refine lv_iload_n hx hb dX1_replay_39 rfl (lv_at hl 0 rfl) ?_
        refine us_iald (f := (F 5)) hx hb hK hP 7 1 rfl rfl hp2 (by decide) dX1_replay_40 ?_
        rw [en]
        refine lv_istore_n (lv' := [(3, .int (nI n)), (2, .int (nI po)), (0, .ref (ad 0)), (1, .int p1)]) hx hb dX1_replay_41 rfl hl (by decide) rfl (fun ls hl => ?_)
        refine lv_aload_n hx hb dX1_replay_42 rfl (lv_at hl 2 rfl) ?_
        refine va_get (D := (dC, dI)) (ci := 1) (v := .ref (ad 3)) (C := RX1) (T := TX1) (N := 10) hx hb htb us_inX1 hown hK hP 0 rfl rfl 3 (by decide) (htb _ mw_112) (fun _ h9 => h9) rfl dX1_replay_43 ?_
        refine lv_iload_n hx hb dX1_replay_46 rfl (lv_at hl 0 rfl) ?_
        refine us_iald (f := (F 1)) hx hb hK hP 3 1 rfl rfl hn2 (by decide) dX1_replay_47 ?_
        refine lv_iload_n hx hb dX1_replay_48 rfl (lv_at hl 3 rfl) ?_
        refine lv_icmp_le (tgt := 55) hx hb dX1_replay_49 (by decide) (fun c_3 => ?_) (fun c_3 => ?_)
        · refine lv_aload_n hx hb dX1_replay_55 rfl (lv_at hl 2 rfl) ?_
          refine va_get (D := (dC, dI)) (ci := 1) (v := .ref (ad 1)) (C := RX1) (T := TX1) (N := 10) hx hb htb us_inX1 hown hK hP 0 rfl rfl 0 (by decide) (htb _ mw_109) (fun _ h9 => h9) rfl dX1_replay_56 ?_
          refine lv_aload_n hx hb dX1_replay_59 rfl (lv_at hl 2 rfl) ?_
          refine va_get (D := (dC, dI)) (ci := 1) (v := .ref (ad 2)) (C := RX1) (T := TX1) (N := 10) hx hb htb us_inX1 hown hK hP 0 rfl rfl 2 (by decide) (htb _ mw_111) (fun _ h9 => h9) rfl dX1_replay_60 ?_
          refine lv_iload_n hx hb dX1_replay_63 rfl (lv_at hl 0 rfl) ?_
          refine us_iald (f := (F 0)) hx hb hK hP 2 1 rfl rfl hn2 (by decide) dX1_replay_64 ?_
          rw [ej]
          refine us_aald hx hb hK hP 1 0 rfl rfl hj3 (by decide) rfl dX1_replay_65 ?_
          refine lv_astore (lv' := [(4, .ref (pa j)), (3, .int (nI n)), (2, .int (nI po)), (0, .ref (ad 0)), (1, .int p1)]) hx hb dX1_replay_66 hl (by decide) rfl (fun ls hl => ?_)
          refine lv_aload_n hx hb dX1_replay_68 rfl (lv_at hl 3 rfl) ?_
          refine va_get (D := (dC, dI)) (ci := 1) (v := .ref (ad 6)) (C := RX1) (T := TX1) (N := 10) hx hb htb us_inX1 hown hK hP 0 rfl rfl 6 (by decide) (htb _ mw_115) (fun _ h9 => h9) rfl dX1_replay_69 ?_
          refine lv_iload_n hx hb dX1_replay_72 rfl (lv_at hl 1 rfl) ?_
          refine lv_aload hx hb dX1_replay_73 (lv_at hl 0 rfl) ?_
          refine lv_aload_n hx hb dX1_replay_75 rfl (lv_at hl 3 rfl) ?_
          refine va_get (D := (dC, dI)) (ci := 1) (v := .ref (ad 4)) (C := RX1) (T := TX1) (N := 10) hx hb htb us_inX1 hown hK hP 0 rfl rfl 4 (by decide) (htb _ mw_113) (fun _ h9 => h9) rfl dX1_replay_76 ?_
          refine lv_iload_n hx hb dX1_replay_79 rfl (lv_at hl 1 rfl) ?_
          refine us_iald (f := (F 2)) hx hb hK hP 4 1 rfl rfl hn2 (by decide) dX1_replay_80 ?_
          refine lv_aload_n hx hb dX1_replay_81 rfl (lv_at hl 3 rfl) ?_
          refine va_get (D := (dC, dI)) (ci := 1) (v := .ref (ad 5)) (C := RX1) (T := TX1) (N := 10) hx hb htb us_inX1 hown hK hP 0 rfl rfl 5 (by decide) (htb _ mw_114) (fun _ h9 => h9) rfl dX1_replay_82 ?_
          refine lv_iload_n hx hb dX1_replay_85 rfl (lv_at hl 1 rfl) ?_
          refine us_iald (f := (F 3)) hx hb hK hP 5 1 rfl rfl hn2 (by decide) dX1_replay_86 ?_
          refine lv_aload_n hx hb dX1_replay_87 rfl (lv_at hl 3 rfl) ?_
          refine va_get (D := (dC, dI)) (ci := 1) (v := .ref (ad 3)) (C := RX1) (T := TX1) (N := 10) hx hb htb us_inX1 hown hK hP 0 rfl rfl 3 (by decide) (htb _ mw_112) (fun _ h9 => h9) rfl dX1_replay_88 ?_
          refine lv_iload_n hx hb dX1_replay_91 rfl (lv_at hl 1 rfl) ?_
          refine us_iald (f := (F 1)) hx hb hK hP 3 1 rfl rfl hn2 (by decide) dX1_replay_92 ?_
          refine lv_iload_n hx hb dX1_replay_93 rfl (lv_at hl 2 rfl) ?_
          refine va_calli (va_runVN (C := RX0) (As := [.int ((F 2) n), .int ((F 3) n), .int ((F 1) n), .int (nI po)]) (rest := [.int (nI n), .ref (ad 6)]) ⟨hx, hb, hml, hown, htb⟩ (kt_X0_take l dC dI (pa j) H.size (V j) ((F 2) n) ((F 3) n) ((F 1) n) (nI po)) ⟨va_cnB 4 htb (us_g0 mw_308) rfl rfl rfl (hE.2.2.1 (.methodLinkNest RX1 167 yX0_take "UnitStates") (by decide +kernel)) (htb _ mw_33) (by decide +kernel) ⟨Nat.le_of_ble_eq_true rfl, Nat.le_of_ble_eq_true rfl⟩, htb _ mw_307, htb _ mw_7⟩ ⟨us_Pu_blind, va_recv hK hP (ci := 0) (q0 := 8 + j) rfl (us_W_get hj3), fun U hU hW => ⟨rfl, us_Pu_at (us_W_sub hP hj3) hK hU hW⟩⟩ rfl rfl hl.1 rfl (lv_room (Nat.le_of_ble_eq_true rfl)) dX1_replay_94 ⟨Nat.le_of_ble_eq_true rfl, Nat.le_of_ble_eq_true rfl⟩) hS (fun q _ h => (us_Au_le (Or.inl (us_ads_pa hj3)) hS hA) q h) (us_Au_le (Or.inl (us_ads_pa hj3)) hS hA) (fun r_5 _ t_6 H_4 locs ht hvm hw hB hz1 hk1 hS => ?_)
          subst hw
          have hP := us_W_put hj3 hP hD hk1 (us_Bu_use ht hB)
          have hD : va_D (us_AA (us_ads ad pa) s.heap.size) (us_W ad cU cI pa nu nm nk (va_up F 4 fo) (va_up V j (sp_take (V j) ((F 2) n) ((F 3) n) ((F 1) n) (nI po)).2)) := us_D_of (by rw [us_W_adr, us_W_adr]) hD
          refine us_iast (f := fo) hx hb hK hP hD hS 6 1 rfl rfl hn2 (by decide) dX1_replay_97 (fun H_7 locs hP hD hS => ?_)
          have hP : va_P (dC, dI) vwCl (us_W ad cU cI pa nu nm nk (va_up (va_up F 4 fo) 4 (upd fo n ((sp_take (V j) ((F 2) n) ((F 3) n) ((F 1) n) (nI po)).1))) (va_up V j (sp_take (V j) ((F 2) n) ((F 3) n) ((F 1) n) (nI po)).2)) H_7 := hP
          have hD : va_D (us_AA (us_ads ad pa) s.heap.size) (us_W ad cU cI pa nu nm nk (va_up (va_up F 4 fo) 4 (upd fo n ((sp_take (V j) ((F 2) n) ((F 3) n) ((F 1) n) (nI po)).1))) (va_up V j (sp_take (V j) ((F 2) n) ((F 3) n) ((F 1) n) (nI po)).2)) := hD
          refine lv_iinc (v := (nI (po + 1))) (lv' := [(2, .int (nI (po + 1))), (4, .ref (pa j)), (3, .int (nI n)), (0, .ref (ad 0)), (1, .int p1)]) hx hb dX1_replay_98 hl (k := 2) rfl (nI_1 po) (by decide) rfl (fun ls hl => ?_)
          refine lv_goto (tgt := 27) hx hb dX1_replay_101 (by decide) ?_
          refine ih (po + 1) _ _ _ _ _ lv (by omega) ?_ hP hD hS (lv_sub hl [0, 3, 4] rfl)
          rw [← hR, sp_rp, en, nI_clamp (by omega), if_pos c_3, ej, nI_clamp (by omega)]
        · refine lv_goto (tgt := 104) hx hb dX1_replay_52 (by decide) ?_
          have hR2 : sp_rp F p1 (f + 1) po (V, fo) = (V, fo) := by
            rw [sp_rp, en, nI_clamp (by omega), if_neg c_3]
          exact ((W.vret hx hb hr (fun t ht hW => ⟨⟨(), rfl, trivial, us_Bx_of ht hP rfl (by rw [sp_rf, ← hR, hR2]) (by rw [sp_ru, ← hR, hR2])⟩, hS.F ht⟩) hS.2.2 dX1_replay_104))
  have lp2 : ∀ (n i : Nat) (H : Heap) (locs : List Loc) (ls : Array Slot), i + n = nu → va_P (dC, dI) vwCl (us_W ad cU cI pa nu nm nk F (sp_st i U)) H → va_D (us_AA (us_ads ad pa) s.heap.size) (us_W ad cU cI pa nu nm nk F (sp_st i U)) → va_S (us_AA (us_ads ad pa) s.heap.size) s.heap H locs → lv_has ls 5 [(2, .int (nI i)), (0, .ref (ad 0)), (1, .int p1)] → W p l e (headSpec wsX1_replay ({ frames := 4, cells := 0, slots := 0, locals := 90 })).room s m ([.ref (ad 0), .int p1]).toArray below meth c H locs 0 0 (MQ below (va_Qv (fun _ : Unit => True) (fun _ t => us_Bx dC dI ad cU cI pa nu nm nk (sp_rf nu nm F U p1) (sp_ru nu nm F U p1) t) (us_AA (us_ads ad pa) s.heap.size)) ([.ref (ad 0), .int p1]).toArray s 0 0 (us_AA (us_ads ad pa) s.heap.size)) (F0 m 2 ls []) := by
    intro n
    induction n with
    | zero =>
      intro i H locs ls hin hP hD hS hl
      have hie : i = nu := by omega
      refine lv_iload_n hx hb dX1_replay_2 rfl (lv_at hl 0 rfl) ?_
      refine lv_aload_n hx hb dX1_replay_3 rfl (lv_at hl 1 rfl) ?_
      refine va_get (D := (dC, dI)) (ci := 1) (v := .int (nI nu)) (C := RX1) (T := TX1) (N := 10) hx hb htb us_inX1 hown hK hP 0 rfl rfl 1 (by decide) (htb _ mw_110) (fun _ h9 => h9) rfl dX1_replay_4 ?_
      refine lv_icmp_ge (tgt := 25) hx hb dX1_replay_7 (by decide) (fun c_8 => ?_) (fun c_8 => ?_)
      · refine lv_iconst (v := 0) hx hb dX1_replay_25 (by decide) ?_
        refine lv_istore_n (lv' := [(2, .int 0), (0, .ref (ad 0)), (1, .int p1)]) hx hb dX1_replay_26 rfl hl (by decide) rfl (fun ls hl => ?_)
        subst hie
        exact lp27 nm 0 (sp_st i U) (F 4) _ _ _ [] (by omega) rfl (by rw [us_up_self]; exact hP) (by rw [us_up_self]; exact hD) hS (lv_sub hl [0, 1, 2] rfl)
      · exact absurd (nI_le (by omega) (by omega)) c_8
    | succ n ih =>
      intro i H locs ls hin hP hD hS hl
      have hil : i < nu := by omega
      have hi3 : i < 30 := by omega
      refine lv_iload_n hx hb dX1_replay_2 rfl (lv_at hl 0 rfl) ?_
      refine lv_aload_n hx hb dX1_replay_3 rfl (lv_at hl 1 rfl) ?_
      refine va_get (D := (dC, dI)) (ci := 1) (v := .int (nI nu)) (C := RX1) (T := TX1) (N := 10) hx hb htb us_inX1 hown hK hP 0 rfl rfl 1 (by decide) (htb _ mw_110) (fun _ h9 => h9) rfl dX1_replay_4 ?_
      refine lv_icmp_ge (tgt := 25) hx hb dX1_replay_7 (by decide) (fun c_9 => ?_) (fun c_9 => ?_)
      · exact absurd c_9 (nI_ge (by omega) (by omega))
      · refine lv_aload_n hx hb dX1_replay_10 rfl (lv_at hl 1 rfl) ?_
        refine va_get (D := (dC, dI)) (ci := 1) (v := .ref (ad 1)) (C := RX1) (T := TX1) (N := 10) hx hb htb us_inX1 hown hK hP 0 rfl rfl 0 (by decide) (htb _ mw_109) (fun _ h9 => h9) rfl dX1_replay_11 ?_
        refine lv_iload_n hx hb dX1_replay_14 rfl (lv_at hl 0 rfl) ?_
        refine us_aald hx hb hK hP 1 0 rfl rfl hi3 (by decide) rfl dX1_replay_15 ?_
        refine va_callv (va_runVN (C := RX0) (As := []) (rest := []) ⟨hx, hb, hml, hown, htb⟩ (kt_X0_startAnew l dC dI (pa i) H.size ((sp_st i U) i)) ⟨va_cnB 0 htb (us_g0 mw_304) rfl rfl rfl (hE.2.2.1 (.methodLinkNest RX1 164 yX0_startAnew "UnitStates") (by decide +kernel)) (htb _ mw_33) (by decide +kernel) ⟨Nat.le_of_ble_eq_true rfl, Nat.le_of_ble_eq_true rfl⟩, htb _ mw_303, htb _ mw_6⟩ ⟨us_Pu_blind, va_recv hK hP (ci := 0) (q0 := 8 + i) rfl (us_W_get hi3), fun U hU hW => ⟨rfl, us_Pu_at (us_W_sub hP hi3) hK hU hW⟩⟩ rfl rfl hl.1 rfl (lv_room (Nat.le_of_ble_eq_true rfl)) dX1_replay_16 ⟨Nat.le_of_ble_eq_true rfl, Nat.le_of_ble_eq_true rfl⟩) hS (fun q _ h => (us_Au_le (Or.inl (us_ads_pa hi3)) hS hA) q h) (us_Au_le (Or.inl (us_ads_pa hi3)) hS hA) (fun _ t_12 H_10 locs ht hvm hw hB hz1 hk1 hS => ?_)
        have hP := us_W_put hi3 hP hD hk1 (us_Bu_use ht hB)
        have hD : va_D (us_AA (us_ads ad pa) s.heap.size) (us_W ad cU cI pa nu nm nk F (va_up (sp_st i U) i (sp_fresh ((sp_st i U) i)))) := us_D_of (by rw [us_W_adr, us_W_adr]) hD
        refine lv_iinc (v := (nI (i + 1))) (lv' := [(2, .int (nI (i + 1))), (0, .ref (ad 0)), (1, .int p1)]) hx hb dX1_replay_19 hl (k := 0) rfl (nI_1 i) (by decide) rfl (fun ls hl => ?_)
        refine lv_goto (tgt := 2) hx hb dX1_replay_22 (by decide) ?_
        have e9 : va_up (sp_st i U) i (sp_fresh (sp_st i U i)) = sp_st (i + 1) U := us_st_next
        rw [e9] at hP hD
        exact ih (i + 1) _ _ _ (by omega) hP hD hS (lv_sub hl [0, 1, 2] rfl)
  refine lv_iconst (v := 0) hx hb dX1_replay_0 (by decide) ?_
  refine lv_istore_n (lv' := [(2, .int 0), (0, .ref (ad 0)), (1, .int p1)]) hx hb dX1_replay_1 rfl hl (by decide) rfl (fun ls hl => ?_)
  exact lp2 nu 0 _ _ _ (by omega) (by rw [us_st_0]; exact hP) (by rw [us_st_0]; exact hD) hS (lv_sub hl [0, 1, 2] rfl)
set_option maxHeartbeats 8000000 in
set_option maxRecDepth 100000 in
theorem kt_X1_rankOf (l : Launch) (dC : Nat → ClassId) (dI : Nat → Nat → Nat) (ad : Nat → Nat) (cU cI : ClassId) (pa : Nat → Nat) (sz : Nat) (nu nm : Nat) (nk : Int32) (F U : Nat → Nat → Int32) (p1 : Nat) (hnu : nu ≤ 30) (hp1 : p1 < 30) : Met l yX1_rankOf wsX1_rankOf ({ frames := 1, cells := 0, slots := 0, locals := 21 }) (va_Pc [.ref (ad 0), .ref (pa p1)] (us_Px dC dI ad cU cI pa nu nm nk F U (us_new sz) sz)) (va_Qi (fun r (_ : Unit) => True ∧ r = sp_rank nu U p1) (fun _ _ => True) (us_new sz)) 0 0 (us_new sz) := by
  refine Met.ofW (cc := cX1_rankOf) (maxL := 5) (ret := (some .int)) (by decide) rfl ?_
  intro p e s m args below meth c s₁ B hml hv
  obtain ⟨rfl, hsz, hP, hK, hD, hE⟩ := hv
  have hx := B.exec
  have hb := B.bytes
  have hr := B.returns
  have htb := us_htb (atoms_spec (ws := wsX1_rankOf) B.pre)
  have hown : s.vm.findClass RX1 = some m.cls := findClass_of_methodNamed B.named
  have hlocks := B.notSynchronized
  subst hsz
  have hA : ∀ q : Nat, s.heap.size ≤ q → (us_new s.heap.size) q := fun q h => h
  have hS : va_S (us_new s.heap.size) s.heap s.heap [] := va_S.rf
  have hP : va_P (dC, dI) vwCl (us_W ad cU cI pa nu nm nk F U) s.heap := hP
  have hl := lv_entry ([.ref (ad 0), .ref (pa p1)]) (n := 5) (Nat.le_of_ble_eq_true rfl)
  rw [lg_entry_eq]
  generalize (lg_sl ([.ref (ad 0), .ref (pa p1)]) ++ List.replicate (5 - (lg_sl ([.ref (ad 0), .ref (pa p1)])).length) Slot.unset).toArray = ls at hl ⊢
  have hl : lv_has ls 5 [(0, .ref (ad 0)), (1, .ref (pa p1))] := hl
  have lp20 : ∀ (n i : Nat) (H : Heap) (locs : List Loc) (ls : Array Slot), i + n = nu → va_P (dC, dI) vwCl (us_W ad cU cI pa nu nm nk F U) H → va_S (us_new s.heap.size) s.heap H locs → lv_has ls 5 [(4, .int (nI i)), (3, .int (sp_rk U (sp_inc (U p1)) (U p1 12) i)), (2, .int (sp_inc (U p1))), (0, .ref (ad 0)), (1, .ref (pa p1))] → ¬ sp_there (U p1) (sp_inc (U p1)) = 0 → W p l e (headSpec wsX1_rankOf ({ frames := 1, cells := 0, slots := 0, locals := 21 })).room s m ([.ref (ad 0), .ref (pa p1)]).toArray below meth c H locs 0 0 (MQ below (va_Qi (fun r (_ : Unit) => True ∧ r = sp_rank nu U p1) (fun _ _ => True) (us_new s.heap.size)) ([.ref (ad 0), .ref (pa p1)]).toArray s 0 0 (us_new s.heap.size)) (F0 m 20 ls []) := by
    intro n
    induction n with
    | zero =>
      intro i H locs ls hin hP hS hl ht0
      have hie : i = nu := by omega
      refine lv_iload hx hb dX1_rankOf_20 (lv_at hl 0 rfl) ?_
      refine lv_aload_n hx hb dX1_rankOf_22 rfl (lv_at hl 3 rfl) ?_
      refine va_get (D := (dC, dI)) (ci := 1) (v := .int (nI nu)) (C := RX1) (T := TX1) (N := 10) hx hb htb us_inX1 hown hK hP 0 rfl rfl 1 (by decide) (htb _ mw_110) (fun _ h9 => h9) rfl dX1_rankOf_23 ?_
      refine lv_icmp_ge (tgt := 69) hx hb dX1_rankOf_26 (by decide) (fun c_1 => ?_) (fun c_1 => ?_)
      · refine lv_iload_n hx hb dX1_rankOf_69 rfl (lv_at hl 1 rfl) ?_
        have hsp : (sp_rk U (sp_inc (U p1)) (U p1 12) i) = sp_rank nu U p1 := by rw [sp_rank, if_neg ht0, hie]
        exact ((W.iret (v := (sp_rk U (sp_inc (U p1)) (U p1 12) i)) hx hb hr (fun t ht hW => ⟨⟨(sp_rk U (sp_inc (U p1)) (U p1 12) i), (), rfl, ⟨trivial, hsp⟩, trivial⟩, hS.F ht⟩) hS.2.2 dX1_rankOf_70))
      · exact absurd (nI_le (by omega) (by omega)) c_1
    | succ n ih =>
      intro i H locs ls hin hP hS hl ht0
      have hil : i < nu := by omega
      have hi3 : i < 30 := by omega
      refine lv_iload hx hb dX1_rankOf_20 (lv_at hl 0 rfl) ?_
      refine lv_aload_n hx hb dX1_rankOf_22 rfl (lv_at hl 3 rfl) ?_
      refine va_get (D := (dC, dI)) (ci := 1) (v := .int (nI nu)) (C := RX1) (T := TX1) (N := 10) hx hb htb us_inX1 hown hK hP 0 rfl rfl 1 (by decide) (htb _ mw_110) (fun _ h9 => h9) rfl dX1_rankOf_23 ?_
      refine lv_icmp_ge (tgt := 69) hx hb dX1_rankOf_26 (by decide) (fun c_2 => ?_) (fun c_2 => ?_)
      · exact absurd c_2 (nI_ge (by omega) (by omega))
      · refine lv_aload_n hx hb dX1_rankOf_29 rfl (lv_at hl 3 rfl) ?_
        refine va_get (D := (dC, dI)) (ci := 1) (v := .ref (ad 1)) (C := RX1) (T := TX1) (N := 10) hx hb htb us_inX1 hown hK hP 0 rfl rfl 0 (by decide) (htb _ mw_109) (fun _ h9 => h9) rfl dX1_rankOf_30 ?_
        refine lv_iload hx hb dX1_rankOf_33 (lv_at hl 0 rfl) ?_
        refine us_aald hx hb hK hP 1 0 rfl rfl hi3 (by decide) rfl dX1_rankOf_35 ?_
        refine lv_iload_n hx hb dX1_rankOf_36 rfl (lv_at hl 2 rfl) ?_
        refine va_calli (va_runVN (C := RX0) (As := [.int (sp_inc (U p1))]) (rest := []) ⟨hx, hb, hml, hown, htb⟩ (kt_X0_isThereAt l dC dI (pa i) H.size (U i) (sp_inc (U p1))) ⟨va_cnB 1 htb (us_g0 mw_355) rfl rfl rfl (hE.2.2.1 (.methodLinkNest RX1 158 yX0_isThereAt "UnitStates") (by decide +kernel)) (htb _ mw_33) (by decide +kernel) ⟨Nat.le_of_ble_eq_true rfl, Nat.le_of_ble_eq_true rfl⟩, htb _ mw_354, htb _ mw_17⟩ ⟨us_Pu_blind, va_recv hK hP (ci := 0) (q0 := 8 + i) rfl (us_W_get hi3), fun U hU hW => ⟨rfl, us_Pu_at (us_W_sub hP hi3) hK hU hW⟩⟩ rfl rfl hl.1 rfl (lv_room (Nat.le_of_ble_eq_true rfl)) dX1_rankOf_37 ⟨Nat.le_of_ble_eq_true rfl, Nat.le_of_ble_eq_true rfl⟩) hS (fun q h1 h2 => absurd h2 (Nat.not_le.mpr h1)) (fun q h => hA q (Nat.le_trans hS.1 h)) (fun r_4 _ t_5 H_3 locs ht hvm hw hB hz1 hk1 hS => ?_)
        subst hw
        have hP := us_mono hP (fun q h => hk1 q h (Nat.not_le.mpr h))
        refine lv_if_eq (tgt := 63) hx hb dX1_rankOf_40 (by decide) (fun c_6 => ?_) (fun c_6 => ?_)
        · refine lv_iinc (v := (nI (i + 1))) (lv' := [(4, .int (nI (i + 1))), (3, .int (sp_rk U (sp_inc (U p1)) (U p1 12) i)), (2, .int (sp_inc (U p1))), (0, .ref (ad 0)), (1, .ref (pa p1))]) hx hb dX1_rankOf_63 hl (k := 0) rfl (nI_1 i) (by decide) rfl (fun ls hl => ?_)
          refine lv_goto (tgt := 20) hx hb dX1_rankOf_66 (by decide) ?_
          have e9 : sp_rk U (sp_inc (U p1)) (U p1 12) (i + 1) = sp_rk U (sp_inc (U p1)) (U p1 12) i := by rw [sp_rk, if_pos c_6]
          exact ih (i + 1) _ _ _ (by omega) hP hS (by rw [e9]; exact lv_sub hl [0, 1, 2, 3, 4] rfl) ht0
        · refine lv_aload_n hx hb dX1_rankOf_43 rfl (lv_at hl 3 rfl) ?_
          refine va_get (D := (dC, dI)) (ci := 1) (v := .ref (ad 1)) (C := RX1) (T := TX1) (N := 10) hx hb htb us_inX1 hown hK hP 0 rfl rfl 0 (by decide) (htb _ mw_109) (fun _ h9 => h9) rfl dX1_rankOf_44 ?_
          refine lv_iload hx hb dX1_rankOf_47 (lv_at hl 0 rfl) ?_
          refine us_aald hx hb hK hP 1 0 rfl rfl hi3 (by decide) rfl dX1_rankOf_49 ?_
          refine us_getUN (v := U i 12) hx hb htb us_inX0 hown hK hP (8 + i) (us_W_get hi3) 12 (by decide) (va_Nw.use rfl (hE.2.2.1 (.fieldLinkNest RX1 171 "UnitStates$Unit" "arrival" "I" "UnitStates") (by decide +kernel))) rfl dX1_rankOf_50 ?_
          refine lv_aload_n hx hb dX1_rankOf_53 rfl (lv_at hl 4 rfl) ?_
          refine us_getUN (v := U p1 12) hx hb htb us_inX0 hown hK hP (8 + p1) (us_W_get hp1) 12 (by decide) (va_Nw.use rfl (hE.2.2.1 (.fieldLinkNest RX1 171 "UnitStates$Unit" "arrival" "I" "UnitStates") (by decide +kernel))) rfl dX1_rankOf_54 ?_
          refine lv_icmp_ge (tgt := 63) hx hb dX1_rankOf_57 (by decide) (fun c_7 => ?_) (fun c_7 => ?_)
          · refine lv_iinc (v := (nI (i + 1))) (lv' := [(4, .int (nI (i + 1))), (3, .int (sp_rk U (sp_inc (U p1)) (U p1 12) i)), (2, .int (sp_inc (U p1))), (0, .ref (ad 0)), (1, .ref (pa p1))]) hx hb dX1_rankOf_63 hl (k := 0) rfl (nI_1 i) (by decide) rfl (fun ls hl => ?_)
            refine lv_goto (tgt := 20) hx hb dX1_rankOf_66 (by decide) ?_
            have e9 : sp_rk U (sp_inc (U p1)) (U p1 12) (i + 1) = sp_rk U (sp_inc (U p1)) (U p1 12) i := by rw [sp_rk, if_neg c_6, if_pos c_7]
            exact ih (i + 1) _ _ _ (by omega) hP hS (by rw [e9]; exact lv_sub hl [0, 1, 2, 3, 4] rfl) ht0
          · refine lv_iinc (v := (sp_rk U (sp_inc (U p1)) (U p1 12) (i + 1))) (lv' := [(3, .int (sp_rk U (sp_inc (U p1)) (U p1 12) (i + 1))), (4, .int (nI i)), (2, .int (sp_inc (U p1))), (0, .ref (ad 0)), (1, .ref (pa p1))]) hx hb dX1_rankOf_60 hl (k := 1) rfl (by rw [sp_rk, if_neg c_6, if_neg c_7]; rfl) (by decide) rfl (fun ls hl => ?_)
            refine lv_iinc (v := (nI (i + 1))) (lv' := [(4, .int (nI (i + 1))), (3, .int (sp_rk U (sp_inc (U p1)) (U p1 12) (i + 1))), (2, .int (sp_inc (U p1))), (0, .ref (ad 0)), (1, .ref (pa p1))]) hx hb dX1_rankOf_63 hl (k := 1) rfl (nI_1 i) (by decide) rfl (fun ls hl => ?_)
            refine lv_goto (tgt := 20) hx hb dX1_rankOf_66 (by decide) ?_
            exact ih (i + 1) _ _ _ (by omega) hP hS (lv_sub hl [0, 1, 2, 3, 4] rfl) ht0
  refine lv_aload_n hx hb dX1_rankOf_0 rfl (lv_at hl 1 rfl) ?_
  refine va_calli (va_runVN (C := RX0) (As := []) (rest := []) ⟨hx, hb, hml, hown, htb⟩ (kt_X0_incidentNow l dC dI (pa p1) s.heap.size (U p1)) ⟨va_cnB 0 htb (us_g0 mw_342) rfl rfl rfl (hE.2.2.1 (.methodLinkNest RX1 110 yX0_incidentNow "UnitStates") (by decide +kernel)) (htb _ mw_33) (by decide +kernel) ⟨Nat.le_of_ble_eq_true rfl, Nat.le_of_ble_eq_true rfl⟩, htb _ mw_341, htb _ mw_14⟩ ⟨us_Pu_blind, va_recv hK hP (ci := 0) (q0 := 8 + p1) rfl (us_W_get hp1), fun U hU hW => ⟨rfl, us_Pu_at (us_W_sub hP hp1) hK hU hW⟩⟩ rfl rfl hl.1 rfl (lv_room (Nat.le_of_ble_eq_true rfl)) dX1_rankOf_1 ⟨Nat.le_of_ble_eq_true rfl, Nat.le_of_ble_eq_true rfl⟩) hS (fun q h1 h2 => absurd h2 (Nat.not_le.mpr h1)) (fun q h => hA q (Nat.le_trans hS.1 h)) (fun r_9 _ t_10 H_8 locs ht hvm hw hB hz1 hk1 hS => ?_)
  subst hw
  have hP := us_mono hP (fun q h => hk1 q h (Nat.not_le.mpr h))
  refine lv_istore_n (lv' := [(2, .int (sp_inc (U p1))), (0, .ref (ad 0)), (1, .ref (pa p1))]) hx hb dX1_rankOf_4 rfl hl (by decide) rfl (fun ls hl => ?_)
  refine lv_aload_n hx hb dX1_rankOf_5 rfl (lv_at hl 2 rfl) ?_
  refine lv_iload_n hx hb dX1_rankOf_6 rfl (lv_at hl 0 rfl) ?_
  refine va_calli (va_runVN (C := RX0) (As := [.int (sp_inc (U p1))]) (rest := []) ⟨hx, hb, hml, hown, htb⟩ (kt_X0_isThereAt l dC dI (pa p1) H_8.size (U p1) (sp_inc (U p1))) ⟨va_cnB 1 htb (us_g0 mw_355) rfl rfl rfl (hE.2.2.1 (.methodLinkNest RX1 158 yX0_isThereAt "UnitStates") (by decide +kernel)) (htb _ mw_33) (by decide +kernel) ⟨Nat.le_of_ble_eq_true rfl, Nat.le_of_ble_eq_true rfl⟩, htb _ mw_354, htb _ mw_17⟩ ⟨us_Pu_blind, va_recv hK hP (ci := 0) (q0 := 8 + p1) rfl (us_W_get hp1), fun U hU hW => ⟨rfl, us_Pu_at (us_W_sub hP hp1) hK hU hW⟩⟩ rfl rfl hl.1 rfl (lv_room (Nat.le_of_ble_eq_true rfl)) dX1_rankOf_7 ⟨Nat.le_of_ble_eq_true rfl, Nat.le_of_ble_eq_true rfl⟩) hS (fun q h1 h2 => absurd h2 (Nat.not_le.mpr h1)) (fun q h => hA q (Nat.le_trans hS.1 h)) (fun r_12 _ t_13 H_11 locs ht hvm hw hB hz1 hk1 hS => ?_)
  subst hw
  have hP := us_mono hP (fun q h => hk1 q h (Nat.not_le.mpr h))
  refine lv_if_ne (tgt := 15) hx hb dX1_rankOf_10 (by decide) (fun c_14 => ?_) (fun c_14 => ?_)
  · refine lv_iconst (v := 1) hx hb dX1_rankOf_15 (by decide) ?_
    refine lv_istore_n (lv' := [(3, .int 1), (2, .int (sp_inc (U p1))), (0, .ref (ad 0)), (1, .ref (pa p1))]) hx hb dX1_rankOf_16 rfl hl (by decide) rfl (fun ls hl => ?_)
    refine lv_iconst (v := 0) hx hb dX1_rankOf_17 (by decide) ?_
    refine lv_istore (lv' := [(4, .int 0), (3, .int 1), (2, .int (sp_inc (U p1))), (0, .ref (ad 0)), (1, .ref (pa p1))]) hx hb dX1_rankOf_18 hl (by decide) rfl (fun ls hl => ?_)
    exact lp20 nu 0 _ _ _ (by omega) hP hS (lv_sub hl [0, 1, 2, 3, 4] rfl) c_14
  · refine lv_iconst (v := 0) hx hb dX1_rankOf_13 (by decide) ?_
    have hsp : 0 = sp_rank nu U p1 := by first | (simp only [sp_rank, eq_true c_14, if_true, if_false]; done) | (simp [sp_rank, c_14]; done)
    exact ((W.iret (v := 0) hx hb hr (fun t ht hW => ⟨⟨0, (), rfl, ⟨trivial, hsp⟩, trivial⟩, hS.F ht⟩) hS.2.2 dX1_rankOf_14))
set_option maxHeartbeats 8000000 in
set_option maxRecDepth 100000 in
theorem kt_X1_countFindings (l : Launch) (dC : Nat → ClassId) (dI : Nat → Nat → Nat) (ad : Nat → Nat) (cU cI : ClassId) (pa : Nat → Nat) (sz : Nat) (nu nm : Nat) (nk : Int32) (F U : Nat → Nat → Int32) (p1 : Int32) (hnu : nu ≤ 30) (hnm : nm ≤ 200) (hO : ∀ p, p < nm → ∃ n, n < nm ∧ F 5 p = nI n) (hV : ∀ n, n < nm → ∃ j, j < nu ∧ F 0 n = nI j) : Met l yX1_countFindings wsX1_countFindings ({ frames := 5, cells := 0, slots := 0, locals := 114 }) (va_Pc [.ref (ad 0), .int p1] (us_Px dC dI ad cU cI pa nu nm nk F U (us_AA (us_ads ad pa) sz) sz)) (va_Qi (fun r (_ : Unit) => True ∧ r = sp_cf (sp_rf nu nm F U 99999 4) p1 nm) (fun _ t => us_Bx dC dI ad cU cI pa nu nm nk (sp_rf nu nm F U 99999) (sp_ru nu nm F U 99999) t) (us_AA (us_ads ad pa) sz)) 0 0 (us_AA (us_ads ad pa) sz) := by
  refine Met.ofW (cc := cX1_countFindings) (maxL := 4) (ret := (some .int)) (by decide) rfl ?_
  intro p e s m args below meth c s₁ B hml hv
  obtain ⟨rfl, hsz, hP, hK, hD, hE⟩ := hv
  have hx := B.exec
  have hb := B.bytes
  have hr := B.returns
  have htb := us_htb (atoms_spec (ws := wsX1_countFindings) B.pre)
  have hown : s.vm.findClass RX1 = some m.cls := findClass_of_methodNamed B.named
  have hlocks := B.notSynchronized
  subst hsz
  have hA : ∀ q : Nat, s.heap.size ≤ q → (us_AA (us_ads ad pa) s.heap.size) q := fun q h => Or.inr h
  have hS : va_S (us_AA (us_ads ad pa) s.heap.size) s.heap s.heap [] := va_S.rf
  have hP : va_P (dC, dI) vwCl (us_W ad cU cI pa nu nm nk F U) s.heap := hP
  have hD : va_D (us_AA (us_ads ad pa) s.heap.size) (us_W ad cU cI pa nu nm nk F U) := us_D_aa hD
  have hl := lv_entry ([.ref (ad 0), .int p1]) (n := 4) (Nat.le_of_ble_eq_true rfl)
  rw [lg_entry_eq]
  generalize (lg_sl ([.ref (ad 0), .int p1]) ++ List.replicate (4 - (lg_sl ([.ref (ad 0), .int p1])).length) Slot.unset).toArray = ls at hl ⊢
  have hl : lv_has ls 4 [(0, .ref (ad 0)), (1, .int p1)] := hl
  have lp10 : ∀ (n i : Nat) (H : Heap) (locs : List Loc) (ls : Array Slot), i + n = nm → va_P (dC, dI) vwCl (us_W ad cU cI pa nu nm nk (sp_rf nu nm F U 99999) (sp_ru nu nm F U 99999)) H → va_S (us_AA (us_ads ad pa) s.heap.size) s.heap H locs → lv_has ls 4 [(3, .int (nI i)), (2, .int (sp_cf ((sp_rf nu nm F U 99999) 4) p1 i)), (0, .ref (ad 0)), (1, .int p1)] → W p l e (headSpec wsX1_countFindings ({ frames := 5, cells := 0, slots := 0, locals := 114 })).room s m ([.ref (ad 0), .int p1]).toArray below meth c H locs 0 0 (MQ below (va_Qi (fun r (_ : Unit) => True ∧ r = sp_cf (sp_rf nu nm F U 99999 4) p1 nm) (fun _ t => us_Bx dC dI ad cU cI pa nu nm nk (sp_rf nu nm F U 99999) (sp_ru nu nm F U 99999) t) (us_AA (us_ads ad pa) s.heap.size)) ([.ref (ad 0), .int p1]).toArray s 0 0 (us_AA (us_ads ad pa) s.heap.size)) (F0 m 10 ls []) := by
    intro n
    induction n with
    | zero =>
      intro i H locs ls hin hP hS hl
      have hie : i = nm := by omega
      refine lv_iload_n hx hb dX1_countFindings_10 rfl (lv_at hl 0 rfl) ?_
      refine lv_aload_n hx hb dX1_countFindings_11 rfl (lv_at hl 2 rfl) ?_
      refine va_get (D := (dC, dI)) (ci := 1) (v := .int (nI nm)) (C := RX1) (T := TX1) (N := 10) hx hb htb us_inX1 hown hK hP 0 rfl rfl 8 (by decide) (htb _ mw_117) (fun _ h9 => h9) rfl dX1_countFindings_12 ?_
      refine lv_icmp_ge (tgt := 37) hx hb dX1_countFindings_15 (by decide) (fun c_1 => ?_) (fun c_1 => ?_)
      · refine lv_iload_n hx hb dX1_countFindings_37 rfl (lv_at hl 1 rfl) ?_
        have hsp : (sp_cf ((sp_rf nu nm F U 99999) 4) p1 i) = sp_cf (sp_rf nu nm F U 99999 4) p1 nm := by rw [hie]
        exact ((W.iret (v := (sp_cf ((sp_rf nu nm F U 99999) 4) p1 i)) hx hb hr (fun t ht hW => ⟨⟨(sp_cf ((sp_rf nu nm F U 99999) 4) p1 i), (), rfl, ⟨trivial, hsp⟩, us_Bx_of ht hP rfl rfl rfl⟩, hS.F ht⟩) hS.2.2 dX1_countFindings_38))
      · exact absurd (nI_le (by omega) (by omega)) c_1
    | succ n ih =>
      intro i H locs ls hin hP hS hl
      have hil : i < nm := by omega
      have hi2 : i < 200 := by omega
      refine lv_iload_n hx hb dX1_countFindings_10 rfl (lv_at hl 0 rfl) ?_
      refine lv_aload_n hx hb dX1_countFindings_11 rfl (lv_at hl 2 rfl) ?_
      refine va_get (D := (dC, dI)) (ci := 1) (v := .int (nI nm)) (C := RX1) (T := TX1) (N := 10) hx hb htb us_inX1 hown hK hP 0 rfl rfl 8 (by decide) (htb _ mw_117) (fun _ h9 => h9) rfl dX1_countFindings_12 ?_
      refine lv_icmp_ge (tgt := 37) hx hb dX1_countFindings_15 (by decide) (fun c_2 => ?_) (fun c_2 => ?_)
      · exact absurd c_2 (nI_ge (by omega) (by omega))
      · refine lv_aload_n hx hb dX1_countFindings_18 rfl (lv_at hl 2 rfl) ?_
        refine va_get (D := (dC, dI)) (ci := 1) (v := .ref (ad 6)) (C := RX1) (T := TX1) (N := 10) hx hb htb us_inX1 hown hK hP 0 rfl rfl 6 (by decide) (htb _ mw_115) (fun _ h9 => h9) rfl dX1_countFindings_19 ?_
        refine lv_iload_n hx hb dX1_countFindings_22 rfl (lv_at hl 0 rfl) ?_
        refine us_iald (f := ((sp_rf nu nm F U 99999) 4)) hx hb hK hP 6 1 rfl rfl hi2 (by decide) dX1_countFindings_23 ?_
        refine lv_iload_n hx hb dX1_countFindings_24 rfl (lv_at hl 3 rfl) ?_
        refine lv_icmp_ne (tgt := 31) hx hb dX1_countFindings_25 (by decide) (fun c_3 => ?_) (fun c_3 => ?_)
        · refine lv_iinc (v := (nI (i + 1))) (lv' := [(3, .int (nI (i + 1))), (2, .int (sp_cf ((sp_rf nu nm F U 99999) 4) p1 i)), (0, .ref (ad 0)), (1, .int p1)]) hx hb dX1_countFindings_31 hl (k := 0) rfl (nI_1 i) (by decide) rfl (fun ls hl => ?_)
          refine lv_goto (tgt := 10) hx hb dX1_countFindings_34 (by decide) ?_
          have e9 : sp_cf ((sp_rf nu nm F U 99999) 4) p1 (i + 1) = sp_cf ((sp_rf nu nm F U 99999) 4) p1 i := by rw [sp_cf, if_neg c_3]
          exact ih (i + 1) _ _ _ (by omega) hP hS (by rw [e9]; exact lv_sub hl [0, 1, 2, 3] rfl)
        · refine lv_iinc (v := (sp_cf ((sp_rf nu nm F U 99999) 4) p1 (i + 1))) (lv' := [(2, .int (sp_cf ((sp_rf nu nm F U 99999) 4) p1 (i + 1))), (3, .int (nI i)), (0, .ref (ad 0)), (1, .int p1)]) hx hb dX1_countFindings_28 hl (k := 1) rfl (by rw [sp_cf, if_pos c_3]; rfl) (by decide) rfl (fun ls hl => ?_)
          refine lv_iinc (v := (nI (i + 1))) (lv' := [(3, .int (nI (i + 1))), (2, .int (sp_cf ((sp_rf nu nm F U 99999) 4) p1 (i + 1))), (0, .ref (ad 0)), (1, .int p1)]) hx hb dX1_countFindings_31 hl (k := 1) rfl (nI_1 i) (by decide) rfl (fun ls hl => ?_)
          refine lv_goto (tgt := 10) hx hb dX1_countFindings_34 (by decide) ?_
          exact ih (i + 1) _ _ _ (by omega) hP hS (lv_sub hl [0, 1, 2, 3] rfl)
  refine lv_aload_n hx hb dX1_countFindings_0 rfl (lv_at hl 0 rfl) ?_
  refine lv_ldc (v := 99999) hx hb hown (htb _ mw_273) dX1_countFindings_1 ?_
  refine va_callv (va_runV (As := [.int 99999]) (rest := []) ⟨hx, hb, hml, hown, htb⟩ (kt_X1_replay l dC dI ad cU cI pa s.heap.size nu nm nk F U 99999 hnu hnm hO hV) (cwV 1 htb (us_gV mw_297 mw_299 mw_5 mw_32 mw_300) rfl rfl rfl (by decide +kernel) ⟨Nat.le_of_ble_eq_true rfl, Nat.le_of_ble_eq_true rfl⟩) ⟨us_Px_blind, va_recv hK hP (ci := 1) (q0 := 0) rfl rfl, fun U hU hW => ⟨rfl, us_Px_at hP hK hD hE hS (us_AA_le hS) hU hW⟩⟩ rfl rfl hl.1 rfl (lv_room (Nat.le_of_ble_eq_true rfl)) dX1_countFindings_3 ⟨Nat.le_of_ble_eq_true rfl, Nat.le_of_ble_eq_true rfl⟩) hS (fun q _ h => us_AA_le hS q h) (us_AA_le hS) (fun _ t_6 H_4 locs ht hvm hw hB hz1 hk1 hS => ?_)
  have hP := us_Bx_use ht hB
  have hD : va_D (us_AA (us_ads ad pa) s.heap.size) (us_W ad cU cI pa nu nm nk (sp_rf nu nm F U 99999) (sp_ru nu nm F U 99999)) := us_D_of (by rw [us_W_adr, us_W_adr]) hD
  have hP : va_P (dC, dI) vwCl (us_W ad cU cI pa nu nm nk (sp_rf nu nm F U 99999) (sp_ru nu nm F U 99999)) H_4 := hP
  refine lv_iconst (v := 0) hx hb dX1_countFindings_6 (by decide) ?_
  refine lv_istore_n (lv' := [(2, .int 0), (0, .ref (ad 0)), (1, .int p1)]) hx hb dX1_countFindings_7 rfl hl (by decide) rfl (fun ls hl => ?_)
  refine lv_iconst (v := 0) hx hb dX1_countFindings_8 (by decide) ?_
  refine lv_istore_n (lv' := [(3, .int 0), (2, .int 0), (0, .ref (ad 0)), (1, .int p1)]) hx hb dX1_countFindings_9 rfl hl (by decide) rfl (fun ls hl => ?_)
  exact lp10 nm 0 _ _ _ (by omega) hP hS (lv_sub hl [0, 1, 2, 3] rfl)
set_option maxHeartbeats 8000000 in
set_option maxRecDepth 100000 in
theorem kt_X1_replayedUnit (l : Launch) (hl9 : l.stackTraces = false) (dC : Nat → ClassId) (dI : Nat → Nat → Nat) (ad : Nat → Nat) (cU cI : ClassId) (pa : Nat → Nat) (sz : Nat) (nu nm : Nat) (nk : Int32) (F U : Nat → Nat → Int32) (p1 : Int32) (p2 : Int32) (hnu : nu ≤ 30) (hnm : nm ≤ 200) (hO : ∀ p, p < nm → ∃ n, n < nm ∧ F 5 p = nI n) (hV : ∀ n, n < nm → ∃ j, j < nu ∧ F 0 n = nI j) : vx_Met l yX1_replayedUnit wsX1_replayedUnit ({ frames := 7, cells := 2, slots := 12, locals := 114 }) (va_Pc [.ref (ad 0), .int p1, .int p2] (us_Px dC dI ad cU cI pa nu nm nk F U (us_AA (us_ads ad pa) sz) sz)) (va_Qr (fun _ : Unit => sp_ruK p1 p2 nu = 0) (fun _ a t => a = pa p1.toNatClampNeg ∧ us_Bx dC dI ad cU cI pa nu nm nk (sp_rf nu nm F U p2) (sp_ru nu nm F U p2) t) (us_AA (us_ads ad pa) sz)) (vx_X (fun _ : Unit => ¬ sp_ruK p1 p2 nu = 0) (fun E _ t => E = us_en (sp_ruK p1 p2 nu) ∧ us_Bx dC dI ad cU cI pa nu nm nk F U t) (us_AA (us_ads ad pa) sz)) 2 12 (us_AA (us_ads ad pa) sz) := by
  refine vx_ofW (cc := cX1_replayedUnit) (maxL := 3) (ret := (some (.object RX0))) (by decide) rfl ?_
  intro p e s m args below meth c s₁ B hml hte hv
  obtain ⟨rfl, hsz, hP, hK, hD, hE⟩ := hv
  have hx := B.exec
  have hb := B.bytes
  have hr := B.returns
  have htb := us_htb (atoms_spec (ws := wsX1_replayedUnit) B.pre)
  have hown : s.vm.findClass RX1 = some m.cls := findClass_of_methodNamed B.named
  have hlocks := B.notSynchronized
  subst hsz
  have hA : ∀ q : Nat, s.heap.size ≤ q → (us_AA (us_ads ad pa) s.heap.size) q := fun q h => Or.inr h
  have hS : va_S (us_AA (us_ads ad pa) s.heap.size) s.heap s.heap [] := va_S.rf
  have hP : va_P (dC, dI) vwCl (us_W ad cU cI pa nu nm nk F U) s.heap := hP
  have hD : va_D (us_AA (us_ads ad pa) s.heap.size) (us_W ad cU cI pa nu nm nk F U) := us_D_aa hD
  have hl := lv_entry ([.ref (ad 0), .int p1, .int p2]) (n := 3) (Nat.le_of_ble_eq_true rfl)
  rw [lg_entry_eq]
  generalize (lg_sl ([.ref (ad 0), .int p1, .int p2]) ++ List.replicate (3 - (lg_sl ([.ref (ad 0), .int p1, .int p2])).length) Slot.unset).toArray = ls at hl ⊢
  have hl : lv_has ls 3 [(0, .ref (ad 0)), (1, .int p1), (2, .int p2)] := hl
  refine lv_aload_n hx hb dX1_replayedUnit_0 rfl (lv_at hl 0 rfl) ?_
  refine lv_iload_n hx hb dX1_replayedUnit_1 rfl (lv_at hl 1 rfl) ?_
  refine vx_callv (vx_runV (As := [.int p1]) (rest := []) ⟨hx, hb, hml, hown, htb⟩ (kt_X1_refuseUnknownUnit l hl9 dC dI ad cU cI pa s.heap.size nu nm nk F U p1) (cwV 1 htb (us_gV mw_292 mw_294 mw_4 mw_32 mw_295) rfl rfl rfl (by decide +kernel) ⟨Nat.le_of_ble_eq_true rfl, Nat.le_of_ble_eq_true rfl⟩) ⟨us_Px_blind, va_recv hK hP (ci := 1) (q0 := 0) rfl rfl, fun U hU hW => ⟨rfl, us_Px_at hP hK hD hE hS (fun q h => hA q (Nat.le_trans hS.1 h)) hU hW⟩⟩ rfl rfl hl.1 rfl (lv_room (Nat.le_of_ble_eq_true rfl)) dX1_replayedUnit_2 ⟨Nat.le_of_ble_eq_true rfl, Nat.le_of_ble_eq_true rfl⟩) hS (fun q h1 h2 => absurd h2 (Nat.not_le.mpr h1)) (fun q h => hA q (Nat.le_trans hS.1 h)) (fun q h1 h2 => absurd h2 (Nat.not_le.mpr h1)) (fun E_t_3 ce_t_3 q_t_3 _ t_3 H_1 locs ht hvm hw hB hz1 hk1 hS hce hcv hcl => ?_) (fun _ t_3 H_1 locs ht hvm hw hB hz1 hk1 hS => ?_)
  · have hkk := hw
    have hx9 : sp_isU p1 nu = 0 := by refine Decidable.byContradiction (fun h9 => hkk ?_); simp only [sp_refK, eq_false h9, if_false]
    have hE9 := hB
    have hP := us_mono hP (fun q h => hk1 q h (Nat.not_le.mpr h))
    have hk9 : sp_ruK p1 p2 nu = sp_refK p1 nu := by first | (simp only [sp_ruK, sp_refK, sp_minK, eq_true hx9, if_true, if_false]; done) | (simp [sp_ruK, sp_refK, sp_minK, hx9]; done)
    exact vx_out (E := E_t_3) (fun x hx => (hte x hx).elim) hlocks hce hcv hcl (fun t9 ht9 ha => ⟨(), (by rw [hk9]; exact hkk), ⟨(by rw [hk9]; exact hE9), us_Bx_of ht9 hP rfl rfl rfl⟩, hS.F ht9⟩) hS.2.2 (Nat.le_of_ble_eq_true rfl) (Nat.le_of_ble_eq_true rfl)
  have hk0 := hw
  have hk_4 : sp_refK p1 nu = 0 := hk0
  have hf_5 : ¬ sp_isU p1 nu = 0 := by intro h9; simp [sp_refK, h9] at hk_4
  have hP := us_mono hP (fun q h => hk1 q h (Nat.not_le.mpr h))
  obtain ⟨j, hj, ej⟩ := us_isU_spec hnu hf_5
  have hj3 : j < 30 := by omega
  refine lv_iload_n hx hb dX1_replayedUnit_5 rfl (lv_at hl 2 rfl) ?_
  refine vx_callv (vx_runS (As := [.int p2]) (rest := []) ⟨hx, hb, hml, hown, htb⟩ (kt_X1_refuseOutsideMinutes l hl9 H_1.size p2) (cwS 1 htb (us_gS mw_270 mw_271 mw_32 mw_272) rfl rfl rfl (by decide +kernel) ⟨Nat.le_of_ble_eq_true rfl, Nat.le_of_ble_eq_true rfl⟩) ⟨us_P0_blind, fun U hU hW => ⟨rfl, us_P0_at hE hS (fun q h => hA q (Nat.le_trans hS.1 h)) hU hW⟩⟩ rfl rfl hl.1 rfl (lv_room (Nat.le_of_ble_eq_true rfl)) dX1_replayedUnit_6 ⟨Nat.le_of_ble_eq_true rfl, Nat.le_of_ble_eq_true rfl⟩) hS (fun q h1 h2 => absurd h2 (Nat.not_le.mpr h1)) (fun q h => hA q (Nat.le_trans hS.1 h)) (fun q h1 h2 => absurd h2 (Nat.not_le.mpr h1)) (fun E_t_8 ce_t_8 q_t_8 _ t_8 H_6 locs ht hvm hw hB hz1 hk1 hS hce hcv hcl => ?_) (fun _ t_8 H_6 locs ht hvm hw hB hz1 hk1 hS => ?_)
  · have hkk := hw
    have hx9 : sp_in p2 99999 = 0 := by refine Decidable.byContradiction (fun h9 => hkk ?_); simp only [sp_minK, eq_false h9, if_false]
    have hE9 := hB
    have hP := us_mono hP (fun q h => hk1 q h (Nat.not_le.mpr h))
    have hk9 : sp_ruK p1 p2 nu = sp_minK p2 := by first | (simp only [sp_ruK, sp_refK, sp_minK, eq_true hk_4, eq_false hf_5, eq_true hx9, if_true, if_false]; done) | (simp [sp_ruK, sp_refK, sp_minK, hk_4, hf_5, hx9]; done)
    exact vx_out (E := E_t_8) (fun x hx => (hte x hx).elim) hlocks hce hcv hcl (fun t9 ht9 ha => ⟨(), (by rw [hk9]; exact hkk), ⟨(by rw [hk9]; exact hE9), us_Bx_of ht9 hP rfl rfl rfl⟩, hS.F ht9⟩) hS.2.2 (Nat.le_of_ble_eq_true rfl) (Nat.le_of_ble_eq_true rfl)
  have hk0 := hw
  have hk_9 : sp_minK p2 = 0 := hk0
  have hf_10 : ¬ sp_in p2 99999 = 0 := by intro h9; simp [sp_minK, h9] at hk_9
  have hP := us_mono hP (fun q h => hk1 q h (Nat.not_le.mpr h))
  refine lv_aload_n hx hb dX1_replayedUnit_9 rfl (lv_at hl 0 rfl) ?_
  refine lv_iload_n hx hb dX1_replayedUnit_10 rfl (lv_at hl 2 rfl) ?_
  refine va_callv (va_runV (As := [.int p2]) (rest := []) ⟨hx, hb, hml, hown, htb⟩ (kt_X1_replay l dC dI ad cU cI pa H_6.size nu nm nk F U p2 hnu hnm hO hV) (cwV 1 htb (us_gV mw_297 mw_299 mw_5 mw_32 mw_300) rfl rfl rfl (by decide +kernel) ⟨Nat.le_of_ble_eq_true rfl, Nat.le_of_ble_eq_true rfl⟩) ⟨us_Px_blind, va_recv hK hP (ci := 1) (q0 := 0) rfl rfl, fun U hU hW => ⟨rfl, us_Px_at hP hK hD hE hS (us_AA_le hS) hU hW⟩⟩ rfl rfl hl.1 rfl (lv_room (Nat.le_of_ble_eq_true rfl)) dX1_replayedUnit_11 ⟨Nat.le_of_ble_eq_true rfl, Nat.le_of_ble_eq_true rfl⟩) hS (fun q _ h => us_AA_le hS q h) (us_AA_le hS) (fun _ t_13 H_11 locs ht hvm hw hB hz1 hk1 hS => ?_)
  have hP := us_Bx_use ht hB
  have hD : va_D (us_AA (us_ads ad pa) s.heap.size) (us_W ad cU cI pa nu nm nk (sp_rf nu nm F U p2) (sp_ru nu nm F U p2)) := us_D_of (by rw [us_W_adr, us_W_adr]) hD
  have hP : va_P (dC, dI) vwCl (us_W ad cU cI pa nu nm nk (sp_rf nu nm F U p2) (sp_ru nu nm F U p2)) H_11 := hP
  refine lv_aload_n hx hb dX1_replayedUnit_14 rfl (lv_at hl 0 rfl) ?_
  refine va_get (D := (dC, dI)) (ci := 1) (v := .ref (ad 1)) (C := RX1) (T := TX1) (N := 10) hx hb htb us_inX1 hown hK hP 0 rfl rfl 0 (by decide) (htb _ mw_109) (fun _ h9 => h9) rfl dX1_replayedUnit_15 ?_
  refine lv_iload_n hx hb dX1_replayedUnit_18 rfl (lv_at hl 1 rfl) ?_
  refine lv_topi (fun i9 ei9 => ?_)
  have ei9 := ei9.trans ej
  subst ei9
  refine us_aald hx hb hK hP 1 0 rfl rfl hj3 (by decide) rfl dX1_replayedUnit_19 ?_
  have hk9 : sp_ruK p1 p2 nu = 0 := by first | (simp only [sp_ruK, sp_refK, sp_minK, eq_true hk_4, eq_false hf_5, eq_true hk_9, eq_false hf_10, if_true, if_false]; done) | (simp [sp_ruK, sp_refK, sp_minK, hk_4, hf_5, hk_9, hf_10]; done)
  exact vx_ret ((W.aret (v := .ref (pa j)) hx hb hr (Or.inl ⟨_, rfl⟩) (Or.inr ⟨_, rfl⟩) (fun t ht hW => ⟨⟨(), _, rfl, hk9, (by rw [ej, nI_clamp (by omega)]), us_Bx_of ht hP rfl rfl rfl⟩, hS.F ht⟩) hS.2.2 dX1_replayedUnit_20))
