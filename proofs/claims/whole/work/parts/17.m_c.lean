set_option maxHeartbeats 8000000 in
set_option maxRecDepth 100000 in
theorem kt_X2_ahead (l : Launch) (dC : Nat → ClassId) (dI : Nat → Nat → Nat) (md : Nat → Nat) (cI : ClassId) (sz : Nat) (th : Int32) (nu nm : Nat) (sk : Int32) (G : Nat → Nat → Int32) (v : Nat → Int32) (p1 p2 p3 : Int32) (L : List Nat) (hnu : nu ≤ 30) (hnm : nm ≤ 200) (hL : um_ok G nm L) (hAr : ∀ (t : Int32) (j : Nat), j < nu → ¬ um_in (um_st G L t j 0) 3 5 = 0 → ∃ a, a < nm ∧ um_st G L t j 11 = nI a) (hp2 : ∃ a, a < nm ∧ p2 = nI a) : Met l yX2_ahead wsX2_ahead ({ frames := 4, cells := 0, slots := 0, locals := 91 }) (va_Pc [.ref (md 0), .int p1, .int p2, .int p3] (um_P dC dI md cI th nu nm sk G v sz)) (va_Qi (fun r (_ : Nat → Int32) => r = um_ahd G L p3 p1 p2 nu) (fun v9 t => um_B dC dI md cI th nu nm sk G v9 t) (us_AA (um_ads md) sz)) 0 0 (us_AA (um_ads md) sz) := by
  refine Met.ofW (cc := cX2_ahead) (maxL := 8) (ret := (some .int)) (by decide) rfl ?_
  intro p e s m args below meth c s₁ B hml hv
  obtain ⟨rfl, hsz, hP, hK, hD⟩ := hv
  have hx := B.exec
  have hb := B.bytes
  have hr := B.returns
  have htb := us_htb (atoms_spec (ws := wsX2_ahead) B.pre)
  have hown : s.vm.findClass RX2 = some m.cls := findClass_of_methodNamed B.named
  have hlocks := B.notSynchronized
  subst hsz
  have hA : ∀ q : Nat, s.heap.size ≤ q → (us_AA (um_ads md) s.heap.size) q := fun q h => Or.inr h
  have hS : va_S (us_AA (um_ads md) s.heap.size) s.heap s.heap [] := va_S.rf
  have hP : va_P (dC, dI) vwCl (um_W md cI th nu nm sk G v) s.heap := hP
  have hD : va_D (us_AA (um_ads md) s.heap.size) (um_W md cI th nu nm sk G v) := us_D_aa hD
  have hl := lv_entry ([.ref (md 0), .int p1, .int p2, .int p3]) (n := 8) (Nat.le_of_ble_eq_true rfl)
  rw [lg_entry_eq]
  generalize (lg_sl ([.ref (md 0), .int p1, .int p2, .int p3]) ++ List.replicate (8 - (lg_sl ([.ref (md 0), .int p1, .int p2, .int p3])).length) Slot.unset).toArray = ls at hl ⊢
  have hl : lv_has ls 8 [(0, .ref (md 0)), (1, .int p1), (2, .int p2), (3, .int p3)] := hl
  obtain ⟨b0, hb0, eb⟩ := hp2
  have hb2 : b0 < 200 := by omega
  have ebc : p2.toNatClampNeg = b0 := by rw [eb]; exact nI_clamp (by omega)
  have lp6 : ∀ (n i : Nat) (w0 : Nat → Int32) (H : Heap) (locs : List Loc) (ls : Array Slot), i + n = nu → va_P (dC, dI) vwCl (um_W md cI th nu nm sk G w0) H → va_D (us_AA (um_ads md) s.heap.size) (um_W md cI th nu nm sk G w0) → va_S (us_AA (um_ads md) s.heap.size) s.heap H locs → lv_has ls 8 [(5, .int (nI i)), (4, .int (um_ahd G L p3 p1 p2 i)), (0, .ref (md 0)), (1, .int p1), (2, .int p2), (3, .int p3)] → W p l e (headSpec wsX2_ahead ({ frames := 4, cells := 0, slots := 0, locals := 91 })).room s m ([.ref (md 0), .int p1, .int p2, .int p3]).toArray below meth c H locs 0 0 (MQ below (va_Qi (fun r (_ : Nat → Int32) => r = um_ahd G L p3 p1 p2 nu) (fun v9 t => um_B dC dI md cI th nu nm sk G v9 t) (us_AA (um_ads md) s.heap.size)) ([.ref (md 0), .int p1, .int p2, .int p3]).toArray s 0 0 (us_AA (um_ads md) s.heap.size)) (F0 m 6 ls []) := by
    intro n
    induction n with
    | zero =>
      intro i w0 H locs ls hin hP hD hS hl
      have hie : i = nu := by omega
      refine lv_iload hx hb dX2_ahead_6 (lv_at hl 0 rfl) ?_
      refine lv_aload_n hx hb dX2_ahead_8 rfl (lv_at hl 2 rfl) ?_
      refine va_get (D := (dC, dI)) (ci := 2) (v := .int (nI nu)) (C := RX2) (T := TX2) (N := 23) hx hb htb us_inX2 hown hK hP 0 rfl rfl 1 (by decide) (htb _ mw_424) (fun _ h9 => h9) rfl dX2_ahead_9 ?_
      refine lv_icmp_ge (tgt := 127) hx hb dX2_ahead_12 (by decide) (fun c_1 => ?_) (fun c_1 => ?_)
      · refine lv_iload hx hb dX2_ahead_127 (lv_at hl 1 rfl) ?_
        have hsp : (um_ahd G L p3 p1 p2 i) = um_ahd G L p3 p1 p2 nu := by rw [hie]
        exact W.iret (v := (um_ahd G L p3 p1 p2 i)) hx hb hr (fun t ht hW => ⟨⟨(um_ahd G L p3 p1 p2 i), w0, rfl, hsp, um_B_of ht hP rfl rfl rfl rfl rfl rfl⟩, hS.F ht⟩) hS.2.2 dX2_ahead_129
      · exact absurd (nI_le (by omega) (by omega)) c_1
    | succ n ih =>
      intro i w0 H locs ls hin hP hD hS hl
      have hil : i < nu := by omega
      have hi3 : i < 30 := by omega
      refine lv_iload hx hb dX2_ahead_6 (lv_at hl 0 rfl) ?_
      refine lv_aload_n hx hb dX2_ahead_8 rfl (lv_at hl 2 rfl) ?_
      refine va_get (D := (dC, dI)) (ci := 2) (v := .int (nI nu)) (C := RX2) (T := TX2) (N := 23) hx hb htb us_inX2 hown hK hP 0 rfl rfl 1 (by decide) (htb _ mw_424) (fun _ h9 => h9) rfl dX2_ahead_9 ?_
      refine lv_icmp_ge (tgt := 127) hx hb dX2_ahead_12 (by decide) (fun c_2 => ?_) (fun c_2 => ?_)
      · exact absurd c_2 (nI_ge (by omega) (by omega))
      · refine lv_aload_n hx hb dX2_ahead_15 rfl (lv_at hl 2 rfl) ?_
        refine lv_iload hx hb dX2_ahead_16 (lv_at hl 0 rfl) ?_
        refine lv_iload_n hx hb dX2_ahead_18 rfl (lv_at hl 5 rfl) ?_
        refine lv_iconst (v := (-1)) hx hb dX2_ahead_19 (by decide) ?_
        refine va_callv (va_runV (As := [.int (nI i), .int p3, .int (-1)]) (rest := []) ⟨hx, hb, hml, hown, htb⟩ (kt_X2_follow l dC dI md cI H.size th nu nm sk G w0 i p3 L hi3 hnm hL) (cwV 3 htb (us_gV mw_532 mw_534 mw_23 mw_34 mw_535) rfl rfl rfl (by decide +kernel) ⟨Nat.le_of_ble_eq_true rfl, Nat.le_of_ble_eq_true rfl⟩) ⟨um_P_blind, va_recv hK hP (ci := 2) (q0 := 0) rfl rfl, fun U hU hW => ⟨rfl, um_P_at hP hK hD hU hW⟩⟩ rfl rfl hl.1 rfl (lv_room (Nat.le_of_ble_eq_true rfl)) dX2_ahead_20 ⟨Nat.le_of_ble_eq_true rfl, Nat.le_of_ble_eq_true rfl⟩) hS (fun q _ h => us_AA_le hS q h) (us_AA_le hS) (fun _ t_5 H_3 locs ht hvm hw hB hz1 hk1 hS => ?_)
        have hP := um_B_use ht hB
        have hD : va_D (us_AA (um_ads md) s.heap.size) (um_W md cI th nu nm sk G (um_fol G L i p3 w0)) := us_D_of (by rw [um_W_adr, um_W_adr]) hD
        have hP : va_P (dC, dI) vwCl (um_W md cI th nu nm sk G (um_fol G L i p3 w0)) H_3 := hP
        refine lv_aload_n hx hb dX2_ahead_23 rfl (lv_at hl 2 rfl) ?_
        refine um_get (x := (um_st G L p3 i 0)) hx hb htb us_inX2 hown hK hP 0 (by decide) (htb _ mw_433) (um_fol_ag (by decide)) dX2_ahead_24 ?_
        refine lv_iconst (v := 3) hx hb dX2_ahead_27 (by decide) ?_
        refine lv_iconst (v := 5) hx hb dX2_ahead_28 (by decide) ?_
        refine va_calli (va_runS (As := [.int (um_st G L p3 i 0), .int 3, .int 5]) (rest := []) ⟨hx, hb, hml, hown, htb⟩ (kt_X2_in l H_3.size (um_st G L p3 i 0) 3 5) (cwS 3 htb (us_gS mw_501 mw_502 mw_34 mw_503) rfl rfl rfl (by decide +kernel) ⟨Nat.le_of_ble_eq_true rfl, Nat.le_of_ble_eq_true rfl⟩) ⟨us_blind0, fun U hU _ => ⟨rfl, congrArg Array.size hU⟩⟩ rfl rfl hl.1 rfl (lv_room (Nat.le_of_ble_eq_true rfl)) dX2_ahead_29 ⟨Nat.le_of_ble_eq_true rfl, Nat.le_of_ble_eq_true rfl⟩) hS (fun q h1 h2 => absurd h2 (Nat.not_le.mpr h1)) (fun q h => hA q (Nat.le_trans hS.1 h)) (fun r_7 _ t_8 H_6 locs ht hvm hw hB hz1 hk1 hS => ?_)
        subst hw
        have hP := us_mono hP (fun q h => hk1 q h (Nat.not_le.mpr h))
        refine lv_if_eq (tgt := 47) hx hb dX2_ahead_32 (by decide) (fun c_9 => ?_) (fun c_9 => ?_)
        · refine lv_iconst (v := 0) hx hb dX2_ahead_47 (by decide) ?_
          refine lv_istore (lv' := [(6, .int 0), (5, .int (nI i)), (4, .int (um_ahd G L p3 p1 p2 i)), (0, .ref (md 0)), (1, .int p1), (2, .int p2), (3, .int p3)]) hx hb dX2_ahead_48 hl (by decide) rfl (fun ls hl => ?_)
          refine lv_iload hx hb dX2_ahead_50 (lv_at hl 0 rfl) ?_
          refine lv_if_eq (tgt := 103) hx hb dX2_ahead_52 (by decide) (fun c_10 => ?_) (fun c_10 => ?_)
          · refine lv_iconst (v := 0) hx hb dX2_ahead_103 (by decide) ?_
            refine lv_istore (lv' := [(7, .int 0), (6, .int 0), (5, .int (nI i)), (4, .int (um_ahd G L p3 p1 p2 i)), (0, .ref (md 0)), (1, .int p1), (2, .int p2), (3, .int p3)]) hx hb dX2_ahead_104 hl (by decide) rfl (fun ls hl => ?_)
            refine lv_iload hx hb dX2_ahead_106 (lv_at hl 3 rfl) ?_
            refine lv_iload hx hb dX2_ahead_108 (lv_at hl 0 rfl) ?_
            refine lv_if_eq (tgt := 117) hx hb dX2_ahead_110 (by decide) (fun c_11 => ?_) (fun c_11 => ?_)
            · refine lv_iconst (v := 0) hx hb dX2_ahead_117 (by decide) ?_
              refine lv_iadd hx hb dX2_ahead_118 ?_
              refine lv_istore (lv' := [(4, .int ((um_ahd G L p3 p1 p2 i) + 0)), (7, .int 0), (6, .int 0), (5, .int (nI i)), (0, .ref (md 0)), (1, .int p1), (2, .int p2), (3, .int p3)]) hx hb dX2_ahead_119 hl (by decide) rfl (fun ls hl => ?_)
              refine lv_iinc (v := (nI (i + 1))) (lv' := [(5, .int (nI (i + 1))), (4, .int ((um_ahd G L p3 p1 p2 i) + 0)), (7, .int 0), (6, .int 0), (0, .ref (md 0)), (1, .int p1), (2, .int p2), (3, .int p3)]) hx hb dX2_ahead_121 hl (k := 3) rfl (nI_1 i) (by decide) rfl (fun ls hl => ?_)
              refine lv_goto (tgt := 6) hx hb dX2_ahead_124 (by decide) ?_
              have e8 : um_early G (um_st G L p3 i) p1 p2 = 0 := by
                first | (simp only [um_early, um_there, ebc, eq_true c_9, eq_true c_10, eq_true c_11, if_true, if_false]; done) | (simp only [um_early, um_there, ebc, eq_true c_9, eq_true c_10, eq_true c_11, if_true, if_false]; decide) | (simp [um_early, um_there, ebc, c_9, c_10, c_11]; done)
              have e9 : um_ahd G L p3 p1 p2 (i + 1) = ((um_ahd G L p3 p1 p2 i) + 0) := by rw [um_ahd, e8]
              exact ih (i + 1) _ _ _ _ (by omega) hP hD hS (by rw [e9]; exact lv_sub hl [0, 1, 4, 5, 6, 7] rfl)
            · exact absurd (by decide) c_11
          · exact absurd (by decide) c_10
        · refine lv_aload_n hx hb dX2_ahead_35 rfl (lv_at hl 2 rfl) ?_
          refine um_get (x := (um_st G L p3 i 3)) hx hb htb us_inX2 hown hK hP 3 (by decide) (htb _ mw_436) (um_fol_ag (by decide)) dX2_ahead_36 ?_
          refine lv_iload_n hx hb dX2_ahead_39 rfl (lv_at hl 3 rfl) ?_
          refine lv_icmp_ne (tgt := 47) hx hb dX2_ahead_40 (by decide) (fun c_12 => ?_) (fun c_12 => ?_)
          · refine lv_iconst (v := 0) hx hb dX2_ahead_47 (by decide) ?_
            refine lv_istore (lv' := [(6, .int 0), (5, .int (nI i)), (4, .int (um_ahd G L p3 p1 p2 i)), (0, .ref (md 0)), (1, .int p1), (2, .int p2), (3, .int p3)]) hx hb dX2_ahead_48 hl (by decide) rfl (fun ls hl => ?_)
            refine lv_iload hx hb dX2_ahead_50 (lv_at hl 0 rfl) ?_
            refine lv_if_eq (tgt := 103) hx hb dX2_ahead_52 (by decide) (fun c_13 => ?_) (fun c_13 => ?_)
            · refine lv_iconst (v := 0) hx hb dX2_ahead_103 (by decide) ?_
              refine lv_istore (lv' := [(7, .int 0), (6, .int 0), (5, .int (nI i)), (4, .int (um_ahd G L p3 p1 p2 i)), (0, .ref (md 0)), (1, .int p1), (2, .int p2), (3, .int p3)]) hx hb dX2_ahead_104 hl (by decide) rfl (fun ls hl => ?_)
              refine lv_iload hx hb dX2_ahead_106 (lv_at hl 3 rfl) ?_
              refine lv_iload hx hb dX2_ahead_108 (lv_at hl 0 rfl) ?_
              refine lv_if_eq (tgt := 117) hx hb dX2_ahead_110 (by decide) (fun c_14 => ?_) (fun c_14 => ?_)
              · refine lv_iconst (v := 0) hx hb dX2_ahead_117 (by decide) ?_
                refine lv_iadd hx hb dX2_ahead_118 ?_
                refine lv_istore (lv' := [(4, .int ((um_ahd G L p3 p1 p2 i) + 0)), (7, .int 0), (6, .int 0), (5, .int (nI i)), (0, .ref (md 0)), (1, .int p1), (2, .int p2), (3, .int p3)]) hx hb dX2_ahead_119 hl (by decide) rfl (fun ls hl => ?_)
                refine lv_iinc (v := (nI (i + 1))) (lv' := [(5, .int (nI (i + 1))), (4, .int ((um_ahd G L p3 p1 p2 i) + 0)), (7, .int 0), (6, .int 0), (0, .ref (md 0)), (1, .int p1), (2, .int p2), (3, .int p3)]) hx hb dX2_ahead_121 hl (k := 3) rfl (nI_1 i) (by decide) rfl (fun ls hl => ?_)
                refine lv_goto (tgt := 6) hx hb dX2_ahead_124 (by decide) ?_
                have e8 : um_early G (um_st G L p3 i) p1 p2 = 0 := by
                  first | (simp only [um_early, um_there, ebc, eq_false c_9, eq_false c_12, eq_true c_13, eq_true c_14, if_true, if_false]; done) | (simp only [um_early, um_there, ebc, eq_false c_9, eq_false c_12, eq_true c_13, eq_true c_14, if_true, if_false]; decide) | (simp [um_early, um_there, ebc, c_9, c_12, c_13, c_14]; done)
                have e9 : um_ahd G L p3 p1 p2 (i + 1) = ((um_ahd G L p3 p1 p2 i) + 0) := by rw [um_ahd, e8]
                exact ih (i + 1) _ _ _ _ (by omega) hP hD hS (by rw [e9]; exact lv_sub hl [0, 1, 4, 5, 6, 7] rfl)
              · exact absurd (by decide) c_14
            · exact absurd (by decide) c_13
          · refine lv_iconst (v := 1) hx hb dX2_ahead_43 (by decide) ?_
            refine lv_goto (tgt := 48) hx hb dX2_ahead_44 (by decide) ?_
            refine lv_istore (lv' := [(6, .int 1), (5, .int (nI i)), (4, .int (um_ahd G L p3 p1 p2 i)), (0, .ref (md 0)), (1, .int p1), (2, .int p2), (3, .int p3)]) hx hb dX2_ahead_48 hl (by decide) rfl (fun ls hl => ?_)
            refine lv_iload hx hb dX2_ahead_50 (lv_at hl 0 rfl) ?_
            refine lv_if_eq (tgt := 103) hx hb dX2_ahead_52 (by decide) (fun c_15 => ?_) (fun c_15 => ?_)
            · exact absurd c_15 (by decide)
            · refine lv_aload_n hx hb dX2_ahead_55 rfl (lv_at hl 3 rfl) ?_
              refine va_get (D := (dC, dI)) (ci := 2) (v := .ref (md 4)) (C := RX2) (T := TX2) (N := 23) hx hb htb us_inX2 hown hK hP 0 rfl rfl 6 (by decide) (htb _ mw_429) (fun _ h9 => h9) rfl dX2_ahead_56 ?_
              refine lv_aload_n hx hb dX2_ahead_59 rfl (lv_at hl 3 rfl) ?_
              refine um_get (x := (um_st G L p3 i 11)) hx hb htb us_inX2 hown hK hP 11 (by decide) (htb _ mw_444) (um_fol_ag (by decide)) dX2_ahead_60 ?_
              obtain ⟨a0, ha0, ea⟩ := hAr p3 i hil c_9
              have ha2 : a0 < 200 := by omega
              have eac : (um_st G L p3 i 11).toNatClampNeg = a0 := by rw [ea]; exact nI_clamp (by omega)
              refine lv_topi (fun i9 ei9 => ?_)
              have ei9 := ei9.trans ea
              subst ei9
              refine us_iald (f := (G 3)) hx hb hK hP 4 0 rfl rfl ha2 (by decide) dX2_ahead_63 ?_
              refine lv_aload_n hx hb dX2_ahead_64 rfl (lv_at hl 3 rfl) ?_
              refine va_get (D := (dC, dI)) (ci := 2) (v := .ref (md 4)) (C := RX2) (T := TX2) (N := 23) hx hb htb us_inX2 hown hK hP 0 rfl rfl 6 (by decide) (htb _ mw_429) (fun _ h9 => h9) rfl dX2_ahead_65 ?_
              refine lv_iload_n hx hb dX2_ahead_68 rfl (lv_at hl 5 rfl) ?_
              refine lv_topi (fun i9 ei9 => ?_)
              have ei9 := ei9.trans eb
              subst ei9
              refine us_iald (f := (G 3)) hx hb hK hP 4 0 rfl rfl hb2 (by decide) dX2_ahead_69 ?_
              refine lv_icmp_lt (tgt := 99) hx hb dX2_ahead_70 (by decide) (fun c_16 => ?_) (fun c_16 => ?_)
              · refine lv_iconst (v := 1) hx hb dX2_ahead_99 (by decide) ?_
                refine lv_goto (tgt := 104) hx hb dX2_ahead_100 (by decide) ?_
                refine lv_istore (lv' := [(7, .int 1), (6, .int 1), (5, .int (nI i)), (4, .int (um_ahd G L p3 p1 p2 i)), (0, .ref (md 0)), (1, .int p1), (2, .int p2), (3, .int p3)]) hx hb dX2_ahead_104 hl (by decide) rfl (fun ls hl => ?_)
                refine lv_iload hx hb dX2_ahead_106 (lv_at hl 3 rfl) ?_
                refine lv_iload hx hb dX2_ahead_108 (lv_at hl 0 rfl) ?_
                refine lv_if_eq (tgt := 117) hx hb dX2_ahead_110 (by decide) (fun c_17 => ?_) (fun c_17 => ?_)
                · exact absurd c_17 (by decide)
                · refine lv_iconst (v := 1) hx hb dX2_ahead_113 (by decide) ?_
                  refine lv_goto (tgt := 118) hx hb dX2_ahead_114 (by decide) ?_
                  refine lv_iadd hx hb dX2_ahead_118 ?_
                  refine lv_istore (lv' := [(4, .int ((um_ahd G L p3 p1 p2 i) + 1)), (7, .int 1), (6, .int 1), (5, .int (nI i)), (0, .ref (md 0)), (1, .int p1), (2, .int p2), (3, .int p3)]) hx hb dX2_ahead_119 hl (by decide) rfl (fun ls hl => ?_)
                  refine lv_iinc (v := (nI (i + 1))) (lv' := [(5, .int (nI (i + 1))), (4, .int ((um_ahd G L p3 p1 p2 i) + 1)), (7, .int 1), (6, .int 1), (0, .ref (md 0)), (1, .int p1), (2, .int p2), (3, .int p3)]) hx hb dX2_ahead_121 hl (k := 3) rfl (nI_1 i) (by decide) rfl (fun ls hl => ?_)
                  refine lv_goto (tgt := 6) hx hb dX2_ahead_124 (by decide) ?_
                  have e8 : um_early G (um_st G L p3 i) p1 p2 = 1 := by
                    first | (simp only [um_early, um_there, ebc, eac, eq_false c_9, eq_true c_12, eq_false c_15, eq_true c_16, eq_false c_17, if_true, if_false]; done) | (simp only [um_early, um_there, ebc, eac, eq_false c_9, eq_true c_12, eq_false c_15, eq_true c_16, eq_false c_17, if_true, if_false]; decide) | (simp [um_early, um_there, ebc, eac, c_9, c_12, c_15, c_16, c_17]; done)
                  have e9 : um_ahd G L p3 p1 p2 (i + 1) = ((um_ahd G L p3 p1 p2 i) + 1) := by rw [um_ahd, e8]
                  exact ih (i + 1) _ _ _ _ (by omega) hP hD hS (by rw [e9]; exact lv_sub hl [0, 1, 4, 5, 6, 7] rfl)
              · refine lv_aload_n hx hb dX2_ahead_73 rfl (lv_at hl 3 rfl) ?_
                refine va_get (D := (dC, dI)) (ci := 2) (v := .ref (md 4)) (C := RX2) (T := TX2) (N := 23) hx hb htb us_inX2 hown hK hP 0 rfl rfl 6 (by decide) (htb _ mw_429) (fun _ h9 => h9) rfl dX2_ahead_74 ?_
                refine lv_aload_n hx hb dX2_ahead_77 rfl (lv_at hl 3 rfl) ?_
                refine um_get (x := (um_st G L p3 i 11)) hx hb htb us_inX2 hown hK hP 11 (by decide) (htb _ mw_444) (um_fol_ag (by decide)) dX2_ahead_78 ?_
                refine lv_topi (fun i9 ei9 => ?_)
                have ei9 := ei9.trans ea
                subst ei9
                refine us_iald (f := (G 3)) hx hb hK hP 4 0 rfl rfl ha2 (by decide) dX2_ahead_81 ?_
                refine lv_aload_n hx hb dX2_ahead_82 rfl (lv_at hl 3 rfl) ?_
                refine va_get (D := (dC, dI)) (ci := 2) (v := .ref (md 4)) (C := RX2) (T := TX2) (N := 23) hx hb htb us_inX2 hown hK hP 0 rfl rfl 6 (by decide) (htb _ mw_429) (fun _ h9 => h9) rfl dX2_ahead_83 ?_
                refine lv_iload_n hx hb dX2_ahead_86 rfl (lv_at hl 5 rfl) ?_
                refine lv_topi (fun i9 ei9 => ?_)
                have ei9 := ei9.trans eb
                subst ei9
                refine us_iald (f := (G 3)) hx hb hK hP 4 0 rfl rfl hb2 (by decide) dX2_ahead_87 ?_
                refine lv_icmp_ne (tgt := 103) hx hb dX2_ahead_88 (by decide) (fun c_18 => ?_) (fun c_18 => ?_)
                · refine lv_iconst (v := 0) hx hb dX2_ahead_103 (by decide) ?_
                  refine lv_istore (lv' := [(7, .int 0), (6, .int 1), (5, .int (nI i)), (4, .int (um_ahd G L p3 p1 p2 i)), (0, .ref (md 0)), (1, .int p1), (2, .int p2), (3, .int p3)]) hx hb dX2_ahead_104 hl (by decide) rfl (fun ls hl => ?_)
                  refine lv_iload hx hb dX2_ahead_106 (lv_at hl 3 rfl) ?_
                  refine lv_iload hx hb dX2_ahead_108 (lv_at hl 0 rfl) ?_
                  refine lv_if_eq (tgt := 117) hx hb dX2_ahead_110 (by decide) (fun c_19 => ?_) (fun c_19 => ?_)
                  · refine lv_iconst (v := 0) hx hb dX2_ahead_117 (by decide) ?_
                    refine lv_iadd hx hb dX2_ahead_118 ?_
                    refine lv_istore (lv' := [(4, .int ((um_ahd G L p3 p1 p2 i) + 0)), (7, .int 0), (6, .int 1), (5, .int (nI i)), (0, .ref (md 0)), (1, .int p1), (2, .int p2), (3, .int p3)]) hx hb dX2_ahead_119 hl (by decide) rfl (fun ls hl => ?_)
                    refine lv_iinc (v := (nI (i + 1))) (lv' := [(5, .int (nI (i + 1))), (4, .int ((um_ahd G L p3 p1 p2 i) + 0)), (7, .int 0), (6, .int 1), (0, .ref (md 0)), (1, .int p1), (2, .int p2), (3, .int p3)]) hx hb dX2_ahead_121 hl (k := 3) rfl (nI_1 i) (by decide) rfl (fun ls hl => ?_)
                    refine lv_goto (tgt := 6) hx hb dX2_ahead_124 (by decide) ?_
                    have e8 : um_early G (um_st G L p3 i) p1 p2 = 0 := by
                      first | (simp only [um_early, um_there, ebc, eac, eq_false c_9, eq_true c_12, eq_false c_15, eq_false c_16, eq_false c_18, eq_true c_19, if_true, if_false]; done) | (simp only [um_early, um_there, ebc, eac, eq_false c_9, eq_true c_12, eq_false c_15, eq_false c_16, eq_false c_18, eq_true c_19, if_true, if_false]; decide) | (simp [um_early, um_there, ebc, eac, c_9, c_12, c_15, c_16, c_18, c_19]; done)
                    have e9 : um_ahd G L p3 p1 p2 (i + 1) = ((um_ahd G L p3 p1 p2 i) + 0) := by rw [um_ahd, e8]
                    exact ih (i + 1) _ _ _ _ (by omega) hP hD hS (by rw [e9]; exact lv_sub hl [0, 1, 4, 5, 6, 7] rfl)
                  · exact absurd (by decide) c_19
                · refine lv_aload_n hx hb dX2_ahead_91 rfl (lv_at hl 3 rfl) ?_
                  refine um_get (x := (um_st G L p3 i 11)) hx hb htb us_inX2 hown hK hP 11 (by decide) (htb _ mw_444) (um_fol_ag (by decide)) dX2_ahead_92 ?_
                  refine lv_iload_n hx hb dX2_ahead_95 rfl (lv_at hl 5 rfl) ?_
                  refine lv_icmp_ge (tgt := 103) hx hb dX2_ahead_96 (by decide) (fun c_20 => ?_) (fun c_20 => ?_)
                  · refine lv_iconst (v := 0) hx hb dX2_ahead_103 (by decide) ?_
                    refine lv_istore (lv' := [(7, .int 0), (6, .int 1), (5, .int (nI i)), (4, .int (um_ahd G L p3 p1 p2 i)), (0, .ref (md 0)), (1, .int p1), (2, .int p2), (3, .int p3)]) hx hb dX2_ahead_104 hl (by decide) rfl (fun ls hl => ?_)
                    refine lv_iload hx hb dX2_ahead_106 (lv_at hl 3 rfl) ?_
                    refine lv_iload hx hb dX2_ahead_108 (lv_at hl 0 rfl) ?_
                    refine lv_if_eq (tgt := 117) hx hb dX2_ahead_110 (by decide) (fun c_21 => ?_) (fun c_21 => ?_)
                    · refine lv_iconst (v := 0) hx hb dX2_ahead_117 (by decide) ?_
                      refine lv_iadd hx hb dX2_ahead_118 ?_
                      refine lv_istore (lv' := [(4, .int ((um_ahd G L p3 p1 p2 i) + 0)), (7, .int 0), (6, .int 1), (5, .int (nI i)), (0, .ref (md 0)), (1, .int p1), (2, .int p2), (3, .int p3)]) hx hb dX2_ahead_119 hl (by decide) rfl (fun ls hl => ?_)
                      refine lv_iinc (v := (nI (i + 1))) (lv' := [(5, .int (nI (i + 1))), (4, .int ((um_ahd G L p3 p1 p2 i) + 0)), (7, .int 0), (6, .int 1), (0, .ref (md 0)), (1, .int p1), (2, .int p2), (3, .int p3)]) hx hb dX2_ahead_121 hl (k := 3) rfl (nI_1 i) (by decide) rfl (fun ls hl => ?_)
                      refine lv_goto (tgt := 6) hx hb dX2_ahead_124 (by decide) ?_
                      have e8 : um_early G (um_st G L p3 i) p1 p2 = 0 := by
                        first | (simp only [um_early, um_there, ebc, eac, eq_false c_9, eq_true c_12, eq_false c_15, eq_false c_16, eq_true c_18, eq_true c_20, eq_true c_21, if_true, if_false]; done) | (simp only [um_early, um_there, ebc, eac, eq_false c_9, eq_true c_12, eq_false c_15, eq_false c_16, eq_true c_18, eq_true c_20, eq_true c_21, if_true, if_false]; decide) | (simp [um_early, um_there, ebc, eac, c_9, c_12, c_15, c_16, c_18, c_20, c_21]; done)
                      have e9 : um_ahd G L p3 p1 p2 (i + 1) = ((um_ahd G L p3 p1 p2 i) + 0) := by rw [um_ahd, e8]
                      exact ih (i + 1) _ _ _ _ (by omega) hP hD hS (by rw [e9]; exact lv_sub hl [0, 1, 4, 5, 6, 7] rfl)
                    · exact absurd (by decide) c_21
                  · refine lv_iconst (v := 1) hx hb dX2_ahead_99 (by decide) ?_
                    refine lv_goto (tgt := 104) hx hb dX2_ahead_100 (by decide) ?_
                    refine lv_istore (lv' := [(7, .int 1), (6, .int 1), (5, .int (nI i)), (4, .int (um_ahd G L p3 p1 p2 i)), (0, .ref (md 0)), (1, .int p1), (2, .int p2), (3, .int p3)]) hx hb dX2_ahead_104 hl (by decide) rfl (fun ls hl => ?_)
                    refine lv_iload hx hb dX2_ahead_106 (lv_at hl 3 rfl) ?_
                    refine lv_iload hx hb dX2_ahead_108 (lv_at hl 0 rfl) ?_
                    refine lv_if_eq (tgt := 117) hx hb dX2_ahead_110 (by decide) (fun c_22 => ?_) (fun c_22 => ?_)
                    · exact absurd c_22 (by decide)
                    · refine lv_iconst (v := 1) hx hb dX2_ahead_113 (by decide) ?_
                      refine lv_goto (tgt := 118) hx hb dX2_ahead_114 (by decide) ?_
                      refine lv_iadd hx hb dX2_ahead_118 ?_
                      refine lv_istore (lv' := [(4, .int ((um_ahd G L p3 p1 p2 i) + 1)), (7, .int 1), (6, .int 1), (5, .int (nI i)), (0, .ref (md 0)), (1, .int p1), (2, .int p2), (3, .int p3)]) hx hb dX2_ahead_119 hl (by decide) rfl (fun ls hl => ?_)
                      refine lv_iinc (v := (nI (i + 1))) (lv' := [(5, .int (nI (i + 1))), (4, .int ((um_ahd G L p3 p1 p2 i) + 1)), (7, .int 1), (6, .int 1), (0, .ref (md 0)), (1, .int p1), (2, .int p2), (3, .int p3)]) hx hb dX2_ahead_121 hl (k := 3) rfl (nI_1 i) (by decide) rfl (fun ls hl => ?_)
                      refine lv_goto (tgt := 6) hx hb dX2_ahead_124 (by decide) ?_
                      have e8 : um_early G (um_st G L p3 i) p1 p2 = 1 := by
                        first | (simp only [um_early, um_there, ebc, eac, eq_false c_9, eq_true c_12, eq_false c_15, eq_false c_16, eq_true c_18, eq_false c_20, eq_false c_22, if_true, if_false]; done) | (simp only [um_early, um_there, ebc, eac, eq_false c_9, eq_true c_12, eq_false c_15, eq_false c_16, eq_true c_18, eq_false c_20, eq_false c_22, if_true, if_false]; decide) | (simp [um_early, um_there, ebc, eac, c_9, c_12, c_15, c_16, c_18, c_20, c_22]; done)
                      have e9 : um_ahd G L p3 p1 p2 (i + 1) = ((um_ahd G L p3 p1 p2 i) + 1) := by rw [um_ahd, e8]
                      exact ih (i + 1) _ _ _ _ (by omega) hP hD hS (by rw [e9]; exact lv_sub hl [0, 1, 4, 5, 6, 7] rfl)
  refine lv_iconst (v := 0) hx hb dX2_ahead_0 (by decide) ?_
  refine lv_istore (lv' := [(4, .int 0), (0, .ref (md 0)), (1, .int p1), (2, .int p2), (3, .int p3)]) hx hb dX2_ahead_1 hl (by decide) rfl (fun ls hl => ?_)
  refine lv_iconst (v := 0) hx hb dX2_ahead_3 (by decide) ?_
  refine lv_istore (lv' := [(5, .int 0), (4, .int 0), (0, .ref (md 0)), (1, .int p1), (2, .int p2), (3, .int p3)]) hx hb dX2_ahead_4 hl (by decide) rfl (fun ls hl => ?_)
  exact lp6 nu 0 _ _ _ _ (by omega) hP hD hS (lv_sub hl [0, 1, 2, 3, 4, 5] rfl)
set_option maxHeartbeats 8000000 in
set_option maxRecDepth 100000 in
theorem kt_X2_rank (l : Launch) (dC : Nat → ClassId) (dI : Nat → Nat → Nat) (md : Nat → Nat) (cI : ClassId) (sz : Nat) (th : Int32) (nu nm : Nat) (sk : Int32) (G : Nat → Nat → Int32) (v : Nat → Int32) (p1 : Nat) (p2 : Int32) (L : List Nat) (hnu : nu ≤ 30) (hnm : nm ≤ 200) (hL : um_ok G nm L) (hAr : ∀ (t : Int32) (j : Nat), j < nu → ¬ um_in (um_st G L t j 0) 3 5 = 0 → ∃ a, a < nm ∧ um_st G L t j 11 = nI a) (hp1 : p1 < nu) : Met l yX2_rank wsX2_rank ({ frames := 5, cells := 0, slots := 0, locals := 118 }) (va_Pc [.ref (md 0), .int (nI p1), .int p2] (um_P dC dI md cI th nu nm sk G v sz)) (va_Qi (fun r (_ : Nat → Int32) => r = um_rank G L nu p2 p1) (fun v9 t => um_B dC dI md cI th nu nm sk G v9 t) (us_AA (um_ads md) sz)) 0 0 (us_AA (um_ads md) sz) := by
  refine Met.ofW (cc := cX2_rank) (maxL := 3) (ret := (some .int)) (by decide) rfl ?_
  intro p e s m args below meth c s₁ B hml hv
  obtain ⟨rfl, hsz, hP, hK, hD⟩ := hv
  have hx := B.exec
  have hb := B.bytes
  have hr := B.returns
  have htb := us_htb (atoms_spec (ws := wsX2_rank) B.pre)
  have hown : s.vm.findClass RX2 = some m.cls := findClass_of_methodNamed B.named
  have hlocks := B.notSynchronized
  subst hsz
  have hA : ∀ q : Nat, s.heap.size ≤ q → (us_AA (um_ads md) s.heap.size) q := fun q h => Or.inr h
  have hS : va_S (us_AA (um_ads md) s.heap.size) s.heap s.heap [] := va_S.rf
  have hP : va_P (dC, dI) vwCl (um_W md cI th nu nm sk G v) s.heap := hP
  have hD : va_D (us_AA (um_ads md) s.heap.size) (um_W md cI th nu nm sk G v) := us_D_aa hD
  have hl := lv_entry ([.ref (md 0), .int (nI p1), .int p2]) (n := 3) (Nat.le_of_ble_eq_true rfl)
  rw [lg_entry_eq]
  generalize (lg_sl ([.ref (md 0), .int (nI p1), .int p2]) ++ List.replicate (3 - (lg_sl ([.ref (md 0), .int (nI p1), .int p2])).length) Slot.unset).toArray = ls at hl ⊢
  have hl : lv_has ls 3 [(0, .ref (md 0)), (1, .int (nI p1)), (2, .int p2)] := hl
  have hp3 : p1 < 30 := by omega
  refine lv_aload_n hx hb dX2_rank_0 rfl (lv_at hl 0 rfl) ?_
  refine lv_iload_n hx hb dX2_rank_1 rfl (lv_at hl 1 rfl) ?_
  refine lv_iload_n hx hb dX2_rank_2 rfl (lv_at hl 2 rfl) ?_
  refine lv_iconst (v := (-1)) hx hb dX2_rank_3 (by decide) ?_
  refine va_callv (va_runV (As := [.int (nI p1), .int p2, .int (-1)]) (rest := []) ⟨hx, hb, hml, hown, htb⟩ (kt_X2_follow l dC dI md cI s.heap.size th nu nm sk G v p1 p2 L hp3 hnm hL) (cwV 3 htb (us_gV mw_532 mw_534 mw_23 mw_34 mw_535) rfl rfl rfl (by decide +kernel) ⟨Nat.le_of_ble_eq_true rfl, Nat.le_of_ble_eq_true rfl⟩) ⟨um_P_blind, va_recv hK hP (ci := 2) (q0 := 0) rfl rfl, fun U hU hW => ⟨rfl, um_P_at hP hK hD hU hW⟩⟩ rfl rfl hl.1 rfl (lv_room (Nat.le_of_ble_eq_true rfl)) dX2_rank_4 ⟨Nat.le_of_ble_eq_true rfl, Nat.le_of_ble_eq_true rfl⟩) hS (fun q _ h => us_AA_le hS q h) (us_AA_le hS) (fun _ t_3 H_1 locs ht hvm hw hB hz1 hk1 hS => ?_)
  have hP := um_B_use ht hB
  have hD : va_D (us_AA (um_ads md) s.heap.size) (um_W md cI th nu nm sk G (um_fol G L p1 p2 v)) := us_D_of (by rw [um_W_adr, um_W_adr]) hD
  have hP : va_P (dC, dI) vwCl (um_W md cI th nu nm sk G (um_fol G L p1 p2 v)) H_1 := hP
  refine lv_aload_n hx hb dX2_rank_7 rfl (lv_at hl 0 rfl) ?_
  refine um_get (x := (um_st G L p2 p1 0)) hx hb htb us_inX2 hown hK hP 0 (by decide) (htb _ mw_433) (um_fol_ag (by decide)) dX2_rank_8 ?_
  refine lv_iconst (v := 3) hx hb dX2_rank_11 (by decide) ?_
  refine lv_iconst (v := 5) hx hb dX2_rank_12 (by decide) ?_
  refine va_calli (va_runS (As := [.int (um_st G L p2 p1 0), .int 3, .int 5]) (rest := []) ⟨hx, hb, hml, hown, htb⟩ (kt_X2_in l H_1.size (um_st G L p2 p1 0) 3 5) (cwS 3 htb (us_gS mw_501 mw_502 mw_34 mw_503) rfl rfl rfl (by decide +kernel) ⟨Nat.le_of_ble_eq_true rfl, Nat.le_of_ble_eq_true rfl⟩) ⟨us_blind0, fun U hU _ => ⟨rfl, congrArg Array.size hU⟩⟩ rfl rfl hl.1 rfl (lv_room (Nat.le_of_ble_eq_true rfl)) dX2_rank_13 ⟨Nat.le_of_ble_eq_true rfl, Nat.le_of_ble_eq_true rfl⟩) hS (fun q h1 h2 => absurd h2 (Nat.not_le.mpr h1)) (fun q h => hA q (Nat.le_trans hS.1 h)) (fun r_5 _ t_6 H_4 locs ht hvm hw hB hz1 hk1 hS => ?_)
  subst hw
  have hP := us_mono hP (fun q h => hk1 q h (Nat.not_le.mpr h))
  refine lv_if_ne (tgt := 21) hx hb dX2_rank_16 (by decide) (fun c_7 => ?_) (fun c_7 => ?_)
  · refine lv_iconst (v := 1) hx hb dX2_rank_21 (by decide) ?_
    refine lv_aload_n hx hb dX2_rank_22 rfl (lv_at hl 0 rfl) ?_
    refine lv_aload_n hx hb dX2_rank_23 rfl (lv_at hl 0 rfl) ?_
    refine um_get (x := (um_st G L p2 p1 3)) hx hb htb us_inX2 hown hK hP 3 (by decide) (htb _ mw_436) (um_fol_ag (by decide)) dX2_rank_24 ?_
    refine lv_aload_n hx hb dX2_rank_27 rfl (lv_at hl 0 rfl) ?_
    refine um_get (x := (um_st G L p2 p1 11)) hx hb htb us_inX2 hown hK hP 11 (by decide) (htb _ mw_444) (um_fol_ag (by decide)) dX2_rank_28 ?_
    refine lv_iload_n hx hb dX2_rank_31 rfl (lv_at hl 2 rfl) ?_
    refine va_calli (va_runV (As := [.int (um_st G L p2 p1 3), .int (um_st G L p2 p1 11), .int p2]) (rest := [.int 1]) ⟨hx, hb, hml, hown, htb⟩ (kt_X2_ahead l dC dI md cI H_4.size th nu nm sk G (um_fol G L p1 p2 v) (um_st G L p2 p1 3) (um_st G L p2 p1 11) p2 L hnu hnm hL hAr (hAr p2 p1 hp1 c_7)) (cwV 3 htb (us_gV mw_555 mw_557 mw_28 mw_34 mw_558) rfl rfl rfl (by decide +kernel) ⟨Nat.le_of_ble_eq_true rfl, Nat.le_of_ble_eq_true rfl⟩) ⟨um_P_blind, va_recv hK hP (ci := 2) (q0 := 0) rfl rfl, fun U hU hW => ⟨rfl, um_P_at hP hK hD hU hW⟩⟩ rfl rfl hl.1 rfl (lv_room (Nat.le_of_ble_eq_true rfl)) dX2_rank_32 ⟨Nat.le_of_ble_eq_true rfl, Nat.le_of_ble_eq_true rfl⟩) hS (fun q _ h => us_AA_le hS q h) (us_AA_le hS) (fun r_9 v_11 t_10 H_8 locs ht hvm hw hB hz1 hk1 hS => ?_)
    subst hw
    have hP := um_B_use ht hB
    have hD : va_D (us_AA (um_ads md) s.heap.size) (um_W md cI th nu nm sk G v_11) := us_D_of (by rw [um_W_adr, um_W_adr]) hD
    have hP : va_P (dC, dI) vwCl (um_W md cI th nu nm sk G v_11) H_8 := hP
    refine lv_iadd hx hb dX2_rank_35 ?_
    have hsp : (1 + (um_ahd G L p2 (um_st G L p2 p1 3) (um_st G L p2 p1 11) nu)) = um_rank G L nu p2 p1 := by first | (simp only [um_rank, eq_false c_7, if_true, if_false]; done) | (simp [um_rank, c_7]; done)
    exact W.iret (v := (1 + (um_ahd G L p2 (um_st G L p2 p1 3) (um_st G L p2 p1 11) nu))) hx hb hr (fun t ht hW => ⟨⟨(1 + (um_ahd G L p2 (um_st G L p2 p1 3) (um_st G L p2 p1 11) nu)), v_11, rfl, hsp, um_B_of ht hP rfl rfl rfl rfl rfl rfl⟩, hS.F ht⟩) hS.2.2 dX2_rank_36
  · refine lv_iconst (v := 0) hx hb dX2_rank_19 (by decide) ?_
    have hsp : 0 = um_rank G L nu p2 p1 := by first | (simp only [um_rank, eq_true c_7, if_true, if_false]; done) | (simp [um_rank, c_7]; done)
    exact W.iret (v := 0) hx hb hr (fun t ht hW => ⟨⟨0, (um_fol G L p1 p2 v), rfl, hsp, um_B_of ht hP rfl rfl rfl rfl rfl rfl⟩, hS.F ht⟩) hS.2.2 dX2_rank_20
set_option maxHeartbeats 8000000 in
set_option maxRecDepth 100000 in
theorem kt_X2_at (l : Launch) (dC : Nat → ClassId) (dI : Nat → Nat → Nat) (md : Nat → Nat) (cI : ClassId) (sz : Nat) (th : Int32) (nu nm : Nat) (sk : Int32) (G : Nat → Nat → Int32) (v : Nat → Int32) (p1 p2 p3 : Int32) (L : List Nat) (hnu : nu ≤ 30) (hnm : nm ≤ 200) (hL : um_ok G nm L) (hAr : ∀ (t : Int32) (j : Nat), j < nu → ¬ um_in (um_st G L t j 0) 3 5 = 0 → ∃ a, a < nm ∧ um_st G L t j 11 = nI a) : Met l yX2_at wsX2_at ({ frames := 6, cells := 0, slots := 0, locals := 140 }) (va_Pc [.ref (md 0), .int p1, .int p2, .int p3] (um_P dC dI md cI th nu nm sk G v sz)) (va_Qi (fun r (_ : Nat → Int32) => um_atK p1 p2 p3 nu = 0 → r = um_atR G L nu p1.toNatClampNeg p2 p3) (fun v9 t => um_B dC dI md cI (um_atK p1 p2 p3 nu) nu nm sk G v9 t) (us_AA (um_ads md) sz)) 0 0 (us_AA (um_ads md) sz) := by
  refine Met.ofW (cc := cX2_at) (maxL := 4) (ret := (some .int)) (by decide) rfl ?_
  intro p e s m args below meth c s₁ B hml hv
  obtain ⟨rfl, hsz, hP, hK, hD⟩ := hv
  have hx := B.exec
  have hb := B.bytes
  have hr := B.returns
  have htb := us_htb (atoms_spec (ws := wsX2_at) B.pre)
  have hown : s.vm.findClass RX2 = some m.cls := findClass_of_methodNamed B.named
  have hlocks := B.notSynchronized
  subst hsz
  have hA : ∀ q : Nat, s.heap.size ≤ q → (us_AA (um_ads md) s.heap.size) q := fun q h => Or.inr h
  have hS : va_S (us_AA (um_ads md) s.heap.size) s.heap s.heap [] := va_S.rf
  have hP : va_P (dC, dI) vwCl (um_W md cI th nu nm sk G v) s.heap := hP
  have hD : va_D (us_AA (um_ads md) s.heap.size) (um_W md cI th nu nm sk G v) := us_D_aa hD
  have hl := lv_entry ([.ref (md 0), .int p1, .int p2, .int p3]) (n := 4) (Nat.le_of_ble_eq_true rfl)
  rw [lg_entry_eq]
  generalize (lg_sl ([.ref (md 0), .int p1, .int p2, .int p3]) ++ List.replicate (4 - (lg_sl ([.ref (md 0), .int p1, .int p2, .int p3])).length) Slot.unset).toArray = ls at hl ⊢
  have hl : lv_has ls 4 [(0, .ref (md 0)), (1, .int p1), (2, .int p2), (3, .int p3)] := hl
  refine lv_aload_n hx hb dX2_at_0 rfl (lv_at hl 0 rfl) ?_
  refine lv_aload_n hx hb dX2_at_1 rfl (lv_at hl 0 rfl) ?_
  refine lv_iload_n hx hb dX2_at_2 rfl (lv_at hl 1 rfl) ?_
  refine va_calli (va_runV (As := [.int p1]) (rest := [.ref (md 0)]) ⟨hx, hb, hml, hown, htb⟩ (kt_X2_isUnit l dC dI md cI s.heap.size th nu nm sk G v p1) (cwV 1 htb (us_gV mw_512 mw_514 mw_21 mw_34 mw_515) rfl rfl rfl (by decide +kernel) ⟨Nat.le_of_ble_eq_true rfl, Nat.le_of_ble_eq_true rfl⟩) ⟨um_P_blind, va_recv hK hP (ci := 2) (q0 := 0) rfl rfl, fun U hU hW => ⟨rfl, um_P_at hP hK hD hU hW⟩⟩ rfl rfl hl.1 rfl (lv_room (Nat.le_of_ble_eq_true rfl)) dX2_at_3 ⟨Nat.le_of_ble_eq_true rfl, Nat.le_of_ble_eq_true rfl⟩) hS (fun q h1 h2 => absurd h2 (Nat.not_le.mpr h1)) (fun q h => hA q (Nat.le_trans hS.1 h)) (fun r_2 _ t_3 H_1 locs ht hvm hw hB hz1 hk1 hS => ?_)
  subst hw
  have hP := us_mono hP (fun q h => hk1 q h (Nat.not_le.mpr h))
  refine lv_if_eq (tgt := 19) hx hb dX2_at_6 (by decide) (fun c_4 => ?_) (fun c_4 => ?_)
  · refine lv_iconst (v := 1) hx hb dX2_at_19 (by decide) ?_
    refine lv_goto (tgt := 24) hx hb dX2_at_20 (by decide) ?_
    refine lv_iload_n hx hb dX2_at_24 rfl (lv_at hl 2 rfl) ?_
    refine va_calli (va_runS (As := [.int p2]) (rest := [.int 1, .ref (md 0)]) ⟨hx, hb, hml, hown, htb⟩ (kt_X2_isMinute l H_1.size p2) (cwS 1 htb (us_gS mw_516 mw_517 mw_34 mw_518) rfl rfl rfl (by decide +kernel) ⟨Nat.le_of_ble_eq_true rfl, Nat.le_of_ble_eq_true rfl⟩) ⟨us_blind0, fun U hU _ => ⟨rfl, congrArg Array.size hU⟩⟩ rfl rfl hl.1 rfl (lv_room (Nat.le_of_ble_eq_true rfl)) dX2_at_25 ⟨Nat.le_of_ble_eq_true rfl, Nat.le_of_ble_eq_true rfl⟩) hS (fun q h1 h2 => absurd h2 (Nat.not_le.mpr h1)) (fun q h => hA q (Nat.le_trans hS.1 h)) (fun r_6 _ t_7 H_5 locs ht hvm hw hB hz1 hk1 hS => ?_)
    subst hw
    have hP := us_mono hP (fun q h => hk1 q h (Nat.not_le.mpr h))
    refine lv_if_ne (tgt := 35) hx hb dX2_at_28 (by decide) (fun c_8 => ?_) (fun c_8 => ?_)
    · refine lv_iconst (v := 0) hx hb dX2_at_35 (by decide) ?_
      refine lv_iconst (v := 0) hx hb dX2_at_36 (by decide) ?_
      refine va_calli (va_runV (As := [.int 1, .int 0, .int 0]) (rest := []) ⟨hx, hb, hml, hown, htb⟩ (kt_X2_throwing l dC dI md cI H_5.size th nu nm sk G v 1 0 0) (cwV 3 htb (us_gV mw_504 mw_506 mw_20 mw_34 mw_507) rfl rfl rfl (by decide +kernel) ⟨Nat.le_of_ble_eq_true rfl, Nat.le_of_ble_eq_true rfl⟩) ⟨um_P_blind, va_recv hK hP (ci := 2) (q0 := 0) rfl rfl, fun U hU hW => ⟨rfl, um_P_at hP hK hD hU hW⟩⟩ rfl rfl hl.1 rfl (lv_room (Nat.le_of_ble_eq_true rfl)) dX2_at_37 ⟨Nat.le_of_ble_eq_true rfl, Nat.le_of_ble_eq_true rfl⟩) hS (fun q _ h => us_AA_le hS q h) (us_AA_le hS) (fun r_10 _ t_11 H_9 locs ht hvm hw hB hz1 hk1 hS => ?_)
      subst hw
      have hP := um_B_use ht hB
      have hD : va_D (us_AA (um_ads md) s.heap.size) (um_W md cI (um_th 1 0 0) nu nm sk G v) := us_D_of (by rw [um_W_adr, um_W_adr]) hD
      have hP : va_P (dC, dI) vwCl (um_W md cI (um_th 1 0 0) nu nm sk G v) H_9 := hP
      refine lv_if_eq (tgt := 45) hx hb dX2_at_40 (by decide) (fun c_12 => ?_) (fun c_12 => ?_)
      · exact absurd c_12 (by decide)
      · refine lv_iconst (v := 0) hx hb dX2_at_43 (by decide) ?_
        have hkv : um_atK p1 p2 p3 nu = 1 := by first | (simp only [um_atK, eq_true c_4, eq_false c_8, eq_false c_12, if_true, if_false]; done) | (simp [um_atK, c_4, c_8, c_12]; done)
        have hsp : um_atK p1 p2 p3 nu = 0 → 0 = um_atR G L nu p1.toNatClampNeg p2 p3 := by exact fun h9 => absurd (hkv.symm.trans h9) (by decide)
        exact W.iret (v := 0) hx hb hr (fun t ht hW => ⟨⟨0, v, rfl, hsp, um_B_of ht hP (by rw [hkv]; decide) rfl rfl rfl rfl rfl⟩, hS.F ht⟩) hS.2.2 dX2_at_44
    · refine lv_iconst (v := 1) hx hb dX2_at_31 (by decide) ?_
      refine lv_goto (tgt := 36) hx hb dX2_at_32 (by decide) ?_
      refine lv_iconst (v := 0) hx hb dX2_at_36 (by decide) ?_
      refine va_calli (va_runV (As := [.int 1, .int 1, .int 0]) (rest := []) ⟨hx, hb, hml, hown, htb⟩ (kt_X2_throwing l dC dI md cI H_5.size th nu nm sk G v 1 1 0) (cwV 3 htb (us_gV mw_504 mw_506 mw_20 mw_34 mw_507) rfl rfl rfl (by decide +kernel) ⟨Nat.le_of_ble_eq_true rfl, Nat.le_of_ble_eq_true rfl⟩) ⟨um_P_blind, va_recv hK hP (ci := 2) (q0 := 0) rfl rfl, fun U hU hW => ⟨rfl, um_P_at hP hK hD hU hW⟩⟩ rfl rfl hl.1 rfl (lv_room (Nat.le_of_ble_eq_true rfl)) dX2_at_37 ⟨Nat.le_of_ble_eq_true rfl, Nat.le_of_ble_eq_true rfl⟩) hS (fun q _ h => us_AA_le hS q h) (us_AA_le hS) (fun r_14 _ t_15 H_13 locs ht hvm hw hB hz1 hk1 hS => ?_)
      subst hw
      have hP := um_B_use ht hB
      have hD : va_D (us_AA (um_ads md) s.heap.size) (um_W md cI (um_th 1 1 0) nu nm sk G v) := us_D_of (by rw [um_W_adr, um_W_adr]) hD
      have hP : va_P (dC, dI) vwCl (um_W md cI (um_th 1 1 0) nu nm sk G v) H_13 := hP
      refine lv_if_eq (tgt := 45) hx hb dX2_at_40 (by decide) (fun c_16 => ?_) (fun c_16 => ?_)
      · exact absurd c_16 (by decide)
      · refine lv_iconst (v := 0) hx hb dX2_at_43 (by decide) ?_
        have hkv : um_atK p1 p2 p3 nu = 1 := by first | (simp only [um_atK, eq_true c_4, eq_true c_8, eq_false c_16, if_true, if_false]; done) | (simp [um_atK, c_4, c_8, c_16]; done)
        have hsp : um_atK p1 p2 p3 nu = 0 → 0 = um_atR G L nu p1.toNatClampNeg p2 p3 := by exact fun h9 => absurd (hkv.symm.trans h9) (by decide)
        exact W.iret (v := 0) hx hb hr (fun t ht hW => ⟨⟨0, v, rfl, hsp, um_B_of ht hP (by rw [hkv]; decide) rfl rfl rfl rfl rfl⟩, hS.F ht⟩) hS.2.2 dX2_at_44
  · refine lv_iload_n hx hb dX2_at_9 rfl (lv_at hl 3 rfl) ?_
    refine lv_iconst (v := 0) hx hb dX2_at_10 (by decide) ?_
    refine lv_bipush (v := 9) hx hb dX2_at_11 (by decide) ?_
    refine va_calli (va_runS (As := [.int p3, .int 0, .int 9]) (rest := [.ref (md 0)]) ⟨hx, hb, hml, hown, htb⟩ (kt_X2_in l H_1.size p3 0 9) (cwS 3 htb (us_gS mw_501 mw_502 mw_34 mw_503) rfl rfl rfl (by decide +kernel) ⟨Nat.le_of_ble_eq_true rfl, Nat.le_of_ble_eq_true rfl⟩) ⟨us_blind0, fun U hU _ => ⟨rfl, congrArg Array.size hU⟩⟩ rfl rfl hl.1 rfl (lv_room (Nat.le_of_ble_eq_true rfl)) dX2_at_13 ⟨Nat.le_of_ble_eq_true rfl, Nat.le_of_ble_eq_true rfl⟩) hS (fun q h1 h2 => absurd h2 (Nat.not_le.mpr h1)) (fun q h => hA q (Nat.le_trans hS.1 h)) (fun r_18 _ t_19 H_17 locs ht hvm hw hB hz1 hk1 hS => ?_)
    subst hw
    have hP := us_mono hP (fun q h => hk1 q h (Nat.not_le.mpr h))
    refine lv_if_ne (tgt := 23) hx hb dX2_at_16 (by decide) (fun c_20 => ?_) (fun c_20 => ?_)
    · refine lv_iconst (v := 0) hx hb dX2_at_23 (by decide) ?_
      refine lv_iload_n hx hb dX2_at_24 rfl (lv_at hl 2 rfl) ?_
      refine va_calli (va_runS (As := [.int p2]) (rest := [.int 0, .ref (md 0)]) ⟨hx, hb, hml, hown, htb⟩ (kt_X2_isMinute l H_17.size p2) (cwS 1 htb (us_gS mw_516 mw_517 mw_34 mw_518) rfl rfl rfl (by decide +kernel) ⟨Nat.le_of_ble_eq_true rfl, Nat.le_of_ble_eq_true rfl⟩) ⟨us_blind0, fun U hU _ => ⟨rfl, congrArg Array.size hU⟩⟩ rfl rfl hl.1 rfl (lv_room (Nat.le_of_ble_eq_true rfl)) dX2_at_25 ⟨Nat.le_of_ble_eq_true rfl, Nat.le_of_ble_eq_true rfl⟩) hS (fun q h1 h2 => absurd h2 (Nat.not_le.mpr h1)) (fun q h => hA q (Nat.le_trans hS.1 h)) (fun r_22 _ t_23 H_21 locs ht hvm hw hB hz1 hk1 hS => ?_)
      subst hw
      have hP := us_mono hP (fun q h => hk1 q h (Nat.not_le.mpr h))
      refine lv_if_ne (tgt := 35) hx hb dX2_at_28 (by decide) (fun c_24 => ?_) (fun c_24 => ?_)
      · refine lv_iconst (v := 0) hx hb dX2_at_35 (by decide) ?_
        refine lv_iconst (v := 0) hx hb dX2_at_36 (by decide) ?_
        refine va_calli (va_runV (As := [.int 0, .int 0, .int 0]) (rest := []) ⟨hx, hb, hml, hown, htb⟩ (kt_X2_throwing l dC dI md cI H_21.size th nu nm sk G v 0 0 0) (cwV 3 htb (us_gV mw_504 mw_506 mw_20 mw_34 mw_507) rfl rfl rfl (by decide +kernel) ⟨Nat.le_of_ble_eq_true rfl, Nat.le_of_ble_eq_true rfl⟩) ⟨um_P_blind, va_recv hK hP (ci := 2) (q0 := 0) rfl rfl, fun U hU hW => ⟨rfl, um_P_at hP hK hD hU hW⟩⟩ rfl rfl hl.1 rfl (lv_room (Nat.le_of_ble_eq_true rfl)) dX2_at_37 ⟨Nat.le_of_ble_eq_true rfl, Nat.le_of_ble_eq_true rfl⟩) hS (fun q _ h => us_AA_le hS q h) (us_AA_le hS) (fun r_26 _ t_27 H_25 locs ht hvm hw hB hz1 hk1 hS => ?_)
        subst hw
        have hP := um_B_use ht hB
        have hD : va_D (us_AA (um_ads md) s.heap.size) (um_W md cI (um_th 0 0 0) nu nm sk G v) := us_D_of (by rw [um_W_adr, um_W_adr]) hD
        have hP : va_P (dC, dI) vwCl (um_W md cI (um_th 0 0 0) nu nm sk G v) H_25 := hP
        refine lv_if_eq (tgt := 45) hx hb dX2_at_40 (by decide) (fun c_28 => ?_) (fun c_28 => ?_)
        · obtain ⟨j, hj, ej⟩ := um_in_spec (x := p1) (n := nu) (by omega) c_4
          have hj3 : j < 30 := by omega
          refine lv_iload_n hx hb dX2_at_45 rfl (lv_at hl 3 rfl) ?_
          refine lv_bipush (v := 9) hx hb dX2_at_46 (by decide) ?_
          refine lv_icmp_ne (tgt := 58) hx hb dX2_at_48 (by decide) (fun c_29 => ?_) (fun c_29 => ?_)
          · refine lv_aload_n hx hb dX2_at_58 rfl (lv_at hl 0 rfl) ?_
            refine lv_iload_n hx hb dX2_at_59 rfl (lv_at hl 1 rfl) ?_
            refine lv_topi (fun i9 ei9 => ?_)
            have ei9 := ei9.trans ej
            subst ei9
            refine lv_iload_n hx hb dX2_at_60 rfl (lv_at hl 2 rfl) ?_
            refine lv_iconst (v := (-1)) hx hb dX2_at_61 (by decide) ?_
            refine va_callv (va_runV (As := [.int (nI j), .int p2, .int (-1)]) (rest := []) ⟨hx, hb, hml, hown, htb⟩ (kt_X2_follow l dC dI md cI H_25.size (um_th 0 0 0) nu nm sk G v j p2 L hj3 hnm hL) (cwV 3 htb (us_gV mw_532 mw_534 mw_23 mw_34 mw_535) rfl rfl rfl (by decide +kernel) ⟨Nat.le_of_ble_eq_true rfl, Nat.le_of_ble_eq_true rfl⟩) ⟨um_P_blind, va_recv hK hP (ci := 2) (q0 := 0) rfl rfl, fun U hU hW => ⟨rfl, um_P_at hP hK hD hU hW⟩⟩ rfl rfl hl.1 rfl (lv_room (Nat.le_of_ble_eq_true rfl)) dX2_at_62 ⟨Nat.le_of_ble_eq_true rfl, Nat.le_of_ble_eq_true rfl⟩) hS (fun q _ h => us_AA_le hS q h) (us_AA_le hS) (fun _ t_32 H_30 locs ht hvm hw hB hz1 hk1 hS => ?_)
            have hP := um_B_use ht hB
            have hD : va_D (us_AA (um_ads md) s.heap.size) (um_W md cI (um_th 0 0 0) nu nm sk G (um_fol G L j p2 v)) := us_D_of (by rw [um_W_adr, um_W_adr]) hD
            have hP : va_P (dC, dI) vwCl (um_W md cI (um_th 0 0 0) nu nm sk G (um_fol G L j p2 v)) H_30 := hP
            refine lv_iload_n hx hb dX2_at_65 rfl (lv_at hl 3 rfl) ?_
            by_cases k_33 : p3 = 0
            · refine lv_tableIn (tgt := 112) hx hb dX2_at_66 (by rw [k_33]; decide) (by rw [k_33]; decide) (by rw [k_33]; rfl) (by decide) ?_
              refine lv_aload_n hx hb dX2_at_112 rfl (lv_at hl 0 rfl) ?_
              refine um_get (x := (um_st G L p2 j 0)) hx hb htb us_inX2 hown hK hP 0 (by decide) (htb _ mw_433) (um_fol_ag (by decide)) dX2_at_113 ?_
              have hkv : um_atK p1 p2 p3 nu = 0 := by first | (simp only [um_atK, eq_false c_4, eq_false c_20, eq_false c_24, eq_true c_28, eq_false c_29, eq_true k_33, if_true, if_false]; done) | (simp [um_atK, c_4, c_20, c_24, c_28, c_29, k_33]; done)
              have hsp : um_atK p1 p2 p3 nu = 0 → (um_st G L p2 j 0) = um_atR G L nu p1.toNatClampNeg p2 p3 := by intro _; rw [ej, nI_clamp (by omega)]; first | (simp only [um_atR, um_send, um_send2, um_inc_fol, eq_true c_28, eq_false c_29, eq_true k_33, if_true, if_false]; done) | (simp [um_atR, um_send, um_send2, um_inc_fol, c_28, c_29, k_33]; done)
              exact W.iret (v := (um_st G L p2 j 0)) hx hb hr (fun t ht hW => ⟨⟨(um_st G L p2 j 0), (um_fol G L j p2 v), rfl, hsp, um_B_of ht hP (by rw [hkv]; decide) rfl rfl rfl rfl rfl⟩, hS.F ht⟩) hS.2.2 dX2_at_116
            by_cases k_34 : p3 = 1
            · refine lv_tableIn (tgt := 117) hx hb dX2_at_66 (by rw [k_34]; decide) (by rw [k_34]; decide) (by rw [k_34]; rfl) (by decide) ?_
              refine lv_aload_n hx hb dX2_at_117 rfl (lv_at hl 0 rfl) ?_
              refine um_get (x := (um_st G L p2 j 1)) hx hb htb us_inX2 hown hK hP 1 (by decide) (htb _ mw_434) (um_fol_ag (by decide)) dX2_at_118 ?_
              have hkv : um_atK p1 p2 p3 nu = 0 := by first | (simp only [um_atK, eq_false c_4, eq_false c_20, eq_false c_24, eq_true c_28, eq_false c_29, eq_true k_34, if_true, if_false]; done) | (simp [um_atK, c_4, c_20, c_24, c_28, c_29, k_34]; done)
              have hsp : um_atK p1 p2 p3 nu = 0 → (um_st G L p2 j 1) = um_atR G L nu p1.toNatClampNeg p2 p3 := by intro _; rw [ej, nI_clamp (by omega)]; first | (simp only [um_atR, um_send, um_send2, um_inc_fol, eq_true c_28, eq_false c_29, eq_true k_34, if_true, if_false]; done) | (simp [um_atR, um_send, um_send2, um_inc_fol, c_28, c_29, k_34]; done)
              exact W.iret (v := (um_st G L p2 j 1)) hx hb hr (fun t ht hW => ⟨⟨(um_st G L p2 j 1), (um_fol G L j p2 v), rfl, hsp, um_B_of ht hP (by rw [hkv]; decide) rfl rfl rfl rfl rfl⟩, hS.F ht⟩) hS.2.2 dX2_at_121
            by_cases k_35 : p3 = 2
            · refine lv_tableIn (tgt := 122) hx hb dX2_at_66 (by rw [k_35]; decide) (by rw [k_35]; decide) (by rw [k_35]; rfl) (by decide) ?_
              refine lv_aload_n hx hb dX2_at_122 rfl (lv_at hl 0 rfl) ?_
              refine um_get (x := (um_st G L p2 j 0)) hx hb htb us_inX2 hown hK hP 0 (by decide) (htb _ mw_433) (um_fol_ag (by decide)) dX2_at_123 ?_
              refine lv_if_ne (tgt := 136) hx hb dX2_at_126 (by decide) (fun c_36 => ?_) (fun c_36 => ?_)
              · refine lv_iconst (v := (-1)) hx hb dX2_at_136 (by decide) ?_
                have hkv : um_atK p1 p2 p3 nu = 0 := by first | (simp only [um_atK, eq_false c_4, eq_false c_20, eq_false c_24, eq_true c_28, eq_false c_29, eq_true k_35, eq_false c_36, if_true, if_false]; done) | (simp [um_atK, c_4, c_20, c_24, c_28, c_29, k_35, c_36]; done)
                have hsp : um_atK p1 p2 p3 nu = 0 → (-1) = um_atR G L nu p1.toNatClampNeg p2 p3 := by intro _; rw [ej, nI_clamp (by omega)]; first | (simp only [um_atR, um_send, um_send2, um_inc_fol, eq_true c_28, eq_false c_29, eq_true k_35, eq_false c_36, if_true, if_false]; done) | (simp [um_atR, um_send, um_send2, um_inc_fol, c_28, c_29, k_35, c_36]; done)
                exact W.iret (v := (-1)) hx hb hr (fun t ht hW => ⟨⟨(-1), (um_fol G L j p2 v), rfl, hsp, um_B_of ht hP (by rw [hkv]; decide) rfl rfl rfl rfl rfl⟩, hS.F ht⟩) hS.2.2 dX2_at_137
              · refine lv_aload_n hx hb dX2_at_129 rfl (lv_at hl 0 rfl) ?_
                refine um_get (x := (um_st G L p2 j 2)) hx hb htb us_inX2 hown hK hP 2 (by decide) (htb _ mw_435) (um_fol_ag (by decide)) dX2_at_130 ?_
                refine lv_goto (tgt := 137) hx hb dX2_at_133 (by decide) ?_
                have hkv : um_atK p1 p2 p3 nu = 0 := by first | (simp only [um_atK, eq_false c_4, eq_false c_20, eq_false c_24, eq_true c_28, eq_false c_29, eq_true k_35, eq_true c_36, if_true, if_false]; done) | (simp [um_atK, c_4, c_20, c_24, c_28, c_29, k_35, c_36]; done)
                have hsp : um_atK p1 p2 p3 nu = 0 → (um_st G L p2 j 2) = um_atR G L nu p1.toNatClampNeg p2 p3 := by intro _; rw [ej, nI_clamp (by omega)]; first | (simp only [um_atR, um_send, um_send2, um_inc_fol, eq_true c_28, eq_false c_29, eq_true k_35, eq_true c_36, if_true, if_false]; done) | (simp [um_atR, um_send, um_send2, um_inc_fol, c_28, c_29, k_35, c_36]; done)
                exact W.iret (v := (um_st G L p2 j 2)) hx hb hr (fun t ht hW => ⟨⟨(um_st G L p2 j 2), (um_fol G L j p2 v), rfl, hsp, um_B_of ht hP (by rw [hkv]; decide) rfl rfl rfl rfl rfl⟩, hS.F ht⟩) hS.2.2 dX2_at_137
            by_cases k_37 : p3 = 3
            · refine lv_tableIn (tgt := 138) hx hb dX2_at_66 (by rw [k_37]; decide) (by rw [k_37]; decide) (by rw [k_37]; rfl) (by decide) ?_
              refine lv_aload_n hx hb dX2_at_138 rfl (lv_at hl 0 rfl) ?_
              refine va_calli (va_runV (As := []) (rest := []) ⟨hx, hb, hml, hown, htb⟩ (kt_X2_incidentNow l dC dI md cI H_30.size (um_th 0 0 0) nu nm sk G (um_fol G L j p2 v)) (cwV 0 htb (us_gV mw_559 mw_561 mw_29 mw_34 mw_562) rfl rfl rfl (by decide +kernel) ⟨Nat.le_of_ble_eq_true rfl, Nat.le_of_ble_eq_true rfl⟩) ⟨um_P_blind, va_recv hK hP (ci := 2) (q0 := 0) rfl rfl, fun U hU hW => ⟨rfl, um_P_at hP hK hD hU hW⟩⟩ rfl rfl hl.1 rfl (lv_room (Nat.le_of_ble_eq_true rfl)) dX2_at_139 ⟨Nat.le_of_ble_eq_true rfl, Nat.le_of_ble_eq_true rfl⟩) hS (fun q h1 h2 => absurd h2 (Nat.not_le.mpr h1)) (fun q h => hA q (Nat.le_trans hS.1 h)) (fun r_39 _ t_40 H_38 locs ht hvm hw hB hz1 hk1 hS => ?_)
              subst hw
              have hP := us_mono hP (fun q h => hk1 q h (Nat.not_le.mpr h))
              have hkv : um_atK p1 p2 p3 nu = 0 := by first | (simp only [um_atK, eq_false c_4, eq_false c_20, eq_false c_24, eq_true c_28, eq_false c_29, eq_true k_37, if_true, if_false]; done) | (simp [um_atK, c_4, c_20, c_24, c_28, c_29, k_37]; done)
              have hsp : um_atK p1 p2 p3 nu = 0 → (um_inc (um_fol G L j p2 v)) = um_atR G L nu p1.toNatClampNeg p2 p3 := by intro _; rw [ej, nI_clamp (by omega)]; first | (simp only [um_atR, um_send, um_send2, um_inc_fol, eq_true c_28, eq_false c_29, eq_true k_37, if_true, if_false]; done) | (simp [um_atR, um_send, um_send2, um_inc_fol, c_28, c_29, k_37]; done)
              exact W.iret (v := (um_inc (um_fol G L j p2 v))) hx hb hr (fun t ht hW => ⟨⟨(um_inc (um_fol G L j p2 v)), (um_fol G L j p2 v), rfl, hsp, um_B_of ht hP (by rw [hkv]; decide) rfl rfl rfl rfl rfl⟩, hS.F ht⟩) hS.2.2 dX2_at_142
            by_cases k_41 : p3 = 4
            · refine lv_tableIn (tgt := 143) hx hb dX2_at_66 (by rw [k_41]; decide) (by rw [k_41]; decide) (by rw [k_41]; rfl) (by decide) ?_
              refine lv_aload_n hx hb dX2_at_143 rfl (lv_at hl 0 rfl) ?_
              refine um_get (x := (um_st G L p2 j 4)) hx hb htb us_inX2 hown hK hP 4 (by decide) (htb _ mw_437) (um_fol_ag (by decide)) dX2_at_144 ?_
              have hkv : um_atK p1 p2 p3 nu = 0 := by first | (simp only [um_atK, eq_false c_4, eq_false c_20, eq_false c_24, eq_true c_28, eq_false c_29, eq_true k_41, if_true, if_false]; done) | (simp [um_atK, c_4, c_20, c_24, c_28, c_29, k_41]; done)
              have hsp : um_atK p1 p2 p3 nu = 0 → (um_st G L p2 j 4) = um_atR G L nu p1.toNatClampNeg p2 p3 := by intro _; rw [ej, nI_clamp (by omega)]; first | (simp only [um_atR, um_send, um_send2, um_inc_fol, eq_true c_28, eq_false c_29, eq_true k_41, if_true, if_false]; done) | (simp [um_atR, um_send, um_send2, um_inc_fol, c_28, c_29, k_41]; done)
              exact W.iret (v := (um_st G L p2 j 4)) hx hb hr (fun t ht hW => ⟨⟨(um_st G L p2 j 4), (um_fol G L j p2 v), rfl, hsp, um_B_of ht hP (by rw [hkv]; decide) rfl rfl rfl rfl rfl⟩, hS.F ht⟩) hS.2.2 dX2_at_147
            by_cases k_42 : p3 = 5
            · refine lv_tableIn (tgt := 148) hx hb dX2_at_66 (by rw [k_42]; decide) (by rw [k_42]; decide) (by rw [k_42]; rfl) (by decide) ?_
              refine lv_aload_n hx hb dX2_at_148 rfl (lv_at hl 0 rfl) ?_
              refine um_get (x := (um_st G L p2 j 5)) hx hb htb us_inX2 hown hK hP 5 (by decide) (htb _ mw_438) (um_fol_ag (by decide)) dX2_at_149 ?_
              have hkv : um_atK p1 p2 p3 nu = 0 := by first | (simp only [um_atK, eq_false c_4, eq_false c_20, eq_false c_24, eq_true c_28, eq_false c_29, eq_true k_42, if_true, if_false]; done) | (simp [um_atK, c_4, c_20, c_24, c_28, c_29, k_42]; done)
              have hsp : um_atK p1 p2 p3 nu = 0 → (um_st G L p2 j 5) = um_atR G L nu p1.toNatClampNeg p2 p3 := by intro _; rw [ej, nI_clamp (by omega)]; first | (simp only [um_atR, um_send, um_send2, um_inc_fol, eq_true c_28, eq_false c_29, eq_true k_42, if_true, if_false]; done) | (simp [um_atR, um_send, um_send2, um_inc_fol, c_28, c_29, k_42]; done)
              exact W.iret (v := (um_st G L p2 j 5)) hx hb hr (fun t ht hW => ⟨⟨(um_st G L p2 j 5), (um_fol G L j p2 v), rfl, hsp, um_B_of ht hP (by rw [hkv]; decide) rfl rfl rfl rfl rfl⟩, hS.F ht⟩) hS.2.2 dX2_at_152
            by_cases k_43 : p3 = 6
            · refine lv_tableIn (tgt := 153) hx hb dX2_at_66 (by rw [k_43]; decide) (by rw [k_43]; decide) (by rw [k_43]; rfl) (by decide) ?_
              refine lv_aload_n hx hb dX2_at_153 rfl (lv_at hl 0 rfl) ?_
              refine um_get (x := (um_st G L p2 j 6)) hx hb htb us_inX2 hown hK hP 6 (by decide) (htb _ mw_439) (um_fol_ag (by decide)) dX2_at_154 ?_
              have hkv : um_atK p1 p2 p3 nu = 0 := by first | (simp only [um_atK, eq_false c_4, eq_false c_20, eq_false c_24, eq_true c_28, eq_false c_29, eq_true k_43, if_true, if_false]; done) | (simp [um_atK, c_4, c_20, c_24, c_28, c_29, k_43]; done)
              have hsp : um_atK p1 p2 p3 nu = 0 → (um_st G L p2 j 6) = um_atR G L nu p1.toNatClampNeg p2 p3 := by intro _; rw [ej, nI_clamp (by omega)]; first | (simp only [um_atR, um_send, um_send2, um_inc_fol, eq_true c_28, eq_false c_29, eq_true k_43, if_true, if_false]; done) | (simp [um_atR, um_send, um_send2, um_inc_fol, c_28, c_29, k_43]; done)
              exact W.iret (v := (um_st G L p2 j 6)) hx hb hr (fun t ht hW => ⟨⟨(um_st G L p2 j 6), (um_fol G L j p2 v), rfl, hsp, um_B_of ht hP (by rw [hkv]; decide) rfl rfl rfl rfl rfl⟩, hS.F ht⟩) hS.2.2 dX2_at_157
            by_cases k_44 : p3 = 7
            · refine lv_tableIn (tgt := 158) hx hb dX2_at_66 (by rw [k_44]; decide) (by rw [k_44]; decide) (by rw [k_44]; rfl) (by decide) ?_
              refine lv_aload_n hx hb dX2_at_158 rfl (lv_at hl 0 rfl) ?_
              refine um_get (x := (um_st G L p2 j 7)) hx hb htb us_inX2 hown hK hP 7 (by decide) (htb _ mw_440) (um_fol_ag (by decide)) dX2_at_159 ?_
              have hkv : um_atK p1 p2 p3 nu = 0 := by first | (simp only [um_atK, eq_false c_4, eq_false c_20, eq_false c_24, eq_true c_28, eq_false c_29, eq_true k_44, if_true, if_false]; done) | (simp [um_atK, c_4, c_20, c_24, c_28, c_29, k_44]; done)
              have hsp : um_atK p1 p2 p3 nu = 0 → (um_st G L p2 j 7) = um_atR G L nu p1.toNatClampNeg p2 p3 := by intro _; rw [ej, nI_clamp (by omega)]; first | (simp only [um_atR, um_send, um_send2, um_inc_fol, eq_true c_28, eq_false c_29, eq_true k_44, if_true, if_false]; done) | (simp [um_atR, um_send, um_send2, um_inc_fol, c_28, c_29, k_44]; done)
              exact W.iret (v := (um_st G L p2 j 7)) hx hb hr (fun t ht hW => ⟨⟨(um_st G L p2 j 7), (um_fol G L j p2 v), rfl, hsp, um_B_of ht hP (by rw [hkv]; decide) rfl rfl rfl rfl rfl⟩, hS.F ht⟩) hS.2.2 dX2_at_162
            have hout_66 : p3.toInt < 0 ∨ 7 < p3.toInt := us_sw (lo := 0) (hi := 7) (fun z h1 h2 => by
              rcases (show z = 0 ∨ z = 1 ∨ z = 2 ∨ z = 3 ∨ z = 4 ∨ z = 5 ∨ z = 6 ∨ z = 7 by omega) with rfl | rfl | rfl | rfl | rfl | rfl | rfl | rfl
              · exact fun e => k_33 (e.trans (by decide))
              · exact fun e => k_34 (e.trans (by decide))
              · exact fun e => k_35 (e.trans (by decide))
              · exact fun e => k_37 (e.trans (by decide))
              · exact fun e => k_41 (e.trans (by decide))
              · exact fun e => k_42 (e.trans (by decide))
              · exact fun e => k_43 (e.trans (by decide))
              · exact fun e => k_44 (e.trans (by decide)))
            refine lv_tableOut (tgt := 163) hx hb dX2_at_66 hout_66 (by decide) ?_
            refine lv_aload_n hx hb dX2_at_163 rfl (lv_at hl 0 rfl) ?_
            refine um_get (x := (um_st G L p2 j 0)) hx hb htb us_inX2 hown hK hP 0 (by decide) (htb _ mw_433) (um_fol_ag (by decide)) dX2_at_164 ?_
            refine lv_if_eq (tgt := 187) hx hb dX2_at_167 (by decide) (fun c_45 => ?_) (fun c_45 => ?_)
            · refine lv_aload_n hx hb dX2_at_187 rfl (lv_at hl 0 rfl) ?_
              refine um_get (x := (um_st G L p2 j 4)) hx hb htb us_inX2 hown hK hP 4 (by decide) (htb _ mw_437) (um_fol_ag (by decide)) dX2_at_188 ?_
              refine lv_aload_n hx hb dX2_at_191 rfl (lv_at hl 0 rfl) ?_
              refine va_get (D := (dC, dI)) (ci := 2) (v := .ref (md 2)) (C := RX2) (T := TX2) (N := 23) hx hb htb us_inX2 hown hK hP 0 rfl rfl 3 (by decide) (htb _ mw_426) (fun _ h9 => h9) rfl dX2_at_192 ?_
              refine lv_iload_n hx hb dX2_at_195 rfl (lv_at hl 1 rfl) ?_
              refine lv_topi (fun i9 ei9 => ?_)
              have ei9 := ei9.trans ej
              subst ei9
              refine us_iald (f := (G 1)) hx hb hK hP 2 0 rfl rfl hj3 (by decide) dX2_at_196 ?_
              refine lv_icmp_lt (tgt := 222) hx hb dX2_at_197 (by decide) (fun c_46 => ?_) (fun c_46 => ?_)
              · refine lv_iconst (v := 0) hx hb dX2_at_222 (by decide) ?_
                have hkv : um_atK p1 p2 p3 nu = 0 := by first | (simp only [um_atK, eq_false c_4, eq_false c_20, eq_false c_24, eq_true c_28, eq_false c_29, eq_false k_33, eq_false k_34, eq_false k_35, eq_false k_37, eq_false k_41, eq_false k_42, eq_false k_43, eq_false k_44, eq_true c_45, eq_true c_46, if_true, if_false]; done) | (simp [um_atK, c_4, c_20, c_24, c_28, c_29, k_33, k_34, k_35, k_37, k_41, k_42, k_43, k_44, c_45, c_46]; done)
                have hsp : um_atK p1 p2 p3 nu = 0 → 0 = um_atR G L nu p1.toNatClampNeg p2 p3 := by intro _; rw [ej, nI_clamp (by omega)]; first | (simp only [um_atR, um_send, um_send2, um_inc_fol, eq_true c_28, eq_false c_29, eq_false k_33, eq_false k_34, eq_false k_35, eq_false k_37, eq_false k_41, eq_false k_42, eq_false k_43, eq_false k_44, eq_true c_45, eq_true c_46, if_true, if_false]; done) | (simp [um_atR, um_send, um_send2, um_inc_fol, c_28, c_29, k_33, k_34, k_35, k_37, k_41, k_42, k_43, k_44, c_45, c_46]; done)
                exact W.iret (v := 0) hx hb hr (fun t ht hW => ⟨⟨0, (um_fol G L j p2 v), rfl, hsp, um_B_of ht hP (by rw [hkv]; decide) rfl rfl rfl rfl rfl⟩, hS.F ht⟩) hS.2.2 dX2_at_223
              · refine lv_aload_n hx hb dX2_at_200 rfl (lv_at hl 0 rfl) ?_
                refine um_get (x := (um_st G L p2 j 6)) hx hb htb us_inX2 hown hK hP 6 (by decide) (htb _ mw_439) (um_fol_ag (by decide)) dX2_at_201 ?_
                refine lv_iconst (v := 1) hx hb dX2_at_204 (by decide) ?_
                refine lv_icmp_ne (tgt := 222) hx hb dX2_at_205 (by decide) (fun c_47 => ?_) (fun c_47 => ?_)
                · refine lv_iconst (v := 0) hx hb dX2_at_222 (by decide) ?_
                  have hkv : um_atK p1 p2 p3 nu = 0 := by first | (simp only [um_atK, eq_false c_4, eq_false c_20, eq_false c_24, eq_true c_28, eq_false c_29, eq_false k_33, eq_false k_34, eq_false k_35, eq_false k_37, eq_false k_41, eq_false k_42, eq_false k_43, eq_false k_44, eq_true c_45, eq_false c_46, eq_false c_47, if_true, if_false]; done) | (simp [um_atK, c_4, c_20, c_24, c_28, c_29, k_33, k_34, k_35, k_37, k_41, k_42, k_43, k_44, c_45, c_46, c_47]; done)
                  have hsp : um_atK p1 p2 p3 nu = 0 → 0 = um_atR G L nu p1.toNatClampNeg p2 p3 := by intro _; rw [ej, nI_clamp (by omega)]; first | (simp only [um_atR, um_send, um_send2, um_inc_fol, eq_true c_28, eq_false c_29, eq_false k_33, eq_false k_34, eq_false k_35, eq_false k_37, eq_false k_41, eq_false k_42, eq_false k_43, eq_false k_44, eq_true c_45, eq_false c_46, eq_false c_47, if_true, if_false]; done) | (simp [um_atR, um_send, um_send2, um_inc_fol, c_28, c_29, k_33, k_34, k_35, k_37, k_41, k_42, k_43, k_44, c_45, c_46, c_47]; done)
                  exact W.iret (v := 0) hx hb hr (fun t ht hW => ⟨⟨0, (um_fol G L j p2 v), rfl, hsp, um_B_of ht hP (by rw [hkv]; decide) rfl rfl rfl rfl rfl⟩, hS.F ht⟩) hS.2.2 dX2_at_223
                · refine lv_aload_n hx hb dX2_at_208 rfl (lv_at hl 0 rfl) ?_
                  refine um_get (x := (um_st G L p2 j 7)) hx hb htb us_inX2 hown hK hP 7 (by decide) (htb _ mw_440) (um_fol_ag (by decide)) dX2_at_209 ?_
                  refine lv_sipush (v := 240) hx hb dX2_at_212 (by decide) ?_
                  refine lv_icmp_ge (tgt := 222) hx hb dX2_at_215 (by decide) (fun c_48 => ?_) (fun c_48 => ?_)
                  · refine lv_iconst (v := 0) hx hb dX2_at_222 (by decide) ?_
                    have hkv : um_atK p1 p2 p3 nu = 0 := by first | (simp only [um_atK, eq_false c_4, eq_false c_20, eq_false c_24, eq_true c_28, eq_false c_29, eq_false k_33, eq_false k_34, eq_false k_35, eq_false k_37, eq_false k_41, eq_false k_42, eq_false k_43, eq_false k_44, eq_true c_45, eq_false c_46, eq_true c_47, eq_true c_48, if_true, if_false]; done) | (simp [um_atK, c_4, c_20, c_24, c_28, c_29, k_33, k_34, k_35, k_37, k_41, k_42, k_43, k_44, c_45, c_46, c_47, c_48]; done)
                    have hsp : um_atK p1 p2 p3 nu = 0 → 0 = um_atR G L nu p1.toNatClampNeg p2 p3 := by intro _; rw [ej, nI_clamp (by omega)]; first | (simp only [um_atR, um_send, um_send2, um_inc_fol, eq_true c_28, eq_false c_29, eq_false k_33, eq_false k_34, eq_false k_35, eq_false k_37, eq_false k_41, eq_false k_42, eq_false k_43, eq_false k_44, eq_true c_45, eq_false c_46, eq_true c_47, eq_true c_48, if_true, if_false]; done) | (simp [um_atR, um_send, um_send2, um_inc_fol, c_28, c_29, k_33, k_34, k_35, k_37, k_41, k_42, k_43, k_44, c_45, c_46, c_47, c_48]; done)
                    exact W.iret (v := 0) hx hb hr (fun t ht hW => ⟨⟨0, (um_fol G L j p2 v), rfl, hsp, um_B_of ht hP (by rw [hkv]; decide) rfl rfl rfl rfl rfl⟩, hS.F ht⟩) hS.2.2 dX2_at_223
                  · refine lv_iconst (v := 1) hx hb dX2_at_218 (by decide) ?_
                    refine lv_goto (tgt := 223) hx hb dX2_at_219 (by decide) ?_
                    have hkv : um_atK p1 p2 p3 nu = 0 := by first | (simp only [um_atK, eq_false c_4, eq_false c_20, eq_false c_24, eq_true c_28, eq_false c_29, eq_false k_33, eq_false k_34, eq_false k_35, eq_false k_37, eq_false k_41, eq_false k_42, eq_false k_43, eq_false k_44, eq_true c_45, eq_false c_46, eq_true c_47, eq_false c_48, if_true, if_false]; done) | (simp [um_atK, c_4, c_20, c_24, c_28, c_29, k_33, k_34, k_35, k_37, k_41, k_42, k_43, k_44, c_45, c_46, c_47, c_48]; done)
                    have hsp : um_atK p1 p2 p3 nu = 0 → 1 = um_atR G L nu p1.toNatClampNeg p2 p3 := by intro _; rw [ej, nI_clamp (by omega)]; first | (simp only [um_atR, um_send, um_send2, um_inc_fol, eq_true c_28, eq_false c_29, eq_false k_33, eq_false k_34, eq_false k_35, eq_false k_37, eq_false k_41, eq_false k_42, eq_false k_43, eq_false k_44, eq_true c_45, eq_false c_46, eq_true c_47, eq_false c_48, if_true, if_false]; done) | (simp [um_atR, um_send, um_send2, um_inc_fol, c_28, c_29, k_33, k_34, k_35, k_37, k_41, k_42, k_43, k_44, c_45, c_46, c_47, c_48]; done)
                    exact W.iret (v := 1) hx hb hr (fun t ht hW => ⟨⟨1, (um_fol G L j p2 v), rfl, hsp, um_B_of ht hP (by rw [hkv]; decide) rfl rfl rfl rfl rfl⟩, hS.F ht⟩) hS.2.2 dX2_at_223
            · refine lv_aload_n hx hb dX2_at_170 rfl (lv_at hl 0 rfl) ?_
              refine um_get (x := (um_st G L p2 j 0)) hx hb htb us_inX2 hown hK hP 0 (by decide) (htb _ mw_433) (um_fol_ag (by decide)) dX2_at_171 ?_
              refine lv_iconst (v := 5) hx hb dX2_at_174 (by decide) ?_
              refine lv_icmp_eq (tgt := 187) hx hb dX2_at_175 (by decide) (fun c_49 => ?_) (fun c_49 => ?_)
              · refine lv_aload_n hx hb dX2_at_187 rfl (lv_at hl 0 rfl) ?_
                refine um_get (x := (um_st G L p2 j 4)) hx hb htb us_inX2 hown hK hP 4 (by decide) (htb _ mw_437) (um_fol_ag (by decide)) dX2_at_188 ?_
                refine lv_aload_n hx hb dX2_at_191 rfl (lv_at hl 0 rfl) ?_
                refine va_get (D := (dC, dI)) (ci := 2) (v := .ref (md 2)) (C := RX2) (T := TX2) (N := 23) hx hb htb us_inX2 hown hK hP 0 rfl rfl 3 (by decide) (htb _ mw_426) (fun _ h9 => h9) rfl dX2_at_192 ?_
                refine lv_iload_n hx hb dX2_at_195 rfl (lv_at hl 1 rfl) ?_
                refine lv_topi (fun i9 ei9 => ?_)
                have ei9 := ei9.trans ej
                subst ei9
                refine us_iald (f := (G 1)) hx hb hK hP 2 0 rfl rfl hj3 (by decide) dX2_at_196 ?_
                refine lv_icmp_lt (tgt := 222) hx hb dX2_at_197 (by decide) (fun c_50 => ?_) (fun c_50 => ?_)
                · refine lv_iconst (v := 0) hx hb dX2_at_222 (by decide) ?_
                  have hkv : um_atK p1 p2 p3 nu = 0 := by first | (simp only [um_atK, eq_false c_4, eq_false c_20, eq_false c_24, eq_true c_28, eq_false c_29, eq_false k_33, eq_false k_34, eq_false k_35, eq_false k_37, eq_false k_41, eq_false k_42, eq_false k_43, eq_false k_44, eq_false c_45, eq_true c_49, eq_true c_50, if_true, if_false]; done) | (simp [um_atK, c_4, c_20, c_24, c_28, c_29, k_33, k_34, k_35, k_37, k_41, k_42, k_43, k_44, c_45, c_49, c_50]; done)
                  have hsp : um_atK p1 p2 p3 nu = 0 → 0 = um_atR G L nu p1.toNatClampNeg p2 p3 := by intro _; rw [ej, nI_clamp (by omega)]; first | (simp only [um_atR, um_send, um_send2, um_inc_fol, eq_true c_28, eq_false c_29, eq_false k_33, eq_false k_34, eq_false k_35, eq_false k_37, eq_false k_41, eq_false k_42, eq_false k_43, eq_false k_44, eq_false c_45, eq_true c_49, eq_true c_50, if_true, if_false]; done) | (simp [um_atR, um_send, um_send2, um_inc_fol, c_28, c_29, k_33, k_34, k_35, k_37, k_41, k_42, k_43, k_44, c_45, c_49, c_50]; done)
                  exact W.iret (v := 0) hx hb hr (fun t ht hW => ⟨⟨0, (um_fol G L j p2 v), rfl, hsp, um_B_of ht hP (by rw [hkv]; decide) rfl rfl rfl rfl rfl⟩, hS.F ht⟩) hS.2.2 dX2_at_223
                · refine lv_aload_n hx hb dX2_at_200 rfl (lv_at hl 0 rfl) ?_
                  refine um_get (x := (um_st G L p2 j 6)) hx hb htb us_inX2 hown hK hP 6 (by decide) (htb _ mw_439) (um_fol_ag (by decide)) dX2_at_201 ?_
                  refine lv_iconst (v := 1) hx hb dX2_at_204 (by decide) ?_
                  refine lv_icmp_ne (tgt := 222) hx hb dX2_at_205 (by decide) (fun c_51 => ?_) (fun c_51 => ?_)
                  · refine lv_iconst (v := 0) hx hb dX2_at_222 (by decide) ?_
                    have hkv : um_atK p1 p2 p3 nu = 0 := by first | (simp only [um_atK, eq_false c_4, eq_false c_20, eq_false c_24, eq_true c_28, eq_false c_29, eq_false k_33, eq_false k_34, eq_false k_35, eq_false k_37, eq_false k_41, eq_false k_42, eq_false k_43, eq_false k_44, eq_false c_45, eq_true c_49, eq_false c_50, eq_false c_51, if_true, if_false]; done) | (simp [um_atK, c_4, c_20, c_24, c_28, c_29, k_33, k_34, k_35, k_37, k_41, k_42, k_43, k_44, c_45, c_49, c_50, c_51]; done)
                    have hsp : um_atK p1 p2 p3 nu = 0 → 0 = um_atR G L nu p1.toNatClampNeg p2 p3 := by intro _; rw [ej, nI_clamp (by omega)]; first | (simp only [um_atR, um_send, um_send2, um_inc_fol, eq_true c_28, eq_false c_29, eq_false k_33, eq_false k_34, eq_false k_35, eq_false k_37, eq_false k_41, eq_false k_42, eq_false k_43, eq_false k_44, eq_false c_45, eq_true c_49, eq_false c_50, eq_false c_51, if_true, if_false]; done) | (simp [um_atR, um_send, um_send2, um_inc_fol, c_28, c_29, k_33, k_34, k_35, k_37, k_41, k_42, k_43, k_44, c_45, c_49, c_50, c_51]; done)
                    exact W.iret (v := 0) hx hb hr (fun t ht hW => ⟨⟨0, (um_fol G L j p2 v), rfl, hsp, um_B_of ht hP (by rw [hkv]; decide) rfl rfl rfl rfl rfl⟩, hS.F ht⟩) hS.2.2 dX2_at_223
                  · refine lv_aload_n hx hb dX2_at_208 rfl (lv_at hl 0 rfl) ?_
                    refine um_get (x := (um_st G L p2 j 7)) hx hb htb us_inX2 hown hK hP 7 (by decide) (htb _ mw_440) (um_fol_ag (by decide)) dX2_at_209 ?_
                    refine lv_sipush (v := 240) hx hb dX2_at_212 (by decide) ?_
                    refine lv_icmp_ge (tgt := 222) hx hb dX2_at_215 (by decide) (fun c_52 => ?_) (fun c_52 => ?_)
                    · refine lv_iconst (v := 0) hx hb dX2_at_222 (by decide) ?_
                      have hkv : um_atK p1 p2 p3 nu = 0 := by first | (simp only [um_atK, eq_false c_4, eq_false c_20, eq_false c_24, eq_true c_28, eq_false c_29, eq_false k_33, eq_false k_34, eq_false k_35, eq_false k_37, eq_false k_41, eq_false k_42, eq_false k_43, eq_false k_44, eq_false c_45, eq_true c_49, eq_false c_50, eq_true c_51, eq_true c_52, if_true, if_false]; done) | (simp [um_atK, c_4, c_20, c_24, c_28, c_29, k_33, k_34, k_35, k_37, k_41, k_42, k_43, k_44, c_45, c_49, c_50, c_51, c_52]; done)
                      have hsp : um_atK p1 p2 p3 nu = 0 → 0 = um_atR G L nu p1.toNatClampNeg p2 p3 := by intro _; rw [ej, nI_clamp (by omega)]; first | (simp only [um_atR, um_send, um_send2, um_inc_fol, eq_true c_28, eq_false c_29, eq_false k_33, eq_false k_34, eq_false k_35, eq_false k_37, eq_false k_41, eq_false k_42, eq_false k_43, eq_false k_44, eq_false c_45, eq_true c_49, eq_false c_50, eq_true c_51, eq_true c_52, if_true, if_false]; done) | (simp [um_atR, um_send, um_send2, um_inc_fol, c_28, c_29, k_33, k_34, k_35, k_37, k_41, k_42, k_43, k_44, c_45, c_49, c_50, c_51, c_52]; done)
                      exact W.iret (v := 0) hx hb hr (fun t ht hW => ⟨⟨0, (um_fol G L j p2 v), rfl, hsp, um_B_of ht hP (by rw [hkv]; decide) rfl rfl rfl rfl rfl⟩, hS.F ht⟩) hS.2.2 dX2_at_223
                    · refine lv_iconst (v := 1) hx hb dX2_at_218 (by decide) ?_
                      refine lv_goto (tgt := 223) hx hb dX2_at_219 (by decide) ?_
                      have hkv : um_atK p1 p2 p3 nu = 0 := by first | (simp only [um_atK, eq_false c_4, eq_false c_20, eq_false c_24, eq_true c_28, eq_false c_29, eq_false k_33, eq_false k_34, eq_false k_35, eq_false k_37, eq_false k_41, eq_false k_42, eq_false k_43, eq_false k_44, eq_false c_45, eq_true c_49, eq_false c_50, eq_true c_51, eq_false c_52, if_true, if_false]; done) | (simp [um_atK, c_4, c_20, c_24, c_28, c_29, k_33, k_34, k_35, k_37, k_41, k_42, k_43, k_44, c_45, c_49, c_50, c_51, c_52]; done)
                      have hsp : um_atK p1 p2 p3 nu = 0 → 1 = um_atR G L nu p1.toNatClampNeg p2 p3 := by intro _; rw [ej, nI_clamp (by omega)]; first | (simp only [um_atR, um_send, um_send2, um_inc_fol, eq_true c_28, eq_false c_29, eq_false k_33, eq_false k_34, eq_false k_35, eq_false k_37, eq_false k_41, eq_false k_42, eq_false k_43, eq_false k_44, eq_false c_45, eq_true c_49, eq_false c_50, eq_true c_51, eq_false c_52, if_true, if_false]; done) | (simp [um_atR, um_send, um_send2, um_inc_fol, c_28, c_29, k_33, k_34, k_35, k_37, k_41, k_42, k_43, k_44, c_45, c_49, c_50, c_51, c_52]; done)
                      exact W.iret (v := 1) hx hb hr (fun t ht hW => ⟨⟨1, (um_fol G L j p2 v), rfl, hsp, um_B_of ht hP (by rw [hkv]; decide) rfl rfl rfl rfl rfl⟩, hS.F ht⟩) hS.2.2 dX2_at_223
              · refine lv_aload_n hx hb dX2_at_178 rfl (lv_at hl 0 rfl) ?_
                refine um_get (x := (um_st G L p2 j 0)) hx hb htb us_inX2 hown hK hP 0 (by decide) (htb _ mw_433) (um_fol_ag (by decide)) dX2_at_179 ?_
                refine lv_bipush (v := 6) hx hb dX2_at_182 (by decide) ?_
                refine lv_icmp_ne (tgt := 222) hx hb dX2_at_184 (by decide) (fun c_53 => ?_) (fun c_53 => ?_)
                · refine lv_iconst (v := 0) hx hb dX2_at_222 (by decide) ?_
                  have hkv : um_atK p1 p2 p3 nu = 0 := by first | (simp only [um_atK, eq_false c_4, eq_false c_20, eq_false c_24, eq_true c_28, eq_false c_29, eq_false k_33, eq_false k_34, eq_false k_35, eq_false k_37, eq_false k_41, eq_false k_42, eq_false k_43, eq_false k_44, eq_false c_45, eq_false c_49, eq_false c_53, if_true, if_false]; done) | (simp [um_atK, c_4, c_20, c_24, c_28, c_29, k_33, k_34, k_35, k_37, k_41, k_42, k_43, k_44, c_45, c_49, c_53]; done)
                  have hsp : um_atK p1 p2 p3 nu = 0 → 0 = um_atR G L nu p1.toNatClampNeg p2 p3 := by intro _; rw [ej, nI_clamp (by omega)]; first | (simp only [um_atR, um_send, um_send2, um_inc_fol, eq_true c_28, eq_false c_29, eq_false k_33, eq_false k_34, eq_false k_35, eq_false k_37, eq_false k_41, eq_false k_42, eq_false k_43, eq_false k_44, eq_false c_45, eq_false c_49, eq_false c_53, if_true, if_false]; done) | (simp [um_atR, um_send, um_send2, um_inc_fol, c_28, c_29, k_33, k_34, k_35, k_37, k_41, k_42, k_43, k_44, c_45, c_49, c_53]; done)
                  exact W.iret (v := 0) hx hb hr (fun t ht hW => ⟨⟨0, (um_fol G L j p2 v), rfl, hsp, um_B_of ht hP (by rw [hkv]; decide) rfl rfl rfl rfl rfl⟩, hS.F ht⟩) hS.2.2 dX2_at_223
                · refine lv_aload_n hx hb dX2_at_187 rfl (lv_at hl 0 rfl) ?_
                  refine um_get (x := (um_st G L p2 j 4)) hx hb htb us_inX2 hown hK hP 4 (by decide) (htb _ mw_437) (um_fol_ag (by decide)) dX2_at_188 ?_
                  refine lv_aload_n hx hb dX2_at_191 rfl (lv_at hl 0 rfl) ?_
                  refine va_get (D := (dC, dI)) (ci := 2) (v := .ref (md 2)) (C := RX2) (T := TX2) (N := 23) hx hb htb us_inX2 hown hK hP 0 rfl rfl 3 (by decide) (htb _ mw_426) (fun _ h9 => h9) rfl dX2_at_192 ?_
                  refine lv_iload_n hx hb dX2_at_195 rfl (lv_at hl 1 rfl) ?_
                  refine lv_topi (fun i9 ei9 => ?_)
                  have ei9 := ei9.trans ej
                  subst ei9
                  refine us_iald (f := (G 1)) hx hb hK hP 2 0 rfl rfl hj3 (by decide) dX2_at_196 ?_
                  refine lv_icmp_lt (tgt := 222) hx hb dX2_at_197 (by decide) (fun c_54 => ?_) (fun c_54 => ?_)
                  · refine lv_iconst (v := 0) hx hb dX2_at_222 (by decide) ?_
                    have hkv : um_atK p1 p2 p3 nu = 0 := by first | (simp only [um_atK, eq_false c_4, eq_false c_20, eq_false c_24, eq_true c_28, eq_false c_29, eq_false k_33, eq_false k_34, eq_false k_35, eq_false k_37, eq_false k_41, eq_false k_42, eq_false k_43, eq_false k_44, eq_false c_45, eq_false c_49, eq_true c_53, eq_true c_54, if_true, if_false]; done) | (simp [um_atK, c_4, c_20, c_24, c_28, c_29, k_33, k_34, k_35, k_37, k_41, k_42, k_43, k_44, c_45, c_49, c_53, c_54]; done)
                    have hsp : um_atK p1 p2 p3 nu = 0 → 0 = um_atR G L nu p1.toNatClampNeg p2 p3 := by intro _; rw [ej, nI_clamp (by omega)]; first | (simp only [um_atR, um_send, um_send2, um_inc_fol, eq_true c_28, eq_false c_29, eq_false k_33, eq_false k_34, eq_false k_35, eq_false k_37, eq_false k_41, eq_false k_42, eq_false k_43, eq_false k_44, eq_false c_45, eq_false c_49, eq_true c_53, eq_true c_54, if_true, if_false]; done) | (simp [um_atR, um_send, um_send2, um_inc_fol, c_28, c_29, k_33, k_34, k_35, k_37, k_41, k_42, k_43, k_44, c_45, c_49, c_53, c_54]; done)
                    exact W.iret (v := 0) hx hb hr (fun t ht hW => ⟨⟨0, (um_fol G L j p2 v), rfl, hsp, um_B_of ht hP (by rw [hkv]; decide) rfl rfl rfl rfl rfl⟩, hS.F ht⟩) hS.2.2 dX2_at_223
                  · refine lv_aload_n hx hb dX2_at_200 rfl (lv_at hl 0 rfl) ?_
                    refine um_get (x := (um_st G L p2 j 6)) hx hb htb us_inX2 hown hK hP 6 (by decide) (htb _ mw_439) (um_fol_ag (by decide)) dX2_at_201 ?_
                    refine lv_iconst (v := 1) hx hb dX2_at_204 (by decide) ?_
                    refine lv_icmp_ne (tgt := 222) hx hb dX2_at_205 (by decide) (fun c_55 => ?_) (fun c_55 => ?_)
                    · refine lv_iconst (v := 0) hx hb dX2_at_222 (by decide) ?_
                      have hkv : um_atK p1 p2 p3 nu = 0 := by first | (simp only [um_atK, eq_false c_4, eq_false c_20, eq_false c_24, eq_true c_28, eq_false c_29, eq_false k_33, eq_false k_34, eq_false k_35, eq_false k_37, eq_false k_41, eq_false k_42, eq_false k_43, eq_false k_44, eq_false c_45, eq_false c_49, eq_true c_53, eq_false c_54, eq_false c_55, if_true, if_false]; done) | (simp [um_atK, c_4, c_20, c_24, c_28, c_29, k_33, k_34, k_35, k_37, k_41, k_42, k_43, k_44, c_45, c_49, c_53, c_54, c_55]; done)
                      have hsp : um_atK p1 p2 p3 nu = 0 → 0 = um_atR G L nu p1.toNatClampNeg p2 p3 := by intro _; rw [ej, nI_clamp (by omega)]; first | (simp only [um_atR, um_send, um_send2, um_inc_fol, eq_true c_28, eq_false c_29, eq_false k_33, eq_false k_34, eq_false k_35, eq_false k_37, eq_false k_41, eq_false k_42, eq_false k_43, eq_false k_44, eq_false c_45, eq_false c_49, eq_true c_53, eq_false c_54, eq_false c_55, if_true, if_false]; done) | (simp [um_atR, um_send, um_send2, um_inc_fol, c_28, c_29, k_33, k_34, k_35, k_37, k_41, k_42, k_43, k_44, c_45, c_49, c_53, c_54, c_55]; done)
                      exact W.iret (v := 0) hx hb hr (fun t ht hW => ⟨⟨0, (um_fol G L j p2 v), rfl, hsp, um_B_of ht hP (by rw [hkv]; decide) rfl rfl rfl rfl rfl⟩, hS.F ht⟩) hS.2.2 dX2_at_223
                    · refine lv_aload_n hx hb dX2_at_208 rfl (lv_at hl 0 rfl) ?_
                      refine um_get (x := (um_st G L p2 j 7)) hx hb htb us_inX2 hown hK hP 7 (by decide) (htb _ mw_440) (um_fol_ag (by decide)) dX2_at_209 ?_
                      refine lv_sipush (v := 240) hx hb dX2_at_212 (by decide) ?_
                      refine lv_icmp_ge (tgt := 222) hx hb dX2_at_215 (by decide) (fun c_56 => ?_) (fun c_56 => ?_)
                      · refine lv_iconst (v := 0) hx hb dX2_at_222 (by decide) ?_
                        have hkv : um_atK p1 p2 p3 nu = 0 := by first | (simp only [um_atK, eq_false c_4, eq_false c_20, eq_false c_24, eq_true c_28, eq_false c_29, eq_false k_33, eq_false k_34, eq_false k_35, eq_false k_37, eq_false k_41, eq_false k_42, eq_false k_43, eq_false k_44, eq_false c_45, eq_false c_49, eq_true c_53, eq_false c_54, eq_true c_55, eq_true c_56, if_true, if_false]; done) | (simp [um_atK, c_4, c_20, c_24, c_28, c_29, k_33, k_34, k_35, k_37, k_41, k_42, k_43, k_44, c_45, c_49, c_53, c_54, c_55, c_56]; done)
                        have hsp : um_atK p1 p2 p3 nu = 0 → 0 = um_atR G L nu p1.toNatClampNeg p2 p3 := by intro _; rw [ej, nI_clamp (by omega)]; first | (simp only [um_atR, um_send, um_send2, um_inc_fol, eq_true c_28, eq_false c_29, eq_false k_33, eq_false k_34, eq_false k_35, eq_false k_37, eq_false k_41, eq_false k_42, eq_false k_43, eq_false k_44, eq_false c_45, eq_false c_49, eq_true c_53, eq_false c_54, eq_true c_55, eq_true c_56, if_true, if_false]; done) | (simp [um_atR, um_send, um_send2, um_inc_fol, c_28, c_29, k_33, k_34, k_35, k_37, k_41, k_42, k_43, k_44, c_45, c_49, c_53, c_54, c_55, c_56]; done)
                        exact W.iret (v := 0) hx hb hr (fun t ht hW => ⟨⟨0, (um_fol G L j p2 v), rfl, hsp, um_B_of ht hP (by rw [hkv]; decide) rfl rfl rfl rfl rfl⟩, hS.F ht⟩) hS.2.2 dX2_at_223
                      · refine lv_iconst (v := 1) hx hb dX2_at_218 (by decide) ?_
                        refine lv_goto (tgt := 223) hx hb dX2_at_219 (by decide) ?_
                        have hkv : um_atK p1 p2 p3 nu = 0 := by first | (simp only [um_atK, eq_false c_4, eq_false c_20, eq_false c_24, eq_true c_28, eq_false c_29, eq_false k_33, eq_false k_34, eq_false k_35, eq_false k_37, eq_false k_41, eq_false k_42, eq_false k_43, eq_false k_44, eq_false c_45, eq_false c_49, eq_true c_53, eq_false c_54, eq_true c_55, eq_false c_56, if_true, if_false]; done) | (simp [um_atK, c_4, c_20, c_24, c_28, c_29, k_33, k_34, k_35, k_37, k_41, k_42, k_43, k_44, c_45, c_49, c_53, c_54, c_55, c_56]; done)
                        have hsp : um_atK p1 p2 p3 nu = 0 → 1 = um_atR G L nu p1.toNatClampNeg p2 p3 := by intro _; rw [ej, nI_clamp (by omega)]; first | (simp only [um_atR, um_send, um_send2, um_inc_fol, eq_true c_28, eq_false c_29, eq_false k_33, eq_false k_34, eq_false k_35, eq_false k_37, eq_false k_41, eq_false k_42, eq_false k_43, eq_false k_44, eq_false c_45, eq_false c_49, eq_true c_53, eq_false c_54, eq_true c_55, eq_false c_56, if_true, if_false]; done) | (simp [um_atR, um_send, um_send2, um_inc_fol, c_28, c_29, k_33, k_34, k_35, k_37, k_41, k_42, k_43, k_44, c_45, c_49, c_53, c_54, c_55, c_56]; done)
                        exact W.iret (v := 1) hx hb hr (fun t ht hW => ⟨⟨1, (um_fol G L j p2 v), rfl, hsp, um_B_of ht hP (by rw [hkv]; decide) rfl rfl rfl rfl rfl⟩, hS.F ht⟩) hS.2.2 dX2_at_223
          · refine lv_aload_n hx hb dX2_at_51 rfl (lv_at hl 0 rfl) ?_
            refine lv_iload_n hx hb dX2_at_52 rfl (lv_at hl 1 rfl) ?_
            refine lv_topi (fun i9 ei9 => ?_)
            have ei9 := ei9.trans ej
            subst ei9
            refine lv_iload_n hx hb dX2_at_53 rfl (lv_at hl 2 rfl) ?_
            refine va_calli (va_runV (As := [.int (nI j), .int p2]) (rest := []) ⟨hx, hb, hml, hown, htb⟩ (kt_X2_rank l dC dI md cI H_25.size (um_th 0 0 0) nu nm sk G v j p2 L hnu hnm hL hAr hj) (cwV 2 htb (us_gV mw_528 mw_530 mw_22 mw_34 mw_531) rfl rfl rfl (by decide +kernel) ⟨Nat.le_of_ble_eq_true rfl, Nat.le_of_ble_eq_true rfl⟩) ⟨um_P_blind, va_recv hK hP (ci := 2) (q0 := 0) rfl rfl, fun U hU hW => ⟨rfl, um_P_at hP hK hD hU hW⟩⟩ rfl rfl hl.1 rfl (lv_room (Nat.le_of_ble_eq_true rfl)) dX2_at_54 ⟨Nat.le_of_ble_eq_true rfl, Nat.le_of_ble_eq_true rfl⟩) hS (fun q _ h => us_AA_le hS q h) (us_AA_le hS) (fun r_58 v_60 t_59 H_57 locs ht hvm hw hB hz1 hk1 hS => ?_)
            subst hw
            have hP := um_B_use ht hB
            have hD : va_D (us_AA (um_ads md) s.heap.size) (um_W md cI (um_th 0 0 0) nu nm sk G v_60) := us_D_of (by rw [um_W_adr, um_W_adr]) hD
            have hP : va_P (dC, dI) vwCl (um_W md cI (um_th 0 0 0) nu nm sk G v_60) H_57 := hP
            have hkv : um_atK p1 p2 p3 nu = 0 := by first | (simp only [um_atK, eq_false c_4, eq_false c_20, eq_false c_24, eq_true c_28, eq_true c_29, if_true, if_false]; done) | (simp [um_atK, c_4, c_20, c_24, c_28, c_29]; done)
            have hsp : um_atK p1 p2 p3 nu = 0 → (um_rank G L nu p2 j) = um_atR G L nu p1.toNatClampNeg p2 p3 := by intro _; rw [ej, nI_clamp (by omega)]; first | (simp only [um_atR, um_send, um_send2, um_inc_fol, eq_true c_28, eq_true c_29, if_true, if_false]; done) | (simp [um_atR, um_send, um_send2, um_inc_fol, c_28, c_29]; done)
            exact W.iret (v := (um_rank G L nu p2 j)) hx hb hr (fun t ht hW => ⟨⟨(um_rank G L nu p2 j), v_60, rfl, hsp, um_B_of ht hP (by rw [hkv]; decide) rfl rfl rfl rfl rfl⟩, hS.F ht⟩) hS.2.2 dX2_at_57
        · exact absurd (by decide) c_28
      · refine lv_iconst (v := 1) hx hb dX2_at_31 (by decide) ?_
        refine lv_goto (tgt := 36) hx hb dX2_at_32 (by decide) ?_
        refine lv_iconst (v := 0) hx hb dX2_at_36 (by decide) ?_
        refine va_calli (va_runV (As := [.int 0, .int 1, .int 0]) (rest := []) ⟨hx, hb, hml, hown, htb⟩ (kt_X2_throwing l dC dI md cI H_21.size th nu nm sk G v 0 1 0) (cwV 3 htb (us_gV mw_504 mw_506 mw_20 mw_34 mw_507) rfl rfl rfl (by decide +kernel) ⟨Nat.le_of_ble_eq_true rfl, Nat.le_of_ble_eq_true rfl⟩) ⟨um_P_blind, va_recv hK hP (ci := 2) (q0 := 0) rfl rfl, fun U hU hW => ⟨rfl, um_P_at hP hK hD hU hW⟩⟩ rfl rfl hl.1 rfl (lv_room (Nat.le_of_ble_eq_true rfl)) dX2_at_37 ⟨Nat.le_of_ble_eq_true rfl, Nat.le_of_ble_eq_true rfl⟩) hS (fun q _ h => us_AA_le hS q h) (us_AA_le hS) (fun r_62 _ t_63 H_61 locs ht hvm hw hB hz1 hk1 hS => ?_)
        subst hw
        have hP := um_B_use ht hB
        have hD : va_D (us_AA (um_ads md) s.heap.size) (um_W md cI (um_th 0 1 0) nu nm sk G v) := us_D_of (by rw [um_W_adr, um_W_adr]) hD
        have hP : va_P (dC, dI) vwCl (um_W md cI (um_th 0 1 0) nu nm sk G v) H_61 := hP
        refine lv_if_eq (tgt := 45) hx hb dX2_at_40 (by decide) (fun c_64 => ?_) (fun c_64 => ?_)
        · exact absurd c_64 (by decide)
        · refine lv_iconst (v := 0) hx hb dX2_at_43 (by decide) ?_
          have hkv : um_atK p1 p2 p3 nu = 2 := by first | (simp only [um_atK, eq_false c_4, eq_false c_20, eq_true c_24, eq_false c_64, if_true, if_false]; done) | (simp [um_atK, c_4, c_20, c_24, c_64]; done)
          have hsp : um_atK p1 p2 p3 nu = 0 → 0 = um_atR G L nu p1.toNatClampNeg p2 p3 := by exact fun h9 => absurd (hkv.symm.trans h9) (by decide)
          exact W.iret (v := 0) hx hb hr (fun t ht hW => ⟨⟨0, v, rfl, hsp, um_B_of ht hP (by rw [hkv]; decide) rfl rfl rfl rfl rfl⟩, hS.F ht⟩) hS.2.2 dX2_at_44
    · refine lv_iconst (v := 1) hx hb dX2_at_19 (by decide) ?_
      refine lv_goto (tgt := 24) hx hb dX2_at_20 (by decide) ?_
      refine lv_iload_n hx hb dX2_at_24 rfl (lv_at hl 2 rfl) ?_
      refine va_calli (va_runS (As := [.int p2]) (rest := [.int 1, .ref (md 0)]) ⟨hx, hb, hml, hown, htb⟩ (kt_X2_isMinute l H_17.size p2) (cwS 1 htb (us_gS mw_516 mw_517 mw_34 mw_518) rfl rfl rfl (by decide +kernel) ⟨Nat.le_of_ble_eq_true rfl, Nat.le_of_ble_eq_true rfl⟩) ⟨us_blind0, fun U hU _ => ⟨rfl, congrArg Array.size hU⟩⟩ rfl rfl hl.1 rfl (lv_room (Nat.le_of_ble_eq_true rfl)) dX2_at_25 ⟨Nat.le_of_ble_eq_true rfl, Nat.le_of_ble_eq_true rfl⟩) hS (fun q h1 h2 => absurd h2 (Nat.not_le.mpr h1)) (fun q h => hA q (Nat.le_trans hS.1 h)) (fun r_66 _ t_67 H_65 locs ht hvm hw hB hz1 hk1 hS => ?_)
      subst hw
      have hP := us_mono hP (fun q h => hk1 q h (Nat.not_le.mpr h))
      refine lv_if_ne (tgt := 35) hx hb dX2_at_28 (by decide) (fun c_68 => ?_) (fun c_68 => ?_)
      · refine lv_iconst (v := 0) hx hb dX2_at_35 (by decide) ?_
        refine lv_iconst (v := 0) hx hb dX2_at_36 (by decide) ?_
        refine va_calli (va_runV (As := [.int 1, .int 0, .int 0]) (rest := []) ⟨hx, hb, hml, hown, htb⟩ (kt_X2_throwing l dC dI md cI H_65.size th nu nm sk G v 1 0 0) (cwV 3 htb (us_gV mw_504 mw_506 mw_20 mw_34 mw_507) rfl rfl rfl (by decide +kernel) ⟨Nat.le_of_ble_eq_true rfl, Nat.le_of_ble_eq_true rfl⟩) ⟨um_P_blind, va_recv hK hP (ci := 2) (q0 := 0) rfl rfl, fun U hU hW => ⟨rfl, um_P_at hP hK hD hU hW⟩⟩ rfl rfl hl.1 rfl (lv_room (Nat.le_of_ble_eq_true rfl)) dX2_at_37 ⟨Nat.le_of_ble_eq_true rfl, Nat.le_of_ble_eq_true rfl⟩) hS (fun q _ h => us_AA_le hS q h) (us_AA_le hS) (fun r_70 _ t_71 H_69 locs ht hvm hw hB hz1 hk1 hS => ?_)
        subst hw
        have hP := um_B_use ht hB
        have hD : va_D (us_AA (um_ads md) s.heap.size) (um_W md cI (um_th 1 0 0) nu nm sk G v) := us_D_of (by rw [um_W_adr, um_W_adr]) hD
        have hP : va_P (dC, dI) vwCl (um_W md cI (um_th 1 0 0) nu nm sk G v) H_69 := hP
        refine lv_if_eq (tgt := 45) hx hb dX2_at_40 (by decide) (fun c_72 => ?_) (fun c_72 => ?_)
        · exact absurd c_72 (by decide)
        · refine lv_iconst (v := 0) hx hb dX2_at_43 (by decide) ?_
          have hkv : um_atK p1 p2 p3 nu = 1 := by first | (simp only [um_atK, eq_false c_4, eq_true c_20, eq_false c_68, eq_false c_72, if_true, if_false]; done) | (simp [um_atK, c_4, c_20, c_68, c_72]; done)
          have hsp : um_atK p1 p2 p3 nu = 0 → 0 = um_atR G L nu p1.toNatClampNeg p2 p3 := by exact fun h9 => absurd (hkv.symm.trans h9) (by decide)
          exact W.iret (v := 0) hx hb hr (fun t ht hW => ⟨⟨0, v, rfl, hsp, um_B_of ht hP (by rw [hkv]; decide) rfl rfl rfl rfl rfl⟩, hS.F ht⟩) hS.2.2 dX2_at_44
      · refine lv_iconst (v := 1) hx hb dX2_at_31 (by decide) ?_
        refine lv_goto (tgt := 36) hx hb dX2_at_32 (by decide) ?_
        refine lv_iconst (v := 0) hx hb dX2_at_36 (by decide) ?_
        refine va_calli (va_runV (As := [.int 1, .int 1, .int 0]) (rest := []) ⟨hx, hb, hml, hown, htb⟩ (kt_X2_throwing l dC dI md cI H_65.size th nu nm sk G v 1 1 0) (cwV 3 htb (us_gV mw_504 mw_506 mw_20 mw_34 mw_507) rfl rfl rfl (by decide +kernel) ⟨Nat.le_of_ble_eq_true rfl, Nat.le_of_ble_eq_true rfl⟩) ⟨um_P_blind, va_recv hK hP (ci := 2) (q0 := 0) rfl rfl, fun U hU hW => ⟨rfl, um_P_at hP hK hD hU hW⟩⟩ rfl rfl hl.1 rfl (lv_room (Nat.le_of_ble_eq_true rfl)) dX2_at_37 ⟨Nat.le_of_ble_eq_true rfl, Nat.le_of_ble_eq_true rfl⟩) hS (fun q _ h => us_AA_le hS q h) (us_AA_le hS) (fun r_74 _ t_75 H_73 locs ht hvm hw hB hz1 hk1 hS => ?_)
        subst hw
        have hP := um_B_use ht hB
        have hD : va_D (us_AA (um_ads md) s.heap.size) (um_W md cI (um_th 1 1 0) nu nm sk G v) := us_D_of (by rw [um_W_adr, um_W_adr]) hD
        have hP : va_P (dC, dI) vwCl (um_W md cI (um_th 1 1 0) nu nm sk G v) H_73 := hP
        refine lv_if_eq (tgt := 45) hx hb dX2_at_40 (by decide) (fun c_76 => ?_) (fun c_76 => ?_)
        · exact absurd c_76 (by decide)
        · refine lv_iconst (v := 0) hx hb dX2_at_43 (by decide) ?_
          have hkv : um_atK p1 p2 p3 nu = 1 := by first | (simp only [um_atK, eq_false c_4, eq_true c_20, eq_true c_68, eq_false c_76, if_true, if_false]; done) | (simp [um_atK, c_4, c_20, c_68, c_76]; done)
          have hsp : um_atK p1 p2 p3 nu = 0 → 0 = um_atR G L nu p1.toNatClampNeg p2 p3 := by exact fun h9 => absurd (hkv.symm.trans h9) (by decide)
          exact W.iret (v := 0) hx hb hr (fun t ht hW => ⟨⟨0, v, rfl, hsp, um_B_of ht hP (by rw [hkv]; decide) rfl rfl rfl rfl rfl⟩, hS.F ht⟩) hS.2.2 dX2_at_44
