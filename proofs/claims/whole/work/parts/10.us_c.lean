set_option maxHeartbeats 8000000 in
set_option maxRecDepth 100000 in
theorem kt_X1_unit (l : Launch) (hl9 : l.stackTraces = false) (dC : Nat → ClassId) (dI : Nat → Nat → Nat) (ad : Nat → Nat) (cU cI : ClassId) (pa : Nat → Nat) (sz : Nat) (nu nm : Nat) (nk : Int32) (F U : Nat → Nat → Int32) (p1 : Int32) (p2 : Int32) (hnu : nu ≤ 30) : vx_Met l yX1_unit wsX1_unit ({ frames := 6, cells := 1, slots := 6, locals := 91 }) (va_Pc [.ref (ad 0), .int p1, .int p2] (us_Px dC dI ad cU cI pa nu nm nk F U (us_AA (us_ads ad pa) sz) sz)) (va_Qi (fun r (_ : Unit) => sp_unitK p1 p2 nu = 0 ∧ r = nI nu) (fun _ t => us_Bx dC dI ad cU cI pa (nu + 1) nm nk F (va_up U nu (sp_settle (U nu) p1 p2)) t) (us_AA (us_ads ad pa) sz)) (vx_X (fun _ : Unit => ¬ sp_unitK p1 p2 nu = 0) (fun E _ t => E = us_en (sp_unitK p1 p2 nu) ∧ us_Bx dC dI ad cU cI pa nu nm nk F U t) (us_AA (us_ads ad pa) sz)) 1 6 (us_AA (us_ads ad pa) sz) := by
  refine vx_ofW (cc := cX1_unit) (maxL := 3) (ret := (some .int)) (by decide) rfl ?_
  intro p e s m args below meth c s₁ B hml hte hv
  obtain ⟨rfl, hsz, hP, hK, hD, hE⟩ := hv
  have hx := B.exec
  have hb := B.bytes
  have hr := B.returns
  have htb := us_htb (atoms_spec (ws := wsX1_unit) B.pre)
  have hown : s.vm.findClass RX1 = some m.cls := findClass_of_methodNamed B.named
  have hlocks := B.notSynchronized
  subst hsz
  have hA : ∀ q : Nat, s.heap.size ≤ q → (us_AA (us_ads ad pa) s.heap.size) q := fun q h => Or.inr h
  have hS : va_S (us_AA (us_ads ad pa) s.heap.size) s.heap s.heap [] := va_S.rf
  have hP : va_P (dC, dI) vwCl (us_W ad cU cI pa nu nm nk F U) s.heap := hP
  have hD : va_D (us_AA (us_ads ad pa) s.heap.size) (us_W ad cU cI pa nu nm nk F U) := us_D_aa hD
  have hl := lv_entry ([.ref (ad 0), .int p1, .int p2]) (n := 3) (Nat.le_of_ble_eq_true rfl)
  rw [lg_entry_eq]
  generalize (lg_sl ([.ref (ad 0), .int p1, .int p2]) ++ List.replicate (3 - (lg_sl ([.ref (ad 0), .int p1, .int p2])).length) Slot.unset).toArray = ls at hl ⊢
  have hl : lv_has ls 3 [(0, .ref (ad 0)), (1, .int p1), (2, .int p2)] := hl
  refine lv_iload_n hx hb dX1_unit_0 rfl (lv_at hl 1 rfl) ?_
  refine lv_bipush (v := 9) hx hb dX1_unit_1 (by decide) ?_
  refine va_calli (va_runS (As := [.int p1, .int 9]) (rest := []) ⟨hx, hb, hml, hown, htb⟩ (kt_X1_isWithin l s.heap.size p1 9) (cwS 2 htb (us_gS mw_149 mw_150 mw_32 mw_151) rfl rfl rfl (by decide +kernel) ⟨Nat.le_of_ble_eq_true rfl, Nat.le_of_ble_eq_true rfl⟩) ⟨us_blind0, fun U hU _ => ⟨rfl, congrArg Array.size hU⟩⟩ rfl rfl hl.1 rfl (lv_room (Nat.le_of_ble_eq_true rfl)) dX1_unit_3 ⟨Nat.le_of_ble_eq_true rfl, Nat.le_of_ble_eq_true rfl⟩) hS (fun q h1 h2 => absurd h2 (Nat.not_le.mpr h1)) (fun q h => hA q (Nat.le_trans hS.1 h)) (fun r_2 _ t_3 H_1 locs ht hvm hw hB hz1 hk1 hS => ?_)
  obtain ⟨-, hw⟩ := hw
  subst hw
  have hP := us_mono hP (fun q h => hk1 q h (Nat.not_le.mpr h))
  refine lv_if_ne (tgt := 19) hx hb dX1_unit_6 (by decide) (fun c_4 => ?_) (fun c_4 => ?_)
  · refine lv_iload_n hx hb dX1_unit_19 rfl (lv_at hl 2 rfl) ?_
    refine lv_bipush (v := 9) hx hb dX1_unit_20 (by decide) ?_
    refine va_calli (va_runS (As := [.int p2, .int 9]) (rest := []) ⟨hx, hb, hml, hown, htb⟩ (kt_X1_isWithin l H_1.size p2 9) (cwS 2 htb (us_gS mw_149 mw_150 mw_32 mw_151) rfl rfl rfl (by decide +kernel) ⟨Nat.le_of_ble_eq_true rfl, Nat.le_of_ble_eq_true rfl⟩) ⟨us_blind0, fun U hU _ => ⟨rfl, congrArg Array.size hU⟩⟩ rfl rfl hl.1 rfl (lv_room (Nat.le_of_ble_eq_true rfl)) dX1_unit_22 ⟨Nat.le_of_ble_eq_true rfl, Nat.le_of_ble_eq_true rfl⟩) hS (fun q h1 h2 => absurd h2 (Nat.not_le.mpr h1)) (fun q h => hA q (Nat.le_trans hS.1 h)) (fun r_6 _ t_7 H_5 locs ht hvm hw hB hz1 hk1 hS => ?_)
    obtain ⟨-, hw⟩ := hw
    subst hw
    have hP := us_mono hP (fun q h => hk1 q h (Nat.not_le.mpr h))
    refine lv_if_ne (tgt := 38) hx hb dX1_unit_25 (by decide) (fun c_8 => ?_) (fun c_8 => ?_)
    · refine lv_aload_n hx hb dX1_unit_38 rfl (lv_at hl 0 rfl) ?_
      refine va_get (D := (dC, dI)) (ci := 1) (v := .int (nI nu)) (C := RX1) (T := TX1) (N := 10) hx hb htb us_inX1 hown hK hP 0 rfl rfl 1 (by decide) (htb _ mw_110) (fun _ h9 => h9) rfl dX1_unit_39 ?_
      refine lv_bipush (v := 30) hx hb dX1_unit_42 (by decide) ?_
      refine lv_icmp_lt (tgt := 57) hx hb dX1_unit_44 (by decide) (fun c_9 => ?_) (fun c_9 => ?_)
      · have hn3 : nu < 30 := by
          rcases Nat.lt_or_ge nu 30 with h | h
          · exact h
          · exact absurd c_9 (nI_nlt (a := nu) (b := 30) h (by omega))
        refine lv_aload_n hx hb dX1_unit_57 rfl (lv_at hl 0 rfl) ?_
        refine va_get (D := (dC, dI)) (ci := 1) (v := .ref (ad 1)) (C := RX1) (T := TX1) (N := 10) hx hb htb us_inX1 hown hK hP 0 rfl rfl 0 (by decide) (htb _ mw_109) (fun _ h9 => h9) rfl dX1_unit_58 ?_
        refine lv_aload_n hx hb dX1_unit_61 rfl (lv_at hl 0 rfl) ?_
        refine va_get (D := (dC, dI)) (ci := 1) (v := .int (nI nu)) (C := RX1) (T := TX1) (N := 10) hx hb htb us_inX1 hown hK hP 0 rfl rfl 1 (by decide) (htb _ mw_110) (fun _ h9 => h9) rfl dX1_unit_62 ?_
        refine us_aald hx hb hK hP 1 0 rfl rfl hn3 (by decide) rfl dX1_unit_65 ?_
        refine lv_iload_n hx hb dX1_unit_66 rfl (lv_at hl 1 rfl) ?_
        refine lv_iload_n hx hb dX1_unit_67 rfl (lv_at hl 2 rfl) ?_
        refine va_callv (va_runVN (C := RX0) (As := [.int p1, .int p2]) (rest := []) ⟨hx, hb, hml, hown, htb⟩ (kt_X0_settle l dC dI (pa nu) H_5.size (U nu) p1 p2) ⟨va_cnB 2 htb (us_g0 mw_240) rfl rfl rfl (hE.2.2.1 (.methodLinkNest RX1 57 yX0_settle "UnitStates") (by decide +kernel)) (htb _ mw_33) (by decide +kernel) ⟨Nat.le_of_ble_eq_true rfl, Nat.le_of_ble_eq_true rfl⟩, htb _ mw_239, htb _ mw_1⟩ ⟨us_Pu_blind, va_recv hK hP (ci := 0) (q0 := 8 + nu) rfl (us_W_get hn3), fun U hU hW => ⟨rfl, us_Pu_at (us_W_sub hP hn3) hK hU hW⟩⟩ rfl rfl hl.1 rfl (lv_room (Nat.le_of_ble_eq_true rfl)) dX1_unit_68 ⟨Nat.le_of_ble_eq_true rfl, Nat.le_of_ble_eq_true rfl⟩) hS (fun q _ h => (us_Au_le (Or.inl (us_ads_pa hn3)) hS hA) q h) (us_Au_le (Or.inl (us_ads_pa hn3)) hS hA) (fun _ t_12 H_10 locs ht hvm hw hB hz1 hk1 hS => ?_)
        have hP := us_W_put hn3 hP hD hk1 (us_Bu_use ht hB)
        have hD : va_D (us_AA (us_ads ad pa) s.heap.size) (us_W ad cU cI pa nu nm nk F (va_up U nu (sp_settle (U nu) p1 p2))) := us_D_of (by rw [us_W_adr, us_W_adr]) hD
        refine lv_aload_n hx hb dX1_unit_71 rfl (lv_at hl 0 rfl) ?_
        refine lv_dup hx hb dX1_unit_72 rfl ?_
        refine va_get (D := (dC, dI)) (ci := 1) (v := .int (nI nu)) (C := RX1) (T := TX1) (N := 10) hx hb htb us_inX1 hown hK hP 0 rfl rfl 1 (by decide) (htb _ mw_110) (fun _ h9 => h9) rfl dX1_unit_73 ?_
        refine lv_dup_x1 hx hb dX1_unit_76 rfl rfl ?_
        refine lv_iconst (v := 1) hx hb dX1_unit_77 (by decide) ?_
        refine lv_iadd hx hb dX1_unit_78 ?_
        rw [nI_1]
        refine va_put (D := (dC, dI)) (ci := 1) (v := .int (nI (nu + 1))) (ty := .int) (C := RX1) (T := TX1) (N := 10) hx hb htb us_inX1 tyX1 tyX1_ok nmX1 hown hK hP hD hS 0 rfl rfl 1 (by decide) (htb _ mw_110) (fun _ h9 => h9) rfl (by decide +kernel) rfl rfl (Nat.le_of_ble_eq_true rfl) dX1_unit_79 (fun H_13 locs hP hD hS => ?_)
        have hP : va_P (dC, dI) vwCl (us_W ad cU cI pa (nu + 1) nm nk F (va_up U nu (sp_settle (U nu) p1 p2))) H_13 := hP
        have hD : va_D (us_AA (us_ads ad pa) s.heap.size) (us_W ad cU cI pa (nu + 1) nm nk F (va_up U nu (sp_settle (U nu) p1 p2))) := hD
        have hk9 : sp_unitK p1 p2 nu = 0 := by first | (simp only [sp_unitK, eq_false c_4, eq_false c_8, eq_true c_9, if_true, if_false]; done) | (simp [sp_unitK, c_4, c_8, c_9]; done)
        have hsp : (nI nu) = nI nu := by first | (simp only [sp_unitK, eq_false c_4, eq_false c_8, eq_true c_9, if_true, if_false]; done) | (simp [sp_unitK, c_4, c_8, c_9]; done)
        exact vx_ret (W.widen (k := 1) (n := 6) (Nat.le_of_ble_eq_true rfl) (Nat.le_of_ble_eq_true rfl) (W.iret (v := (nI nu)) hx hb hr (fun t ht hW => ⟨⟨(nI nu), (), rfl, ⟨hk9, hsp⟩, us_Bx_of ht hP rfl rfl rfl⟩, hS.F ht⟩) hS.2.2 dX1_unit_82))
      · obtain ⟨sa_14, hst_sa_14⟩ := hE.2.2.2.2 (RX1, 54, "no room for a unit") (by decide +kernel)
        have hk9 : sp_unitK p1 p2 nu = 3 := by first | (simp only [sp_unitK, eq_false c_4, eq_false c_8, eq_false c_9, if_true, if_false]; done) | (simp [sp_unitK, c_4, c_8, c_9]; done)
        exact vx_throwS (own := RX1) (cls := "java/lang/UnsupportedOperationException") (names := ["java/lang/RuntimeException", "java/lang/Exception"]) hx hb hl9 hown (by decide +kernel) (by decide +kernel) (htb _ mw_221) (htb _ mw_39) hst_sa_14 (vx_hat (L := vx_atS RX1 56 "java/lang/UnsupportedOperationException" ["java/lang/RuntimeException", "java/lang/Exception"]) (B := [.castable "java/lang/UnsupportedOperationException" "java/lang/UnsupportedOperationException", .declares ⟨"java/lang/RuntimeException", "<init>", "(Ljava/lang/String;)V"⟩, .declares ⟨"java/lang/Exception", "<init>", "(Ljava/lang/String;)V"⟩, .declares ⟨"java/lang/Throwable", "<init>", "(Ljava/lang/String;)V"⟩]) (fun w hw => htb w (us_at56 w hw)) us_ab56 (vx_c (va_Nw.use rfl (hE.2.2.1 _ (by decide +kernel))) (vx_c (va_Nw.use rfl (hE.2.2.1 _ (by decide +kernel))) (vx_c (va_Nw.use rfl (hE.2.2.1 _ (by decide +kernel))) (vx_c (va_Nw.use rfl (hE.2.2.1 _ (by decide +kernel))) (vx_n)))))) us_ag56 hE.1 hE.2.1 hS (hl.1.trans hml.symm) dX1_unit_47 dX1_unit_50 dX1_unit_51 dX1_unit_53 dX1_unit_56 (fun x hx => (hte x hx).elim) (Nat.le_of_ble_eq_true rfl) (Nat.le_of_ble_eq_true rfl) (Nat.le_of_ble_eq_true rfl) (Nat.le_of_ble_eq_true rfl) hlocks (fun t ha hsz hk => ⟨(), (by rw [hk9]; decide), ⟨(by rw [hk9]; rfl), us_Bx_of rfl (us_mono hP (fun q hq => hk q hq)) rfl rfl rfl⟩, Nat.le_trans hS.1 hsz, fun q h1 h2 => (hk q (Nat.lt_of_lt_of_le h1 hS.1)).trans (hS.2.1 q h1 h2)⟩) hS.2.2 (Nat.le_of_ble_eq_true rfl) (Nat.le_of_ble_eq_true rfl)
    · obtain ⟨sa_15, hst_sa_15⟩ := hE.2.2.2.2 (RX1, 46, "no such crew") (by decide +kernel)
      have hk9 : sp_unitK p1 p2 nu = 2 := by first | (simp only [sp_unitK, eq_false c_4, eq_true c_8, if_true, if_false]; done) | (simp [sp_unitK, c_4, c_8]; done)
      exact vx_throwS (own := RX1) (cls := "java/lang/IndexOutOfBoundsException") (names := ["java/lang/RuntimeException", "java/lang/Exception"]) hx hb hl9 hown (by decide +kernel) (by decide +kernel) (htb _ mw_152) (htb _ mw_38) hst_sa_15 (vx_hat (L := vx_atS RX1 43 "java/lang/IndexOutOfBoundsException" ["java/lang/RuntimeException", "java/lang/Exception"]) (B := [.castable "java/lang/IndexOutOfBoundsException" "java/lang/IndexOutOfBoundsException", .declares ⟨"java/lang/RuntimeException", "<init>", "(Ljava/lang/String;)V"⟩, .declares ⟨"java/lang/Exception", "<init>", "(Ljava/lang/String;)V"⟩, .declares ⟨"java/lang/Throwable", "<init>", "(Ljava/lang/String;)V"⟩]) (fun w hw => htb w (us_at43 w hw)) us_ab43 (vx_c (va_Nw.use rfl (hE.2.2.1 _ (by decide +kernel))) (vx_c (va_Nw.use rfl (hE.2.2.1 _ (by decide +kernel))) (vx_c (va_Nw.use rfl (hE.2.2.1 _ (by decide +kernel))) (vx_c (va_Nw.use rfl (hE.2.2.1 _ (by decide +kernel))) (vx_n)))))) us_ag43 hE.1 hE.2.1 hS (hl.1.trans hml.symm) dX1_unit_28 dX1_unit_31 dX1_unit_32 dX1_unit_34 dX1_unit_37 (fun x hx => (hte x hx).elim) (Nat.le_of_ble_eq_true rfl) (Nat.le_of_ble_eq_true rfl) (Nat.le_of_ble_eq_true rfl) (Nat.le_of_ble_eq_true rfl) hlocks (fun t ha hsz hk => ⟨(), (by rw [hk9]; decide), ⟨(by rw [hk9]; rfl), us_Bx_of rfl (us_mono hP (fun q hq => hk q hq)) rfl rfl rfl⟩, Nat.le_trans hS.1 hsz, fun q h1 h2 => (hk q (Nat.lt_of_lt_of_le h1 hS.1)).trans (hS.2.1 q h1 h2)⟩) hS.2.2 (Nat.le_of_ble_eq_true rfl) (Nat.le_of_ble_eq_true rfl)
  · obtain ⟨sa_16, hst_sa_16⟩ := hE.2.2.2.2 (RX1, 41, "no such station") (by decide +kernel)
    have hk9 : sp_unitK p1 p2 nu = 2 := by first | (simp only [sp_unitK, eq_true c_4, if_true, if_false]; done) | (simp [sp_unitK, c_4]; done)
    exact vx_throwS (own := RX1) (cls := "java/lang/IndexOutOfBoundsException") (names := ["java/lang/RuntimeException", "java/lang/Exception"]) hx hb hl9 hown (by decide +kernel) (by decide +kernel) (htb _ mw_152) (htb _ mw_38) hst_sa_16 (vx_hat (L := vx_atS RX1 43 "java/lang/IndexOutOfBoundsException" ["java/lang/RuntimeException", "java/lang/Exception"]) (B := [.castable "java/lang/IndexOutOfBoundsException" "java/lang/IndexOutOfBoundsException", .declares ⟨"java/lang/RuntimeException", "<init>", "(Ljava/lang/String;)V"⟩, .declares ⟨"java/lang/Exception", "<init>", "(Ljava/lang/String;)V"⟩, .declares ⟨"java/lang/Throwable", "<init>", "(Ljava/lang/String;)V"⟩]) (fun w hw => htb w (us_at43 w hw)) us_ab43 (vx_c (va_Nw.use rfl (hE.2.2.1 _ (by decide +kernel))) (vx_c (va_Nw.use rfl (hE.2.2.1 _ (by decide +kernel))) (vx_c (va_Nw.use rfl (hE.2.2.1 _ (by decide +kernel))) (vx_c (va_Nw.use rfl (hE.2.2.1 _ (by decide +kernel))) (vx_n)))))) us_ag43 hE.1 hE.2.1 hS (hl.1.trans hml.symm) dX1_unit_9 dX1_unit_12 dX1_unit_13 dX1_unit_15 dX1_unit_18 (fun x hx => (hte x hx).elim) (Nat.le_of_ble_eq_true rfl) (Nat.le_of_ble_eq_true rfl) (Nat.le_of_ble_eq_true rfl) (Nat.le_of_ble_eq_true rfl) hlocks (fun t ha hsz hk => ⟨(), (by rw [hk9]; decide), ⟨(by rw [hk9]; rfl), us_Bx_of rfl (us_mono hP (fun q hq => hk q hq)) rfl rfl rfl⟩, Nat.le_trans hS.1 hsz, fun q h1 h2 => (hk q (Nat.lt_of_lt_of_le h1 hS.1)).trans (hS.2.1 q h1 h2)⟩) hS.2.2 (Nat.le_of_ble_eq_true rfl) (Nat.le_of_ble_eq_true rfl)
set_option maxHeartbeats 8000000 in
set_option maxRecDepth 100000 in
theorem kt_X1_message (l : Launch) (hl9 : l.stackTraces = false) (dC : Nat → ClassId) (dI : Nat → Nat → Nat) (ad : Nat → Nat) (cU cI : ClassId) (pa : Nat → Nat) (sz : Nat) (nu nm : Nat) (nk : Int32) (F U : Nat → Nat → Int32) (p1 : Int32) (p2 : Int32) (p3 : Int32) (p4 : Int32) (hnu : nu ≤ 30) (hnm : nm ≤ 200) (hO : ∀ p, p < nm → ∃ n, n < nm ∧ F 5 p = nI n) (hV : ∀ n, n < nm → ∃ j, j < nu ∧ F 0 n = nI j) : vx_Met l yX1_message wsX1_message ({ frames := 7, cells := 2, slots := 12, locals := 111 }) (va_Pc [.ref (ad 0), .int p1, .int p2, .int p3, .int p4] (us_Px dC dI ad cU cI pa nu nm nk F U (us_AA (us_ads ad pa) sz) sz)) (va_Qi (fun r (_ : Unit) => sp_msgK p1 p2 p3 p4 nu nm = 0 ∧ r = nI nm) (fun _ t => us_Bx dC dI ad cU cI pa nu (nm + 1) nk (sp_msgF nm F p1 p2 p3 p4) U t) (us_AA (us_ads ad pa) sz)) (vx_X (fun _ : Unit => ¬ sp_msgK p1 p2 p3 p4 nu nm = 0) (fun E _ t => E = us_en (sp_msgK p1 p2 p3 p4 nu nm) ∧ us_Bx dC dI ad cU cI pa nu nm (if sp_isU p1 nu = 0 then nk + 1 else nk) F U t) (us_AA (us_ads ad pa) sz)) 2 12 (us_AA (us_ads ad pa) sz) := by
  refine vx_ofW (cc := cX1_message) (maxL := 5) (ret := (some .int)) (by decide) rfl ?_
  intro p e s m args below meth c s₁ B hml hte hv
  obtain ⟨rfl, hsz, hP, hK, hD, hE⟩ := hv
  have hx := B.exec
  have hb := B.bytes
  have hr := B.returns
  have htb := us_htb (atoms_spec (ws := wsX1_message) B.pre)
  have hown : s.vm.findClass RX1 = some m.cls := findClass_of_methodNamed B.named
  have hlocks := B.notSynchronized
  subst hsz
  have hA : ∀ q : Nat, s.heap.size ≤ q → (us_AA (us_ads ad pa) s.heap.size) q := fun q h => Or.inr h
  have hS : va_S (us_AA (us_ads ad pa) s.heap.size) s.heap s.heap [] := va_S.rf
  have hP : va_P (dC, dI) vwCl (us_W ad cU cI pa nu nm nk F U) s.heap := hP
  have hD : va_D (us_AA (us_ads ad pa) s.heap.size) (us_W ad cU cI pa nu nm nk F U) := us_D_aa hD
  have hl := lv_entry ([.ref (ad 0), .int p1, .int p2, .int p3, .int p4]) (n := 5) (Nat.le_of_ble_eq_true rfl)
  rw [lg_entry_eq]
  generalize (lg_sl ([.ref (ad 0), .int p1, .int p2, .int p3, .int p4]) ++ List.replicate (5 - (lg_sl ([.ref (ad 0), .int p1, .int p2, .int p3, .int p4])).length) Slot.unset).toArray = ls at hl ⊢
  have hl : lv_has ls 5 [(0, .ref (ad 0)), (1, .int p1), (2, .int p2), (3, .int p3), (4, .int p4)] := hl
  refine lv_aload_n hx hb dX1_message_0 rfl (lv_at hl 0 rfl) ?_
  refine lv_iload_n hx hb dX1_message_1 rfl (lv_at hl 1 rfl) ?_
  refine va_calli (va_runV (As := [.int p1]) (rest := []) ⟨hx, hb, hml, hown, htb⟩ (kt_X1_isUnit l dC dI ad cU cI pa s.heap.size nu nm nk F U p1) (cwV 1 htb (us_gV mw_249 mw_251 mw_2 mw_32 mw_252) rfl rfl rfl (by decide +kernel) ⟨Nat.le_of_ble_eq_true rfl, Nat.le_of_ble_eq_true rfl⟩) ⟨us_Px_blind, va_recv hK hP (ci := 1) (q0 := 0) rfl rfl, fun U hU hW => ⟨rfl, us_Px_at hP hK hD hE hS (fun q h => hA q (Nat.le_trans hS.1 h)) hU hW⟩⟩ rfl rfl hl.1 rfl (lv_room (Nat.le_of_ble_eq_true rfl)) dX1_message_2 ⟨Nat.le_of_ble_eq_true rfl, Nat.le_of_ble_eq_true rfl⟩) hS (fun q h1 h2 => absurd h2 (Nat.not_le.mpr h1)) (fun q h => hA q (Nat.le_trans hS.1 h)) (fun r_2 _ t_3 H_1 locs ht hvm hw hB hz1 hk1 hS => ?_)
  obtain ⟨-, hw⟩ := hw
  subst hw
  have hP := us_mono hP (fun q h => hk1 q h (Nat.not_le.mpr h))
  refine lv_if_ne (tgt := 28) hx hb dX1_message_5 (by decide) (fun c_4 => ?_) (fun c_4 => ?_)
  · refine lv_iload_n hx hb dX1_message_28 rfl (lv_at hl 3 rfl) ?_
    refine lv_bipush (v := 15) hx hb dX1_message_29 (by decide) ?_
    refine va_calli (va_runS (As := [.int p3, .int 15]) (rest := []) ⟨hx, hb, hml, hown, htb⟩ (kt_X1_isWithin l H_1.size p3 15) (cwS 2 htb (us_gS mw_149 mw_150 mw_32 mw_151) rfl rfl rfl (by decide +kernel) ⟨Nat.le_of_ble_eq_true rfl, Nat.le_of_ble_eq_true rfl⟩) ⟨us_blind0, fun U hU _ => ⟨rfl, congrArg Array.size hU⟩⟩ rfl rfl hl.1 rfl (lv_room (Nat.le_of_ble_eq_true rfl)) dX1_message_31 ⟨Nat.le_of_ble_eq_true rfl, Nat.le_of_ble_eq_true rfl⟩) hS (fun q h1 h2 => absurd h2 (Nat.not_le.mpr h1)) (fun q h => hA q (Nat.le_trans hS.1 h)) (fun r_6 _ t_7 H_5 locs ht hvm hw hB hz1 hk1 hS => ?_)
    obtain ⟨-, hw⟩ := hw
    subst hw
    have hP := us_mono hP (fun q h => hk1 q h (Nat.not_le.mpr h))
    refine lv_if_ne (tgt := 47) hx hb dX1_message_34 (by decide) (fun c_8 => ?_) (fun c_8 => ?_)
    · refine lv_iload_n hx hb dX1_message_47 rfl (lv_at hl 2 rfl) ?_
      refine vx_callv (vx_runS (As := [.int p2]) (rest := []) ⟨hx, hb, hml, hown, htb⟩ (kt_X1_refuseOutsideMinutes l hl9 H_5.size p2) (cwS 1 htb (us_gS mw_270 mw_271 mw_32 mw_272) rfl rfl rfl (by decide +kernel) ⟨Nat.le_of_ble_eq_true rfl, Nat.le_of_ble_eq_true rfl⟩) ⟨us_P0_blind, fun U hU hW => ⟨rfl, us_P0_at hE hS (fun q h => hA q (Nat.le_trans hS.1 h)) hU hW⟩⟩ rfl rfl hl.1 rfl (lv_room (Nat.le_of_ble_eq_true rfl)) dX1_message_48 ⟨Nat.le_of_ble_eq_true rfl, Nat.le_of_ble_eq_true rfl⟩) hS (fun q h1 h2 => absurd h2 (Nat.not_le.mpr h1)) (fun q h => hA q (Nat.le_trans hS.1 h)) (fun q h1 h2 => absurd h2 (Nat.not_le.mpr h1)) (fun E_t_11 ce_t_11 q_t_11 _ t_11 H_9 locs ht hvm hw hB hz1 hk1 hS hce hcv hcl => ?_) (fun _ t_11 H_9 locs ht hvm hw hB hz1 hk1 hS => ?_)
      · have hkk := hw
        have hx9 : sp_in p2 99999 = 0 := by refine Decidable.byContradiction (fun h9 => hkk ?_); simp only [sp_minK, eq_false h9, if_false]
        have hE9 := hB
        have hP := us_mono hP (fun q h => hk1 q h (Nat.not_le.mpr h))
        have hk9 : sp_msgK p1 p2 p3 p4 nu nm = sp_minK p2 := by first | (simp only [sp_msgK, sp_minK, eq_false c_4, eq_false c_8, eq_true hx9, if_true, if_false]; done) | (simp [sp_msgK, sp_minK, c_4, c_8, hx9]; done)
        exact vx_out (E := E_t_11) (fun x hx => (hte x hx).elim) hlocks hce hcv hcl (fun t9 ht9 ha => ⟨(), (by rw [hk9]; exact hkk), ⟨(by rw [hk9]; exact hE9), us_Bx_of ht9 hP (by rw [if_neg c_4]) rfl rfl⟩, hS.F ht9⟩) hS.2.2 (Nat.le_of_ble_eq_true rfl) (Nat.le_of_ble_eq_true rfl)
      have hk0 := hw
      have hk_12 : sp_minK p2 = 0 := hk0
      have hf_13 : ¬ sp_in p2 99999 = 0 := by intro h9; simp [sp_minK, h9] at hk_12
      have hP := us_mono hP (fun q h => hk1 q h (Nat.not_le.mpr h))
      refine lv_iload_n hx hb dX1_message_51 rfl (lv_at hl 3 rfl) ?_
      refine lv_iload hx hb dX1_message_52 (lv_at hl 4 rfl) ?_
      refine va_calli (va_runS (As := [.int p3, .int p4]) (rest := []) ⟨hx, hb, hml, hown, htb⟩ (kt_X1_isValueOf l H_9.size p3 p4) (cwS 2 htb (us_gS mw_275 mw_276 mw_32 mw_277) rfl rfl rfl (by decide +kernel) ⟨Nat.le_of_ble_eq_true rfl, Nat.le_of_ble_eq_true rfl⟩) ⟨us_blind0, fun U hU _ => ⟨rfl, congrArg Array.size hU⟩⟩ rfl rfl hl.1 rfl (lv_room (Nat.le_of_ble_eq_true rfl)) dX1_message_54 ⟨Nat.le_of_ble_eq_true rfl, Nat.le_of_ble_eq_true rfl⟩) hS (fun q h1 h2 => absurd h2 (Nat.not_le.mpr h1)) (fun q h => hA q (Nat.le_trans hS.1 h)) (fun r_15 _ t_16 H_14 locs ht hvm hw hB hz1 hk1 hS => ?_)
      obtain ⟨-, hw⟩ := hw
      subst hw
      have hP := us_mono hP (fun q h => hk1 q h (Nat.not_le.mpr h))
      refine lv_if_ne (tgt := 70) hx hb dX1_message_57 (by decide) (fun c_17 => ?_) (fun c_17 => ?_)
      · refine lv_aload_n hx hb dX1_message_70 rfl (lv_at hl 0 rfl) ?_
        refine va_get (D := (dC, dI)) (ci := 1) (v := .int (nI nm)) (C := RX1) (T := TX1) (N := 10) hx hb htb us_inX1 hown hK hP 0 rfl rfl 8 (by decide) (htb _ mw_117) (fun _ h9 => h9) rfl dX1_message_71 ?_
        refine lv_sipush (v := 200) hx hb dX1_message_74 (by decide) ?_
        refine lv_icmp_lt (tgt := 90) hx hb dX1_message_77 (by decide) (fun c_18 => ?_) (fun c_18 => ?_)
        · have hnm2 : nm < 200 := by
            rcases Nat.lt_or_ge nm 200 with h | h
            · exact h
            · exact absurd c_18 (nI_nlt (a := nm) (b := 200) h (by omega))
          have hO2 : ∀ q, q < nm → ∃ n, n < 200 ∧ F 5 q = nI n := fun q hq => by
            obtain ⟨n, h1, h2⟩ := hO q hq
            exact ⟨n, by omega, h2⟩
          refine lv_aload_n hx hb dX1_message_90 rfl (lv_at hl 0 rfl) ?_
          refine va_get (D := (dC, dI)) (ci := 1) (v := .ref (ad 2)) (C := RX1) (T := TX1) (N := 10) hx hb htb us_inX1 hown hK hP 0 rfl rfl 2 (by decide) (htb _ mw_111) (fun _ h9 => h9) rfl dX1_message_91 ?_
          refine lv_aload_n hx hb dX1_message_94 rfl (lv_at hl 0 rfl) ?_
          refine va_get (D := (dC, dI)) (ci := 1) (v := .int (nI nm)) (C := RX1) (T := TX1) (N := 10) hx hb htb us_inX1 hown hK hP 0 rfl rfl 8 (by decide) (htb _ mw_117) (fun _ h9 => h9) rfl dX1_message_95 ?_
          refine lv_iload_n hx hb dX1_message_98 rfl (lv_at hl 1 rfl) ?_
          refine us_iast (f := (F 0)) hx hb hK hP hD hS 2 1 rfl rfl hnm2 (by decide) dX1_message_99 (fun H_19 locs hP hD hS => ?_)
          have hP : va_P (dC, dI) vwCl (us_W ad cU cI pa nu nm nk (va_up F 0 (upd (F 0) nm p1)) U) H_19 := hP
          have hD : va_D (us_AA (us_ads ad pa) s.heap.size) (us_W ad cU cI pa nu nm nk (va_up F 0 (upd (F 0) nm p1)) U) := hD
          refine lv_aload_n hx hb dX1_message_100 rfl (lv_at hl 0 rfl) ?_
          refine va_get (D := (dC, dI)) (ci := 1) (v := .ref (ad 3)) (C := RX1) (T := TX1) (N := 10) hx hb htb us_inX1 hown hK hP 0 rfl rfl 3 (by decide) (htb _ mw_112) (fun _ h9 => h9) rfl dX1_message_101 ?_
          refine lv_aload_n hx hb dX1_message_104 rfl (lv_at hl 0 rfl) ?_
          refine va_get (D := (dC, dI)) (ci := 1) (v := .int (nI nm)) (C := RX1) (T := TX1) (N := 10) hx hb htb us_inX1 hown hK hP 0 rfl rfl 8 (by decide) (htb _ mw_117) (fun _ h9 => h9) rfl dX1_message_105 ?_
          refine lv_iload_n hx hb dX1_message_108 rfl (lv_at hl 2 rfl) ?_
          refine us_iast (f := (F 1)) hx hb hK hP hD hS 3 1 rfl rfl hnm2 (by decide) dX1_message_109 (fun H_20 locs hP hD hS => ?_)
          have hP : va_P (dC, dI) vwCl (us_W ad cU cI pa nu nm nk (va_up (va_up F 0 (upd (F 0) nm p1)) 1 (upd (F 1) nm p2)) U) H_20 := hP
          have hD : va_D (us_AA (us_ads ad pa) s.heap.size) (us_W ad cU cI pa nu nm nk (va_up (va_up F 0 (upd (F 0) nm p1)) 1 (upd (F 1) nm p2)) U) := hD
          refine lv_aload_n hx hb dX1_message_110 rfl (lv_at hl 0 rfl) ?_
          refine va_get (D := (dC, dI)) (ci := 1) (v := .ref (ad 4)) (C := RX1) (T := TX1) (N := 10) hx hb htb us_inX1 hown hK hP 0 rfl rfl 4 (by decide) (htb _ mw_113) (fun _ h9 => h9) rfl dX1_message_111 ?_
          refine lv_aload_n hx hb dX1_message_114 rfl (lv_at hl 0 rfl) ?_
          refine va_get (D := (dC, dI)) (ci := 1) (v := .int (nI nm)) (C := RX1) (T := TX1) (N := 10) hx hb htb us_inX1 hown hK hP 0 rfl rfl 8 (by decide) (htb _ mw_117) (fun _ h9 => h9) rfl dX1_message_115 ?_
          refine lv_iload_n hx hb dX1_message_118 rfl (lv_at hl 3 rfl) ?_
          refine us_iast (f := (F 2)) hx hb hK hP hD hS 4 1 rfl rfl hnm2 (by decide) dX1_message_119 (fun H_21 locs hP hD hS => ?_)
          have hP : va_P (dC, dI) vwCl (us_W ad cU cI pa nu nm nk (va_up (va_up (va_up F 0 (upd (F 0) nm p1)) 1 (upd (F 1) nm p2)) 2 (upd (F 2) nm p3)) U) H_21 := hP
          have hD : va_D (us_AA (us_ads ad pa) s.heap.size) (us_W ad cU cI pa nu nm nk (va_up (va_up (va_up F 0 (upd (F 0) nm p1)) 1 (upd (F 1) nm p2)) 2 (upd (F 2) nm p3)) U) := hD
          refine lv_aload_n hx hb dX1_message_120 rfl (lv_at hl 0 rfl) ?_
          refine va_get (D := (dC, dI)) (ci := 1) (v := .ref (ad 5)) (C := RX1) (T := TX1) (N := 10) hx hb htb us_inX1 hown hK hP 0 rfl rfl 5 (by decide) (htb _ mw_114) (fun _ h9 => h9) rfl dX1_message_121 ?_
          refine lv_aload_n hx hb dX1_message_124 rfl (lv_at hl 0 rfl) ?_
          refine va_get (D := (dC, dI)) (ci := 1) (v := .int (nI nm)) (C := RX1) (T := TX1) (N := 10) hx hb htb us_inX1 hown hK hP 0 rfl rfl 8 (by decide) (htb _ mw_117) (fun _ h9 => h9) rfl dX1_message_125 ?_
          refine lv_iload hx hb dX1_message_128 (lv_at hl 4 rfl) ?_
          refine us_iast (f := (F 3)) hx hb hK hP hD hS 5 1 rfl rfl hnm2 (by decide) dX1_message_130 (fun H_22 locs hP hD hS => ?_)
          have hP : va_P (dC, dI) vwCl (us_W ad cU cI pa nu nm nk (va_up (va_up (va_up (va_up F 0 (upd (F 0) nm p1)) 1 (upd (F 1) nm p2)) 2 (upd (F 2) nm p3)) 3 (upd (F 3) nm p4)) U) H_22 := hP
          have hD : va_D (us_AA (us_ads ad pa) s.heap.size) (us_W ad cU cI pa nu nm nk (va_up (va_up (va_up (va_up F 0 (upd (F 0) nm p1)) 1 (upd (F 1) nm p2)) 2 (upd (F 2) nm p3)) 3 (upd (F 3) nm p4)) U) := hD
          refine lv_aload_n hx hb dX1_message_131 rfl (lv_at hl 0 rfl) ?_
          refine lv_aload_n hx hb dX1_message_132 rfl (lv_at hl 0 rfl) ?_
          refine va_get (D := (dC, dI)) (ci := 1) (v := .int (nI nm)) (C := RX1) (T := TX1) (N := 10) hx hb htb us_inX1 hown hK hP 0 rfl rfl 8 (by decide) (htb _ mw_117) (fun _ h9 => h9) rfl dX1_message_133 ?_
          refine lv_iload_n hx hb dX1_message_136 rfl (lv_at hl 2 rfl) ?_
          refine va_callv (va_runV (As := [.int (nI nm), .int p2]) (rest := []) ⟨hx, hb, hml, hown, htb⟩ (kt_X1_putInOrder l dC dI ad cU cI pa H_22.size nu nm nk (va_up (va_up (va_up (va_up F 0 (upd (F 0) nm p1)) 1 (upd (F 1) nm p2)) 2 (upd (F 2) nm p3)) 3 (upd (F 3) nm p4)) U (nI nm) p2 hnm2 hO2) (cwV 2 htb (us_gV mw_281 mw_283 mw_3 mw_32 mw_284) rfl rfl rfl (by decide +kernel) ⟨Nat.le_of_ble_eq_true rfl, Nat.le_of_ble_eq_true rfl⟩) ⟨us_Px_blind, va_recv hK hP (ci := 1) (q0 := 0) rfl rfl, fun U hU hW => ⟨rfl, us_Px_at hP hK hD hE hS (us_AA_le hS) hU hW⟩⟩ rfl rfl hl.1 rfl (lv_room (Nat.le_of_ble_eq_true rfl)) dX1_message_137 ⟨Nat.le_of_ble_eq_true rfl, Nat.le_of_ble_eq_true rfl⟩) hS (fun q _ h => us_AA_le hS q h) (us_AA_le hS) (fun _ t_25 H_23 locs ht hvm hw hB hz1 hk1 hS => ?_)
          have hP := us_Bx_use ht hB
          have hD : va_D (us_AA (us_ads ad pa) s.heap.size) (us_W ad cU cI pa nu nm nk (va_up (va_up (va_up (va_up (va_up F 0 (upd (F 0) nm p1)) 1 (upd (F 1) nm p2)) 2 (upd (F 2) nm p3)) 3 (upd (F 3) nm p4)) 5 (sp_ins ((va_up (va_up (va_up (va_up F 0 (upd (F 0) nm p1)) 1 (upd (F 1) nm p2)) 2 (upd (F 2) nm p3)) 3 (upd (F 3) nm p4)) 1) (nI nm) p2 nm ((va_up (va_up (va_up (va_up F 0 (upd (F 0) nm p1)) 1 (upd (F 1) nm p2)) 2 (upd (F 2) nm p3)) 3 (upd (F 3) nm p4)) 5))) U) := us_D_of (by rw [us_W_adr, us_W_adr]) hD
          have hP : va_P (dC, dI) vwCl (us_W ad cU cI pa nu nm nk (va_up (va_up (va_up (va_up (va_up F 0 (upd (F 0) nm p1)) 1 (upd (F 1) nm p2)) 2 (upd (F 2) nm p3)) 3 (upd (F 3) nm p4)) 5 (sp_ins ((va_up (va_up (va_up (va_up F 0 (upd (F 0) nm p1)) 1 (upd (F 1) nm p2)) 2 (upd (F 2) nm p3)) 3 (upd (F 3) nm p4)) 1) (nI nm) p2 nm ((va_up (va_up (va_up (va_up F 0 (upd (F 0) nm p1)) 1 (upd (F 1) nm p2)) 2 (upd (F 2) nm p3)) 3 (upd (F 3) nm p4)) 5))) U) H_23 := hP
          refine lv_aload_n hx hb dX1_message_140 rfl (lv_at hl 0 rfl) ?_
          refine lv_dup hx hb dX1_message_141 rfl ?_
          refine va_get (D := (dC, dI)) (ci := 1) (v := .int (nI nm)) (C := RX1) (T := TX1) (N := 10) hx hb htb us_inX1 hown hK hP 0 rfl rfl 8 (by decide) (htb _ mw_117) (fun _ h9 => h9) rfl dX1_message_142 ?_
          refine lv_dup_x1 hx hb dX1_message_145 rfl rfl ?_
          refine lv_iconst (v := 1) hx hb dX1_message_146 (by decide) ?_
          refine lv_iadd hx hb dX1_message_147 ?_
          rw [nI_1]
          refine va_put (D := (dC, dI)) (ci := 1) (v := .int (nI (nm + 1))) (ty := .int) (C := RX1) (T := TX1) (N := 10) hx hb htb us_inX1 tyX1 tyX1_ok nmX1 hown hK hP hD hS 0 rfl rfl 8 (by decide) (htb _ mw_117) (fun _ h9 => h9) rfl (by decide +kernel) rfl rfl (Nat.le_of_ble_eq_true rfl) dX1_message_148 (fun H_26 locs hP hD hS => ?_)
          have hP : va_P (dC, dI) vwCl (us_W ad cU cI pa nu (nm + 1) nk (va_up (va_up (va_up (va_up (va_up F 0 (upd (F 0) nm p1)) 1 (upd (F 1) nm p2)) 2 (upd (F 2) nm p3)) 3 (upd (F 3) nm p4)) 5 (sp_ins ((va_up (va_up (va_up (va_up F 0 (upd (F 0) nm p1)) 1 (upd (F 1) nm p2)) 2 (upd (F 2) nm p3)) 3 (upd (F 3) nm p4)) 1) (nI nm) p2 nm ((va_up (va_up (va_up (va_up F 0 (upd (F 0) nm p1)) 1 (upd (F 1) nm p2)) 2 (upd (F 2) nm p3)) 3 (upd (F 3) nm p4)) 5))) U) H_26 := hP
          have hD : va_D (us_AA (us_ads ad pa) s.heap.size) (us_W ad cU cI pa nu (nm + 1) nk (va_up (va_up (va_up (va_up (va_up F 0 (upd (F 0) nm p1)) 1 (upd (F 1) nm p2)) 2 (upd (F 2) nm p3)) 3 (upd (F 3) nm p4)) 5 (sp_ins ((va_up (va_up (va_up (va_up F 0 (upd (F 0) nm p1)) 1 (upd (F 1) nm p2)) 2 (upd (F 2) nm p3)) 3 (upd (F 3) nm p4)) 1) (nI nm) p2 nm ((va_up (va_up (va_up (va_up F 0 (upd (F 0) nm p1)) 1 (upd (F 1) nm p2)) 2 (upd (F 2) nm p3)) 3 (upd (F 3) nm p4)) 5))) U) := hD
          have hk9 : sp_msgK p1 p2 p3 p4 nu nm = 0 := by first | (simp only [sp_msgK, sp_minK, eq_false c_4, eq_false c_8, eq_true hk_12, eq_false hf_13, eq_false c_17, eq_true c_18, if_true, if_false]; done) | (simp [sp_msgK, sp_minK, c_4, c_8, hk_12, hf_13, c_17, c_18]; done)
          have hsp : (nI nm) = nI nm := by first | (simp only [sp_msgK, sp_minK, eq_false c_4, eq_false c_8, eq_true hk_12, eq_false hf_13, eq_false c_17, eq_true c_18, if_true, if_false]; done) | (simp [sp_msgK, sp_minK, c_4, c_8, hk_12, hf_13, c_17, c_18]; done)
          exact vx_ret (W.widen (k := 2) (n := 12) (Nat.le_of_ble_eq_true rfl) (Nat.le_of_ble_eq_true rfl) (W.iret (v := (nI nm)) hx hb hr (fun t ht hW => ⟨⟨(nI nm), (), rfl, ⟨hk9, hsp⟩, us_Bx_of ht hP rfl rfl rfl⟩, hS.F ht⟩) hS.2.2 dX1_message_151))
        · obtain ⟨sa_27, hst_sa_27⟩ := hE.2.2.2.2 (RX1, 87, "no room for a message") (by decide +kernel)
          have hk9 : sp_msgK p1 p2 p3 p4 nu nm = 3 := by first | (simp only [sp_msgK, sp_minK, eq_false c_4, eq_false c_8, eq_true hk_12, eq_false hf_13, eq_false c_17, eq_false c_18, if_true, if_false]; done) | (simp [sp_msgK, sp_minK, c_4, c_8, hk_12, hf_13, c_17, c_18]; done)
          exact vx_throwS (own := RX1) (cls := "java/lang/UnsupportedOperationException") (names := ["java/lang/RuntimeException", "java/lang/Exception"]) hx hb hl9 hown (by decide +kernel) (by decide +kernel) (htb _ mw_221) (htb _ mw_39) hst_sa_27 (vx_hat (L := vx_atS RX1 56 "java/lang/UnsupportedOperationException" ["java/lang/RuntimeException", "java/lang/Exception"]) (B := [.castable "java/lang/UnsupportedOperationException" "java/lang/UnsupportedOperationException", .declares ⟨"java/lang/RuntimeException", "<init>", "(Ljava/lang/String;)V"⟩, .declares ⟨"java/lang/Exception", "<init>", "(Ljava/lang/String;)V"⟩, .declares ⟨"java/lang/Throwable", "<init>", "(Ljava/lang/String;)V"⟩]) (fun w hw => htb w (us_at56 w hw)) us_ab56 (vx_c (va_Nw.use rfl (hE.2.2.1 _ (by decide +kernel))) (vx_c (va_Nw.use rfl (hE.2.2.1 _ (by decide +kernel))) (vx_c (va_Nw.use rfl (hE.2.2.1 _ (by decide +kernel))) (vx_c (va_Nw.use rfl (hE.2.2.1 _ (by decide +kernel))) (vx_n)))))) us_ag56 hE.1 hE.2.1 hS (hl.1.trans hml.symm) dX1_message_80 dX1_message_83 dX1_message_84 dX1_message_86 dX1_message_89 (fun x hx => (hte x hx).elim) (Nat.le_of_ble_eq_true rfl) (Nat.le_of_ble_eq_true rfl) (Nat.le_of_ble_eq_true rfl) (Nat.le_of_ble_eq_true rfl) hlocks (fun t ha hsz hk => ⟨(), (by rw [hk9]; decide), ⟨(by rw [hk9]; rfl), us_Bx_of rfl (us_mono hP (fun q hq => hk q hq)) (by rw [if_neg c_4]) rfl rfl⟩, Nat.le_trans hS.1 hsz, fun q h1 h2 => (hk q (Nat.lt_of_lt_of_le h1 hS.1)).trans (hS.2.1 q h1 h2)⟩) hS.2.2 (Nat.le_of_ble_eq_true rfl) (Nat.le_of_ble_eq_true rfl)
      · obtain ⟨sa_28, hst_sa_28⟩ := hE.2.2.2.2 (RX1, 82, "no such value of this kind") (by decide +kernel)
        have hk9 : sp_msgK p1 p2 p3 p4 nu nm = 2 := by first | (simp only [sp_msgK, sp_minK, eq_false c_4, eq_false c_8, eq_true hk_12, eq_false hf_13, eq_true c_17, if_true, if_false]; done) | (simp [sp_msgK, sp_minK, c_4, c_8, hk_12, hf_13, c_17]; done)
        exact vx_throwS (own := RX1) (cls := "java/lang/IndexOutOfBoundsException") (names := ["java/lang/RuntimeException", "java/lang/Exception"]) hx hb hl9 hown (by decide +kernel) (by decide +kernel) (htb _ mw_152) (htb _ mw_38) hst_sa_28 (vx_hat (L := vx_atS RX1 43 "java/lang/IndexOutOfBoundsException" ["java/lang/RuntimeException", "java/lang/Exception"]) (B := [.castable "java/lang/IndexOutOfBoundsException" "java/lang/IndexOutOfBoundsException", .declares ⟨"java/lang/RuntimeException", "<init>", "(Ljava/lang/String;)V"⟩, .declares ⟨"java/lang/Exception", "<init>", "(Ljava/lang/String;)V"⟩, .declares ⟨"java/lang/Throwable", "<init>", "(Ljava/lang/String;)V"⟩]) (fun w hw => htb w (us_at43 w hw)) us_ab43 (vx_c (va_Nw.use rfl (hE.2.2.1 _ (by decide +kernel))) (vx_c (va_Nw.use rfl (hE.2.2.1 _ (by decide +kernel))) (vx_c (va_Nw.use rfl (hE.2.2.1 _ (by decide +kernel))) (vx_c (va_Nw.use rfl (hE.2.2.1 _ (by decide +kernel))) (vx_n)))))) us_ag43 hE.1 hE.2.1 hS (hl.1.trans hml.symm) dX1_message_60 dX1_message_63 dX1_message_64 dX1_message_66 dX1_message_69 (fun x hx => (hte x hx).elim) (Nat.le_of_ble_eq_true rfl) (Nat.le_of_ble_eq_true rfl) (Nat.le_of_ble_eq_true rfl) (Nat.le_of_ble_eq_true rfl) hlocks (fun t ha hsz hk => ⟨(), (by rw [hk9]; decide), ⟨(by rw [hk9]; rfl), us_Bx_of rfl (us_mono hP (fun q hq => hk q hq)) (by rw [if_neg c_4]) rfl rfl⟩, Nat.le_trans hS.1 hsz, fun q h1 h2 => (hk q (Nat.lt_of_lt_of_le h1 hS.1)).trans (hS.2.1 q h1 h2)⟩) hS.2.2 (Nat.le_of_ble_eq_true rfl) (Nat.le_of_ble_eq_true rfl)
    · obtain ⟨sa_29, hst_sa_29⟩ := hE.2.2.2.2 (RX1, 73, "no such kind") (by decide +kernel)
      have hk9 : sp_msgK p1 p2 p3 p4 nu nm = 1 := by first | (simp only [sp_msgK, sp_minK, eq_false c_4, eq_true c_8, if_true, if_false]; done) | (simp [sp_msgK, sp_minK, c_4, c_8]; done)
      exact vx_throwS (own := RX1) (cls := "java/lang/IllegalArgumentException") (names := ["java/lang/RuntimeException", "java/lang/Exception"]) hx hb hl9 hown (by decide +kernel) (by decide +kernel) (htb _ mw_253) (htb _ mw_40) hst_sa_29 (vx_hat (L := vx_atS RX1 72 "java/lang/IllegalArgumentException" ["java/lang/RuntimeException", "java/lang/Exception"]) (B := [.castable "java/lang/IllegalArgumentException" "java/lang/IllegalArgumentException", .declares ⟨"java/lang/RuntimeException", "<init>", "(Ljava/lang/String;)V"⟩, .declares ⟨"java/lang/Exception", "<init>", "(Ljava/lang/String;)V"⟩, .declares ⟨"java/lang/Throwable", "<init>", "(Ljava/lang/String;)V"⟩]) (fun w hw => htb w (us_at72 w hw)) us_ab72 (vx_c (va_Nw.use rfl (hE.2.2.1 _ (by decide +kernel))) (vx_c (va_Nw.use rfl (hE.2.2.1 _ (by decide +kernel))) (vx_c (va_Nw.use rfl (hE.2.2.1 _ (by decide +kernel))) (vx_c (va_Nw.use rfl (hE.2.2.1 _ (by decide +kernel))) (vx_n)))))) us_ag72 hE.1 hE.2.1 hS (hl.1.trans hml.symm) dX1_message_37 dX1_message_40 dX1_message_41 dX1_message_43 dX1_message_46 (fun x hx => (hte x hx).elim) (Nat.le_of_ble_eq_true rfl) (Nat.le_of_ble_eq_true rfl) (Nat.le_of_ble_eq_true rfl) (Nat.le_of_ble_eq_true rfl) hlocks (fun t ha hsz hk => ⟨(), (by rw [hk9]; decide), ⟨(by rw [hk9]; rfl), us_Bx_of rfl (us_mono hP (fun q hq => hk q hq)) (by rw [if_neg c_4]) rfl rfl⟩, Nat.le_trans hS.1 hsz, fun q h1 h2 => (hk q (Nat.lt_of_lt_of_le h1 hS.1)).trans (hS.2.1 q h1 h2)⟩) hS.2.2 (Nat.le_of_ble_eq_true rfl) (Nat.le_of_ble_eq_true rfl)
  · refine lv_aload_n hx hb dX1_message_8 rfl (lv_at hl 0 rfl) ?_
    refine lv_dup hx hb dX1_message_9 rfl ?_
    refine va_get (D := (dC, dI)) (ci := 1) (v := .int nk) (C := RX1) (T := TX1) (N := 10) hx hb htb us_inX1 hown hK hP 0 rfl rfl 9 (by decide) (htb _ mw_118) (fun _ h9 => h9) rfl dX1_message_10 ?_
    refine lv_iconst (v := 1) hx hb dX1_message_13 (by decide) ?_
    refine lv_iadd hx hb dX1_message_14 ?_
    refine va_put (D := (dC, dI)) (ci := 1) (v := .int (nk + 1)) (ty := .int) (C := RX1) (T := TX1) (N := 10) hx hb htb us_inX1 tyX1 tyX1_ok nmX1 hown hK hP hD hS 0 rfl rfl 9 (by decide) (htb _ mw_118) (fun _ h9 => h9) rfl (by decide +kernel) rfl rfl (Nat.le_of_ble_eq_true rfl) dX1_message_15 (fun H_30 locs hP hD hS => ?_)
    have hP : va_P (dC, dI) vwCl (us_W ad cU cI pa nu nm (nk + 1) F U) H_30 := hP
    have hD : va_D (us_AA (us_ads ad pa) s.heap.size) (us_W ad cU cI pa nu nm (nk + 1) F U) := hD
    obtain ⟨sa_31, hst_sa_31⟩ := hE.2.2.2.2 (RX1, 70, "no such unit") (by decide +kernel)
    have hk9 : sp_msgK p1 p2 p3 p4 nu nm = 1 := by first | (simp only [sp_msgK, sp_minK, eq_true c_4, if_true, if_false]; done) | (simp [sp_msgK, sp_minK, c_4]; done)
    exact vx_throwS (own := RX1) (cls := "java/lang/IllegalArgumentException") (names := ["java/lang/RuntimeException", "java/lang/Exception"]) hx hb hl9 hown (by decide +kernel) (by decide +kernel) (htb _ mw_253) (htb _ mw_40) hst_sa_31 (vx_hat (L := vx_atS RX1 72 "java/lang/IllegalArgumentException" ["java/lang/RuntimeException", "java/lang/Exception"]) (B := [.castable "java/lang/IllegalArgumentException" "java/lang/IllegalArgumentException", .declares ⟨"java/lang/RuntimeException", "<init>", "(Ljava/lang/String;)V"⟩, .declares ⟨"java/lang/Exception", "<init>", "(Ljava/lang/String;)V"⟩, .declares ⟨"java/lang/Throwable", "<init>", "(Ljava/lang/String;)V"⟩]) (fun w hw => htb w (us_at72 w hw)) us_ab72 (vx_c (va_Nw.use rfl (hE.2.2.1 _ (by decide +kernel))) (vx_c (va_Nw.use rfl (hE.2.2.1 _ (by decide +kernel))) (vx_c (va_Nw.use rfl (hE.2.2.1 _ (by decide +kernel))) (vx_c (va_Nw.use rfl (hE.2.2.1 _ (by decide +kernel))) (vx_n)))))) us_ag72 hE.1 hE.2.1 hS (hl.1.trans hml.symm) dX1_message_18 dX1_message_21 dX1_message_22 dX1_message_24 dX1_message_27 (fun x hx => (hte x hx).elim) (Nat.le_of_ble_eq_true rfl) (Nat.le_of_ble_eq_true rfl) (Nat.le_of_ble_eq_true rfl) (Nat.le_of_ble_eq_true rfl) hlocks (fun t ha hsz hk => ⟨(), (by rw [hk9]; decide), ⟨(by rw [hk9]; rfl), us_Bx_of rfl (us_mono hP (fun q hq => hk q hq)) (by rw [if_pos c_4]) rfl rfl⟩, Nat.le_trans hS.1 hsz, fun q h1 h2 => (hk q (Nat.lt_of_lt_of_le h1 hS.1)).trans (hS.2.1 q h1 h2)⟩) hS.2.2 (Nat.le_of_ble_eq_true rfl) (Nat.le_of_ble_eq_true rfl)
set_option maxHeartbeats 8000000 in
set_option maxRecDepth 100000 in
theorem kt_X1_at (l : Launch) (hl9 : l.stackTraces = false) (dC : Nat → ClassId) (dI : Nat → Nat → Nat) (ad : Nat → Nat) (cU cI : ClassId) (pa : Nat → Nat) (sz : Nat) (nu nm : Nat) (nk : Int32) (F U : Nat → Nat → Int32) (p1 : Int32) (p2 : Int32) (p3 : Int32) (hnu : nu ≤ 30) (hnm : nm ≤ 200) (hO : ∀ p, p < nm → ∃ n, n < nm ∧ F 5 p = nI n) (hV : ∀ n, n < nm → ∃ j, j < nu ∧ F 0 n = nI j) : vx_Met l yX1_at wsX1_at ({ frames := 7, cells := 2, slots := 12, locals := 114 }) (va_Pc [.ref (ad 0), .int p1, .int p2, .int p3] (us_Px dC dI ad cU cI pa nu nm nk F U (us_AA (us_ads ad pa) sz) sz)) (va_Qi (fun r (_ : Unit) => sp_atK p1 p2 p3 nu = 0 ∧ r = sp_atR nu (sp_ru nu nm F U p2) p1.toNatClampNeg p2 p3) (fun _ t => us_Bx dC dI ad cU cI pa nu nm nk (sp_rf nu nm F U p2) (sp_ru nu nm F U p2) t) (us_AA (us_ads ad pa) sz)) (vx_X (fun _ : Unit => ¬ sp_atK p1 p2 p3 nu = 0) (fun E _ t => E = us_en (sp_atK p1 p2 p3 nu) ∧ us_Bx dC dI ad cU cI pa nu nm nk F U t) (us_AA (us_ads ad pa) sz)) 2 12 (us_AA (us_ads ad pa) sz) := by
  refine vx_ofW (cc := cX1_at) (maxL := 5) (ret := (some .int)) (by decide) rfl ?_
  intro p e s m args below meth c s₁ B hml hte hv
  obtain ⟨rfl, hsz, hP, hK, hD, hE⟩ := hv
  have hx := B.exec
  have hb := B.bytes
  have hr := B.returns
  have htb := us_htb (atoms_spec (ws := wsX1_at) B.pre)
  have hown : s.vm.findClass RX1 = some m.cls := findClass_of_methodNamed B.named
  have hlocks := B.notSynchronized
  subst hsz
  have hA : ∀ q : Nat, s.heap.size ≤ q → (us_AA (us_ads ad pa) s.heap.size) q := fun q h => Or.inr h
  have hS : va_S (us_AA (us_ads ad pa) s.heap.size) s.heap s.heap [] := va_S.rf
  have hP : va_P (dC, dI) vwCl (us_W ad cU cI pa nu nm nk F U) s.heap := hP
  have hD : va_D (us_AA (us_ads ad pa) s.heap.size) (us_W ad cU cI pa nu nm nk F U) := us_D_aa hD
  have hl := lv_entry ([.ref (ad 0), .int p1, .int p2, .int p3]) (n := 5) (Nat.le_of_ble_eq_true rfl)
  rw [lg_entry_eq]
  generalize (lg_sl ([.ref (ad 0), .int p1, .int p2, .int p3]) ++ List.replicate (5 - (lg_sl ([.ref (ad 0), .int p1, .int p2, .int p3])).length) Slot.unset).toArray = ls at hl ⊢
  have hl : lv_has ls 5 [(0, .ref (ad 0)), (1, .int p1), (2, .int p2), (3, .int p3)] := hl
  refine lv_aload_n hx hb dX1_at_0 rfl (lv_at hl 0 rfl) ?_
  refine lv_iload_n hx hb dX1_at_1 rfl (lv_at hl 1 rfl) ?_
  refine vx_callv (vx_runV (As := [.int p1]) (rest := []) ⟨hx, hb, hml, hown, htb⟩ (kt_X1_refuseUnknownUnit l hl9 dC dI ad cU cI pa s.heap.size nu nm nk F U p1) (cwV 1 htb (us_gV mw_292 mw_294 mw_4 mw_32 mw_295) rfl rfl rfl (by decide +kernel) ⟨Nat.le_of_ble_eq_true rfl, Nat.le_of_ble_eq_true rfl⟩) ⟨us_Px_blind, va_recv hK hP (ci := 1) (q0 := 0) rfl rfl, fun U hU hW => ⟨rfl, us_Px_at hP hK hD hE hS (fun q h => hA q (Nat.le_trans hS.1 h)) hU hW⟩⟩ rfl rfl hl.1 rfl (lv_room (Nat.le_of_ble_eq_true rfl)) dX1_at_2 ⟨Nat.le_of_ble_eq_true rfl, Nat.le_of_ble_eq_true rfl⟩) hS (fun q h1 h2 => absurd h2 (Nat.not_le.mpr h1)) (fun q h => hA q (Nat.le_trans hS.1 h)) (fun q h1 h2 => absurd h2 (Nat.not_le.mpr h1)) (fun E_t_3 ce_t_3 q_t_3 _ t_3 H_1 locs ht hvm hw hB hz1 hk1 hS hce hcv hcl => ?_) (fun _ t_3 H_1 locs ht hvm hw hB hz1 hk1 hS => ?_)
  · have hkk := hw
    have hx9 : sp_isU p1 nu = 0 := by refine Decidable.byContradiction (fun h9 => hkk ?_); simp only [sp_refK, eq_false h9, if_false]
    have hE9 := hB
    have hP := us_mono hP (fun q h => hk1 q h (Nat.not_le.mpr h))
    have hk9 : sp_atK p1 p2 p3 nu = sp_refK p1 nu := by first | (simp only [sp_atK, sp_refK, sp_minK, eq_true hx9, if_true, if_false]; done) | (simp [sp_atK, sp_refK, sp_minK, hx9]; done)
    exact vx_out (E := E_t_3) (fun x hx => (hte x hx).elim) hlocks hce hcv hcl (fun t9 ht9 ha => ⟨(), (by rw [hk9]; exact hkk), ⟨(by rw [hk9]; exact hE9), us_Bx_of ht9 hP rfl rfl rfl⟩, hS.F ht9⟩) hS.2.2 (Nat.le_of_ble_eq_true rfl) (Nat.le_of_ble_eq_true rfl)
  have hk0 := hw
  have hk_4 : sp_refK p1 nu = 0 := hk0
  have hf_5 : ¬ sp_isU p1 nu = 0 := by intro h9; simp [sp_refK, h9] at hk_4
  have hP := us_mono hP (fun q h => hk1 q h (Nat.not_le.mpr h))
  obtain ⟨j, hj, ej⟩ := us_isU_spec hnu hf_5
  have hj3 : j < 30 := by omega
  refine lv_iload_n hx hb dX1_at_5 rfl (lv_at hl 3 rfl) ?_
  refine lv_bipush (v := 9) hx hb dX1_at_6 (by decide) ?_
  refine va_calli (va_runS (As := [.int p3, .int 9]) (rest := []) ⟨hx, hb, hml, hown, htb⟩ (kt_X1_isWithin l H_1.size p3 9) (cwS 2 htb (us_gS mw_149 mw_150 mw_32 mw_151) rfl rfl rfl (by decide +kernel) ⟨Nat.le_of_ble_eq_true rfl, Nat.le_of_ble_eq_true rfl⟩) ⟨us_blind0, fun U hU _ => ⟨rfl, congrArg Array.size hU⟩⟩ rfl rfl hl.1 rfl (lv_room (Nat.le_of_ble_eq_true rfl)) dX1_at_8 ⟨Nat.le_of_ble_eq_true rfl, Nat.le_of_ble_eq_true rfl⟩) hS (fun q h1 h2 => absurd h2 (Nat.not_le.mpr h1)) (fun q h => hA q (Nat.le_trans hS.1 h)) (fun r_7 _ t_8 H_6 locs ht hvm hw hB hz1 hk1 hS => ?_)
  obtain ⟨-, hw⟩ := hw
  subst hw
  have hP := us_mono hP (fun q h => hk1 q h (Nat.not_le.mpr h))
  refine lv_if_ne (tgt := 24) hx hb dX1_at_11 (by decide) (fun c_9 => ?_) (fun c_9 => ?_)
  · refine lv_iload_n hx hb dX1_at_24 rfl (lv_at hl 2 rfl) ?_
    refine vx_callv (vx_runS (As := [.int p2]) (rest := []) ⟨hx, hb, hml, hown, htb⟩ (kt_X1_refuseOutsideMinutes l hl9 H_6.size p2) (cwS 1 htb (us_gS mw_270 mw_271 mw_32 mw_272) rfl rfl rfl (by decide +kernel) ⟨Nat.le_of_ble_eq_true rfl, Nat.le_of_ble_eq_true rfl⟩) ⟨us_P0_blind, fun U hU hW => ⟨rfl, us_P0_at hE hS (fun q h => hA q (Nat.le_trans hS.1 h)) hU hW⟩⟩ rfl rfl hl.1 rfl (lv_room (Nat.le_of_ble_eq_true rfl)) dX1_at_25 ⟨Nat.le_of_ble_eq_true rfl, Nat.le_of_ble_eq_true rfl⟩) hS (fun q h1 h2 => absurd h2 (Nat.not_le.mpr h1)) (fun q h => hA q (Nat.le_trans hS.1 h)) (fun q h1 h2 => absurd h2 (Nat.not_le.mpr h1)) (fun E_t_12 ce_t_12 q_t_12 _ t_12 H_10 locs ht hvm hw hB hz1 hk1 hS hce hcv hcl => ?_) (fun _ t_12 H_10 locs ht hvm hw hB hz1 hk1 hS => ?_)
    · have hkk := hw
      have hx9 : sp_in p2 99999 = 0 := by refine Decidable.byContradiction (fun h9 => hkk ?_); simp only [sp_minK, eq_false h9, if_false]
      have hE9 := hB
      have hP := us_mono hP (fun q h => hk1 q h (Nat.not_le.mpr h))
      have hk9 : sp_atK p1 p2 p3 nu = sp_minK p2 := by first | (simp only [sp_atK, sp_refK, sp_minK, eq_true hk_4, eq_false hf_5, eq_false c_9, eq_true hx9, if_true, if_false]; done) | (simp [sp_atK, sp_refK, sp_minK, hk_4, hf_5, c_9, hx9]; done)
      exact vx_out (E := E_t_12) (fun x hx => (hte x hx).elim) hlocks hce hcv hcl (fun t9 ht9 ha => ⟨(), (by rw [hk9]; exact hkk), ⟨(by rw [hk9]; exact hE9), us_Bx_of ht9 hP rfl rfl rfl⟩, hS.F ht9⟩) hS.2.2 (Nat.le_of_ble_eq_true rfl) (Nat.le_of_ble_eq_true rfl)
    have hk0 := hw
    have hk_13 : sp_minK p2 = 0 := hk0
    have hf_14 : ¬ sp_in p2 99999 = 0 := by intro h9; simp [sp_minK, h9] at hk_13
    have hP := us_mono hP (fun q h => hk1 q h (Nat.not_le.mpr h))
    refine lv_aload_n hx hb dX1_at_28 rfl (lv_at hl 0 rfl) ?_
    refine lv_iload_n hx hb dX1_at_29 rfl (lv_at hl 2 rfl) ?_
    refine va_callv (va_runV (As := [.int p2]) (rest := []) ⟨hx, hb, hml, hown, htb⟩ (kt_X1_replay l dC dI ad cU cI pa H_10.size nu nm nk F U p2 hnu hnm hO hV) (cwV 1 htb (us_gV mw_297 mw_299 mw_5 mw_32 mw_300) rfl rfl rfl (by decide +kernel) ⟨Nat.le_of_ble_eq_true rfl, Nat.le_of_ble_eq_true rfl⟩) ⟨us_Px_blind, va_recv hK hP (ci := 1) (q0 := 0) rfl rfl, fun U hU hW => ⟨rfl, us_Px_at hP hK hD hE hS (us_AA_le hS) hU hW⟩⟩ rfl rfl hl.1 rfl (lv_room (Nat.le_of_ble_eq_true rfl)) dX1_at_30 ⟨Nat.le_of_ble_eq_true rfl, Nat.le_of_ble_eq_true rfl⟩) hS (fun q _ h => us_AA_le hS q h) (us_AA_le hS) (fun _ t_17 H_15 locs ht hvm hw hB hz1 hk1 hS => ?_)
    have hP := us_Bx_use ht hB
    have hD : va_D (us_AA (us_ads ad pa) s.heap.size) (us_W ad cU cI pa nu nm nk (sp_rf nu nm F U p2) (sp_ru nu nm F U p2)) := us_D_of (by rw [us_W_adr, us_W_adr]) hD
    have hP : va_P (dC, dI) vwCl (us_W ad cU cI pa nu nm nk (sp_rf nu nm F U p2) (sp_ru nu nm F U p2)) H_15 := hP
    refine lv_aload_n hx hb dX1_at_33 rfl (lv_at hl 0 rfl) ?_
    refine va_get (D := (dC, dI)) (ci := 1) (v := .ref (ad 1)) (C := RX1) (T := TX1) (N := 10) hx hb htb us_inX1 hown hK hP 0 rfl rfl 0 (by decide) (htb _ mw_109) (fun _ h9 => h9) rfl dX1_at_34 ?_
    refine lv_iload_n hx hb dX1_at_37 rfl (lv_at hl 1 rfl) ?_
    refine lv_topi (fun i9 ei9 => ?_)
    have ei9 := ei9.trans ej
    subst ei9
    refine us_aald hx hb hK hP 1 0 rfl rfl hj3 (by decide) rfl dX1_at_38 ?_
    refine lv_astore (lv' := [(4, .ref (pa j)), (0, .ref (ad 0)), (1, .int p1), (2, .int p2), (3, .int p3)]) hx hb dX1_at_39 hl (by decide) rfl (fun ls hl => ?_)
    refine lv_iload_n hx hb dX1_at_41 rfl (lv_at hl 4 rfl) ?_
    by_cases k_18 : p3 = 0
    · refine lv_tableIn (tgt := 92) hx hb dX1_at_42 (by rw [k_18]; decide) (by rw [k_18]; decide) (by rw [k_18]; rfl) (by decide) ?_
      refine lv_aload hx hb dX1_at_92 (lv_at hl 0 rfl) ?_
      refine us_getUN (v := (sp_ru nu nm F U p2) j 2) hx hb htb us_inX0 hown hK hP (8 + j) (us_W_get hj3) 2 (by decide) (va_Nw.use rfl (hE.2.2.1 (.fieldLinkNest RX1 100 "UnitStates$Unit" "state" "I" "UnitStates") (by decide +kernel))) rfl dX1_at_94 ?_
      have hk9 : sp_atK p1 p2 p3 nu = 0 := by first | (simp only [sp_atK, sp_refK, sp_minK, eq_true hk_4, eq_false hf_5, eq_false c_9, eq_true hk_13, eq_false hf_14, eq_true k_18, if_true, if_false]; done) | (simp [sp_atK, sp_refK, sp_minK, hk_4, hf_5, c_9, hk_13, hf_14, k_18]; done)
      have hsp : ((sp_ru nu nm F U p2) j 2) = sp_atR nu (sp_ru nu nm F U p2) p1.toNatClampNeg p2 p3 := by rw [ej, nI_clamp (by omega)]; first | (simp only [sp_atR, eq_true hk_4, eq_false hf_5, eq_false c_9, eq_true hk_13, eq_false hf_14, eq_true k_18, if_true, if_false]; done) | (simp [sp_atR, hk_4, hf_5, c_9, hk_13, hf_14, k_18]; done)
      exact vx_ret ((W.iret (v := ((sp_ru nu nm F U p2) j 2)) hx hb hr (fun t ht hW => ⟨⟨((sp_ru nu nm F U p2) j 2), (), rfl, ⟨hk9, hsp⟩, us_Bx_of ht hP rfl rfl rfl⟩, hS.F ht⟩) hS.2.2 dX1_at_97))
    by_cases k_19 : p3 = 1
    · refine lv_tableIn (tgt := 98) hx hb dX1_at_42 (by rw [k_19]; decide) (by rw [k_19]; decide) (by rw [k_19]; rfl) (by decide) ?_
      refine lv_aload hx hb dX1_at_98 (lv_at hl 0 rfl) ?_
      refine us_getUN (v := (sp_ru nu nm F U p2) j 3) hx hb htb us_inX0 hown hK hP (8 + j) (us_W_get hj3) 3 (by decide) (va_Nw.use rfl (hE.2.2.1 (.fieldLinkNest RX1 103 "UnitStates$Unit" "since" "I" "UnitStates") (by decide +kernel))) rfl dX1_at_100 ?_
      have hk9 : sp_atK p1 p2 p3 nu = 0 := by first | (simp only [sp_atK, sp_refK, sp_minK, eq_true hk_4, eq_false hf_5, eq_false c_9, eq_true hk_13, eq_false hf_14, eq_true k_19, if_true, if_false]; done) | (simp [sp_atK, sp_refK, sp_minK, hk_4, hf_5, c_9, hk_13, hf_14, k_19]; done)
      have hsp : ((sp_ru nu nm F U p2) j 3) = sp_atR nu (sp_ru nu nm F U p2) p1.toNatClampNeg p2 p3 := by rw [ej, nI_clamp (by omega)]; first | (simp only [sp_atR, eq_true hk_4, eq_false hf_5, eq_false c_9, eq_true hk_13, eq_false hf_14, eq_true k_19, if_true, if_false]; done) | (simp [sp_atR, hk_4, hf_5, c_9, hk_13, hf_14, k_19]; done)
      exact vx_ret ((W.iret (v := ((sp_ru nu nm F U p2) j 3)) hx hb hr (fun t ht hW => ⟨⟨((sp_ru nu nm F U p2) j 3), (), rfl, ⟨hk9, hsp⟩, us_Bx_of ht hP rfl rfl rfl⟩, hS.F ht⟩) hS.2.2 dX1_at_103))
    by_cases k_20 : p3 = 2
    · refine lv_tableIn (tgt := 104) hx hb dX1_at_42 (by rw [k_20]; decide) (by rw [k_20]; decide) (by rw [k_20]; rfl) (by decide) ?_
      refine lv_aload hx hb dX1_at_104 (lv_at hl 0 rfl) ?_
      refine va_calli (va_runVN (C := RX0) (As := []) (rest := []) ⟨hx, hb, hml, hown, htb⟩ (kt_X0_stationNow l dC dI (pa j) H_15.size ((sp_ru nu nm F U p2) j)) ⟨va_cnB 0 htb (us_g0 mw_338) rfl rfl rfl (hE.2.2.1 (.methodLinkNest RX1 106 yX0_stationNow "UnitStates") (by decide +kernel)) (htb _ mw_33) (by decide +kernel) ⟨Nat.le_of_ble_eq_true rfl, Nat.le_of_ble_eq_true rfl⟩, htb _ mw_337, htb _ mw_13⟩ ⟨us_Pu_blind, va_recv hK hP (ci := 0) (q0 := 8 + j) rfl (us_W_get hj3), fun U hU hW => ⟨rfl, us_Pu_at (us_W_sub hP hj3) hK hU hW⟩⟩ rfl rfl hl.1 rfl (lv_room (Nat.le_of_ble_eq_true rfl)) dX1_at_106 ⟨Nat.le_of_ble_eq_true rfl, Nat.le_of_ble_eq_true rfl⟩) hS (fun q h1 h2 => absurd h2 (Nat.not_le.mpr h1)) (fun q h => hA q (Nat.le_trans hS.1 h)) (fun r_22 _ t_23 H_21 locs ht hvm hw hB hz1 hk1 hS => ?_)
      subst hw
      have hP := us_mono hP (fun q h => hk1 q h (Nat.not_le.mpr h))
      have hk9 : sp_atK p1 p2 p3 nu = 0 := by first | (simp only [sp_atK, sp_refK, sp_minK, eq_true hk_4, eq_false hf_5, eq_false c_9, eq_true hk_13, eq_false hf_14, eq_true k_20, if_true, if_false]; done) | (simp [sp_atK, sp_refK, sp_minK, hk_4, hf_5, c_9, hk_13, hf_14, k_20]; done)
      have hsp : (sp_stn ((sp_ru nu nm F U p2) j)) = sp_atR nu (sp_ru nu nm F U p2) p1.toNatClampNeg p2 p3 := by rw [ej, nI_clamp (by omega)]; first | (simp only [sp_atR, eq_true hk_4, eq_false hf_5, eq_false c_9, eq_true hk_13, eq_false hf_14, eq_true k_20, if_true, if_false]; done) | (simp [sp_atR, hk_4, hf_5, c_9, hk_13, hf_14, k_20]; done)
      exact vx_ret ((W.iret (v := (sp_stn ((sp_ru nu nm F U p2) j))) hx hb hr (fun t ht hW => ⟨⟨(sp_stn ((sp_ru nu nm F U p2) j)), (), rfl, ⟨hk9, hsp⟩, us_Bx_of ht hP rfl rfl rfl⟩, hS.F ht⟩) hS.2.2 dX1_at_109))
    by_cases k_24 : p3 = 3
    · refine lv_tableIn (tgt := 110) hx hb dX1_at_42 (by rw [k_24]; decide) (by rw [k_24]; decide) (by rw [k_24]; rfl) (by decide) ?_
      refine lv_aload hx hb dX1_at_110 (lv_at hl 0 rfl) ?_
      refine va_calli (va_runVN (C := RX0) (As := []) (rest := []) ⟨hx, hb, hml, hown, htb⟩ (kt_X0_incidentNow l dC dI (pa j) H_15.size ((sp_ru nu nm F U p2) j)) ⟨va_cnB 0 htb (us_g0 mw_342) rfl rfl rfl (hE.2.2.1 (.methodLinkNest RX1 110 yX0_incidentNow "UnitStates") (by decide +kernel)) (htb _ mw_33) (by decide +kernel) ⟨Nat.le_of_ble_eq_true rfl, Nat.le_of_ble_eq_true rfl⟩, htb _ mw_341, htb _ mw_14⟩ ⟨us_Pu_blind, va_recv hK hP (ci := 0) (q0 := 8 + j) rfl (us_W_get hj3), fun U hU hW => ⟨rfl, us_Pu_at (us_W_sub hP hj3) hK hU hW⟩⟩ rfl rfl hl.1 rfl (lv_room (Nat.le_of_ble_eq_true rfl)) dX1_at_112 ⟨Nat.le_of_ble_eq_true rfl, Nat.le_of_ble_eq_true rfl⟩) hS (fun q h1 h2 => absurd h2 (Nat.not_le.mpr h1)) (fun q h => hA q (Nat.le_trans hS.1 h)) (fun r_26 _ t_27 H_25 locs ht hvm hw hB hz1 hk1 hS => ?_)
      subst hw
      have hP := us_mono hP (fun q h => hk1 q h (Nat.not_le.mpr h))
      have hk9 : sp_atK p1 p2 p3 nu = 0 := by first | (simp only [sp_atK, sp_refK, sp_minK, eq_true hk_4, eq_false hf_5, eq_false c_9, eq_true hk_13, eq_false hf_14, eq_true k_24, if_true, if_false]; done) | (simp [sp_atK, sp_refK, sp_minK, hk_4, hf_5, c_9, hk_13, hf_14, k_24]; done)
      have hsp : (sp_inc ((sp_ru nu nm F U p2) j)) = sp_atR nu (sp_ru nu nm F U p2) p1.toNatClampNeg p2 p3 := by rw [ej, nI_clamp (by omega)]; first | (simp only [sp_atR, eq_true hk_4, eq_false hf_5, eq_false c_9, eq_true hk_13, eq_false hf_14, eq_true k_24, if_true, if_false]; done) | (simp [sp_atR, hk_4, hf_5, c_9, hk_13, hf_14, k_24]; done)
      exact vx_ret ((W.iret (v := (sp_inc ((sp_ru nu nm F U p2) j))) hx hb hr (fun t ht hW => ⟨⟨(sp_inc ((sp_ru nu nm F U p2) j)), (), rfl, ⟨hk9, hsp⟩, us_Bx_of ht hP rfl rfl rfl⟩, hS.F ht⟩) hS.2.2 dX1_at_115))
    by_cases k_28 : p3 = 4
    · refine lv_tableIn (tgt := 116) hx hb dX1_at_42 (by rw [k_28]; decide) (by rw [k_28]; decide) (by rw [k_28]; rfl) (by decide) ?_
      refine lv_aload hx hb dX1_at_116 (lv_at hl 0 rfl) ?_
      refine us_getUN (v := (sp_ru nu nm F U p2) j 6) hx hb htb us_inX0 hown hK hP (8 + j) (us_W_get hj3) 6 (by decide) (va_Nw.use rfl (hE.2.2.1 (.fieldLinkNest RX1 113 "UnitStates$Unit" "crew" "I" "UnitStates") (by decide +kernel))) rfl dX1_at_118 ?_
      have hk9 : sp_atK p1 p2 p3 nu = 0 := by first | (simp only [sp_atK, sp_refK, sp_minK, eq_true hk_4, eq_false hf_5, eq_false c_9, eq_true hk_13, eq_false hf_14, eq_true k_28, if_true, if_false]; done) | (simp [sp_atK, sp_refK, sp_minK, hk_4, hf_5, c_9, hk_13, hf_14, k_28]; done)
      have hsp : ((sp_ru nu nm F U p2) j 6) = sp_atR nu (sp_ru nu nm F U p2) p1.toNatClampNeg p2 p3 := by rw [ej, nI_clamp (by omega)]; first | (simp only [sp_atR, eq_true hk_4, eq_false hf_5, eq_false c_9, eq_true hk_13, eq_false hf_14, eq_true k_28, if_true, if_false]; done) | (simp [sp_atR, hk_4, hf_5, c_9, hk_13, hf_14, k_28]; done)
      exact vx_ret ((W.iret (v := ((sp_ru nu nm F U p2) j 6)) hx hb hr (fun t ht hW => ⟨⟨((sp_ru nu nm F U p2) j 6), (), rfl, ⟨hk9, hsp⟩, us_Bx_of ht hP rfl rfl rfl⟩, hS.F ht⟩) hS.2.2 dX1_at_121))
    by_cases k_29 : p3 = 5
    · refine lv_tableIn (tgt := 122) hx hb dX1_at_42 (by rw [k_29]; decide) (by rw [k_29]; decide) (by rw [k_29]; rfl) (by decide) ?_
      refine lv_aload hx hb dX1_at_122 (lv_at hl 0 rfl) ?_
      refine us_getUN (v := (sp_ru nu nm F U p2) j 7) hx hb htb us_inX0 hown hK hP (8 + j) (us_W_get hj3) 7 (by decide) (va_Nw.use rfl (hE.2.2.1 (.fieldLinkNest RX1 116 "UnitStates$Unit" "things" "I" "UnitStates") (by decide +kernel))) rfl dX1_at_124 ?_
      have hk9 : sp_atK p1 p2 p3 nu = 0 := by first | (simp only [sp_atK, sp_refK, sp_minK, eq_true hk_4, eq_false hf_5, eq_false c_9, eq_true hk_13, eq_false hf_14, eq_true k_29, if_true, if_false]; done) | (simp [sp_atK, sp_refK, sp_minK, hk_4, hf_5, c_9, hk_13, hf_14, k_29]; done)
      have hsp : ((sp_ru nu nm F U p2) j 7) = sp_atR nu (sp_ru nu nm F U p2) p1.toNatClampNeg p2 p3 := by rw [ej, nI_clamp (by omega)]; first | (simp only [sp_atR, eq_true hk_4, eq_false hf_5, eq_false c_9, eq_true hk_13, eq_false hf_14, eq_true k_29, if_true, if_false]; done) | (simp [sp_atR, hk_4, hf_5, c_9, hk_13, hf_14, k_29]; done)
      exact vx_ret ((W.iret (v := ((sp_ru nu nm F U p2) j 7)) hx hb hr (fun t ht hW => ⟨⟨((sp_ru nu nm F U p2) j 7), (), rfl, ⟨hk9, hsp⟩, us_Bx_of ht hP rfl rfl rfl⟩, hS.F ht⟩) hS.2.2 dX1_at_127))
    by_cases k_30 : p3 = 6
    · refine lv_tableIn (tgt := 128) hx hb dX1_at_42 (by rw [k_30]; decide) (by rw [k_30]; decide) (by rw [k_30]; rfl) (by decide) ?_
      refine lv_aload hx hb dX1_at_128 (lv_at hl 0 rfl) ?_
      refine us_getUN (v := (sp_ru nu nm F U p2) j 8) hx hb htb us_inX0 hown hK hP (8 + j) (us_W_get hj3) 8 (by decide) (va_Nw.use rfl (hE.2.2.1 (.fieldLinkNest RX1 119 "UnitStates$Unit" "link" "I" "UnitStates") (by decide +kernel))) rfl dX1_at_130 ?_
      have hk9 : sp_atK p1 p2 p3 nu = 0 := by first | (simp only [sp_atK, sp_refK, sp_minK, eq_true hk_4, eq_false hf_5, eq_false c_9, eq_true hk_13, eq_false hf_14, eq_true k_30, if_true, if_false]; done) | (simp [sp_atK, sp_refK, sp_minK, hk_4, hf_5, c_9, hk_13, hf_14, k_30]; done)
      have hsp : ((sp_ru nu nm F U p2) j 8) = sp_atR nu (sp_ru nu nm F U p2) p1.toNatClampNeg p2 p3 := by rw [ej, nI_clamp (by omega)]; first | (simp only [sp_atR, eq_true hk_4, eq_false hf_5, eq_false c_9, eq_true hk_13, eq_false hf_14, eq_true k_30, if_true, if_false]; done) | (simp [sp_atR, hk_4, hf_5, c_9, hk_13, hf_14, k_30]; done)
      exact vx_ret ((W.iret (v := ((sp_ru nu nm F U p2) j 8)) hx hb hr (fun t ht hW => ⟨⟨((sp_ru nu nm F U p2) j 8), (), rfl, ⟨hk9, hsp⟩, us_Bx_of ht hP rfl rfl rfl⟩, hS.F ht⟩) hS.2.2 dX1_at_133))
    by_cases k_31 : p3 = 7
    · refine lv_tableIn (tgt := 134) hx hb dX1_at_42 (by rw [k_31]; decide) (by rw [k_31]; decide) (by rw [k_31]; rfl) (by decide) ?_
      refine lv_aload hx hb dX1_at_134 (lv_at hl 0 rfl) ?_
      refine lv_iload_n hx hb dX1_at_136 rfl (lv_at hl 3 rfl) ?_
      refine va_calli (va_runVN (C := RX0) (As := [.int p2]) (rest := []) ⟨hx, hb, hml, hown, htb⟩ (kt_X0_drivenUpTo l dC dI (pa j) H_15.size ((sp_ru nu nm F U p2) j) p2) ⟨va_cnB 1 htb (us_g0 mw_326) rfl rfl rfl (hE.2.2.1 (.methodLinkNest RX1 122 yX0_drivenUpTo "UnitStates") (by decide +kernel)) (htb _ mw_33) (by decide +kernel) ⟨Nat.le_of_ble_eq_true rfl, Nat.le_of_ble_eq_true rfl⟩, htb _ mw_325, htb _ mw_10⟩ ⟨us_Pu_blind, va_recv hK hP (ci := 0) (q0 := 8 + j) rfl (us_W_get hj3), fun U hU hW => ⟨rfl, us_Pu_at (us_W_sub hP hj3) hK hU hW⟩⟩ rfl rfl hl.1 rfl (lv_room (Nat.le_of_ble_eq_true rfl)) dX1_at_137 ⟨Nat.le_of_ble_eq_true rfl, Nat.le_of_ble_eq_true rfl⟩) hS (fun q h1 h2 => absurd h2 (Nat.not_le.mpr h1)) (fun q h => hA q (Nat.le_trans hS.1 h)) (fun r_33 _ t_34 H_32 locs ht hvm hw hB hz1 hk1 hS => ?_)
      subst hw
      have hP := us_mono hP (fun q h => hk1 q h (Nat.not_le.mpr h))
      have hk9 : sp_atK p1 p2 p3 nu = 0 := by first | (simp only [sp_atK, sp_refK, sp_minK, eq_true hk_4, eq_false hf_5, eq_false c_9, eq_true hk_13, eq_false hf_14, eq_true k_31, if_true, if_false]; done) | (simp [sp_atK, sp_refK, sp_minK, hk_4, hf_5, c_9, hk_13, hf_14, k_31]; done)
      have hsp : (sp_dr ((sp_ru nu nm F U p2) j) p2) = sp_atR nu (sp_ru nu nm F U p2) p1.toNatClampNeg p2 p3 := by rw [ej, nI_clamp (by omega)]; first | (simp only [sp_atR, eq_true hk_4, eq_false hf_5, eq_false c_9, eq_true hk_13, eq_false hf_14, eq_true k_31, if_true, if_false]; done) | (simp [sp_atR, hk_4, hf_5, c_9, hk_13, hf_14, k_31]; done)
      exact vx_ret ((W.iret (v := (sp_dr ((sp_ru nu nm F U p2) j) p2)) hx hb hr (fun t ht hW => ⟨⟨(sp_dr ((sp_ru nu nm F U p2) j) p2), (), rfl, ⟨hk9, hsp⟩, us_Bx_of ht hP rfl rfl rfl⟩, hS.F ht⟩) hS.2.2 dX1_at_140))
    by_cases k_35 : p3 = 8
    · refine lv_tableIn (tgt := 141) hx hb dX1_at_42 (by rw [k_35]; decide) (by rw [k_35]; decide) (by rw [k_35]; rfl) (by decide) ?_
      refine lv_aload hx hb dX1_at_141 (lv_at hl 0 rfl) ?_
      refine lv_iload_n hx hb dX1_at_143 rfl (lv_at hl 3 rfl) ?_
      refine va_calli (va_runVN (C := RX0) (As := [.int p2]) (rest := []) ⟨hx, hb, hml, hown, htb⟩ (kt_X0_isSendable l dC dI (pa j) H_15.size ((sp_ru nu nm F U p2) j) p2) ⟨va_cnB 1 htb (us_g0 mw_347) rfl rfl rfl (hE.2.2.1 (.methodLinkNest RX1 126 yX0_isSendable "UnitStates") (by decide +kernel)) (htb _ mw_33) (by decide +kernel) ⟨Nat.le_of_ble_eq_true rfl, Nat.le_of_ble_eq_true rfl⟩, htb _ mw_346, htb _ mw_15⟩ ⟨us_Pu_blind, va_recv hK hP (ci := 0) (q0 := 8 + j) rfl (us_W_get hj3), fun U hU hW => ⟨rfl, us_Pu_at (us_W_sub hP hj3) hK hU hW⟩⟩ rfl rfl hl.1 rfl (lv_room (Nat.le_of_ble_eq_true rfl)) dX1_at_144 ⟨Nat.le_of_ble_eq_true rfl, Nat.le_of_ble_eq_true rfl⟩) hS (fun q h1 h2 => absurd h2 (Nat.not_le.mpr h1)) (fun q h => hA q (Nat.le_trans hS.1 h)) (fun r_37 _ t_38 H_36 locs ht hvm hw hB hz1 hk1 hS => ?_)
      subst hw
      have hP := us_mono hP (fun q h => hk1 q h (Nat.not_le.mpr h))
      refine lv_if_eq (tgt := 154) hx hb dX1_at_147 (by decide) (fun c_39 => ?_) (fun c_39 => ?_)
      · refine lv_iconst (v := 0) hx hb dX1_at_154 (by decide) ?_
        have hk9 : sp_atK p1 p2 p3 nu = 0 := by first | (simp only [sp_atK, sp_refK, sp_minK, eq_true hk_4, eq_false hf_5, eq_false c_9, eq_true hk_13, eq_false hf_14, eq_true k_35, eq_true c_39, if_true, if_false]; done) | (simp [sp_atK, sp_refK, sp_minK, hk_4, hf_5, c_9, hk_13, hf_14, k_35, c_39]; done)
        have hsp : 0 = sp_atR nu (sp_ru nu nm F U p2) p1.toNatClampNeg p2 p3 := by rw [ej, nI_clamp (by omega)]; first | (simp only [sp_atR, eq_true hk_4, eq_false hf_5, eq_false c_9, eq_true hk_13, eq_false hf_14, eq_true k_35, eq_true c_39, if_true, if_false]; done) | (simp [sp_atR, hk_4, hf_5, c_9, hk_13, hf_14, k_35, c_39]; done)
        exact vx_ret ((W.iret (v := 0) hx hb hr (fun t ht hW => ⟨⟨0, (), rfl, ⟨hk9, hsp⟩, us_Bx_of ht hP rfl rfl rfl⟩, hS.F ht⟩) hS.2.2 dX1_at_155))
      · refine lv_iconst (v := 1) hx hb dX1_at_150 (by decide) ?_
        refine lv_goto (tgt := 155) hx hb dX1_at_151 (by decide) ?_
        have hk9 : sp_atK p1 p2 p3 nu = 0 := by first | (simp only [sp_atK, sp_refK, sp_minK, eq_true hk_4, eq_false hf_5, eq_false c_9, eq_true hk_13, eq_false hf_14, eq_true k_35, eq_false c_39, if_true, if_false]; done) | (simp [sp_atK, sp_refK, sp_minK, hk_4, hf_5, c_9, hk_13, hf_14, k_35, c_39]; done)
        have hsp : 1 = sp_atR nu (sp_ru nu nm F U p2) p1.toNatClampNeg p2 p3 := by rw [ej, nI_clamp (by omega)]; first | (simp only [sp_atR, eq_true hk_4, eq_false hf_5, eq_false c_9, eq_true hk_13, eq_false hf_14, eq_true k_35, eq_false c_39, if_true, if_false]; done) | (simp [sp_atR, hk_4, hf_5, c_9, hk_13, hf_14, k_35, c_39]; done)
        exact vx_ret ((W.iret (v := 1) hx hb hr (fun t ht hW => ⟨⟨1, (), rfl, ⟨hk9, hsp⟩, us_Bx_of ht hP rfl rfl rfl⟩, hS.F ht⟩) hS.2.2 dX1_at_155))
    have hout_42 : p3.toInt < 0 ∨ 8 < p3.toInt := us_sw (lo := 0) (hi := 8) (fun z h1 h2 => by
      rcases (show z = 0 ∨ z = 1 ∨ z = 2 ∨ z = 3 ∨ z = 4 ∨ z = 5 ∨ z = 6 ∨ z = 7 ∨ z = 8 by omega) with rfl | rfl | rfl | rfl | rfl | rfl | rfl | rfl | rfl
      · exact fun e => k_18 (e.trans (by decide))
      · exact fun e => k_19 (e.trans (by decide))
      · exact fun e => k_20 (e.trans (by decide))
      · exact fun e => k_24 (e.trans (by decide))
      · exact fun e => k_28 (e.trans (by decide))
      · exact fun e => k_29 (e.trans (by decide))
      · exact fun e => k_30 (e.trans (by decide))
      · exact fun e => k_31 (e.trans (by decide))
      · exact fun e => k_35 (e.trans (by decide)))
    refine lv_tableOut (tgt := 156) hx hb dX1_at_42 hout_42 (by decide) ?_
    refine lv_aload_n hx hb dX1_at_156 rfl (lv_at hl 1 rfl) ?_
    refine lv_aload hx hb dX1_at_157 (lv_at hl 0 rfl) ?_
    refine va_calli (va_runV (As := [.ref (pa j)]) (rest := []) ⟨hx, hb, hml, hown, htb⟩ (kt_X1_rankOf l dC dI ad cU cI pa H_15.size nu nm nk (sp_rf nu nm F U p2) (sp_ru nu nm F U p2) j hnu hj3) (cwV 1 htb (us_gV mw_348 mw_350 mw_16 mw_32 mw_351) rfl rfl rfl (by decide +kernel) ⟨Nat.le_of_ble_eq_true rfl, Nat.le_of_ble_eq_true rfl⟩) ⟨us_Px_blind, va_recv hK hP (ci := 1) (q0 := 0) rfl rfl, fun U hU hW => ⟨rfl, us_Px_at hP hK hD hE hS (fun q h => hA q (Nat.le_trans hS.1 h)) hU hW⟩⟩ rfl rfl hl.1 rfl (lv_room (Nat.le_of_ble_eq_true rfl)) dX1_at_159 ⟨Nat.le_of_ble_eq_true rfl, Nat.le_of_ble_eq_true rfl⟩) hS (fun q h1 h2 => absurd h2 (Nat.not_le.mpr h1)) (fun q h => hA q (Nat.le_trans hS.1 h)) (fun r_41 _ t_42 H_40 locs ht hvm hw hB hz1 hk1 hS => ?_)
    obtain ⟨-, hw⟩ := hw
    subst hw
    have hP := us_mono hP (fun q h => hk1 q h (Nat.not_le.mpr h))
    have hk9 : sp_atK p1 p2 p3 nu = 0 := by first | (simp only [sp_atK, sp_refK, sp_minK, eq_true hk_4, eq_false hf_5, eq_false c_9, eq_true hk_13, eq_false hf_14, eq_false k_18, eq_false k_19, eq_false k_20, eq_false k_24, eq_false k_28, eq_false k_29, eq_false k_30, eq_false k_31, eq_false k_35, if_true, if_false]; done) | (simp [sp_atK, sp_refK, sp_minK, hk_4, hf_5, c_9, hk_13, hf_14, k_18, k_19, k_20, k_24, k_28, k_29, k_30, k_31, k_35]; done)
    have hsp : (sp_rank nu (sp_ru nu nm F U p2) j) = sp_atR nu (sp_ru nu nm F U p2) p1.toNatClampNeg p2 p3 := by rw [ej, nI_clamp (by omega)]; first | (simp only [sp_atR, eq_true hk_4, eq_false hf_5, eq_false c_9, eq_true hk_13, eq_false hf_14, eq_false k_18, eq_false k_19, eq_false k_20, eq_false k_24, eq_false k_28, eq_false k_29, eq_false k_30, eq_false k_31, eq_false k_35, if_true, if_false]; done) | (simp [sp_atR, hk_4, hf_5, c_9, hk_13, hf_14, k_18, k_19, k_20, k_24, k_28, k_29, k_30, k_31, k_35]; done)
    exact vx_ret ((W.iret (v := (sp_rank nu (sp_ru nu nm F U p2) j)) hx hb hr (fun t ht hW => ⟨⟨(sp_rank nu (sp_ru nu nm F U p2) j), (), rfl, ⟨hk9, hsp⟩, us_Bx_of ht hP rfl rfl rfl⟩, hS.F ht⟩) hS.2.2 dX1_at_162))
  · obtain ⟨sa_43, hst_sa_43⟩ := hE.2.2.2.2 (RX1, 95, "no such what") (by decide +kernel)
    have hk9 : sp_atK p1 p2 p3 nu = 1 := by first | (simp only [sp_atK, sp_refK, sp_minK, eq_true hk_4, eq_false hf_5, eq_true c_9, if_true, if_false]; done) | (simp [sp_atK, sp_refK, sp_minK, hk_4, hf_5, c_9]; done)
    exact vx_throwS (own := RX1) (cls := "java/lang/IllegalArgumentException") (names := ["java/lang/RuntimeException", "java/lang/Exception"]) hx hb hl9 hown (by decide +kernel) (by decide +kernel) (htb _ mw_253) (htb _ mw_40) hst_sa_43 (vx_hat (L := vx_atS RX1 72 "java/lang/IllegalArgumentException" ["java/lang/RuntimeException", "java/lang/Exception"]) (B := [.castable "java/lang/IllegalArgumentException" "java/lang/IllegalArgumentException", .declares ⟨"java/lang/RuntimeException", "<init>", "(Ljava/lang/String;)V"⟩, .declares ⟨"java/lang/Exception", "<init>", "(Ljava/lang/String;)V"⟩, .declares ⟨"java/lang/Throwable", "<init>", "(Ljava/lang/String;)V"⟩]) (fun w hw => htb w (us_at72 w hw)) us_ab72 (vx_c (va_Nw.use rfl (hE.2.2.1 _ (by decide +kernel))) (vx_c (va_Nw.use rfl (hE.2.2.1 _ (by decide +kernel))) (vx_c (va_Nw.use rfl (hE.2.2.1 _ (by decide +kernel))) (vx_c (va_Nw.use rfl (hE.2.2.1 _ (by decide +kernel))) (vx_n)))))) us_ag72 hE.1 hE.2.1 hS (hl.1.trans hml.symm) dX1_at_14 dX1_at_17 dX1_at_18 dX1_at_20 dX1_at_23 (fun x hx => (hte x hx).elim) (Nat.le_of_ble_eq_true rfl) (Nat.le_of_ble_eq_true rfl) (Nat.le_of_ble_eq_true rfl) (Nat.le_of_ble_eq_true rfl) hlocks (fun t ha hsz hk => ⟨(), (by rw [hk9]; decide), ⟨(by rw [hk9]; rfl), us_Bx_of rfl (us_mono hP (fun q hq => hk q hq)) rfl rfl rfl⟩, Nat.le_trans hS.1 hsz, fun q h1 h2 => (hk q (Nat.lt_of_lt_of_le h1 hS.1)).trans (hS.2.1 q h1 h2)⟩) hS.2.2 (Nat.le_of_ble_eq_true rfl) (Nat.le_of_ble_eq_true rfl)
