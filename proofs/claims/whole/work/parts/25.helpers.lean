set_option maxHeartbeats 8000000 in
set_option maxRecDepth 100000 in
theorem kt_L_unit (l : Launch) (hl9 : l.stackTraces = false) (dC : Nat → ClassId) (dI : Nat → Nat → Nat) (ad : Nat → Nat) (cU cI : ClassId) (pa : Nat → Nat) (sz : Nat) (nu nm : Nat) (nk : Int32) (F U : Nat → Nat → Int32) (ao : Nat) (cJ : ClassId) (o : Nat → Int64) (p1 p2 : Int32) (hnu : nu ≤ 30) (hao : ao ∉ us_ads ad pa) : Met l yL_unit wsL_unit ({ frames := 7, cells := 1, slots := 6, locals := 113 }) (va_Pc [.ref (ad 0), .int p1, .int p2, .ref ao] (lh_P dC dI ad cU cI pa nu nm nk F U ao cJ o sz)) (va_Qi (fun r (_ : Unit) => r = lh_uc (sp_unitK p1 p2 nu)) (fun _ t => (sp_unitK p1 p2 nu = 0 → lh_B dC dI ad cU cI pa (nu + 1) nm nk F (va_up U nu (sp_settle (U nu) p1 p2)) ao cJ (fun o => o 0 = (nI nu).toInt64) t) ∧ (¬ sp_unitK p1 p2 nu = 0 → lh_B dC dI ad cU cI pa nu nm nk F U ao cJ (fun _ => True) t)) (us_AA (ao :: us_ads ad pa) sz)) 1 6 (us_AA (ao :: us_ads ad pa) sz) := by
  refine va_MetW (cc := cL_unit) (maxL := 5) (ret := (some .int)) (hh := [(0, 10, 13, 13), (0, 10, 17, 15)]) (by decide) rfl ?_
  intro p e s m args below meth c s₁ B hml hv
  obtain ⟨rfl, ⟨hsz, hP, hK, hD, hE⟩, hOut, hKJ⟩ := hv
  have hx := B.exec
  have hb := B.bytes
  have hr := B.returns
  have hat := atoms_spec (ws := wsL_unit) B.pre
  have htb := us_htb hat
  have hown : s.vm.findClass RL = some m.cls := findClass_of_methodNamed B.named
  have hTab : c.exceptionTable.toList = tableOf [(0, 10, 13, 13), (0, 10, 17, 15)] := vx_table (x := yL_unit) B (hat _ List.mem_cons_self)
  have hlocks := B.notSynchronized
  subst hsz
  have hA : ∀ q : Nat, s.heap.size ≤ q → (us_AA (ao :: us_ads ad pa) s.heap.size) q := fun q h => Or.inr h
  have hS : va_S (us_AA (ao :: us_ads ad pa) s.heap.size) s.heap s.heap [] := va_S.rf
  have hP : va_P (dC, dI) vwCl (us_W ad cU cI pa nu nm nk F U) s.heap := hP
  have hl := lv_entry ([.ref (ad 0), .int p1, .int p2, .ref ao]) (n := 5) (Nat.le_of_ble_eq_true rfl)
  rw [lg_entry_eq]
  generalize (lg_sl ([.ref (ad 0), .int p1, .int p2, .ref ao]) ++ List.replicate (5 - (lg_sl ([.ref (ad 0), .int p1, .int p2, .ref ao])).length) Slot.unset).toArray = ls at hl ⊢
  have hl : lv_has ls 5 [(0, .ref (ad 0)), (1, .int p1), (2, .int p2), (3, .ref ao)] := hl
  refine lv_aload_n hx hb dL_unit_0 rfl (lv_at hl 3 rfl) ?_
  refine lv_iconst (v := 0) hx hb dL_unit_1 (by decide) ?_
  refine lv_aload_n hx hb dL_unit_2 rfl (lv_at hl 0 rfl) ?_
  refine lv_iload_n hx hb dL_unit_3 rfl (lv_at hl 1 rfl) ?_
  refine lv_iload_n hx hb dL_unit_4 rfl (lv_at hl 2 rfl) ?_
  refine vx_calli (vx_runV (As := [.int p1, .int p2]) (rest := [.int 0, .ref ao]) ⟨hx, hb, hml, hown, htb⟩ (kt_X1_unit l hl9 dC dI ad cU cI pa s.heap.size nu nm nk F U p1 p2 hnu) (cwV 2 htb (us_gV mw_145 mw_146 mw_147 mw_32 mw_148) rfl rfl rfl (by decide +kernel) ⟨Nat.le_of_ble_eq_true rfl, Nat.le_of_ble_eq_true rfl⟩) ⟨us_Px_blind, va_recv hK hP (ci := 1) (q0 := 0) rfl rfl, fun U hU hW => ⟨rfl, us_Px_at hP hK hD hE hS lh_sub hU hW⟩⟩ rfl rfl hl.1 rfl (lv_room (Nat.le_of_ble_eq_true rfl)) dL_unit_5 ⟨Nat.le_of_ble_eq_true rfl, Nat.le_of_ble_eq_true rfl⟩) hS (fun q _ h => lh_sub q h) lh_sub (fun q _ h => lh_sub q h) (fun E9 ce q9 _ t H locs ht hvm hw hB hz1 hk1 hS hce hcv hcl => ?_) (fun r _ t H locs ht hvm hw hB hz1 hk1 hS => ?_)
  · obtain ⟨hE9, hB⟩ := hB
    have hP := us_Bx_use ht hB
    have hOut : va_P (dC, dI) vwCl (lh_w ao cJ o) H := lh_keep hOut (fun x h => by cases List.mem_singleton.mp h; exact hao) hk1
    rcases lh_unitK hw with hk9 | hk9
    · have hE8 : E9 = "java/lang/IndexOutOfBoundsException" := by rw [hE9, hk9]; rfl
      subst hE8
      refine vx_catch (own := RL) (name := "java/lang/IndexOutOfBoundsException") (E := "java/lang/IndexOutOfBoundsException") hown [] ⟨0, 10, 13, 13⟩ [⟨0, 10, 17, 15⟩] (by rw [hTab]; rfl) (fun z hz => nomatch hz) (by decide) (by decide) (htb _ mw_143) (va_Nw.use rfl (hE.2.2.1 (.castable "java/lang/IndexOutOfBoundsException" "java/lang/IndexOutOfBoundsException") (by decide +kernel))) hce hcv hcl ?_
      refine lv_astore (lv' := [(4, .ref q9), (0, .ref (ad 0)), (1, .int p1), (2, .int p2), (3, .ref ao)]) hx hb dL_unit_13 hl (by decide) rfl (fun ls hl => ?_)
      refine lv_iconst (v := 1) hx hb dL_unit_15 (by decide) ?_
      exact W.iret (v := 1) hx hb hr (fun t ht hW => ⟨⟨1, (), rfl, by rw [hk9]; decide, fun h0 => absurd h0 hw, fun _ => ⟨us_Bx_of ht hP rfl rfl rfl, o, by rw [ht]; exact hOut, trivial⟩⟩, hS.F ht⟩) hS.2.2 dL_unit_16
    · have hE8 : E9 = "java/lang/UnsupportedOperationException" := by rw [hE9, hk9]; rfl
      subst hE8
      refine vx_catch (own := RL) (name := "java/lang/UnsupportedOperationException") (E := "java/lang/UnsupportedOperationException") hown [⟨0, 10, 13, 13⟩] ⟨0, 10, 17, 15⟩ [] (by rw [hTab]; rfl) (fun z hz => by cases List.mem_singleton.mp hz; exact Or.inr ⟨by decide, "java/lang/IndexOutOfBoundsException", htb _ mw_143, hE.2.2.2.1 ("java/lang/UnsupportedOperationException", "java/lang/IndexOutOfBoundsException") (by decide +kernel)⟩) (by decide) (by decide) (htb _ mw_144) (va_Nw.use rfl (hE.2.2.1 (.castable "java/lang/UnsupportedOperationException" "java/lang/UnsupportedOperationException") (by decide +kernel))) hce hcv hcl ?_
      refine lv_astore (lv' := [(4, .ref q9), (0, .ref (ad 0)), (1, .int p1), (2, .int p2), (3, .ref ao)]) hx hb dL_unit_17 hl (by decide) rfl (fun ls hl => ?_)
      refine lv_iconst (v := 2) hx hb dL_unit_19 (by decide) ?_
      exact W.iret (v := 2) hx hb hr (fun t ht hW => ⟨⟨2, (), rfl, by rw [hk9]; decide, fun h0 => absurd h0 hw, fun _ => ⟨us_Bx_of ht hP rfl rfl rfl, o, by rw [ht]; exact hOut, trivial⟩⟩, hS.F ht⟩) hS.2.2 dL_unit_20
  · obtain ⟨hk0, hw⟩ := hw
    subst hw
    have hP := us_Bx_use ht hB
    have hOut : va_P (dC, dI) vwCl (lh_w ao cJ o) H := lh_keep hOut (fun x h => by cases List.mem_singleton.mp h; exact hao) hk1
    refine lv_i2l hx hb dL_unit_8 rfl ?_
    have hP2 : va_P (dC, dI) vwCl ((ao, .inl (cJ, 1, .inr (.inl o))) :: (us_W ad cU cI pa (nu + 1) nm nk F (va_up U nu (sp_settle (U nu) p1 p2)))) H := lh_cons hOut hP
    have hD2 : va_D (us_AA (ao :: us_ads ad pa) s.heap.size) ((ao, .inl (cJ, 1, .inr (.inl o))) :: (us_W ad cU cI pa (nu + 1) nm nk F (va_up U nu (sp_settle (U nu) p1 p2)))) := lh_D (Or.inl List.mem_cons_self) (by rw [us_W_adr]; exact hao) ((us_D_of (by rw [us_W_adr, us_W_adr]) hD).weaken (fun _ _ _ h => Or.inl (List.mem_cons_of_mem _ h)))
    refine va_last hx hb hKJ hP2 hD2 hS 0 0 rfl rfl (i := 0) (vp_in_nI (n := 0) (N := 1) (by decide) (by decide)) dL_unit_9 (fun H locs hP hD hS => ?_)
    refine lv_goto (tgt := 21) hx hb dL_unit_10 (by decide) ?_
    refine lv_iconst (v := 0) hx hb dL_unit_21 (by decide) ?_
    exact W.iret (v := 0) hx hb hr (fun t ht hW => ⟨⟨0, (), rfl, by rw [hk0]; rfl, fun _ => ⟨us_Bx_of ht (lh_tl hP) rfl rfl rfl, _, by rw [ht]; exact lh_hd hP, rfl⟩, fun h0 => absurd hk0 h0⟩, hS.F ht⟩) hS.2.2 dL_unit_22
set_option maxHeartbeats 8000000 in
set_option maxRecDepth 100000 in
theorem kt_L_message (l : Launch) (hl9 : l.stackTraces = false) (dC : Nat → ClassId) (dI : Nat → Nat → Nat) (ad : Nat → Nat) (cU cI : ClassId) (pa : Nat → Nat) (sz : Nat) (nu nm : Nat) (nk : Int32) (F U : Nat → Nat → Int32) (ao : Nat) (cJ : ClassId) (o : Nat → Int64) (p1 p2 p3 p4 : Int32) (hnu : nu ≤ 30) (hnm : nm ≤ 200) (hO : ∀ p, p < nm → ∃ n, n < nm ∧ F 5 p = nI n) (hV : ∀ n, n < nm → ∃ j, j < nu ∧ F 0 n = nI j) (hao : ao ∉ us_ads ad pa) : Met l yL_message wsL_message ({ frames := 8, cells := 2, slots := 12, locals := 135 }) (va_Pc [.ref (ad 0), .int p1, .int p2, .int p3, .int p4, .ref ao] (lh_P dC dI ad cU cI pa nu nm nk F U ao cJ o sz)) (va_Qi (fun r (_ : Unit) => r = sp_msgK p1 p2 p3 p4 nu nm) (fun _ t => (sp_msgK p1 p2 p3 p4 nu nm = 0 → lh_B dC dI ad cU cI pa nu (nm + 1) nk (sp_msgF nm F p1 p2 p3 p4) U ao cJ (fun o => o 0 = (nI nm).toInt64) t) ∧ (¬ sp_msgK p1 p2 p3 p4 nu nm = 0 → lh_B dC dI ad cU cI pa nu nm (if sp_isU p1 nu = 0 then nk + 1 else nk) F U ao cJ (fun _ => True) t)) (us_AA (ao :: us_ads ad pa) sz)) 2 12 (us_AA (ao :: us_ads ad pa) sz) := by
  refine va_MetW (cc := cL_message) (maxL := 7) (ret := (some .int)) (hh := [(0, 14, 17, 21), (0, 14, 21, 13), (0, 14, 25, 15)]) (by decide) rfl ?_
  intro p e s m args below meth c s₁ B hml hv
  obtain ⟨rfl, ⟨hsz, hP, hK, hD, hE⟩, hOut, hKJ⟩ := hv
  have hx := B.exec
  have hb := B.bytes
  have hr := B.returns
  have hat := atoms_spec (ws := wsL_message) B.pre
  have htb := us_htb hat
  have hown : s.vm.findClass RL = some m.cls := findClass_of_methodNamed B.named
  have hTab : c.exceptionTable.toList = tableOf [(0, 14, 17, 21), (0, 14, 21, 13), (0, 14, 25, 15)] := vx_table (x := yL_message) B (hat _ List.mem_cons_self)
  have hlocks := B.notSynchronized
  subst hsz
  have hA : ∀ q : Nat, s.heap.size ≤ q → (us_AA (ao :: us_ads ad pa) s.heap.size) q := fun q h => Or.inr h
  have hS : va_S (us_AA (ao :: us_ads ad pa) s.heap.size) s.heap s.heap [] := va_S.rf
  have hP : va_P (dC, dI) vwCl (us_W ad cU cI pa nu nm nk F U) s.heap := hP
  have hl := lv_entry ([.ref (ad 0), .int p1, .int p2, .int p3, .int p4, .ref ao]) (n := 7) (Nat.le_of_ble_eq_true rfl)
  rw [lg_entry_eq]
  generalize (lg_sl ([.ref (ad 0), .int p1, .int p2, .int p3, .int p4, .ref ao]) ++ List.replicate (7 - (lg_sl ([.ref (ad 0), .int p1, .int p2, .int p3, .int p4, .ref ao])).length) Slot.unset).toArray = ls at hl ⊢
  have hl : lv_has ls 7 [(0, .ref (ad 0)), (1, .int p1), (2, .int p2), (3, .int p3), (4, .int p4), (5, .ref ao)] := hl
  refine lv_aload hx hb dL_message_0 (lv_at hl 5 rfl) ?_
  refine lv_iconst (v := 0) hx hb dL_message_2 (by decide) ?_
  refine lv_aload_n hx hb dL_message_3 rfl (lv_at hl 0 rfl) ?_
  refine lv_iload_n hx hb dL_message_4 rfl (lv_at hl 1 rfl) ?_
  refine lv_iload_n hx hb dL_message_5 rfl (lv_at hl 2 rfl) ?_
  refine lv_iload_n hx hb dL_message_6 rfl (lv_at hl 3 rfl) ?_
  refine lv_iload hx hb dL_message_7 (lv_at hl 4 rfl) ?_
  refine vx_calli (vx_runV (As := [.int p1, .int p2, .int p3, .int p4]) (rest := [.int 0, .ref ao]) ⟨hx, hb, hml, hown, htb⟩ (kt_X1_message l hl9 dC dI ad cU cI pa s.heap.size nu nm nk F U p1 p2 p3 p4 hnu hnm hO hV) (cwV 4 htb (us_gV mw_245 mw_246 mw_247 mw_32 mw_248) rfl rfl rfl (by decide +kernel) ⟨Nat.le_of_ble_eq_true rfl, Nat.le_of_ble_eq_true rfl⟩) ⟨us_Px_blind, va_recv hK hP (ci := 1) (q0 := 0) rfl rfl, fun U hU hW => ⟨rfl, us_Px_at hP hK hD hE hS lh_sub hU hW⟩⟩ rfl rfl hl.1 rfl (lv_room (Nat.le_of_ble_eq_true rfl)) dL_message_9 ⟨Nat.le_of_ble_eq_true rfl, Nat.le_of_ble_eq_true rfl⟩) hS (fun q _ h => lh_sub q h) lh_sub (fun q _ h => lh_sub q h) (fun E9 ce q9 _ t H locs ht hvm hw hB hz1 hk1 hS hce hcv hcl => ?_) (fun r _ t H locs ht hvm hw hB hz1 hk1 hS => ?_)
  · obtain ⟨hE9, hB⟩ := hB
    have hP := us_Bx_use ht hB
    have hOut : va_P (dC, dI) vwCl (lh_w ao cJ o) H := lh_keep hOut (fun x h => by cases List.mem_singleton.mp h; exact hao) hk1
    rcases lh_msgK hw with hk9 | hk9 | hk9
    · have hE8 : E9 = "java/lang/IllegalArgumentException" := by rw [hE9, hk9]; rfl
      subst hE8
      refine vx_catch (own := RL) (name := "java/lang/IllegalArgumentException") (E := "java/lang/IllegalArgumentException") hown [] ⟨0, 14, 17, 21⟩ [⟨0, 14, 21, 13⟩, ⟨0, 14, 25, 15⟩] (by rw [hTab]; rfl) (fun z hz => nomatch hz) (by decide) (by decide) (htb _ mw_244) (va_Nw.use rfl (hE.2.2.1 (.castable "java/lang/IllegalArgumentException" "java/lang/IllegalArgumentException") (by decide +kernel))) hce hcv hcl ?_
      refine lv_astore (lv' := [(6, .ref q9), (0, .ref (ad 0)), (1, .int p1), (2, .int p2), (3, .int p3), (4, .int p4), (5, .ref ao)]) hx hb dL_message_17 hl (by decide) rfl (fun ls hl => ?_)
      refine lv_iconst (v := 1) hx hb dL_message_19 (by decide) ?_
      exact W.iret (v := 1) hx hb hr (fun t ht hW => ⟨⟨1, (), rfl, hk9.symm, fun h0 => absurd h0 hw, fun _ => ⟨us_Bx_of ht hP rfl rfl rfl, o, by rw [ht]; exact hOut, trivial⟩⟩, hS.F ht⟩) hS.2.2 dL_message_20
    · have hE8 : E9 = "java/lang/IndexOutOfBoundsException" := by rw [hE9, hk9]; rfl
      subst hE8
      refine vx_catch (own := RL) (name := "java/lang/IndexOutOfBoundsException") (E := "java/lang/IndexOutOfBoundsException") hown [⟨0, 14, 17, 21⟩] ⟨0, 14, 21, 13⟩ [⟨0, 14, 25, 15⟩] (by rw [hTab]; rfl) (fun z hz => by cases List.mem_singleton.mp hz; exact Or.inr ⟨by decide, "java/lang/IllegalArgumentException", htb _ mw_244, hE.2.2.2.1 ("java/lang/IndexOutOfBoundsException", "java/lang/IllegalArgumentException") (by decide +kernel)⟩) (by decide) (by decide) (htb _ mw_143) (va_Nw.use rfl (hE.2.2.1 (.castable "java/lang/IndexOutOfBoundsException" "java/lang/IndexOutOfBoundsException") (by decide +kernel))) hce hcv hcl ?_
      refine lv_astore (lv' := [(6, .ref q9), (0, .ref (ad 0)), (1, .int p1), (2, .int p2), (3, .int p3), (4, .int p4), (5, .ref ao)]) hx hb dL_message_21 hl (by decide) rfl (fun ls hl => ?_)
      refine lv_iconst (v := 2) hx hb dL_message_23 (by decide) ?_
      exact W.iret (v := 2) hx hb hr (fun t ht hW => ⟨⟨2, (), rfl, hk9.symm, fun h0 => absurd h0 hw, fun _ => ⟨us_Bx_of ht hP rfl rfl rfl, o, by rw [ht]; exact hOut, trivial⟩⟩, hS.F ht⟩) hS.2.2 dL_message_24
    · have hE8 : E9 = "java/lang/UnsupportedOperationException" := by rw [hE9, hk9]; rfl
      subst hE8
      refine vx_catch (own := RL) (name := "java/lang/UnsupportedOperationException") (E := "java/lang/UnsupportedOperationException") hown [⟨0, 14, 17, 21⟩, ⟨0, 14, 21, 13⟩] ⟨0, 14, 25, 15⟩ [] (by rw [hTab]; rfl) (fun z hz => by
      rcases List.mem_cons.mp hz with rfl | hz
      · exact Or.inr ⟨by decide, "java/lang/IllegalArgumentException", htb _ mw_244, hE.2.2.2.1 ("java/lang/UnsupportedOperationException", "java/lang/IllegalArgumentException") (by decide +kernel)⟩
      · cases List.mem_singleton.mp hz; exact Or.inr ⟨by decide, "java/lang/IndexOutOfBoundsException", htb _ mw_143, hE.2.2.2.1 ("java/lang/UnsupportedOperationException", "java/lang/IndexOutOfBoundsException") (by decide +kernel)⟩) (by decide) (by decide) (htb _ mw_144) (va_Nw.use rfl (hE.2.2.1 (.castable "java/lang/UnsupportedOperationException" "java/lang/UnsupportedOperationException") (by decide +kernel))) hce hcv hcl ?_
      refine lv_astore (lv' := [(6, .ref q9), (0, .ref (ad 0)), (1, .int p1), (2, .int p2), (3, .int p3), (4, .int p4), (5, .ref ao)]) hx hb dL_message_25 hl (by decide) rfl (fun ls hl => ?_)
      refine lv_iconst (v := 3) hx hb dL_message_27 (by decide) ?_
      exact W.iret (v := 3) hx hb hr (fun t ht hW => ⟨⟨3, (), rfl, hk9.symm, fun h0 => absurd h0 hw, fun _ => ⟨us_Bx_of ht hP rfl rfl rfl, o, by rw [ht]; exact hOut, trivial⟩⟩, hS.F ht⟩) hS.2.2 dL_message_28
  · obtain ⟨hk0, hw⟩ := hw
    subst hw
    have hP := us_Bx_use ht hB
    have hOut : va_P (dC, dI) vwCl (lh_w ao cJ o) H := lh_keep hOut (fun x h => by cases List.mem_singleton.mp h; exact hao) hk1
    refine lv_i2l hx hb dL_message_12 rfl ?_
    have hP2 : va_P (dC, dI) vwCl ((ao, .inl (cJ, 1, .inr (.inl o))) :: (us_W ad cU cI pa nu (nm + 1) nk (sp_msgF nm F p1 p2 p3 p4) U)) H := lh_cons hOut hP
    have hD2 : va_D (us_AA (ao :: us_ads ad pa) s.heap.size) ((ao, .inl (cJ, 1, .inr (.inl o))) :: (us_W ad cU cI pa nu (nm + 1) nk (sp_msgF nm F p1 p2 p3 p4) U)) := lh_D (Or.inl List.mem_cons_self) (by rw [us_W_adr]; exact hao) ((us_D_of (by rw [us_W_adr, us_W_adr]) hD).weaken (fun _ _ _ h => Or.inl (List.mem_cons_of_mem _ h)))
    refine va_last hx hb hKJ hP2 hD2 hS 0 0 rfl rfl (i := 0) (vp_in_nI (n := 0) (N := 1) (by decide) (by decide)) dL_message_13 (fun H locs hP hD hS => ?_)
    refine lv_goto (tgt := 29) hx hb dL_message_14 (by decide) ?_
    refine lv_iconst (v := 0) hx hb dL_message_29 (by decide) ?_
    exact W.iret (v := 0) hx hb hr (fun t ht hW => ⟨⟨0, (), rfl, hk0.symm, fun _ => ⟨us_Bx_of ht (lh_tl hP) rfl rfl rfl, _, by rw [ht]; exact lh_hd hP, rfl⟩, fun h0 => absurd hk0 h0⟩, hS.F ht⟩) hS.2.2 dL_message_30
set_option maxHeartbeats 8000000 in
set_option maxRecDepth 100000 in
theorem kt_L_at (l : Launch) (hl9 : l.stackTraces = false) (dC : Nat → ClassId) (dI : Nat → Nat → Nat) (ad : Nat → Nat) (cU cI : ClassId) (pa : Nat → Nat) (sz : Nat) (nu nm : Nat) (nk : Int32) (F U : Nat → Nat → Int32) (ao : Nat) (cJ : ClassId) (o : Nat → Int64) (p1 p2 p3 : Int32) (hnu : nu ≤ 30) (hnm : nm ≤ 200) (hO : ∀ p, p < nm → ∃ n, n < nm ∧ F 5 p = nI n) (hV : ∀ n, n < nm → ∃ j, j < nu ∧ F 0 n = nI j) (hao : ao ∉ us_ads ad pa) : Met l yL_at wsL_at ({ frames := 8, cells := 2, slots := 12, locals := 138 }) (va_Pc [.ref (ad 0), .int p1, .int p2, .int p3, .ref ao] (lh_P dC dI ad cU cI pa nu nm nk F U ao cJ o sz)) (va_Qi (fun r (_ : Unit) => r = sp_atK p1 p2 p3 nu) (fun _ t => (sp_atK p1 p2 p3 nu = 0 → lh_B dC dI ad cU cI pa nu nm nk (sp_rf nu nm F U p2) (sp_ru nu nm F U p2) ao cJ (fun o => o 0 = (sp_atR nu (sp_ru nu nm F U p2) p1.toNatClampNeg p2 p3).toInt64) t) ∧ (¬ sp_atK p1 p2 p3 nu = 0 → lh_B dC dI ad cU cI pa nu nm nk F U ao cJ (fun _ => True) t)) (us_AA (ao :: us_ads ad pa) sz)) 2 12 (us_AA (ao :: us_ads ad pa) sz) := by
  refine va_MetW (cc := cL_at) (maxL := 6) (ret := (some .int)) (hh := [(0, 12, 15, 21), (0, 12, 19, 13)]) (by decide) rfl ?_
  intro p e s m args below meth c s₁ B hml hv
  obtain ⟨rfl, ⟨hsz, hP, hK, hD, hE⟩, hOut, hKJ⟩ := hv
  have hx := B.exec
  have hb := B.bytes
  have hr := B.returns
  have hat := atoms_spec (ws := wsL_at) B.pre
  have htb := us_htb hat
  have hown : s.vm.findClass RL = some m.cls := findClass_of_methodNamed B.named
  have hTab : c.exceptionTable.toList = tableOf [(0, 12, 15, 21), (0, 12, 19, 13)] := vx_table (x := yL_at) B (hat _ List.mem_cons_self)
  have hlocks := B.notSynchronized
  subst hsz
  have hA : ∀ q : Nat, s.heap.size ≤ q → (us_AA (ao :: us_ads ad pa) s.heap.size) q := fun q h => Or.inr h
  have hS : va_S (us_AA (ao :: us_ads ad pa) s.heap.size) s.heap s.heap [] := va_S.rf
  have hP : va_P (dC, dI) vwCl (us_W ad cU cI pa nu nm nk F U) s.heap := hP
  have hl := lv_entry ([.ref (ad 0), .int p1, .int p2, .int p3, .ref ao]) (n := 6) (Nat.le_of_ble_eq_true rfl)
  rw [lg_entry_eq]
  generalize (lg_sl ([.ref (ad 0), .int p1, .int p2, .int p3, .ref ao]) ++ List.replicate (6 - (lg_sl ([.ref (ad 0), .int p1, .int p2, .int p3, .ref ao])).length) Slot.unset).toArray = ls at hl ⊢
  have hl : lv_has ls 6 [(0, .ref (ad 0)), (1, .int p1), (2, .int p2), (3, .int p3), (4, .ref ao)] := hl
  refine lv_aload hx hb dL_at_0 (lv_at hl 4 rfl) ?_
  refine lv_iconst (v := 0) hx hb dL_at_2 (by decide) ?_
  refine lv_aload_n hx hb dL_at_3 rfl (lv_at hl 0 rfl) ?_
  refine lv_iload_n hx hb dL_at_4 rfl (lv_at hl 1 rfl) ?_
  refine lv_iload_n hx hb dL_at_5 rfl (lv_at hl 2 rfl) ?_
  refine lv_iload_n hx hb dL_at_6 rfl (lv_at hl 3 rfl) ?_
  refine vx_calli (vx_runV (As := [.int p1, .int p2, .int p3]) (rest := [.int 0, .ref ao]) ⟨hx, hb, hml, hown, htb⟩ (kt_X1_at l hl9 dC dI ad cU cI pa s.heap.size nu nm nk F U p1 p2 p3 hnu hnm hO hV) (cwV 3 htb (us_gV mw_288 mw_289 mw_290 mw_32 mw_291) rfl rfl rfl (by decide +kernel) ⟨Nat.le_of_ble_eq_true rfl, Nat.le_of_ble_eq_true rfl⟩) ⟨us_Px_blind, va_recv hK hP (ci := 1) (q0 := 0) rfl rfl, fun U hU hW => ⟨rfl, us_Px_at hP hK hD hE hS lh_sub hU hW⟩⟩ rfl rfl hl.1 rfl (lv_room (Nat.le_of_ble_eq_true rfl)) dL_at_7 ⟨Nat.le_of_ble_eq_true rfl, Nat.le_of_ble_eq_true rfl⟩) hS (fun q _ h => lh_sub q h) lh_sub (fun q _ h => lh_sub q h) (fun E9 ce q9 _ t H locs ht hvm hw hB hz1 hk1 hS hce hcv hcl => ?_) (fun r _ t H locs ht hvm hw hB hz1 hk1 hS => ?_)
  · obtain ⟨hE9, hB⟩ := hB
    have hP := us_Bx_use ht hB
    have hOut : va_P (dC, dI) vwCl (lh_w ao cJ o) H := lh_keep hOut (fun x h => by cases List.mem_singleton.mp h; exact hao) hk1
    rcases lh_atK hw with hk9 | hk9
    · have hE8 : E9 = "java/lang/IllegalArgumentException" := by rw [hE9, hk9]; rfl
      subst hE8
      refine vx_catch (own := RL) (name := "java/lang/IllegalArgumentException") (E := "java/lang/IllegalArgumentException") hown [] ⟨0, 12, 15, 21⟩ [⟨0, 12, 19, 13⟩] (by rw [hTab]; rfl) (fun z hz => nomatch hz) (by decide) (by decide) (htb _ mw_244) (va_Nw.use rfl (hE.2.2.1 (.castable "java/lang/IllegalArgumentException" "java/lang/IllegalArgumentException") (by decide +kernel))) hce hcv hcl ?_
      refine lv_astore (lv' := [(5, .ref q9), (0, .ref (ad 0)), (1, .int p1), (2, .int p2), (3, .int p3), (4, .ref ao)]) hx hb dL_at_15 hl (by decide) rfl (fun ls hl => ?_)
      refine lv_iconst (v := 1) hx hb dL_at_17 (by decide) ?_
      exact W.iret (v := 1) hx hb hr (fun t ht hW => ⟨⟨1, (), rfl, hk9.symm, fun h0 => absurd h0 hw, fun _ => ⟨us_Bx_of ht hP rfl rfl rfl, o, by rw [ht]; exact hOut, trivial⟩⟩, hS.F ht⟩) hS.2.2 dL_at_18
    · have hE8 : E9 = "java/lang/IndexOutOfBoundsException" := by rw [hE9, hk9]; rfl
      subst hE8
      refine vx_catch (own := RL) (name := "java/lang/IndexOutOfBoundsException") (E := "java/lang/IndexOutOfBoundsException") hown [⟨0, 12, 15, 21⟩] ⟨0, 12, 19, 13⟩ [] (by rw [hTab]; rfl) (fun z hz => by cases List.mem_singleton.mp hz; exact Or.inr ⟨by decide, "java/lang/IllegalArgumentException", htb _ mw_244, hE.2.2.2.1 ("java/lang/IndexOutOfBoundsException", "java/lang/IllegalArgumentException") (by decide +kernel)⟩) (by decide) (by decide) (htb _ mw_143) (va_Nw.use rfl (hE.2.2.1 (.castable "java/lang/IndexOutOfBoundsException" "java/lang/IndexOutOfBoundsException") (by decide +kernel))) hce hcv hcl ?_
      refine lv_astore (lv' := [(5, .ref q9), (0, .ref (ad 0)), (1, .int p1), (2, .int p2), (3, .int p3), (4, .ref ao)]) hx hb dL_at_19 hl (by decide) rfl (fun ls hl => ?_)
      refine lv_iconst (v := 2) hx hb dL_at_21 (by decide) ?_
      exact W.iret (v := 2) hx hb hr (fun t ht hW => ⟨⟨2, (), rfl, hk9.symm, fun h0 => absurd h0 hw, fun _ => ⟨us_Bx_of ht hP rfl rfl rfl, o, by rw [ht]; exact hOut, trivial⟩⟩, hS.F ht⟩) hS.2.2 dL_at_22
  · obtain ⟨hk0, hw⟩ := hw
    subst hw
    have hP := us_Bx_use ht hB
    have hOut : va_P (dC, dI) vwCl (lh_w ao cJ o) H := lh_keep hOut (fun x h => by cases List.mem_singleton.mp h; exact hao) hk1
    refine lv_i2l hx hb dL_at_10 rfl ?_
    have hP2 : va_P (dC, dI) vwCl ((ao, .inl (cJ, 1, .inr (.inl o))) :: (us_W ad cU cI pa nu nm nk (sp_rf nu nm F U p2) (sp_ru nu nm F U p2))) H := lh_cons hOut hP
    have hD2 : va_D (us_AA (ao :: us_ads ad pa) s.heap.size) ((ao, .inl (cJ, 1, .inr (.inl o))) :: (us_W ad cU cI pa nu nm nk (sp_rf nu nm F U p2) (sp_ru nu nm F U p2))) := lh_D (Or.inl List.mem_cons_self) (by rw [us_W_adr]; exact hao) ((us_D_of (by rw [us_W_adr, us_W_adr]) hD).weaken (fun _ _ _ h => Or.inl (List.mem_cons_of_mem _ h)))
    refine va_last hx hb hKJ hP2 hD2 hS 0 0 rfl rfl (i := 0) (vp_in_nI (n := 0) (N := 1) (by decide) (by decide)) dL_at_11 (fun H locs hP hD hS => ?_)
    refine lv_goto (tgt := 23) hx hb dL_at_12 (by decide) ?_
    refine lv_iconst (v := 0) hx hb dL_at_23 (by decide) ?_
    exact W.iret (v := 0) hx hb hr (fun t ht hW => ⟨⟨0, (), rfl, hk0.symm, fun _ => ⟨us_Bx_of ht (lh_tl hP) rfl rfl rfl, _, by rw [ht]; exact lh_hd hP, rfl⟩, fun h0 => absurd hk0 h0⟩, hS.F ht⟩) hS.2.2 dL_at_24
set_option maxHeartbeats 8000000 in
set_option maxRecDepth 100000 in
theorem kt_L_place (l : Launch) (hl9 : l.stackTraces = false) (dC : Nat → ClassId) (dI : Nat → Nat → Nat) (ad : Nat → Nat) (cU cI : ClassId) (pa : Nat → Nat) (sz : Nat) (nu nm : Nat) (nk : Int32) (F U : Nat → Nat → Int32) (ao : Nat) (cJ : ClassId) (o : Nat → Int64) (p1 p2 : Int32) (hnu : nu ≤ 30) (hnm : nm ≤ 200) (hO : ∀ p, p < nm → ∃ n, n < nm ∧ F 5 p = nI n) (hV : ∀ n, n < nm → ∃ j, j < nu ∧ F 0 n = nI j) (hao : ao ∉ us_ads ad pa) : Met l yL_place wsL_place ({ frames := 9, cells := 2, slots := 12, locals := 158 }) (va_Pc [.ref (ad 0), .int p1, .int p2, .ref ao] (lh_P dC dI ad cU cI pa nu nm nk F U ao cJ o sz)) (va_Qi (fun r (_ : Unit) => r = sp_ruK p1 p2 nu) (fun _ t => (sp_ruK p1 p2 nu = 0 → lh_B dC dI ad cU cI pa nu nm nk (sp_rf nu nm F U p2) (sp_ru nu nm F U p2) ao cJ (fun o => o 0 = ((sp_ru nu nm F U p2) p1.toNatClampNeg 9).toInt64) t) ∧ (¬ sp_ruK p1 p2 nu = 0 → lh_B dC dI ad cU cI pa nu nm nk F U ao cJ (fun _ => True) t)) (us_AA (ao :: us_ads ad pa) sz)) 2 12 (us_AA (ao :: us_ads ad pa) sz) := by
  refine va_MetW (cc := cL_place) (maxL := 5) (ret := (some .int)) (hh := [(0, 10, 13, 21), (0, 10, 17, 13)]) (by decide) rfl ?_
  intro p e s m args below meth c s₁ B hml hv
  obtain ⟨rfl, ⟨hsz, hP, hK, hD, hE⟩, hOut, hKJ⟩ := hv
  have hx := B.exec
  have hb := B.bytes
  have hr := B.returns
  have hat := atoms_spec (ws := wsL_place) B.pre
  have htb := us_htb hat
  have hown : s.vm.findClass RL = some m.cls := findClass_of_methodNamed B.named
  have hTab : c.exceptionTable.toList = tableOf [(0, 10, 13, 21), (0, 10, 17, 13)] := vx_table (x := yL_place) B (hat _ List.mem_cons_self)
  have hlocks := B.notSynchronized
  subst hsz
  have hA : ∀ q : Nat, s.heap.size ≤ q → (us_AA (ao :: us_ads ad pa) s.heap.size) q := fun q h => Or.inr h
  have hS : va_S (us_AA (ao :: us_ads ad pa) s.heap.size) s.heap s.heap [] := va_S.rf
  have hP : va_P (dC, dI) vwCl (us_W ad cU cI pa nu nm nk F U) s.heap := hP
  have hl := lv_entry ([.ref (ad 0), .int p1, .int p2, .ref ao]) (n := 5) (Nat.le_of_ble_eq_true rfl)
  rw [lg_entry_eq]
  generalize (lg_sl ([.ref (ad 0), .int p1, .int p2, .ref ao]) ++ List.replicate (5 - (lg_sl ([.ref (ad 0), .int p1, .int p2, .ref ao])).length) Slot.unset).toArray = ls at hl ⊢
  have hl : lv_has ls 5 [(0, .ref (ad 0)), (1, .int p1), (2, .int p2), (3, .ref ao)] := hl
  refine lv_aload_n hx hb dL_place_0 rfl (lv_at hl 3 rfl) ?_
  refine lv_iconst (v := 0) hx hb dL_place_1 (by decide) ?_
  refine lv_aload_n hx hb dL_place_2 rfl (lv_at hl 0 rfl) ?_
  refine lv_iload_n hx hb dL_place_3 rfl (lv_at hl 1 rfl) ?_
  refine lv_iload_n hx hb dL_place_4 rfl (lv_at hl 2 rfl) ?_
  refine vx_calli (vx_runV (As := [.int p1, .int p2]) (rest := [.int 0, .ref ao]) ⟨hx, hb, hml, hown, htb⟩ (kt_X1_place l hl9 dC dI ad cU cI pa s.heap.size nu nm nk F U p1 p2 hnu hnm hO hV) (cwV 2 htb (us_gV mw_359 mw_360 mw_361 mw_32 mw_362) rfl rfl rfl (by decide +kernel) ⟨Nat.le_of_ble_eq_true rfl, Nat.le_of_ble_eq_true rfl⟩) ⟨us_Px_blind, va_recv hK hP (ci := 1) (q0 := 0) rfl rfl, fun U hU hW => ⟨rfl, us_Px_at hP hK hD hE hS lh_sub hU hW⟩⟩ rfl rfl hl.1 rfl (lv_room (Nat.le_of_ble_eq_true rfl)) dL_place_5 ⟨Nat.le_of_ble_eq_true rfl, Nat.le_of_ble_eq_true rfl⟩) hS (fun q _ h => lh_sub q h) lh_sub (fun q _ h => lh_sub q h) (fun E9 ce q9 _ t H locs ht hvm hw hB hz1 hk1 hS hce hcv hcl => ?_) (fun r _ t H locs ht hvm hw hB hz1 hk1 hS => ?_)
  · obtain ⟨hE9, hB⟩ := hB
    have hP := us_Bx_use ht hB
    have hOut : va_P (dC, dI) vwCl (lh_w ao cJ o) H := lh_keep hOut (fun x h => by cases List.mem_singleton.mp h; exact hao) hk1
    rcases lh_ruK hw with hk9 | hk9
    · have hE8 : E9 = "java/lang/IllegalArgumentException" := by rw [hE9, hk9]; rfl
      subst hE8
      refine vx_catch (own := RL) (name := "java/lang/IllegalArgumentException") (E := "java/lang/IllegalArgumentException") hown [] ⟨0, 10, 13, 21⟩ [⟨0, 10, 17, 13⟩] (by rw [hTab]; rfl) (fun z hz => nomatch hz) (by decide) (by decide) (htb _ mw_244) (va_Nw.use rfl (hE.2.2.1 (.castable "java/lang/IllegalArgumentException" "java/lang/IllegalArgumentException") (by decide +kernel))) hce hcv hcl ?_
      refine lv_astore (lv' := [(4, .ref q9), (0, .ref (ad 0)), (1, .int p1), (2, .int p2), (3, .ref ao)]) hx hb dL_place_13 hl (by decide) rfl (fun ls hl => ?_)
      refine lv_iconst (v := 1) hx hb dL_place_15 (by decide) ?_
      exact W.iret (v := 1) hx hb hr (fun t ht hW => ⟨⟨1, (), rfl, hk9.symm, fun h0 => absurd h0 hw, fun _ => ⟨us_Bx_of ht hP rfl rfl rfl, o, by rw [ht]; exact hOut, trivial⟩⟩, hS.F ht⟩) hS.2.2 dL_place_16
    · have hE8 : E9 = "java/lang/IndexOutOfBoundsException" := by rw [hE9, hk9]; rfl
      subst hE8
      refine vx_catch (own := RL) (name := "java/lang/IndexOutOfBoundsException") (E := "java/lang/IndexOutOfBoundsException") hown [⟨0, 10, 13, 21⟩] ⟨0, 10, 17, 13⟩ [] (by rw [hTab]; rfl) (fun z hz => by cases List.mem_singleton.mp hz; exact Or.inr ⟨by decide, "java/lang/IllegalArgumentException", htb _ mw_244, hE.2.2.2.1 ("java/lang/IndexOutOfBoundsException", "java/lang/IllegalArgumentException") (by decide +kernel)⟩) (by decide) (by decide) (htb _ mw_143) (va_Nw.use rfl (hE.2.2.1 (.castable "java/lang/IndexOutOfBoundsException" "java/lang/IndexOutOfBoundsException") (by decide +kernel))) hce hcv hcl ?_
      refine lv_astore (lv' := [(4, .ref q9), (0, .ref (ad 0)), (1, .int p1), (2, .int p2), (3, .ref ao)]) hx hb dL_place_17 hl (by decide) rfl (fun ls hl => ?_)
      refine lv_iconst (v := 2) hx hb dL_place_19 (by decide) ?_
      exact W.iret (v := 2) hx hb hr (fun t ht hW => ⟨⟨2, (), rfl, hk9.symm, fun h0 => absurd h0 hw, fun _ => ⟨us_Bx_of ht hP rfl rfl rfl, o, by rw [ht]; exact hOut, trivial⟩⟩, hS.F ht⟩) hS.2.2 dL_place_20
  · obtain ⟨hk0, hw⟩ := hw
    subst hw
    have hP := us_Bx_use ht hB
    have hOut : va_P (dC, dI) vwCl (lh_w ao cJ o) H := lh_keep hOut (fun x h => by cases List.mem_singleton.mp h; exact hao) hk1
    refine lv_i2l hx hb dL_place_8 rfl ?_
    have hP2 : va_P (dC, dI) vwCl ((ao, .inl (cJ, 1, .inr (.inl o))) :: (us_W ad cU cI pa nu nm nk (sp_rf nu nm F U p2) (sp_ru nu nm F U p2))) H := lh_cons hOut hP
    have hD2 : va_D (us_AA (ao :: us_ads ad pa) s.heap.size) ((ao, .inl (cJ, 1, .inr (.inl o))) :: (us_W ad cU cI pa nu nm nk (sp_rf nu nm F U p2) (sp_ru nu nm F U p2))) := lh_D (Or.inl List.mem_cons_self) (by rw [us_W_adr]; exact hao) ((us_D_of (by rw [us_W_adr, us_W_adr]) hD).weaken (fun _ _ _ h => Or.inl (List.mem_cons_of_mem _ h)))
    refine va_last hx hb hKJ hP2 hD2 hS 0 0 rfl rfl (i := 0) (vp_in_nI (n := 0) (N := 1) (by decide) (by decide)) dL_place_9 (fun H locs hP hD hS => ?_)
    refine lv_goto (tgt := 21) hx hb dL_place_10 (by decide) ?_
    refine lv_iconst (v := 0) hx hb dL_place_21 (by decide) ?_
    exact W.iret (v := 0) hx hb hr (fun t ht hW => ⟨⟨0, (), rfl, hk0.symm, fun _ => ⟨us_Bx_of ht (lh_tl hP) rfl rfl rfl, _, by rw [ht]; exact lh_hd hP, rfl⟩, fun h0 => absurd hk0 h0⟩, hS.F ht⟩) hS.2.2 dL_place_22
set_option maxHeartbeats 8000000 in
set_option maxRecDepth 100000 in
theorem kt_L_age (l : Launch) (hl9 : l.stackTraces = false) (dC : Nat → ClassId) (dI : Nat → Nat → Nat) (ad : Nat → Nat) (cU cI : ClassId) (pa : Nat → Nat) (sz : Nat) (nu nm : Nat) (nk : Int32) (F U : Nat → Nat → Int32) (ao : Nat) (cJ : ClassId) (o : Nat → Int64) (p1 p2 : Int32) (hnu : nu ≤ 30) (hnm : nm ≤ 200) (hO : ∀ p, p < nm → ∃ n, n < nm ∧ F 5 p = nI n) (hV : ∀ n, n < nm → ∃ j, j < nu ∧ F 0 n = nI j) (hao : ao ∉ us_ads ad pa) : Met l yL_age wsL_age ({ frames := 9, cells := 2, slots := 12, locals := 159 }) (va_Pc [.ref (ad 0), .int p1, .int p2, .ref ao] (lh_P dC dI ad cU cI pa nu nm nk F U ao cJ o sz)) (va_Qi (fun r (_ : Unit) => r = sp_ruK p1 p2 nu) (fun _ t => (sp_ruK p1 p2 nu = 0 → lh_B dC dI ad cU cI pa nu nm nk (sp_rf nu nm F U p2) (sp_ru nu nm F U p2) ao cJ (fun o => o 0 = (sp_age ((sp_ru nu nm F U p2) p1.toNatClampNeg) p2).toInt64) t) ∧ (¬ sp_ruK p1 p2 nu = 0 → lh_B dC dI ad cU cI pa nu nm nk F U ao cJ (fun _ => True) t)) (us_AA (ao :: us_ads ad pa) sz)) 2 12 (us_AA (ao :: us_ads ad pa) sz) := by
  refine va_MetW (cc := cL_age) (maxL := 5) (ret := (some .int)) (hh := [(0, 10, 13, 21), (0, 10, 17, 13)]) (by decide) rfl ?_
  intro p e s m args below meth c s₁ B hml hv
  obtain ⟨rfl, ⟨hsz, hP, hK, hD, hE⟩, hOut, hKJ⟩ := hv
  have hx := B.exec
  have hb := B.bytes
  have hr := B.returns
  have hat := atoms_spec (ws := wsL_age) B.pre
  have htb := us_htb hat
  have hown : s.vm.findClass RL = some m.cls := findClass_of_methodNamed B.named
  have hTab : c.exceptionTable.toList = tableOf [(0, 10, 13, 21), (0, 10, 17, 13)] := vx_table (x := yL_age) B (hat _ List.mem_cons_self)
  have hlocks := B.notSynchronized
  subst hsz
  have hA : ∀ q : Nat, s.heap.size ≤ q → (us_AA (ao :: us_ads ad pa) s.heap.size) q := fun q h => Or.inr h
  have hS : va_S (us_AA (ao :: us_ads ad pa) s.heap.size) s.heap s.heap [] := va_S.rf
  have hP : va_P (dC, dI) vwCl (us_W ad cU cI pa nu nm nk F U) s.heap := hP
  have hl := lv_entry ([.ref (ad 0), .int p1, .int p2, .ref ao]) (n := 5) (Nat.le_of_ble_eq_true rfl)
  rw [lg_entry_eq]
  generalize (lg_sl ([.ref (ad 0), .int p1, .int p2, .ref ao]) ++ List.replicate (5 - (lg_sl ([.ref (ad 0), .int p1, .int p2, .ref ao])).length) Slot.unset).toArray = ls at hl ⊢
  have hl : lv_has ls 5 [(0, .ref (ad 0)), (1, .int p1), (2, .int p2), (3, .ref ao)] := hl
  refine lv_aload_n hx hb dL_age_0 rfl (lv_at hl 3 rfl) ?_
  refine lv_iconst (v := 0) hx hb dL_age_1 (by decide) ?_
  refine lv_aload_n hx hb dL_age_2 rfl (lv_at hl 0 rfl) ?_
  refine lv_iload_n hx hb dL_age_3 rfl (lv_at hl 1 rfl) ?_
  refine lv_iload_n hx hb dL_age_4 rfl (lv_at hl 2 rfl) ?_
  refine vx_calli (vx_runV (As := [.int p1, .int p2]) (rest := [.int 0, .ref ao]) ⟨hx, hb, hml, hown, htb⟩ (kt_X1_age l hl9 dC dI ad cU cI pa s.heap.size nu nm nk F U p1 p2 hnu hnm hO hV) (cwV 2 htb (us_gV mw_370 mw_371 mw_372 mw_32 mw_373) rfl rfl rfl (by decide +kernel) ⟨Nat.le_of_ble_eq_true rfl, Nat.le_of_ble_eq_true rfl⟩) ⟨us_Px_blind, va_recv hK hP (ci := 1) (q0 := 0) rfl rfl, fun U hU hW => ⟨rfl, us_Px_at hP hK hD hE hS lh_sub hU hW⟩⟩ rfl rfl hl.1 rfl (lv_room (Nat.le_of_ble_eq_true rfl)) dL_age_5 ⟨Nat.le_of_ble_eq_true rfl, Nat.le_of_ble_eq_true rfl⟩) hS (fun q _ h => lh_sub q h) lh_sub (fun q _ h => lh_sub q h) (fun E9 ce q9 _ t H locs ht hvm hw hB hz1 hk1 hS hce hcv hcl => ?_) (fun r _ t H locs ht hvm hw hB hz1 hk1 hS => ?_)
  · obtain ⟨hE9, hB⟩ := hB
    have hP := us_Bx_use ht hB
    have hOut : va_P (dC, dI) vwCl (lh_w ao cJ o) H := lh_keep hOut (fun x h => by cases List.mem_singleton.mp h; exact hao) hk1
    rcases lh_ruK hw with hk9 | hk9
    · have hE8 : E9 = "java/lang/IllegalArgumentException" := by rw [hE9, hk9]; rfl
      subst hE8
      refine vx_catch (own := RL) (name := "java/lang/IllegalArgumentException") (E := "java/lang/IllegalArgumentException") hown [] ⟨0, 10, 13, 21⟩ [⟨0, 10, 17, 13⟩] (by rw [hTab]; rfl) (fun z hz => nomatch hz) (by decide) (by decide) (htb _ mw_244) (va_Nw.use rfl (hE.2.2.1 (.castable "java/lang/IllegalArgumentException" "java/lang/IllegalArgumentException") (by decide +kernel))) hce hcv hcl ?_
      refine lv_astore (lv' := [(4, .ref q9), (0, .ref (ad 0)), (1, .int p1), (2, .int p2), (3, .ref ao)]) hx hb dL_age_13 hl (by decide) rfl (fun ls hl => ?_)
      refine lv_iconst (v := 1) hx hb dL_age_15 (by decide) ?_
      exact W.iret (v := 1) hx hb hr (fun t ht hW => ⟨⟨1, (), rfl, hk9.symm, fun h0 => absurd h0 hw, fun _ => ⟨us_Bx_of ht hP rfl rfl rfl, o, by rw [ht]; exact hOut, trivial⟩⟩, hS.F ht⟩) hS.2.2 dL_age_16
    · have hE8 : E9 = "java/lang/IndexOutOfBoundsException" := by rw [hE9, hk9]; rfl
      subst hE8
      refine vx_catch (own := RL) (name := "java/lang/IndexOutOfBoundsException") (E := "java/lang/IndexOutOfBoundsException") hown [⟨0, 10, 13, 21⟩] ⟨0, 10, 17, 13⟩ [] (by rw [hTab]; rfl) (fun z hz => by cases List.mem_singleton.mp hz; exact Or.inr ⟨by decide, "java/lang/IllegalArgumentException", htb _ mw_244, hE.2.2.2.1 ("java/lang/IndexOutOfBoundsException", "java/lang/IllegalArgumentException") (by decide +kernel)⟩) (by decide) (by decide) (htb _ mw_143) (va_Nw.use rfl (hE.2.2.1 (.castable "java/lang/IndexOutOfBoundsException" "java/lang/IndexOutOfBoundsException") (by decide +kernel))) hce hcv hcl ?_
      refine lv_astore (lv' := [(4, .ref q9), (0, .ref (ad 0)), (1, .int p1), (2, .int p2), (3, .ref ao)]) hx hb dL_age_17 hl (by decide) rfl (fun ls hl => ?_)
      refine lv_iconst (v := 2) hx hb dL_age_19 (by decide) ?_
      exact W.iret (v := 2) hx hb hr (fun t ht hW => ⟨⟨2, (), rfl, hk9.symm, fun h0 => absurd h0 hw, fun _ => ⟨us_Bx_of ht hP rfl rfl rfl, o, by rw [ht]; exact hOut, trivial⟩⟩, hS.F ht⟩) hS.2.2 dL_age_20
  · obtain ⟨hk0, hw⟩ := hw
    subst hw
    have hP := us_Bx_use ht hB
    have hOut : va_P (dC, dI) vwCl (lh_w ao cJ o) H := lh_keep hOut (fun x h => by cases List.mem_singleton.mp h; exact hao) hk1
    refine lv_i2l hx hb dL_age_8 rfl ?_
    have hP2 : va_P (dC, dI) vwCl ((ao, .inl (cJ, 1, .inr (.inl o))) :: (us_W ad cU cI pa nu nm nk (sp_rf nu nm F U p2) (sp_ru nu nm F U p2))) H := lh_cons hOut hP
    have hD2 : va_D (us_AA (ao :: us_ads ad pa) s.heap.size) ((ao, .inl (cJ, 1, .inr (.inl o))) :: (us_W ad cU cI pa nu nm nk (sp_rf nu nm F U p2) (sp_ru nu nm F U p2))) := lh_D (Or.inl List.mem_cons_self) (by rw [us_W_adr]; exact hao) ((us_D_of (by rw [us_W_adr, us_W_adr]) hD).weaken (fun _ _ _ h => Or.inl (List.mem_cons_of_mem _ h)))
    refine va_last hx hb hKJ hP2 hD2 hS 0 0 rfl rfl (i := 0) (vp_in_nI (n := 0) (N := 1) (by decide) (by decide)) dL_age_9 (fun H locs hP hD hS => ?_)
    refine lv_goto (tgt := 21) hx hb dL_age_10 (by decide) ?_
    refine lv_iconst (v := 0) hx hb dL_age_21 (by decide) ?_
    exact W.iret (v := 0) hx hb hr (fun t ht hW => ⟨⟨0, (), rfl, hk0.symm, fun _ => ⟨us_Bx_of ht (lh_tl hP) rfl rfl rfl, _, by rw [ht]; exact lh_hd hP, rfl⟩, fun h0 => absurd hk0 h0⟩, hS.F ht⟩) hS.2.2 dL_age_22
set_option maxHeartbeats 8000000 in
set_option maxRecDepth 100000 in
theorem kt_L_expected (l : Launch) (hl9 : l.stackTraces = false) (dC : Nat → ClassId) (dI : Nat → Nat → Nat) (ad : Nat → Nat) (cU cI : ClassId) (pa : Nat → Nat) (sz : Nat) (nu nm : Nat) (nk : Int32) (F U : Nat → Nat → Int32) (ao : Nat) (cJ : ClassId) (o : Nat → Int64) (p1 p2 : Int32) (hnu : nu ≤ 30) (hnm : nm ≤ 200) (hO : ∀ p, p < nm → ∃ n, n < nm ∧ F 5 p = nI n) (hV : ∀ n, n < nm → ∃ j, j < nu ∧ F 0 n = nI j) (hao : ao ∉ us_ads ad pa) : Met l yL_expected wsL_expected ({ frames := 9, cells := 2, slots := 12, locals := 158 }) (va_Pc [.ref (ad 0), .int p1, .int p2, .ref ao] (lh_P dC dI ad cU cI pa nu nm nk F U ao cJ o sz)) (va_Qi (fun r (_ : Unit) => r = sp_ruK p1 p2 nu) (fun _ t => (sp_ruK p1 p2 nu = 0 → lh_B dC dI ad cU cI pa nu nm nk (sp_rf nu nm F U p2) (sp_ru nu nm F U p2) ao cJ (fun o => o 0 = ((sp_ru nu nm F U p2) p1.toNatClampNeg 11).toInt64) t) ∧ (¬ sp_ruK p1 p2 nu = 0 → lh_B dC dI ad cU cI pa nu nm nk F U ao cJ (fun _ => True) t)) (us_AA (ao :: us_ads ad pa) sz)) 2 12 (us_AA (ao :: us_ads ad pa) sz) := by
  refine va_MetW (cc := cL_expected) (maxL := 5) (ret := (some .int)) (hh := [(0, 10, 13, 21), (0, 10, 17, 13)]) (by decide) rfl ?_
  intro p e s m args below meth c s₁ B hml hv
  obtain ⟨rfl, ⟨hsz, hP, hK, hD, hE⟩, hOut, hKJ⟩ := hv
  have hx := B.exec
  have hb := B.bytes
  have hr := B.returns
  have hat := atoms_spec (ws := wsL_expected) B.pre
  have htb := us_htb hat
  have hown : s.vm.findClass RL = some m.cls := findClass_of_methodNamed B.named
  have hTab : c.exceptionTable.toList = tableOf [(0, 10, 13, 21), (0, 10, 17, 13)] := vx_table (x := yL_expected) B (hat _ List.mem_cons_self)
  have hlocks := B.notSynchronized
  subst hsz
  have hA : ∀ q : Nat, s.heap.size ≤ q → (us_AA (ao :: us_ads ad pa) s.heap.size) q := fun q h => Or.inr h
  have hS : va_S (us_AA (ao :: us_ads ad pa) s.heap.size) s.heap s.heap [] := va_S.rf
  have hP : va_P (dC, dI) vwCl (us_W ad cU cI pa nu nm nk F U) s.heap := hP
  have hl := lv_entry ([.ref (ad 0), .int p1, .int p2, .ref ao]) (n := 5) (Nat.le_of_ble_eq_true rfl)
  rw [lg_entry_eq]
  generalize (lg_sl ([.ref (ad 0), .int p1, .int p2, .ref ao]) ++ List.replicate (5 - (lg_sl ([.ref (ad 0), .int p1, .int p2, .ref ao])).length) Slot.unset).toArray = ls at hl ⊢
  have hl : lv_has ls 5 [(0, .ref (ad 0)), (1, .int p1), (2, .int p2), (3, .ref ao)] := hl
  refine lv_aload_n hx hb dL_expected_0 rfl (lv_at hl 3 rfl) ?_
  refine lv_iconst (v := 0) hx hb dL_expected_1 (by decide) ?_
  refine lv_aload_n hx hb dL_expected_2 rfl (lv_at hl 0 rfl) ?_
  refine lv_iload_n hx hb dL_expected_3 rfl (lv_at hl 1 rfl) ?_
  refine lv_iload_n hx hb dL_expected_4 rfl (lv_at hl 2 rfl) ?_
  refine vx_calli (vx_runV (As := [.int p1, .int p2]) (rest := [.int 0, .ref ao]) ⟨hx, hb, hml, hown, htb⟩ (kt_X1_expected l hl9 dC dI ad cU cI pa s.heap.size nu nm nk F U p1 p2 hnu hnm hO hV) (cwV 2 htb (us_gV mw_377 mw_378 mw_379 mw_32 mw_380) rfl rfl rfl (by decide +kernel) ⟨Nat.le_of_ble_eq_true rfl, Nat.le_of_ble_eq_true rfl⟩) ⟨us_Px_blind, va_recv hK hP (ci := 1) (q0 := 0) rfl rfl, fun U hU hW => ⟨rfl, us_Px_at hP hK hD hE hS lh_sub hU hW⟩⟩ rfl rfl hl.1 rfl (lv_room (Nat.le_of_ble_eq_true rfl)) dL_expected_5 ⟨Nat.le_of_ble_eq_true rfl, Nat.le_of_ble_eq_true rfl⟩) hS (fun q _ h => lh_sub q h) lh_sub (fun q _ h => lh_sub q h) (fun E9 ce q9 _ t H locs ht hvm hw hB hz1 hk1 hS hce hcv hcl => ?_) (fun r _ t H locs ht hvm hw hB hz1 hk1 hS => ?_)
  · obtain ⟨hE9, hB⟩ := hB
    have hP := us_Bx_use ht hB
    have hOut : va_P (dC, dI) vwCl (lh_w ao cJ o) H := lh_keep hOut (fun x h => by cases List.mem_singleton.mp h; exact hao) hk1
    rcases lh_ruK hw with hk9 | hk9
    · have hE8 : E9 = "java/lang/IllegalArgumentException" := by rw [hE9, hk9]; rfl
      subst hE8
      refine vx_catch (own := RL) (name := "java/lang/IllegalArgumentException") (E := "java/lang/IllegalArgumentException") hown [] ⟨0, 10, 13, 21⟩ [⟨0, 10, 17, 13⟩] (by rw [hTab]; rfl) (fun z hz => nomatch hz) (by decide) (by decide) (htb _ mw_244) (va_Nw.use rfl (hE.2.2.1 (.castable "java/lang/IllegalArgumentException" "java/lang/IllegalArgumentException") (by decide +kernel))) hce hcv hcl ?_
      refine lv_astore (lv' := [(4, .ref q9), (0, .ref (ad 0)), (1, .int p1), (2, .int p2), (3, .ref ao)]) hx hb dL_expected_13 hl (by decide) rfl (fun ls hl => ?_)
      refine lv_iconst (v := 1) hx hb dL_expected_15 (by decide) ?_
      exact W.iret (v := 1) hx hb hr (fun t ht hW => ⟨⟨1, (), rfl, hk9.symm, fun h0 => absurd h0 hw, fun _ => ⟨us_Bx_of ht hP rfl rfl rfl, o, by rw [ht]; exact hOut, trivial⟩⟩, hS.F ht⟩) hS.2.2 dL_expected_16
    · have hE8 : E9 = "java/lang/IndexOutOfBoundsException" := by rw [hE9, hk9]; rfl
      subst hE8
      refine vx_catch (own := RL) (name := "java/lang/IndexOutOfBoundsException") (E := "java/lang/IndexOutOfBoundsException") hown [⟨0, 10, 13, 21⟩] ⟨0, 10, 17, 13⟩ [] (by rw [hTab]; rfl) (fun z hz => by cases List.mem_singleton.mp hz; exact Or.inr ⟨by decide, "java/lang/IllegalArgumentException", htb _ mw_244, hE.2.2.2.1 ("java/lang/IndexOutOfBoundsException", "java/lang/IllegalArgumentException") (by decide +kernel)⟩) (by decide) (by decide) (htb _ mw_143) (va_Nw.use rfl (hE.2.2.1 (.castable "java/lang/IndexOutOfBoundsException" "java/lang/IndexOutOfBoundsException") (by decide +kernel))) hce hcv hcl ?_
      refine lv_astore (lv' := [(4, .ref q9), (0, .ref (ad 0)), (1, .int p1), (2, .int p2), (3, .ref ao)]) hx hb dL_expected_17 hl (by decide) rfl (fun ls hl => ?_)
      refine lv_iconst (v := 2) hx hb dL_expected_19 (by decide) ?_
      exact W.iret (v := 2) hx hb hr (fun t ht hW => ⟨⟨2, (), rfl, hk9.symm, fun h0 => absurd h0 hw, fun _ => ⟨us_Bx_of ht hP rfl rfl rfl, o, by rw [ht]; exact hOut, trivial⟩⟩, hS.F ht⟩) hS.2.2 dL_expected_20
  · obtain ⟨hk0, hw⟩ := hw
    subst hw
    have hP := us_Bx_use ht hB
    have hOut : va_P (dC, dI) vwCl (lh_w ao cJ o) H := lh_keep hOut (fun x h => by cases List.mem_singleton.mp h; exact hao) hk1
    refine lv_i2l hx hb dL_expected_8 rfl ?_
    have hP2 : va_P (dC, dI) vwCl ((ao, .inl (cJ, 1, .inr (.inl o))) :: (us_W ad cU cI pa nu nm nk (sp_rf nu nm F U p2) (sp_ru nu nm F U p2))) H := lh_cons hOut hP
    have hD2 : va_D (us_AA (ao :: us_ads ad pa) s.heap.size) ((ao, .inl (cJ, 1, .inr (.inl o))) :: (us_W ad cU cI pa nu nm nk (sp_rf nu nm F U p2) (sp_ru nu nm F U p2))) := lh_D (Or.inl List.mem_cons_self) (by rw [us_W_adr]; exact hao) ((us_D_of (by rw [us_W_adr, us_W_adr]) hD).weaken (fun _ _ _ h => Or.inl (List.mem_cons_of_mem _ h)))
    refine va_last hx hb hKJ hP2 hD2 hS 0 0 rfl rfl (i := 0) (vp_in_nI (n := 0) (N := 1) (by decide) (by decide)) dL_expected_9 (fun H locs hP hD hS => ?_)
    refine lv_goto (tgt := 21) hx hb dL_expected_10 (by decide) ?_
    refine lv_iconst (v := 0) hx hb dL_expected_21 (by decide) ?_
    exact W.iret (v := 0) hx hb hr (fun t ht hW => ⟨⟨0, (), rfl, hk0.symm, fun _ => ⟨us_Bx_of ht (lh_tl hP) rfl rfl rfl, _, by rw [ht]; exact lh_hd hP, rfl⟩, fun h0 => absurd hk0 h0⟩, hS.F ht⟩) hS.2.2 dL_expected_22
set_option maxHeartbeats 8000000 in
set_option maxRecDepth 100000 in
theorem kt_L_wrong (l : Launch) (hl9 : l.stackTraces = false) (dC : Nat → ClassId) (dI : Nat → Nat → Nat) (ad : Nat → Nat) (cU cI : ClassId) (pa : Nat → Nat) (sz : Nat) (nu nm : Nat) (nk : Int32) (F U : Nat → Nat → Int32) (ao : Nat) (cJ : ClassId) (o : Nat → Int64) (p1 : Int32) (hnu : nu ≤ 30) (hnm : nm ≤ 200) (hO : ∀ p, p < nm → ∃ n, n < nm ∧ F 5 p = nI n) (hV : ∀ n, n < nm → ∃ j, j < nu ∧ F 0 n = nI j) (hao : ao ∉ us_ads ad pa) : Met l yL_wrong wsL_wrong ({ frames := 7, cells := 1, slots := 6, locals := 135 }) (va_Pc [.ref (ad 0), .int p1, .ref ao] (lh_P dC dI ad cU cI pa nu nm nk F U ao cJ o sz)) (va_Qi (fun r (_ : Unit) => r = sp_wrongK p1 nm) (fun _ t => (sp_wrongK p1 nm = 0 → lh_B dC dI ad cU cI pa nu nm nk (sp_rf nu nm F U 99999) (sp_ru nu nm F U 99999) ao cJ (fun o => o 0 = (sp_rf nu nm F U 99999 4 p1.toNatClampNeg).toInt64) t) ∧ (¬ sp_wrongK p1 nm = 0 → lh_B dC dI ad cU cI pa nu nm nk F U ao cJ (fun _ => True) t)) (us_AA (ao :: us_ads ad pa) sz)) 1 6 (us_AA (ao :: us_ads ad pa) sz) := by
  refine va_MetW (cc := cL_wrong) (maxL := 4) (ret := (some .int)) (hh := [(0, 9, 12, 21)]) (by decide) rfl ?_
  intro p e s m args below meth c s₁ B hml hv
  obtain ⟨rfl, ⟨hsz, hP, hK, hD, hE⟩, hOut, hKJ⟩ := hv
  have hx := B.exec
  have hb := B.bytes
  have hr := B.returns
  have hat := atoms_spec (ws := wsL_wrong) B.pre
  have htb := us_htb hat
  have hown : s.vm.findClass RL = some m.cls := findClass_of_methodNamed B.named
  have hTab : c.exceptionTable.toList = tableOf [(0, 9, 12, 21)] := vx_table (x := yL_wrong) B (hat _ List.mem_cons_self)
  have hlocks := B.notSynchronized
  subst hsz
  have hA : ∀ q : Nat, s.heap.size ≤ q → (us_AA (ao :: us_ads ad pa) s.heap.size) q := fun q h => Or.inr h
  have hS : va_S (us_AA (ao :: us_ads ad pa) s.heap.size) s.heap s.heap [] := va_S.rf
  have hP : va_P (dC, dI) vwCl (us_W ad cU cI pa nu nm nk F U) s.heap := hP
  have hl := lv_entry ([.ref (ad 0), .int p1, .ref ao]) (n := 4) (Nat.le_of_ble_eq_true rfl)
  rw [lg_entry_eq]
  generalize (lg_sl ([.ref (ad 0), .int p1, .ref ao]) ++ List.replicate (4 - (lg_sl ([.ref (ad 0), .int p1, .ref ao])).length) Slot.unset).toArray = ls at hl ⊢
  have hl : lv_has ls 4 [(0, .ref (ad 0)), (1, .int p1), (2, .ref ao)] := hl
  refine lv_aload_n hx hb dL_wrong_0 rfl (lv_at hl 2 rfl) ?_
  refine lv_iconst (v := 0) hx hb dL_wrong_1 (by decide) ?_
  refine lv_aload_n hx hb dL_wrong_2 rfl (lv_at hl 0 rfl) ?_
  refine lv_iload_n hx hb dL_wrong_3 rfl (lv_at hl 1 rfl) ?_
  refine vx_calli (vx_runV (As := [.int p1]) (rest := [.int 0, .ref ao]) ⟨hx, hb, hml, hown, htb⟩ (kt_X1_wrong l hl9 dC dI ad cU cI pa s.heap.size nu nm nk F U p1 hnu hnm hO hV) (cwV 1 htb (us_gV mw_384 mw_385 mw_386 mw_32 mw_387) rfl rfl rfl (by decide +kernel) ⟨Nat.le_of_ble_eq_true rfl, Nat.le_of_ble_eq_true rfl⟩) ⟨us_Px_blind, va_recv hK hP (ci := 1) (q0 := 0) rfl rfl, fun U hU hW => ⟨rfl, us_Px_at hP hK hD hE hS lh_sub hU hW⟩⟩ rfl rfl hl.1 rfl (lv_room (Nat.le_of_ble_eq_true rfl)) dL_wrong_4 ⟨Nat.le_of_ble_eq_true rfl, Nat.le_of_ble_eq_true rfl⟩) hS (fun q _ h => lh_sub q h) lh_sub (fun q _ h => lh_sub q h) (fun E9 ce q9 _ t H locs ht hvm hw hB hz1 hk1 hS hce hcv hcl => ?_) (fun r _ t H locs ht hvm hw hB hz1 hk1 hS => ?_)
  · obtain ⟨hE9, hB⟩ := hB
    have hP := us_Bx_use ht hB
    have hOut : va_P (dC, dI) vwCl (lh_w ao cJ o) H := lh_keep hOut (fun x h => by cases List.mem_singleton.mp h; exact hao) hk1
    have hk9 := lh_wrongK hw
    have hE8 : E9 = "java/lang/IllegalArgumentException" := by rw [hE9, hk9]; rfl
    subst hE8
    refine vx_catch (own := RL) (name := "java/lang/IllegalArgumentException") (E := "java/lang/IllegalArgumentException") hown [] ⟨0, 9, 12, 21⟩ [] (by rw [hTab]; rfl) (fun z hz => nomatch hz) (by decide) (by decide) (htb _ mw_244) (va_Nw.use rfl (hE.2.2.1 (.castable "java/lang/IllegalArgumentException" "java/lang/IllegalArgumentException") (by decide +kernel))) hce hcv hcl ?_
    refine lv_astore_n (lv' := [(3, .ref q9), (0, .ref (ad 0)), (1, .int p1), (2, .ref ao)]) hx hb dL_wrong_12 rfl hl (by decide) rfl (fun ls hl => ?_)
    refine lv_iconst (v := 1) hx hb dL_wrong_13 (by decide) ?_
    exact W.iret (v := 1) hx hb hr (fun t ht hW => ⟨⟨1, (), rfl, hk9.symm, fun h0 => absurd h0 hw, fun _ => ⟨us_Bx_of ht hP rfl rfl rfl, o, by rw [ht]; exact hOut, trivial⟩⟩, hS.F ht⟩) hS.2.2 dL_wrong_14
  · obtain ⟨hk0, hw⟩ := hw
    subst hw
    have hP := us_Bx_use ht hB
    have hOut : va_P (dC, dI) vwCl (lh_w ao cJ o) H := lh_keep hOut (fun x h => by cases List.mem_singleton.mp h; exact hao) hk1
    refine lv_i2l hx hb dL_wrong_7 rfl ?_
    have hP2 : va_P (dC, dI) vwCl ((ao, .inl (cJ, 1, .inr (.inl o))) :: (us_W ad cU cI pa nu nm nk (sp_rf nu nm F U 99999) (sp_ru nu nm F U 99999))) H := lh_cons hOut hP
    have hD2 : va_D (us_AA (ao :: us_ads ad pa) s.heap.size) ((ao, .inl (cJ, 1, .inr (.inl o))) :: (us_W ad cU cI pa nu nm nk (sp_rf nu nm F U 99999) (sp_ru nu nm F U 99999))) := lh_D (Or.inl List.mem_cons_self) (by rw [us_W_adr]; exact hao) ((us_D_of (by rw [us_W_adr, us_W_adr]) hD).weaken (fun _ _ _ h => Or.inl (List.mem_cons_of_mem _ h)))
    refine va_last hx hb hKJ hP2 hD2 hS 0 0 rfl rfl (i := 0) (vp_in_nI (n := 0) (N := 1) (by decide) (by decide)) dL_wrong_8 (fun H locs hP hD hS => ?_)
    refine lv_goto (tgt := 15) hx hb dL_wrong_9 (by decide) ?_
    refine lv_iconst (v := 0) hx hb dL_wrong_15 (by decide) ?_
    exact W.iret (v := 0) hx hb hr (fun t ht hW => ⟨⟨0, (), rfl, hk0.symm, fun _ => ⟨us_Bx_of ht (lh_tl hP) rfl rfl rfl, _, by rw [ht]; exact lh_hd hP, rfl⟩, fun h0 => absurd hk0 h0⟩, hS.F ht⟩) hS.2.2 dL_wrong_16
set_option maxHeartbeats 8000000 in
set_option maxRecDepth 100000 in
theorem kt_L_told (l : Launch) (hl9 : l.stackTraces = false) (dC : Nat → ClassId) (dI : Nat → Nat → Nat) (ad : Nat → Nat) (cU cI : ClassId) (pa : Nat → Nat) (sz : Nat) (nu nm : Nat) (nk : Int32) (F U : Nat → Nat → Int32) (ao : Nat) (cJ : ClassId) (o : Nat → Int64) (p1 : Int32) (hnu : nu ≤ 30) (hnm : nm ≤ 200) (hO : ∀ p, p < nm → ∃ n, n < nm ∧ F 5 p = nI n) (hV : ∀ n, n < nm → ∃ j, j < nu ∧ F 0 n = nI j) (hao : ao ∉ us_ads ad pa) : Met l yL_told wsL_told ({ frames := 7, cells := 1, slots := 6, locals := 158 }) (va_Pc [.ref (ad 0), .int p1, .ref ao] (lh_P dC dI ad cU cI pa nu nm nk F U ao cJ o sz)) (va_Qi (fun r (_ : Unit) => r = sp_toldK p1) (fun _ t => (sp_toldK p1 = 0 → lh_B dC dI ad cU cI pa nu nm nk (sp_toldF p1 nu nm F U) (sp_toldU p1 nu nm F U) ao cJ (fun o => o 0 = (sp_toldR p1 nu nm nk F U).toInt64) t) ∧ (¬ sp_toldK p1 = 0 → lh_B dC dI ad cU cI pa nu nm nk F U ao cJ (fun _ => True) t)) (us_AA (ao :: us_ads ad pa) sz)) 1 6 (us_AA (ao :: us_ads ad pa) sz) := by
  refine va_MetW (cc := cL_told) (maxL := 4) (ret := (some .int)) (hh := [(0, 9, 12, 21)]) (by decide) rfl ?_
  intro p e s m args below meth c s₁ B hml hv
  obtain ⟨rfl, ⟨hsz, hP, hK, hD, hE⟩, hOut, hKJ⟩ := hv
  have hx := B.exec
  have hb := B.bytes
  have hr := B.returns
  have hat := atoms_spec (ws := wsL_told) B.pre
  have htb := us_htb hat
  have hown : s.vm.findClass RL = some m.cls := findClass_of_methodNamed B.named
  have hTab : c.exceptionTable.toList = tableOf [(0, 9, 12, 21)] := vx_table (x := yL_told) B (hat _ List.mem_cons_self)
  have hlocks := B.notSynchronized
  subst hsz
  have hA : ∀ q : Nat, s.heap.size ≤ q → (us_AA (ao :: us_ads ad pa) s.heap.size) q := fun q h => Or.inr h
  have hS : va_S (us_AA (ao :: us_ads ad pa) s.heap.size) s.heap s.heap [] := va_S.rf
  have hP : va_P (dC, dI) vwCl (us_W ad cU cI pa nu nm nk F U) s.heap := hP
  have hl := lv_entry ([.ref (ad 0), .int p1, .ref ao]) (n := 4) (Nat.le_of_ble_eq_true rfl)
  rw [lg_entry_eq]
  generalize (lg_sl ([.ref (ad 0), .int p1, .ref ao]) ++ List.replicate (4 - (lg_sl ([.ref (ad 0), .int p1, .ref ao])).length) Slot.unset).toArray = ls at hl ⊢
  have hl : lv_has ls 4 [(0, .ref (ad 0)), (1, .int p1), (2, .ref ao)] := hl
  refine lv_aload_n hx hb dL_told_0 rfl (lv_at hl 2 rfl) ?_
  refine lv_iconst (v := 0) hx hb dL_told_1 (by decide) ?_
  refine lv_aload_n hx hb dL_told_2 rfl (lv_at hl 0 rfl) ?_
  refine lv_iload_n hx hb dL_told_3 rfl (lv_at hl 1 rfl) ?_
  refine vx_calli (vx_runV (As := [.int p1]) (rest := [.int 0, .ref ao]) ⟨hx, hb, hml, hown, htb⟩ (kt_X1_told l hl9 dC dI ad cU cI pa s.heap.size nu nm nk F U p1 hnu hnm hO hV) (cwV 1 htb (us_gV mw_392 mw_393 mw_394 mw_32 mw_395) rfl rfl rfl (by decide +kernel) ⟨Nat.le_of_ble_eq_true rfl, Nat.le_of_ble_eq_true rfl⟩) ⟨us_Px_blind, va_recv hK hP (ci := 1) (q0 := 0) rfl rfl, fun U hU hW => ⟨rfl, us_Px_at hP hK hD hE hS lh_sub hU hW⟩⟩ rfl rfl hl.1 rfl (lv_room (Nat.le_of_ble_eq_true rfl)) dL_told_4 ⟨Nat.le_of_ble_eq_true rfl, Nat.le_of_ble_eq_true rfl⟩) hS (fun q _ h => lh_sub q h) lh_sub (fun q _ h => lh_sub q h) (fun E9 ce q9 _ t H locs ht hvm hw hB hz1 hk1 hS hce hcv hcl => ?_) (fun r _ t H locs ht hvm hw hB hz1 hk1 hS => ?_)
  · obtain ⟨hE9, hB⟩ := hB
    have hP := us_Bx_use ht hB
    have hOut : va_P (dC, dI) vwCl (lh_w ao cJ o) H := lh_keep hOut (fun x h => by cases List.mem_singleton.mp h; exact hao) hk1
    have hk9 := lh_toldK hw
    have hE8 : E9 = "java/lang/IllegalArgumentException" := by rw [hE9, hk9]; rfl
    subst hE8
    refine vx_catch (own := RL) (name := "java/lang/IllegalArgumentException") (E := "java/lang/IllegalArgumentException") hown [] ⟨0, 9, 12, 21⟩ [] (by rw [hTab]; rfl) (fun z hz => nomatch hz) (by decide) (by decide) (htb _ mw_244) (va_Nw.use rfl (hE.2.2.1 (.castable "java/lang/IllegalArgumentException" "java/lang/IllegalArgumentException") (by decide +kernel))) hce hcv hcl ?_
    refine lv_astore_n (lv' := [(3, .ref q9), (0, .ref (ad 0)), (1, .int p1), (2, .ref ao)]) hx hb dL_told_12 rfl hl (by decide) rfl (fun ls hl => ?_)
    refine lv_iconst (v := 1) hx hb dL_told_13 (by decide) ?_
    exact W.iret (v := 1) hx hb hr (fun t ht hW => ⟨⟨1, (), rfl, hk9.symm, fun h0 => absurd h0 hw, fun _ => ⟨us_Bx_of ht hP rfl rfl rfl, o, by rw [ht]; exact hOut, trivial⟩⟩, hS.F ht⟩) hS.2.2 dL_told_14
  · obtain ⟨hk0, hw⟩ := hw
    subst hw
    have hP := us_Bx_use ht hB
    have hOut : va_P (dC, dI) vwCl (lh_w ao cJ o) H := lh_keep hOut (fun x h => by cases List.mem_singleton.mp h; exact hao) hk1
    refine lv_i2l hx hb dL_told_7 rfl ?_
    have hP2 : va_P (dC, dI) vwCl ((ao, .inl (cJ, 1, .inr (.inl o))) :: (us_W ad cU cI pa nu nm nk (sp_toldF p1 nu nm F U) (sp_toldU p1 nu nm F U))) H := lh_cons hOut hP
    have hD2 : va_D (us_AA (ao :: us_ads ad pa) s.heap.size) ((ao, .inl (cJ, 1, .inr (.inl o))) :: (us_W ad cU cI pa nu nm nk (sp_toldF p1 nu nm F U) (sp_toldU p1 nu nm F U))) := lh_D (Or.inl List.mem_cons_self) (by rw [us_W_adr]; exact hao) ((us_D_of (by rw [us_W_adr, us_W_adr]) hD).weaken (fun _ _ _ h => Or.inl (List.mem_cons_of_mem _ h)))
    refine va_last hx hb hKJ hP2 hD2 hS 0 0 rfl rfl (i := 0) (vp_in_nI (n := 0) (N := 1) (by decide) (by decide)) dL_told_8 (fun H locs hP hD hS => ?_)
    refine lv_goto (tgt := 15) hx hb dL_told_9 (by decide) ?_
    refine lv_iconst (v := 0) hx hb dL_told_15 (by decide) ?_
    exact W.iret (v := 0) hx hb hr (fun t ht hW => ⟨⟨0, (), rfl, hk0.symm, fun _ => ⟨us_Bx_of ht (lh_tl hP) rfl rfl rfl, _, by rw [ht]; exact lh_hd hP, rfl⟩, fun h0 => absurd hk0 h0⟩, hS.F ht⟩) hS.2.2 dL_told_16
set_option maxHeartbeats 8000000 in
set_option maxRecDepth 100000 in
theorem kt_L_many (l : Launch) (hl9 : l.stackTraces = false) (dC : Nat → ClassId) (dI : Nat → Nat → Nat) (ad : Nat → Nat) (cU cI : ClassId) (pa : Nat → Nat) (sz : Nat) (nu nm : Nat) (nk : Int32) (F U : Nat → Nat → Int32) (ao : Nat) (cJ : ClassId) (o : Nat → Int64) (p1 p2 : Int32) (hnu : nu ≤ 30) (hnm : nm ≤ 200) (hO : ∀ p, p < nm → ∃ n, n < nm ∧ F 5 p = nI n) (hV : ∀ n, n < nm → ∃ j, j < nu ∧ F 0 n = nI j) (hao : ao ∉ us_ads ad pa) : Met l yL_many wsL_many ({ frames := 8, cells := 1, slots := 6, locals := 138 }) (va_Pc [.ref (ad 0), .int p1, .int p2, .ref ao] (lh_P dC dI ad cU cI pa nu nm nk F U ao cJ o sz)) (va_Qi (fun r (_ : Unit) => r = sp_manyK p1 p2) (fun _ t => (sp_manyK p1 p2 = 0 → lh_B dC dI ad cU cI pa nu nm nk (sp_rf nu nm F U p2) (sp_ru nu nm F U p2) ao cJ (fun o => o 0 = (sp_many (sp_ru nu nm F U p2) p1 nu).toInt64) t) ∧ (¬ sp_manyK p1 p2 = 0 → lh_B dC dI ad cU cI pa nu nm nk F U ao cJ (fun _ => True) t)) (us_AA (ao :: us_ads ad pa) sz)) 1 6 (us_AA (ao :: us_ads ad pa) sz) := by
  refine va_MetW (cc := cL_many) (maxL := 5) (ret := (some .int)) (hh := [(0, 10, 13, 21), (0, 10, 17, 13)]) (by decide) rfl ?_
  intro p e s m args below meth c s₁ B hml hv
  obtain ⟨rfl, ⟨hsz, hP, hK, hD, hE⟩, hOut, hKJ⟩ := hv
  have hx := B.exec
  have hb := B.bytes
  have hr := B.returns
  have hat := atoms_spec (ws := wsL_many) B.pre
  have htb := us_htb hat
  have hown : s.vm.findClass RL = some m.cls := findClass_of_methodNamed B.named
  have hTab : c.exceptionTable.toList = tableOf [(0, 10, 13, 21), (0, 10, 17, 13)] := vx_table (x := yL_many) B (hat _ List.mem_cons_self)
  have hlocks := B.notSynchronized
  subst hsz
  have hA : ∀ q : Nat, s.heap.size ≤ q → (us_AA (ao :: us_ads ad pa) s.heap.size) q := fun q h => Or.inr h
  have hS : va_S (us_AA (ao :: us_ads ad pa) s.heap.size) s.heap s.heap [] := va_S.rf
  have hP : va_P (dC, dI) vwCl (us_W ad cU cI pa nu nm nk F U) s.heap := hP
  have hl := lv_entry ([.ref (ad 0), .int p1, .int p2, .ref ao]) (n := 5) (Nat.le_of_ble_eq_true rfl)
  rw [lg_entry_eq]
  generalize (lg_sl ([.ref (ad 0), .int p1, .int p2, .ref ao]) ++ List.replicate (5 - (lg_sl ([.ref (ad 0), .int p1, .int p2, .ref ao])).length) Slot.unset).toArray = ls at hl ⊢
  have hl : lv_has ls 5 [(0, .ref (ad 0)), (1, .int p1), (2, .int p2), (3, .ref ao)] := hl
  refine lv_aload_n hx hb dL_many_0 rfl (lv_at hl 3 rfl) ?_
  refine lv_iconst (v := 0) hx hb dL_many_1 (by decide) ?_
  refine lv_aload_n hx hb dL_many_2 rfl (lv_at hl 0 rfl) ?_
  refine lv_iload_n hx hb dL_many_3 rfl (lv_at hl 1 rfl) ?_
  refine lv_iload_n hx hb dL_many_4 rfl (lv_at hl 2 rfl) ?_
  refine vx_calli (vx_runV (As := [.int p1, .int p2]) (rest := [.int 0, .ref ao]) ⟨hx, hb, hml, hown, htb⟩ (kt_X1_many l hl9 dC dI ad cU cI pa s.heap.size nu nm nk F U p1 p2 hnu hnm hO hV) (cwV 2 htb (us_gV mw_403 mw_404 mw_405 mw_32 mw_406) rfl rfl rfl (by decide +kernel) ⟨Nat.le_of_ble_eq_true rfl, Nat.le_of_ble_eq_true rfl⟩) ⟨us_Px_blind, va_recv hK hP (ci := 1) (q0 := 0) rfl rfl, fun U hU hW => ⟨rfl, us_Px_at hP hK hD hE hS lh_sub hU hW⟩⟩ rfl rfl hl.1 rfl (lv_room (Nat.le_of_ble_eq_true rfl)) dL_many_5 ⟨Nat.le_of_ble_eq_true rfl, Nat.le_of_ble_eq_true rfl⟩) hS (fun q _ h => lh_sub q h) lh_sub (fun q _ h => lh_sub q h) (fun E9 ce q9 _ t H locs ht hvm hw hB hz1 hk1 hS hce hcv hcl => ?_) (fun r _ t H locs ht hvm hw hB hz1 hk1 hS => ?_)
  · obtain ⟨hE9, hB⟩ := hB
    have hP := us_Bx_use ht hB
    have hOut : va_P (dC, dI) vwCl (lh_w ao cJ o) H := lh_keep hOut (fun x h => by cases List.mem_singleton.mp h; exact hao) hk1
    rcases lh_manyK hw with hk9 | hk9
    · have hE8 : E9 = "java/lang/IllegalArgumentException" := by rw [hE9, hk9]; rfl
      subst hE8
      refine vx_catch (own := RL) (name := "java/lang/IllegalArgumentException") (E := "java/lang/IllegalArgumentException") hown [] ⟨0, 10, 13, 21⟩ [⟨0, 10, 17, 13⟩] (by rw [hTab]; rfl) (fun z hz => nomatch hz) (by decide) (by decide) (htb _ mw_244) (va_Nw.use rfl (hE.2.2.1 (.castable "java/lang/IllegalArgumentException" "java/lang/IllegalArgumentException") (by decide +kernel))) hce hcv hcl ?_
      refine lv_astore (lv' := [(4, .ref q9), (0, .ref (ad 0)), (1, .int p1), (2, .int p2), (3, .ref ao)]) hx hb dL_many_13 hl (by decide) rfl (fun ls hl => ?_)
      refine lv_iconst (v := 1) hx hb dL_many_15 (by decide) ?_
      exact W.iret (v := 1) hx hb hr (fun t ht hW => ⟨⟨1, (), rfl, hk9.symm, fun h0 => absurd h0 hw, fun _ => ⟨us_Bx_of ht hP rfl rfl rfl, o, by rw [ht]; exact hOut, trivial⟩⟩, hS.F ht⟩) hS.2.2 dL_many_16
    · have hE8 : E9 = "java/lang/IndexOutOfBoundsException" := by rw [hE9, hk9]; rfl
      subst hE8
      refine vx_catch (own := RL) (name := "java/lang/IndexOutOfBoundsException") (E := "java/lang/IndexOutOfBoundsException") hown [⟨0, 10, 13, 21⟩] ⟨0, 10, 17, 13⟩ [] (by rw [hTab]; rfl) (fun z hz => by cases List.mem_singleton.mp hz; exact Or.inr ⟨by decide, "java/lang/IllegalArgumentException", htb _ mw_244, hE.2.2.2.1 ("java/lang/IndexOutOfBoundsException", "java/lang/IllegalArgumentException") (by decide +kernel)⟩) (by decide) (by decide) (htb _ mw_143) (va_Nw.use rfl (hE.2.2.1 (.castable "java/lang/IndexOutOfBoundsException" "java/lang/IndexOutOfBoundsException") (by decide +kernel))) hce hcv hcl ?_
      refine lv_astore (lv' := [(4, .ref q9), (0, .ref (ad 0)), (1, .int p1), (2, .int p2), (3, .ref ao)]) hx hb dL_many_17 hl (by decide) rfl (fun ls hl => ?_)
      refine lv_iconst (v := 2) hx hb dL_many_19 (by decide) ?_
      exact W.iret (v := 2) hx hb hr (fun t ht hW => ⟨⟨2, (), rfl, hk9.symm, fun h0 => absurd h0 hw, fun _ => ⟨us_Bx_of ht hP rfl rfl rfl, o, by rw [ht]; exact hOut, trivial⟩⟩, hS.F ht⟩) hS.2.2 dL_many_20
  · obtain ⟨hk0, hw⟩ := hw
    subst hw
    have hP := us_Bx_use ht hB
    have hOut : va_P (dC, dI) vwCl (lh_w ao cJ o) H := lh_keep hOut (fun x h => by cases List.mem_singleton.mp h; exact hao) hk1
    refine lv_i2l hx hb dL_many_8 rfl ?_
    have hP2 : va_P (dC, dI) vwCl ((ao, .inl (cJ, 1, .inr (.inl o))) :: (us_W ad cU cI pa nu nm nk (sp_rf nu nm F U p2) (sp_ru nu nm F U p2))) H := lh_cons hOut hP
    have hD2 : va_D (us_AA (ao :: us_ads ad pa) s.heap.size) ((ao, .inl (cJ, 1, .inr (.inl o))) :: (us_W ad cU cI pa nu nm nk (sp_rf nu nm F U p2) (sp_ru nu nm F U p2))) := lh_D (Or.inl List.mem_cons_self) (by rw [us_W_adr]; exact hao) ((us_D_of (by rw [us_W_adr, us_W_adr]) hD).weaken (fun _ _ _ h => Or.inl (List.mem_cons_of_mem _ h)))
    refine va_last hx hb hKJ hP2 hD2 hS 0 0 rfl rfl (i := 0) (vp_in_nI (n := 0) (N := 1) (by decide) (by decide)) dL_many_9 (fun H locs hP hD hS => ?_)
    refine lv_goto (tgt := 21) hx hb dL_many_10 (by decide) ?_
    refine lv_iconst (v := 0) hx hb dL_many_21 (by decide) ?_
    exact W.iret (v := 0) hx hb hr (fun t ht hW => ⟨⟨0, (), rfl, hk0.symm, fun _ => ⟨us_Bx_of ht (lh_tl hP) rfl rfl rfl, _, by rw [ht]; exact lh_hd hP, rfl⟩, fun h0 => absurd hk0 h0⟩, hS.F ht⟩) hS.2.2 dL_many_22
set_option maxHeartbeats 8000000 in
set_option maxRecDepth 100000 in
theorem kt_L_arrived (l : Launch) (hl9 : l.stackTraces = false) (dC : Nat → ClassId) (dI : Nat → Nat → Nat) (ad : Nat → Nat) (cU cI : ClassId) (pa : Nat → Nat) (sz : Nat) (nu nm : Nat) (nk : Int32) (F U : Nat → Nat → Int32) (ao : Nat) (cJ : ClassId) (o : Nat → Int64) (p1 p2 p3 : Int32) (hnu : nu ≤ 30) (hnm : nm ≤ 200) (hO : ∀ p, p < nm → ∃ n, n < nm ∧ F 5 p = nI n) (hV : ∀ n, n < nm → ∃ j, j < nu ∧ F 0 n = nI j) (hao : ao ∉ us_ads ad pa) : Met l yL_arrived wsL_arrived ({ frames := 8, cells := 2, slots := 12, locals := 138 }) (va_Pc [.ref (ad 0), .int p1, .int p2, .int p3, .ref ao] (lh_P dC dI ad cU cI pa nu nm nk F U ao cJ o sz)) (va_Qi (fun r (_ : Unit) => r = sp_arrK p1 p2 p3) (fun _ t => (sp_arrK p1 p2 p3 = 0 → lh_B dC dI ad cU cI pa nu nm nk (sp_rf nu nm F U p3) (sp_ru nu nm F U p3) ao cJ (fun o => o 0 = (sp_arr nu (sp_ru nu nm F U p3) p1 p2 nu 0).toInt64) t) ∧ (¬ sp_arrK p1 p2 p3 = 0 → lh_B dC dI ad cU cI pa nu nm nk F U ao cJ (fun _ => True) t)) (us_AA (ao :: us_ads ad pa) sz)) 2 12 (us_AA (ao :: us_ads ad pa) sz) := by
  refine va_MetW (cc := cL_arrived) (maxL := 6) (ret := (some .int)) (hh := [(0, 12, 15, 21), (0, 12, 19, 13)]) (by decide) rfl ?_
  intro p e s m args below meth c s₁ B hml hv
  obtain ⟨rfl, ⟨hsz, hP, hK, hD, hE⟩, hOut, hKJ⟩ := hv
  have hx := B.exec
  have hb := B.bytes
  have hr := B.returns
  have hat := atoms_spec (ws := wsL_arrived) B.pre
  have htb := us_htb hat
  have hown : s.vm.findClass RL = some m.cls := findClass_of_methodNamed B.named
  have hTab : c.exceptionTable.toList = tableOf [(0, 12, 15, 21), (0, 12, 19, 13)] := vx_table (x := yL_arrived) B (hat _ List.mem_cons_self)
  have hlocks := B.notSynchronized
  subst hsz
  have hA : ∀ q : Nat, s.heap.size ≤ q → (us_AA (ao :: us_ads ad pa) s.heap.size) q := fun q h => Or.inr h
  have hS : va_S (us_AA (ao :: us_ads ad pa) s.heap.size) s.heap s.heap [] := va_S.rf
  have hP : va_P (dC, dI) vwCl (us_W ad cU cI pa nu nm nk F U) s.heap := hP
  have hl := lv_entry ([.ref (ad 0), .int p1, .int p2, .int p3, .ref ao]) (n := 6) (Nat.le_of_ble_eq_true rfl)
  rw [lg_entry_eq]
  generalize (lg_sl ([.ref (ad 0), .int p1, .int p2, .int p3, .ref ao]) ++ List.replicate (6 - (lg_sl ([.ref (ad 0), .int p1, .int p2, .int p3, .ref ao])).length) Slot.unset).toArray = ls at hl ⊢
  have hl : lv_has ls 6 [(0, .ref (ad 0)), (1, .int p1), (2, .int p2), (3, .int p3), (4, .ref ao)] := hl
  refine lv_aload hx hb dL_arrived_0 (lv_at hl 4 rfl) ?_
  refine lv_iconst (v := 0) hx hb dL_arrived_2 (by decide) ?_
  refine lv_aload_n hx hb dL_arrived_3 rfl (lv_at hl 0 rfl) ?_
  refine lv_iload_n hx hb dL_arrived_4 rfl (lv_at hl 1 rfl) ?_
  refine lv_iload_n hx hb dL_arrived_5 rfl (lv_at hl 2 rfl) ?_
  refine lv_iload_n hx hb dL_arrived_6 rfl (lv_at hl 3 rfl) ?_
  refine vx_calli (vx_runV (As := [.int p1, .int p2, .int p3]) (rest := [.int 0, .ref ao]) ⟨hx, hb, hml, hown, htb⟩ (kt_X1_arrived l hl9 dC dI ad cU cI pa s.heap.size nu nm nk F U p1 p2 p3 hnu hnm hO hV) (cwV 3 htb (us_gV mw_411 mw_412 mw_413 mw_32 mw_414) rfl rfl rfl (by decide +kernel) ⟨Nat.le_of_ble_eq_true rfl, Nat.le_of_ble_eq_true rfl⟩) ⟨us_Px_blind, va_recv hK hP (ci := 1) (q0 := 0) rfl rfl, fun U hU hW => ⟨rfl, us_Px_at hP hK hD hE hS lh_sub hU hW⟩⟩ rfl rfl hl.1 rfl (lv_room (Nat.le_of_ble_eq_true rfl)) dL_arrived_7 ⟨Nat.le_of_ble_eq_true rfl, Nat.le_of_ble_eq_true rfl⟩) hS (fun q _ h => lh_sub q h) lh_sub (fun q _ h => lh_sub q h) (fun E9 ce q9 _ t H locs ht hvm hw hB hz1 hk1 hS hce hcv hcl => ?_) (fun r _ t H locs ht hvm hw hB hz1 hk1 hS => ?_)
  · obtain ⟨hE9, hB⟩ := hB
    have hP := us_Bx_use ht hB
    have hOut : va_P (dC, dI) vwCl (lh_w ao cJ o) H := lh_keep hOut (fun x h => by cases List.mem_singleton.mp h; exact hao) hk1
    rcases lh_arrK hw with hk9 | hk9
    · have hE8 : E9 = "java/lang/IllegalArgumentException" := by rw [hE9, hk9]; rfl
      subst hE8
      refine vx_catch (own := RL) (name := "java/lang/IllegalArgumentException") (E := "java/lang/IllegalArgumentException") hown [] ⟨0, 12, 15, 21⟩ [⟨0, 12, 19, 13⟩] (by rw [hTab]; rfl) (fun z hz => nomatch hz) (by decide) (by decide) (htb _ mw_244) (va_Nw.use rfl (hE.2.2.1 (.castable "java/lang/IllegalArgumentException" "java/lang/IllegalArgumentException") (by decide +kernel))) hce hcv hcl ?_
      refine lv_astore (lv' := [(5, .ref q9), (0, .ref (ad 0)), (1, .int p1), (2, .int p2), (3, .int p3), (4, .ref ao)]) hx hb dL_arrived_15 hl (by decide) rfl (fun ls hl => ?_)
      refine lv_iconst (v := 1) hx hb dL_arrived_17 (by decide) ?_
      exact W.iret (v := 1) hx hb hr (fun t ht hW => ⟨⟨1, (), rfl, hk9.symm, fun h0 => absurd h0 hw, fun _ => ⟨us_Bx_of ht hP rfl rfl rfl, o, by rw [ht]; exact hOut, trivial⟩⟩, hS.F ht⟩) hS.2.2 dL_arrived_18
    · have hE8 : E9 = "java/lang/IndexOutOfBoundsException" := by rw [hE9, hk9]; rfl
      subst hE8
      refine vx_catch (own := RL) (name := "java/lang/IndexOutOfBoundsException") (E := "java/lang/IndexOutOfBoundsException") hown [⟨0, 12, 15, 21⟩] ⟨0, 12, 19, 13⟩ [] (by rw [hTab]; rfl) (fun z hz => by cases List.mem_singleton.mp hz; exact Or.inr ⟨by decide, "java/lang/IllegalArgumentException", htb _ mw_244, hE.2.2.2.1 ("java/lang/IndexOutOfBoundsException", "java/lang/IllegalArgumentException") (by decide +kernel)⟩) (by decide) (by decide) (htb _ mw_143) (va_Nw.use rfl (hE.2.2.1 (.castable "java/lang/IndexOutOfBoundsException" "java/lang/IndexOutOfBoundsException") (by decide +kernel))) hce hcv hcl ?_
      refine lv_astore (lv' := [(5, .ref q9), (0, .ref (ad 0)), (1, .int p1), (2, .int p2), (3, .int p3), (4, .ref ao)]) hx hb dL_arrived_19 hl (by decide) rfl (fun ls hl => ?_)
      refine lv_iconst (v := 2) hx hb dL_arrived_21 (by decide) ?_
      exact W.iret (v := 2) hx hb hr (fun t ht hW => ⟨⟨2, (), rfl, hk9.symm, fun h0 => absurd h0 hw, fun _ => ⟨us_Bx_of ht hP rfl rfl rfl, o, by rw [ht]; exact hOut, trivial⟩⟩, hS.F ht⟩) hS.2.2 dL_arrived_22
  · obtain ⟨hk0, hw⟩ := hw
    subst hw
    have hP := us_Bx_use ht hB
    have hOut : va_P (dC, dI) vwCl (lh_w ao cJ o) H := lh_keep hOut (fun x h => by cases List.mem_singleton.mp h; exact hao) hk1
    refine lv_i2l hx hb dL_arrived_10 rfl ?_
    have hP2 : va_P (dC, dI) vwCl ((ao, .inl (cJ, 1, .inr (.inl o))) :: (us_W ad cU cI pa nu nm nk (sp_rf nu nm F U p3) (sp_ru nu nm F U p3))) H := lh_cons hOut hP
    have hD2 : va_D (us_AA (ao :: us_ads ad pa) s.heap.size) ((ao, .inl (cJ, 1, .inr (.inl o))) :: (us_W ad cU cI pa nu nm nk (sp_rf nu nm F U p3) (sp_ru nu nm F U p3))) := lh_D (Or.inl List.mem_cons_self) (by rw [us_W_adr]; exact hao) ((us_D_of (by rw [us_W_adr, us_W_adr]) hD).weaken (fun _ _ _ h => Or.inl (List.mem_cons_of_mem _ h)))
    refine va_last hx hb hKJ hP2 hD2 hS 0 0 rfl rfl (i := 0) (vp_in_nI (n := 0) (N := 1) (by decide) (by decide)) dL_arrived_11 (fun H locs hP hD hS => ?_)
    refine lv_goto (tgt := 23) hx hb dL_arrived_12 (by decide) ?_
    refine lv_iconst (v := 0) hx hb dL_arrived_23 (by decide) ?_
    exact W.iret (v := 0) hx hb hr (fun t ht hW => ⟨⟨0, (), rfl, hk0.symm, fun _ => ⟨us_Bx_of ht (lh_tl hP) rfl rfl rfl, _, by rw [ht]; exact lh_hd hP, rfl⟩, fun h0 => absurd hk0 h0⟩, hS.F ht⟩) hS.2.2 dL_arrived_24
