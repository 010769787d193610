set_option maxHeartbeats 8000000 in
set_option maxRecDepth 100000 in
theorem kt_X2_next (l : Launch) (dC : Nat → ClassId) (dI : Nat → Nat → Nat) (md : Nat → Nat) (cI : ClassId) (sz : Nat) (th : Int32) (nu nm : Nat) (sk : Int32) (G : Nat → Nat → Int32) (v : Nat → Int32) (p1 : Int32) (p2 : Int32) (p3 : Int32) (hnm : nm ≤ 200) (hb2 : ¬ p2 < 0 → ∃ j, j < nm ∧ p2 = nI j) : Met l yX2_next wsX2_next ({ frames := 0, cells := 0, slots := 0, locals := 0 }) (va_Pc [.ref (md 0), .int p1, .int p2, .int p3] (um_P dC dI md cI th nu nm sk G v sz)) (va_Qi (fun r (_ : Unit) => r = um_nx G p1 p2 p3 nm) (fun _ _ => True) (us_new sz)) 0 0 (us_new sz) := by
  refine Met.ofW (cc := cX2_next) (maxL := 8) (ret := (some .int)) (by decide) rfl ?_
  intro p e s m args below meth c s₁ B hml hv
  obtain ⟨rfl, hsz, hP, hK, hD⟩ := hv
  have hx := B.exec
  have hb := B.bytes
  have hr := B.returns
  have htb := us_htb (atoms_spec (ws := wsX2_next) B.pre)
  have hown : s.vm.findClass RX2 = some m.cls := findClass_of_methodNamed B.named
  have hlocks := B.notSynchronized
  subst hsz
  have hA : ∀ q : Nat, s.heap.size ≤ q → (us_new s.heap.size) q := fun q h => h
  have hS : va_S (us_new s.heap.size) s.heap s.heap [] := va_S.rf
  have hP : va_P (dC, dI) vwCl (um_W md cI th nu nm sk G v) s.heap := hP
  have hl := lv_entry ([.ref (md 0), .int p1, .int p2, .int p3]) (n := 8) (Nat.le_of_ble_eq_true rfl)
  rw [lg_entry_eq]
  generalize (lg_sl ([.ref (md 0), .int p1, .int p2, .int p3]) ++ List.replicate (8 - (lg_sl ([.ref (md 0), .int p1, .int p2, .int p3])).length) Slot.unset).toArray = ls at hl ⊢
  have hl : lv_has ls 8 [(0, .ref (md 0)), (1, .int p1), (2, .int p2), (3, .int p3)] := hl
  have lp6 : ∀ (n i : Nat) (H : Heap) (locs : List Loc) (ls : Array Slot), i + n = nm → va_P (dC, dI) vwCl (um_W md cI th nu nm sk G v) H → va_S (us_new s.heap.size) s.heap H locs → lv_has ls 8 [(5, .int (nI i)), (4, .int (um_nx G p1 p2 p3 i)), (0, .ref (md 0)), (1, .int p1), (2, .int p2), (3, .int p3)] → W p l e (headSpec wsX2_next ({ frames := 0, cells := 0, slots := 0, locals := 0 })).room s m ([.ref (md 0), .int p1, .int p2, .int p3]).toArray below meth c H locs 0 0 (MQ below (va_Qi (fun r (_ : Unit) => r = um_nx G p1 p2 p3 nm) (fun _ _ => True) (us_new s.heap.size)) ([.ref (md 0), .int p1, .int p2, .int p3]).toArray s 0 0 (us_new s.heap.size)) (F0 m 6 ls []) := by
    intro n
    induction n with
    | zero =>
      intro i H locs ls hin hP hS hl
      have hie : i = nm := by omega
      refine lv_iload hx hb dX2_next_6 (lv_at hl 0 rfl) ?_
      refine lv_aload_n hx hb dX2_next_8 rfl (lv_at hl 2 rfl) ?_
      refine va_get (D := (dC, dI)) (ci := 2) (v := .int (nI nm)) (C := RX2) (T := TX2) (N := 23) hx hb htb us_inX2 hown hK hP 0 rfl rfl 4 (by decide) (htb _ mw_427) (fun _ h9 => h9) rfl dX2_next_9 ?_
      refine lv_icmp_ge (tgt := 135) hx hb dX2_next_12 (by decide) (fun c_1 => ?_) (fun c_1 => ?_)
      · refine lv_iload hx hb dX2_next_135 (lv_at hl 1 rfl) ?_
        have hsp : (um_nx G p1 p2 p3 i) = um_nx G p1 p2 p3 nm := by rw [hie]
        exact W.iret (v := (um_nx G p1 p2 p3 i)) hx hb hr (fun t ht hW => ⟨⟨(um_nx G p1 p2 p3 i), (), rfl, hsp, trivial⟩, hS.F ht⟩) hS.2.2 dX2_next_137
      · exact absurd (nI_le (by omega) (by omega)) c_1
    | succ n ih =>
      intro i H locs ls hin hP hS hl
      have hil : i < nm := by omega
      have hi2 : i < 200 := by omega
      refine lv_iload hx hb dX2_next_6 (lv_at hl 0 rfl) ?_
      refine lv_aload_n hx hb dX2_next_8 rfl (lv_at hl 2 rfl) ?_
      refine va_get (D := (dC, dI)) (ci := 2) (v := .int (nI nm)) (C := RX2) (T := TX2) (N := 23) hx hb htb us_inX2 hown hK hP 0 rfl rfl 4 (by decide) (htb _ mw_427) (fun _ h9 => h9) rfl dX2_next_9 ?_
      refine lv_icmp_ge (tgt := 135) hx hb dX2_next_12 (by decide) (fun c_2 => ?_) (fun c_2 => ?_)
      · exact absurd c_2 (nI_ge (by omega) (by omega))
      · refine lv_iload_n hx hb dX2_next_15 rfl (lv_at hl 4 rfl) ?_
        refine lv_if_lt (tgt := 57) hx hb dX2_next_16 (by decide) (fun c_3 => ?_) (fun c_3 => ?_)
        · refine lv_iconst (v := 1) hx hb dX2_next_57 (by decide) ?_
          refine lv_goto (tgt := 62) hx hb dX2_next_58 (by decide) ?_
          refine lv_istore (lv' := [(6, .int 1), (5, .int (nI i)), (4, .int (um_nx G p1 p2 p3 i)), (0, .ref (md 0)), (1, .int p1), (2, .int p2), (3, .int p3)]) hx hb dX2_next_62 hl (by decide) rfl (fun ls hl => ?_)
          refine lv_aload_n hx hb dX2_next_64 rfl (lv_at hl 3 rfl) ?_
          refine va_get (D := (dC, dI)) (ci := 2) (v := .ref (md 3)) (C := RX2) (T := TX2) (N := 23) hx hb htb us_inX2 hown hK hP 0 rfl rfl 5 (by decide) (htb _ mw_428) (fun _ h9 => h9) rfl dX2_next_65 ?_
          refine lv_iload hx hb dX2_next_68 (lv_at hl 1 rfl) ?_
          refine us_iald (f := (G 2)) hx hb hK hP 3 0 rfl rfl hi2 (by decide) dX2_next_70 ?_
          refine lv_iload_n hx hb dX2_next_71 rfl (lv_at hl 4 rfl) ?_
          refine lv_icmp_ne (tgt := 95) hx hb dX2_next_72 (by decide) (fun c_4 => ?_) (fun c_4 => ?_)
          · refine lv_iconst (v := 0) hx hb dX2_next_95 (by decide) ?_
            refine lv_istore (lv' := [(7, .int 0), (6, .int 1), (5, .int (nI i)), (4, .int (um_nx G p1 p2 p3 i)), (0, .ref (md 0)), (1, .int p1), (2, .int p2), (3, .int p3)]) hx hb dX2_next_96 hl (by decide) rfl (fun ls hl => ?_)
            refine lv_iload hx hb dX2_next_98 (lv_at hl 0 rfl) ?_
            refine lv_if_eq (tgt := 129) hx hb dX2_next_100 (by decide) (fun c_5 => ?_) (fun c_5 => ?_)
            · refine lv_iinc (v := (nI (i + 1))) (lv' := [(5, .int (nI (i + 1))), (7, .int 0), (6, .int 1), (4, .int (um_nx G p1 p2 p3 i)), (0, .ref (md 0)), (1, .int p1), (2, .int p2), (3, .int p3)]) hx hb dX2_next_129 hl (k := 2) rfl (nI_1 i) (by decide) rfl (fun ls hl => ?_)
              refine lv_goto (tgt := 6) hx hb dX2_next_132 (by decide) ?_
              have e9 : um_nx G p1 p2 p3 (i + 1) = (um_nx G p1 p2 p3 i) := by
                rw [um_nx]
                first | (simp only [um_may, um_later, eq_true c_3, eq_false c_4, eq_true c_5, if_true, if_false]; done) | (simp only [um_may, um_later, eq_true c_3, eq_false c_4, eq_true c_5, if_true, if_false]; simp only [eq_true c_3, eq_false c_4, eq_true c_5, if_true, if_false]; done) | (simp [um_may, um_later, c_3, c_4, c_5]; done)
              exact ih (i + 1) _ _ _ (by omega) hP hS (by rw [e9]; exact lv_sub hl [0, 3, 4, 5, 6, 7] rfl)
            · exact absurd (by decide) c_5
          · refine lv_aload_n hx hb dX2_next_75 rfl (lv_at hl 3 rfl) ?_
            refine va_get (D := (dC, dI)) (ci := 2) (v := .ref (md 4)) (C := RX2) (T := TX2) (N := 23) hx hb htb us_inX2 hown hK hP 0 rfl rfl 6 (by decide) (htb _ mw_429) (fun _ h9 => h9) rfl dX2_next_76 ?_
            refine lv_iload hx hb dX2_next_79 (lv_at hl 1 rfl) ?_
            refine us_iald (f := (G 3)) hx hb hK hP 4 0 rfl rfl hi2 (by decide) dX2_next_81 ?_
            refine lv_iload_n hx hb dX2_next_82 rfl (lv_at hl 6 rfl) ?_
            refine lv_icmp_gt (tgt := 95) hx hb dX2_next_83 (by decide) (fun c_6 => ?_) (fun c_6 => ?_)
            · refine lv_iconst (v := 0) hx hb dX2_next_95 (by decide) ?_
              refine lv_istore (lv' := [(7, .int 0), (6, .int 1), (5, .int (nI i)), (4, .int (um_nx G p1 p2 p3 i)), (0, .ref (md 0)), (1, .int p1), (2, .int p2), (3, .int p3)]) hx hb dX2_next_96 hl (by decide) rfl (fun ls hl => ?_)
              refine lv_iload hx hb dX2_next_98 (lv_at hl 0 rfl) ?_
              refine lv_if_eq (tgt := 129) hx hb dX2_next_100 (by decide) (fun c_7 => ?_) (fun c_7 => ?_)
              · refine lv_iinc (v := (nI (i + 1))) (lv' := [(5, .int (nI (i + 1))), (7, .int 0), (6, .int 1), (4, .int (um_nx G p1 p2 p3 i)), (0, .ref (md 0)), (1, .int p1), (2, .int p2), (3, .int p3)]) hx hb dX2_next_129 hl (k := 2) rfl (nI_1 i) (by decide) rfl (fun ls hl => ?_)
                refine lv_goto (tgt := 6) hx hb dX2_next_132 (by decide) ?_
                have e9 : um_nx G p1 p2 p3 (i + 1) = (um_nx G p1 p2 p3 i) := by
                  rw [um_nx]
                  first | (simp only [um_may, um_later, eq_true c_3, eq_true c_4, eq_true c_6, eq_true c_7, if_true, if_false]; done) | (simp only [um_may, um_later, eq_true c_3, eq_true c_4, eq_true c_6, eq_true c_7, if_true, if_false]; simp only [eq_true c_3, eq_true c_4, eq_true c_6, eq_true c_7, if_true, if_false]; done) | (simp [um_may, um_later, c_3, c_4, c_6, c_7]; done)
                exact ih (i + 1) _ _ _ (by omega) hP hS (by rw [e9]; exact lv_sub hl [0, 3, 4, 5, 6, 7] rfl)
              · exact absurd (by decide) c_7
            · refine lv_iload hx hb dX2_next_86 (lv_at hl 0 rfl) ?_
              refine lv_if_eq (tgt := 95) hx hb dX2_next_88 (by decide) (fun c_8 => ?_) (fun c_8 => ?_)
              · exact absurd c_8 (by decide)
              · refine lv_iconst (v := 1) hx hb dX2_next_91 (by decide) ?_
                refine lv_goto (tgt := 96) hx hb dX2_next_92 (by decide) ?_
                refine lv_istore (lv' := [(7, .int 1), (6, .int 1), (5, .int (nI i)), (4, .int (um_nx G p1 p2 p3 i)), (0, .ref (md 0)), (1, .int p1), (2, .int p2), (3, .int p3)]) hx hb dX2_next_96 hl (by decide) rfl (fun ls hl => ?_)
                refine lv_iload hx hb dX2_next_98 (lv_at hl 0 rfl) ?_
                refine lv_if_eq (tgt := 129) hx hb dX2_next_100 (by decide) (fun c_9 => ?_) (fun c_9 => ?_)
                · exact absurd c_9 (by decide)
                · refine lv_iload hx hb dX2_next_103 (lv_at hl 3 rfl) ?_
                  refine lv_if_lt (tgt := 125) hx hb dX2_next_105 (by decide) (fun c_10 => ?_) (fun c_10 => ?_)
                  · refine lv_iload hx hb dX2_next_125 (lv_at hl 2 rfl) ?_
                    refine lv_istore (lv' := [(4, .int (nI i)), (7, .int 1), (6, .int 1), (5, .int (nI i)), (0, .ref (md 0)), (1, .int p1), (2, .int p2), (3, .int p3)]) hx hb dX2_next_127 hl (by decide) rfl (fun ls hl => ?_)
                    refine lv_iinc (v := (nI (i + 1))) (lv' := [(5, .int (nI (i + 1))), (4, .int (nI i)), (7, .int 1), (6, .int 1), (0, .ref (md 0)), (1, .int p1), (2, .int p2), (3, .int p3)]) hx hb dX2_next_129 hl (k := 3) rfl (nI_1 i) (by decide) rfl (fun ls hl => ?_)
                    refine lv_goto (tgt := 6) hx hb dX2_next_132 (by decide) ?_
                    have e9 : um_nx G p1 p2 p3 (i + 1) = (nI i) := by
                      rw [um_nx]
                      first | (simp only [um_may, um_later, eq_true c_3, eq_true c_4, eq_false c_6, eq_false c_8, eq_false c_9, eq_true c_10, if_true, if_false]; done) | (simp only [um_may, um_later, eq_true c_3, eq_true c_4, eq_false c_6, eq_false c_8, eq_false c_9, eq_true c_10, if_true, if_false]; simp only [eq_true c_3, eq_true c_4, eq_false c_6, eq_false c_8, eq_false c_9, eq_true c_10, if_true, if_false]; done) | (simp [um_may, um_later, c_3, c_4, c_6, c_8, c_9, c_10]; done)
                    exact ih (i + 1) _ _ _ (by omega) hP hS (by rw [e9]; exact lv_sub hl [0, 1, 4, 5, 6, 7] rfl)
                  · refine lv_aload_n hx hb dX2_next_108 rfl (lv_at hl 4 rfl) ?_
                    refine va_get (D := (dC, dI)) (ci := 2) (v := .ref (md 4)) (C := RX2) (T := TX2) (N := 23) hx hb htb us_inX2 hown hK hP 0 rfl rfl 6 (by decide) (htb _ mw_429) (fun _ h9 => h9) rfl dX2_next_109 ?_
                    refine lv_iload hx hb dX2_next_112 (lv_at hl 2 rfl) ?_
                    refine us_iald (f := (G 3)) hx hb hK hP 4 0 rfl rfl hi2 (by decide) dX2_next_114 ?_
                    refine lv_aload_n hx hb dX2_next_115 rfl (lv_at hl 4 rfl) ?_
                    refine va_get (D := (dC, dI)) (ci := 2) (v := .ref (md 4)) (C := RX2) (T := TX2) (N := 23) hx hb htb us_inX2 hown hK hP 0 rfl rfl 6 (by decide) (htb _ mw_429) (fun _ h9 => h9) rfl dX2_next_116 ?_
                    refine lv_iload hx hb dX2_next_119 (lv_at hl 3 rfl) ?_
                    obtain ⟨f, hf, ef⟩ := um_nx_in (by omega) c_10
                    have hf2 : f < 200 := by omega
                    refine lv_topi (fun i9 ei9 => ?_)
                    have ei9 := ei9.trans ef
                    subst ei9
                    refine us_iald (f := (G 3)) hx hb hK hP 4 0 rfl rfl hf2 (by decide) dX2_next_121 ?_
                    refine lv_icmp_ge (tgt := 129) hx hb dX2_next_122 (by decide) (fun c_11 => ?_) (fun c_11 => ?_)
                    · refine lv_iinc (v := (nI (i + 1))) (lv' := [(5, .int (nI (i + 1))), (7, .int 1), (6, .int 1), (4, .int (um_nx G p1 p2 p3 i)), (0, .ref (md 0)), (1, .int p1), (2, .int p2), (3, .int p3)]) hx hb dX2_next_129 hl (k := 2) rfl (nI_1 i) (by decide) rfl (fun ls hl => ?_)
                      refine lv_goto (tgt := 6) hx hb dX2_next_132 (by decide) ?_
                      have efc : (um_nx G p1 p2 p3 i).toNatClampNeg = f := by rw [ef]; exact nI_clamp (by omega)
                      have e9 : um_nx G p1 p2 p3 (i + 1) = (um_nx G p1 p2 p3 i) := by
                        rw [um_nx]
                        first | (simp only [um_may, um_later, efc, eq_true c_3, eq_true c_4, eq_false c_6, eq_false c_8, eq_false c_9, eq_false c_10, eq_true c_11, if_true, if_false]; done) | (simp only [um_may, um_later, efc, eq_true c_3, eq_true c_4, eq_false c_6, eq_false c_8, eq_false c_9, eq_false c_10, eq_true c_11, if_true, if_false]; simp only [eq_true c_3, eq_true c_4, eq_false c_6, eq_false c_8, eq_false c_9, eq_false c_10, eq_true c_11, if_true, if_false]; done) | (simp [um_may, um_later, efc, c_3, c_4, c_6, c_8, c_9, c_10, c_11]; done)
                      exact ih (i + 1) _ _ _ (by omega) hP hS (by rw [e9]; exact lv_sub hl [0, 3, 4, 5, 6, 7] rfl)
                    · refine lv_iload hx hb dX2_next_125 (lv_at hl 2 rfl) ?_
                      refine lv_istore (lv' := [(4, .int (nI i)), (7, .int 1), (6, .int 1), (5, .int (nI i)), (0, .ref (md 0)), (1, .int p1), (2, .int p2), (3, .int p3)]) hx hb dX2_next_127 hl (by decide) rfl (fun ls hl => ?_)
                      refine lv_iinc (v := (nI (i + 1))) (lv' := [(5, .int (nI (i + 1))), (4, .int (nI i)), (7, .int 1), (6, .int 1), (0, .ref (md 0)), (1, .int p1), (2, .int p2), (3, .int p3)]) hx hb dX2_next_129 hl (k := 3) rfl (nI_1 i) (by decide) rfl (fun ls hl => ?_)
                      refine lv_goto (tgt := 6) hx hb dX2_next_132 (by decide) ?_
                      have efc : (um_nx G p1 p2 p3 i).toNatClampNeg = f := by rw [ef]; exact nI_clamp (by omega)
                      have e9 : um_nx G p1 p2 p3 (i + 1) = (nI i) := by
                        rw [um_nx]
                        first | (simp only [um_may, um_later, efc, eq_true c_3, eq_true c_4, eq_false c_6, eq_false c_8, eq_false c_9, eq_false c_10, eq_false c_11, if_true, if_false]; done) | (simp only [um_may, um_later, efc, eq_true c_3, eq_true c_4, eq_false c_6, eq_false c_8, eq_false c_9, eq_false c_10, eq_false c_11, if_true, if_false]; simp only [eq_true c_3, eq_true c_4, eq_false c_6, eq_false c_8, eq_false c_9, eq_false c_10, eq_false c_11, if_true, if_false]; done) | (simp [um_may, um_later, efc, c_3, c_4, c_6, c_8, c_9, c_10, c_11]; done)
                      exact ih (i + 1) _ _ _ (by omega) hP hS (by rw [e9]; exact lv_sub hl [0, 1, 4, 5, 6, 7] rfl)
        · refine lv_aload_n hx hb dX2_next_19 rfl (lv_at hl 2 rfl) ?_
          refine va_get (D := (dC, dI)) (ci := 2) (v := .ref (md 4)) (C := RX2) (T := TX2) (N := 23) hx hb htb us_inX2 hown hK hP 0 rfl rfl 6 (by decide) (htb _ mw_429) (fun _ h9 => h9) rfl dX2_next_20 ?_
          refine lv_iload hx hb dX2_next_23 (lv_at hl 0 rfl) ?_
          refine us_iald (f := (G 3)) hx hb hK hP 4 0 rfl rfl hi2 (by decide) dX2_next_25 ?_
          refine lv_aload_n hx hb dX2_next_26 rfl (lv_at hl 2 rfl) ?_
          refine va_get (D := (dC, dI)) (ci := 2) (v := .ref (md 4)) (C := RX2) (T := TX2) (N := 23) hx hb htb us_inX2 hown hK hP 0 rfl rfl 6 (by decide) (htb _ mw_429) (fun _ h9 => h9) rfl dX2_next_27 ?_
          refine lv_iload_n hx hb dX2_next_30 rfl (lv_at hl 4 rfl) ?_
          obtain ⟨j, hj, ej⟩ := hb2 c_3
          have hj2 : j < 200 := by omega
          refine lv_topi (fun i9 ei9 => ?_)
          have ei9 := ei9.trans ej
          subst ei9
          refine us_iald (f := (G 3)) hx hb hK hP 4 0 rfl rfl hj2 (by decide) dX2_next_31 ?_
          refine lv_icmp_gt (tgt := 57) hx hb dX2_next_32 (by decide) (fun c_12 => ?_) (fun c_12 => ?_)
          · refine lv_iconst (v := 1) hx hb dX2_next_57 (by decide) ?_
            refine lv_goto (tgt := 62) hx hb dX2_next_58 (by decide) ?_
            refine lv_istore (lv' := [(6, .int 1), (5, .int (nI i)), (4, .int (um_nx G p1 p2 p3 i)), (0, .ref (md 0)), (1, .int p1), (2, .int p2), (3, .int p3)]) hx hb dX2_next_62 hl (by decide) rfl (fun ls hl => ?_)
            refine lv_aload_n hx hb dX2_next_64 rfl (lv_at hl 3 rfl) ?_
            refine va_get (D := (dC, dI)) (ci := 2) (v := .ref (md 3)) (C := RX2) (T := TX2) (N := 23) hx hb htb us_inX2 hown hK hP 0 rfl rfl 5 (by decide) (htb _ mw_428) (fun _ h9 => h9) rfl dX2_next_65 ?_
            refine lv_iload hx hb dX2_next_68 (lv_at hl 1 rfl) ?_
            refine us_iald (f := (G 2)) hx hb hK hP 3 0 rfl rfl hi2 (by decide) dX2_next_70 ?_
            refine lv_iload_n hx hb dX2_next_71 rfl (lv_at hl 4 rfl) ?_
            refine lv_icmp_ne (tgt := 95) hx hb dX2_next_72 (by decide) (fun c_13 => ?_) (fun c_13 => ?_)
            · refine lv_iconst (v := 0) hx hb dX2_next_95 (by decide) ?_
              refine lv_istore (lv' := [(7, .int 0), (6, .int 1), (5, .int (nI i)), (4, .int (um_nx G p1 p2 p3 i)), (0, .ref (md 0)), (1, .int p1), (2, .int p2), (3, .int p3)]) hx hb dX2_next_96 hl (by decide) rfl (fun ls hl => ?_)
              refine lv_iload hx hb dX2_next_98 (lv_at hl 0 rfl) ?_
              refine lv_if_eq (tgt := 129) hx hb dX2_next_100 (by decide) (fun c_14 => ?_) (fun c_14 => ?_)
              · refine lv_iinc (v := (nI (i + 1))) (lv' := [(5, .int (nI (i + 1))), (7, .int 0), (6, .int 1), (4, .int (um_nx G p1 p2 p3 i)), (0, .ref (md 0)), (1, .int p1), (2, .int p2), (3, .int p3)]) hx hb dX2_next_129 hl (k := 2) rfl (nI_1 i) (by decide) rfl (fun ls hl => ?_)
                refine lv_goto (tgt := 6) hx hb dX2_next_132 (by decide) ?_
                have ejc : p2.toNatClampNeg = j := by rw [ej]; exact nI_clamp (by omega)
                have e9 : um_nx G p1 p2 p3 (i + 1) = (um_nx G p1 p2 p3 i) := by
                  rw [um_nx]
                  first | (simp only [um_may, um_later, ejc, eq_false c_3, eq_true c_12, eq_false c_13, eq_true c_14, if_true, if_false]; done) | (simp only [um_may, um_later, ejc, eq_false c_3, eq_true c_12, eq_false c_13, eq_true c_14, if_true, if_false]; simp only [eq_false c_3, eq_true c_12, eq_false c_13, eq_true c_14, if_true, if_false]; done) | (simp [um_may, um_later, ejc, c_3, c_12, c_13, c_14]; done)
                exact ih (i + 1) _ _ _ (by omega) hP hS (by rw [e9]; exact lv_sub hl [0, 3, 4, 5, 6, 7] rfl)
              · exact absurd (by decide) c_14
            · refine lv_aload_n hx hb dX2_next_75 rfl (lv_at hl 3 rfl) ?_
              refine va_get (D := (dC, dI)) (ci := 2) (v := .ref (md 4)) (C := RX2) (T := TX2) (N := 23) hx hb htb us_inX2 hown hK hP 0 rfl rfl 6 (by decide) (htb _ mw_429) (fun _ h9 => h9) rfl dX2_next_76 ?_
              refine lv_iload hx hb dX2_next_79 (lv_at hl 1 rfl) ?_
              refine us_iald (f := (G 3)) hx hb hK hP 4 0 rfl rfl hi2 (by decide) dX2_next_81 ?_
              refine lv_iload_n hx hb dX2_next_82 rfl (lv_at hl 6 rfl) ?_
              refine lv_icmp_gt (tgt := 95) hx hb dX2_next_83 (by decide) (fun c_15 => ?_) (fun c_15 => ?_)
              · refine lv_iconst (v := 0) hx hb dX2_next_95 (by decide) ?_
                refine lv_istore (lv' := [(7, .int 0), (6, .int 1), (5, .int (nI i)), (4, .int (um_nx G p1 p2 p3 i)), (0, .ref (md 0)), (1, .int p1), (2, .int p2), (3, .int p3)]) hx hb dX2_next_96 hl (by decide) rfl (fun ls hl => ?_)
                refine lv_iload hx hb dX2_next_98 (lv_at hl 0 rfl) ?_
                refine lv_if_eq (tgt := 129) hx hb dX2_next_100 (by decide) (fun c_16 => ?_) (fun c_16 => ?_)
                · refine lv_iinc (v := (nI (i + 1))) (lv' := [(5, .int (nI (i + 1))), (7, .int 0), (6, .int 1), (4, .int (um_nx G p1 p2 p3 i)), (0, .ref (md 0)), (1, .int p1), (2, .int p2), (3, .int p3)]) hx hb dX2_next_129 hl (k := 2) rfl (nI_1 i) (by decide) rfl (fun ls hl => ?_)
                  refine lv_goto (tgt := 6) hx hb dX2_next_132 (by decide) ?_
                  have ejc : p2.toNatClampNeg = j := by rw [ej]; exact nI_clamp (by omega)
                  have e9 : um_nx G p1 p2 p3 (i + 1) = (um_nx G p1 p2 p3 i) := by
                    rw [um_nx]
                    first | (simp only [um_may, um_later, ejc, eq_false c_3, eq_true c_12, eq_true c_13, eq_true c_15, eq_true c_16, if_true, if_false]; done) | (simp only [um_may, um_later, ejc, eq_false c_3, eq_true c_12, eq_true c_13, eq_true c_15, eq_true c_16, if_true, if_false]; simp only [eq_false c_3, eq_true c_12, eq_true c_13, eq_true c_15, eq_true c_16, if_true, if_false]; done) | (simp [um_may, um_later, ejc, c_3, c_12, c_13, c_15, c_16]; done)
                  exact ih (i + 1) _ _ _ (by omega) hP hS (by rw [e9]; exact lv_sub hl [0, 3, 4, 5, 6, 7] rfl)
                · exact absurd (by decide) c_16
              · refine lv_iload hx hb dX2_next_86 (lv_at hl 0 rfl) ?_
                refine lv_if_eq (tgt := 95) hx hb dX2_next_88 (by decide) (fun c_17 => ?_) (fun c_17 => ?_)
                · exact absurd c_17 (by decide)
                · refine lv_iconst (v := 1) hx hb dX2_next_91 (by decide) ?_
                  refine lv_goto (tgt := 96) hx hb dX2_next_92 (by decide) ?_
                  refine lv_istore (lv' := [(7, .int 1), (6, .int 1), (5, .int (nI i)), (4, .int (um_nx G p1 p2 p3 i)), (0, .ref (md 0)), (1, .int p1), (2, .int p2), (3, .int p3)]) hx hb dX2_next_96 hl (by decide) rfl (fun ls hl => ?_)
                  refine lv_iload hx hb dX2_next_98 (lv_at hl 0 rfl) ?_
                  refine lv_if_eq (tgt := 129) hx hb dX2_next_100 (by decide) (fun c_18 => ?_) (fun c_18 => ?_)
                  · exact absurd c_18 (by decide)
                  · refine lv_iload hx hb dX2_next_103 (lv_at hl 3 rfl) ?_
                    refine lv_if_lt (tgt := 125) hx hb dX2_next_105 (by decide) (fun c_19 => ?_) (fun c_19 => ?_)
                    · refine lv_iload hx hb dX2_next_125 (lv_at hl 2 rfl) ?_
                      refine lv_istore (lv' := [(4, .int (nI i)), (7, .int 1), (6, .int 1), (5, .int (nI i)), (0, .ref (md 0)), (1, .int p1), (2, .int p2), (3, .int p3)]) hx hb dX2_next_127 hl (by decide) rfl (fun ls hl => ?_)
                      refine lv_iinc (v := (nI (i + 1))) (lv' := [(5, .int (nI (i + 1))), (4, .int (nI i)), (7, .int 1), (6, .int 1), (0, .ref (md 0)), (1, .int p1), (2, .int p2), (3, .int p3)]) hx hb dX2_next_129 hl (k := 3) rfl (nI_1 i) (by decide) rfl (fun ls hl => ?_)
                      refine lv_goto (tgt := 6) hx hb dX2_next_132 (by decide) ?_
                      have ejc : p2.toNatClampNeg = j := by rw [ej]; exact nI_clamp (by omega)
                      have e9 : um_nx G p1 p2 p3 (i + 1) = (nI i) := by
                        rw [um_nx]
                        first | (simp only [um_may, um_later, ejc, eq_false c_3, eq_true c_12, eq_true c_13, eq_false c_15, eq_false c_17, eq_false c_18, eq_true c_19, if_true, if_false]; done) | (simp only [um_may, um_later, ejc, eq_false c_3, eq_true c_12, eq_true c_13, eq_false c_15, eq_false c_17, eq_false c_18, eq_true c_19, if_true, if_false]; simp only [eq_false c_3, eq_true c_12, eq_true c_13, eq_false c_15, eq_false c_17, eq_false c_18, eq_true c_19, if_true, if_false]; done) | (simp [um_may, um_later, ejc, c_3, c_12, c_13, c_15, c_17, c_18, c_19]; done)
                      exact ih (i + 1) _ _ _ (by omega) hP hS (by rw [e9]; exact lv_sub hl [0, 1, 4, 5, 6, 7] rfl)
                    · refine lv_aload_n hx hb dX2_next_108 rfl (lv_at hl 4 rfl) ?_
                      refine va_get (D := (dC, dI)) (ci := 2) (v := .ref (md 4)) (C := RX2) (T := TX2) (N := 23) hx hb htb us_inX2 hown hK hP 0 rfl rfl 6 (by decide) (htb _ mw_429) (fun _ h9 => h9) rfl dX2_next_109 ?_
                      refine lv_iload hx hb dX2_next_112 (lv_at hl 2 rfl) ?_
                      refine us_iald (f := (G 3)) hx hb hK hP 4 0 rfl rfl hi2 (by decide) dX2_next_114 ?_
                      refine lv_aload_n hx hb dX2_next_115 rfl (lv_at hl 4 rfl) ?_
                      refine va_get (D := (dC, dI)) (ci := 2) (v := .ref (md 4)) (C := RX2) (T := TX2) (N := 23) hx hb htb us_inX2 hown hK hP 0 rfl rfl 6 (by decide) (htb _ mw_429) (fun _ h9 => h9) rfl dX2_next_116 ?_
                      refine lv_iload hx hb dX2_next_119 (lv_at hl 3 rfl) ?_
                      obtain ⟨f, hf, ef⟩ := um_nx_in (by omega) c_19
                      have hf2 : f < 200 := by omega
                      refine lv_topi (fun i9 ei9 => ?_)
                      have ei9 := ei9.trans ef
                      subst ei9
                      refine us_iald (f := (G 3)) hx hb hK hP 4 0 rfl rfl hf2 (by decide) dX2_next_121 ?_
                      refine lv_icmp_ge (tgt := 129) hx hb dX2_next_122 (by decide) (fun c_20 => ?_) (fun c_20 => ?_)
                      · refine lv_iinc (v := (nI (i + 1))) (lv' := [(5, .int (nI (i + 1))), (7, .int 1), (6, .int 1), (4, .int (um_nx G p1 p2 p3 i)), (0, .ref (md 0)), (1, .int p1), (2, .int p2), (3, .int p3)]) hx hb dX2_next_129 hl (k := 2) rfl (nI_1 i) (by decide) rfl (fun ls hl => ?_)
                        refine lv_goto (tgt := 6) hx hb dX2_next_132 (by decide) ?_
                        have ejc : p2.toNatClampNeg = j := by rw [ej]; exact nI_clamp (by omega)
                        have efc : (um_nx G p1 p2 p3 i).toNatClampNeg = f := by rw [ef]; exact nI_clamp (by omega)
                        have e9 : um_nx G p1 p2 p3 (i + 1) = (um_nx G p1 p2 p3 i) := by
                          rw [um_nx]
                          first | (simp only [um_may, um_later, ejc, efc, eq_false c_3, eq_true c_12, eq_true c_13, eq_false c_15, eq_false c_17, eq_false c_18, eq_false c_19, eq_true c_20, if_true, if_false]; done) | (simp only [um_may, um_later, ejc, efc, eq_false c_3, eq_true c_12, eq_true c_13, eq_false c_15, eq_false c_17, eq_false c_18, eq_false c_19, eq_true c_20, if_true, if_false]; simp only [eq_false c_3, eq_true c_12, eq_true c_13, eq_false c_15, eq_false c_17, eq_false c_18, eq_false c_19, eq_true c_20, if_true, if_false]; done) | (simp [um_may, um_later, ejc, efc, c_3, c_12, c_13, c_15, c_17, c_18, c_19, c_20]; done)
                        exact ih (i + 1) _ _ _ (by omega) hP hS (by rw [e9]; exact lv_sub hl [0, 3, 4, 5, 6, 7] rfl)
                      · refine lv_iload hx hb dX2_next_125 (lv_at hl 2 rfl) ?_
                        refine lv_istore (lv' := [(4, .int (nI i)), (7, .int 1), (6, .int 1), (5, .int (nI i)), (0, .ref (md 0)), (1, .int p1), (2, .int p2), (3, .int p3)]) hx hb dX2_next_127 hl (by decide) rfl (fun ls hl => ?_)
                        refine lv_iinc (v := (nI (i + 1))) (lv' := [(5, .int (nI (i + 1))), (4, .int (nI i)), (7, .int 1), (6, .int 1), (0, .ref (md 0)), (1, .int p1), (2, .int p2), (3, .int p3)]) hx hb dX2_next_129 hl (k := 3) rfl (nI_1 i) (by decide) rfl (fun ls hl => ?_)
                        refine lv_goto (tgt := 6) hx hb dX2_next_132 (by decide) ?_
                        have ejc : p2.toNatClampNeg = j := by rw [ej]; exact nI_clamp (by omega)
                        have efc : (um_nx G p1 p2 p3 i).toNatClampNeg = f := by rw [ef]; exact nI_clamp (by omega)
                        have e9 : um_nx G p1 p2 p3 (i + 1) = (nI i) := by
                          rw [um_nx]
                          first | (simp only [um_may, um_later, ejc, efc, eq_false c_3, eq_true c_12, eq_true c_13, eq_false c_15, eq_false c_17, eq_false c_18, eq_false c_19, eq_false c_20, if_true, if_false]; done) | (simp only [um_may, um_later, ejc, efc, eq_false c_3, eq_true c_12, eq_true c_13, eq_false c_15, eq_false c_17, eq_false c_18, eq_false c_19, eq_false c_20, if_true, if_false]; simp only [eq_false c_3, eq_true c_12, eq_true c_13, eq_false c_15, eq_false c_17, eq_false c_18, eq_false c_19, eq_false c_20, if_true, if_false]; done) | (simp [um_may, um_later, ejc, efc, c_3, c_12, c_13, c_15, c_17, c_18, c_19, c_20]; done)
                        exact ih (i + 1) _ _ _ (by omega) hP hS (by rw [e9]; exact lv_sub hl [0, 1, 4, 5, 6, 7] rfl)
          · refine lv_aload_n hx hb dX2_next_35 rfl (lv_at hl 2 rfl) ?_
            refine va_get (D := (dC, dI)) (ci := 2) (v := .ref (md 4)) (C := RX2) (T := TX2) (N := 23) hx hb htb us_inX2 hown hK hP 0 rfl rfl 6 (by decide) (htb _ mw_429) (fun _ h9 => h9) rfl dX2_next_36 ?_
            refine lv_iload hx hb dX2_next_39 (lv_at hl 0 rfl) ?_
            refine us_iald (f := (G 3)) hx hb hK hP 4 0 rfl rfl hi2 (by decide) dX2_next_41 ?_
            refine lv_aload_n hx hb dX2_next_42 rfl (lv_at hl 2 rfl) ?_
            refine va_get (D := (dC, dI)) (ci := 2) (v := .ref (md 4)) (C := RX2) (T := TX2) (N := 23) hx hb htb us_inX2 hown hK hP 0 rfl rfl 6 (by decide) (htb _ mw_429) (fun _ h9 => h9) rfl dX2_next_43 ?_
            refine lv_iload_n hx hb dX2_next_46 rfl (lv_at hl 4 rfl) ?_
            refine lv_topi (fun i9 ei9 => ?_)
            have ei9 := ei9.trans ej
            subst ei9
            refine us_iald (f := (G 3)) hx hb hK hP 4 0 rfl rfl hj2 (by decide) dX2_next_47 ?_
            refine lv_icmp_ne (tgt := 61) hx hb dX2_next_48 (by decide) (fun c_21 => ?_) (fun c_21 => ?_)
            · refine lv_iconst (v := 0) hx hb dX2_next_61 (by decide) ?_
              refine lv_istore (lv' := [(6, .int 0), (5, .int (nI i)), (4, .int (um_nx G p1 p2 p3 i)), (0, .ref (md 0)), (1, .int p1), (2, .int p2), (3, .int p3)]) hx hb dX2_next_62 hl (by decide) rfl (fun ls hl => ?_)
              refine lv_aload_n hx hb dX2_next_64 rfl (lv_at hl 3 rfl) ?_
              refine va_get (D := (dC, dI)) (ci := 2) (v := .ref (md 3)) (C := RX2) (T := TX2) (N := 23) hx hb htb us_inX2 hown hK hP 0 rfl rfl 5 (by decide) (htb _ mw_428) (fun _ h9 => h9) rfl dX2_next_65 ?_
              refine lv_iload hx hb dX2_next_68 (lv_at hl 1 rfl) ?_
              refine us_iald (f := (G 2)) hx hb hK hP 3 0 rfl rfl hi2 (by decide) dX2_next_70 ?_
              refine lv_iload_n hx hb dX2_next_71 rfl (lv_at hl 4 rfl) ?_
              refine lv_icmp_ne (tgt := 95) hx hb dX2_next_72 (by decide) (fun c_22 => ?_) (fun c_22 => ?_)
              · refine lv_iconst (v := 0) hx hb dX2_next_95 (by decide) ?_
                refine lv_istore (lv' := [(7, .int 0), (6, .int 0), (5, .int (nI i)), (4, .int (um_nx G p1 p2 p3 i)), (0, .ref (md 0)), (1, .int p1), (2, .int p2), (3, .int p3)]) hx hb dX2_next_96 hl (by decide) rfl (fun ls hl => ?_)
                refine lv_iload hx hb dX2_next_98 (lv_at hl 0 rfl) ?_
                refine lv_if_eq (tgt := 129) hx hb dX2_next_100 (by decide) (fun c_23 => ?_) (fun c_23 => ?_)
                · refine lv_iinc (v := (nI (i + 1))) (lv' := [(5, .int (nI (i + 1))), (7, .int 0), (6, .int 0), (4, .int (um_nx G p1 p2 p3 i)), (0, .ref (md 0)), (1, .int p1), (2, .int p2), (3, .int p3)]) hx hb dX2_next_129 hl (k := 2) rfl (nI_1 i) (by decide) rfl (fun ls hl => ?_)
                  refine lv_goto (tgt := 6) hx hb dX2_next_132 (by decide) ?_
                  have ejc : p2.toNatClampNeg = j := by rw [ej]; exact nI_clamp (by omega)
                  have e9 : um_nx G p1 p2 p3 (i + 1) = (um_nx G p1 p2 p3 i) := by
                    rw [um_nx]
                    first | (simp only [um_may, um_later, ejc, eq_false c_3, eq_false c_12, eq_false c_21, eq_false c_22, eq_true c_23, if_true, if_false]; done) | (simp only [um_may, um_later, ejc, eq_false c_3, eq_false c_12, eq_false c_21, eq_false c_22, eq_true c_23, if_true, if_false]; simp only [eq_false c_3, eq_false c_12, eq_false c_21, eq_false c_22, eq_true c_23, if_true, if_false]; done) | (simp [um_may, um_later, ejc, c_3, c_12, c_21, c_22, c_23]; done)
                  exact ih (i + 1) _ _ _ (by omega) hP hS (by rw [e9]; exact lv_sub hl [0, 3, 4, 5, 6, 7] rfl)
                · exact absurd (by decide) c_23
              · refine lv_aload_n hx hb dX2_next_75 rfl (lv_at hl 3 rfl) ?_
                refine va_get (D := (dC, dI)) (ci := 2) (v := .ref (md 4)) (C := RX2) (T := TX2) (N := 23) hx hb htb us_inX2 hown hK hP 0 rfl rfl 6 (by decide) (htb _ mw_429) (fun _ h9 => h9) rfl dX2_next_76 ?_
                refine lv_iload hx hb dX2_next_79 (lv_at hl 1 rfl) ?_
                refine us_iald (f := (G 3)) hx hb hK hP 4 0 rfl rfl hi2 (by decide) dX2_next_81 ?_
                refine lv_iload_n hx hb dX2_next_82 rfl (lv_at hl 6 rfl) ?_
                refine lv_icmp_gt (tgt := 95) hx hb dX2_next_83 (by decide) (fun c_24 => ?_) (fun c_24 => ?_)
                · refine lv_iconst (v := 0) hx hb dX2_next_95 (by decide) ?_
                  refine lv_istore (lv' := [(7, .int 0), (6, .int 0), (5, .int (nI i)), (4, .int (um_nx G p1 p2 p3 i)), (0, .ref (md 0)), (1, .int p1), (2, .int p2), (3, .int p3)]) hx hb dX2_next_96 hl (by decide) rfl (fun ls hl => ?_)
                  refine lv_iload hx hb dX2_next_98 (lv_at hl 0 rfl) ?_
                  refine lv_if_eq (tgt := 129) hx hb dX2_next_100 (by decide) (fun c_25 => ?_) (fun c_25 => ?_)
                  · refine lv_iinc (v := (nI (i + 1))) (lv' := [(5, .int (nI (i + 1))), (7, .int 0), (6, .int 0), (4, .int (um_nx G p1 p2 p3 i)), (0, .ref (md 0)), (1, .int p1), (2, .int p2), (3, .int p3)]) hx hb dX2_next_129 hl (k := 2) rfl (nI_1 i) (by decide) rfl (fun ls hl => ?_)
                    refine lv_goto (tgt := 6) hx hb dX2_next_132 (by decide) ?_
                    have ejc : p2.toNatClampNeg = j := by rw [ej]; exact nI_clamp (by omega)
                    have e9 : um_nx G p1 p2 p3 (i + 1) = (um_nx G p1 p2 p3 i) := by
                      rw [um_nx]
                      first | (simp only [um_may, um_later, ejc, eq_false c_3, eq_false c_12, eq_false c_21, eq_true c_22, eq_true c_24, eq_true c_25, if_true, if_false]; done) | (simp only [um_may, um_later, ejc, eq_false c_3, eq_false c_12, eq_false c_21, eq_true c_22, eq_true c_24, eq_true c_25, if_true, if_false]; simp only [eq_false c_3, eq_false c_12, eq_false c_21, eq_true c_22, eq_true c_24, eq_true c_25, if_true, if_false]; done) | (simp [um_may, um_later, ejc, c_3, c_12, c_21, c_22, c_24, c_25]; done)
                    exact ih (i + 1) _ _ _ (by omega) hP hS (by rw [e9]; exact lv_sub hl [0, 3, 4, 5, 6, 7] rfl)
                  · exact absurd (by decide) c_25
                · refine lv_iload hx hb dX2_next_86 (lv_at hl 0 rfl) ?_
                  refine lv_if_eq (tgt := 95) hx hb dX2_next_88 (by decide) (fun c_26 => ?_) (fun c_26 => ?_)
                  · refine lv_iconst (v := 0) hx hb dX2_next_95 (by decide) ?_
                    refine lv_istore (lv' := [(7, .int 0), (6, .int 0), (5, .int (nI i)), (4, .int (um_nx G p1 p2 p3 i)), (0, .ref (md 0)), (1, .int p1), (2, .int p2), (3, .int p3)]) hx hb dX2_next_96 hl (by decide) rfl (fun ls hl => ?_)
                    refine lv_iload hx hb dX2_next_98 (lv_at hl 0 rfl) ?_
                    refine lv_if_eq (tgt := 129) hx hb dX2_next_100 (by decide) (fun c_27 => ?_) (fun c_27 => ?_)
                    · refine lv_iinc (v := (nI (i + 1))) (lv' := [(5, .int (nI (i + 1))), (7, .int 0), (6, .int 0), (4, .int (um_nx G p1 p2 p3 i)), (0, .ref (md 0)), (1, .int p1), (2, .int p2), (3, .int p3)]) hx hb dX2_next_129 hl (k := 2) rfl (nI_1 i) (by decide) rfl (fun ls hl => ?_)
                      refine lv_goto (tgt := 6) hx hb dX2_next_132 (by decide) ?_
                      have ejc : p2.toNatClampNeg = j := by rw [ej]; exact nI_clamp (by omega)
                      have e9 : um_nx G p1 p2 p3 (i + 1) = (um_nx G p1 p2 p3 i) := by
                        rw [um_nx]
                        first | (simp only [um_may, um_later, ejc, eq_false c_3, eq_false c_12, eq_false c_21, eq_true c_22, eq_false c_24, eq_true c_26, eq_true c_27, if_true, if_false]; done) | (simp only [um_may, um_later, ejc, eq_false c_3, eq_false c_12, eq_false c_21, eq_true c_22, eq_false c_24, eq_true c_26, eq_true c_27, if_true, if_false]; simp only [eq_false c_3, eq_false c_12, eq_false c_21, eq_true c_22, eq_false c_24, eq_true c_26, eq_true c_27, if_true, if_false]; done) | (simp [um_may, um_later, ejc, c_3, c_12, c_21, c_22, c_24, c_26, c_27]; done)
                      exact ih (i + 1) _ _ _ (by omega) hP hS (by rw [e9]; exact lv_sub hl [0, 3, 4, 5, 6, 7] rfl)
                    · exact absurd (by decide) c_27
                  · exact absurd (by decide) c_26
            · refine lv_iload hx hb dX2_next_51 (lv_at hl 0 rfl) ?_
              refine lv_iload_n hx hb dX2_next_53 rfl (lv_at hl 4 rfl) ?_
              refine lv_icmp_le (tgt := 61) hx hb dX2_next_54 (by decide) (fun c_28 => ?_) (fun c_28 => ?_)
              · refine lv_iconst (v := 0) hx hb dX2_next_61 (by decide) ?_
                refine lv_istore (lv' := [(6, .int 0), (5, .int (nI i)), (4, .int (um_nx G p1 p2 p3 i)), (0, .ref (md 0)), (1, .int p1), (2, .int p2), (3, .int p3)]) hx hb dX2_next_62 hl (by decide) rfl (fun ls hl => ?_)
                refine lv_aload_n hx hb dX2_next_64 rfl (lv_at hl 3 rfl) ?_
                refine va_get (D := (dC, dI)) (ci := 2) (v := .ref (md 3)) (C := RX2) (T := TX2) (N := 23) hx hb htb us_inX2 hown hK hP 0 rfl rfl 5 (by decide) (htb _ mw_428) (fun _ h9 => h9) rfl dX2_next_65 ?_
                refine lv_iload hx hb dX2_next_68 (lv_at hl 1 rfl) ?_
                refine us_iald (f := (G 2)) hx hb hK hP 3 0 rfl rfl hi2 (by decide) dX2_next_70 ?_
                refine lv_iload_n hx hb dX2_next_71 rfl (lv_at hl 4 rfl) ?_
                refine lv_icmp_ne (tgt := 95) hx hb dX2_next_72 (by decide) (fun c_29 => ?_) (fun c_29 => ?_)
                · refine lv_iconst (v := 0) hx hb dX2_next_95 (by decide) ?_
                  refine lv_istore (lv' := [(7, .int 0), (6, .int 0), (5, .int (nI i)), (4, .int (um_nx G p1 p2 p3 i)), (0, .ref (md 0)), (1, .int p1), (2, .int p2), (3, .int p3)]) hx hb dX2_next_96 hl (by decide) rfl (fun ls hl => ?_)
                  refine lv_iload hx hb dX2_next_98 (lv_at hl 0 rfl) ?_
                  refine lv_if_eq (tgt := 129) hx hb dX2_next_100 (by decide) (fun c_30 => ?_) (fun c_30 => ?_)
                  · refine lv_iinc (v := (nI (i + 1))) (lv' := [(5, .int (nI (i + 1))), (7, .int 0), (6, .int 0), (4, .int (um_nx G p1 p2 p3 i)), (0, .ref (md 0)), (1, .int p1), (2, .int p2), (3, .int p3)]) hx hb dX2_next_129 hl (k := 2) rfl (nI_1 i) (by decide) rfl (fun ls hl => ?_)
                    refine lv_goto (tgt := 6) hx hb dX2_next_132 (by decide) ?_
                    have ejc : p2.toNatClampNeg = j := by rw [ej]; exact nI_clamp (by omega)
                    have e9 : um_nx G p1 p2 p3 (i + 1) = (um_nx G p1 p2 p3 i) := by
                      rw [um_nx]
                      first | (simp only [um_may, um_later, ejc, eq_false c_3, eq_false c_12, eq_true c_21, eq_true c_28, eq_false c_29, eq_true c_30, if_true, if_false]; done) | (simp only [um_may, um_later, ejc, eq_false c_3, eq_false c_12, eq_true c_21, eq_true c_28, eq_false c_29, eq_true c_30, if_true, if_false]; simp only [eq_false c_3, eq_false c_12, eq_true c_21, eq_true c_28, eq_false c_29, eq_true c_30, if_true, if_false]; done) | (simp [um_may, um_later, ejc, c_3, c_12, c_21, c_28, c_29, c_30]; done)
                    exact ih (i + 1) _ _ _ (by omega) hP hS (by rw [e9]; exact lv_sub hl [0, 3, 4, 5, 6, 7] rfl)
                  · exact absurd (by decide) c_30
                · refine lv_aload_n hx hb dX2_next_75 rfl (lv_at hl 3 rfl) ?_
                  refine va_get (D := (dC, dI)) (ci := 2) (v := .ref (md 4)) (C := RX2) (T := TX2) (N := 23) hx hb htb us_inX2 hown hK hP 0 rfl rfl 6 (by decide) (htb _ mw_429) (fun _ h9 => h9) rfl dX2_next_76 ?_
                  refine lv_iload hx hb dX2_next_79 (lv_at hl 1 rfl) ?_
                  refine us_iald (f := (G 3)) hx hb hK hP 4 0 rfl rfl hi2 (by decide) dX2_next_81 ?_
                  refine lv_iload_n hx hb dX2_next_82 rfl (lv_at hl 6 rfl) ?_
                  refine lv_icmp_gt (tgt := 95) hx hb dX2_next_83 (by decide) (fun c_31 => ?_) (fun c_31 => ?_)
                  · refine lv_iconst (v := 0) hx hb dX2_next_95 (by decide) ?_
                    refine lv_istore (lv' := [(7, .int 0), (6, .int 0), (5, .int (nI i)), (4, .int (um_nx G p1 p2 p3 i)), (0, .ref (md 0)), (1, .int p1), (2, .int p2), (3, .int p3)]) hx hb dX2_next_96 hl (by decide) rfl (fun ls hl => ?_)
                    refine lv_iload hx hb dX2_next_98 (lv_at hl 0 rfl) ?_
                    refine lv_if_eq (tgt := 129) hx hb dX2_next_100 (by decide) (fun c_32 => ?_) (fun c_32 => ?_)
                    · refine lv_iinc (v := (nI (i + 1))) (lv' := [(5, .int (nI (i + 1))), (7, .int 0), (6, .int 0), (4, .int (um_nx G p1 p2 p3 i)), (0, .ref (md 0)), (1, .int p1), (2, .int p2), (3, .int p3)]) hx hb dX2_next_129 hl (k := 2) rfl (nI_1 i) (by decide) rfl (fun ls hl => ?_)
                      refine lv_goto (tgt := 6) hx hb dX2_next_132 (by decide) ?_
                      have ejc : p2.toNatClampNeg = j := by rw [ej]; exact nI_clamp (by omega)
                      have e9 : um_nx G p1 p2 p3 (i + 1) = (um_nx G p1 p2 p3 i) := by
                        rw [um_nx]
                        first | (simp only [um_may, um_later, ejc, eq_false c_3, eq_false c_12, eq_true c_21, eq_true c_28, eq_true c_29, eq_true c_31, eq_true c_32, if_true, if_false]; done) | (simp only [um_may, um_later, ejc, eq_false c_3, eq_false c_12, eq_true c_21, eq_true c_28, eq_true c_29, eq_true c_31, eq_true c_32, if_true, if_false]; simp only [eq_false c_3, eq_false c_12, eq_true c_21, eq_true c_28, eq_true c_29, eq_true c_31, eq_true c_32, if_true, if_false]; done) | (simp [um_may, um_later, ejc, c_3, c_12, c_21, c_28, c_29, c_31, c_32]; done)
                      exact ih (i + 1) _ _ _ (by omega) hP hS (by rw [e9]; exact lv_sub hl [0, 3, 4, 5, 6, 7] rfl)
                    · exact absurd (by decide) c_32
                  · refine lv_iload hx hb dX2_next_86 (lv_at hl 0 rfl) ?_
                    refine lv_if_eq (tgt := 95) hx hb dX2_next_88 (by decide) (fun c_33 => ?_) (fun c_33 => ?_)
                    · refine lv_iconst (v := 0) hx hb dX2_next_95 (by decide) ?_
                      refine lv_istore (lv' := [(7, .int 0), (6, .int 0), (5, .int (nI i)), (4, .int (um_nx G p1 p2 p3 i)), (0, .ref (md 0)), (1, .int p1), (2, .int p2), (3, .int p3)]) hx hb dX2_next_96 hl (by decide) rfl (fun ls hl => ?_)
                      refine lv_iload hx hb dX2_next_98 (lv_at hl 0 rfl) ?_
                      refine lv_if_eq (tgt := 129) hx hb dX2_next_100 (by decide) (fun c_34 => ?_) (fun c_34 => ?_)
                      · refine lv_iinc (v := (nI (i + 1))) (lv' := [(5, .int (nI (i + 1))), (7, .int 0), (6, .int 0), (4, .int (um_nx G p1 p2 p3 i)), (0, .ref (md 0)), (1, .int p1), (2, .int p2), (3, .int p3)]) hx hb dX2_next_129 hl (k := 2) rfl (nI_1 i) (by decide) rfl (fun ls hl => ?_)
                        refine lv_goto (tgt := 6) hx hb dX2_next_132 (by decide) ?_
                        have ejc : p2.toNatClampNeg = j := by rw [ej]; exact nI_clamp (by omega)
                        have e9 : um_nx G p1 p2 p3 (i + 1) = (um_nx G p1 p2 p3 i) := by
                          rw [um_nx]
                          first | (simp only [um_may, um_later, ejc, eq_false c_3, eq_false c_12, eq_true c_21, eq_true c_28, eq_true c_29, eq_false c_31, eq_true c_33, eq_true c_34, if_true, if_false]; done) | (simp only [um_may, um_later, ejc, eq_false c_3, eq_false c_12, eq_true c_21, eq_true c_28, eq_true c_29, eq_false c_31, eq_true c_33, eq_true c_34, if_true, if_false]; simp only [eq_false c_3, eq_false c_12, eq_true c_21, eq_true c_28, eq_true c_29, eq_false c_31, eq_true c_33, eq_true c_34, if_true, if_false]; done) | (simp [um_may, um_later, ejc, c_3, c_12, c_21, c_28, c_29, c_31, c_33, c_34]; done)
                        exact ih (i + 1) _ _ _ (by omega) hP hS (by rw [e9]; exact lv_sub hl [0, 3, 4, 5, 6, 7] rfl)
                      · exact absurd (by decide) c_34
                    · exact absurd (by decide) c_33
              · refine lv_iconst (v := 1) hx hb dX2_next_57 (by decide) ?_
                refine lv_goto (tgt := 62) hx hb dX2_next_58 (by decide) ?_
                refine lv_istore (lv' := [(6, .int 1), (5, .int (nI i)), (4, .int (um_nx G p1 p2 p3 i)), (0, .ref (md 0)), (1, .int p1), (2, .int p2), (3, .int p3)]) hx hb dX2_next_62 hl (by decide) rfl (fun ls hl => ?_)
                refine lv_aload_n hx hb dX2_next_64 rfl (lv_at hl 3 rfl) ?_
                refine va_get (D := (dC, dI)) (ci := 2) (v := .ref (md 3)) (C := RX2) (T := TX2) (N := 23) hx hb htb us_inX2 hown hK hP 0 rfl rfl 5 (by decide) (htb _ mw_428) (fun _ h9 => h9) rfl dX2_next_65 ?_
                refine lv_iload hx hb dX2_next_68 (lv_at hl 1 rfl) ?_
                refine us_iald (f := (G 2)) hx hb hK hP 3 0 rfl rfl hi2 (by decide) dX2_next_70 ?_
                refine lv_iload_n hx hb dX2_next_71 rfl (lv_at hl 4 rfl) ?_
                refine lv_icmp_ne (tgt := 95) hx hb dX2_next_72 (by decide) (fun c_35 => ?_) (fun c_35 => ?_)
                · refine lv_iconst (v := 0) hx hb dX2_next_95 (by decide) ?_
                  refine lv_istore (lv' := [(7, .int 0), (6, .int 1), (5, .int (nI i)), (4, .int (um_nx G p1 p2 p3 i)), (0, .ref (md 0)), (1, .int p1), (2, .int p2), (3, .int p3)]) hx hb dX2_next_96 hl (by decide) rfl (fun ls hl => ?_)
                  refine lv_iload hx hb dX2_next_98 (lv_at hl 0 rfl) ?_
                  refine lv_if_eq (tgt := 129) hx hb dX2_next_100 (by decide) (fun c_36 => ?_) (fun c_36 => ?_)
                  · refine lv_iinc (v := (nI (i + 1))) (lv' := [(5, .int (nI (i + 1))), (7, .int 0), (6, .int 1), (4, .int (um_nx G p1 p2 p3 i)), (0, .ref (md 0)), (1, .int p1), (2, .int p2), (3, .int p3)]) hx hb dX2_next_129 hl (k := 2) rfl (nI_1 i) (by decide) rfl (fun ls hl => ?_)
                    refine lv_goto (tgt := 6) hx hb dX2_next_132 (by decide) ?_
                    have ejc : p2.toNatClampNeg = j := by rw [ej]; exact nI_clamp (by omega)
                    have e9 : um_nx G p1 p2 p3 (i + 1) = (um_nx G p1 p2 p3 i) := by
                      rw [um_nx]
                      first | (simp only [um_may, um_later, ejc, eq_false c_3, eq_false c_12, eq_true c_21, eq_false c_28, eq_false c_35, eq_true c_36, if_true, if_false]; done) | (simp only [um_may, um_later, ejc, eq_false c_3, eq_false c_12, eq_true c_21, eq_false c_28, eq_false c_35, eq_true c_36, if_true, if_false]; simp only [eq_false c_3, eq_false c_12, eq_true c_21, eq_false c_28, eq_false c_35, eq_true c_36, if_true, if_false]; done) | (simp [um_may, um_later, ejc, c_3, c_12, c_21, c_28, c_35, c_36]; done)
                    exact ih (i + 1) _ _ _ (by omega) hP hS (by rw [e9]; exact lv_sub hl [0, 3, 4, 5, 6, 7] rfl)
                  · exact absurd (by decide) c_36
                · refine lv_aload_n hx hb dX2_next_75 rfl (lv_at hl 3 rfl) ?_
                  refine va_get (D := (dC, dI)) (ci := 2) (v := .ref (md 4)) (C := RX2) (T := TX2) (N := 23) hx hb htb us_inX2 hown hK hP 0 rfl rfl 6 (by decide) (htb _ mw_429) (fun _ h9 => h9) rfl dX2_next_76 ?_
                  refine lv_iload hx hb dX2_next_79 (lv_at hl 1 rfl) ?_
                  refine us_iald (f := (G 3)) hx hb hK hP 4 0 rfl rfl hi2 (by decide) dX2_next_81 ?_
                  refine lv_iload_n hx hb dX2_next_82 rfl (lv_at hl 6 rfl) ?_
                  refine lv_icmp_gt (tgt := 95) hx hb dX2_next_83 (by decide) (fun c_37 => ?_) (fun c_37 => ?_)
                  · refine lv_iconst (v := 0) hx hb dX2_next_95 (by decide) ?_
                    refine lv_istore (lv' := [(7, .int 0), (6, .int 1), (5, .int (nI i)), (4, .int (um_nx G p1 p2 p3 i)), (0, .ref (md 0)), (1, .int p1), (2, .int p2), (3, .int p3)]) hx hb dX2_next_96 hl (by decide) rfl (fun ls hl => ?_)
                    refine lv_iload hx hb dX2_next_98 (lv_at hl 0 rfl) ?_
                    refine lv_if_eq (tgt := 129) hx hb dX2_next_100 (by decide) (fun c_38 => ?_) (fun c_38 => ?_)
                    · refine lv_iinc (v := (nI (i + 1))) (lv' := [(5, .int (nI (i + 1))), (7, .int 0), (6, .int 1), (4, .int (um_nx G p1 p2 p3 i)), (0, .ref (md 0)), (1, .int p1), (2, .int p2), (3, .int p3)]) hx hb dX2_next_129 hl (k := 2) rfl (nI_1 i) (by decide) rfl (fun ls hl => ?_)
                      refine lv_goto (tgt := 6) hx hb dX2_next_132 (by decide) ?_
                      have ejc : p2.toNatClampNeg = j := by rw [ej]; exact nI_clamp (by omega)
                      have e9 : um_nx G p1 p2 p3 (i + 1) = (um_nx G p1 p2 p3 i) := by
                        rw [um_nx]
                        first | (simp only [um_may, um_later, ejc, eq_false c_3, eq_false c_12, eq_true c_21, eq_false c_28, eq_true c_35, eq_true c_37, eq_true c_38, if_true, if_false]; done) | (simp only [um_may, um_later, ejc, eq_false c_3, eq_false c_12, eq_true c_21, eq_false c_28, eq_true c_35, eq_true c_37, eq_true c_38, if_true, if_false]; simp only [eq_false c_3, eq_false c_12, eq_true c_21, eq_false c_28, eq_true c_35, eq_true c_37, eq_true c_38, if_true, if_false]; done) | (simp [um_may, um_later, ejc, c_3, c_12, c_21, c_28, c_35, c_37, c_38]; done)
                      exact ih (i + 1) _ _ _ (by omega) hP hS (by rw [e9]; exact lv_sub hl [0, 3, 4, 5, 6, 7] rfl)
                    · exact absurd (by decide) c_38
                  · refine lv_iload hx hb dX2_next_86 (lv_at hl 0 rfl) ?_
                    refine lv_if_eq (tgt := 95) hx hb dX2_next_88 (by decide) (fun c_39 => ?_) (fun c_39 => ?_)
                    · exact absurd c_39 (by decide)
                    · refine lv_iconst (v := 1) hx hb dX2_next_91 (by decide) ?_
                      refine lv_goto (tgt := 96) hx hb dX2_next_92 (by decide) ?_
                      refine lv_istore (lv' := [(7, .int 1), (6, .int 1), (5, .int (nI i)), (4, .int (um_nx G p1 p2 p3 i)), (0, .ref (md 0)), (1, .int p1), (2, .int p2), (3, .int p3)]) hx hb dX2_next_96 hl (by decide) rfl (fun ls hl => ?_)
                      refine lv_iload hx hb dX2_next_98 (lv_at hl 0 rfl) ?_
                      refine lv_if_eq (tgt := 129) hx hb dX2_next_100 (by decide) (fun c_40 => ?_) (fun c_40 => ?_)
                      · exact absurd c_40 (by decide)
                      · refine lv_iload hx hb dX2_next_103 (lv_at hl 3 rfl) ?_
                        refine lv_if_lt (tgt := 125) hx hb dX2_next_105 (by decide) (fun c_41 => ?_) (fun c_41 => ?_)
                        · refine lv_iload hx hb dX2_next_125 (lv_at hl 2 rfl) ?_
                          refine lv_istore (lv' := [(4, .int (nI i)), (7, .int 1), (6, .int 1), (5, .int (nI i)), (0, .ref (md 0)), (1, .int p1), (2, .int p2), (3, .int p3)]) hx hb dX2_next_127 hl (by decide) rfl (fun ls hl => ?_)
                          refine lv_iinc (v := (nI (i + 1))) (lv' := [(5, .int (nI (i + 1))), (4, .int (nI i)), (7, .int 1), (6, .int 1), (0, .ref (md 0)), (1, .int p1), (2, .int p2), (3, .int p3)]) hx hb dX2_next_129 hl (k := 3) rfl (nI_1 i) (by decide) rfl (fun ls hl => ?_)
                          refine lv_goto (tgt := 6) hx hb dX2_next_132 (by decide) ?_
                          have ejc : p2.toNatClampNeg = j := by rw [ej]; exact nI_clamp (by omega)
                          have e9 : um_nx G p1 p2 p3 (i + 1) = (nI i) := by
                            rw [um_nx]
                            first | (simp only [um_may, um_later, ejc, eq_false c_3, eq_false c_12, eq_true c_21, eq_false c_28, eq_true c_35, eq_false c_37, eq_false c_39, eq_false c_40, eq_true c_41, if_true, if_false]; done) | (simp only [um_may, um_later, ejc, eq_false c_3, eq_false c_12, eq_true c_21, eq_false c_28, eq_true c_35, eq_false c_37, eq_false c_39, eq_false c_40, eq_true c_41, if_true, if_false]; simp only [eq_false c_3, eq_false c_12, eq_true c_21, eq_false c_28, eq_true c_35, eq_false c_37, eq_false c_39, eq_false c_40, eq_true c_41, if_true, if_false]; done) | (simp [um_may, um_later, ejc, c_3, c_12, c_21, c_28, c_35, c_37, c_39, c_40, c_41]; done)
                          exact ih (i + 1) _ _ _ (by omega) hP hS (by rw [e9]; exact lv_sub hl [0, 1, 4, 5, 6, 7] rfl)
                        · refine lv_aload_n hx hb dX2_next_108 rfl (lv_at hl 4 rfl) ?_
                          refine va_get (D := (dC, dI)) (ci := 2) (v := .ref (md 4)) (C := RX2) (T := TX2) (N := 23) hx hb htb us_inX2 hown hK hP 0 rfl rfl 6 (by decide) (htb _ mw_429) (fun _ h9 => h9) rfl dX2_next_109 ?_
                          refine lv_iload hx hb dX2_next_112 (lv_at hl 2 rfl) ?_
                          refine us_iald (f := (G 3)) hx hb hK hP 4 0 rfl rfl hi2 (by decide) dX2_next_114 ?_
                          refine lv_aload_n hx hb dX2_next_115 rfl (lv_at hl 4 rfl) ?_
                          refine va_get (D := (dC, dI)) (ci := 2) (v := .ref (md 4)) (C := RX2) (T := TX2) (N := 23) hx hb htb us_inX2 hown hK hP 0 rfl rfl 6 (by decide) (htb _ mw_429) (fun _ h9 => h9) rfl dX2_next_116 ?_
                          refine lv_iload hx hb dX2_next_119 (lv_at hl 3 rfl) ?_
                          obtain ⟨f, hf, ef⟩ := um_nx_in (by omega) c_41
                          have hf2 : f < 200 := by omega
                          refine lv_topi (fun i9 ei9 => ?_)
                          have ei9 := ei9.trans ef
                          subst ei9
                          refine us_iald (f := (G 3)) hx hb hK hP 4 0 rfl rfl hf2 (by decide) dX2_next_121 ?_
                          refine lv_icmp_ge (tgt := 129) hx hb dX2_next_122 (by decide) (fun c_42 => ?_) (fun c_42 => ?_)
                          · refine lv_iinc (v := (nI (i + 1))) (lv' := [(5, .int (nI (i + 1))), (7, .int 1), (6, .int 1), (4, .int (um_nx G p1 p2 p3 i)), (0, .ref (md 0)), (1, .int p1), (2, .int p2), (3, .int p3)]) hx hb dX2_next_129 hl (k := 2) rfl (nI_1 i) (by decide) rfl (fun ls hl => ?_)
                            refine lv_goto (tgt := 6) hx hb dX2_next_132 (by decide) ?_
                            have ejc : p2.toNatClampNeg = j := by rw [ej]; exact nI_clamp (by omega)
                            have efc : (um_nx G p1 p2 p3 i).toNatClampNeg = f := by rw [ef]; exact nI_clamp (by omega)
                            have e9 : um_nx G p1 p2 p3 (i + 1) = (um_nx G p1 p2 p3 i) := by
                              rw [um_nx]
                              first | (simp only [um_may, um_later, ejc, efc, eq_false c_3, eq_false c_12, eq_true c_21, eq_false c_28, eq_true c_35, eq_false c_37, eq_false c_39, eq_false c_40, eq_false c_41, eq_true c_42, if_true, if_false]; done) | (simp only [um_may, um_later, ejc, efc, eq_false c_3, eq_false c_12, eq_true c_21, eq_false c_28, eq_true c_35, eq_false c_37, eq_false c_39, eq_false c_40, eq_false c_41, eq_true c_42, if_true, if_false]; simp only [eq_false c_3, eq_false c_12, eq_true c_21, eq_false c_28, eq_true c_35, eq_false c_37, eq_false c_39, eq_false c_40, eq_false c_41, eq_true c_42, if_true, if_false]; done) | (simp [um_may, um_later, ejc, efc, c_3, c_12, c_21, c_28, c_35, c_37, c_39, c_40, c_41, c_42]; done)
                            exact ih (i + 1) _ _ _ (by omega) hP hS (by rw [e9]; exact lv_sub hl [0, 3, 4, 5, 6, 7] rfl)
                          · refine lv_iload hx hb dX2_next_125 (lv_at hl 2 rfl) ?_
                            refine lv_istore (lv' := [(4, .int (nI i)), (7, .int 1), (6, .int 1), (5, .int (nI i)), (0, .ref (md 0)), (1, .int p1), (2, .int p2), (3, .int p3)]) hx hb dX2_next_127 hl (by decide) rfl (fun ls hl => ?_)
                            refine lv_iinc (v := (nI (i + 1))) (lv' := [(5, .int (nI (i + 1))), (4, .int (nI i)), (7, .int 1), (6, .int 1), (0, .ref (md 0)), (1, .int p1), (2, .int p2), (3, .int p3)]) hx hb dX2_next_129 hl (k := 3) rfl (nI_1 i) (by decide) rfl (fun ls hl => ?_)
                            refine lv_goto (tgt := 6) hx hb dX2_next_132 (by decide) ?_
                            have ejc : p2.toNatClampNeg = j := by rw [ej]; exact nI_clamp (by omega)
                            have efc : (um_nx G p1 p2 p3 i).toNatClampNeg = f := by rw [ef]; exact nI_clamp (by omega)
                            have e9 : um_nx G p1 p2 p3 (i + 1) = (nI i) := by
                              rw [um_nx]
                              first | (simp only [um_may, um_later, ejc, efc, eq_false c_3, eq_false c_12, eq_true c_21, eq_false c_28, eq_true c_35, eq_false c_37, eq_false c_39, eq_false c_40, eq_false c_41, eq_false c_42, if_true, if_false]; done) | (simp only [um_may, um_later, ejc, efc, eq_false c_3, eq_false c_12, eq_true c_21, eq_false c_28, eq_true c_35, eq_false c_37, eq_false c_39, eq_false c_40, eq_false c_41, eq_false c_42, if_true, if_false]; simp only [eq_false c_3, eq_false c_12, eq_true c_21, eq_false c_28, eq_true c_35, eq_false c_37, eq_false c_39, eq_false c_40, eq_false c_41, eq_false c_42, if_true, if_false]; done) | (simp [um_may, um_later, ejc, efc, c_3, c_12, c_21, c_28, c_35, c_37, c_39, c_40, c_41, c_42]; done)
                            exact ih (i + 1) _ _ _ (by omega) hP hS (by rw [e9]; exact lv_sub hl [0, 1, 4, 5, 6, 7] rfl)
  refine lv_iconst (v := (-1)) hx hb dX2_next_0 (by decide) ?_
  refine lv_istore (lv' := [(4, .int (-1)), (0, .ref (md 0)), (1, .int p1), (2, .int p2), (3, .int p3)]) hx hb dX2_next_1 hl (by decide) rfl (fun ls hl => ?_)
  refine lv_iconst (v := 0) hx hb dX2_next_3 (by decide) ?_
  refine lv_istore (lv' := [(5, .int 0), (4, .int (-1)), (0, .ref (md 0)), (1, .int p1), (2, .int p2), (3, .int p3)]) hx hb dX2_next_4 hl (by decide) rfl (fun ls hl => ?_)
  exact lp6 nm 0 _ _ _ (by omega) hP hS (lv_sub hl [0, 1, 2, 3, 4, 5] rfl)
set_option maxHeartbeats 8000000 in
set_option maxRecDepth 100000 in
theorem kt_X2_follow (l : Launch) (dC : Nat → ClassId) (dI : Nat → Nat → Nat) (md : Nat → Nat) (cI : ClassId) (sz : Nat) (th : Int32) (nu nm : Nat) (sk : Int32) (G : Nat → Nat → Int32) (v : Nat → Int32) (p1 : Nat) (p2 : Int32) (L : List Nat) (hp1 : p1 < 30) (hnm : nm ≤ 200) (hL : um_ok G nm L) : Met l yX2_follow wsX2_follow ({ frames := 3, cells := 0, slots := 0, locals := 66 }) (va_Pc [.ref (md 0), .int (nI p1), .int p2, .int (-1)] (um_P dC dI md cI th nu nm sk G v sz)) (va_Qv (fun _ : Unit => True) (fun _ t => um_B dC dI md cI th nu nm sk G (um_fol G L p1 p2 v) t) (us_AA (um_ads md) sz)) 0 0 (us_AA (um_ads md) sz) := by
  refine Met.ofW (cc := cX2_follow) (maxL := 6) (ret := none) (by decide) rfl ?_
  intro p e s m args below meth c s₁ B hml hv
  obtain ⟨rfl, hsz, hP, hK, hD⟩ := hv
  have hx := B.exec
  have hb := B.bytes
  have hr := B.returns
  have htb := us_htb (atoms_spec (ws := wsX2_follow) B.pre)
  have hown : s.vm.findClass RX2 = some m.cls := findClass_of_methodNamed B.named
  have hlocks := B.notSynchronized
  subst hsz
  have hA : ∀ q : Nat, s.heap.size ≤ q → (us_AA (um_ads md) s.heap.size) q := fun q h => Or.inr h
  have hS : va_S (us_AA (um_ads md) s.heap.size) s.heap s.heap [] := va_S.rf
  have hP : va_P (dC, dI) vwCl (um_W md cI th nu nm sk G v) s.heap := hP
  have hD : va_D (us_AA (um_ads md) s.heap.size) (um_W md cI th nu nm sk G v) := us_D_aa hD
  have hl := lv_entry ([.ref (md 0), .int (nI p1), .int p2, .int (-1)]) (n := 6) (Nat.le_of_ble_eq_true rfl)
  rw [lg_entry_eq]
  generalize (lg_sl ([.ref (md 0), .int (nI p1), .int p2, .int (-1)]) ++ List.replicate (6 - (lg_sl ([.ref (md 0), .int (nI p1), .int p2, .int (-1)])).length) Slot.unset).toArray = ls at hl ⊢
  have hl : lv_has ls 6 [(0, .ref (md 0)), (1, .int (nI p1)), (2, .int p2), (3, .int (-1))] := hl
  have lp91 : ∀ (T A0 : List Nat) (m0 : Nat) (w0 : Nat → Int32) (H : Heap) (locs : List Loc) (ls : Array Slot), um_ls G L p1 p2 = A0 ++ m0 :: T → um_spend (um_run G p1 (m0 :: T) w0) p2 = um_fol G L p1 p2 v → va_P (dC, dI) vwCl (um_W md cI th nu nm sk G w0) H → va_D (us_AA (um_ads md) s.heap.size) (um_W md cI th nu nm sk G w0) → va_S (us_AA (um_ads md) s.heap.size) s.heap H locs → lv_has ls 6 [(5, .int 1), (4, .int (nI m0)), (0, .ref (md 0)), (1, .int (nI p1)), (2, .int p2), (3, .int (-1))] → W p l e (headSpec wsX2_follow ({ frames := 3, cells := 0, slots := 0, locals := 66 })).room s m ([.ref (md 0), .int (nI p1), .int p2, .int (-1)]).toArray below meth c H locs 0 0 (MQ below (va_Qv (fun _ : Unit => True) (fun _ t => um_B dC dI md cI th nu nm sk G (um_fol G L p1 p2 v) t) (us_AA (um_ads md) s.heap.size)) ([.ref (md 0), .int (nI p1), .int p2, .int (-1)]).toArray s 0 0 (us_AA (um_ads md) s.heap.size)) (F0 m 91 ls []) := by
    intro T
    induction T with
    | nil =>
      intro A0 m0 w0 H locs ls hsp hR hP hD hS hl
      have hm0 : m0 < nm := ((um_ls_mem hL).mp (by rw [hsp]; simp)).1
      have hm2 : m0 < 200 := by omega
      refine lv_iload hx hb dX2_follow_91 (lv_at hl 0 rfl) ?_
      refine lv_if_eq (tgt := 156) hx hb dX2_follow_93 (by decide) (fun c_1 => ?_) (fun c_1 => ?_)
      · exact absurd c_1 (by decide)
      · refine lv_aload_n hx hb dX2_follow_96 rfl (lv_at hl 2 rfl) ?_
        refine lv_iload_n hx hb dX2_follow_97 rfl (lv_at hl 3 rfl) ?_
        refine lv_iload hx hb dX2_follow_98 (lv_at hl 1 rfl) ?_
        refine va_callv (va_runV (As := [.int (nI p1), .int (nI m0)]) (rest := []) ⟨hx, hb, hml, hown, htb⟩ (kt_X2_take l dC dI md cI H.size th nu nm sk G w0 p1 m0 hp1 hm2) (cwV 2 htb (us_gV mw_540 mw_542 mw_25 mw_34 mw_543) rfl rfl rfl (by decide +kernel) ⟨Nat.le_of_ble_eq_true rfl, Nat.le_of_ble_eq_true rfl⟩) ⟨um_P_blind, va_recv hK hP (ci := 2) (q0 := 0) rfl rfl, fun U hU hW => ⟨rfl, um_P_at hP hK hD hU hW⟩⟩ rfl rfl hl.1 rfl (lv_room (Nat.le_of_ble_eq_true rfl)) dX2_follow_100 ⟨Nat.le_of_ble_eq_true rfl, Nat.le_of_ble_eq_true rfl⟩) hS (fun q _ h => us_AA_le hS q h) (us_AA_le hS) (fun _ t_4 H_2 locs ht hvm hw hB hz1 hk1 hS => ?_)
        have hP := um_B_use ht hB
        have hD : va_D (us_AA (um_ads md) s.heap.size) (um_W md cI th nu nm sk G (um_take G p1 m0 w0)) := us_D_of (by rw [um_W_adr, um_W_adr]) hD
        have hP : va_P (dC, dI) vwCl (um_W md cI th nu nm sk G (um_take G p1 m0 w0)) H_2 := hP
        refine lv_iload hx hb dX2_follow_103 (lv_at hl 1 rfl) ?_
        refine lv_iload_n hx hb dX2_follow_105 rfl (lv_at hl 5 rfl) ?_
        refine lv_icmp_eq (tgt := 113) hx hb dX2_follow_106 (by decide) (fun c_5 => ?_) (fun c_5 => ?_)
        · exact absurd c_5 (um_ne_m1 hm2)
        · refine lv_iconst (v := 1) hx hb dX2_follow_109 (by decide) ?_
          refine lv_goto (tgt := 114) hx hb dX2_follow_110 (by decide) ?_
          refine lv_istore (lv' := [(5, .int 1), (4, .int (nI m0)), (0, .ref (md 0)), (1, .int (nI p1)), (2, .int p2), (3, .int (-1))]) hx hb dX2_follow_114 hl (by decide) rfl (fun ls hl => ?_)
          refine lv_iload hx hb dX2_follow_116 (lv_at hl 0 rfl) ?_
          refine lv_if_eq (tgt := 132) hx hb dX2_follow_118 (by decide) (fun c_6 => ?_) (fun c_6 => ?_)
          · exact absurd c_6 (by decide)
          · refine lv_aload_n hx hb dX2_follow_121 rfl (lv_at hl 2 rfl) ?_
            refine lv_iload_n hx hb dX2_follow_122 rfl (lv_at hl 3 rfl) ?_
            refine lv_iload hx hb dX2_follow_123 (lv_at hl 1 rfl) ?_
            refine lv_iload_n hx hb dX2_follow_125 rfl (lv_at hl 4 rfl) ?_
            refine va_calli (va_runV (As := [.int (nI p1), .int (nI m0), .int p2]) (rest := []) ⟨hx, hb, hml, hown, htb⟩ (kt_X2_next l dC dI md cI H_2.size th nu nm sk G (um_take G p1 m0 w0) (nI p1) (nI m0) p2 hnm (fun _ => ⟨m0, hm0, rfl⟩)) (cwV 3 htb (us_gV mw_536 mw_538 mw_24 mw_34 mw_539) rfl rfl rfl (by decide +kernel) ⟨Nat.le_of_ble_eq_true rfl, Nat.le_of_ble_eq_true rfl⟩) ⟨um_P_blind, va_recv hK hP (ci := 2) (q0 := 0) rfl rfl, fun U hU hW => ⟨rfl, um_P_at hP hK hD hU hW⟩⟩ rfl rfl hl.1 rfl (lv_room (Nat.le_of_ble_eq_true rfl)) dX2_follow_126 ⟨Nat.le_of_ble_eq_true rfl, Nat.le_of_ble_eq_true rfl⟩) hS (fun q h1 h2 => absurd h2 (Nat.not_le.mpr h1)) (fun q h => hA q (Nat.le_trans hS.1 h)) (fun r_8 _ t_9 H_7 locs ht hvm hw hB hz1 hk1 hS => ?_)
            subst hw
            have hP := us_mono hP (fun q h => hk1 q h (Nat.not_le.mpr h))
            refine lv_topi (fun i9 ei9 => ?_)
            have ei9 := ei9.trans (um_nx_at (A := A0) (T := []) hnm hL hsp)
            have ei9 : i9 = (-1) := ei9
            subst ei9
            refine lv_goto (tgt := 134) hx hb dX2_follow_129 (by decide) ?_
            refine lv_istore (lv' := [(4, .int (-1)), (5, .int 1), (0, .ref (md 0)), (1, .int (nI p1)), (2, .int p2), (3, .int (-1))]) hx hb dX2_follow_134 hl (by decide) rfl (fun ls hl => ?_)
            refine lv_iload hx hb dX2_follow_136 (lv_at hl 1 rfl) ?_
            refine lv_if_eq (tgt := 150) hx hb dX2_follow_138 (by decide) (fun c_10 => ?_) (fun c_10 => ?_)
            · exact absurd c_10 (by decide)
            · refine lv_iload hx hb dX2_follow_141 (lv_at hl 0 rfl) ?_
              refine lv_if_lt (tgt := 150) hx hb dX2_follow_143 (by decide) (fun c_11 => ?_) (fun c_11 => ?_)
              · refine lv_iconst (v := 0) hx hb dX2_follow_150 (by decide) ?_
                refine lv_istore (lv' := [(5, .int 0), (4, .int (-1)), (0, .ref (md 0)), (1, .int (nI p1)), (2, .int p2), (3, .int (-1))]) hx hb dX2_follow_151 hl (by decide) rfl (fun ls hl => ?_)
                refine lv_goto (tgt := 91) hx hb dX2_follow_153 (by decide) ?_
                refine lv_iload hx hb dX2_follow_91 (lv_at hl 0 rfl) ?_
                refine lv_if_eq (tgt := 156) hx hb dX2_follow_93 (by decide) (fun c_12 => ?_) (fun c_12 => ?_)
                · refine lv_iload_n hx hb dX2_follow_156 rfl (lv_at hl 5 rfl) ?_
                  refine lv_if_ge (tgt := 165) hx hb dX2_follow_157 (by decide) (fun c_13 => ?_) (fun c_13 => ?_)
                  · exact absurd c_13 (by decide)
                  · refine lv_aload_n hx hb dX2_follow_160 rfl (lv_at hl 2 rfl) ?_
                    refine lv_iload_n hx hb dX2_follow_161 rfl (lv_at hl 4 rfl) ?_
                    refine va_callv (va_runV (As := [.int p2]) (rest := []) ⟨hx, hb, hml, hown, htb⟩ (kt_X2_spend l dC dI md cI H_7.size th nu nm sk G (um_take G p1 m0 w0) p2) (cwV 1 htb (us_gV mw_551 mw_553 mw_27 mw_34 mw_554) rfl rfl rfl (by decide +kernel) ⟨Nat.le_of_ble_eq_true rfl, Nat.le_of_ble_eq_true rfl⟩) ⟨um_P_blind, va_recv hK hP (ci := 2) (q0 := 0) rfl rfl, fun U hU hW => ⟨rfl, um_P_at hP hK hD hU hW⟩⟩ rfl rfl hl.1 rfl (lv_room (Nat.le_of_ble_eq_true rfl)) dX2_follow_162 ⟨Nat.le_of_ble_eq_true rfl, Nat.le_of_ble_eq_true rfl⟩) hS (fun q _ h => us_AA_le hS q h) (us_AA_le hS) (fun _ t_16 H_14 locs ht hvm hw hB hz1 hk1 hS => ?_)
                    have hP := um_B_use ht hB
                    have hD : va_D (us_AA (um_ads md) s.heap.size) (um_W md cI th nu nm sk G (um_spend (um_take G p1 m0 w0) p2)) := us_D_of (by rw [um_W_adr, um_W_adr]) hD
                    have hP : va_P (dC, dI) vwCl (um_W md cI th nu nm sk G (um_spend (um_take G p1 m0 w0) p2)) H_14 := hP
                    exact W.vret hx hb hr (fun t ht hW => ⟨⟨(), rfl, trivial, um_B_of ht hP rfl rfl rfl rfl rfl hR⟩, hS.F ht⟩) hS.2.2 dX2_follow_165
                · exact absurd (by decide) c_12
              · exact absurd (by decide) c_11
    | cons m1 T ih =>
      intro A0 m0 w0 H locs ls hsp hR hP hD hS hl
      have hm0 : m0 < nm := ((um_ls_mem hL).mp (by rw [hsp]; simp)).1
      have hm2 : m0 < 200 := by omega
      have hm1 : m1 < nm := ((um_ls_mem hL).mp (by rw [hsp]; simp)).1
      have hm3 : m1 < 200 := by omega
      refine lv_iload hx hb dX2_follow_91 (lv_at hl 0 rfl) ?_
      refine lv_if_eq (tgt := 156) hx hb dX2_follow_93 (by decide) (fun c_17 => ?_) (fun c_17 => ?_)
      · exact absurd c_17 (by decide)
      · refine lv_aload_n hx hb dX2_follow_96 rfl (lv_at hl 2 rfl) ?_
        refine lv_iload_n hx hb dX2_follow_97 rfl (lv_at hl 3 rfl) ?_
        refine lv_iload hx hb dX2_follow_98 (lv_at hl 1 rfl) ?_
        refine va_callv (va_runV (As := [.int (nI p1), .int (nI m0)]) (rest := []) ⟨hx, hb, hml, hown, htb⟩ (kt_X2_take l dC dI md cI H.size th nu nm sk G w0 p1 m0 hp1 hm2) (cwV 2 htb (us_gV mw_540 mw_542 mw_25 mw_34 mw_543) rfl rfl rfl (by decide +kernel) ⟨Nat.le_of_ble_eq_true rfl, Nat.le_of_ble_eq_true rfl⟩) ⟨um_P_blind, va_recv hK hP (ci := 2) (q0 := 0) rfl rfl, fun U hU hW => ⟨rfl, um_P_at hP hK hD hU hW⟩⟩ rfl rfl hl.1 rfl (lv_room (Nat.le_of_ble_eq_true rfl)) dX2_follow_100 ⟨Nat.le_of_ble_eq_true rfl, Nat.le_of_ble_eq_true rfl⟩) hS (fun q _ h => us_AA_le hS q h) (us_AA_le hS) (fun _ t_20 H_18 locs ht hvm hw hB hz1 hk1 hS => ?_)
        have hP := um_B_use ht hB
        have hD : va_D (us_AA (um_ads md) s.heap.size) (um_W md cI th nu nm sk G (um_take G p1 m0 w0)) := us_D_of (by rw [um_W_adr, um_W_adr]) hD
        have hP : va_P (dC, dI) vwCl (um_W md cI th nu nm sk G (um_take G p1 m0 w0)) H_18 := hP
        refine lv_iload hx hb dX2_follow_103 (lv_at hl 1 rfl) ?_
        refine lv_iload_n hx hb dX2_follow_105 rfl (lv_at hl 5 rfl) ?_
        refine lv_icmp_eq (tgt := 113) hx hb dX2_follow_106 (by decide) (fun c_21 => ?_) (fun c_21 => ?_)
        · exact absurd c_21 (um_ne_m1 hm2)
        · refine lv_iconst (v := 1) hx hb dX2_follow_109 (by decide) ?_
          refine lv_goto (tgt := 114) hx hb dX2_follow_110 (by decide) ?_
          refine lv_istore (lv' := [(5, .int 1), (4, .int (nI m0)), (0, .ref (md 0)), (1, .int (nI p1)), (2, .int p2), (3, .int (-1))]) hx hb dX2_follow_114 hl (by decide) rfl (fun ls hl => ?_)
          refine lv_iload hx hb dX2_follow_116 (lv_at hl 0 rfl) ?_
          refine lv_if_eq (tgt := 132) hx hb dX2_follow_118 (by decide) (fun c_22 => ?_) (fun c_22 => ?_)
          · exact absurd c_22 (by decide)
          · refine lv_aload_n hx hb dX2_follow_121 rfl (lv_at hl 2 rfl) ?_
            refine lv_iload_n hx hb dX2_follow_122 rfl (lv_at hl 3 rfl) ?_
            refine lv_iload hx hb dX2_follow_123 (lv_at hl 1 rfl) ?_
            refine lv_iload_n hx hb dX2_follow_125 rfl (lv_at hl 4 rfl) ?_
            refine va_calli (va_runV (As := [.int (nI p1), .int (nI m0), .int p2]) (rest := []) ⟨hx, hb, hml, hown, htb⟩ (kt_X2_next l dC dI md cI H_18.size th nu nm sk G (um_take G p1 m0 w0) (nI p1) (nI m0) p2 hnm (fun _ => ⟨m0, hm0, rfl⟩)) (cwV 3 htb (us_gV mw_536 mw_538 mw_24 mw_34 mw_539) rfl rfl rfl (by decide +kernel) ⟨Nat.le_of_ble_eq_true rfl, Nat.le_of_ble_eq_true rfl⟩) ⟨um_P_blind, va_recv hK hP (ci := 2) (q0 := 0) rfl rfl, fun U hU hW => ⟨rfl, um_P_at hP hK hD hU hW⟩⟩ rfl rfl hl.1 rfl (lv_room (Nat.le_of_ble_eq_true rfl)) dX2_follow_126 ⟨Nat.le_of_ble_eq_true rfl, Nat.le_of_ble_eq_true rfl⟩) hS (fun q h1 h2 => absurd h2 (Nat.not_le.mpr h1)) (fun q h => hA q (Nat.le_trans hS.1 h)) (fun r_24 _ t_25 H_23 locs ht hvm hw hB hz1 hk1 hS => ?_)
            subst hw
            have hP := us_mono hP (fun q h => hk1 q h (Nat.not_le.mpr h))
            refine lv_topi (fun i9 ei9 => ?_)
            have ei9 := ei9.trans (um_nx_at (A := A0) (T := (m1 :: T)) hnm hL hsp)
            have ei9 : i9 = (nI m1) := ei9
            subst ei9
            refine lv_goto (tgt := 134) hx hb dX2_follow_129 (by decide) ?_
            refine lv_istore (lv' := [(4, .int (nI m1)), (5, .int 1), (0, .ref (md 0)), (1, .int (nI p1)), (2, .int p2), (3, .int (-1))]) hx hb dX2_follow_134 hl (by decide) rfl (fun ls hl => ?_)
            refine lv_iload hx hb dX2_follow_136 (lv_at hl 1 rfl) ?_
            refine lv_if_eq (tgt := 150) hx hb dX2_follow_138 (by decide) (fun c_26 => ?_) (fun c_26 => ?_)
            · exact absurd c_26 (by decide)
            · refine lv_iload hx hb dX2_follow_141 (lv_at hl 0 rfl) ?_
              refine lv_if_lt (tgt := 150) hx hb dX2_follow_143 (by decide) (fun c_27 => ?_) (fun c_27 => ?_)
              · exact absurd c_27 (um_hd_pos hm3)
              · refine lv_iconst (v := 1) hx hb dX2_follow_146 (by decide) ?_
                refine lv_goto (tgt := 151) hx hb dX2_follow_147 (by decide) ?_
                refine lv_istore (lv' := [(5, .int 1), (4, .int (nI m1)), (0, .ref (md 0)), (1, .int (nI p1)), (2, .int p2), (3, .int (-1))]) hx hb dX2_follow_151 hl (by decide) rfl (fun ls hl => ?_)
                refine lv_goto (tgt := 91) hx hb dX2_follow_153 (by decide) ?_
                exact ih (A0 ++ [m0]) m1 _ _ _ _ (by rw [hsp]; simp) hR hP hD hS (lv_sub hl [0, 1, 2, 3, 4, 5] rfl)
  refine lv_aload_n hx hb dX2_follow_0 rfl (lv_at hl 0 rfl) ?_
  refine lv_iconst (v := 0) hx hb dX2_follow_1 (by decide) ?_
  refine um_put hx hb htb us_inX2 hown hK hP hD hS 0 (by decide) (htb _ mw_433) dX2_follow_2 (fun H_28 locs hP hD hS => ?_)
  have hP : va_P (dC, dI) vwCl (um_W md cI th nu nm sk G (upd v 0 0)) H_28 := hP
  have hD : va_D (us_AA (um_ads md) s.heap.size) (um_W md cI th nu nm sk G (upd v 0 0)) := hD
  refine lv_aload_n hx hb dX2_follow_5 rfl (lv_at hl 0 rfl) ?_
  refine lv_iconst (v := 0) hx hb dX2_follow_6 (by decide) ?_
  refine um_put hx hb htb us_inX2 hown hK hP hD hS 1 (by decide) (htb _ mw_434) dX2_follow_7 (fun H_29 locs hP hD hS => ?_)
  have hP : va_P (dC, dI) vwCl (um_W md cI th nu nm sk G (upd (upd v 0 0) 1 0)) H_29 := hP
  have hD : va_D (us_AA (um_ads md) s.heap.size) (um_W md cI th nu nm sk G (upd (upd v 0 0) 1 0)) := hD
  refine lv_aload_n hx hb dX2_follow_10 rfl (lv_at hl 0 rfl) ?_
  refine lv_aload_n hx hb dX2_follow_11 rfl (lv_at hl 0 rfl) ?_
  refine va_get (D := (dC, dI)) (ci := 2) (v := .ref (md 1)) (C := RX2) (T := TX2) (N := 23) hx hb htb us_inX2 hown hK hP 0 rfl rfl 2 (by decide) (htb _ mw_425) (fun _ h9 => h9) rfl dX2_follow_12 ?_
  refine lv_iload_n hx hb dX2_follow_15 rfl (lv_at hl 1 rfl) ?_
  refine us_iald (f := (G 0)) hx hb hK hP 1 0 rfl rfl hp1 (by decide) dX2_follow_16 ?_
  refine um_put hx hb htb us_inX2 hown hK hP hD hS 2 (by decide) (htb _ mw_435) dX2_follow_17 (fun H_30 locs hP hD hS => ?_)
  have hP : va_P (dC, dI) vwCl (um_W md cI th nu nm sk G (upd (upd (upd v 0 0) 1 0) 2 (G 0 p1))) H_30 := hP
  have hD : va_D (us_AA (um_ads md) s.heap.size) (um_W md cI th nu nm sk G (upd (upd (upd v 0 0) 1 0) 2 (G 0 p1))) := hD
  refine lv_aload_n hx hb dX2_follow_20 rfl (lv_at hl 0 rfl) ?_
  refine lv_iconst (v := (-1)) hx hb dX2_follow_21 (by decide) ?_
  refine um_put hx hb htb us_inX2 hown hK hP hD hS 3 (by decide) (htb _ mw_436) dX2_follow_22 (fun H_31 locs hP hD hS => ?_)
  have hP : va_P (dC, dI) vwCl (um_W md cI th nu nm sk G (upd (upd (upd (upd v 0 0) 1 0) 2 (G 0 p1)) 3 (-1))) H_31 := hP
  have hD : va_D (us_AA (um_ads md) s.heap.size) (um_W md cI th nu nm sk G (upd (upd (upd (upd v 0 0) 1 0) 2 (G 0 p1)) 3 (-1))) := hD
  refine lv_aload_n hx hb dX2_follow_25 rfl (lv_at hl 0 rfl) ?_
  refine lv_aload_n hx hb dX2_follow_26 rfl (lv_at hl 0 rfl) ?_
  refine va_get (D := (dC, dI)) (ci := 2) (v := .ref (md 2)) (C := RX2) (T := TX2) (N := 23) hx hb htb us_inX2 hown hK hP 0 rfl rfl 3 (by decide) (htb _ mw_426) (fun _ h9 => h9) rfl dX2_follow_27 ?_
  refine lv_iload_n hx hb dX2_follow_30 rfl (lv_at hl 1 rfl) ?_
  refine us_iald (f := (G 1)) hx hb hK hP 2 0 rfl rfl hp1 (by decide) dX2_follow_31 ?_
  refine um_put hx hb htb us_inX2 hown hK hP hD hS 4 (by decide) (htb _ mw_437) dX2_follow_32 (fun H_32 locs hP hD hS => ?_)
  have hP : va_P (dC, dI) vwCl (um_W md cI th nu nm sk G (upd (upd (upd (upd (upd v 0 0) 1 0) 2 (G 0 p1)) 3 (-1)) 4 (G 1 p1))) H_32 := hP
  have hD : va_D (us_AA (um_ads md) s.heap.size) (um_W md cI th nu nm sk G (upd (upd (upd (upd (upd v 0 0) 1 0) 2 (G 0 p1)) 3 (-1)) 4 (G 1 p1))) := hD
  refine lv_aload_n hx hb dX2_follow_35 rfl (lv_at hl 0 rfl) ?_
  refine lv_iconst (v := 0) hx hb dX2_follow_36 (by decide) ?_
  refine um_put hx hb htb us_inX2 hown hK hP hD hS 5 (by decide) (htb _ mw_438) dX2_follow_37 (fun H_33 locs hP hD hS => ?_)
  have hP : va_P (dC, dI) vwCl (um_W md cI th nu nm sk G (upd (upd (upd (upd (upd (upd v 0 0) 1 0) 2 (G 0 p1)) 3 (-1)) 4 (G 1 p1)) 5 0)) H_33 := hP
  have hD : va_D (us_AA (um_ads md) s.heap.size) (um_W md cI th nu nm sk G (upd (upd (upd (upd (upd (upd v 0 0) 1 0) 2 (G 0 p1)) 3 (-1)) 4 (G 1 p1)) 5 0)) := hD
  refine lv_aload_n hx hb dX2_follow_40 rfl (lv_at hl 0 rfl) ?_
  refine lv_iconst (v := 1) hx hb dX2_follow_41 (by decide) ?_
  refine um_put hx hb htb us_inX2 hown hK hP hD hS 6 (by decide) (htb _ mw_439) dX2_follow_42 (fun H_34 locs hP hD hS => ?_)
  have hP : va_P (dC, dI) vwCl (um_W md cI th nu nm sk G (upd (upd (upd (upd (upd (upd (upd v 0 0) 1 0) 2 (G 0 p1)) 3 (-1)) 4 (G 1 p1)) 5 0) 6 1)) H_34 := hP
  have hD : va_D (us_AA (um_ads md) s.heap.size) (um_W md cI th nu nm sk G (upd (upd (upd (upd (upd (upd (upd v 0 0) 1 0) 2 (G 0 p1)) 3 (-1)) 4 (G 1 p1)) 5 0) 6 1)) := hD
  refine lv_aload_n hx hb dX2_follow_45 rfl (lv_at hl 0 rfl) ?_
  refine lv_iconst (v := 0) hx hb dX2_follow_46 (by decide) ?_
  refine um_put hx hb htb us_inX2 hown hK hP hD hS 7 (by decide) (htb _ mw_440) dX2_follow_47 (fun H_35 locs hP hD hS => ?_)
  have hP : va_P (dC, dI) vwCl (um_W md cI th nu nm sk G (upd (upd (upd (upd (upd (upd (upd (upd v 0 0) 1 0) 2 (G 0 p1)) 3 (-1)) 4 (G 1 p1)) 5 0) 6 1) 7 0)) H_35 := hP
  have hD : va_D (us_AA (um_ads md) s.heap.size) (um_W md cI th nu nm sk G (upd (upd (upd (upd (upd (upd (upd (upd v 0 0) 1 0) 2 (G 0 p1)) 3 (-1)) 4 (G 1 p1)) 5 0) 6 1) 7 0)) := hD
  refine lv_aload_n hx hb dX2_follow_50 rfl (lv_at hl 0 rfl) ?_
  refine lv_iconst (v := (-1)) hx hb dX2_follow_51 (by decide) ?_
  refine um_put hx hb htb us_inX2 hown hK hP hD hS 8 (by decide) (htb _ mw_441) dX2_follow_52 (fun H_36 locs hP hD hS => ?_)
  have hP : va_P (dC, dI) vwCl (um_W md cI th nu nm sk G (upd (upd (upd (upd (upd (upd (upd (upd (upd v 0 0) 1 0) 2 (G 0 p1)) 3 (-1)) 4 (G 1 p1)) 5 0) 6 1) 7 0) 8 (-1))) H_36 := hP
  have hD : va_D (us_AA (um_ads md) s.heap.size) (um_W md cI th nu nm sk G (upd (upd (upd (upd (upd (upd (upd (upd (upd v 0 0) 1 0) 2 (G 0 p1)) 3 (-1)) 4 (G 1 p1)) 5 0) 6 1) 7 0) 8 (-1))) := hD
  refine lv_aload_n hx hb dX2_follow_55 rfl (lv_at hl 0 rfl) ?_
  refine lv_iconst (v := (-1)) hx hb dX2_follow_56 (by decide) ?_
  refine um_put hx hb htb us_inX2 hown hK hP hD hS 9 (by decide) (htb _ mw_442) dX2_follow_57 (fun H_37 locs hP hD hS => ?_)
  have hP : va_P (dC, dI) vwCl (um_W md cI th nu nm sk G (upd (upd (upd (upd (upd (upd (upd (upd (upd (upd v 0 0) 1 0) 2 (G 0 p1)) 3 (-1)) 4 (G 1 p1)) 5 0) 6 1) 7 0) 8 (-1)) 9 (-1))) H_37 := hP
  have hD : va_D (us_AA (um_ads md) s.heap.size) (um_W md cI th nu nm sk G (upd (upd (upd (upd (upd (upd (upd (upd (upd (upd v 0 0) 1 0) 2 (G 0 p1)) 3 (-1)) 4 (G 1 p1)) 5 0) 6 1) 7 0) 8 (-1)) 9 (-1))) := hD
  refine lv_aload_n hx hb dX2_follow_60 rfl (lv_at hl 0 rfl) ?_
  refine lv_iconst (v := (-1)) hx hb dX2_follow_61 (by decide) ?_
  refine um_put hx hb htb us_inX2 hown hK hP hD hS 10 (by decide) (htb _ mw_443) dX2_follow_62 (fun H_38 locs hP hD hS => ?_)
  have hP : va_P (dC, dI) vwCl (um_W md cI th nu nm sk G (upd (upd (upd (upd (upd (upd (upd (upd (upd (upd (upd v 0 0) 1 0) 2 (G 0 p1)) 3 (-1)) 4 (G 1 p1)) 5 0) 6 1) 7 0) 8 (-1)) 9 (-1)) 10 (-1))) H_38 := hP
  have hD : va_D (us_AA (um_ads md) s.heap.size) (um_W md cI th nu nm sk G (upd (upd (upd (upd (upd (upd (upd (upd (upd (upd (upd v 0 0) 1 0) 2 (G 0 p1)) 3 (-1)) 4 (G 1 p1)) 5 0) 6 1) 7 0) 8 (-1)) 9 (-1)) 10 (-1))) := hD
  refine lv_aload_n hx hb dX2_follow_65 rfl (lv_at hl 0 rfl) ?_
  refine lv_iconst (v := (-1)) hx hb dX2_follow_66 (by decide) ?_
  refine um_put hx hb htb us_inX2 hown hK hP hD hS 11 (by decide) (htb _ mw_444) dX2_follow_67 (fun H_39 locs hP hD hS => ?_)
  have hP : va_P (dC, dI) vwCl (um_W md cI th nu nm sk G (upd (upd (upd (upd (upd (upd (upd (upd (upd (upd (upd (upd v 0 0) 1 0) 2 (G 0 p1)) 3 (-1)) 4 (G 1 p1)) 5 0) 6 1) 7 0) 8 (-1)) 9 (-1)) 10 (-1)) 11 (-1))) H_39 := hP
  have hD : va_D (us_AA (um_ads md) s.heap.size) (um_W md cI th nu nm sk G (upd (upd (upd (upd (upd (upd (upd (upd (upd (upd (upd (upd v 0 0) 1 0) 2 (G 0 p1)) 3 (-1)) 4 (G 1 p1)) 5 0) 6 1) 7 0) 8 (-1)) 9 (-1)) 10 (-1)) 11 (-1))) := hD
  refine lv_aload_n hx hb dX2_follow_70 rfl (lv_at hl 0 rfl) ?_
  refine lv_iload_n hx hb dX2_follow_71 rfl (lv_at hl 1 rfl) ?_
  refine lv_iconst (v := (-1)) hx hb dX2_follow_72 (by decide) ?_
  refine lv_iload_n hx hb dX2_follow_73 rfl (lv_at hl 2 rfl) ?_
  refine va_calli (va_runV (As := [.int (nI p1), .int (-1), .int p2]) (rest := []) ⟨hx, hb, hml, hown, htb⟩ (kt_X2_next l dC dI md cI H_39.size th nu nm sk G (upd (upd (upd (upd (upd (upd (upd (upd (upd (upd (upd (upd v 0 0) 1 0) 2 (G 0 p1)) 3 (-1)) 4 (G 1 p1)) 5 0) 6 1) 7 0) 8 (-1)) 9 (-1)) 10 (-1)) 11 (-1)) (nI p1) (-1) p2 hnm (fun h => absurd (by decide) h)) (cwV 3 htb (us_gV mw_536 mw_538 mw_24 mw_34 mw_539) rfl rfl rfl (by decide +kernel) ⟨Nat.le_of_ble_eq_true rfl, Nat.le_of_ble_eq_true rfl⟩) ⟨um_P_blind, va_recv hK hP (ci := 2) (q0 := 0) rfl rfl, fun U hU hW => ⟨rfl, um_P_at hP hK hD hU hW⟩⟩ rfl rfl hl.1 rfl (lv_room (Nat.le_of_ble_eq_true rfl)) dX2_follow_74 ⟨Nat.le_of_ble_eq_true rfl, Nat.le_of_ble_eq_true rfl⟩) hS (fun q h1 h2 => absurd h2 (Nat.not_le.mpr h1)) (fun q h => hA q (Nat.le_trans hS.1 h)) (fun r_41 _ t_42 H_40 locs ht hvm hw hB hz1 hk1 hS => ?_)
  subst hw
  have hP := us_mono hP (fun q h => hk1 q h (Nat.not_le.mpr h))
  refine lv_topi (fun i9 ei9 => ?_)
  have ei9 := ei9.trans (um_nx_0 hnm hL)
  rcases um_lcases (um_ls G L p1 p2) with hls | ⟨m0, T, hls⟩
  · rw [hls] at ei9
    have ei9 : i9 = -1 := ei9
    subst ei9
    refine lv_istore (lv' := [(4, .int (-1)), (0, .ref (md 0)), (1, .int (nI p1)), (2, .int p2), (3, .int (-1))]) hx hb dX2_follow_77 hl (by decide) rfl (fun ls hl => ?_)
    refine lv_iload hx hb dX2_follow_79 (lv_at hl 0 rfl) ?_
    refine lv_if_lt (tgt := 88) hx hb dX2_follow_81 (by decide) (fun c_43 => ?_) (fun c_43 => ?_)
    · refine lv_iconst (v := 0) hx hb dX2_follow_88 (by decide) ?_
      refine lv_istore (lv' := [(5, .int 0), (4, .int (-1)), (0, .ref (md 0)), (1, .int (nI p1)), (2, .int p2), (3, .int (-1))]) hx hb dX2_follow_89 hl (by decide) rfl (fun ls hl => ?_)
      refine lv_iload hx hb dX2_follow_91 (lv_at hl 0 rfl) ?_
      refine lv_if_eq (tgt := 156) hx hb dX2_follow_93 (by decide) (fun c_44 => ?_) (fun c_44 => ?_)
      · refine lv_iload_n hx hb dX2_follow_156 rfl (lv_at hl 5 rfl) ?_
        refine lv_if_ge (tgt := 165) hx hb dX2_follow_157 (by decide) (fun c_45 => ?_) (fun c_45 => ?_)
        · exact absurd c_45 (by decide)
        · refine lv_aload_n hx hb dX2_follow_160 rfl (lv_at hl 2 rfl) ?_
          refine lv_iload_n hx hb dX2_follow_161 rfl (lv_at hl 4 rfl) ?_
          refine va_callv (va_runV (As := [.int p2]) (rest := []) ⟨hx, hb, hml, hown, htb⟩ (kt_X2_spend l dC dI md cI H_40.size th nu nm sk G (upd (upd (upd (upd (upd (upd (upd (upd (upd (upd (upd (upd v 0 0) 1 0) 2 (G 0 p1)) 3 (-1)) 4 (G 1 p1)) 5 0) 6 1) 7 0) 8 (-1)) 9 (-1)) 10 (-1)) 11 (-1)) p2) (cwV 1 htb (us_gV mw_551 mw_553 mw_27 mw_34 mw_554) rfl rfl rfl (by decide +kernel) ⟨Nat.le_of_ble_eq_true rfl, Nat.le_of_ble_eq_true rfl⟩) ⟨um_P_blind, va_recv hK hP (ci := 2) (q0 := 0) rfl rfl, fun U hU hW => ⟨rfl, um_P_at hP hK hD hU hW⟩⟩ rfl rfl hl.1 rfl (lv_room (Nat.le_of_ble_eq_true rfl)) dX2_follow_162 ⟨Nat.le_of_ble_eq_true rfl, Nat.le_of_ble_eq_true rfl⟩) hS (fun q _ h => us_AA_le hS q h) (us_AA_le hS) (fun _ t_48 H_46 locs ht hvm hw hB hz1 hk1 hS => ?_)
          have hP := um_B_use ht hB
          have hD : va_D (us_AA (um_ads md) s.heap.size) (um_W md cI th nu nm sk G (um_spend (upd (upd (upd (upd (upd (upd (upd (upd (upd (upd (upd (upd v 0 0) 1 0) 2 (G 0 p1)) 3 (-1)) 4 (G 1 p1)) 5 0) 6 1) 7 0) 8 (-1)) 9 (-1)) 10 (-1)) 11 (-1)) p2)) := us_D_of (by rw [um_W_adr, um_W_adr]) hD
          have hP : va_P (dC, dI) vwCl (um_W md cI th nu nm sk G (um_spend (upd (upd (upd (upd (upd (upd (upd (upd (upd (upd (upd (upd v 0 0) 1 0) 2 (G 0 p1)) 3 (-1)) 4 (G 1 p1)) 5 0) 6 1) 7 0) 8 (-1)) 9 (-1)) 10 (-1)) 11 (-1)) p2)) H_46 := hP
          exact W.vret hx hb hr (fun t ht hW => ⟨⟨(), rfl, trivial, um_B_of ht hP rfl rfl rfl rfl rfl (by rw [um_fol, hls]; rfl)⟩, hS.F ht⟩) hS.2.2 dX2_follow_165
      · exact absurd (by decide) c_44
    · exact absurd (by decide) c_43
  · rw [hls] at ei9
    have ei9 : i9 = nI m0 := ei9
    subst ei9
    have hm0 : m0 < nm := ((um_ls_mem (j := p1) (t := p2) hL).mp (by rw [hls]; simp)).1
    refine lv_istore (lv' := [(4, .int (nI m0)), (0, .ref (md 0)), (1, .int (nI p1)), (2, .int p2), (3, .int (-1))]) hx hb dX2_follow_77 hl (by decide) rfl (fun ls hl => ?_)
    refine lv_iload hx hb dX2_follow_79 (lv_at hl 0 rfl) ?_
    refine lv_if_lt (tgt := 88) hx hb dX2_follow_81 (by decide) (fun c_49 => ?_) (fun c_49 => ?_)
    · exact absurd c_49 (um_hd_pos (by omega))
    · refine lv_iconst (v := 1) hx hb dX2_follow_84 (by decide) ?_
      refine lv_goto (tgt := 89) hx hb dX2_follow_85 (by decide) ?_
      refine lv_istore (lv' := [(5, .int 1), (4, .int (nI m0)), (0, .ref (md 0)), (1, .int (nI p1)), (2, .int p2), (3, .int (-1))]) hx hb dX2_follow_89 hl (by decide) rfl (fun ls hl => ?_)
      exact lp91 T [] m0 _ _ _ _ (by rw [hls]; rfl) (by rw [um_fol, hls]; rfl) hP hD hS (lv_sub hl [0, 1, 2, 3, 4, 5] rfl)
set_option maxHeartbeats 8000000 in
set_option maxRecDepth 100000 in
theorem kt_X2_followM (l : Launch) (dC : Nat → ClassId) (dI : Nat → Nat → Nat) (md : Nat → Nat) (cI : ClassId) (sz : Nat) (th : Int32) (nu nm : Nat) (sk : Int32) (G : Nat → Nat → Int32) (v : Nat → Int32) (p1 : Nat) (p2 : Int32) (p3 : Nat) (L : List Nat) (hp1 : p1 < 30) (hnm : nm ≤ 200) (hL : um_ok G nm L) (hmm : p3 ∈ um_ls G L p1 p2) (hp3 : p3 < 200) : Met l yX2_follow wsX2_follow ({ frames := 3, cells := 0, slots := 0, locals := 66 }) (va_Pc [.ref (md 0), .int (nI p1), .int p2, .int (nI p3)] (um_P dC dI md cI th nu nm sk G v sz)) (va_Qv (fun _ : Unit => True) (fun _ t => um_B dC dI md cI th nu nm sk G (um_run G p1 (um_upto p3 (um_ls G L p1 p2)) (um_init G p1 v)) t) (us_AA (um_ads md) sz)) 0 0 (us_AA (um_ads md) sz) := by
  refine Met.ofW (cc := cX2_follow) (maxL := 6) (ret := none) (by decide) rfl ?_
  intro p e s m args below meth c s₁ B hml hv
  obtain ⟨rfl, hsz, hP, hK, hD⟩ := hv
  have hx := B.exec
  have hb := B.bytes
  have hr := B.returns
  have htb := us_htb (atoms_spec (ws := wsX2_follow) B.pre)
  have hown : s.vm.findClass RX2 = some m.cls := findClass_of_methodNamed B.named
  have hlocks := B.notSynchronized
  subst hsz
  have hA : ∀ q : Nat, s.heap.size ≤ q → (us_AA (um_ads md) s.heap.size) q := fun q h => Or.inr h
  have hS : va_S (us_AA (um_ads md) s.heap.size) s.heap s.heap [] := va_S.rf
  have hP : va_P (dC, dI) vwCl (um_W md cI th nu nm sk G v) s.heap := hP
  have hD : va_D (us_AA (um_ads md) s.heap.size) (um_W md cI th nu nm sk G v) := us_D_aa hD
  have hl := lv_entry ([.ref (md 0), .int (nI p1), .int p2, .int (nI p3)]) (n := 6) (Nat.le_of_ble_eq_true rfl)
  rw [lg_entry_eq]
  generalize (lg_sl ([.ref (md 0), .int (nI p1), .int p2, .int (nI p3)]) ++ List.replicate (6 - (lg_sl ([.ref (md 0), .int (nI p1), .int p2, .int (nI p3)])).length) Slot.unset).toArray = ls at hl ⊢
  have hl : lv_has ls 6 [(0, .ref (md 0)), (1, .int (nI p1)), (2, .int p2), (3, .int (nI p3))] := hl
  have lp91 : ∀ (T A0 : List Nat) (m0 : Nat) (w0 : Nat → Int32) (H : Heap) (locs : List Loc) (ls : Array Slot), um_ls G L p1 p2 = A0 ++ m0 :: T → um_run G p1 (um_upto p3 (m0 :: T)) w0 = um_run G p1 (um_upto p3 (um_ls G L p1 p2)) (um_init G p1 v) → p3 ∈ m0 :: T → va_P (dC, dI) vwCl (um_W md cI th nu nm sk G w0) H → va_D (us_AA (um_ads md) s.heap.size) (um_W md cI th nu nm sk G w0) → va_S (us_AA (um_ads md) s.heap.size) s.heap H locs → lv_has ls 6 [(5, .int 1), (4, .int (nI m0)), (0, .ref (md 0)), (1, .int (nI p1)), (2, .int p2), (3, .int (nI p3))] → W p l e (headSpec wsX2_follow ({ frames := 3, cells := 0, slots := 0, locals := 66 })).room s m ([.ref (md 0), .int (nI p1), .int p2, .int (nI p3)]).toArray below meth c H locs 0 0 (MQ below (va_Qv (fun _ : Unit => True) (fun _ t => um_B dC dI md cI th nu nm sk G (um_run G p1 (um_upto p3 (um_ls G L p1 p2)) (um_init G p1 v)) t) (us_AA (um_ads md) s.heap.size)) ([.ref (md 0), .int (nI p1), .int p2, .int (nI p3)]).toArray s 0 0 (us_AA (um_ads md) s.heap.size)) (F0 m 91 ls []) := by
    intro T
    induction T with
    | nil =>
      intro A0 m0 w0 H locs ls hsp hR hmem hP hD hS hl
      have hm0 : m0 < nm := ((um_ls_mem hL).mp (by rw [hsp]; simp)).1
      have hm2 : m0 < 200 := by omega
      by_cases hne : m0 = p3
      · subst hne
        refine lv_iload hx hb dX2_follow_91 (lv_at hl 0 rfl) ?_
        refine lv_if_eq (tgt := 156) hx hb dX2_follow_93 (by decide) (fun c_1 => ?_) (fun c_1 => ?_)
        · exact absurd c_1 (by decide)
        · refine lv_aload_n hx hb dX2_follow_96 rfl (lv_at hl 2 rfl) ?_
          refine lv_iload_n hx hb dX2_follow_97 rfl (lv_at hl 3 rfl) ?_
          refine lv_iload hx hb dX2_follow_98 (lv_at hl 1 rfl) ?_
          refine va_callv (va_runV (As := [.int (nI p1), .int (nI m0)]) (rest := []) ⟨hx, hb, hml, hown, htb⟩ (kt_X2_take l dC dI md cI H.size th nu nm sk G w0 p1 m0 hp1 hm2) (cwV 2 htb (us_gV mw_540 mw_542 mw_25 mw_34 mw_543) rfl rfl rfl (by decide +kernel) ⟨Nat.le_of_ble_eq_true rfl, Nat.le_of_ble_eq_true rfl⟩) ⟨um_P_blind, va_recv hK hP (ci := 2) (q0 := 0) rfl rfl, fun U hU hW => ⟨rfl, um_P_at hP hK hD hU hW⟩⟩ rfl rfl hl.1 rfl (lv_room (Nat.le_of_ble_eq_true rfl)) dX2_follow_100 ⟨Nat.le_of_ble_eq_true rfl, Nat.le_of_ble_eq_true rfl⟩) hS (fun q _ h => us_AA_le hS q h) (us_AA_le hS) (fun _ t_4 H_2 locs ht hvm hw hB hz1 hk1 hS => ?_)
          have hP := um_B_use ht hB
          have hD : va_D (us_AA (um_ads md) s.heap.size) (um_W md cI th nu nm sk G (um_take G p1 m0 w0)) := us_D_of (by rw [um_W_adr, um_W_adr]) hD
          have hP : va_P (dC, dI) vwCl (um_W md cI th nu nm sk G (um_take G p1 m0 w0)) H_2 := hP
          refine lv_iload hx hb dX2_follow_103 (lv_at hl 1 rfl) ?_
          refine lv_iload_n hx hb dX2_follow_105 rfl (lv_at hl 5 rfl) ?_
          refine lv_icmp_eq (tgt := 113) hx hb dX2_follow_106 (by decide) (fun c_5 => ?_) (fun c_5 => ?_)
          · refine lv_iconst (v := 0) hx hb dX2_follow_113 (by decide) ?_
            refine lv_istore (lv' := [(5, .int 0), (4, .int (nI m0)), (0, .ref (md 0)), (1, .int (nI p1)), (2, .int p2), (3, .int (nI m0))]) hx hb dX2_follow_114 hl (by decide) rfl (fun ls hl => ?_)
            refine lv_iload hx hb dX2_follow_116 (lv_at hl 0 rfl) ?_
            refine lv_if_eq (tgt := 132) hx hb dX2_follow_118 (by decide) (fun c_6 => ?_) (fun c_6 => ?_)
            · refine lv_iload hx hb dX2_follow_132 (lv_at hl 1 rfl) ?_
              refine lv_istore (lv' := [(4, .int (nI m0)), (5, .int 0), (0, .ref (md 0)), (1, .int (nI p1)), (2, .int p2), (3, .int (nI m0))]) hx hb dX2_follow_134 hl (by decide) rfl (fun ls hl => ?_)
              refine lv_iload hx hb dX2_follow_136 (lv_at hl 1 rfl) ?_
              refine lv_if_eq (tgt := 150) hx hb dX2_follow_138 (by decide) (fun c_7 => ?_) (fun c_7 => ?_)
              · refine lv_iconst (v := 0) hx hb dX2_follow_150 (by decide) ?_
                refine lv_istore (lv' := [(5, .int 0), (4, .int (nI m0)), (0, .ref (md 0)), (1, .int (nI p1)), (2, .int p2), (3, .int (nI m0))]) hx hb dX2_follow_151 hl (by decide) rfl (fun ls hl => ?_)
                refine lv_goto (tgt := 91) hx hb dX2_follow_153 (by decide) ?_
                refine lv_iload hx hb dX2_follow_91 (lv_at hl 0 rfl) ?_
                refine lv_if_eq (tgt := 156) hx hb dX2_follow_93 (by decide) (fun c_8 => ?_) (fun c_8 => ?_)
                · refine lv_iload_n hx hb dX2_follow_156 rfl (lv_at hl 5 rfl) ?_
                  refine lv_if_ge (tgt := 165) hx hb dX2_follow_157 (by decide) (fun c_9 => ?_) (fun c_9 => ?_)
                  · exact W.vret hx hb hr (fun t ht hW => ⟨⟨(), rfl, trivial, um_B_of ht hP rfl rfl rfl rfl rfl (by rw [← hR, um_upto, if_pos rfl]; rfl)⟩, hS.F ht⟩) hS.2.2 dX2_follow_165
                  · exact absurd (nI_pos' (by omega)) c_9
                · exact absurd (by decide) c_8
              · exact absurd (by decide) c_7
            · exact absurd (by decide) c_6
          · exact absurd rfl c_5
      · exact absurd ((List.mem_cons.mp hmem).resolve_right (fun h => by cases h)).symm hne
    | cons m1 T ih =>
      intro A0 m0 w0 H locs ls hsp hR hmem hP hD hS hl
      have hm0 : m0 < nm := ((um_ls_mem hL).mp (by rw [hsp]; simp)).1
      have hm2 : m0 < 200 := by omega
      have hm1 : m1 < nm := ((um_ls_mem hL).mp (by rw [hsp]; simp)).1
      have hm3 : m1 < 200 := by omega
      by_cases hne : m0 = p3
      · subst hne
        refine lv_iload hx hb dX2_follow_91 (lv_at hl 0 rfl) ?_
        refine lv_if_eq (tgt := 156) hx hb dX2_follow_93 (by decide) (fun c_10 => ?_) (fun c_10 => ?_)
        · exact absurd c_10 (by decide)
        · refine lv_aload_n hx hb dX2_follow_96 rfl (lv_at hl 2 rfl) ?_
          refine lv_iload_n hx hb dX2_follow_97 rfl (lv_at hl 3 rfl) ?_
          refine lv_iload hx hb dX2_follow_98 (lv_at hl 1 rfl) ?_
          refine va_callv (va_runV (As := [.int (nI p1), .int (nI m0)]) (rest := []) ⟨hx, hb, hml, hown, htb⟩ (kt_X2_take l dC dI md cI H.size th nu nm sk G w0 p1 m0 hp1 hm2) (cwV 2 htb (us_gV mw_540 mw_542 mw_25 mw_34 mw_543) rfl rfl rfl (by decide +kernel) ⟨Nat.le_of_ble_eq_true rfl, Nat.le_of_ble_eq_true rfl⟩) ⟨um_P_blind, va_recv hK hP (ci := 2) (q0 := 0) rfl rfl, fun U hU hW => ⟨rfl, um_P_at hP hK hD hU hW⟩⟩ rfl rfl hl.1 rfl (lv_room (Nat.le_of_ble_eq_true rfl)) dX2_follow_100 ⟨Nat.le_of_ble_eq_true rfl, Nat.le_of_ble_eq_true rfl⟩) hS (fun q _ h => us_AA_le hS q h) (us_AA_le hS) (fun _ t_13 H_11 locs ht hvm hw hB hz1 hk1 hS => ?_)
          have hP := um_B_use ht hB
          have hD : va_D (us_AA (um_ads md) s.heap.size) (um_W md cI th nu nm sk G (um_take G p1 m0 w0)) := us_D_of (by rw [um_W_adr, um_W_adr]) hD
          have hP : va_P (dC, dI) vwCl (um_W md cI th nu nm sk G (um_take G p1 m0 w0)) H_11 := hP
          refine lv_iload hx hb dX2_follow_103 (lv_at hl 1 rfl) ?_
          refine lv_iload_n hx hb dX2_follow_105 rfl (lv_at hl 5 rfl) ?_
          refine lv_icmp_eq (tgt := 113) hx hb dX2_follow_106 (by decide) (fun c_14 => ?_) (fun c_14 => ?_)
          · refine lv_iconst (v := 0) hx hb dX2_follow_113 (by decide) ?_
            refine lv_istore (lv' := [(5, .int 0), (4, .int (nI m0)), (0, .ref (md 0)), (1, .int (nI p1)), (2, .int p2), (3, .int (nI m0))]) hx hb dX2_follow_114 hl (by decide) rfl (fun ls hl => ?_)
            refine lv_iload hx hb dX2_follow_116 (lv_at hl 0 rfl) ?_
            refine lv_if_eq (tgt := 132) hx hb dX2_follow_118 (by decide) (fun c_15 => ?_) (fun c_15 => ?_)
            · refine lv_iload hx hb dX2_follow_132 (lv_at hl 1 rfl) ?_
              refine lv_istore (lv' := [(4, .int (nI m0)), (5, .int 0), (0, .ref (md 0)), (1, .int (nI p1)), (2, .int p2), (3, .int (nI m0))]) hx hb dX2_follow_134 hl (by decide) rfl (fun ls hl => ?_)
              refine lv_iload hx hb dX2_follow_136 (lv_at hl 1 rfl) ?_
              refine lv_if_eq (tgt := 150) hx hb dX2_follow_138 (by decide) (fun c_16 => ?_) (fun c_16 => ?_)
              · refine lv_iconst (v := 0) hx hb dX2_follow_150 (by decide) ?_
                refine lv_istore (lv' := [(5, .int 0), (4, .int (nI m0)), (0, .ref (md 0)), (1, .int (nI p1)), (2, .int p2), (3, .int (nI m0))]) hx hb dX2_follow_151 hl (by decide) rfl (fun ls hl => ?_)
                refine lv_goto (tgt := 91) hx hb dX2_follow_153 (by decide) ?_
                refine lv_iload hx hb dX2_follow_91 (lv_at hl 0 rfl) ?_
                refine lv_if_eq (tgt := 156) hx hb dX2_follow_93 (by decide) (fun c_17 => ?_) (fun c_17 => ?_)
                · refine lv_iload_n hx hb dX2_follow_156 rfl (lv_at hl 5 rfl) ?_
                  refine lv_if_ge (tgt := 165) hx hb dX2_follow_157 (by decide) (fun c_18 => ?_) (fun c_18 => ?_)
                  · exact W.vret hx hb hr (fun t ht hW => ⟨⟨(), rfl, trivial, um_B_of ht hP rfl rfl rfl rfl rfl (by rw [← hR, um_upto, if_pos rfl]; rfl)⟩, hS.F ht⟩) hS.2.2 dX2_follow_165
                  · exact absurd (nI_pos' (by omega)) c_18
                · exact absurd (by decide) c_17
              · exact absurd (by decide) c_16
            · exact absurd (by decide) c_15
          · exact absurd rfl c_14
      · have hne2 : ¬ nI m0 = nI p3 := fun h => hne ((nI_eq (by omega) (by omega)).mp h)
        refine lv_iload hx hb dX2_follow_91 (lv_at hl 0 rfl) ?_
        refine lv_if_eq (tgt := 156) hx hb dX2_follow_93 (by decide) (fun c_19 => ?_) (fun c_19 => ?_)
        · exact absurd c_19 (by decide)
        · refine lv_aload_n hx hb dX2_follow_96 rfl (lv_at hl 2 rfl) ?_
          refine lv_iload_n hx hb dX2_follow_97 rfl (lv_at hl 3 rfl) ?_
          refine lv_iload hx hb dX2_follow_98 (lv_at hl 1 rfl) ?_
          refine va_callv (va_runV (As := [.int (nI p1), .int (nI m0)]) (rest := []) ⟨hx, hb, hml, hown, htb⟩ (kt_X2_take l dC dI md cI H.size th nu nm sk G w0 p1 m0 hp1 hm2) (cwV 2 htb (us_gV mw_540 mw_542 mw_25 mw_34 mw_543) rfl rfl rfl (by decide +kernel) ⟨Nat.le_of_ble_eq_true rfl, Nat.le_of_ble_eq_true rfl⟩) ⟨um_P_blind, va_recv hK hP (ci := 2) (q0 := 0) rfl rfl, fun U hU hW => ⟨rfl, um_P_at hP hK hD hU hW⟩⟩ rfl rfl hl.1 rfl (lv_room (Nat.le_of_ble_eq_true rfl)) dX2_follow_100 ⟨Nat.le_of_ble_eq_true rfl, Nat.le_of_ble_eq_true rfl⟩) hS (fun q _ h => us_AA_le hS q h) (us_AA_le hS) (fun _ t_22 H_20 locs ht hvm hw hB hz1 hk1 hS => ?_)
          have hP := um_B_use ht hB
          have hD : va_D (us_AA (um_ads md) s.heap.size) (um_W md cI th nu nm sk G (um_take G p1 m0 w0)) := us_D_of (by rw [um_W_adr, um_W_adr]) hD
          have hP : va_P (dC, dI) vwCl (um_W md cI th nu nm sk G (um_take G p1 m0 w0)) H_20 := hP
          refine lv_iload hx hb dX2_follow_103 (lv_at hl 1 rfl) ?_
          refine lv_iload_n hx hb dX2_follow_105 rfl (lv_at hl 5 rfl) ?_
          refine lv_icmp_eq (tgt := 113) hx hb dX2_follow_106 (by decide) (fun c_23 => ?_) (fun c_23 => ?_)
          · exact absurd c_23 hne2
          · refine lv_iconst (v := 1) hx hb dX2_follow_109 (by decide) ?_
            refine lv_goto (tgt := 114) hx hb dX2_follow_110 (by decide) ?_
            refine lv_istore (lv' := [(5, .int 1), (4, .int (nI m0)), (0, .ref (md 0)), (1, .int (nI p1)), (2, .int p2), (3, .int (nI p3))]) hx hb dX2_follow_114 hl (by decide) rfl (fun ls hl => ?_)
            refine lv_iload hx hb dX2_follow_116 (lv_at hl 0 rfl) ?_
            refine lv_if_eq (tgt := 132) hx hb dX2_follow_118 (by decide) (fun c_24 => ?_) (fun c_24 => ?_)
            · exact absurd c_24 (by decide)
            · refine lv_aload_n hx hb dX2_follow_121 rfl (lv_at hl 2 rfl) ?_
              refine lv_iload_n hx hb dX2_follow_122 rfl (lv_at hl 3 rfl) ?_
              refine lv_iload hx hb dX2_follow_123 (lv_at hl 1 rfl) ?_
              refine lv_iload_n hx hb dX2_follow_125 rfl (lv_at hl 4 rfl) ?_
              refine va_calli (va_runV (As := [.int (nI p1), .int (nI m0), .int p2]) (rest := []) ⟨hx, hb, hml, hown, htb⟩ (kt_X2_next l dC dI md cI H_20.size th nu nm sk G (um_take G p1 m0 w0) (nI p1) (nI m0) p2 hnm (fun _ => ⟨m0, hm0, rfl⟩)) (cwV 3 htb (us_gV mw_536 mw_538 mw_24 mw_34 mw_539) rfl rfl rfl (by decide +kernel) ⟨Nat.le_of_ble_eq_true rfl, Nat.le_of_ble_eq_true rfl⟩) ⟨um_P_blind, va_recv hK hP (ci := 2) (q0 := 0) rfl rfl, fun U hU hW => ⟨rfl, um_P_at hP hK hD hU hW⟩⟩ rfl rfl hl.1 rfl (lv_room (Nat.le_of_ble_eq_true rfl)) dX2_follow_126 ⟨Nat.le_of_ble_eq_true rfl, Nat.le_of_ble_eq_true rfl⟩) hS (fun q h1 h2 => absurd h2 (Nat.not_le.mpr h1)) (fun q h => hA q (Nat.le_trans hS.1 h)) (fun r_26 _ t_27 H_25 locs ht hvm hw hB hz1 hk1 hS => ?_)
              subst hw
              have hP := us_mono hP (fun q h => hk1 q h (Nat.not_le.mpr h))
              refine lv_topi (fun i9 ei9 => ?_)
              have ei9 := ei9.trans (um_nx_at (A := A0) (T := (m1 :: T)) hnm hL hsp)
              have ei9 : i9 = (nI m1) := ei9
              subst ei9
              refine lv_goto (tgt := 134) hx hb dX2_follow_129 (by decide) ?_
              refine lv_istore (lv' := [(4, .int (nI m1)), (5, .int 1), (0, .ref (md 0)), (1, .int (nI p1)), (2, .int p2), (3, .int (nI p3))]) hx hb dX2_follow_134 hl (by decide) rfl (fun ls hl => ?_)
              refine lv_iload hx hb dX2_follow_136 (lv_at hl 1 rfl) ?_
              refine lv_if_eq (tgt := 150) hx hb dX2_follow_138 (by decide) (fun c_28 => ?_) (fun c_28 => ?_)
              · exact absurd c_28 (by decide)
              · refine lv_iload hx hb dX2_follow_141 (lv_at hl 0 rfl) ?_
                refine lv_if_lt (tgt := 150) hx hb dX2_follow_143 (by decide) (fun c_29 => ?_) (fun c_29 => ?_)
                · exact absurd c_29 (um_hd_pos hm3)
                · refine lv_iconst (v := 1) hx hb dX2_follow_146 (by decide) ?_
                  refine lv_goto (tgt := 151) hx hb dX2_follow_147 (by decide) ?_
                  refine lv_istore (lv' := [(5, .int 1), (4, .int (nI m1)), (0, .ref (md 0)), (1, .int (nI p1)), (2, .int p2), (3, .int (nI p3))]) hx hb dX2_follow_151 hl (by decide) rfl (fun ls hl => ?_)
                  refine lv_goto (tgt := 91) hx hb dX2_follow_153 (by decide) ?_
                  have hR2 : um_run G p1 (um_upto p3 (m1 :: T)) (um_take G p1 m0 w0) = um_run G p1 (um_upto p3 (um_ls G L p1 p2)) (um_init G p1 v) := by
                    have e8 : um_upto p3 (m0 :: m1 :: T) = m0 :: um_upto p3 (m1 :: T) := by rw [um_upto, if_neg hne]
                    rw [← hR, e8]; rfl
                  exact ih (A0 ++ [m0]) m1 _ _ _ _ (by rw [hsp]; simp) hR2 ((List.mem_cons.mp hmem).resolve_left (fun h => hne h.symm)) hP hD hS (lv_sub hl [0, 1, 2, 3, 4, 5] rfl)
  refine lv_aload_n hx hb dX2_follow_0 rfl (lv_at hl 0 rfl) ?_
  refine lv_iconst (v := 0) hx hb dX2_follow_1 (by decide) ?_
  refine um_put hx hb htb us_inX2 hown hK hP hD hS 0 (by decide) (htb _ mw_433) dX2_follow_2 (fun H_30 locs hP hD hS => ?_)
  have hP : va_P (dC, dI) vwCl (um_W md cI th nu nm sk G (upd v 0 0)) H_30 := hP
  have hD : va_D (us_AA (um_ads md) s.heap.size) (um_W md cI th nu nm sk G (upd v 0 0)) := hD
  refine lv_aload_n hx hb dX2_follow_5 rfl (lv_at hl 0 rfl) ?_
  refine lv_iconst (v := 0) hx hb dX2_follow_6 (by decide) ?_
  refine um_put hx hb htb us_inX2 hown hK hP hD hS 1 (by decide) (htb _ mw_434) dX2_follow_7 (fun H_31 locs hP hD hS => ?_)
  have hP : va_P (dC, dI) vwCl (um_W md cI th nu nm sk G (upd (upd v 0 0) 1 0)) H_31 := hP
  have hD : va_D (us_AA (um_ads md) s.heap.size) (um_W md cI th nu nm sk G (upd (upd v 0 0) 1 0)) := hD
  refine lv_aload_n hx hb dX2_follow_10 rfl (lv_at hl 0 rfl) ?_
  refine lv_aload_n hx hb dX2_follow_11 rfl (lv_at hl 0 rfl) ?_
  refine va_get (D := (dC, dI)) (ci := 2) (v := .ref (md 1)) (C := RX2) (T := TX2) (N := 23) hx hb htb us_inX2 hown hK hP 0 rfl rfl 2 (by decide) (htb _ mw_425) (fun _ h9 => h9) rfl dX2_follow_12 ?_
  refine lv_iload_n hx hb dX2_follow_15 rfl (lv_at hl 1 rfl) ?_
  refine us_iald (f := (G 0)) hx hb hK hP 1 0 rfl rfl hp1 (by decide) dX2_follow_16 ?_
  refine um_put hx hb htb us_inX2 hown hK hP hD hS 2 (by decide) (htb _ mw_435) dX2_follow_17 (fun H_32 locs hP hD hS => ?_)
  have hP : va_P (dC, dI) vwCl (um_W md cI th nu nm sk G (upd (upd (upd v 0 0) 1 0) 2 (G 0 p1))) H_32 := hP
  have hD : va_D (us_AA (um_ads md) s.heap.size) (um_W md cI th nu nm sk G (upd (upd (upd v 0 0) 1 0) 2 (G 0 p1))) := hD
  refine lv_aload_n hx hb dX2_follow_20 rfl (lv_at hl 0 rfl) ?_
  refine lv_iconst (v := (-1)) hx hb dX2_follow_21 (by decide) ?_
  refine um_put hx hb htb us_inX2 hown hK hP hD hS 3 (by decide) (htb _ mw_436) dX2_follow_22 (fun H_33 locs hP hD hS => ?_)
  have hP : va_P (dC, dI) vwCl (um_W md cI th nu nm sk G (upd (upd (upd (upd v 0 0) 1 0) 2 (G 0 p1)) 3 (-1))) H_33 := hP
  have hD : va_D (us_AA (um_ads md) s.heap.size) (um_W md cI th nu nm sk G (upd (upd (upd (upd v 0 0) 1 0) 2 (G 0 p1)) 3 (-1))) := hD
  refine lv_aload_n hx hb dX2_follow_25 rfl (lv_at hl 0 rfl) ?_
  refine lv_aload_n hx hb dX2_follow_26 rfl (lv_at hl 0 rfl) ?_
  refine va_get (D := (dC, dI)) (ci := 2) (v := .ref (md 2)) (C := RX2) (T := TX2) (N := 23) hx hb htb us_inX2 hown hK hP 0 rfl rfl 3 (by decide) (htb _ mw_426) (fun _ h9 => h9) rfl dX2_follow_27 ?_
  refine lv_iload_n hx hb dX2_follow_30 rfl (lv_at hl 1 rfl) ?_
  refine us_iald (f := (G 1)) hx hb hK hP 2 0 rfl rfl hp1 (by decide) dX2_follow_31 ?_
  refine um_put hx hb htb us_inX2 hown hK hP hD hS 4 (by decide) (htb _ mw_437) dX2_follow_32 (fun H_34 locs hP hD hS => ?_)
  have hP : va_P (dC, dI) vwCl (um_W md cI th nu nm sk G (upd (upd (upd (upd (upd v 0 0) 1 0) 2 (G 0 p1)) 3 (-1)) 4 (G 1 p1))) H_34 := hP
  have hD : va_D (us_AA (um_ads md) s.heap.size) (um_W md cI th nu nm sk G (upd (upd (upd (upd (upd v 0 0) 1 0) 2 (G 0 p1)) 3 (-1)) 4 (G 1 p1))) := hD
  refine lv_aload_n hx hb dX2_follow_35 rfl (lv_at hl 0 rfl) ?_
  refine lv_iconst (v := 0) hx hb dX2_follow_36 (by decide) ?_
  refine um_put hx hb htb us_inX2 hown hK hP hD hS 5 (by decide) (htb _ mw_438) dX2_follow_37 (fun H_35 locs hP hD hS => ?_)
  have hP : va_P (dC, dI) vwCl (um_W md cI th nu nm sk G (upd (upd (upd (upd (upd (upd v 0 0) 1 0) 2 (G 0 p1)) 3 (-1)) 4 (G 1 p1)) 5 0)) H_35 := hP
  have hD : va_D (us_AA (um_ads md) s.heap.size) (um_W md cI th nu nm sk G (upd (upd (upd (upd (upd (upd v 0 0) 1 0) 2 (G 0 p1)) 3 (-1)) 4 (G 1 p1)) 5 0)) := hD
  refine lv_aload_n hx hb dX2_follow_40 rfl (lv_at hl 0 rfl) ?_
  refine lv_iconst (v := 1) hx hb dX2_follow_41 (by decide) ?_
  refine um_put hx hb htb us_inX2 hown hK hP hD hS 6 (by decide) (htb _ mw_439) dX2_follow_42 (fun H_36 locs hP hD hS => ?_)
  have hP : va_P (dC, dI) vwCl (um_W md cI th nu nm sk G (upd (upd (upd (upd (upd (upd (upd v 0 0) 1 0) 2 (G 0 p1)) 3 (-1)) 4 (G 1 p1)) 5 0) 6 1)) H_36 := hP
  have hD : va_D (us_AA (um_ads md) s.heap.size) (um_W md cI th nu nm sk G (upd (upd (upd (upd (upd (upd (upd v 0 0) 1 0) 2 (G 0 p1)) 3 (-1)) 4 (G 1 p1)) 5 0) 6 1)) := hD
  refine lv_aload_n hx hb dX2_follow_45 rfl (lv_at hl 0 rfl) ?_
  refine lv_iconst (v := 0) hx hb dX2_follow_46 (by decide) ?_
  refine um_put hx hb htb us_inX2 hown hK hP hD hS 7 (by decide) (htb _ mw_440) dX2_follow_47 (fun H_37 locs hP hD hS => ?_)
  have hP : va_P (dC, dI) vwCl (um_W md cI th nu nm sk G (upd (upd (upd (upd (upd (upd (upd (upd v 0 0) 1 0) 2 (G 0 p1)) 3 (-1)) 4 (G 1 p1)) 5 0) 6 1) 7 0)) H_37 := hP
  have hD : va_D (us_AA (um_ads md) s.heap.size) (um_W md cI th nu nm sk G (upd (upd (upd (upd (upd (upd (upd (upd v 0 0) 1 0) 2 (G 0 p1)) 3 (-1)) 4 (G 1 p1)) 5 0) 6 1) 7 0)) := hD
  refine lv_aload_n hx hb dX2_follow_50 rfl (lv_at hl 0 rfl) ?_
  refine lv_iconst (v := (-1)) hx hb dX2_follow_51 (by decide) ?_
  refine um_put hx hb htb us_inX2 hown hK hP hD hS 8 (by decide) (htb _ mw_441) dX2_follow_52 (fun H_38 locs hP hD hS => ?_)
  have hP : va_P (dC, dI) vwCl (um_W md cI th nu nm sk G (upd (upd (upd (upd (upd (upd (upd (upd (upd v 0 0) 1 0) 2 (G 0 p1)) 3 (-1)) 4 (G 1 p1)) 5 0) 6 1) 7 0) 8 (-1))) H_38 := hP
  have hD : va_D (us_AA (um_ads md) s.heap.size) (um_W md cI th nu nm sk G (upd (upd (upd (upd (upd (upd (upd (upd (upd v 0 0) 1 0) 2 (G 0 p1)) 3 (-1)) 4 (G 1 p1)) 5 0) 6 1) 7 0) 8 (-1))) := hD
  refine lv_aload_n hx hb dX2_follow_55 rfl (lv_at hl 0 rfl) ?_
  refine lv_iconst (v := (-1)) hx hb dX2_follow_56 (by decide) ?_
  refine um_put hx hb htb us_inX2 hown hK hP hD hS 9 (by decide) (htb _ mw_442) dX2_follow_57 (fun H_39 locs hP hD hS => ?_)
  have hP : va_P (dC, dI) vwCl (um_W md cI th nu nm sk G (upd (upd (upd (upd (upd (upd (upd (upd (upd (upd v 0 0) 1 0) 2 (G 0 p1)) 3 (-1)) 4 (G 1 p1)) 5 0) 6 1) 7 0) 8 (-1)) 9 (-1))) H_39 := hP
  have hD : va_D (us_AA (um_ads md) s.heap.size) (um_W md cI th nu nm sk G (upd (upd (upd (upd (upd (upd (upd (upd (upd (upd v 0 0) 1 0) 2 (G 0 p1)) 3 (-1)) 4 (G 1 p1)) 5 0) 6 1) 7 0) 8 (-1)) 9 (-1))) := hD
  refine lv_aload_n hx hb dX2_follow_60 rfl (lv_at hl 0 rfl) ?_
  refine lv_iconst (v := (-1)) hx hb dX2_follow_61 (by decide) ?_
  refine um_put hx hb htb us_inX2 hown hK hP hD hS 10 (by decide) (htb _ mw_443) dX2_follow_62 (fun H_40 locs hP hD hS => ?_)
  have hP : va_P (dC, dI) vwCl (um_W md cI th nu nm sk G (upd (upd (upd (upd (upd (upd (upd (upd (upd (upd (upd v 0 0) 1 0) 2 (G 0 p1)) 3 (-1)) 4 (G 1 p1)) 5 0) 6 1) 7 0) 8 (-1)) 9 (-1)) 10 (-1))) H_40 := hP
  have hD : va_D (us_AA (um_ads md) s.heap.size) (um_W md cI th nu nm sk G (upd (upd (upd (upd (upd (upd (upd (upd (upd (upd (upd v 0 0) 1 0) 2 (G 0 p1)) 3 (-1)) 4 (G 1 p1)) 5 0) 6 1) 7 0) 8 (-1)) 9 (-1)) 10 (-1))) := hD
  refine lv_aload_n hx hb dX2_follow_65 rfl (lv_at hl 0 rfl) ?_
  refine lv_iconst (v := (-1)) hx hb dX2_follow_66 (by decide) ?_
  refine um_put hx hb htb us_inX2 hown hK hP hD hS 11 (by decide) (htb _ mw_444) dX2_follow_67 (fun H_41 locs hP hD hS => ?_)
  have hP : va_P (dC, dI) vwCl (um_W md cI th nu nm sk G (upd (upd (upd (upd (upd (upd (upd (upd (upd (upd (upd (upd v 0 0) 1 0) 2 (G 0 p1)) 3 (-1)) 4 (G 1 p1)) 5 0) 6 1) 7 0) 8 (-1)) 9 (-1)) 10 (-1)) 11 (-1))) H_41 := hP
  have hD : va_D (us_AA (um_ads md) s.heap.size) (um_W md cI th nu nm sk G (upd (upd (upd (upd (upd (upd (upd (upd (upd (upd (upd (upd v 0 0) 1 0) 2 (G 0 p1)) 3 (-1)) 4 (G 1 p1)) 5 0) 6 1) 7 0) 8 (-1)) 9 (-1)) 10 (-1)) 11 (-1))) := hD
  refine lv_aload_n hx hb dX2_follow_70 rfl (lv_at hl 0 rfl) ?_
  refine lv_iload_n hx hb dX2_follow_71 rfl (lv_at hl 1 rfl) ?_
  refine lv_iconst (v := (-1)) hx hb dX2_follow_72 (by decide) ?_
  refine lv_iload_n hx hb dX2_follow_73 rfl (lv_at hl 2 rfl) ?_
  refine va_calli (va_runV (As := [.int (nI p1), .int (-1), .int p2]) (rest := []) ⟨hx, hb, hml, hown, htb⟩ (kt_X2_next l dC dI md cI H_41.size th nu nm sk G (upd (upd (upd (upd (upd (upd (upd (upd (upd (upd (upd (upd v 0 0) 1 0) 2 (G 0 p1)) 3 (-1)) 4 (G 1 p1)) 5 0) 6 1) 7 0) 8 (-1)) 9 (-1)) 10 (-1)) 11 (-1)) (nI p1) (-1) p2 hnm (fun h => absurd (by decide) h)) (cwV 3 htb (us_gV mw_536 mw_538 mw_24 mw_34 mw_539) rfl rfl rfl (by decide +kernel) ⟨Nat.le_of_ble_eq_true rfl, Nat.le_of_ble_eq_true rfl⟩) ⟨um_P_blind, va_recv hK hP (ci := 2) (q0 := 0) rfl rfl, fun U hU hW => ⟨rfl, um_P_at hP hK hD hU hW⟩⟩ rfl rfl hl.1 rfl (lv_room (Nat.le_of_ble_eq_true rfl)) dX2_follow_74 ⟨Nat.le_of_ble_eq_true rfl, Nat.le_of_ble_eq_true rfl⟩) hS (fun q h1 h2 => absurd h2 (Nat.not_le.mpr h1)) (fun q h => hA q (Nat.le_trans hS.1 h)) (fun r_43 _ t_44 H_42 locs ht hvm hw hB hz1 hk1 hS => ?_)
  subst hw
  have hP := us_mono hP (fun q h => hk1 q h (Nat.not_le.mpr h))
  refine lv_topi (fun i9 ei9 => ?_)
  have ei9 := ei9.trans (um_nx_0 hnm hL)
  rcases um_lcases (um_ls G L p1 p2) with hls | ⟨m0, T, hls⟩
  · rw [hls] at hmm
    cases hmm
  · rw [hls] at ei9
    have ei9 : i9 = nI m0 := ei9
    subst ei9
    have hm0 : m0 < nm := ((um_ls_mem (j := p1) (t := p2) hL).mp (by rw [hls]; simp)).1
    refine lv_istore (lv' := [(4, .int (nI m0)), (0, .ref (md 0)), (1, .int (nI p1)), (2, .int p2), (3, .int (nI p3))]) hx hb dX2_follow_77 hl (by decide) rfl (fun ls hl => ?_)
    refine lv_iload hx hb dX2_follow_79 (lv_at hl 0 rfl) ?_
    refine lv_if_lt (tgt := 88) hx hb dX2_follow_81 (by decide) (fun c_45 => ?_) (fun c_45 => ?_)
    · exact absurd c_45 (um_hd_pos (by omega))
    · refine lv_iconst (v := 1) hx hb dX2_follow_84 (by decide) ?_
      refine lv_goto (tgt := 89) hx hb dX2_follow_85 (by decide) ?_
      refine lv_istore (lv' := [(5, .int 1), (4, .int (nI m0)), (0, .ref (md 0)), (1, .int (nI p1)), (2, .int p2), (3, .int (nI p3))]) hx hb dX2_follow_89 hl (by decide) rfl (fun ls hl => ?_)
      exact lp91 T [] m0 _ _ _ _ (by rw [hls]; rfl) (by rw [hls]; rfl) (by rw [← hls]; exact hmm) hP hD hS (lv_sub hl [0, 1, 2, 3, 4, 5] rfl)
