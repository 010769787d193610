theorem mw_46 : Cond.methodLink RX1 3 objectInit ∈ us_big := us_in 46 (by decide +kernel) rfl
theorem mw_47 : Cond.instanceMethod objectInit ∈ us_big := us_in 47 (by decide +kernel) rfl
theorem mw_48 : Cond.code objectInit ⟨#[0xb1]⟩ 1 none ∈ us_big := us_in 48 rfl rfl
theorem mw_49 : Cond.classLink RX1 9 RX0 ∈ us_big := us_in 49 (by decide +kernel) rfl
theorem mw_51 : Cond.instantiable RX0 14 ∈ us_big := us_in 51 (by decide +kernel) rfl
theorem mw_53 : Cond.instanceMethod yX0_init ∈ us_big := us_in 53 (by decide +kernel) rfl
theorem mw_54 : Cond.code yX0_init cX0_init 1 none ∈ us_big := us_in 54 rfl rfl
theorem mw_55 : Cond.methodLink RX0 3 objectInit ∈ us_big := us_in 55 (by decide +kernel) rfl
theorem mw_108 : Cond.arrayClass .int ∈ us_big := us_in 108 (by decide +kernel) rfl
theorem mw_422 : Cond.methodLink RX2 1 objectInit ∈ us_big := us_in 422 (by decide +kernel) rfl
/-! fresh objects -/
theorem us_cA {s : State} {a b : ClassId} (h1 : va_RA s a .int) (h2 : va_RA s b .int) : a = b := Option.some.inj (Eq.trans (Eq.symm h1) h2)
def us_Xf (ad : Nat → Nat) (cU cI : ClassId) (i : Nat) (pa : Nat → Nat) : va_W :=
  [(ad 0, .inr (1, [.ref (ad 1), .int (nI 0), .ref (ad 2), .ref (ad 3), .ref (ad 4), .ref (ad 5), .ref (ad 6), .ref (ad 7), .int (nI 0), .int 0])),
   (ad 1, .inl (cU, 30, .inr (.inr (.inr (.inr (fun k => if k < i then some (pa k) else none)))))),
   (ad 2, .inl (cI, 200, .inl (fun _ => 0))), (ad 3, .inl (cI, 200, .inl (fun _ => 0))), (ad 4, .inl (cI, 200, .inl (fun _ => 0))), (ad 5, .inl (cI, 200, .inl (fun _ => 0))), (ad 6, .inl (cI, 200, .inl (fun _ => 0))), (ad 7, .inl (cI, 200, .inl (fun _ => 0)))]
theorem us_P_2 {D : va_G} {cl : List vw_C} {a : Nat × va_E} {x : Nat} {cA : ClassId} {y y' : vp_A} {r : va_W} {H : Heap} (hP : va_P D cl (a :: (x, .inl (cA, y)) :: r) H) (e : vp_cell cA y = vp_cell cA y') : va_P D cl (a :: (x, .inl (cA, y')) :: r) H := by
  intro k q hk
  match k, hk with
  | 0, hk => exact hP 0 q hk
  | 1, hk =>
    cases hk
    have h := hP 1 _ rfl
    show H[x]? = some (vp_cell cA y')
    rw [← e]
    exact h
  | k + 2, hk => exact hP (k + 2) q hk
theorem us_arr_eq {cA : ClassId} {n : Nat} {f g : Nat → Option Nat} (h : ∀ k, k < n → f k = g k) : vp_cell cA (n, .inr (.inr (.inr (.inr f)))) = vp_cell cA (n, .inr (.inr (.inr (.inr g)))) := by
  rw [vp_cell_q, vp_cell_q]
  have e : (fun j : Fin n => va_rf (f j.val)) = fun j : Fin n => va_rf (g j.val) := by
    funext j
    rw [h j.val j.isLt]
  simp only [arrV, e]
theorem us_P_0 {D : va_G} {cl : List vw_C} {a : Nat × va_E} {x : Nat} {cA : ClassId} {r : va_W} {H : Heap} {pa : Nat → Nat} (hP : va_P D cl (a :: (x, .inl (cA, 30, .inr (.inr (.inr (.inr (fun _ => none)))))) :: r) H) : va_P D cl (a :: (x, .inl (cA, 30, .inr (.inr (.inr (.inr (fun k => if k < 0 then some (pa k) else none)))))) :: r) H :=
  us_P_2 hP (us_arr_eq (fun k _ => by simp))
theorem us_Xf_len {ad : Nat → Nat} {cU cI : ClassId} {i : Nat} {pa : Nat → Nat} {U : Nat → Nat → Int32} : (us_Xf ad cU cI i pa ++ us_pl i pa U).length = 8 + i := by
  simp [us_Xf, us_pl]
  omega
theorem us_last {X : va_W} {x : Nat × va_E} : (X ++ [x])[X.length]? = some x := by simp
theorem us_P_one {D : va_G} {cl : List vw_C} {ws : va_W} {H : Heap} {k : Nat} {x : Nat × va_E} (hP : va_P D cl ws H) (h : ws[k]? = some x) : va_P D cl [x] H := by
  intro i q hi
  have h1 := (List.getElem?_eq_some_iff.mp hi).1
  simp only [List.length_cons, List.length_nil] at h1
  have h2 : i = 0 := by omega
  subst h2
  cases hi
  exact hP k _ h
theorem us_pl_push {n q : Nat} {pa : Nat → Nat} {U : Nat → Nat → Int32} : us_pl (n + 1) (va_up pa n q) U = us_pl n pa U ++ [(q, .inr (0, us_u (U n)))] := by
  unfold us_pl
  rw [List.range_succ, List.map_append]
  congr 1
  · refine List.map_congr_left (fun a ha => ?_)
    rw [va_up_ne _ _ (Nat.ne_of_lt (List.mem_range.mp ha))]
  · simp [va_up_self]
theorem us_Xf_next {ad : Nat → Nat} {cU cI : ClassId} {i q : Nat} {pa : Nat → Nat} : us_Xf ad cU cI (i + 1) (va_up pa i q) ++ us_pl (i + 1) (va_up pa i q) (fun _ _ => 0) =
    ((us_Xf ad cU cI i pa ++ us_pl i pa (fun _ _ => 0)) ++ [((q, .inr (0, us_u (fun _ => 0))) : Nat × va_E)]).set 1 ((ad 1, .inl (cU, 30, .inr (.inr (.inr (.inr (va_up (fun k => if k < i then some (pa k) else none) i (some q))))))) : Nat × va_E) := by
  have e : (fun k => if k < i + 1 then some (va_up pa i q k) else none) = va_up (fun k => if k < i then some (pa k) else none) i (some q) := by
    funext k
    by_cases h : k = i
    · subst h; simp [va_up_self]
    · by_cases h2 : k < i
      · simp [h2, Nat.lt_succ_of_lt h2, va_up_ne _ _ h]
      · have h3 : ¬ k < i + 1 := by omega
        simp [h2, h3, va_up_ne _ _ h]
  rw [us_pl_push]
  show _ = ((us_Xf ad cU cI i pa ++ (us_pl i pa (fun _ _ => 0))) ++ _).set 1 _
  rw [List.append_assoc]
  show us_Xf ad cU cI (i + 1) (va_up pa i q) ++ _ = _
  unfold us_Xf
  rw [e]
  rfl
theorem us_fs0 : ∀ j, j < 14 → defaultValue (tyX0 j) = vp_V (us_u (fun _ => 0)) j := fun j hj => us_k14 (P := fun j => defaultValue (tyX0 j) = vp_V (us_u (fun _ => 0)) j) hj rfl rfl rfl rfl rfl rfl rfl rfl rfl rfl rfl rfl rfl rfl
def us_Pn (dC : Nat → ClassId) (dI : Nat → Nat → Nat) (h0 : Nat) (ws : va_W) (sz : Nat) (S : State) : Prop :=
  S.heap.size = sz ∧ va_P (dC, dI) vwCl ws S.heap ∧ va_K (dC, dI) vwCl [] S ∧ va_AO RX0 S ∧ va_Nw (.methodLinkNest RX1 34 yX0_init "UnitStates") S
def us_Bn (dC : Nat → ClassId) (dI : Nat → Nat → Nat) (h0 : Nat) (A : Nat → Prop) (t : State) : Prop :=
  ∃ (ad : Nat → Nat) (cU cI : ClassId) (pa : Nat → Nat), ad 0 = h0 ∧ va_P (dC, dI) vwCl (us_W ad cU cI pa 0 0 0 (fun _ _ => 0) (fun _ _ => 0)) t.heap ∧ va_K (dC, dI) vwCl (us_ty cU cI) t ∧ va_D A (us_W ad cU cI pa 0 0 0 (fun _ _ => 0) (fun _ _ => 0))
theorem us_Bn_of {dC : Nat → ClassId} {dI : Nat → Nat → Nat} {h0 : Nat} {A : Nat → Prop} {ad pa : Nat → Nat} {cU cI : ClassId} {t : State} {H : Heap} (ha : ad 0 = h0) (ht : t.heap = H) (hP : va_P (dC, dI) vwCl (us_Xf ad cU cI 30 pa ++ us_pl 30 pa (fun _ _ => 0)) H) (hK : va_K (dC, dI) vwCl (us_ty cU cI) t) (hD : va_D A (us_Xf ad cU cI 30 pa ++ us_pl 30 pa (fun _ _ => 0))) : us_Bn dC dI h0 A t := by
  refine ⟨ad, cU, cI, pa, ha, ?_, hK, us_D_of ?_ hD⟩
  · rw [ht]
    exact us_P_2 hP (us_arr_eq (fun k hk => by rw [if_pos hk]))
  · rfl
def um_Pn (dC : Nat → ClassId) (dI : Nat → Nat → Nat) (h0 : Nat) (ws : va_W) (sz : Nat) (S : State) : Prop :=
  S.heap.size = sz ∧ va_P (dC, dI) vwCl ws S.heap ∧ va_K (dC, dI) vwCl [] S
def um_Bn (dC : Nat → ClassId) (dI : Nat → Nat → Nat) (h0 : Nat) (A : Nat → Prop) (t : State) : Prop :=
  ∃ (md : Nat → Nat) (cI : ClassId), md 0 = h0 ∧ va_P (dC, dI) vwCl (um_W md cI 0 0 0 0 (fun _ _ => 0) (fun _ => 0)) t.heap ∧ va_K (dC, dI) vwCl [(cI, .int)] t ∧ va_D A (um_W md cI 0 0 0 0 (fun _ _ => 0) (fun _ => 0))
set_option maxHeartbeats 4000000 in
set_option maxRecDepth 100000 in
theorem kt_X0_init (l : Launch) (dC : Nat → ClassId) (dI : Nat → Nat → Nat) (h0 sz : Nat) (u : Nat → Int32) : Met l yX0_init wsX0_init ({ frames := 1, cells := 0, slots := 0, locals := 12 }) (va_Pc [.ref h0] (us_Pu dC dI h0 u sz)) (va_Qv (fun _ : Unit => True) (fun _ _ => True) (us_new sz)) 0 0 (us_new sz) := by
  refine Met.ofW (cc := cX0_init) (maxL := 1) (ret := none) (by decide) rfl ?_
  intro p e s m args below meth c s₁ B hml hv
  obtain ⟨rfl, hsz, hP, hK⟩ := hv
  have hx := B.exec
  have hb := B.bytes
  have hr := B.returns
  have htb := us_htb (atoms_spec (ws := wsX0_init) B.pre)
  have hown : s.vm.findClass RX0 = some m.cls := findClass_of_methodNamed B.named
  have hlocks := B.notSynchronized
  have hin : meth.name = "<init>" := (name_of_methodNamed B.named B.method).1
  subst hsz
  have hS : va_S (us_new s.heap.size) s.heap s.heap [] := va_S.rf
  have hl := lv_entry ([.ref h0]) (n := 1) (Nat.le_of_ble_eq_true rfl)
  rw [lg_entry_eq]
  generalize (lg_sl ([.ref h0]) ++ List.replicate (1 - (lg_sl ([.ref h0])).length) Slot.unset).toArray = ls at hl ⊢
  have hl : lv_has ls 1 [(0, .ref h0)] := hl
  refine lv_aload_n hx hb dX0_init_0 rfl (lv_at hl 0 rfl) ?_
  refine W.objInit hx hb hown (htb _ mw_55) (htb _ mw_47) (htb _ mw_48) rfl (by rw [hml]; exact hl.1) rfl dX0_init_1 (Nat.le_of_ble_eq_true rfl) (Nat.le_of_ble_eq_true rfl) ?_
  refine W.eq (g2 := F0 m 4 ls []) rfl ?_
  exact W.vret hx hb hr (fun t ht hW => ⟨⟨(), rfl, trivial, trivial⟩, hS.F ht⟩) hS.2.2 dX0_init_4
set_option maxHeartbeats 16000000 in
set_option maxRecDepth 100000 in
theorem kt_X1_init (l : Launch) (dC : Nat → ClassId) (dI : Nat → Nat → Nat) (h0 sz : Nat) : Met l yX1_init wsX1_init ({ frames := 2, cells := 37, slots := 1650, locals := 32 }) (va_Pc [.ref h0] (us_Pn dC dI h0 [(h0, .inr (1, [.null, .int 0, .null, .null, .null, .null, .null, .null, .int 0, .int 0]))] sz)) (va_Qv (fun _ : Unit => True) (fun _ t => us_Bn dC dI h0 (us_Au h0 sz) t) (us_Au h0 sz)) 37 1650 (us_Au h0 sz) := by
  refine Met.ofW (cc := cX1_init) (maxL := 2) (ret := none) (by decide) rfl ?_
  intro p e s m args below meth c s₁ B hml hv
  obtain ⟨rfl, hsz, hP, hK, hAO, hNe⟩ := hv
  have hx := B.exec
  have hb := B.bytes
  have hr := B.returns
  have htb := us_htb (atoms_spec (ws := wsX1_init) B.pre)
  have hown : s.vm.findClass RX1 = some m.cls := findClass_of_methodNamed B.named
  have hlocks := B.notSynchronized
  have hin : meth.name = "<init>" := (name_of_methodNamed B.named B.method).1
  subst hsz
  have hA : ∀ q : Nat, s.heap.size ≤ q → (us_Au h0 s.heap.size) q := fun q h => Or.inr h
  have hS : va_S (us_Au h0 s.heap.size) s.heap s.heap [] := va_S.rf
  have hD : va_D (us_Au h0 s.heap.size) [(h0, .inr (1, [.null, .int 0, .null, .null, .null, .null, .null, .null, .int 0, .int 0]))] := us_D1 (Or.inl rfl)
  have hP : va_P (dC, dI) vwCl [(h0, .inr (1, [.null, .int 0, .null, .null, .null, .null, .null, .null, .int 0, .int 0]))] s.heap := hP
  have hl := lv_entry ([.ref h0]) (n := 2) (Nat.le_of_ble_eq_true rfl)
  rw [lg_entry_eq]
  generalize (lg_sl ([.ref h0]) ++ List.replicate (2 - (lg_sl ([.ref h0])).length) Slot.unset).toArray = ls at hl ⊢
  have hl : lv_has ls 2 [(0, .ref h0)] := hl
  refine lv_aload_n hx hb dX1_init_0 rfl (lv_at hl 0 rfl) ?_
  refine W.objInit hx hb hown (htb _ mw_46) (htb _ mw_47) (htb _ mw_48) rfl (by rw [hml]; exact hl.1) rfl dX1_init_1 (Nat.le_of_ble_eq_true rfl) (Nat.le_of_ble_eq_true rfl) ?_
  refine W.eq (g2 := F0 m 4 ls []) rfl ?_
  refine lv_aload_n hx hb dX1_init_4 rfl (lv_at hl 0 rfl) ?_
  refine lv_bipush (v := 30) hx hb dX1_init_5 (by decide) ?_
  refine va_newq (C := RX0) hx hb hown (htb _ mw_49) hAO hK hP hD hS hA (N' := 30) (by decide) (by decide) (by decide) (Nat.le_of_ble_eq_true rfl) (Nat.le_of_ble_eq_true rfl) dX1_init_7 (fun q1 cA1 H1 hK hP hD hS => ?_)
  have hP : va_P (dC, dI) vwCl [(h0, .inr (1, [.null, .int 0, .null, .null, .null, .null, .null, .null, .int 0, .int 0])), (q1, .inl (cA1, 30, .inr (.inr (.inr (.inr (fun _ => none))))))] H1 := hP
  have hD : va_D (us_Au h0 s.heap.size) [(h0, .inr (1, [.null, .int 0, .null, .null, .null, .null, .null, .null, .int 0, .int 0])), (q1, .inl (cA1, 30, .inr (.inr (.inr (.inr (fun _ => none))))))] := hD
  have hK : va_K (dC, dI) vwCl [(cA1, .object RX0)] s := hK
  refine va_putF (D := (dC, dI)) (ci := 1) (v := .ref q1) (ty := (.array (.object "UnitStates$Unit"))) (C := RX1) (T := TX1) (N := 10) hx hb htb us_inX1 tyX1 tyX1_ok nmX1 hown hK hP hD hS 0 rfl rfl 0 (by decide) (htb _ mw_109) (fun _ h9 => h9) rfl hin rfl (by decide +kernel) rfl rfl (Nat.le_of_ble_eq_true rfl) dX1_init_10 (fun I1 locs hP hD hS => ?_)
  have hP : va_P (dC, dI) vwCl [(h0, .inr (1, [.ref q1, .int 0, .null, .null, .null, .null, .null, .null, .int 0, .int 0])), (q1, .inl (cA1, 30, .inr (.inr (.inr (.inr (fun _ => none))))))] I1 := hP
  have hD : va_D (us_Au h0 s.heap.size) [(h0, .inr (1, [.ref q1, .int 0, .null, .null, .null, .null, .null, .null, .int 0, .int 0])), (q1, .inl (cA1, 30, .inr (.inr (.inr (.inr (fun _ => none))))))] := hD
  refine lv_aload_n hx hb dX1_init_13 rfl (lv_at hl 0 rfl) ?_
  refine lv_sipush (v := 200) hx hb dX1_init_14 (by decide) ?_
  refine va_newa (atype := .int) (a0 := (200, .inl (fun _ => 0))) (ty := .int) hx hb (htb _ mw_108) rfl hK hP hD hS hA (N' := 200) (fun _ => rfl) (by decide) (by decide) (by decide) (Nat.le_of_ble_eq_true rfl) (Nat.le_of_ble_eq_true rfl) dX1_init_17 (fun q2 cA2 H2 hK hP hD hS => ?_)
  have hP : va_P (dC, dI) vwCl [(h0, .inr (1, [.ref q1, .int 0, .null, .null, .null, .null, .null, .null, .int 0, .int 0])), (q1, .inl (cA1, 30, .inr (.inr (.inr (.inr (fun _ => none)))))), (q2, .inl (cA2, 200, .inl (fun _ => 0)))] H2 := hP
  have hD : va_D (us_Au h0 s.heap.size) [(h0, .inr (1, [.ref q1, .int 0, .null, .null, .null, .null, .null, .null, .int 0, .int 0])), (q1, .inl (cA1, 30, .inr (.inr (.inr (.inr (fun _ => none)))))), (q2, .inl (cA2, 200, .inl (fun _ => 0)))] := hD
  have hK : va_K (dC, dI) vwCl [(cA1, .object RX0), (cA2, .int)] s := hK
  refine va_putF (D := (dC, dI)) (ci := 1) (v := .ref q2) (ty := (.array .int)) (C := RX1) (T := TX1) (N := 10) hx hb htb us_inX1 tyX1 tyX1_ok nmX1 hown hK hP hD hS 0 rfl rfl 2 (by decide) (htb _ mw_111) (fun _ h9 => h9) rfl hin rfl (by decide +kernel) rfl rfl (Nat.le_of_ble_eq_true rfl) dX1_init_19 (fun I2 locs hP hD hS => ?_)
  have hP : va_P (dC, dI) vwCl [(h0, .inr (1, [.ref q1, .int 0, .ref q2, .null, .null, .null, .null, .null, .int 0, .int 0])), (q1, .inl (cA1, 30, .inr (.inr (.inr (.inr (fun _ => none)))))), (q2, .inl (cA2, 200, .inl (fun _ => 0)))] I2 := hP
  have hD : va_D (us_Au h0 s.heap.size) [(h0, .inr (1, [.ref q1, .int 0, .ref q2, .null, .null, .null, .null, .null, .int 0, .int 0])), (q1, .inl (cA1, 30, .inr (.inr (.inr (.inr (fun _ => none)))))), (q2, .inl (cA2, 200, .inl (fun _ => 0)))] := hD
  refine lv_aload_n hx hb dX1_init_22 rfl (lv_at hl 0 rfl) ?_
  refine lv_sipush (v := 200) hx hb dX1_init_23 (by decide) ?_
  refine va_newa (atype := .int) (a0 := (200, .inl (fun _ => 0))) (ty := .int) hx hb (htb _ mw_108) rfl hK hP hD hS hA (N' := 200) (fun _ => rfl) (by decide) (by decide) (by decide) (Nat.le_of_ble_eq_true rfl) (Nat.le_of_ble_eq_true rfl) dX1_init_26 (fun q3 cA3 H3 hK hP hD hS => ?_)
  have hP : va_P (dC, dI) vwCl [(h0, .inr (1, [.ref q1, .int 0, .ref q2, .null, .null, .null, .null, .null, .int 0, .int 0])), (q1, .inl (cA1, 30, .inr (.inr (.inr (.inr (fun _ => none)))))), (q2, .inl (cA2, 200, .inl (fun _ => 0))), (q3, .inl (cA3, 200, .inl (fun _ => 0)))] H3 := hP
  have hD : va_D (us_Au h0 s.heap.size) [(h0, .inr (1, [.ref q1, .int 0, .ref q2, .null, .null, .null, .null, .null, .int 0, .int 0])), (q1, .inl (cA1, 30, .inr (.inr (.inr (.inr (fun _ => none)))))), (q2, .inl (cA2, 200, .inl (fun _ => 0))), (q3, .inl (cA3, 200, .inl (fun _ => 0)))] := hD
  have hK : va_K (dC, dI) vwCl [(cA1, .object RX0), (cA2, .int), (cA3, .int)] s := hK
  refine va_putF (D := (dC, dI)) (ci := 1) (v := .ref q3) (ty := (.array .int)) (C := RX1) (T := TX1) (N := 10) hx hb htb us_inX1 tyX1 tyX1_ok nmX1 hown hK hP hD hS 0 rfl rfl 3 (by decide) (htb _ mw_112) (fun _ h9 => h9) rfl hin rfl (by decide +kernel) rfl rfl (Nat.le_of_ble_eq_true rfl) dX1_init_28 (fun I3 locs hP hD hS => ?_)
  have hP : va_P (dC, dI) vwCl [(h0, .inr (1, [.ref q1, .int 0, .ref q2, .ref q3, .null, .null, .null, .null, .int 0, .int 0])), (q1, .inl (cA1, 30, .inr (.inr (.inr (.inr (fun _ => none)))))), (q2, .inl (cA2, 200, .inl (fun _ => 0))), (q3, .inl (cA3, 200, .inl (fun _ => 0)))] I3 := hP
  have hD : va_D (us_Au h0 s.heap.size) [(h0, .inr (1, [.ref q1, .int 0, .ref q2, .ref q3, .null, .null, .null, .null, .int 0, .int 0])), (q1, .inl (cA1, 30, .inr (.inr (.inr (.inr (fun _ => none)))))), (q2, .inl (cA2, 200, .inl (fun _ => 0))), (q3, .inl (cA3, 200, .inl (fun _ => 0)))] := hD
  refine lv_aload_n hx hb dX1_init_31 rfl (lv_at hl 0 rfl) ?_
  refine lv_sipush (v := 200) hx hb dX1_init_32 (by decide) ?_
  refine va_newa (atype := .int) (a0 := (200, .inl (fun _ => 0))) (ty := .int) hx hb (htb _ mw_108) rfl hK hP hD hS hA (N' := 200) (fun _ => rfl) (by decide) (by decide) (by decide) (Nat.le_of_ble_eq_true rfl) (Nat.le_of_ble_eq_true rfl) dX1_init_35 (fun q4 cA4 H4 hK hP hD hS => ?_)
  have hP : va_P (dC, dI) vwCl [(h0, .inr (1, [.ref q1, .int 0, .ref q2, .ref q3, .null, .null, .null, .null, .int 0, .int 0])), (q1, .inl (cA1, 30, .inr (.inr (.inr (.inr (fun _ => none)))))), (q2, .inl (cA2, 200, .inl (fun _ => 0))), (q3, .inl (cA3, 200, .inl (fun _ => 0))), (q4, .inl (cA4, 200, .inl (fun _ => 0)))] H4 := hP
  have hD : va_D (us_Au h0 s.heap.size) [(h0, .inr (1, [.ref q1, .int 0, .ref q2, .ref q3, .null, .null, .null, .null, .int 0, .int 0])), (q1, .inl (cA1, 30, .inr (.inr (.inr (.inr (fun _ => none)))))), (q2, .inl (cA2, 200, .inl (fun _ => 0))), (q3, .inl (cA3, 200, .inl (fun _ => 0))), (q4, .inl (cA4, 200, .inl (fun _ => 0)))] := hD
  have hK : va_K (dC, dI) vwCl [(cA1, .object RX0), (cA2, .int), (cA3, .int), (cA4, .int)] s := hK
  refine va_putF (D := (dC, dI)) (ci := 1) (v := .ref q4) (ty := (.array .int)) (C := RX1) (T := TX1) (N := 10) hx hb htb us_inX1 tyX1 tyX1_ok nmX1 hown hK hP hD hS 0 rfl rfl 4 (by decide) (htb _ mw_113) (fun _ h9 => h9) rfl hin rfl (by decide +kernel) rfl rfl (Nat.le_of_ble_eq_true rfl) dX1_init_37 (fun I4 locs hP hD hS => ?_)
  have hP : va_P (dC, dI) vwCl [(h0, .inr (1, [.ref q1, .int 0, .ref q2, .ref q3, .ref q4, .null, .null, .null, .int 0, .int 0])), (q1, .inl (cA1, 30, .inr (.inr (.inr (.inr (fun _ => none)))))), (q2, .inl (cA2, 200, .inl (fun _ => 0))), (q3, .inl (cA3, 200, .inl (fun _ => 0))), (q4, .inl (cA4, 200, .inl (fun _ => 0)))] I4 := hP
  have hD : va_D (us_Au h0 s.heap.size) [(h0, .inr (1, [.ref q1, .int 0, .ref q2, .ref q3, .ref q4, .null, .null, .null, .int 0, .int 0])), (q1, .inl (cA1, 30, .inr (.inr (.inr (.inr (fun _ => none)))))), (q2, .inl (cA2, 200, .inl (fun _ => 0))), (q3, .inl (cA3, 200, .inl (fun _ => 0))), (q4, .inl (cA4, 200, .inl (fun _ => 0)))] := hD
  refine lv_aload_n hx hb dX1_init_40 rfl (lv_at hl 0 rfl) ?_
  refine lv_sipush (v := 200) hx hb dX1_init_41 (by decide) ?_
  refine va_newa (atype := .int) (a0 := (200, .inl (fun _ => 0))) (ty := .int) hx hb (htb _ mw_108) rfl hK hP hD hS hA (N' := 200) (fun _ => rfl) (by decide) (by decide) (by decide) (Nat.le_of_ble_eq_true rfl) (Nat.le_of_ble_eq_true rfl) dX1_init_44 (fun q5 cA5 H5 hK hP hD hS => ?_)
  have hP : va_P (dC, dI) vwCl [(h0, .inr (1, [.ref q1, .int 0, .ref q2, .ref q3, .ref q4, .null, .null, .null, .int 0, .int 0])), (q1, .inl (cA1, 30, .inr (.inr (.inr (.inr (fun _ => none)))))), (q2, .inl (cA2, 200, .inl (fun _ => 0))), (q3, .inl (cA3, 200, .inl (fun _ => 0))), (q4, .inl (cA4, 200, .inl (fun _ => 0))), (q5, .inl (cA5, 200, .inl (fun _ => 0)))] H5 := hP
  have hD : va_D (us_Au h0 s.heap.size) [(h0, .inr (1, [.ref q1, .int 0, .ref q2, .ref q3, .ref q4, .null, .null, .null, .int 0, .int 0])), (q1, .inl (cA1, 30, .inr (.inr (.inr (.inr (fun _ => none)))))), (q2, .inl (cA2, 200, .inl (fun _ => 0))), (q3, .inl (cA3, 200, .inl (fun _ => 0))), (q4, .inl (cA4, 200, .inl (fun _ => 0))), (q5, .inl (cA5, 200, .inl (fun _ => 0)))] := hD
  have hK : va_K (dC, dI) vwCl [(cA1, .object RX0), (cA2, .int), (cA3, .int), (cA4, .int), (cA5, .int)] s := hK
  refine va_putF (D := (dC, dI)) (ci := 1) (v := .ref q5) (ty := (.array .int)) (C := RX1) (T := TX1) (N := 10) hx hb htb us_inX1 tyX1 tyX1_ok nmX1 hown hK hP hD hS 0 rfl rfl 5 (by decide) (htb _ mw_114) (fun _ h9 => h9) rfl hin rfl (by decide +kernel) rfl rfl (Nat.le_of_ble_eq_true rfl) dX1_init_46 (fun I5 locs hP hD hS => ?_)
  have hP : va_P (dC, dI) vwCl [(h0, .inr (1, [.ref q1, .int 0, .ref q2, .ref q3, .ref q4, .ref q5, .null, .null, .int 0, .int 0])), (q1, .inl (cA1, 30, .inr (.inr (.inr (.inr (fun _ => none)))))), (q2, .inl (cA2, 200, .inl (fun _ => 0))), (q3, .inl (cA3, 200, .inl (fun _ => 0))), (q4, .inl (cA4, 200, .inl (fun _ => 0))), (q5, .inl (cA5, 200, .inl (fun _ => 0)))] I5 := hP
  have hD : va_D (us_Au h0 s.heap.size) [(h0, .inr (1, [.ref q1, .int 0, .ref q2, .ref q3, .ref q4, .ref q5, .null, .null, .int 0, .int 0])), (q1, .inl (cA1, 30, .inr (.inr (.inr (.inr (fun _ => none)))))), (q2, .inl (cA2, 200, .inl (fun _ => 0))), (q3, .inl (cA3, 200, .inl (fun _ => 0))), (q4, .inl (cA4, 200, .inl (fun _ => 0))), (q5, .inl (cA5, 200, .inl (fun _ => 0)))] := hD
  refine lv_aload_n hx hb dX1_init_49 rfl (lv_at hl 0 rfl) ?_
  refine lv_sipush (v := 200) hx hb dX1_init_50 (by decide) ?_
  refine va_newa (atype := .int) (a0 := (200, .inl (fun _ => 0))) (ty := .int) hx hb (htb _ mw_108) rfl hK hP hD hS hA (N' := 200) (fun _ => rfl) (by decide) (by decide) (by decide) (Nat.le_of_ble_eq_true rfl) (Nat.le_of_ble_eq_true rfl) dX1_init_53 (fun q6 cA6 H6 hK hP hD hS => ?_)
  have hP : va_P (dC, dI) vwCl [(h0, .inr (1, [.ref q1, .int 0, .ref q2, .ref q3, .ref q4, .ref q5, .null, .null, .int 0, .int 0])), (q1, .inl (cA1, 30, .inr (.inr (.inr (.inr (fun _ => none)))))), (q2, .inl (cA2, 200, .inl (fun _ => 0))), (q3, .inl (cA3, 200, .inl (fun _ => 0))), (q4, .inl (cA4, 200, .inl (fun _ => 0))), (q5, .inl (cA5, 200, .inl (fun _ => 0))), (q6, .inl (cA6, 200, .inl (fun _ => 0)))] H6 := hP
  have hD : va_D (us_Au h0 s.heap.size) [(h0, .inr (1, [.ref q1, .int 0, .ref q2, .ref q3, .ref q4, .ref q5, .null, .null, .int 0, .int 0])), (q1, .inl (cA1, 30, .inr (.inr (.inr (.inr (fun _ => none)))))), (q2, .inl (cA2, 200, .inl (fun _ => 0))), (q3, .inl (cA3, 200, .inl (fun _ => 0))), (q4, .inl (cA4, 200, .inl (fun _ => 0))), (q5, .inl (cA5, 200, .inl (fun _ => 0))), (q6, .inl (cA6, 200, .inl (fun _ => 0)))] := hD
  have hK : va_K (dC, dI) vwCl [(cA1, .object RX0), (cA2, .int), (cA3, .int), (cA4, .int), (cA5, .int), (cA6, .int)] s := hK
  refine va_putF (D := (dC, dI)) (ci := 1) (v := .ref q6) (ty := (.array .int)) (C := RX1) (T := TX1) (N := 10) hx hb htb us_inX1 tyX1 tyX1_ok nmX1 hown hK hP hD hS 0 rfl rfl 6 (by decide) (htb _ mw_115) (fun _ h9 => h9) rfl hin rfl (by decide +kernel) rfl rfl (Nat.le_of_ble_eq_true rfl) dX1_init_55 (fun I6 locs hP hD hS => ?_)
  have hP : va_P (dC, dI) vwCl [(h0, .inr (1, [.ref q1, .int 0, .ref q2, .ref q3, .ref q4, .ref q5, .ref q6, .null, .int 0, .int 0])), (q1, .inl (cA1, 30, .inr (.inr (.inr (.inr (fun _ => none)))))), (q2, .inl (cA2, 200, .inl (fun _ => 0))), (q3, .inl (cA3, 200, .inl (fun _ => 0))), (q4, .inl (cA4, 200, .inl (fun _ => 0))), (q5, .inl (cA5, 200, .inl (fun _ => 0))), (q6, .inl (cA6, 200, .inl (fun _ => 0)))] I6 := hP
  have hD : va_D (us_Au h0 s.heap.size) [(h0, .inr (1, [.ref q1, .int 0, .ref q2, .ref q3, .ref q4, .ref q5, .ref q6, .null, .int 0, .int 0])), (q1, .inl (cA1, 30, .inr (.inr (.inr (.inr (fun _ => none)))))), (q2, .inl (cA2, 200, .inl (fun _ => 0))), (q3, .inl (cA3, 200, .inl (fun _ => 0))), (q4, .inl (cA4, 200, .inl (fun _ => 0))), (q5, .inl (cA5, 200, .inl (fun _ => 0))), (q6, .inl (cA6, 200, .inl (fun _ => 0)))] := hD
  refine lv_aload_n hx hb dX1_init_58 rfl (lv_at hl 0 rfl) ?_
  refine lv_sipush (v := 200) hx hb dX1_init_59 (by decide) ?_
  refine va_newa (atype := .int) (a0 := (200, .inl (fun _ => 0))) (ty := .int) hx hb (htb _ mw_108) rfl hK hP hD hS hA (N' := 200) (fun _ => rfl) (by decide) (by decide) (by decide) (Nat.le_of_ble_eq_true rfl) (Nat.le_of_ble_eq_true rfl) dX1_init_62 (fun q7 cA7 H7 hK hP hD hS => ?_)
  have hP : va_P (dC, dI) vwCl [(h0, .inr (1, [.ref q1, .int 0, .ref q2, .ref q3, .ref q4, .ref q5, .ref q6, .null, .int 0, .int 0])), (q1, .inl (cA1, 30, .inr (.inr (.inr (.inr (fun _ => none)))))), (q2, .inl (cA2, 200, .inl (fun _ => 0))), (q3, .inl (cA3, 200, .inl (fun _ => 0))), (q4, .inl (cA4, 200, .inl (fun _ => 0))), (q5, .inl (cA5, 200, .inl (fun _ => 0))), (q6, .inl (cA6, 200, .inl (fun _ => 0))), (q7, .inl (cA7, 200, .inl (fun _ => 0)))] H7 := hP
  have hD : va_D (us_Au h0 s.heap.size) [(h0, .inr (1, [.ref q1, .int 0, .ref q2, .ref q3, .ref q4, .ref q5, .ref q6, .null, .int 0, .int 0])), (q1, .inl (cA1, 30, .inr (.inr (.inr (.inr (fun _ => none)))))), (q2, .inl (cA2, 200, .inl (fun _ => 0))), (q3, .inl (cA3, 200, .inl (fun _ => 0))), (q4, .inl (cA4, 200, .inl (fun _ => 0))), (q5, .inl (cA5, 200, .inl (fun _ => 0))), (q6, .inl (cA6, 200, .inl (fun _ => 0))), (q7, .inl (cA7, 200, .inl (fun _ => 0)))] := hD
  have hK : va_K (dC, dI) vwCl [(cA1, .object RX0), (cA2, .int), (cA3, .int), (cA4, .int), (cA5, .int), (cA6, .int), (cA7, .int)] s := hK
  refine va_putF (D := (dC, dI)) (ci := 1) (v := .ref q7) (ty := (.array .int)) (C := RX1) (T := TX1) (N := 10) hx hb htb us_inX1 tyX1 tyX1_ok nmX1 hown hK hP hD hS 0 rfl rfl 7 (by decide) (htb _ mw_116) (fun _ h9 => h9) rfl hin rfl (by decide +kernel) rfl rfl (Nat.le_of_ble_eq_true rfl) dX1_init_64 (fun I7 locs hP hD hS => ?_)
  have hP : va_P (dC, dI) vwCl [(h0, .inr (1, [.ref q1, .int 0, .ref q2, .ref q3, .ref q4, .ref q5, .ref q6, .ref q7, .int 0, .int 0])), (q1, .inl (cA1, 30, .inr (.inr (.inr (.inr (fun _ => none)))))), (q2, .inl (cA2, 200, .inl (fun _ => 0))), (q3, .inl (cA3, 200, .inl (fun _ => 0))), (q4, .inl (cA4, 200, .inl (fun _ => 0))), (q5, .inl (cA5, 200, .inl (fun _ => 0))), (q6, .inl (cA6, 200, .inl (fun _ => 0))), (q7, .inl (cA7, 200, .inl (fun _ => 0)))] I7 := hP
  have hD : va_D (us_Au h0 s.heap.size) [(h0, .inr (1, [.ref q1, .int 0, .ref q2, .ref q3, .ref q4, .ref q5, .ref q6, .ref q7, .int 0, .int 0])), (q1, .inl (cA1, 30, .inr (.inr (.inr (.inr (fun _ => none)))))), (q2, .inl (cA2, 200, .inl (fun _ => 0))), (q3, .inl (cA3, 200, .inl (fun _ => 0))), (q4, .inl (cA4, 200, .inl (fun _ => 0))), (q5, .inl (cA5, 200, .inl (fun _ => 0))), (q6, .inl (cA6, 200, .inl (fun _ => 0))), (q7, .inl (cA7, 200, .inl (fun _ => 0)))] := hD
  obtain rfl : cA2 = cA3 := us_cA (hK.2 1 _ rfl).2 (hK.2 2 _ rfl).2
  obtain rfl : cA2 = cA4 := us_cA (hK.2 1 _ rfl).2 (hK.2 3 _ rfl).2
  obtain rfl : cA2 = cA5 := us_cA (hK.2 1 _ rfl).2 (hK.2 4 _ rfl).2
  obtain rfl : cA2 = cA6 := us_cA (hK.2 1 _ rfl).2 (hK.2 5 _ rfl).2
  obtain rfl : cA2 = cA7 := us_cA (hK.2 1 _ rfl).2 (hK.2 6 _ rfl).2
  have hK : va_K (dC, dI) vwCl (us_ty cA1 cA2) s := hK.sub [0, 1] rfl
  obtain ⟨ad, had⟩ : ∃ ad : Nat → Nat, ad = fun k => [h0, q1, q2, q3, q4, q5, q6, q7].getD k 0 := ⟨_, rfl⟩
  have hP : va_P (dC, dI) vwCl (us_Xf ad cA1 cA2 0 (fun _ => 0) ++ us_pl 0 (fun _ => 0) (fun _ _ => 0)) I7 := by subst had; exact us_P_0 hP
  have hD : va_D (us_Au h0 s.heap.size) (us_Xf ad cA1 cA2 0 (fun _ => 0) ++ us_pl 0 (fun _ => 0) (fun _ _ => 0)) := by subst had; exact hD
  have ha0 : ad 0 = h0 := by rw [had]; rfl
  have hl : lv_has ls 2 [(0, .ref (ad 0))] := by rw [ha0]; exact hl
  have lp69 : ∀ (n i : Nat) (pa : Nat → Nat) (H : Heap) (locs : List Loc) (ls : Array Slot), i + n = 30 → va_P (dC, dI) vwCl (us_Xf ad cA1 cA2 i pa ++ us_pl i pa (fun _ _ => 0)) H → va_D (us_Au h0 s.heap.size) (us_Xf ad cA1 cA2 i pa ++ us_pl i pa (fun _ _ => 0)) → va_S (us_Au h0 s.heap.size) s.heap H locs → lv_has ls 2 [(1, .int (nI i)), (0, .ref (ad 0))] → W p l e (headSpec wsX1_init ({ frames := 2, cells := 37, slots := 1650, locals := 32 })).room s m ([.ref h0]).toArray below meth c H locs (7 + i) (1230 + 14 * i) (MQ below (va_Qv (fun _ : Unit => True) (fun _ t => us_Bn dC dI h0 (us_Au h0 s.heap.size) t) (us_Au h0 s.heap.size)) ([.ref h0]).toArray s 37 1650 (us_Au h0 s.heap.size)) (F0 m 69 ls []) := by
    intro n
    induction n with
    | zero =>
        intro i pa H locs ls hin30 hP hD hS hl
        have hie : i = 30 := by omega
        subst hie
        refine lv_iload_n hx hb dX1_init_69 rfl (lv_at hl 0 rfl) ?_
        refine lv_bipush (v := 30) hx hb dX1_init_70 (by decide) ?_
        refine lv_icmp_ge (tgt := 94) hx hb dX1_init_72 (by decide) (fun c1 => ?_) (fun c1 => ?_)
        · exact W.vret hx hb hr (fun t ht hW => ⟨⟨(), rfl, trivial, us_Bn_of ha0 ht hP (va_K.moved hW.alike hK) hD⟩, hS.F ht⟩) hS.2.2 dX1_init_94
        · exact absurd (show (30 : Int32) ≤ nI 30 by decide) c1
      | succ n ih =>
        intro i pa H locs ls hin30 hP hD hS hl
        have hi3 : i < 30 := by omega
        have hA9 : ∀ q : Nat, s.heap.size ≤ q → (us_Au h0 s.heap.size) q := hA
        refine lv_iload_n hx hb dX1_init_69 rfl (lv_at hl 0 rfl) ?_
        refine lv_bipush (v := 30) hx hb dX1_init_70 (by decide) ?_
        refine lv_icmp_ge (tgt := 94) hx hb dX1_init_72 (by decide) (fun c1 => absurd c1 (nI_ge (a := i) (b := 30) hi3 (by omega))) (fun c1 => ?_)
        refine lv_aload_n hx hb dX1_init_75 rfl (lv_at hl 1 rfl) ?_
        refine va_get (D := (dC, dI)) (ci := 1) (v := .ref (ad 1)) (C := RX1) (T := TX1) (N := 10) hx hb htb us_inX1 hown hK hP 0 rfl rfl 0 (by decide) (htb _ mw_109) (fun _ h9 => h9) rfl dX1_init_76 ?_
        refine lv_iload_n hx hb dX1_init_79 rfl (lv_at hl 0 rfl) ?_
        have hc9 : 7 + i + 1 ≤ 37 := by omega
        have hs9 : 1230 + 14 * i + 14 ≤ 1650 := by omega
        refine va_new (ci := 0) (fs := us_u (fun _ => 0)) (C := RX0) (T := TX0) (N := 14) hx hb htb us_inX0 tyX0 tyX0_ok hown (htb _ mw_49) (htb _ mw_51) (htb _ mw_33) hK hP hD hS hA rfl us_fs0 hc9 hs9 dX1_init_80 (fun q H1 hP hD hS => ?_)
        refine lv_dup hx hb dX1_init_83 rfl ?_
        have hlen : (us_Xf ad cA1 cA2 i pa ++ us_pl i pa (fun _ _ => 0)).length = 8 + i := us_Xf_len
        have hq : ((us_Xf ad cA1 cA2 i pa ++ us_pl i pa (fun _ _ => 0)) ++ [(q, .inr (0, us_u (fun _ => 0)))])[8 + i]? = some (q, .inr (0, us_u (fun _ => 0))) := by rw [← hlen]; exact us_last
        have hPc : va_P (dC, dI) vwCl (us_wu q (fun _ => 0)) H1 := us_P_one hP hq
        refine va_callv (va_runIN (As := []) (rest := [.ref q, .int (nI i), .ref (ad 1)]) ⟨hx, hb, hml, hown, htb⟩ (kt_X0_init l dC dI q H1.size (fun _ => 0)) ⟨va_cnB 0 htb (us_g0 mw_54) rfl rfl rfl hNe (htb _ mw_33) (by decide +kernel) ⟨Nat.le_of_ble_eq_true rfl, Nat.le_of_ble_eq_true rfl⟩, rfl, htb _ mw_53⟩ ⟨us_Pu_blind, fun U hU hW => ⟨rfl, us_Pu_at hPc hK hU hW⟩⟩ rfl rfl hl.1 rfl (lv_room (Nat.le_of_ble_eq_true rfl)) dX1_init_84 ⟨by show 7 + i + 1 + 0 ≤ 37; omega, by show 1230 + 14 * i + 14 + 0 ≤ 1650; omega⟩) hS (fun q h1 h2 => absurd h2 (Nat.not_le.mpr h1)) (fun q h => hA q (Nat.le_trans hS.1 h)) (fun _ t H2 locs ht hvm hw hB hz1 hk1 hS => ?_)
        have hP := us_mono hP (fun q h => hk1 q h (Nat.not_le.mpr h))
        refine va_astq (r := (RX0, TX0, 14)) hx hb hK hP hD hS 1 0 (8 + i) 0 rfl rfl hq rfl (vp_in_nI hi3 (by decide)) dX1_init_87 (fun H3 locs hP hD hS => ?_)
        rw [nI_clamp (n := i) (by omega)] at hP hD
        have hP : va_P (dC, dI) vwCl (us_Xf ad cA1 cA2 (i + 1) (va_up pa i q) ++ us_pl (i + 1) (va_up pa i q) (fun _ _ => 0)) H3 := by rw [us_Xf_next]; exact hP
        have hD : va_D (us_Au h0 s.heap.size) (us_Xf ad cA1 cA2 (i + 1) (va_up pa i q) ++ us_pl (i + 1) (va_up pa i q) (fun _ _ => 0)) := by rw [us_Xf_next]; exact hD
        refine lv_iinc (v := (nI (i + 1))) (lv' := [(1, .int (nI (i + 1))), (0, .ref (ad 0))]) hx hb dX1_init_88 hl (k := 0) rfl (nI_1 i) (by decide) rfl (fun ls hl => ?_)
        refine lv_goto (tgt := 69) hx hb dX1_init_91 (by decide) ?_
        refine W.widen (k := 7 + (i + 1)) (n := 1230 + 14 * (i + 1)) (by omega) (by omega) ?_
        exact ih (i + 1) _ _ _ _ (by omega) hP hD hS hl
  refine lv_iconst (v := 0) hx hb dX1_init_67 (by decide) ?_
  refine lv_istore_n (lv' := [(1, .int 0), (0, .ref (ad 0))]) hx hb dX1_init_68 rfl hl (by decide) rfl (fun ls hl => ?_)
  exact lp69 30 0 (fun _ => 0) _ _ _ (by omega) hP hD hS hl
set_option maxHeartbeats 16000000 in
set_option maxRecDepth 100000 in
theorem kt_X2_init (l : Launch) (dC : Nat → ClassId) (dI : Nat → Nat → Nat) (h0 sz : Nat) : Met l yX2_init wsX2_init ({ frames := 1, cells := 6, slots := 860, locals := 12 }) (va_Pc [.ref h0] (um_Pn dC dI h0 [(h0, .inr (2, [.int 0, .int 0, .null, .null, .int 0, .null, .null, .null, .null, .int 0, .int 0, .int 0, .int 0, .int 0, .int 0, .int 0, .int 0, .int 0, .int 0, .int 0, .int 0, .int 0, .int 0]))] sz)) (va_Qv (fun _ : Unit => True) (fun _ t => um_Bn dC dI h0 (us_Au h0 sz) t) (us_Au h0 sz)) 6 860 (us_Au h0 sz) := by
  refine Met.ofW (cc := cX2_init) (maxL := 1) (ret := none) (by decide) rfl ?_
  intro p e s m args below meth c s₁ B hml hv
  obtain ⟨rfl, hsz, hP, hK⟩ := hv
  have hx := B.exec
  have hb := B.bytes
  have hr := B.returns
  have htb := us_htb (atoms_spec (ws := wsX2_init) B.pre)
  have hown : s.vm.findClass RX2 = some m.cls := findClass_of_methodNamed B.named
  have hlocks := B.notSynchronized
  have hin : meth.name = "<init>" := (name_of_methodNamed B.named B.method).1
  subst hsz
  have hA : ∀ q : Nat, s.heap.size ≤ q → (us_Au h0 s.heap.size) q := fun q h => Or.inr h
  have hS : va_S (us_Au h0 s.heap.size) s.heap s.heap [] := va_S.rf
  have hD : va_D (us_Au h0 s.heap.size) [(h0, .inr (2, [.int 0, .int 0, .null, .null, .int 0, .null, .null, .null, .null, .int 0, .int 0, .int 0, .int 0, .int 0, .int 0, .int 0, .int 0, .int 0, .int 0, .int 0, .int 0, .int 0, .int 0]))] := us_D1 (Or.inl rfl)
  have hP : va_P (dC, dI) vwCl [(h0, .inr (2, [.int 0, .int 0, .null, .null, .int 0, .null, .null, .null, .null, .int 0, .int 0, .int 0, .int 0, .int 0, .int 0, .int 0, .int 0, .int 0, .int 0, .int 0, .int 0, .int 0, .int 0]))] s.heap := hP
  have hl := lv_entry ([.ref h0]) (n := 1) (Nat.le_of_ble_eq_true rfl)
  rw [lg_entry_eq]
  generalize (lg_sl ([.ref h0]) ++ List.replicate (1 - (lg_sl ([.ref h0])).length) Slot.unset).toArray = ls at hl ⊢
  have hl : lv_has ls 1 [(0, .ref h0)] := hl
  refine lv_aload_n hx hb dX2_init_0 rfl (lv_at hl 0 rfl) ?_
  refine W.objInit hx hb hown (htb _ mw_422) (htb _ mw_47) (htb _ mw_48) rfl (by rw [hml]; exact hl.1) rfl dX2_init_1 (Nat.le_of_ble_eq_true rfl) (Nat.le_of_ble_eq_true rfl) ?_
  refine W.eq (g2 := F0 m 4 ls []) rfl ?_
  refine lv_aload_n hx hb dX2_init_4 rfl (lv_at hl 0 rfl) ?_
  refine lv_bipush (v := 30) hx hb dX2_init_5 (by decide) ?_
  refine va_newa (atype := .int) (a0 := (30, .inl (fun _ => 0))) (ty := .int) hx hb (htb _ mw_108) rfl hK hP hD hS hA (N' := 30) (fun _ => rfl) (by decide) (by decide) (by decide) (Nat.le_of_ble_eq_true rfl) (Nat.le_of_ble_eq_true rfl) dX2_init_7 (fun q1 cA1 H1 hK hP hD hS => ?_)
  have hP : va_P (dC, dI) vwCl [(h0, .inr (2, [.int 0, .int 0, .null, .null, .int 0, .null, .null, .null, .null, .int 0, .int 0, .int 0, .int 0, .int 0, .int 0, .int 0, .int 0, .int 0, .int 0, .int 0, .int 0, .int 0, .int 0])), (q1, .inl (cA1, 30, .inl (fun _ => 0)))] H1 := hP
  have hD : va_D (us_Au h0 s.heap.size) [(h0, .inr (2, [.int 0, .int 0, .null, .null, .int 0, .null, .null, .null, .null, .int 0, .int 0, .int 0, .int 0, .int 0, .int 0, .int 0, .int 0, .int 0, .int 0, .int 0, .int 0, .int 0, .int 0])), (q1, .inl (cA1, 30, .inl (fun _ => 0)))] := hD
  have hK : va_K (dC, dI) vwCl [(cA1, .int)] s := hK
  refine va_putF (D := (dC, dI)) (ci := 2) (v := .ref q1) (ty := (.array .int)) (C := RX2) (T := TX2) (N := 23) hx hb htb us_inX2 tyX2 tyX2_ok nmX2 hown hK hP hD hS 0 rfl rfl 2 (by decide) (htb _ mw_425) (fun _ h9 => h9) rfl hin rfl (by decide +kernel) rfl rfl (Nat.le_of_ble_eq_true rfl) dX2_init_9 (fun I1 locs hP hD hS => ?_)
  have hP : va_P (dC, dI) vwCl [(h0, .inr (2, [.int 0, .int 0, .ref q1, .null, .int 0, .null, .null, .null, .null, .int 0, .int 0, .int 0, .int 0, .int 0, .int 0, .int 0, .int 0, .int 0, .int 0, .int 0, .int 0, .int 0, .int 0])), (q1, .inl (cA1, 30, .inl (fun _ => 0)))] I1 := hP
  have hD : va_D (us_Au h0 s.heap.size) [(h0, .inr (2, [.int 0, .int 0, .ref q1, .null, .int 0, .null, .null, .null, .null, .int 0, .int 0, .int 0, .int 0, .int 0, .int 0, .int 0, .int 0, .int 0, .int 0, .int 0, .int 0, .int 0, .int 0])), (q1, .inl (cA1, 30, .inl (fun _ => 0)))] := hD
  refine lv_aload_n hx hb dX2_init_12 rfl (lv_at hl 0 rfl) ?_
  refine lv_bipush (v := 30) hx hb dX2_init_13 (by decide) ?_
  refine va_newa (atype := .int) (a0 := (30, .inl (fun _ => 0))) (ty := .int) hx hb (htb _ mw_108) rfl hK hP hD hS hA (N' := 30) (fun _ => rfl) (by decide) (by decide) (by decide) (Nat.le_of_ble_eq_true rfl) (Nat.le_of_ble_eq_true rfl) dX2_init_15 (fun q2 cA2 H2 hK hP hD hS => ?_)
  have hP : va_P (dC, dI) vwCl [(h0, .inr (2, [.int 0, .int 0, .ref q1, .null, .int 0, .null, .null, .null, .null, .int 0, .int 0, .int 0, .int 0, .int 0, .int 0, .int 0, .int 0, .int 0, .int 0, .int 0, .int 0, .int 0, .int 0])), (q1, .inl (cA1, 30, .inl (fun _ => 0))), (q2, .inl (cA2, 30, .inl (fun _ => 0)))] H2 := hP
  have hD : va_D (us_Au h0 s.heap.size) [(h0, .inr (2, [.int 0, .int 0, .ref q1, .null, .int 0, .null, .null, .null, .null, .int 0, .int 0, .int 0, .int 0, .int 0, .int 0, .int 0, .int 0, .int 0, .int 0, .int 0, .int 0, .int 0, .int 0])), (q1, .inl (cA1, 30, .inl (fun _ => 0))), (q2, .inl (cA2, 30, .inl (fun _ => 0)))] := hD
  have hK : va_K (dC, dI) vwCl [(cA1, .int), (cA2, .int)] s := hK
  refine va_putF (D := (dC, dI)) (ci := 2) (v := .ref q2) (ty := (.array .int)) (C := RX2) (T := TX2) (N := 23) hx hb htb us_inX2 tyX2 tyX2_ok nmX2 hown hK hP hD hS 0 rfl rfl 3 (by decide) (htb _ mw_426) (fun _ h9 => h9) rfl hin rfl (by decide +kernel) rfl rfl (Nat.le_of_ble_eq_true rfl) dX2_init_17 (fun I2 locs hP hD hS => ?_)
  have hP : va_P (dC, dI) vwCl [(h0, .inr (2, [.int 0, .int 0, .ref q1, .ref q2, .int 0, .null, .null, .null, .null, .int 0, .int 0, .int 0, .int 0, .int 0, .int 0, .int 0, .int 0, .int 0, .int 0, .int 0, .int 0, .int 0, .int 0])), (q1, .inl (cA1, 30, .inl (fun _ => 0))), (q2, .inl (cA2, 30, .inl (fun _ => 0)))] I2 := hP
  have hD : va_D (us_Au h0 s.heap.size) [(h0, .inr (2, [.int 0, .int 0, .ref q1, .ref q2, .int 0, .null, .null, .null, .null, .int 0, .int 0, .int 0, .int 0, .int 0, .int 0, .int 0, .int 0, .int 0, .int 0, .int 0, .int 0, .int 0, .int 0])), (q1, .inl (cA1, 30, .inl (fun _ => 0))), (q2, .inl (cA2, 30, .inl (fun _ => 0)))] := hD
  refine lv_aload_n hx hb dX2_init_20 rfl (lv_at hl 0 rfl) ?_
  refine lv_sipush (v := 200) hx hb dX2_init_21 (by decide) ?_
  refine va_newa (atype := .int) (a0 := (200, .inl (fun _ => 0))) (ty := .int) hx hb (htb _ mw_108) rfl hK hP hD hS hA (N' := 200) (fun _ => rfl) (by decide) (by decide) (by decide) (Nat.le_of_ble_eq_true rfl) (Nat.le_of_ble_eq_true rfl) dX2_init_24 (fun q3 cA3 H3 hK hP hD hS => ?_)
  have hP : va_P (dC, dI) vwCl [(h0, .inr (2, [.int 0, .int 0, .ref q1, .ref q2, .int 0, .null, .null, .null, .null, .int 0, .int 0, .int 0, .int 0, .int 0, .int 0, .int 0, .int 0, .int 0, .int 0, .int 0, .int 0, .int 0, .int 0])), (q1, .inl (cA1, 30, .inl (fun _ => 0))), (q2, .inl (cA2, 30, .inl (fun _ => 0))), (q3, .inl (cA3, 200, .inl (fun _ => 0)))] H3 := hP
  have hD : va_D (us_Au h0 s.heap.size) [(h0, .inr (2, [.int 0, .int 0, .ref q1, .ref q2, .int 0, .null, .null, .null, .null, .int 0, .int 0, .int 0, .int 0, .int 0, .int 0, .int 0, .int 0, .int 0, .int 0, .int 0, .int 0, .int 0, .int 0])), (q1, .inl (cA1, 30, .inl (fun _ => 0))), (q2, .inl (cA2, 30, .inl (fun _ => 0))), (q3, .inl (cA3, 200, .inl (fun _ => 0)))] := hD
  have hK : va_K (dC, dI) vwCl [(cA1, .int), (cA2, .int), (cA3, .int)] s := hK
  refine va_putF (D := (dC, dI)) (ci := 2) (v := .ref q3) (ty := (.array .int)) (C := RX2) (T := TX2) (N := 23) hx hb htb us_inX2 tyX2 tyX2_ok nmX2 hown hK hP hD hS 0 rfl rfl 5 (by decide) (htb _ mw_428) (fun _ h9 => h9) rfl hin rfl (by decide +kernel) rfl rfl (Nat.le_of_ble_eq_true rfl) dX2_init_26 (fun I3 locs hP hD hS => ?_)
  have hP : va_P (dC, dI) vwCl [(h0, .inr (2, [.int 0, .int 0, .ref q1, .ref q2, .int 0, .ref q3, .null, .null, .null, .int 0, .int 0, .int 0, .int 0, .int 0, .int 0, .int 0, .int 0, .int 0, .int 0, .int 0, .int 0, .int 0, .int 0])), (q1, .inl (cA1, 30, .inl (fun _ => 0))), (q2, .inl (cA2, 30, .inl (fun _ => 0))), (q3, .inl (cA3, 200, .inl (fun _ => 0)))] I3 := hP
  have hD : va_D (us_Au h0 s.heap.size) [(h0, .inr (2, [.int 0, .int 0, .ref q1, .ref q2, .int 0, .ref q3, .null, .null, .null, .int 0, .int 0, .int 0, .int 0, .int 0, .int 0, .int 0, .int 0, .int 0, .int 0, .int 0, .int 0, .int 0, .int 0])), (q1, .inl (cA1, 30, .inl (fun _ => 0))), (q2, .inl (cA2, 30, .inl (fun _ => 0))), (q3, .inl (cA3, 200, .inl (fun _ => 0)))] := hD
  refine lv_aload_n hx hb dX2_init_29 rfl (lv_at hl 0 rfl) ?_
  refine lv_sipush (v := 200) hx hb dX2_init_30 (by decide) ?_
  refine va_newa (atype := .int) (a0 := (200, .inl (fun _ => 0))) (ty := .int) hx hb (htb _ mw_108) rfl hK hP hD hS hA (N' := 200) (fun _ => rfl) (by decide) (by decide) (by decide) (Nat.le_of_ble_eq_true rfl) (Nat.le_of_ble_eq_true rfl) dX2_init_33 (fun q4 cA4 H4 hK hP hD hS => ?_)
  have hP : va_P (dC, dI) vwCl [(h0, .inr (2, [.int 0, .int 0, .ref q1, .ref q2, .int 0, .ref q3, .null, .null, .null, .int 0, .int 0, .int 0, .int 0, .int 0, .int 0, .int 0, .int 0, .int 0, .int 0, .int 0, .int 0, .int 0, .int 0])), (q1, .inl (cA1, 30, .inl (fun _ => 0))), (q2, .inl (cA2, 30, .inl (fun _ => 0))), (q3, .inl (cA3, 200, .inl (fun _ => 0))), (q4, .inl (cA4, 200, .inl (fun _ => 0)))] H4 := hP
  have hD : va_D (us_Au h0 s.heap.size) [(h0, .inr (2, [.int 0, .int 0, .ref q1, .ref q2, .int 0, .ref q3, .null, .null, .null, .int 0, .int 0, .int 0, .int 0, .int 0, .int 0, .int 0, .int 0, .int 0, .int 0, .int 0, .int 0, .int 0, .int 0])), (q1, .inl (cA1, 30, .inl (fun _ => 0))), (q2, .inl (cA2, 30, .inl (fun _ => 0))), (q3, .inl (cA3, 200, .inl (fun _ => 0))), (q4, .inl (cA4, 200, .inl (fun _ => 0)))] := hD
  have hK : va_K (dC, dI) vwCl [(cA1, .int), (cA2, .int), (cA3, .int), (cA4, .int)] s := hK
  refine va_putF (D := (dC, dI)) (ci := 2) (v := .ref q4) (ty := (.array .int)) (C := RX2) (T := TX2) (N := 23) hx hb htb us_inX2 tyX2 tyX2_ok nmX2 hown hK hP hD hS 0 rfl rfl 6 (by decide) (htb _ mw_429) (fun _ h9 => h9) rfl hin rfl (by decide +kernel) rfl rfl (Nat.le_of_ble_eq_true rfl) dX2_init_35 (fun I4 locs hP hD hS => ?_)
  have hP : va_P (dC, dI) vwCl [(h0, .inr (2, [.int 0, .int 0, .ref q1, .ref q2, .int 0, .ref q3, .ref q4, .null, .null, .int 0, .int 0, .int 0, .int 0, .int 0, .int 0, .int 0, .int 0, .int 0, .int 0, .int 0, .int 0, .int 0, .int 0])), (q1, .inl (cA1, 30, .inl (fun _ => 0))), (q2, .inl (cA2, 30, .inl (fun _ => 0))), (q3, .inl (cA3, 200, .inl (fun _ => 0))), (q4, .inl (cA4, 200, .inl (fun _ => 0)))] I4 := hP
  have hD : va_D (us_Au h0 s.heap.size) [(h0, .inr (2, [.int 0, .int 0, .ref q1, .ref q2, .int 0, .ref q3, .ref q4, .null, .null, .int 0, .int 0, .int 0, .int 0, .int 0, .int 0, .int 0, .int 0, .int 0, .int 0, .int 0, .int 0, .int 0, .int 0])), (q1, .inl (cA1, 30, .inl (fun _ => 0))), (q2, .inl (cA2, 30, .inl (fun _ => 0))), (q3, .inl (cA3, 200, .inl (fun _ => 0))), (q4, .inl (cA4, 200, .inl (fun _ => 0)))] := hD
  refine lv_aload_n hx hb dX2_init_38 rfl (lv_at hl 0 rfl) ?_
  refine lv_sipush (v := 200) hx hb dX2_init_39 (by decide) ?_
  refine va_newa (atype := .int) (a0 := (200, .inl (fun _ => 0))) (ty := .int) hx hb (htb _ mw_108) rfl hK hP hD hS hA (N' := 200) (fun _ => rfl) (by decide) (by decide) (by decide) (Nat.le_of_ble_eq_true rfl) (Nat.le_of_ble_eq_true rfl) dX2_init_42 (fun q5 cA5 H5 hK hP hD hS => ?_)
  have hP : va_P (dC, dI) vwCl [(h0, .inr (2, [.int 0, .int 0, .ref q1, .ref q2, .int 0, .ref q3, .ref q4, .null, .null, .int 0, .int 0, .int 0, .int 0, .int 0, .int 0, .int 0, .int 0, .int 0, .int 0, .int 0, .int 0, .int 0, .int 0])), (q1, .inl (cA1, 30, .inl (fun _ => 0))), (q2, .inl (cA2, 30, .inl (fun _ => 0))), (q3, .inl (cA3, 200, .inl (fun _ => 0))), (q4, .inl (cA4, 200, .inl (fun _ => 0))), (q5, .inl (cA5, 200, .inl (fun _ => 0)))] H5 := hP
  have hD : va_D (us_Au h0 s.heap.size) [(h0, .inr (2, [.int 0, .int 0, .ref q1, .ref q2, .int 0, .ref q3, .ref q4, .null, .null, .int 0, .int 0, .int 0, .int 0, .int 0, .int 0, .int 0, .int 0, .int 0, .int 0, .int 0, .int 0, .int 0, .int 0])), (q1, .inl (cA1, 30, .inl (fun _ => 0))), (q2, .inl (cA2, 30, .inl (fun _ => 0))), (q3, .inl (cA3, 200, .inl (fun _ => 0))), (q4, .inl (cA4, 200, .inl (fun _ => 0))), (q5, .inl (cA5, 200, .inl (fun _ => 0)))] := hD
  have hK : va_K (dC, dI) vwCl [(cA1, .int), (cA2, .int), (cA3, .int), (cA4, .int), (cA5, .int)] s := hK
  refine va_putF (D := (dC, dI)) (ci := 2) (v := .ref q5) (ty := (.array .int)) (C := RX2) (T := TX2) (N := 23) hx hb htb us_inX2 tyX2 tyX2_ok nmX2 hown hK hP hD hS 0 rfl rfl 7 (by decide) (htb _ mw_430) (fun _ h9 => h9) rfl hin rfl (by decide +kernel) rfl rfl (Nat.le_of_ble_eq_true rfl) dX2_init_44 (fun I5 locs hP hD hS => ?_)
  have hP : va_P (dC, dI) vwCl [(h0, .inr (2, [.int 0, .int 0, .ref q1, .ref q2, .int 0, .ref q3, .ref q4, .ref q5, .null, .int 0, .int 0, .int 0, .int 0, .int 0, .int 0, .int 0, .int 0, .int 0, .int 0, .int 0, .int 0, .int 0, .int 0])), (q1, .inl (cA1, 30, .inl (fun _ => 0))), (q2, .inl (cA2, 30, .inl (fun _ => 0))), (q3, .inl (cA3, 200, .inl (fun _ => 0))), (q4, .inl (cA4, 200, .inl (fun _ => 0))), (q5, .inl (cA5, 200, .inl (fun _ => 0)))] I5 := hP
  have hD : va_D (us_Au h0 s.heap.size) [(h0, .inr (2, [.int 0, .int 0, .ref q1, .ref q2, .int 0, .ref q3, .ref q4, .ref q5, .null, .int 0, .int 0, .int 0, .int 0, .int 0, .int 0, .int 0, .int 0, .int 0, .int 0, .int 0, .int 0, .int 0, .int 0])), (q1, .inl (cA1, 30, .inl (fun _ => 0))), (q2, .inl (cA2, 30, .inl (fun _ => 0))), (q3, .inl (cA3, 200, .inl (fun _ => 0))), (q4, .inl (cA4, 200, .inl (fun _ => 0))), (q5, .inl (cA5, 200, .inl (fun _ => 0)))] := hD
  refine lv_aload_n hx hb dX2_init_47 rfl (lv_at hl 0 rfl) ?_
  refine lv_sipush (v := 200) hx hb dX2_init_48 (by decide) ?_
  refine va_newa (atype := .int) (a0 := (200, .inl (fun _ => 0))) (ty := .int) hx hb (htb _ mw_108) rfl hK hP hD hS hA (N' := 200) (fun _ => rfl) (by decide) (by decide) (by decide) (Nat.le_of_ble_eq_true rfl) (Nat.le_of_ble_eq_true rfl) dX2_init_51 (fun q6 cA6 H6 hK hP hD hS => ?_)
  have hP : va_P (dC, dI) vwCl [(h0, .inr (2, [.int 0, .int 0, .ref q1, .ref q2, .int 0, .ref q3, .ref q4, .ref q5, .null, .int 0, .int 0, .int 0, .int 0, .int 0, .int 0, .int 0, .int 0, .int 0, .int 0, .int 0, .int 0, .int 0, .int 0])), (q1, .inl (cA1, 30, .inl (fun _ => 0))), (q2, .inl (cA2, 30, .inl (fun _ => 0))), (q3, .inl (cA3, 200, .inl (fun _ => 0))), (q4, .inl (cA4, 200, .inl (fun _ => 0))), (q5, .inl (cA5, 200, .inl (fun _ => 0))), (q6, .inl (cA6, 200, .inl (fun _ => 0)))] H6 := hP
  have hD : va_D (us_Au h0 s.heap.size) [(h0, .inr (2, [.int 0, .int 0, .ref q1, .ref q2, .int 0, .ref q3, .ref q4, .ref q5, .null, .int 0, .int 0, .int 0, .int 0, .int 0, .int 0, .int 0, .int 0, .int 0, .int 0, .int 0, .int 0, .int 0, .int 0])), (q1, .inl (cA1, 30, .inl (fun _ => 0))), (q2, .inl (cA2, 30, .inl (fun _ => 0))), (q3, .inl (cA3, 200, .inl (fun _ => 0))), (q4, .inl (cA4, 200, .inl (fun _ => 0))), (q5, .inl (cA5, 200, .inl (fun _ => 0))), (q6, .inl (cA6, 200, .inl (fun _ => 0)))] := hD
  have hK : va_K (dC, dI) vwCl [(cA1, .int), (cA2, .int), (cA3, .int), (cA4, .int), (cA5, .int), (cA6, .int)] s := hK
  refine va_putF (D := (dC, dI)) (ci := 2) (v := .ref q6) (ty := (.array .int)) (C := RX2) (T := TX2) (N := 23) hx hb htb us_inX2 tyX2 tyX2_ok nmX2 hown hK hP hD hS 0 rfl rfl 8 (by decide) (htb _ mw_431) (fun _ h9 => h9) rfl hin rfl (by decide +kernel) rfl rfl (Nat.le_of_ble_eq_true rfl) dX2_init_53 (fun I6 locs hP hD hS => ?_)
  have hP : va_P (dC, dI) vwCl [(h0, .inr (2, [.int 0, .int 0, .ref q1, .ref q2, .int 0, .ref q3, .ref q4, .ref q5, .ref q6, .int 0, .int 0, .int 0, .int 0, .int 0, .int 0, .int 0, .int 0, .int 0, .int 0, .int 0, .int 0, .int 0, .int 0])), (q1, .inl (cA1, 30, .inl (fun _ => 0))), (q2, .inl (cA2, 30, .inl (fun _ => 0))), (q3, .inl (cA3, 200, .inl (fun _ => 0))), (q4, .inl (cA4, 200, .inl (fun _ => 0))), (q5, .inl (cA5, 200, .inl (fun _ => 0))), (q6, .inl (cA6, 200, .inl (fun _ => 0)))] I6 := hP
  have hD : va_D (us_Au h0 s.heap.size) [(h0, .inr (2, [.int 0, .int 0, .ref q1, .ref q2, .int 0, .ref q3, .ref q4, .ref q5, .ref q6, .int 0, .int 0, .int 0, .int 0, .int 0, .int 0, .int 0, .int 0, .int 0, .int 0, .int 0, .int 0, .int 0, .int 0])), (q1, .inl (cA1, 30, .inl (fun _ => 0))), (q2, .inl (cA2, 30, .inl (fun _ => 0))), (q3, .inl (cA3, 200, .inl (fun _ => 0))), (q4, .inl (cA4, 200, .inl (fun _ => 0))), (q5, .inl (cA5, 200, .inl (fun _ => 0))), (q6, .inl (cA6, 200, .inl (fun _ => 0)))] := hD
  obtain rfl : cA1 = cA2 := us_cA (hK.2 0 _ rfl).2 (hK.2 1 _ rfl).2
  obtain rfl : cA1 = cA3 := us_cA (hK.2 0 _ rfl).2 (hK.2 2 _ rfl).2
  obtain rfl : cA1 = cA4 := us_cA (hK.2 0 _ rfl).2 (hK.2 3 _ rfl).2
  obtain rfl : cA1 = cA5 := us_cA (hK.2 0 _ rfl).2 (hK.2 4 _ rfl).2
  obtain rfl : cA1 = cA6 := us_cA (hK.2 0 _ rfl).2 (hK.2 5 _ rfl).2
  have hK : va_K (dC, dI) vwCl [(cA1, .int)] s := hK.sub [0] rfl
  exact W.vret hx hb hr (fun t ht hW => ⟨⟨(), rfl, trivial, (fun k => [h0, q1, q2, q3, q4, q5, q6].getD k 0), cA1, rfl, by rw [ht]; exact hP, va_K.moved hW.alike hK, hD⟩, hS.F ht⟩) hS.2.2 dX2_init_56
