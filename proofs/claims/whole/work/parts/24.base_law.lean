theorem mw_143 : Cond.classLink RL 13 "java/lang/IndexOutOfBoundsException" ∈ us_big := us_in 143 (by decide +kernel) rfl
theorem mw_144 : Cond.classLink RL 15 "java/lang/UnsupportedOperationException" ∈ us_big := us_in 144 (by decide +kernel) rfl
theorem mw_145 : Cond.methodLink RL 7 yX1_unit ∈ us_big := us_in 145 (by decide +kernel) rfl
theorem mw_146 : Cond.instanceMethod yX1_unit ∈ us_big := us_in 146 (by decide +kernel) rfl
theorem mw_147 : Cond.selects RX1 yX1_unit yX1_unit ∈ us_big := us_in 147 (by decide +kernel) rfl
theorem mw_148 : Cond.code yX1_unit cX1_unit 3 (some .int) ∈ us_big := us_in 148 rfl rfl
theorem mw_244 : Cond.classLink RL 21 "java/lang/IllegalArgumentException" ∈ us_big := us_in 244 (by decide +kernel) rfl
theorem mw_245 : Cond.methodLink RL 17 yX1_message ∈ us_big := us_in 245 (by decide +kernel) rfl
theorem mw_246 : Cond.instanceMethod yX1_message ∈ us_big := us_in 246 (by decide +kernel) rfl
theorem mw_247 : Cond.selects RX1 yX1_message yX1_message ∈ us_big := us_in 247 (by decide +kernel) rfl
theorem mw_248 : Cond.code yX1_message cX1_message 5 (some .int) ∈ us_big := us_in 248 rfl rfl
theorem mw_288 : Cond.methodLink RL 23 yX1_at ∈ us_big := us_in 288 (by decide +kernel) rfl
theorem mw_289 : Cond.instanceMethod yX1_at ∈ us_big := us_in 289 (by decide +kernel) rfl
theorem mw_290 : Cond.selects RX1 yX1_at yX1_at ∈ us_big := us_in 290 (by decide +kernel) rfl
theorem mw_291 : Cond.code yX1_at cX1_at 5 (some .int) ∈ us_big := us_in 291 rfl rfl
theorem mw_359 : Cond.methodLink RL 27 yX1_place ∈ us_big := us_in 359 (by decide +kernel) rfl
theorem mw_360 : Cond.instanceMethod yX1_place ∈ us_big := us_in 360 (by decide +kernel) rfl
theorem mw_361 : Cond.selects RX1 yX1_place yX1_place ∈ us_big := us_in 361 (by decide +kernel) rfl
theorem mw_362 : Cond.code yX1_place cX1_place 3 (some .int) ∈ us_big := us_in 362 rfl rfl
theorem mw_370 : Cond.methodLink RL 30 yX1_age ∈ us_big := us_in 370 (by decide +kernel) rfl
theorem mw_371 : Cond.instanceMethod yX1_age ∈ us_big := us_in 371 (by decide +kernel) rfl
theorem mw_372 : Cond.selects RX1 yX1_age yX1_age ∈ us_big := us_in 372 (by decide +kernel) rfl
theorem mw_373 : Cond.code yX1_age cX1_age 4 (some .int) ∈ us_big := us_in 373 rfl rfl
theorem mw_377 : Cond.methodLink RL 33 yX1_expected ∈ us_big := us_in 377 (by decide +kernel) rfl
theorem mw_378 : Cond.instanceMethod yX1_expected ∈ us_big := us_in 378 (by decide +kernel) rfl
theorem mw_379 : Cond.selects RX1 yX1_expected yX1_expected ∈ us_big := us_in 379 (by decide +kernel) rfl
theorem mw_380 : Cond.code yX1_expected cX1_expected 3 (some .int) ∈ us_big := us_in 380 rfl rfl
theorem mw_384 : Cond.methodLink RL 36 yX1_wrong ∈ us_big := us_in 384 (by decide +kernel) rfl
theorem mw_385 : Cond.instanceMethod yX1_wrong ∈ us_big := us_in 385 (by decide +kernel) rfl
theorem mw_386 : Cond.selects RX1 yX1_wrong yX1_wrong ∈ us_big := us_in 386 (by decide +kernel) rfl
theorem mw_387 : Cond.code yX1_wrong cX1_wrong 2 (some .int) ∈ us_big := us_in 387 rfl rfl
theorem mw_392 : Cond.methodLink RL 40 yX1_told ∈ us_big := us_in 392 (by decide +kernel) rfl
theorem mw_393 : Cond.instanceMethod yX1_told ∈ us_big := us_in 393 (by decide +kernel) rfl
theorem mw_394 : Cond.selects RX1 yX1_told yX1_told ∈ us_big := us_in 394 (by decide +kernel) rfl
theorem mw_395 : Cond.code yX1_told cX1_told 2 (some .int) ∈ us_big := us_in 395 rfl rfl
theorem mw_403 : Cond.methodLink RL 43 yX1_many ∈ us_big := us_in 403 (by decide +kernel) rfl
theorem mw_404 : Cond.instanceMethod yX1_many ∈ us_big := us_in 404 (by decide +kernel) rfl
theorem mw_405 : Cond.selects RX1 yX1_many yX1_many ∈ us_big := us_in 405 (by decide +kernel) rfl
set_option maxRecDepth 100000 in
theorem mw_406 : Cond.code yX1_many cX1_many 5 (some .int) ∈ us_big := us_in 406 rfl rfl
theorem mw_411 : Cond.methodLink RL 46 yX1_arrived ∈ us_big := us_in 411 (by decide +kernel) rfl
theorem mw_412 : Cond.instanceMethod yX1_arrived ∈ us_big := us_in 412 (by decide +kernel) rfl
theorem mw_413 : Cond.selects RX1 yX1_arrived yX1_arrived ∈ us_big := us_in 413 (by decide +kernel) rfl
set_option maxRecDepth 100000 in
theorem mw_414 : Cond.code yX1_arrived cX1_arrived 5 (some .int) ∈ us_big := us_in 414 rfl rfl
/-! the law's helpers: the class's world, the law's row for answers -/
def lh_w (ao : Nat) (cJ : ClassId) (o : Nat → Int64) : va_W := [(ao, .inl (cJ, 1, .inr (.inl o)))]
def lh_P (dC : Nat → ClassId) (dI : Nat → Nat → Nat) (ad : Nat → Nat) (cU cI : ClassId) (pa : Nat → Nat) (nu nm : Nat) (nk : Int32) (F U : Nat → Nat → Int32) (ao : Nat) (cJ : ClassId) (o : Nat → Int64) (sz : Nat) (S : State) : Prop :=
  us_Px dC dI ad cU cI pa nu nm nk F U (us_AA (ao :: us_ads ad pa) sz) sz S ∧ va_P (dC, dI) vwCl (lh_w ao cJ o) S.heap ∧ va_K (dC, dI) vwCl [(cJ, .long)] S
def lh_B (dC : Nat → ClassId) (dI : Nat → Nat → Nat) (ad : Nat → Nat) (cU cI : ClassId) (pa : Nat → Nat) (nu nm : Nat) (nk : Int32) (F U : Nat → Nat → Int32) (ao : Nat) (cJ : ClassId) (Z : (Nat → Int64) → Prop) (t : State) : Prop :=
  us_Bx dC dI ad cU cI pa nu nm nk F U t ∧ ∃ o : Nat → Int64, va_P (dC, dI) vwCl (lh_w ao cJ o) t.heap ∧ Z o
theorem lh_blind {av : List Value} {dC : Nat → ClassId} {dI : Nat → Nat → Nat} {ad : Nat → Nat} {cU cI : ClassId} {pa : Nat → Nat} {nu nm : Nat} {nk : Int32} {F U : Nat → Nat → Int32} {ao : Nat} {cJ : ClassId} {o : Nat → Int64} {sz : Nat} : FrameBlind (va_Pc av (lh_P dC dI ad cU cI pa nu nm nk F U ao cJ o sz)) :=
  fun a S g mk q => ⟨q.1, (us_Px_blind (av := av) a S g mk ⟨q.1, q.2.1⟩).2, q.2.2.1, va_K.moved (u := S) (U := S.calling g mk a) (Vm.Alike.refl S.vm) q.2.2.2⟩
/-- a world whose addresses were not written stays -/
theorem lh_keep {D : va_G} {cl : List vw_C} {ws : va_W} {as : List Nat} {H H1 : Heap} (hP : va_P D cl ws H) (hd : ∀ x ∈ us_adr ws, x ∉ as) (hk : ∀ q : Nat, q < H.size → ¬ us_AA as H.size q → H1[q]? = H[q]?) : va_P D cl ws H1 := by
  refine hP.kept (fun k q h => hk q.1 (hP k q h).lt ?_)
  rintro (h1 | h1)
  · exact hd q.1 (List.mem_map.mpr ⟨q, List.mem_of_getElem? h, rfl⟩) h1
  · have := (hP k q h).lt
    omega
theorem lh_cons {D : va_G} {cl : List vw_C} {x : Nat × va_E} {ws : va_W} {H : Heap} (h1 : va_P D cl [x] H) (h2 : va_P D cl ws H) : va_P D cl (x :: ws) H := by
  intro k q hk
  match k, hk with
  | 0, hk => exact h1 0 q hk
  | k + 1, hk => exact h2 k q hk
theorem lh_hd {D : va_G} {cl : List vw_C} {x : Nat × va_E} {ws : va_W} {H : Heap} (h : va_P D cl (x :: ws) H) : va_P D cl [x] H := us_P_one (k := 0) h rfl
theorem lh_tl {D : va_G} {cl : List vw_C} {x : Nat × va_E} {ws : va_W} {H : Heap} (h : va_P D cl (x :: ws) H) : va_P D cl ws H := fun k q hk => h (k + 1) q hk
theorem lh_D {A : Nat → Prop} {x : Nat × va_E} {ws : va_W} (hx : A x.1) (hn : x.1 ∉ us_adr ws) (hD : va_D A ws) : va_D A (x :: ws) := by
  have key : ∀ (k : Nat) (q : Nat × va_E), ws[k]? = some q → q.1 ∈ us_adr ws := fun k q h => List.mem_map.mpr ⟨q, List.mem_of_getElem? h, rfl⟩
  refine ⟨fun i j p q hi hj hpq => ?_, fun k q hk => ?_⟩
  · match i, j, hi, hj with
    | 0, 0, _, _ => rfl
    | 0, j + 1, hi, hj => cases hi; exact absurd (hpq ▸ key j q hj) hn
    | i + 1, 0, hi, hj => cases hj; exact absurd (hpq ▸ key i p hi) hn
    | i + 1, j + 1, hi, hj => rw [hD.1 i j p q hi hj hpq]
  · match k, hk with
    | 0, hk => cases hk; exact hx
    | k + 1, hk => exact hD.2 k q hk
theorem lh_sub {ao : Nat} {as : List Nat} {sz : Nat} : ∀ q : Nat, us_AA as sz q → us_AA (ao :: as) sz q := by
  rintro q (h | h)
  · exact Or.inl (List.mem_cons_of_mem _ h)
  · exact Or.inr h
theorem lh_unitK {a b : Int32} {nu : Nat} (h : ¬ sp_unitK a b nu = 0) : sp_unitK a b nu = 2 ∨ sp_unitK a b nu = 3 := by
  unfold sp_unitK at h ⊢
  repeat' split
  all_goals simp_all
theorem lh_msgK {un t k v : Int32} {nu nm : Nat} (h : ¬ sp_msgK un t k v nu nm = 0) : sp_msgK un t k v nu nm = 1 ∨ sp_msgK un t k v nu nm = 2 ∨ sp_msgK un t k v nu nm = 3 := by
  unfold sp_msgK at h ⊢
  repeat' split
  all_goals simp_all
theorem lh_atK {un t w : Int32} {nu : Nat} (h : ¬ sp_atK un t w nu = 0) : sp_atK un t w nu = 1 ∨ sp_atK un t w nu = 2 := by
  unfold sp_atK at h ⊢
  repeat' split
  all_goals simp_all
theorem lh_ruK {n t : Int32} {nu : Nat} (h : ¬ sp_ruK n t nu = 0) : sp_ruK n t nu = 1 ∨ sp_ruK n t nu = 2 := by
  unfold sp_ruK at h ⊢
  repeat' split
  all_goals simp_all
theorem lh_manyK {n t : Int32} (h : ¬ sp_manyK n t = 0) : sp_manyK n t = 1 ∨ sp_manyK n t = 2 := by
  unfold sp_manyK at h ⊢
  repeat' split
  all_goals simp_all
theorem lh_arrK {n r t : Int32} (h : ¬ sp_arrK n r t = 0) : sp_arrK n r t = 1 ∨ sp_arrK n r t = 2 := by
  unfold sp_arrK at h ⊢
  repeat' split
  all_goals simp_all
theorem lh_wrongK {n : Int32} {nm : Nat} (h : ¬ sp_wrongK n nm = 0) : sp_wrongK n nm = 1 := by
  unfold sp_wrongK at h ⊢
  repeat' split
  all_goals simp_all
theorem lh_toldK {w : Int32} (h : ¬ sp_toldK w = 0) : sp_toldK w = 1 := by
  unfold sp_toldK at h ⊢
  repeat' split
  all_goals simp_all
/-- the law's answer for how a call of unit ends -/
def lh_uc (k : Int32) : Int32 := if k = 2 then 1 else if k = 3 then 2 else 0
theorem dL_unit_0 : decode cL_unit 0 = .ok (.aload_n 3, 1) := by decide +kernel
theorem dL_unit_1 : decode cL_unit 1 = .ok (.iconst 0, 1) := by decide +kernel
theorem dL_unit_2 : decode cL_unit 2 = .ok (.aload_n 0, 1) := by decide +kernel
theorem dL_unit_3 : decode cL_unit 3 = .ok (.iload_n 1, 1) := by decide +kernel
theorem dL_unit_4 : decode cL_unit 4 = .ok (.iload_n 2, 1) := by decide +kernel
theorem dL_unit_5 : decode cL_unit 5 = .ok (.invokevirtual 7, 3) := by decide +kernel
theorem dL_unit_8 : decode cL_unit 8 = .ok (.i2l, 1) := by decide +kernel
theorem dL_unit_9 : decode cL_unit 9 = .ok (.lastore, 1) := by decide +kernel
theorem dL_unit_10 : decode cL_unit 10 = .ok (.goto 11, 3) := by decide +kernel
theorem dL_unit_13 : decode cL_unit 13 = .ok (.astore 4, 2) := by decide +kernel
theorem dL_unit_15 : decode cL_unit 15 = .ok (.iconst 1, 1) := by decide +kernel
theorem dL_unit_16 : decode cL_unit 16 = .ok (.ireturn, 1) := by decide +kernel
theorem dL_unit_17 : decode cL_unit 17 = .ok (.astore 4, 2) := by decide +kernel
theorem dL_unit_19 : decode cL_unit 19 = .ok (.iconst 2, 1) := by decide +kernel
theorem dL_unit_20 : decode cL_unit 20 = .ok (.ireturn, 1) := by decide +kernel
theorem dL_unit_21 : decode cL_unit 21 = .ok (.iconst 0, 1) := by decide +kernel
theorem dL_unit_22 : decode cL_unit 22 = .ok (.ireturn, 1) := by decide +kernel
theorem dL_message_0 : decode cL_message 0 = .ok (.aload 5, 2) := by decide +kernel
theorem dL_message_2 : decode cL_message 2 = .ok (.iconst 0, 1) := by decide +kernel
theorem dL_message_3 : decode cL_message 3 = .ok (.aload_n 0, 1) := by decide +kernel
theorem dL_message_4 : decode cL_message 4 = .ok (.iload_n 1, 1) := by decide +kernel
theorem dL_message_5 : decode cL_message 5 = .ok (.iload_n 2, 1) := by decide +kernel
theorem dL_message_6 : decode cL_message 6 = .ok (.iload_n 3, 1) := by decide +kernel
theorem dL_message_7 : decode cL_message 7 = .ok (.iload 4, 2) := by decide +kernel
theorem dL_message_9 : decode cL_message 9 = .ok (.invokevirtual 17, 3) := by decide +kernel
theorem dL_message_12 : decode cL_message 12 = .ok (.i2l, 1) := by decide +kernel
theorem dL_message_13 : decode cL_message 13 = .ok (.lastore, 1) := by decide +kernel
theorem dL_message_14 : decode cL_message 14 = .ok (.goto 15, 3) := by decide +kernel
theorem dL_message_17 : decode cL_message 17 = .ok (.astore 6, 2) := by decide +kernel
theorem dL_message_19 : decode cL_message 19 = .ok (.iconst 1, 1) := by decide +kernel
theorem dL_message_20 : decode cL_message 20 = .ok (.ireturn, 1) := by decide +kernel
theorem dL_message_21 : decode cL_message 21 = .ok (.astore 6, 2) := by decide +kernel
theorem dL_message_23 : decode cL_message 23 = .ok (.iconst 2, 1) := by decide +kernel
theorem dL_message_24 : decode cL_message 24 = .ok (.ireturn, 1) := by decide +kernel
theorem dL_message_25 : decode cL_message 25 = .ok (.astore 6, 2) := by decide +kernel
theorem dL_message_27 : decode cL_message 27 = .ok (.iconst 3, 1) := by decide +kernel
theorem dL_message_28 : decode cL_message 28 = .ok (.ireturn, 1) := by decide +kernel
theorem dL_message_29 : decode cL_message 29 = .ok (.iconst 0, 1) := by decide +kernel
theorem dL_message_30 : decode cL_message 30 = .ok (.ireturn, 1) := by decide +kernel
theorem dL_at_0 : decode cL_at 0 = .ok (.aload 4, 2) := by decide +kernel
theorem dL_at_2 : decode cL_at 2 = .ok (.iconst 0, 1) := by decide +kernel
theorem dL_at_3 : decode cL_at 3 = .ok (.aload_n 0, 1) := by decide +kernel
theorem dL_at_4 : decode cL_at 4 = .ok (.iload_n 1, 1) := by decide +kernel
theorem dL_at_5 : decode cL_at 5 = .ok (.iload_n 2, 1) := by decide +kernel
theorem dL_at_6 : decode cL_at 6 = .ok (.iload_n 3, 1) := by decide +kernel
theorem dL_at_7 : decode cL_at 7 = .ok (.invokevirtual 23, 3) := by decide +kernel
theorem dL_at_10 : decode cL_at 10 = .ok (.i2l, 1) := by decide +kernel
theorem dL_at_11 : decode cL_at 11 = .ok (.lastore, 1) := by decide +kernel
theorem dL_at_12 : decode cL_at 12 = .ok (.goto 11, 3) := by decide +kernel
theorem dL_at_15 : decode cL_at 15 = .ok (.astore 5, 2) := by decide +kernel
theorem dL_at_17 : decode cL_at 17 = .ok (.iconst 1, 1) := by decide +kernel
theorem dL_at_18 : decode cL_at 18 = .ok (.ireturn, 1) := by decide +kernel
theorem dL_at_19 : decode cL_at 19 = .ok (.astore 5, 2) := by decide +kernel
theorem dL_at_21 : decode cL_at 21 = .ok (.iconst 2, 1) := by decide +kernel
theorem dL_at_22 : decode cL_at 22 = .ok (.ireturn, 1) := by decide +kernel
theorem dL_at_23 : decode cL_at 23 = .ok (.iconst 0, 1) := by decide +kernel
theorem dL_at_24 : decode cL_at 24 = .ok (.ireturn, 1) := by decide +kernel
theorem dL_place_0 : decode cL_place 0 = .ok (.aload_n 3, 1) := by decide +kernel
theorem dL_place_1 : decode cL_place 1 = .ok (.iconst 0, 1) := by decide +kernel
theorem dL_place_2 : decode cL_place 2 = .ok (.aload_n 0, 1) := by decide +kernel
theorem dL_place_3 : decode cL_place 3 = .ok (.iload_n 1, 1) := by decide +kernel
theorem dL_place_4 : decode cL_place 4 = .ok (.iload_n 2, 1) := by decide +kernel
theorem dL_place_5 : decode cL_place 5 = .ok (.invokevirtual 27, 3) := by decide +kernel
theorem dL_place_8 : decode cL_place 8 = .ok (.i2l, 1) := by decide +kernel
theorem dL_place_9 : decode cL_place 9 = .ok (.lastore, 1) := by decide +kernel
theorem dL_place_10 : decode cL_place 10 = .ok (.goto 11, 3) := by decide +kernel
theorem dL_place_13 : decode cL_place 13 = .ok (.astore 4, 2) := by decide +kernel
theorem dL_place_15 : decode cL_place 15 = .ok (.iconst 1, 1) := by decide +kernel
theorem dL_place_16 : decode cL_place 16 = .ok (.ireturn, 1) := by decide +kernel
theorem dL_place_17 : decode cL_place 17 = .ok (.astore 4, 2) := by decide +kernel
theorem dL_place_19 : decode cL_place 19 = .ok (.iconst 2, 1) := by decide +kernel
theorem dL_place_20 : decode cL_place 20 = .ok (.ireturn, 1) := by decide +kernel
theorem dL_place_21 : decode cL_place 21 = .ok (.iconst 0, 1) := by decide +kernel
theorem dL_place_22 : decode cL_place 22 = .ok (.ireturn, 1) := by decide +kernel
theorem dL_age_0 : decode cL_age 0 = .ok (.aload_n 3, 1) := by decide +kernel
theorem dL_age_1 : decode cL_age 1 = .ok (.iconst 0, 1) := by decide +kernel
theorem dL_age_2 : decode cL_age 2 = .ok (.aload_n 0, 1) := by decide +kernel
theorem dL_age_3 : decode cL_age 3 = .ok (.iload_n 1, 1) := by decide +kernel
theorem dL_age_4 : decode cL_age 4 = .ok (.iload_n 2, 1) := by decide +kernel
theorem dL_age_5 : decode cL_age 5 = .ok (.invokevirtual 30, 3) := by decide +kernel
theorem dL_age_8 : decode cL_age 8 = .ok (.i2l, 1) := by decide +kernel
theorem dL_age_9 : decode cL_age 9 = .ok (.lastore, 1) := by decide +kernel
theorem dL_age_10 : decode cL_age 10 = .ok (.goto 11, 3) := by decide +kernel
theorem dL_age_13 : decode cL_age 13 = .ok (.astore 4, 2) := by decide +kernel
theorem dL_age_15 : decode cL_age 15 = .ok (.iconst 1, 1) := by decide +kernel
theorem dL_age_16 : decode cL_age 16 = .ok (.ireturn, 1) := by decide +kernel
theorem dL_age_17 : decode cL_age 17 = .ok (.astore 4, 2) := by decide +kernel
theorem dL_age_19 : decode cL_age 19 = .ok (.iconst 2, 1) := by decide +kernel
theorem dL_age_20 : decode cL_age 20 = .ok (.ireturn, 1) := by decide +kernel
theorem dL_age_21 : decode cL_age 21 = .ok (.iconst 0, 1) := by decide +kernel
theorem dL_age_22 : decode cL_age 22 = .ok (.ireturn, 1) := by decide +kernel
theorem dL_expected_0 : decode cL_expected 0 = .ok (.aload_n 3, 1) := by decide +kernel
theorem dL_expected_1 : decode cL_expected 1 = .ok (.iconst 0, 1) := by decide +kernel
theorem dL_expected_2 : decode cL_expected 2 = .ok (.aload_n 0, 1) := by decide +kernel
theorem dL_expected_3 : decode cL_expected 3 = .ok (.iload_n 1, 1) := by decide +kernel
theorem dL_expected_4 : decode cL_expected 4 = .ok (.iload_n 2, 1) := by decide +kernel
theorem dL_expected_5 : decode cL_expected 5 = .ok (.invokevirtual 33, 3) := by decide +kernel
theorem dL_expected_8 : decode cL_expected 8 = .ok (.i2l, 1) := by decide +kernel
theorem dL_expected_9 : decode cL_expected 9 = .ok (.lastore, 1) := by decide +kernel
theorem dL_expected_10 : decode cL_expected 10 = .ok (.goto 11, 3) := by decide +kernel
theorem dL_expected_13 : decode cL_expected 13 = .ok (.astore 4, 2) := by decide +kernel
theorem dL_expected_15 : decode cL_expected 15 = .ok (.iconst 1, 1) := by decide +kernel
theorem dL_expected_16 : decode cL_expected 16 = .ok (.ireturn, 1) := by decide +kernel
theorem dL_expected_17 : decode cL_expected 17 = .ok (.astore 4, 2) := by decide +kernel
theorem dL_expected_19 : decode cL_expected 19 = .ok (.iconst 2, 1) := by decide +kernel
theorem dL_expected_20 : decode cL_expected 20 = .ok (.ireturn, 1) := by decide +kernel
theorem dL_expected_21 : decode cL_expected 21 = .ok (.iconst 0, 1) := by decide +kernel
theorem dL_expected_22 : decode cL_expected 22 = .ok (.ireturn, 1) := by decide +kernel
theorem dL_wrong_0 : decode cL_wrong 0 = .ok (.aload_n 2, 1) := by decide +kernel
theorem dL_wrong_1 : decode cL_wrong 1 = .ok (.iconst 0, 1) := by decide +kernel
theorem dL_wrong_2 : decode cL_wrong 2 = .ok (.aload_n 0, 1) := by decide +kernel
theorem dL_wrong_3 : decode cL_wrong 3 = .ok (.iload_n 1, 1) := by decide +kernel
theorem dL_wrong_4 : decode cL_wrong 4 = .ok (.invokevirtual 36, 3) := by decide +kernel
theorem dL_wrong_7 : decode cL_wrong 7 = .ok (.i2l, 1) := by decide +kernel
theorem dL_wrong_8 : decode cL_wrong 8 = .ok (.lastore, 1) := by decide +kernel
theorem dL_wrong_9 : decode cL_wrong 9 = .ok (.goto 6, 3) := by decide +kernel
theorem dL_wrong_12 : decode cL_wrong 12 = .ok (.astore_n 3, 1) := by decide +kernel
theorem dL_wrong_13 : decode cL_wrong 13 = .ok (.iconst 1, 1) := by decide +kernel
theorem dL_wrong_14 : decode cL_wrong 14 = .ok (.ireturn, 1) := by decide +kernel
theorem dL_wrong_15 : decode cL_wrong 15 = .ok (.iconst 0, 1) := by decide +kernel
theorem dL_wrong_16 : decode cL_wrong 16 = .ok (.ireturn, 1) := by decide +kernel
theorem dL_told_0 : decode cL_told 0 = .ok (.aload_n 2, 1) := by decide +kernel
theorem dL_told_1 : decode cL_told 1 = .ok (.iconst 0, 1) := by decide +kernel
theorem dL_told_2 : decode cL_told 2 = .ok (.aload_n 0, 1) := by decide +kernel
theorem dL_told_3 : decode cL_told 3 = .ok (.iload_n 1, 1) := by decide +kernel
theorem dL_told_4 : decode cL_told 4 = .ok (.invokevirtual 40, 3) := by decide +kernel
theorem dL_told_7 : decode cL_told 7 = .ok (.i2l, 1) := by decide +kernel
theorem dL_told_8 : decode cL_told 8 = .ok (.lastore, 1) := by decide +kernel
theorem dL_told_9 : decode cL_told 9 = .ok (.goto 6, 3) := by decide +kernel
theorem dL_told_12 : decode cL_told 12 = .ok (.astore_n 3, 1) := by decide +kernel
theorem dL_told_13 : decode cL_told 13 = .ok (.iconst 1, 1) := by decide +kernel
theorem dL_told_14 : decode cL_told 14 = .ok (.ireturn, 1) := by decide +kernel
theorem dL_told_15 : decode cL_told 15 = .ok (.iconst 0, 1) := by decide +kernel
theorem dL_told_16 : decode cL_told 16 = .ok (.ireturn, 1) := by decide +kernel
theorem dL_many_0 : decode cL_many 0 = .ok (.aload_n 3, 1) := by decide +kernel
theorem dL_many_1 : decode cL_many 1 = .ok (.iconst 0, 1) := by decide +kernel
theorem dL_many_2 : decode cL_many 2 = .ok (.aload_n 0, 1) := by decide +kernel
theorem dL_many_3 : decode cL_many 3 = .ok (.iload_n 1, 1) := by decide +kernel
theorem dL_many_4 : decode cL_many 4 = .ok (.iload_n 2, 1) := by decide +kernel
theorem dL_many_5 : decode cL_many 5 = .ok (.invokevirtual 43, 3) := by decide +kernel
theorem dL_many_8 : decode cL_many 8 = .ok (.i2l, 1) := by decide +kernel
theorem dL_many_9 : decode cL_many 9 = .ok (.lastore, 1) := by decide +kernel
theorem dL_many_10 : decode cL_many 10 = .ok (.goto 11, 3) := by decide +kernel
theorem dL_many_13 : decode cL_many 13 = .ok (.astore 4, 2) := by decide +kernel
theorem dL_many_15 : decode cL_many 15 = .ok (.iconst 1, 1) := by decide +kernel
theorem dL_many_16 : decode cL_many 16 = .ok (.ireturn, 1) := by decide +kernel
theorem dL_many_17 : decode cL_many 17 = .ok (.astore 4, 2) := by decide +kernel
theorem dL_many_19 : decode cL_many 19 = .ok (.iconst 2, 1) := by decide +kernel
theorem dL_many_20 : decode cL_many 20 = .ok (.ireturn, 1) := by decide +kernel
theorem dL_many_21 : decode cL_many 21 = .ok (.iconst 0, 1) := by decide +kernel
theorem dL_many_22 : decode cL_many 22 = .ok (.ireturn, 1) := by decide +kernel
theorem dL_arrived_0 : decode cL_arrived 0 = .ok (.aload 4, 2) := by decide +kernel
theorem dL_arrived_2 : decode cL_arrived 2 = .ok (.iconst 0, 1) := by decide +kernel
theorem dL_arrived_3 : decode cL_arrived 3 = .ok (.aload_n 0, 1) := by decide +kernel
theorem dL_arrived_4 : decode cL_arrived 4 = .ok (.iload_n 1, 1) := by decide +kernel
theorem dL_arrived_5 : decode cL_arrived 5 = .ok (.iload_n 2, 1) := by decide +kernel
theorem dL_arrived_6 : decode cL_arrived 6 = .ok (.iload_n 3, 1) := by decide +kernel
theorem dL_arrived_7 : decode cL_arrived 7 = .ok (.invokevirtual 46, 3) := by decide +kernel
theorem dL_arrived_10 : decode cL_arrived 10 = .ok (.i2l, 1) := by decide +kernel
theorem dL_arrived_11 : decode cL_arrived 11 = .ok (.lastore, 1) := by decide +kernel
theorem dL_arrived_12 : decode cL_arrived 12 = .ok (.goto 11, 3) := by decide +kernel
theorem dL_arrived_15 : decode cL_arrived 15 = .ok (.astore 5, 2) := by decide +kernel
theorem dL_arrived_17 : decode cL_arrived 17 = .ok (.iconst 1, 1) := by decide +kernel
theorem dL_arrived_18 : decode cL_arrived 18 = .ok (.ireturn, 1) := by decide +kernel
theorem dL_arrived_19 : decode cL_arrived 19 = .ok (.astore 5, 2) := by decide +kernel
theorem dL_arrived_21 : decode cL_arrived 21 = .ok (.iconst 2, 1) := by decide +kernel
theorem dL_arrived_22 : decode cL_arrived 22 = .ok (.ireturn, 1) := by decide +kernel
theorem dL_arrived_23 : decode cL_arrived 23 = .ok (.iconst 0, 1) := by decide +kernel
theorem dL_arrived_24 : decode cL_arrived 24 = .ok (.ireturn, 1) := by decide +kernel
