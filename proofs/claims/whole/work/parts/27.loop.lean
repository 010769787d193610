/-! THE CLAIM OUT OF ONE WALK OF THE LAW'S BODY. Your part is whole_start (and what it stands on); all else here is the same for every law, but numbers. -/
def R_law : String := "UnitStatesLaw"
def lw_P (b : Addr) (xs : List Int32) (args : Array Value) (s : State) : Prop := args = #[.ref b] ∧ s.IntsAt b xs ∧ xs.length ≤ 2560 ∧ (Jvm.Cond.and given_1 narrow_1).before args s = true
def lw_Q (_ : Array Value) (s : State) (o : Outcome) (t : State) : Prop := o = .returned (some (.int 1)) ∧ Framed s o t [] 601024 7293034
def lw_Z (below : List Frame) (a : Array Value) (s : State) : State → Prop := fun t => ∃ o, t.status = .running ∧ Ended t below o ∧ lw_Q a s o t
/-- the law's own end, with 1 on the stack, nothing written that was there before, its room as the claim has it -/
theorem lw_ret {p : Program} {l : Launch} {e : Env} {s : State} {m : MethodId} {below : List Frame} {meth : Method} {c : Code} {b : Nat} (hx : p.tables.exec = Jvm.exec) (hb : c.code = code) (hr : meth.sig.returnType = ret) (hlocks : meth.locks = false) {pc : Nat} {H : Heap} {ls : Array Slot} (hdg : decode code pc = .ok (.ireturn, 1)) : W p l e room_1 s m #[Value.ref b] below meth c H [] 601024 7293034 (lw_Z below #[Value.ref b] s) (F0 m pc ls [.int 1]) := by
  intro T hT X
  obtain ⟨fs, hret, hrun, hended, hW, hframe⟩ := X.leave (v := some (.int 1)) (hlocks := hlocks) (fun h => by rw [hr] at h; cases h)
  have hmeth' : T.vm.method? m = some meth := X.method'
  refine ⟨T.setFrames fs, ?_, .returned (some (.int 1)), hrun, hended, rfl, ⟨_, rfl⟩, hW, hframe⟩
  jvm_step X.here [X.here.top, hx, hb, hdg, hmeth', hr, ret, narrow_b1]
  (try refine ⟨rfl, ?_⟩); (try refine ⟨rfl, ?_⟩)
  first | (intro acts; rw [hret _ acts rfl rfl rfl]) | rw [hret _ _ rfl rfl rfl]
  exact Steps.refl _
/-- what holds at the law's entry: the machine, the code, the tables' words (any of lw_tbl by 'hts w (by decide +kernel)'), the script of L ints xs at the cell b, what the Statement gives of the start (any of its parts by flat_of_before) -/
def lw_At (p : Program) (s : State) (m : MethodId) (meth : Method) (c : Code) (b L : Nat) (xs : Nat → Int32) : Prop :=
  p.tables.exec = Jvm.exec ∧ c.code = code ∧ meth.sig.returnType = ret ∧ c.maxLocals = 7 ∧ s.vm.findClass R_law = some m.cls ∧ (∀ w ∈ lw_tbl, w.before #[Value.ref b] s = true) ∧ va_X b L xs s s.heap ∧ b < s.heap.size ∧ meth.locks = false ∧ (Jvm.Cond.and given_1 narrow_1).before #[Value.ref b] s = true
/-! the law's loop: what holds at its head -/
theorem us_gSW {own : String} {idx : Nat} {y : MethodName} {w0 : Cond} (h1 : Cond.methodLink own idx y ∈ us_big) (h2 : Cond.static y ∈ us_big) (h4 : Cond.initialized y.cls ∈ us_big) (h5 : w0 ∈ us_big) : GoodIn us_big (va_wsS own idx y (w0 :: us_big)) := by
  refine us_gall (fun w hw => ?_)
  simp only [va_wsS, List.cons_append, List.nil_append, List.mem_cons] at hw
  rcases hw with rfl | rfl | rfl | rfl | hw <;> assumption
def lw_J (dC : Nat → ClassId) (dI : Nat → Nat → Nat) (ad : Nat → Nat) (cU cI : ClassId) (pa md : Nat → Nat) (cM : ClassId) (ao : Nat) (cJ : ClassId) (H : Heap) : Prop :=
  ∃ (nu nm : Nat) (nk th : Int32) (F U G : Nat → Nat → Int32) (v : Nat → Int32) (o : Nat → Int64), va_P (dC, dI) vwCl (us_W ad cU cI pa nu nm nk F U) H ∧ va_P (dC, dI) vwCl (um_W md cM th nu nm nk G v) H ∧ va_P (dC, dI) vwCl (lh_w ao cJ o) H ∧ um_both nu nm F G ∧ um_home nu U G
def lw_X (dC : Nat → ClassId) (dI : Nat → Nat → Nat) (ad : Nat → Nat) (cU cI : ClassId) (pa md : Nat → Nat) (cM : ClassId) (ao : Nat) (cJ : ClassId) (s : State) : Prop :=
  va_K (dC, dI) vwCl (us_ty cU cI) s ∧ va_K (dC, dI) vwCl [(cM, .int)] s ∧ va_K (dC, dI) vwCl [(cJ, .long)] s ∧ us_Ev (us_new s.heap.size) s s.heap ∧
  va_D (us_new s.heap.size) (us_W ad cU cI pa 0 0 0 (fun _ _ => 0) (fun _ _ => 0)) ∧ va_D (us_new s.heap.size) (um_W md cM 0 0 0 0 (fun _ _ => 0) (fun _ => 0)) ∧ s.heap.size ≤ ao ∧ ao ∉ us_ads ad pa ∧ ao ∉ um_ads md ∧ ∀ x ∈ us_ads ad pa, x ∉ um_ads md
theorem lw_ge {sz : Nat} {ws : va_W} {as : List Nat} (hD : va_D (us_new sz) ws) (ha : us_adr ws = as) : ∀ x ∈ as, sz ≤ x := by
  intro x hx
  rw [← ha] at hx
  obtain ⟨q, hq, rfl⟩ := List.mem_map.mp hx
  obtain ⟨k, hk⟩ := List.mem_iff_getElem?.mp hq
  exact hD.2 k q hk
theorem lw_AA {sz : Nat} {as : List Nat} {H : Heap} (h1 : ∀ x ∈ as, sz ≤ x) (h2 : sz ≤ H.size) : ∀ q : Nat, us_AA as H.size q → us_new sz q := by
  rintro q (h | h)
  · exact h1 q h
  · exact Nat.le_trans h2 h
theorem lw_cons {sz ao : Nat} {as : List Nat} (h0 : sz ≤ ao) (h1 : ∀ x ∈ as, sz ≤ x) : ∀ x ∈ ao :: as, sz ≤ x := by
  intro x hx
  rcases List.mem_cons.mp hx with rfl | h
  · exact h0
  · exact h1 x h
theorem lw_notin {as bs : List Nat} {ao : Nat} (h1 : ao ∉ bs) (h2 : ∀ x ∈ as, x ∉ bs) : ∀ x ∈ bs, x ∉ ao :: as := by
  intro x hx h
  rcases List.mem_cons.mp h with rfl | h
  · exact h1 hx
  · exact h2 x h hx
theorem um_W_to {D : va_G} {md : Nat → Nat} {cI : ClassId} {th : Int32} {nu nm nu' nm' : Nat} {sk sk' : Int32} {G G' : Nat → Nat → Int32} {v : Nat → Int32} {H : Heap} (h : va_P D vwCl (um_W md cI th nu nm sk G v) H) (e2 : nu = nu') (e3 : nm = nm') (e4 : sk = sk') (e5 : G = G') : va_P D vwCl (um_W md cI th nu' nm' sk' G' v) H := by
  subst e2; subst e3; subst e4; subst e5; exact h
theorem lw_cmp {x y : Int64} (h : x = y) : lg_cmp x y = 0 := by subst h; simp [lg_cmp]
theorem lw_unitE {a b : Int32} {nu : Nat} (hn : nu ≤ 30) : um_unitK a b nu = lh_uc (sp_unitK a b nu) := by
  rcases um_unitK_eq (a := a) (b := b) hn with ⟨h1, h2⟩ | ⟨h1, h2⟩ | ⟨h1, h2⟩ <;> rw [h1, h2] <;> rfl
theorem lw_unitZ {a b : Int32} {nu : Nat} (hn : nu ≤ 30) : um_unitK a b nu = 0 ↔ sp_unitK a b nu = 0 := by
  rcases um_unitK_eq (a := a) (b := b) hn with ⟨h1, h2⟩ | ⟨h1, h2⟩ | ⟨h1, h2⟩ <;> rw [h1, h2] <;> decide
theorem lw_unitL {a b : Int32} {nu : Nat} (hn : nu ≤ 30) (h : sp_unitK a b nu = 0) : nu < 30 := by
  rcases Nat.lt_or_ge nu 30 with h1 | h1
  · exact h1
  · have e : nu = 30 := by omega
    subst e
    unfold sp_unitK at h
    repeat' split at h
    all_goals first | cases h | skip
    rename_i h3
    exact absurd h3 (by decide)
theorem lw_isU {n : Int32} {nu : Nat} (hn : nu ≤ 30) (h : ¬ sp_isU n nu = 0) : n.toNatClampNeg < nu := by
  obtain ⟨j, hj, rfl⟩ := us_isU_spec hn h
  rw [nI_clamp (by omega)]
  exact hj
theorem lw_in_le {x k : Int32} (h : ¬ sp_in x k = 0) : ¬ x < 0 ∧ x ≤ k := by
  unfold sp_in at h
  split at h
  · exact absurd rfl h
  · rename_i h1
    split at h
    · exact absurd rfl h
    · rename_i h2
      exact ⟨h1, Int32.not_lt.mp h2⟩
theorem lw_msgF {u t k v : Int32} {nu nm : Nat} (hn : nu ≤ 30) (hm : nm ≤ 200) (h : sp_msgK u t k v nu nm = 0) : nm < 200 ∧ (∃ j, j < nu ∧ u = nI j) ∧ (∃ i, i ≤ 15 ∧ k = nI i) ∧ (k = 11 → ¬ v < 0) ∧ t ≤ 99999 ∧ ¬ sp_isU u nu = 0 := by
  unfold sp_msgK at h
  split at h
  · cases h
  · rename_i h1
    split at h
    · cases h
    · rename_i h2
      split at h
      · cases h
      · rename_i h3
        split at h
        · cases h
        · rename_i h4
          split at h
          · rename_i h5
            refine ⟨?_, us_isU_spec hn h1, ?_, ?_, (lw_in_le h3).2, h1⟩
            · rcases Nat.lt_or_ge nm 200 with q | q
              · exact q
              · exact absurd h5 (nI_nlt (a := nm) (b := 200) q (by omega))
            · obtain ⟨h6, h7⟩ := lw_in_le h2
              exact nI_of2 (M := 15) (n := 15) (by decide) h6 h7
            · rintro rfl
              exact (lw_in_le (k := 999999) h4).1
          · cases h
theorem lw_atF {u t w : Int32} {nu : Nat} (h : sp_atK u t w nu = 0) : ¬ sp_isU u nu = 0 ∧ ¬ sp_in w 9 = 0 := by
  unfold sp_atK at h
  split at h
  · cases h
  · rename_i h1
    split at h
    · cases h
    · rename_i h2
      exact ⟨h1, h2⟩
theorem lw_ruF {u t : Int32} {nu : Nat} (h : sp_ruK u t nu = 0) : ¬ sp_isU u nu = 0 := by
  unfold sp_ruK at h
  split at h
  · cases h
  · rename_i h1
    exact h1
theorem lw_wrF {n : Int32} {nm : Nat} (hm : nm ≤ 200) (h : sp_wrongK n nm = 0) : n.toNatClampNeg < nm := by
  unfold sp_wrongK at h
  split at h
  · cases h
  · rename_i h1
    split at h
    · rename_i h2
      obtain ⟨j, hj, rfl⟩ := us_lt_spec hm h1 h2
      rw [nI_clamp (by omega)]
      exact hj
    · cases h
theorem lw_toF {w : Int32} (h : um_toK w = 0) : ¬ um_in w 0 6 = 0 := by
  unfold um_toK at h
  split at h
  · cases h
  · rename_i h1
    exact h1
theorem lw_toB {nu nm : Nat} {F G U : Nat → Nat → Int32} (w : Int32) (hB : um_both nu nm F G) : um_both nu nm (sp_toldF w nu nm F U) G := by
  unfold sp_toldF
  repeat' split
  all_goals first | exact um_both_rf hB 99999 | exact hB
theorem lw_toH {nu nm : Nat} {F G U : Nat → Nat → Int32} (w : Int32) (hB : um_both nu nm F G) (hH : um_home nu U G) : um_home nu (sp_toldU w nu nm F U) G := by
  unfold sp_toldU
  repeat' split
  all_goals first | exact um_home_ru hB hH 99999 | exact hH
theorem lw_sk {u : Int32} {nu : Nat} {nk : Int32} (hn : nu ≤ 30) : nk + (if um_isU u nu = 0 then 1 else 0) = if sp_isU u nu = 0 then nk + 1 else nk := by
  rw [um_isU_s hn]
  split
  · rfl
  · simp
section LWR
variable {p : Program} {l : Launch} {e : Env} {R : Room} {s : State} {m : MethodId} {args : Array Value} {below : List Frame} {meth : Method} {c : Code} {H : Heap} {locs : List Loc} {cells slots : Nat} {Q : State → Prop}
variable {cc : ByteArray} {pc : Nat} {ls : Array Slot} {rest : List Value} {A : Nat → Prop} {H0 : Heap}
theorem lw_sld (hexec : p.tables.exec = Jvm.exec) (hb : c.code = cc) {b L : Nat} {xs : Nat → Int32} (hX : va_X b L xs s H0) (hbl : b < H0.size) (hbA : ¬ A b) (hS : va_S A H0 H locs) {i : Int32} (n : Nat) {y : Int32} (hi : i = nI n) (hn : n < L) (hL : L ≤ 2560) (hy : y = xs n) (hdg : decode cc pc = .ok (.iaload, 1))
    (kk : W p l e R s m args below meth c H locs cells slots Q (F0 m (pc + 1) ls (.int y :: rest))) : W p l e R s m args below meth c H locs cells slots Q (F0 m pc ls (.int i :: .ref b :: rest)) := by
  subst hi
  subst hy
  refine va_sld hexec hb hX hbl hbA hS (vp_in_nI hn (by omega)) hdg ?_
  rw [nI_clamp (by omega)]
  exact kk
end LWR
/-! the law's start -/
theorem us_nw_in : ∀ w ∈ us_nw, w.onTables = true ∧ w ∈ lw_tbl := by decide +kernel
theorem us_str_in : ∀ q ∈ us_str, Cond.stringRef q.1 q.2.1 q.2.2 ∈ lw_tbl := by decide +kernel
theorem us_nc_in : ∀ q ∈ us_nc, Cond.not (.castable q.1 q.2) ∈ flatC (Jvm.Cond.and given_1 narrow_1) := by decide +kernel
theorem lw_str {s : State} {own tx : String} {k : Nat} {A : Array Value} (h : (Cond.stringRef own k tx).before A s = true) : ∃ sa : Nat, vk_R own k tx sa s := by
  have h0 : (Cond.stringRef own k tx).before #[] s = true := h
  have hcur : ∃ cur, s.vm.findClass own = some cur := by
    have h1 := h0
    simp only [Cond.before, Cond.holds, Cond.value] at h1
    cases hc : s.vm.findClass own with
    | none => simp [hc] at h1
    | some cur => exact ⟨cur, rfl⟩
  obtain ⟨cur, hcur⟩ := hcur
  obtain ⟨k9, cf, i, a, -, -, -, -, -, hev⟩ := Cond.stringRef_spec hcur h0
  exact ⟨a, vk_R.of h0 hev⟩
theorem lw_Ev {s : State} {b : Nat} (hts : ∀ w ∈ lw_tbl, w.before #[Value.ref b] s = true) (hgv : (Jvm.Cond.and given_1 narrow_1).before #[Value.ref b] s = true) : us_Ev (us_new s.heap.size) s s.heap := by
  have hs := flat_of_before _ hgv
  have hA : ∀ a : Nat, a < s.heap.size → ¬ us_new s.heap.size a := fun a h => Nat.not_le.mpr h
  refine ⟨vx_Zqof (hts _ (by decide +kernel)) (hts _ (by decide +kernel)) (hs _ (by decide +kernel)) hA, vx_Zqof (hts _ (by decide +kernel)) (hts _ (by decide +kernel)) (hs _ (by decide +kernel)) hA, fun w hw => ?_, fun q hq => ?_, fun q hq => ?_⟩
  · exact va_Nw.of (us_nw_in w hw).1 (hts w (us_nw_in w hw).2)
  · exact va_Nc.of (hs _ (us_nc_in q hq))
  · exact lw_str (hts _ (us_str_in q hq))
theorem us_Pn_blind {av : List Value} {dC : Nat → ClassId} {dI : Nat → Nat → Nat} {h0 : Nat} {ws : va_W} {sz : Nat} : FrameBlind (va_Pc av (us_Pn dC dI h0 ws sz)) :=
  fun a S g mk q => ⟨q.1, q.2.1, q.2.2.1, va_K.moved (u := S) (U := S.calling g mk a) (Vm.Alike.refl S.vm) q.2.2.2.1, va_AO.moved (u := S) (U := S.calling g mk a) (Vm.Alike.refl S.vm) q.2.2.2.2.1, va_Nw.warmM (s := S) (U := S.calling g mk a) (State.WarmedH.refl S) q.2.2.2.2.2⟩
theorem um_Pn_blind {av : List Value} {dC : Nat → ClassId} {dI : Nat → Nat → Nat} {h0 : Nat} {ws : va_W} {sz : Nat} : FrameBlind (va_Pc av (um_Pn dC dI h0 ws sz)) :=
  fun a S g mk q => ⟨q.1, q.2.1, q.2.2.1, va_K.moved (u := S) (U := S.calling g mk a) (Vm.Alike.refl S.vm) q.2.2.2⟩
theorem lw_keepU {D : va_G} {cl : List vw_C} {ws : va_W} {q0 : Nat} {H H1 : Heap} (hP : va_P D cl ws H) (hd : q0 ∉ us_adr ws) (hk : ∀ q : Nat, q < H.size → ¬ us_Au q0 H.size q → H1[q]? = H[q]?) : va_P D cl ws H1 := by
  refine hP.kept (fun k q h => hk q.1 (hP k q h).lt ?_)
  rintro (h1 | h1)
  · exact hd (h1 ▸ List.mem_map.mpr ⟨q, List.mem_of_getElem? h, rfl⟩)
  · have := (hP k q h).lt
    omega
theorem lw_lt {D : va_G} {cl : List vw_C} {ws : va_W} {H : Heap} (hP : va_P D cl ws H) : ∀ x ∈ us_adr ws, x < H.size := by
  intro x hx
  obtain ⟨q, hq, rfl⟩ := List.mem_map.mp hx
  obtain ⟨k, hk⟩ := List.mem_iff_getElem?.mp hq
  exact (hP k q hk).lt
theorem lw_in {A : Nat → Prop} {ws : va_W} (hD : va_D A ws) : ∀ x ∈ us_adr ws, A x := by
  intro x hx
  obtain ⟨q, hq, rfl⟩ := List.mem_map.mp hx
  obtain ⟨k, hk⟩ := List.mem_iff_getElem?.mp hq
  exact hD.2 k q hk
theorem lw_P_l {D : va_G} {cl : List vw_C} {w1 w2 : va_W} {H : Heap} (h : va_P D cl (w1 ++ w2) H) : va_P D cl w1 H := by
  intro k q hk
  refine h k q ?_
  rw [List.getElem?_append_left (List.getElem?_eq_some_iff.mp hk).1]
  exact hk
theorem lw_P_r {D : va_G} {cl : List vw_C} {w1 w2 : va_W} {H : Heap} (h : va_P D cl (w1 ++ w2) H) : va_P D cl w2 H := by
  intro k q hk
  refine h (w1.length + k) q ?_
  rw [List.getElem?_append_right (by omega), Nat.add_sub_cancel_left]
  exact hk
theorem lw_D_last {A : Nat → Prop} {w : va_W} {x : Nat × va_E} (h : va_D A (w ++ [x])) : x.1 ∉ us_adr w ∧ A x.1 := by
  refine ⟨fun hx => ?_, h.2 w.length x us_last⟩
  obtain ⟨q, hq, e⟩ := List.mem_map.mp hx
  obtain ⟨k, hk⟩ := List.mem_iff_getElem?.mp hq
  have hl := (List.getElem?_eq_some_iff.mp hk).1
  have h1 := h.1 k w.length q x (by rw [List.getElem?_append_left hl]; exact hk) us_last e
  omega
theorem lw_D_l {A : Nat → Prop} {w1 w2 : va_W} (h : va_D A (w1 ++ w2)) : va_D A w1 := by
  have key : ∀ (k : Nat) (q : Nat × va_E), w1[k]? = some q → (w1 ++ w2)[k]? = some q := fun k q hk => by
    rw [List.getElem?_append_left (List.getElem?_eq_some_iff.mp hk).1]
    exact hk
  exact ⟨fun i j p q hi hj e => h.1 i j p q (key i p hi) (key j q hj) e, fun k q hk => h.2 k q (key k q hk)⟩
theorem lw_D_app {A : Nat → Prop} {w1 w2 : va_W} (h1 : va_D A w1) (h2 : va_D A w2) (hd : ∀ x ∈ us_adr w1, x ∉ us_adr w2) : va_D A (w1 ++ w2) := by
  have mem : ∀ {w : va_W} {k : Nat} {q : Nat × va_E}, w[k]? = some q → q.1 ∈ us_adr w := fun {w k q} h => List.mem_map.mpr ⟨q, List.mem_of_getElem? h, rfl⟩
  have key : ∀ (k : Nat) (q : Nat × va_E), (w1 ++ w2)[k]? = some q → (k < w1.length ∧ w1[k]? = some q) ∨ (w1.length ≤ k ∧ w2[k - w1.length]? = some q) := fun k q hk => by
    by_cases hl : k < w1.length
    · rw [List.getElem?_append_left hl] at hk
      exact Or.inl ⟨hl, hk⟩
    · rw [List.getElem?_append_right (by omega)] at hk
      exact Or.inr ⟨by omega, hk⟩
  refine ⟨fun i j p q hi hj e => ?_, fun k q hk => ?_⟩
  · rcases key i p hi with ⟨a1, a2⟩ | ⟨a1, a2⟩ <;> rcases key j q hj with ⟨b1, b2⟩ | ⟨b1, b2⟩
    · exact h1.1 i j p q a2 b2 e
    · exact absurd (e ▸ mem b2) (hd p.1 (mem a2))
    · exact absurd (e.symm ▸ mem a2) (hd q.1 (mem b2))
    · have := h2.1 _ _ p q a2 b2 e
      omega
  · rcases key k q hk with ⟨a1, a2⟩ | ⟨a1, a2⟩
    · exact h1.2 _ _ a2
    · exact h2.2 _ _ a2
theorem lw_ou {q0 n s0 : Nat} (h : s0 ≤ q0) (hn : s0 ≤ n) : ∀ q : Nat, us_Au q0 n q → us_new s0 q := by
  rintro q (h1 | h1)
  · rw [h1]; exact h
  · exact Nat.le_trans hn h1
theorem lw_both0 : um_both 0 0 (fun _ _ => 0) (fun _ _ => 0) :=
  ⟨by omega, by omega, rfl, rfl, rfl, rfl, fun p h => absurd h (Nat.not_lt_zero p), fun p h => absurd h (Nat.not_lt_zero p), fun a b _ h => absurd h (Nat.not_lt_zero b), fun p h => absurd h (Nat.not_lt_zero p)⟩
theorem lw_home0 : um_home 0 (fun _ _ => 0) (fun _ _ => 0) := fun j h => absurd h (Nat.not_lt_zero j)
