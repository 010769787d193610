/-! my own base: worlds in parts, rows with natural indices, what the statement gives beside the words -/
def us_new (sz : Nat) : Nat → Prop := fun q => sz ≤ q
/-- the addresses of a world -/
def us_adr (ws : va_W) : List Nat := ws.map (fun q => q.1)
theorem us_mono {D : va_G} {cl : List vw_C} {ws : va_W} {H H1 : Heap} (hP : va_P D cl ws H) (hk : ∀ q : Nat, q < H.size → H1[q]? = H[q]?) : va_P D cl ws H1 :=
  hP.kept (fun k q h => hk q.1 (hP k q h).lt)
/-- a world beside the one that was changed stays -/
theorem us_keep {D : va_G} {cl : List vw_C} {w1 w2 : va_W} {H H1 : Heap} (hP : va_P D cl w2 H) (hd : ∀ x ∈ us_adr w1, x ∉ us_adr w2) (hk : ∀ q : Nat, q < H.size → ¬ va_A w1 H.size q → H1[q]? = H[q]?) : va_P D cl w2 H1 := by
  refine hP.kept (fun k q h => hk q.1 (hP k q h).lt ?_)
  rintro (⟨j, e, h1⟩ | h1)
  · exact hd q.1 (List.mem_map.mpr ⟨(q.1, e), List.mem_of_getElem? h1, rfl⟩) (List.mem_map.mpr ⟨q, List.mem_of_getElem? h, rfl⟩)
  · have := (hP k q h).lt
    omega
theorem us_D_of {A : Nat → Prop} {w1 w2 : va_W} (h : us_adr w2 = us_adr w1) (hD : va_D A w1) : va_D A w2 := by
  have key : ∀ (k : Nat) (q : Nat × va_E), w2[k]? = some q → ∃ q0, w1[k]? = some q0 ∧ q0.1 = q.1 := by
    intro k q hq
    have h1 : (us_adr w2)[k]? = some q.1 := by simp [us_adr, hq]
    rw [h] at h1
    simp only [us_adr, List.getElem?_map, Option.map_eq_some_iff] at h1
    obtain ⟨q0, h2, h3⟩ := h1
    exact ⟨q0, h2, h3⟩
  refine ⟨fun i j x y hi hj hxy => ?_, fun k q hk => ?_⟩
  · obtain ⟨x0, h1, h2⟩ := key i x hi
    obtain ⟨y0, h3, h4⟩ := key j y hj
    exact hD.1 i j x0 y0 h1 h3 (h2.trans (hxy.trans h4.symm))
  · obtain ⟨q0, h1, h2⟩ := key k q hk
    rw [← h2]
    exact hD.2 k q0 h1
theorem us_A_adr {w1 w2 : va_W} (h : us_adr w2 = us_adr w1) {sz q : Nat} (hq : va_A w1 sz q) : va_A w2 sz q := by
  rcases hq with ⟨k, e, h1⟩ | h1
  · have h2 : (us_adr w1)[k]? = some q := by simp [us_adr, h1]
    rw [← h] at h2
    simp only [us_adr, List.getElem?_map, Option.map_eq_some_iff] at h2
    obtain ⟨q0, h3, h4⟩ := h2
    exact Or.inl ⟨k, q0.2, by rw [h3, ← h4]⟩
  · exact Or.inr h1
theorem us_sw {x : Int32} {lo hi : Int} (h : ∀ z : Int, lo ≤ z → z ≤ hi → ¬ x = Int32.ofInt z) : x.toInt < lo ∨ hi < x.toInt := by
  by_cases h1 : x.toInt < lo
  · exact Or.inl h1
  · by_cases h2 : hi < x.toInt
    · exact Or.inr h2
    · exact absurd (Int32.ofInt_toInt x).symm (h _ (by omega) (by omega))
section USR
variable {p : Program} {l : Launch} {e : Env} {R : Room} {s : State} {m : MethodId} {args : Array Value} {below : List Frame} {meth : Method} {c : Code} {H : Heap} {locs : List Loc} {cells slots : Nat} {Q : State → Prop}
variable {cc : ByteArray} {pc : Nat} {ls : Array Slot} {rest : List Value} {D : va_G} {cl : List vw_C} {A : Nat → Prop} {a : Nat} {tys : List (ClassId × FieldType)} {ws : va_W} {H0 : Heap}
theorem us_iald (hexec : p.tables.exec = Jvm.exec) (hb : c.code = cc) (hK : va_K D cl tys s) (hP : va_P D cl ws H) (q0 t0 : Nat) {cA : ClassId} {n : Nat} {f : Nat → Int32} (ha : ws[q0]? = some (a, .inl (cA, n, .inl f))) (ht : tys[t0]? = some (cA, .int)) {i : Nat} (hi : i < n) (hn : n < 2 ^ 31) (hdg : decode cc pc = .ok (.iaload, 1))
    (kk : W p l e R s m args below meth c H locs cells slots Q (F0 m (pc + 1) ls (.int (f i) :: rest))) : W p l e R s m args below meth c H locs cells slots Q (F0 m pc ls (.int (nI i) :: .ref a :: rest)) := by
  refine va_iald hexec hb hK hP q0 t0 ha ht (vp_in_nI hi hn) hdg ?_
  rw [nI_clamp (by omega)]
  exact kk
theorem us_iast (hexec : p.tables.exec = Jvm.exec) (hb : c.code = cc) (hK : va_K D cl tys s) (hP : va_P D cl ws H) (hD : va_D A ws) (hS : va_S A H0 H locs) (q0 t0 : Nat) {cA : ClassId} {n : Nat} {f : Nat → Int32} (ha : ws[q0]? = some (a, .inl (cA, n, .inl f))) (ht : tys[t0]? = some (cA, .int)) {i : Nat} {x : Int32} (hi : i < n) (hn : n < 2 ^ 31) (hdg : decode cc pc = .ok (.iastore, 1))
    (kk : ∀ (H1 : Heap) (locs1 : List Loc), va_P D cl (ws.set q0 (a, .inl (cA, n, .inl (upd f i x)))) H1 → va_D A (ws.set q0 (a, .inl (cA, n, .inl (upd f i x)))) → va_S A H0 H1 locs1 → W p l e R s m args below meth c H1 locs1 cells slots Q (F0 m (pc + 1) ls rest)) : W p l e R s m args below meth c H locs cells slots Q (F0 m pc ls (.int x :: .int (nI i) :: .ref a :: rest)) := by
  refine va_iast hexec hb hK hP hD hS q0 t0 ha ht (vp_in_nI hi hn) hdg ?_
  rw [nI_clamp (by omega)]
  exact kk
theorem us_aald (hexec : p.tables.exec = Jvm.exec) (hb : c.code = cc) (hK : va_K D cl tys s) (hP : va_P D cl ws H) (q0 t0 : Nat) {cA : ClassId} {C : String} {n : Nat} {f : Nat → Option Nat} (ha : ws[q0]? = some (a, .inl (cA, n, .inr (.inr (.inr (.inr f)))))) (ht : tys[t0]? = some (cA, .object C)) {i y : Nat} (hi : i < n) (hn : n < 2 ^ 31) (hy : f i = some y) (hdg : decode cc pc = .ok (.aaload, 1))
    (kk : W p l e R s m args below meth c H locs cells slots Q (F0 m (pc + 1) ls (.ref y :: rest))) : W p l e R s m args below meth c H locs cells slots Q (F0 m pc ls (.int (nI i) :: .ref a :: rest)) := by
  refine va_aldq hexec hb hK hP q0 t0 ha ht (vp_in_nI hi hn) hdg ?_
  rw [nI_clamp (by omega), hy]
  exact kk
end USR
/-! what the methods of a unit answer and leave: a unit is its fields, a function of their places:
0 home 1 least 2 state 3 since 4 station 5 incident 6 crew 7 things 8 link 9 place 10 its minute 11 expected 12 arrival 13 driven -/
def us_u (u : Nat → Int32) : List Value := [.int (u 0), .int (u 1), .int (u 2), .int (u 3), .int (u 4), .int (u 5), .int (u 6), .int (u 7), .int (u 8), .int (u 9), .int (u 10), .int (u 11), .int (u 12), .int (u 13)]
def sp_in (n k : Int32) : Int32 := if n < 0 then 0 else if k < n then 0 else 1
def sp_val (kind v : Int32) : Int32 :=
  if kind = 0 then sp_in v 9 else if kind = 1 then sp_in v 19 else if kind = 11 then sp_in v 999999 else if kind = 12 then sp_in v 9
  else if kind = 13 then sp_in v 255 else if kind = 14 then sp_in v 1 else if kind = 15 then sp_in v 999 else 1
def sp_can (b n : Int32) : Int32 :=
  if b = 0 then (if n = 1 then 1 else if n < 7 then 0 else 1)
  else if b = 1 then (if n = 2 then 1 else if n = 0 then 1 else 0)
  else if b = 2 then (if n = 3 then 1 else if n = 6 then 1 else 0)
  else if b = 3 then (if n = 4 then 1 else if n = 5 then 1 else 0)
  else if b = 4 then (if n = 5 then 1 else 0)
  else if b = 5 then (if n = 1 then 1 else if n = 6 then 1 else 0)
  else if b = 6 then (if n = 0 then 1 else if n = 1 then 1 else if n = 7 then 1 else 0)
  else if b = 7 then (if n = 0 then 1 else if n = 6 then 1 else 0)
  else if b = 8 then (if n = 0 then 1 else if n = 9 then 1 else 0)
  else if b = 9 then (if n = 0 then 1 else if n = 8 then 1 else 0)
  else if b = 10 then (if n = 0 then 1 else if n = 9 then 1 else 0)
  else 0
def sp_nc (n : Int32) : Int32 := if n < 2 then 0 else if 4 < n then 0 else 1
def sp_rest (u : Nat → Int32) : Int32 := if u 2 = 0 then 1 else if u 2 < 7 then 0 else 1
def sp_dr (u : Nat → Int32) (t : Int32) : Int32 :=
  if u 2 = 2 then u 13 + (t - u 3) else if u 2 = 6 then u 13 + (t - u 3) else if sp_rest u = 0 then u 13 else if t - u 3 < 30 then u 13 else 0
def sp_send2 (u : Nat → Int32) (t : Int32) : Int32 := if u 6 < u 1 then 0 else if u 8 = 1 then (if 240 ≤ sp_dr u t then 0 else 1) else 0
def sp_send (u : Nat → Int32) (t : Int32) : Int32 := if u 2 = 0 then sp_send2 u t else if u 2 = 5 then sp_send2 u t else if u 2 = 6 then sp_send2 u t else 0
def sp_stn (u : Nat → Int32) : Int32 := if u 2 = 0 then u 4 else -1
def sp_inc (u : Nat → Int32) : Int32 := if u 2 < 1 then -1 else if 5 < u 2 then -1 else u 5
def sp_there (u : Nat → Int32) (i : Int32) : Int32 := if u 2 < 3 then 0 else if 5 < u 2 then 0 else if u 5 = i then 1 else 0
def sp_settle (u : Nat → Int32) (h k : Int32) : Nat → Int32 := upd (upd u 0 h) 1 k
def sp_fresh (u : Nat → Int32) : Nat → Int32 := upd (upd (upd (upd (upd (upd (upd (upd (upd (upd (upd (upd u 2 0) 3 0) 4 (u 0)) 5 (-1)) 6 (u 1)) 7 0) 8 1) 9 (-1)) 10 0) 11 (-1)) 12 (-1)) 13 0
def sp_tp (u : Nat → Int32) (v t : Int32) : Int32 × (Nat → Int32) := if u 8 = 0 then (4, u) else (0, upd (upd u 9 v) 10 t)
def sp_ts (u : Nat → Int32) (v : Int32) : Int32 × (Nat → Int32) := (if v = u 0 then 0 else 3, upd u 4 v)
def sp_go (u : Nat → Int32) (n v t pos : Int32) : Int32 × (Nat → Int32) :=
  if n = 1 then (0, upd (upd (upd (upd u 13 (sp_dr u t)) 2 n) 3 t) 5 v)
  else if n = 3 then (0, upd (upd (upd (upd (upd u 13 (sp_dr u t)) 2 n) 3 t) 12 pos) 11 (-1))
  else if n = 0 then sp_ts (upd (upd (upd u 13 (sp_dr u t)) 2 n) 3 t) v
  else (0, upd (upd (upd u 13 (sp_dr u t)) 2 n) 3 t)
def sp_tst (u : Nat → Int32) (n v t pos : Int32) : Int32 × (Nat → Int32) :=
  if sp_can (u 2) n = 0 then (1, u) else if sp_nc n = 0 then sp_go u n v t pos else if u 1 ≤ u 6 then sp_go u n v t pos else (2, u)
def sp_take (u : Nat → Int32) (k v t pos : Int32) : Int32 × (Nat → Int32) :=
  if k = 11 then sp_tp u v t else if k = 12 then (0, upd u 6 v) else if k = 13 then (0, upd u 7 v) else if k = 14 then (0, upd u 8 v)
  else if k = 15 then (0, upd u 11 (t + v)) else sp_tst u k v t pos
/-! one unit's cell -/
abbrev us_wu (h0 : Nat) (u : Nat → Int32) : va_W := [(h0, .inr (0, us_u u))]
def us_Au (h0 sz : Nat) : Nat → Prop := fun q => q = h0 ∨ sz ≤ q
def us_Pu (dC : Nat → ClassId) (dI : Nat → Nat → Nat) (h0 : Nat) (u : Nat → Int32) (sz : Nat) (U : State) : Prop := U.heap.size = sz ∧ va_P (dC, dI) vwCl (us_wu h0 u) U.heap ∧ va_K (dC, dI) vwCl [] U
def us_Bu (dC : Nat → ClassId) (dI : Nat → Nat → Nat) (h0 : Nat) (u : Nat → Int32) (t : State) : Prop := va_P (dC, dI) vwCl (us_wu h0 u) t.heap
theorem us_Bu_of {dC : Nat → ClassId} {dI : Nat → Nat → Nat} {h0 : Nat} {u u' : Nat → Int32} {t : State} {H : Heap} (ht : t.heap = H) (hP : va_P (dC, dI) vwCl (us_wu h0 u) H) (e : u = u') : us_Bu dC dI h0 u' t := by
  subst e; subst ht; exact hP
theorem us_Bu_use {dC : Nat → ClassId} {dI : Nat → Nat → Nat} {h0 : Nat} {u : Nat → Int32} {t : State} {H : Heap} (ht : t.heap = H) (h : us_Bu dC dI h0 u t) : va_P (dC, dI) vwCl (us_wu h0 u) H := by
  subst ht; exact h
theorem us_D1 {A : Nat → Prop} {h0 : Nat} {e : va_E} (h : A h0) : va_D A [(h0, e)] := by
  refine ⟨fun i j p q hi hj _ => ?_, fun k q hk => ?_⟩
  · have h1 := (List.getElem?_eq_some_iff.mp hi).1
    have h2 := (List.getElem?_eq_some_iff.mp hj).1
    simp only [List.length_cons, List.length_nil] at h1 h2
    omega
  · have h1 := (List.getElem?_eq_some_iff.mp hk).1
    simp only [List.length_cons, List.length_nil] at h1
    have h2 : k = 0 := by omega
    subst h2
    cases hk
    exact h
theorem us_blind0 {av : List Value} {sz : Nat} : FrameBlind (va_Pc av (fun U => U.heap.size = sz)) := fun _ _ _ _ q => q
theorem us_Pu_blind {av : List Value} {dC : Nat → ClassId} {dI : Nat → Nat → Nat} {h0 : Nat} {u : Nat → Int32} {sz : Nat} : FrameBlind (va_Pc av (us_Pu dC dI h0 u sz)) :=
  fun a U g mk q => ⟨q.1, q.2.1, q.2.2.1, va_K.moved (u := U) (U := U.calling g mk a) (Vm.Alike.refl U.vm) q.2.2.2⟩
theorem us_Pu_at {s : State} {dC : Nat → ClassId} {dI : Nat → Nat → Nat} {h0 : Nat} {u : Nat → Int32} {H : Heap} {tys : List (ClassId × FieldType)} (hP : va_P (dC, dI) vwCl (us_wu h0 u) H) (hK : va_K (dC, dI) vwCl tys s) {U : State} (hU : U.heap = H) (hW : s.WarmedH U.vm) : us_Pu dC dI h0 u H.size U :=
  ⟨by rw [hU], by rw [hU]; exact hP, va_K.moved hW.alike (hK.sub [] rfl)⟩
theorem us_Au_le {A : Nat → Prop} {s : State} {H : Heap} {locs : List Loc} {h0 : Nat} (h : A h0) (hS : va_S A s.heap H locs) (hA : ∀ q : Nat, s.heap.size ≤ q → A q) : ∀ q : Nat, us_Au h0 H.size q → A q := by
  rintro q (rfl | h1)
  · exact h
  · exact hA q (Nat.le_trans hS.1 h1)
theorem us_nz {r : Int32} (h : r = 0 ∨ r = 1) : narrow .boolean (.int r) = .int r := by
  rcases h with rfl | rfl <;> decide
theorem us_k14 {P : Nat → Prop} {k : Nat} (hk : k < 14) (h0 : P 0) (h1 : P 1) (h2 : P 2) (h3 : P 3) (h4 : P 4) (h5 : P 5) (h6 : P 6) (h7 : P 7) (h8 : P 8) (h9 : P 9) (h10 : P 10) (h11 : P 11) (h12 : P 12) (h13 : P 13) : P k := by
  have : k = 0 ∨ k = 1 ∨ k = 2 ∨ k = 3 ∨ k = 4 ∨ k = 5 ∨ k = 6 ∨ k = 7 ∨ k = 8 ∨ k = 9 ∨ k = 10 ∨ k = 11 ∨ k = 12 ∨ k = 13 := by omega
  rcases this with rfl | rfl | rfl | rfl | rfl | rfl | rfl | rfl | rfl | rfl | rfl | rfl | rfl | rfl <;> assumption
theorem us_u_get {u : Nat → Int32} {k : Nat} (hk : k < 14) : (us_u u)[k]? = some (.int (u k)) :=
  us_k14 (P := fun k => (us_u u)[k]? = some (.int (u k))) hk rfl rfl rfl rfl rfl rfl rfl rfl rfl rfl rfl rfl rfl rfl
theorem us_u_set {u : Nat → Int32} {k : Nat} {x : Int32} (hk : k < 14) : (us_u u).set k (.int x) = us_u (upd u k x) :=
  us_k14 (P := fun k => (us_u u).set k (.int x) = us_u (upd u k x)) hk rfl rfl rfl rfl rfl rfl rfl rfl rfl rfl rfl rfl rfl rfl
theorem us_T_own {k : Nat} (hk : k < 14) : (TX0 k).1 = RX0 := us_k14 (P := fun k => (TX0 k).1 = RX0) hk rfl rfl rfl rfl rfl rfl rfl rfl rfl rfl rfl rfl rfl rfl
theorem us_T_fin {k : Nat} (hk : k < 14) : (TX0 k).2.2.2 = false := us_k14 (P := fun k => (TX0 k).2.2.2 = false) hk rfl rfl rfl rfl rfl rfl rfl rfl rfl rfl rfl rfl rfl rfl
theorem us_T_int {k : Nat} (hk : k < 14) : parseFieldDescriptor (TX0 k).2.2.1 = some .int := by
  rw [tyX0_ok k hk]
  exact us_k14 (P := fun k => some (tyX0 k) = some .int) hk rfl rfl rfl rfl rfl rfl rfl rfl rfl rfl rfl rfl rfl rfl
section USU
variable {p : Program} {l : Launch} {e : Env} {R : Room} {s : State} {m : MethodId} {args : Array Value} {below : List Frame} {meth : Method} {c : Code} {H : Heap} {locs : List Loc} {cells slots : Nat} {Q : State → Prop}
variable {cc : ByteArray} {pc : Nat} {ls : Array Slot} {rest : List Value} {D : va_G} {A : Nat → Prop} {a : Nat} {tys : List (ClassId × FieldType)} {ws : va_W} {H0 : Heap}
theorem us_getU (hexec : p.tables.exec = Jvm.exec) (hb : c.code = cc) {own : String} {index : Nat} {Ts : List Cond} (hts : ∀ w ∈ Ts, w.before args s = true) (hin : ∀ w ∈ u_ws RX0 TX0 14, w ∈ Ts) (hown : s.vm.findClass own = some m.cls) (hK : va_K D vwCl tys s) (hP : va_P D vwCl ws H) (q0 : Nat) {u : Nat → Int32} (he : ws[q0]? = some (a, .inr (0, us_u u))) (k : Nat) (hk : k < 14) (hlink : (Cond.fieldLink own index RX0 (TX0 k).2.1 (TX0 k).2.2.1).before args s = true) {v : Int32} (hv : u k = v) (hdg : decode cc pc = .ok (.getfield index, 3))
    (kk : W p l e R s m args below meth c H locs cells slots Q (F0 m (pc + 3) ls (.int v :: rest))) : W p l e R s m args below meth c H locs cells slots Q (F0 m pc ls (.ref a :: rest)) := by
  subst hv
  exact va_get (C := RX0) (T := TX0) (N := 14) hexec hb hts hin hown hK hP q0 he rfl k hk hlink (fun x h => by rw [us_T_own hk] at h; exact h) (us_u_get hk) hdg kk
theorem us_getUN (hexec : p.tables.exec = Jvm.exec) (hb : c.code = cc) {own host : String} {index : Nat} {Ts : List Cond} (hts : ∀ w ∈ Ts, w.before args s = true) (hin : ∀ w ∈ u_ws RX0 TX0 14, w ∈ Ts) (hown : s.vm.findClass own = some m.cls) (hK : va_K D vwCl tys s) (hP : va_P D vwCl ws H) (q0 : Nat) {u : Nat → Int32} (he : ws[q0]? = some (a, .inr (0, us_u u))) (k : Nat) (hk : k < 14) (hlink : (Cond.fieldLinkNest own index RX0 (TX0 k).2.1 (TX0 k).2.2.1 host).before args s = true) {v : Int32} (hv : u k = v) (hdg : decode cc pc = .ok (.getfield index, 3))
    (kk : W p l e R s m args below meth c H locs cells slots Q (F0 m (pc + 3) ls (.int v :: rest))) : W p l e R s m args below meth c H locs cells slots Q (F0 m pc ls (.ref a :: rest)) := by
  subst hv
  exact va_getN (C := RX0) (T := TX0) (N := 14) hexec hb hts hin hown hK hP q0 he rfl k hk hlink (fun x h => by rw [us_T_own hk] at h; exact h) (us_u_get hk) hdg kk
theorem us_putU (hexec : p.tables.exec = Jvm.exec) (hb : c.code = cc) {own : String} {index : Nat} {Ts : List Cond} (hts : ∀ w ∈ Ts, w.before args s = true) (hin : ∀ w ∈ u_ws RX0 TX0 14, w ∈ Ts) (hown : s.vm.findClass own = some m.cls) (hK : va_K D vwCl tys s) (hP : va_P D vwCl ws H) (hD : va_D A ws) (hS : va_S A H0 H locs) (q0 : Nat) {u : Nat → Int32} (he : ws[q0]? = some (a, .inr (0, us_u u))) (k : Nat) (hk : k < 14) (hlink : (Cond.fieldLink own index RX0 (TX0 k).2.1 (TX0 k).2.2.1).before args s = true) {x : Int32} (hdg : decode cc pc = .ok (.putfield index, 3))
    (kk : ∀ (H1 : Heap) (locs1 : List Loc), va_P D vwCl (ws.set q0 (a, .inr (0, us_u (upd u k x)))) H1 → va_D A (ws.set q0 (a, .inr (0, us_u (upd u k x)))) → va_S A H0 H1 locs1 → W p l e R s m args below meth c H1 locs1 cells slots Q (F0 m (pc + 3) ls rest)) : W p l e R s m args below meth c H locs cells slots Q (F0 m pc ls (.int x :: .ref a :: rest)) := by
  refine va_put (C := RX0) (T := TX0) (N := 14) (ty := .int) hexec hb hts hin tyX0 tyX0_ok nmX0 hown hK hP hD hS q0 he rfl k hk hlink (fun x h => by rw [us_T_own hk] at h; exact h) (us_T_fin hk) (us_T_int hk) rfl rfl (by simp [us_u]; omega) hdg ?_
  rw [us_u_set hk]
  exact kk
end USU
/-! what the methods of the class answer and leave. F: 0 unitOf 1 minuteOf 2 kindOf 3 valueOf 4 findingOf 5 order -/
def sp_isU (n : Int32) (nu : Nat) : Int32 := if n < 0 then 0 else if nI nu ≤ n then 0 else 1
def sp_st (nu : Nat) (U : Nat → Nat → Int32) : Nat → Nat → Int32 := fun j => if j < nu then sp_fresh (U j) else U j
def sp_rp (F : Nat → Nat → Int32) (t : Int32) : Nat → Nat → (Nat → Nat → Int32) × (Nat → Int32) → (Nat → Nat → Int32) × (Nat → Int32)
  | 0, _, S => S
  | f + 1, p, S =>
    if F 1 (F 5 p).toNatClampNeg ≤ t then
      sp_rp F t f (p + 1) (va_up S.1 (F 0 (F 5 p).toNatClampNeg).toNatClampNeg (sp_take (S.1 (F 0 (F 5 p).toNatClampNeg).toNatClampNeg) (F 2 (F 5 p).toNatClampNeg) (F 3 (F 5 p).toNatClampNeg) (F 1 (F 5 p).toNatClampNeg) (nI p)).2,
        upd S.2 (F 5 p).toNatClampNeg (sp_take (S.1 (F 0 (F 5 p).toNatClampNeg).toNatClampNeg) (F 2 (F 5 p).toNatClampNeg) (F 3 (F 5 p).toNatClampNeg) (F 1 (F 5 p).toNatClampNeg) (nI p)).1)
    else S
/-- behind replay(t): the units, the findings -/
def sp_ru (nu nm : Nat) (F U : Nat → Nat → Int32) (t : Int32) : Nat → Nat → Int32 := (sp_rp F t nm 0 (sp_st nu U, F 4)).1
def sp_rf (nu nm : Nat) (F U : Nat → Nat → Int32) (t : Int32) : Nat → Nat → Int32 := va_up F 4 (sp_rp F t nm 0 (sp_st nu U, F 4)).2
def sp_ins (mo : Nat → Int32) (number t : Int32) : Nat → (Nat → Int32) → Nat → Int32
  | 0, oo => upd oo 0 number
  | p + 1, oo => if mo (oo p).toNatClampNeg ≤ t then upd oo (p + 1) number else sp_ins mo number t p (upd oo (p + 1) (oo p))
def sp_rk (U : Nat → Nat → Int32) (inc ar : Int32) : Nat → Int32
  | 0 => 1
  | i + 1 => if sp_there (U i) inc = 0 then sp_rk U inc ar i else if ar ≤ U i 12 then sp_rk U inc ar i else sp_rk U inc ar i + 1
def sp_rank (nu : Nat) (U : Nat → Nat → Int32) (j : Nat) : Int32 := if sp_there (U j) (sp_inc (U j)) = 0 then 0 else sp_rk U (sp_inc (U j)) (U j 12) nu
def sp_many (U : Nat → Nat → Int32) (st : Int32) : Nat → Int32
  | 0 => 0
  | i + 1 => if U i 2 = st then sp_many U st i + 1 else sp_many U st i
def sp_cf (fo : Nat → Int32) (x : Int32) : Nat → Int32
  | 0 => 0
  | i + 1 => if fo i = x then sp_cf fo x i + 1 else sp_cf fo x i
def sp_arr (nu : Nat) (U : Nat → Nat → Int32) (inc rk : Int32) : Nat → Nat → Int32
  | 0, _ => -1
  | f + 1, i => if sp_there (U i) inc = 0 then sp_arr nu U inc rk f (i + 1) else if sp_rank nu U i = rk then nI i else sp_arr nu U inc rk f (i + 1)
/-- how a call ends: 0 it answers, 1 IllegalArgumentException, 2 IndexOutOfBoundsException, 3 UnsupportedOperationException -/
def us_en (k : Int32) : String := if k = 1 then "java/lang/IllegalArgumentException" else if k = 2 then "java/lang/IndexOutOfBoundsException" else "java/lang/UnsupportedOperationException"
def sp_minK (t : Int32) : Int32 := if sp_in t 99999 = 0 then 2 else 0
def sp_refK (n : Int32) (nu : Nat) : Int32 := if sp_isU n nu = 0 then 1 else 0
def sp_unitK (h k : Int32) (nu : Nat) : Int32 := if sp_in h 9 = 0 then 2 else if sp_in k 9 = 0 then 2 else if nI nu < 30 then 0 else 3
def sp_msgK (un t k v : Int32) (nu nm : Nat) : Int32 :=
  if sp_isU un nu = 0 then 1 else if sp_in k 15 = 0 then 1 else if sp_in t 99999 = 0 then 2 else if sp_val k v = 0 then 2 else if nI nm < 200 then 0 else 3
def sp_atK (un t w : Int32) (nu : Nat) : Int32 := if sp_isU un nu = 0 then 1 else if sp_in w 9 = 0 then 1 else if sp_in t 99999 = 0 then 2 else 0
def sp_atR (nu : Nat) (U : Nat → Nat → Int32) (j : Nat) (t w : Int32) : Int32 :=
  if w = 0 then U j 2 else if w = 1 then U j 3 else if w = 2 then sp_stn (U j) else if w = 3 then sp_inc (U j) else if w = 4 then U j 6
  else if w = 5 then U j 7 else if w = 6 then U j 8 else if w = 7 then sp_dr (U j) t else if w = 8 then (if sp_send (U j) t = 0 then 0 else 1) else sp_rank nu U j
def sp_ruK (n t : Int32) (nu : Nat) : Int32 := if sp_isU n nu = 0 then 1 else if sp_in t 99999 = 0 then 2 else 0
def sp_age (u : Nat → Int32) (t : Int32) : Int32 := if u 9 = -1 then -1 else t - u 10
def sp_wrongK (n : Int32) (nm : Nat) : Int32 := if n < 0 then 1 else if n < nI nm then 0 else 1
def sp_manyK (st t : Int32) : Int32 := if sp_in st 10 = 0 then 1 else if sp_in t 99999 = 0 then 2 else 0
def sp_arrK (inc rk t : Int32) : Int32 := if sp_in inc 19 = 0 then 1 else if sp_in t 99999 = 0 then 2 else if 1 ≤ rk then 0 else 2
def sp_toldK (w : Int32) : Int32 := if w = 0 then 0 else if w = 1 then 0 else if w = 2 then 0 else if w = 3 then 0 else if w = 4 then 0 else if w = 5 then 0 else if w = 6 then 0 else 1
def sp_msgF (nm : Nat) (F : Nat → Nat → Int32) (p1 p2 p3 p4 : Int32) : Nat → Nat → Int32 :=
  va_up (va_up (va_up (va_up (va_up F 0 (upd (F 0) nm p1)) 1 (upd (F 1) nm p2)) 2 (upd (F 2) nm p3)) 3 (upd (F 3) nm p4)) 5 (sp_ins (upd (F 1) nm p2) (nI nm) p2 nm (F 5))
def sp_toldU (w : Int32) (nu nm : Nat) (F U : Nat → Nat → Int32) : Nat → Nat → Int32 := if w = 1 then sp_ru nu nm F U 99999 else if w = 2 then sp_ru nu nm F U 99999 else if w = 3 then sp_ru nu nm F U 99999 else if w = 4 then sp_ru nu nm F U 99999 else U
def sp_toldF (w : Int32) (nu nm : Nat) (F U : Nat → Nat → Int32) : Nat → Nat → Int32 := if w = 1 then sp_rf nu nm F U 99999 else if w = 2 then sp_rf nu nm F U 99999 else if w = 3 then sp_rf nu nm F U 99999 else if w = 4 then sp_rf nu nm F U 99999 else F
def sp_toldR (w : Int32) (nu nm : Nat) (nk : Int32) (F U : Nat → Nat → Int32) : Int32 :=
  if w = 0 then nk else if w = 5 then nI nm else if w = 6 then nI nu else sp_cf (sp_rf nu nm F U 99999 4) w nm
/-! what the statement gives beside the methods' words, carried from the law's start into every call -/
def us_nw : List Cond := [Cond.methodLinkNest RX1 34 yX0_init "UnitStates", Cond.fieldLinkNest RX1 100 "UnitStates$Unit" "state" "I" "UnitStates", Cond.fieldLinkNest RX1 103 "UnitStates$Unit" "since" "I" "UnitStates", Cond.fieldLinkNest RX1 113 "UnitStates$Unit" "crew" "I" "UnitStates", Cond.fieldLinkNest RX1 116 "UnitStates$Unit" "things" "I" "UnitStates", Cond.fieldLinkNest RX1 119 "UnitStates$Unit" "link" "I" "UnitStates", Cond.fieldLinkNest RX1 137 "UnitStates$Unit" "lastPlace" "I" "UnitStates", Cond.fieldLinkNest RX1 140 "UnitStates$Unit" "lastPlaceMinute" "I" "UnitStates", Cond.fieldLinkNest RX1 143 "UnitStates$Unit" "expectedMinute" "I" "UnitStates", Cond.fieldLinkNest RX1 171 "UnitStates$Unit" "arrival" "I" "UnitStates", Cond.castable "java/lang/IndexOutOfBoundsException" "java/lang/IndexOutOfBoundsException", Cond.declares ⟨"java/lang/RuntimeException", "<init>", "()V"⟩, Cond.declares ⟨"java/lang/RuntimeException", "<init>", "(Ljava/lang/String;)V"⟩, Cond.declares ⟨"java/lang/Exception", "<init>", "()V"⟩, Cond.declares ⟨"java/lang/Exception", "<init>", "(Ljava/lang/String;)V"⟩, Cond.declares ⟨"java/lang/Throwable", "<init>", "()V"⟩, Cond.declares ⟨"java/lang/Throwable", "<init>", "(Ljava/lang/String;)V"⟩, Cond.castable "java/lang/UnsupportedOperationException" "java/lang/UnsupportedOperationException", Cond.methodLinkNest RX1 57 yX0_settle "UnitStates", Cond.castable "java/lang/IllegalArgumentException" "java/lang/IllegalArgumentException", Cond.methodLinkNest RX1 164 yX0_startAnew "UnitStates", Cond.methodLinkNest RX1 167 yX0_take "UnitStates", Cond.methodLinkNest RX1 106 yX0_stationNow "UnitStates", Cond.methodLinkNest RX1 110 yX0_incidentNow "UnitStates", Cond.methodLinkNest RX1 122 yX0_drivenUpTo "UnitStates", Cond.methodLinkNest RX1 126 yX0_isSendable "UnitStates", Cond.methodLinkNest RX1 158 yX0_isThereAt "UnitStates"]
def us_nc : List (String × String) := [("java/lang/UnsupportedOperationException", "java/lang/IndexOutOfBoundsException"), ("java/lang/IllegalArgumentException", "java/lang/IndexOutOfBoundsException"), ("java/lang/IndexOutOfBoundsException", "java/lang/UnsupportedOperationException"), ("java/lang/IllegalArgumentException", "java/lang/UnsupportedOperationException"), ("java/lang/IndexOutOfBoundsException", "java/lang/IllegalArgumentException"), ("java/lang/UnsupportedOperationException", "java/lang/IllegalArgumentException")]
def us_str : List (String × Nat × String) := [(RX1, 41, "no such station"), (RX1, 46, "no such crew"), (RX1, 54, "no room for a unit"), (RX1, 70, "no such unit"), (RX1, 73, "no such kind"), (RX1, 162, "no such minute"), (RX1, 82, "no such value of this kind"), (RX1, 87, "no room for a message"), (RX1, 95, "no such what"), (RX1, 146, "no such message"), (RX1, 152, "no such state"), (RX1, 154, "no such incident"), (RX1, 156, "ranks begin with 1")]
def us_mv : Cond → Bool
  | .fieldLinkNest .. => true
  | .methodLinkNest .. => true
  | .declares .. => true
  | .castable .. => true
  | _ => false
theorem us_nw_mv : ∀ w ∈ us_nw, us_mv w = true := by decide +kernel
theorem us_mv_warm {w : Cond} {s U : State} (hw : us_mv w = true) (hW : s.WarmedH U.vm) (h : va_Nw w s) : va_Nw w U := by
  cases w with
  | fieldLinkNest => exact va_Nw.warmF hW h
  | methodLinkNest => exact va_Nw.warmM hW h
  | declares => exact va_Nw.warmD hW h
  | castable => exact va_Nw.warmC hW h
  | _ => cases hw
def us_Ev (A : Nat → Prop) (U : State) (H : Heap) : Prop :=
  vx_Zq Bundle.tN "UNASSIGNED_STACK" Bundle.steD A U H ∧ vx_Zq Bundle.tN "SUPPRESSED_SENTINEL" Bundle.listD A U H ∧
  (∀ w ∈ us_nw, va_Nw w U) ∧ (∀ q ∈ us_nc, va_Nc q.1 q.2 U) ∧ (∀ q ∈ us_str, ∃ sa : Nat, vk_R q.1 q.2.1 q.2.2 sa U)
theorem us_Ev.warm {A : Nat → Prop} {s U : State} {H : Heap} (h : us_Ev A s H) (hW : s.WarmedH U.vm) : us_Ev A U H :=
  ⟨h.1.moved hW.alike, h.2.1.moved hW.alike, fun w hw => us_mv_warm (us_nw_mv w hw) hW (h.2.2.1 w hw), fun q hq => (h.2.2.2.1 q hq).moved hW.alike, fun q hq => by
    obtain ⟨sa, h1⟩ := h.2.2.2.2 q hq
    exact ⟨sa, h1.warm hW⟩⟩
theorem us_Ev.narrow {A B : Nat → Prop} {U : State} {H : Heap} (h : us_Ev A U H) (hB : ∀ q, B q → A q) : us_Ev B U H :=
  ⟨h.1.narrow hB, h.2.1.narrow hB, h.2.2⟩
theorem us_Ev.kept {A : Nat → Prop} {U : State} {H H1 : Heap} (h : us_Ev A U H) (hq : ∀ a : Nat, a < H.size → ¬ A a → H1[a]? = H[a]?) : us_Ev A U H1 :=
  ⟨h.1.kept hq, h.2.1.kept hq, h.2.2⟩
theorem us_Ev.at {A B : Nat → Prop} {s U : State} {H : Heap} {locs : List Loc} (h : us_Ev A s s.heap) (hS : va_S A s.heap H locs) (hB : ∀ q, B q → A q) (hU : U.heap = H) (hW : s.WarmedH U.vm) : us_Ev B U U.heap := by
  rw [hU]
  exact ((h.kept hS.2.1).narrow hB).warm hW
/-! the class's object, its rows and its units.
F: 0 unitOf 1 minuteOf 2 kindOf 3 valueOf 4 findingOf 5 order -/
def us_pl (n : Nat) (pa : Nat → Nat) (U : Nat → Nat → Int32) : va_W := (List.range n).map (fun i => (pa i, .inr (0, us_u (U i))))
def us_X (ad : Nat → Nat) (cU cI : ClassId) (pa : Nat → Nat) (nu nm : Nat) (nk : Int32) (F : Nat → Nat → Int32) : va_W :=
  [(ad 0, .inr (1, [.ref (ad 1), .int (nI nu), .ref (ad 2), .ref (ad 3), .ref (ad 4), .ref (ad 5), .ref (ad 6), .ref (ad 7), .int (nI nm), .int nk])),
   (ad 1, .inl (cU, 30, .inr (.inr (.inr (.inr (fun i => some (pa i))))))),
   (ad 2, .inl (cI, 200, .inl (F 0))), (ad 3, .inl (cI, 200, .inl (F 1))), (ad 4, .inl (cI, 200, .inl (F 2))), (ad 5, .inl (cI, 200, .inl (F 3))), (ad 6, .inl (cI, 200, .inl (F 4))), (ad 7, .inl (cI, 200, .inl (F 5)))]
def us_W (ad : Nat → Nat) (cU cI : ClassId) (pa : Nat → Nat) (nu nm : Nat) (nk : Int32) (F U : Nat → Nat → Int32) : va_W := us_X ad cU cI pa nu nm nk F ++ us_pl 30 pa U
def us_ads (ad pa : Nat → Nat) : List Nat := [ad 0, ad 1, ad 2, ad 3, ad 4, ad 5, ad 6, ad 7] ++ (List.range 30).map pa
theorem us_W_adr {ad : Nat → Nat} {cU cI : ClassId} {pa : Nat → Nat} {nu nm : Nat} {nk : Int32} {F U : Nat → Nat → Int32} : us_adr (us_W ad cU cI pa nu nm nk F U) = us_ads ad pa := by
  simp [us_adr, us_W, us_X, us_pl, us_ads, Function.comp_def]
theorem us_pl_get {X : va_W} {n i : Nat} {pa : Nat → Nat} {U : Nat → Nat → Int32} (h : i < n) : (X ++ us_pl n pa U)[X.length + i]? = some (pa i, .inr (0, us_u (U i))) := by
  rw [List.getElem?_append_right (by omega), Nat.add_sub_cancel_left]
  simp [us_pl, h]
theorem us_W_get {ad : Nat → Nat} {cU cI : ClassId} {pa : Nat → Nat} {nu nm : Nat} {nk : Int32} {F U : Nat → Nat → Int32} {i : Nat} (h : i < 30) : (us_W ad cU cI pa nu nm nk F U)[8 + i]? = some (pa i, .inr (0, us_u (U i))) :=
  us_pl_get (X := us_X ad cU cI pa nu nm nk F) h
/-- one unit's cell out of the world -/
theorem us_W_sub {D : va_G} {ad : Nat → Nat} {cU cI : ClassId} {pa : Nat → Nat} {nu nm : Nat} {nk : Int32} {F U : Nat → Nat → Int32} {i : Nat} {H : Heap} (hP : va_P D vwCl (us_W ad cU cI pa nu nm nk F U) H) (h : i < 30) : va_P D vwCl (us_wu (pa i) (U i)) H := by
  intro k q hk
  have h1 := (List.getElem?_eq_some_iff.mp hk).1
  simp only [List.length_cons, List.length_nil] at h1
  have h2 : k = 0 := by omega
  subst h2
  cases hk
  exact hP _ _ (us_W_get h)
theorem us_pl_upd {n i : Nat} {pa : Nat → Nat} {U : Nat → Nat → Int32} {u : Nat → Int32} {k : Nat} {q : Nat × va_E} (hk : (us_pl n pa (va_up U i u))[k]? = some q) : (k = i ∧ q = (pa i, .inr (0, us_u u))) ∨ (k ≠ i ∧ (us_pl n pa U)[k]? = some q) := by
  simp only [us_pl, List.getElem?_map, Option.map_eq_some_iff] at hk ⊢
  obtain ⟨j, h1, h2⟩ := hk
  have h3 : j = k := by
    have := List.getElem?_eq_some_iff.mp h1
    obtain ⟨h4, h5⟩ := this
    rw [List.getElem_range] at h5
    exact h5.symm
  subst h3
  by_cases hji : j = i
  · subst hji
    exact Or.inl ⟨rfl, by rw [← h2, va_up_self]⟩
  · exact Or.inr ⟨hji, j, h1, by rw [← h2, va_up_ne _ _ hji]⟩
/-- behind a call on one unit's cell -/
theorem us_W_put {D : va_G} {A0 : Nat → Prop} {ad : Nat → Nat} {cU cI : ClassId} {pa : Nat → Nat} {nu nm : Nat} {nk : Int32} {F U : Nat → Nat → Int32} {i : Nat} {u : Nat → Int32} {H H1 : Heap} (h : i < 30) (hP : va_P D vwCl (us_W ad cU cI pa nu nm nk F U) H) (hD : va_D A0 (us_W ad cU cI pa nu nm nk F U))
    (hk : ∀ q : Nat, q < H.size → ¬ us_Au (pa i) H.size q → H1[q]? = H[q]?) (hP1 : va_P D vwCl (us_wu (pa i) u) H1) : va_P D vwCl (us_W ad cU cI pa nu nm nk F (va_up U i u)) H1 := by
  have old : ∀ (k : Nat) (q : Nat × va_E), k ≠ 8 + i → (us_W ad cU cI pa nu nm nk F U)[k]? = some q → va_at D vwCl q H1 := by
    intro k q hne hq
    have hlt := (hP k q hq).lt
    refine (hP k q hq).kept (hk q.1 hlt ?_)
    rintro (h1 | h1)
    · exact hne (hD.1 k (8 + i) q _ hq (us_W_get h) h1)
    · omega
  intro k q hq
  by_cases hl : k < 8
  · refine old k q (by omega) ?_
    have e1 : (us_W ad cU cI pa nu nm nk F (va_up U i u))[k]? = (us_X ad cU cI pa nu nm nk F)[k]? := List.getElem?_append_left hl
    have e2 : (us_W ad cU cI pa nu nm nk F U)[k]? = (us_X ad cU cI pa nu nm nk F)[k]? := List.getElem?_append_left hl
    rw [e2, ← e1]
    exact hq
  · have e1 : (us_W ad cU cI pa nu nm nk F (va_up U i u))[k]? = (us_pl 30 pa (va_up U i u))[k - 8]? := List.getElem?_append_right (by show 8 ≤ k; omega)
    have e2 : (us_W ad cU cI pa nu nm nk F U)[k]? = (us_pl 30 pa U)[k - 8]? := List.getElem?_append_right (by show 8 ≤ k; omega)
    rw [e1] at hq
    rcases us_pl_upd hq with ⟨h1, h2⟩ | ⟨h1, h2⟩
    · subst h2
      exact hP1 0 _ rfl
    · exact old k q (by omega) (by rw [e2]; exact h2)
def us_In (as : List Nat) : Nat → Prop := fun q => q ∈ as
def us_AA (as : List Nat) (sz : Nat) : Nat → Prop := fun q => q ∈ as ∨ sz ≤ q
theorem us_D_in {A : Nat → Prop} {as : List Nat} {ws : va_W} (ha : us_adr ws = as) (hD : va_D A ws) : va_D (us_In as) ws :=
  ⟨hD.1, fun k q hk => by
    show q.1 ∈ as
    rw [← ha]; exact List.mem_map.mpr ⟨q, List.mem_of_getElem? hk, rfl⟩⟩
theorem us_D_aa {as : List Nat} {sz : Nat} {ws : va_W} (hD : va_D (us_In as) ws) : va_D (us_AA as sz) ws := hD.weaken (fun _ _ _ h => Or.inl h)
def us_ty (cU cI : ClassId) : List (ClassId × FieldType) := [(cU, .object RX0), (cI, .int)]
def us_Px (dC : Nat → ClassId) (dI : Nat → Nat → Nat) (ad : Nat → Nat) (cU cI : ClassId) (pa : Nat → Nat) (nu nm : Nat) (nk : Int32) (F U : Nat → Nat → Int32) (A : Nat → Prop) (sz : Nat) (S : State) : Prop :=
  S.heap.size = sz ∧ va_P (dC, dI) vwCl (us_W ad cU cI pa nu nm nk F U) S.heap ∧ va_K (dC, dI) vwCl (us_ty cU cI) S ∧ va_D (us_In (us_ads ad pa)) (us_W ad cU cI pa nu nm nk F U) ∧ us_Ev A S S.heap
def us_Bx (dC : Nat → ClassId) (dI : Nat → Nat → Nat) (ad : Nat → Nat) (cU cI : ClassId) (pa : Nat → Nat) (nu nm : Nat) (nk : Int32) (F U : Nat → Nat → Int32) (t : State) : Prop := va_P (dC, dI) vwCl (us_W ad cU cI pa nu nm nk F U) t.heap
theorem us_Px_blind {av : List Value} {dC : Nat → ClassId} {dI : Nat → Nat → Nat} {ad : Nat → Nat} {cU cI : ClassId} {pa : Nat → Nat} {nu nm : Nat} {nk : Int32} {F U : Nat → Nat → Int32} {A : Nat → Prop} {sz : Nat} : FrameBlind (va_Pc av (us_Px dC dI ad cU cI pa nu nm nk F U A sz)) :=
  fun a S g mk q => ⟨q.1, q.2.1, q.2.2.1, va_K.moved (u := S) (U := S.calling g mk a) (Vm.Alike.refl S.vm) q.2.2.2.1, q.2.2.2.2.1, us_Ev.warm (s := S) (U := S.calling g mk a) q.2.2.2.2.2 (State.WarmedH.refl S)⟩
theorem us_Px_at {s : State} {dC : Nat → ClassId} {dI : Nat → Nat → Nat} {ad : Nat → Nat} {cU cI : ClassId} {pa : Nat → Nat} {nu nm : Nat} {nk : Int32} {F U : Nat → Nat → Int32} {A B : Nat → Prop} {H : Heap} {locs : List Loc} (hP : va_P (dC, dI) vwCl (us_W ad cU cI pa nu nm nk F U) H) (hK : va_K (dC, dI) vwCl (us_ty cU cI) s) {A0 : Nat → Prop} (hD : va_D A0 (us_W ad cU cI pa nu nm nk F U)) (hE : us_Ev A s s.heap) (hS : va_S A s.heap H locs) (hB : ∀ q, B q → A q) {S : State} (hU : S.heap = H) (hW : s.WarmedH S.vm) : us_Px dC dI ad cU cI pa nu nm nk F U B H.size S :=
  ⟨by rw [hU], by rw [hU]; exact hP, va_K.moved hW.alike hK, us_D_in us_W_adr hD, hE.at hS hB hU hW⟩
theorem us_Bx_use {dC : Nat → ClassId} {dI : Nat → Nat → Nat} {ad : Nat → Nat} {cU cI : ClassId} {pa : Nat → Nat} {nu nm : Nat} {nk : Int32} {F U : Nat → Nat → Int32} {t : State} {H : Heap} (ht : t.heap = H) (h : us_Bx dC dI ad cU cI pa nu nm nk F U t) : va_P (dC, dI) vwCl (us_W ad cU cI pa nu nm nk F U) H := by
  subst ht; exact h
theorem us_Bx_of {dC : Nat → ClassId} {dI : Nat → Nat → Nat} {ad : Nat → Nat} {cU cI : ClassId} {pa : Nat → Nat} {nu nm : Nat} {nk nk' : Int32} {F U F' U' : Nat → Nat → Int32} {t : State} {H : Heap} (ht : t.heap = H) (h : va_P (dC, dI) vwCl (us_W ad cU cI pa nu nm nk F U) H) (e0 : nk = nk') (e1 : F = F') (e2 : U = U') : us_Bx dC dI ad cU cI pa nu nm nk' F' U' t := by
  subst e0; subst e1; subst e2; subst ht; exact h
theorem us_AA_le {as : List Nat} {s : State} {H : Heap} {locs : List Loc} (hS : va_S (us_AA as s.heap.size) s.heap H locs) : ∀ q : Nat, us_AA as H.size q → us_AA as s.heap.size q := by
  rintro q (h | h)
  · exact Or.inl h
  · exact Or.inr (Nat.le_trans hS.1 h)
theorem us_ads_pa {ad pa : Nat → Nat} {i : Nat} (h : i < 30) : pa i ∈ us_ads ad pa := List.mem_append_right _ (List.mem_map.mpr ⟨i, List.mem_range.mpr h, rfl⟩)
def us_P0 (sz : Nat) (S : State) : Prop := S.heap.size = sz ∧ us_Ev (us_new sz) S S.heap
theorem us_P0_blind {av : List Value} {sz : Nat} : FrameBlind (va_Pc av (us_P0 sz)) :=
  fun a S g mk q => ⟨q.1, q.2.1, us_Ev.warm (s := S) (U := S.calling g mk a) q.2.2 (State.WarmedH.refl S)⟩
theorem us_P0_at {s : State} {A : Nat → Prop} {H : Heap} {locs : List Loc} (hE : us_Ev A s s.heap) (hS : va_S A s.heap H locs) (hB : ∀ q, us_new H.size q → A q) {S : State} (hU : S.heap = H) (hW : s.WarmedH S.vm) : us_P0 H.size S :=
  ⟨by rw [hU], hE.at hS hB hU hW⟩
theorem us_isU_spec {n : Int32} {nu : Nat} (hn : nu ≤ 30) (h : ¬ sp_isU n nu = 0) : ∃ j : Nat, j < nu ∧ n = nI j := by
  unfold sp_isU at h
  split at h
  · exact absurd rfl h
  · rename_i h1
    split at h
    · exact absurd rfl h
    · rename_i h2
      rcases pk_ix n (n := nu) (by omega) with h3 | h3 | h3
      · exact absurd h3 h1
      · exact absurd h3 h2
      · exact h3
theorem us_up_self {α : Type} {f : Nat → α} {k : Nat} : va_up f k (f k) = f := by
  funext j
  by_cases h : j = k
  · subst h; rw [va_up_self]
  · rw [va_up_ne _ _ h]
theorem us_up_up {α : Type} {f : Nat → α} {k : Nat} {v w : α} : va_up (va_up f k v) k w = va_up f k w := by
  funext j
  by_cases h : j = k
  · subst h; rw [va_up_self, va_up_self]
  · rw [va_up_ne _ _ h, va_up_ne _ _ h, va_up_ne _ _ h]
theorem us_st_0 {U : Nat → Nat → Int32} : sp_st 0 U = U := by
  funext j; simp [sp_st]
theorem us_st_next {U : Nat → Nat → Int32} {i : Nat} : va_up (sp_st i U) i (sp_fresh (sp_st i U i)) = sp_st (i + 1) U := by
  funext j
  by_cases h : j = i
  · subst h; rw [va_up_self]; simp [sp_st]
  · rw [va_up_ne _ _ h]
    by_cases h2 : j < i
    · simp [sp_st, h2, Nat.lt_succ_of_lt h2]
    · have h3 : ¬ j < i + 1 := by omega
      simp [sp_st, h2, h3]
theorem us_isU_cl {n : Int32} {nu : Nat} (hn : nu ≤ 30) (h : ¬ sp_isU n nu = 0) : n.toNatClampNeg < 30 := by
  obtain ⟨j, hj, rfl⟩ := us_isU_spec hn h
  rw [nI_clamp (by omega)]
  omega
theorem us_lt_spec {n : Int32} {nm : Nat} (hn : nm ≤ 200) (h0 : ¬ n < 0) (h : n < nI nm) : ∃ j : Nat, j < nm ∧ n = nI j := by
  rcases pk_ix n (n := nm) (by omega) with h3 | h3 | h3
  · exact absurd h3 h0
  · exact absurd h (Int32.not_lt.mpr h3)
  · exact h3
theorem us_ins_ok {oo : Nat → Int32} {nm p n : Nat} (hO : ∀ q, q < nm → ∃ n, n < 200 ∧ oo q = nI n) (en : oo p = nI n) (hn : n < 200) : ∀ q, q < nm → ∃ n, n < 200 ∧ (upd oo (p + 1) (oo p)) q = nI n := by
  intro q hq
  by_cases h : q = p + 1
  · exact ⟨n, hn, by simp [upd, h, en]⟩
  · obtain ⟨k, h1, h2⟩ := hO q hq
    exact ⟨k, h1, by simp [upd, h, h2]⟩
theorem sp_in_01 (n k : Int32) : sp_in n k = 0 ∨ sp_in n k = 1 := by
  unfold sp_in
  split
  · exact Or.inl rfl
  · split
    · exact Or.inl rfl
    · exact Or.inr rfl
section USC
variable {p : Program} {l : Launch} {e : Env} {R : Room} {s : State} {m : MethodId} {args : Array Value} {below : List Frame} {meth : Method} {c : Code} {H : Heap} {locs : List Loc} {cells slots : Nat} {Q : State → Prop}
variable {mc ms : Nat} {free : Addr → Prop} {A0 A1 : Nat → Prop} {H0 : Heap} {a : Array Value} {pc : Nat} {ls : Array Slot} {st0 rest : List Value}
/-- a call that answers with a cell, or throws -/
theorem us_callr {S SX : Type} {post : S → Prop} {px : SX → Prop} {B : S → Nat → State → Prop} {BX : String → SX → State → Prop} {AX : Nat → Prop} (hr : vx_Run p l e R s m args below meth c H locs cells slots mc ms (F0 m pc ls st0) rest (va_Qr post B A1 a) (vx_X px BX AX) free) (hS : va_S A0 H0 H locs) (hA : ∀ q, q < H.size → A1 q → A0 q) (hf : ∀ q, free q → A0 q) (hAX : ∀ q, q < H.size → AX q → A0 q)
    (kx : ∀ (E : String) (ce : Cell) (q9 : Addr) (u : SX) (t : State) (H1 : Heap) (locs1 : List Loc), t.heap = H1 → s.vm.Alike t.vm → px u → BX E u t → H.size ≤ H1.size → (∀ q : Nat, q < H.size → ¬ AX q → H1[q]? = H[q]?) → va_S A0 H0 H1 locs1 → H1[q9]? = some ce → ce.vm = .none → s.vm.findClass E = some ce.cls → vx_W p l e R s m args below meth c H1 locs1 (cells + mc) (slots + ms) Q (F0 m pc ls rest) q9)
    (kk : ∀ (u : S) (ra : Nat) (t : State) (H1 : Heap) (locs1 : List Loc), t.heap = H1 → s.vm.Alike t.vm → post u → B u ra t → H.size ≤ H1.size → (∀ q : Nat, q < H.size → ¬ A1 q → H1[q]? = H[q]?) → va_S A0 H0 H1 locs1 → W p l e R s m args below meth c H1 locs1 (cells + mc) (slots + ms) Q (F0 m (pc + 3) ls (.ref ra :: rest))) : W p l e R s m args below meth c H locs cells slots Q (F0 m pc ls st0) := by
  intro T hT X
  rcases hr T hT X with ⟨v, st₀, t, T', L, h0, X', hL, e1, e2, ⟨⟨u, ra, hv, hp, hb⟩, hF⟩, st⟩ | ⟨q, st₀, t, T', L, E, ce, h0, X', hL, e1, e2, ⟨u, hp, hb, hF⟩, hce, hcv, hcl, st⟩
  · cases hv
    obtain ⟨k1, k2, k3⟩ := vx_keep h0 e1 hS hA hf hL hF
    obtain ⟨t2, a1, b1⟩ := kk u ra t T'.heap (locs ++ L) e1.symm (by rw [← e2]; exact X'.warmed.alike) hp hb k1 k2 k3 T' rfl X'
    exact ⟨t2, st t2 a1, b1⟩
  · obtain ⟨k1, k2, k3⟩ := vx_keep h0 e1 hS hAX hf hL hF
    obtain ⟨t2, a1, b1⟩ := kx E ce q u t T'.heap (locs ++ L) e1.symm (by rw [← e2]; exact X'.warmed.alike) hp hb k1 k2 k3 (by rw [e1]; exact hce) hcv hcl T' rfl X'
    exact ⟨t2, st.trans a1, b1⟩
end USC
