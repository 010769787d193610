/-! what the reference's methods answer and leave. G: 0 home 1 least 2 unitOf 3 minute 4 kind 5 value.
v: 0 state 1 since 2 station 3 incident 4 crew 5 things 6 link 7 driven 8 place 9 placed 10 expected 11 arrived 12 said -/
def um_in (x a b : Int32) : Int32 := if x < a then 0 else if b < x then 0 else 1
def um_isU (x : Int32) (nu : Nat) : Int32 := um_in x 0 (nI nu - 1)
def um_val (k v : Int32) : Int32 :=
  if k = 0 then um_in v 0 9 else if k = 1 then um_in v 0 19 else if k = 11 then um_in v 0 999999 else if k = 12 then um_in v 0 9
  else if k = 13 then um_in v 0 255 else if k = 14 then um_in v 0 1 else if k = 15 then um_in v 0 999 else 1
def um_th (a b c : Int32) : Int32 := if a = 0 then (if b = 0 then (if c = 0 then 0 else 3) else 2) else 1
def um_thr (a b c : Int32) : Int32 := if um_th a b c ≤ 0 then 0 else 1
def um_fls (a b : Int32) : Int32 :=
  if a = 0 then (if b = 1 then 1 else if b ≤ 6 then 0 else 1)
  else if a = 1 then (if b = 2 then 1 else if b = 0 then 1 else 0)
  else if a = 2 then (if b = 3 then 1 else if b = 6 then 1 else 0)
  else if a = 3 then (if b = 4 then 1 else if b = 5 then 1 else 0)
  else if a = 4 then (if b = 5 then 1 else 0)
  else if a = 5 then (if b = 1 then 1 else if b = 6 then 1 else 0)
  else if a = 6 then (if b = 0 then 1 else if b = 1 then 1 else if b = 7 then 1 else 0)
  else if a = 7 then (if b = 0 then 1 else if b = 6 then 1 else 0)
  else if a = 8 then (if b = 0 then 1 else if b = 9 then 1 else 0)
  else if a = 9 then (if b = 0 then 1 else if b = 8 then 1 else 0)
  else (if b = 0 then 1 else if b = 9 then 1 else 0)
def um_spend (v : Nat → Int32) (t : Int32) : Nat → Int32 :=
  if v 0 = 2 then upd v 7 (v 7 + (t - v 1)) else if v 0 = 6 then upd v 7 (v 7 + (t - v 1))
  else if v 0 = 0 then (if t - v 1 < 30 then v else upd v 7 0) else if v 0 ≤ 6 then v else if t - v 1 < 30 then v else upd v 7 0
def um_be2 (G : Nat → Nat → Int32) (v : Nat → Int32) (m : Nat) : Nat → Int32 := upd (upd (um_spend v (G 3 m)) 0 (G 4 m)) 1 (G 3 m)
def um_become (G : Nat → Nat → Int32) (v : Nat → Int32) (m : Nat) : Nat → Int32 :=
  if G 4 m = 0 then upd (um_be2 G v m) 2 (G 5 m) else if G 4 m = 1 then upd (um_be2 G v m) 3 (G 5 m)
  else if G 4 m = 3 then upd (upd (um_be2 G v m) 11 (nI m)) 10 (-1) else um_be2 G v m
def um_tst (G : Nat → Nat → Int32) (j m : Nat) (v : Nat → Int32) : Nat → Int32 :=
  if G 4 m = 0 then (if G 5 m = G 0 j then upd (um_become G v m) 12 0 else upd (um_become G v m) 12 3) else upd (um_become G v m) 12 0
def um_take (G : Nat → Nat → Int32) (j m : Nat) (v : Nat → Int32) : Nat → Int32 :=
  if 11 ≤ G 4 m then
    (if G 4 m = 11 then (if v 6 = 0 then upd (upd v 12 0) 12 4 else upd (upd (upd v 12 0) 8 (G 5 m)) 9 (G 3 m))
     else if G 4 m = 12 then upd (upd v 12 0) 4 (G 5 m) else if G 4 m = 13 then upd (upd v 12 0) 5 (G 5 m) else if G 4 m = 14 then upd (upd v 12 0) 6 (G 5 m)
     else upd (upd v 12 0) 10 (G 3 m + G 5 m))
  else if um_fls (v 0) (G 4 m) = 0 then upd (upd v 12 0) 12 1
  else if um_in (G 4 m) 2 4 = 0 then um_tst G j m (upd v 12 0)
  else if G 1 j ≤ v 4 then um_tst G j m (upd v 12 0) else upd (upd v 12 0) 12 2
def um_later (G : Nat → Nat → Int32) (b : Int32) (m : Nat) : Int32 :=
  if b < 0 then 1 else if G 3 b.toNatClampNeg < G 3 m then 1 else if G 3 m = G 3 b.toNatClampNeg then (if nI m ≤ b then 0 else 1) else 0
def um_may (G : Nat → Nat → Int32) (u b t : Int32) (m : Nat) : Int32 :=
  if G 2 m = u then (if t < G 3 m then 0 else um_later G b m) else 0
def um_nx (G : Nat → Nat → Int32) (u b t : Int32) : Nat → Int32
  | 0 => -1
  | m + 1 => if um_may G u b t m = 0 then um_nx G u b t m else if um_nx G u b t m < 0 then nI m else if G 3 (um_nx G u b t m).toNatClampNeg ≤ G 3 m then um_nx G u b t m else nI m
def um_init (G : Nat → Nat → Int32) (j : Nat) (v : Nat → Int32) : Nat → Int32 :=
  upd (upd (upd (upd (upd (upd (upd (upd (upd (upd (upd (upd v 0 0) 1 0) 2 (G 0 j)) 3 (-1)) 4 (G 1 j)) 5 0) 6 1) 7 0) 8 (-1)) 9 (-1)) 10 (-1)) 11 (-1)
/-- the state of a unit behind the messages of a list -/
def um_run (G : Nat → Nat → Int32) (j : Nat) : List Nat → (Nat → Int32) → Nat → Int32
  | [], v => v
  | m :: L, v => um_run G j L (um_take G j m v)
/-- the messages of a unit up to a minute, out of the list of all, in order -/
def um_ls (G : Nat → Nat → Int32) (L : List Nat) (j : Nat) (t : Int32) : List Nat := L.filter (fun m => decide (G 2 m = nI j ∧ G 3 m ≤ t))
def um_fol (G : Nat → Nat → Int32) (L : List Nat) (j : Nat) (t : Int32) (v : Nat → Int32) : Nat → Int32 := um_spend (um_run G j (um_ls G L j t) (um_init G j v)) t
/-- that list is right: all messages, once, by minutes, then by numbers -/
def um_lt (G : Nat → Nat → Int32) (a b : Nat) : Prop := G 3 a < G 3 b ∨ (G 3 a = G 3 b ∧ a < b)
def um_ok (G : Nat → Nat → Int32) (nm : Nat) (L : List Nat) : Prop := (∀ m, m ∈ L ↔ m < nm) ∧ L.Pairwise (um_lt G)
def um_inc (v : Nat → Int32) : Int32 := if um_in (v 0) 1 5 = 0 then -1 else v 3
/-- a unit at a minute -/
def um_st (G : Nat → Nat → Int32) (L : List Nat) (t : Int32) (j : Nat) : Nat → Int32 := um_fol G L j t (fun _ => 0)
def um_there (w : Nat → Int32) (i : Int32) : Int32 := if um_in (w 0) 3 5 = 0 then 0 else if w 3 = i then 1 else 0
def um_early (G : Nat → Nat → Int32) (w : Nat → Int32) (i msg : Int32) : Int32 :=
  if um_there w i = 0 then 0 else if G 3 (w 11).toNatClampNeg < G 3 msg.toNatClampNeg then 1
  else if G 3 (w 11).toNatClampNeg = G 3 msg.toNatClampNeg then (if msg ≤ w 11 then 0 else 1) else 0
def um_ahd (G : Nat → Nat → Int32) (L : List Nat) (t i msg : Int32) : Nat → Int32
  | 0 => 0
  | j + 1 => um_ahd G L t i msg j + um_early G (um_st G L t j) i msg
def um_rank (G : Nat → Nat → Int32) (L : List Nat) (nu : Nat) (t : Int32) (j : Nat) : Int32 :=
  if um_in (um_st G L t j 0) 3 5 = 0 then 0 else 1 + um_ahd G L t (um_st G L t j 3) (um_st G L t j 11) nu
def um_send2 (w : Nat → Int32) (k : Int32) : Int32 := if w 4 < k then 0 else if w 6 = 1 then (if 240 ≤ w 7 then 0 else 1) else 0
def um_send (w : Nat → Int32) (k : Int32) : Int32 := if w 0 = 0 then um_send2 w k else if w 0 = 5 then um_send2 w k else if w 0 = 6 then um_send2 w k else 0
def um_atR (G : Nat → Nat → Int32) (L : List Nat) (nu j : Nat) (t w : Int32) : Int32 :=
  if w = 9 then um_rank G L nu t j else if w = 0 then um_st G L t j 0 else if w = 1 then um_st G L t j 1 else if w = 2 then (if um_st G L t j 0 = 0 then um_st G L t j 2 else -1)
  else if w = 3 then um_inc (um_st G L t j) else if w = 4 then um_st G L t j 4 else if w = 5 then um_st G L t j 5 else if w = 6 then um_st G L t j 6 else if w = 7 then um_st G L t j 7
  else um_send (um_st G L t j) (G 1 j)
def um_age (w : Nat → Int32) (t : Int32) : Int32 := if 0 ≤ w 8 then t - w 9 else -1
/-- what is said of message m: the list of its unit's messages up to it -/
def um_upto (m : Nat) : List Nat → List Nat
  | [] => []
  | a :: L => if a = m then [a] else a :: um_upto m L
def um_said (G : Nat → Nat → Int32) (L : List Nat) (m : Nat) : Int32 := um_run G (G 2 m).toNatClampNeg (um_upto m (um_ls G L (G 2 m).toNatClampNeg 99999)) (um_init G (G 2 m).toNatClampNeg (fun _ => 0)) 12
def um_cnt (G : Nat → Nat → Int32) (L : List Nat) (x : Int32) : Nat → Int32
  | 0 => 0
  | m + 1 => um_cnt G L x m + (if um_said G L m = x then 1 else 0)
def um_many (G : Nat → Nat → Int32) (L : List Nat) (t s : Int32) : Nat → Int32
  | 0 => 0
  | j + 1 => um_many G L t s j + (if um_st G L t j 0 = s then 1 else 0)
def um_arr (G : Nat → Nat → Int32) (L : List Nat) (nu : Nat) (t i rk : Int32) : Nat → Nat → Int32
  | 0, _ => -1
  | f + 1, j => if um_there (um_st G L t j) i = 0 then um_arr G L nu t i rk f (j + 1) else if um_ahd G L t i (um_st G L t j 11) nu = rk - 1 then nI j else um_arr G L nu t i rk f (j + 1)
def um_unitK (a b : Int32) (nu : Nat) : Int32 := if um_in a 0 9 = 0 then 1 else if um_in b 0 9 = 0 then 1 else if nI nu = 30 then 2 else 0
def um_msgK (u t k v : Int32) (nu nm : Nat) : Int32 :=
  if um_isU u nu = 0 then 1 else if um_in k 0 15 = 0 then 1 else if um_in t 0 99999 = 0 then 2 else if um_val k v = 0 then 2 else if nI nm = 200 then 3 else 0
def um_atK (u t w : Int32) (nu : Nat) : Int32 := if um_isU u nu = 0 then 1 else if um_in w 0 9 = 0 then 1 else if um_in t 0 99999 = 0 then 2 else 0
def um_plK (u t : Int32) (nu : Nat) : Int32 := if um_isU u nu = 0 then 1 else if um_in t 0 99999 = 0 then 2 else 0
def um_wrK (m : Int32) (nm : Nat) : Int32 := if um_in m 0 (nI nm - 1) = 0 then 1 else 0
def um_toK (w : Int32) : Int32 := if um_in w 0 6 = 0 then 1 else 0
def um_maK (s t : Int32) : Int32 := if um_in s 0 10 = 0 then 1 else if um_in t 0 99999 = 0 then 2 else 0
def um_arK (i rk t : Int32) : Int32 := if um_in i 0 19 = 0 then 1 else if rk < 1 then 2 else if um_in t 0 99999 = 0 then 2 else 0
def um_toR (G : Nat → Nat → Int32) (L : List Nat) (w : Int32) (nu nm : Nat) (sk : Int32) : Int32 :=
  if w = 0 then sk else if w ≤ 4 then um_cnt G L w nm else if w = 5 then nI nm else nI nu
def um_unitG (nu : Nat) (G : Nat → Nat → Int32) (a b : Int32) : Nat → Nat → Int32 := va_up (va_up G 0 (upd (G 0) nu a)) 1 (upd (G 1) nu b)
def um_msgG (nm : Nat) (G : Nat → Nat → Int32) (u t k v : Int32) : Nat → Nat → Int32 := va_up (va_up (va_up (va_up G 2 (upd (G 2) nm u)) 3 (upd (G 3) nm t)) 4 (upd (G 4) nm k)) 5 (upd (G 5) nm v)
def um_hd : List Nat → Int32
  | [] => -1
  | m :: _ => nI m
/-! the reference's object and its rows -/
def um_o (md : Nat → Nat) (th : Int32) (nu nm : Nat) (sk : Int32) (v : Nat → Int32) : List Value :=
  [.int th, .int (nI nu), .ref (md 1), .ref (md 2), .int (nI nm), .ref (md 3), .ref (md 4), .ref (md 5), .ref (md 6), .int sk, .int (v 0), .int (v 1), .int (v 2), .int (v 3), .int (v 4), .int (v 5), .int (v 6), .int (v 7), .int (v 8), .int (v 9), .int (v 10), .int (v 11), .int (v 12)]
def um_W (md : Nat → Nat) (cI : ClassId) (th : Int32) (nu nm : Nat) (sk : Int32) (G : Nat → Nat → Int32) (v : Nat → Int32) : va_W :=
  [(md 0, .inr (2, um_o md th nu nm sk v)), (md 1, .inl (cI, 30, .inl (G 0))), (md 2, .inl (cI, 30, .inl (G 1))), (md 3, .inl (cI, 200, .inl (G 2))), (md 4, .inl (cI, 200, .inl (G 3))), (md 5, .inl (cI, 200, .inl (G 4))), (md 6, .inl (cI, 200, .inl (G 5)))]
def um_ads (md : Nat → Nat) : List Nat := [md 0, md 1, md 2, md 3, md 4, md 5, md 6]
theorem um_W_adr {md : Nat → Nat} {cI : ClassId} {th : Int32} {nu nm : Nat} {sk : Int32} {G : Nat → Nat → Int32} {v : Nat → Int32} : us_adr (um_W md cI th nu nm sk G v) = um_ads md := rfl
def um_P (dC : Nat → ClassId) (dI : Nat → Nat → Nat) (md : Nat → Nat) (cI : ClassId) (th : Int32) (nu nm : Nat) (sk : Int32) (G : Nat → Nat → Int32) (v : Nat → Int32) (sz : Nat) (S : State) : Prop :=
  S.heap.size = sz ∧ va_P (dC, dI) vwCl (um_W md cI th nu nm sk G v) S.heap ∧ va_K (dC, dI) vwCl [(cI, .int)] S ∧ va_D (us_In (um_ads md)) (um_W md cI th nu nm sk G v)
def um_B (dC : Nat → ClassId) (dI : Nat → Nat → Nat) (md : Nat → Nat) (cI : ClassId) (th : Int32) (nu nm : Nat) (sk : Int32) (G : Nat → Nat → Int32) (v : Nat → Int32) (t : State) : Prop := va_P (dC, dI) vwCl (um_W md cI th nu nm sk G v) t.heap
theorem um_P_blind {av : List Value} {dC : Nat → ClassId} {dI : Nat → Nat → Nat} {md : Nat → Nat} {cI : ClassId} {th : Int32} {nu nm : Nat} {sk : Int32} {G : Nat → Nat → Int32} {v : Nat → Int32} {sz : Nat} : FrameBlind (va_Pc av (um_P dC dI md cI th nu nm sk G v sz)) :=
  fun a S g mk q => ⟨q.1, q.2.1, q.2.2.1, va_K.moved (u := S) (U := S.calling g mk a) (Vm.Alike.refl S.vm) q.2.2.2.1, q.2.2.2.2⟩
theorem um_P_at {s : State} {dC : Nat → ClassId} {dI : Nat → Nat → Nat} {md : Nat → Nat} {cI : ClassId} {th : Int32} {nu nm : Nat} {sk : Int32} {G : Nat → Nat → Int32} {v : Nat → Int32} {H : Heap} {A0 : Nat → Prop} (hP : va_P (dC, dI) vwCl (um_W md cI th nu nm sk G v) H) (hK : va_K (dC, dI) vwCl [(cI, .int)] s) (hD : va_D A0 (um_W md cI th nu nm sk G v)) {S : State} (hU : S.heap = H) (hW : s.WarmedH S.vm) : um_P dC dI md cI th nu nm sk G v H.size S :=
  ⟨by rw [hU], by rw [hU]; exact hP, va_K.moved hW.alike hK, us_D_in um_W_adr hD⟩
theorem um_B_use {dC : Nat → ClassId} {dI : Nat → Nat → Nat} {md : Nat → Nat} {cI : ClassId} {th : Int32} {nu nm : Nat} {sk : Int32} {G : Nat → Nat → Int32} {v : Nat → Int32} {t : State} {H : Heap} (ht : t.heap = H) (h : um_B dC dI md cI th nu nm sk G v t) : va_P (dC, dI) vwCl (um_W md cI th nu nm sk G v) H := by
  subst ht; exact h
theorem um_B_of {dC : Nat → ClassId} {dI : Nat → Nat → Nat} {md : Nat → Nat} {cI : ClassId} {th th' : Int32} {nu nm nu' nm' : Nat} {sk sk' : Int32} {G G' : Nat → Nat → Int32} {v v' : Nat → Int32} {t : State} {H : Heap} (ht : t.heap = H) (h : va_P (dC, dI) vwCl (um_W md cI th nu nm sk G v) H) (e1 : th = th') (e2 : nu = nu') (e3 : nm = nm') (e4 : sk = sk') (e5 : G = G') (e6 : v = v') : um_B dC dI md cI th' nu' nm' sk' G' v' t := by
  subst e1; subst e2; subst e3; subst e4; subst e5; subst e6; subst ht; exact h
theorem um_k13 {P : Nat → Prop} {k : Nat} (hk : k < 13) (h0 : P 0) (h1 : P 1) (h2 : P 2) (h3 : P 3) (h4 : P 4) (h5 : P 5) (h6 : P 6) (h7 : P 7) (h8 : P 8) (h9 : P 9) (h10 : P 10) (h11 : P 11) (h12 : P 12) : P k := by
  have : k = 0 ∨ k = 1 ∨ k = 2 ∨ k = 3 ∨ k = 4 ∨ k = 5 ∨ k = 6 ∨ k = 7 ∨ k = 8 ∨ k = 9 ∨ k = 10 ∨ k = 11 ∨ k = 12 := by omega
  rcases this with rfl | rfl | rfl | rfl | rfl | rfl | rfl | rfl | rfl | rfl | rfl | rfl | rfl <;> assumption
theorem um_o_get {md : Nat → Nat} {th : Int32} {nu nm : Nat} {sk : Int32} {v : Nat → Int32} {k : Nat} (hk : k < 13) : (um_o md th nu nm sk v)[10 + k]? = some (.int (v k)) :=
  um_k13 (P := fun k => (um_o md th nu nm sk v)[10 + k]? = some (.int (v k))) hk rfl rfl rfl rfl rfl rfl rfl rfl rfl rfl rfl rfl rfl
theorem um_o_set {md : Nat → Nat} {th : Int32} {nu nm : Nat} {sk : Int32} {v : Nat → Int32} {k : Nat} {x : Int32} (hk : k < 13) : (um_o md th nu nm sk v).set (10 + k) (.int x) = um_o md th nu nm sk (upd v k x) :=
  um_k13 (P := fun k => (um_o md th nu nm sk v).set (10 + k) (.int x) = um_o md th nu nm sk (upd v k x)) hk rfl rfl rfl rfl rfl rfl rfl rfl rfl rfl rfl rfl rfl
theorem um_T_own {k : Nat} (hk : k < 13) : (TX2 (10 + k)).1 = RX2 := um_k13 (P := fun k => (TX2 (10 + k)).1 = RX2) hk rfl rfl rfl rfl rfl rfl rfl rfl rfl rfl rfl rfl rfl
theorem um_T_fin {k : Nat} (hk : k < 13) : (TX2 (10 + k)).2.2.2 = false := um_k13 (P := fun k => (TX2 (10 + k)).2.2.2 = false) hk rfl rfl rfl rfl rfl rfl rfl rfl rfl rfl rfl rfl rfl
theorem um_T_int {k : Nat} (hk : k < 13) : parseFieldDescriptor (TX2 (10 + k)).2.2.1 = some .int := by
  rw [tyX2_ok (10 + k) (by omega)]
  exact um_k13 (P := fun k => some (tyX2 (10 + k)) = some .int) hk rfl rfl rfl rfl rfl rfl rfl rfl rfl rfl rfl rfl rfl
theorem um_nz (x a b : Int32) : um_in x a b = 0 ∨ um_in x a b = 1 := by
  unfold um_in
  split
  · exact Or.inl rfl
  · split
    · exact Or.inl rfl
    · exact Or.inr rfl
section UMR
variable {p : Program} {l : Launch} {e : Env} {R : Room} {s : State} {m : MethodId} {args : Array Value} {below : List Frame} {meth : Method} {c : Code} {H : Heap} {locs : List Loc} {cells slots : Nat} {Q : State → Prop}
variable {cc : ByteArray} {pc : Nat} {ls : Array Slot} {rest : List Value} {D : va_G} {A : Nat → Prop} {tys : List (ClassId × FieldType)} {H0 : Heap}
variable {md : Nat → Nat} {cI : ClassId} {th : Int32} {nu nm : Nat} {sk : Int32} {G : Nat → Nat → Int32} {v : Nat → Int32}
theorem um_get (hexec : p.tables.exec = Jvm.exec) (hb : c.code = cc) {index : Nat} {Ts : List Cond} (hts : ∀ w ∈ Ts, w.before args s = true) (hin : ∀ w ∈ u_ws RX2 TX2 23, w ∈ Ts) (hown : s.vm.findClass RX2 = some m.cls) (hK : va_K D vwCl tys s) (hP : va_P D vwCl (um_W md cI th nu nm sk G v) H) (k : Nat) (hk : k < 13) (hlink : (Cond.fieldLink RX2 index RX2 (TX2 (10 + k)).2.1 (TX2 (10 + k)).2.2.1).before args s = true) {x : Int32} (hv : v k = x) (hdg : decode cc pc = .ok (.getfield index, 3))
    (kk : W p l e R s m args below meth c H locs cells slots Q (F0 m (pc + 3) ls (.int x :: rest))) : W p l e R s m args below meth c H locs cells slots Q (F0 m pc ls (.ref (md 0) :: rest)) := by
  subst hv
  exact va_get (ci := 2) (C := RX2) (T := TX2) (N := 23) hexec hb hts hin hown hK hP 0 rfl rfl (10 + k) (by omega) hlink (fun x h => by rw [um_T_own hk] at h; exact h) (um_o_get hk) hdg kk
theorem um_put (hexec : p.tables.exec = Jvm.exec) (hb : c.code = cc) {index : Nat} {Ts : List Cond} (hts : ∀ w ∈ Ts, w.before args s = true) (hin : ∀ w ∈ u_ws RX2 TX2 23, w ∈ Ts) (hown : s.vm.findClass RX2 = some m.cls) (hK : va_K D vwCl tys s) (hP : va_P D vwCl (um_W md cI th nu nm sk G v) H) (hD : va_D A (um_W md cI th nu nm sk G v)) (hS : va_S A H0 H locs) (k : Nat) (hk : k < 13) (hlink : (Cond.fieldLink RX2 index RX2 (TX2 (10 + k)).2.1 (TX2 (10 + k)).2.2.1).before args s = true) {x : Int32} (hdg : decode cc pc = .ok (.putfield index, 3))
    (kk : ∀ (H1 : Heap) (locs1 : List Loc), va_P D vwCl (um_W md cI th nu nm sk G (upd v k x)) H1 → va_D A (um_W md cI th nu nm sk G (upd v k x)) → va_S A H0 H1 locs1 → W p l e R s m args below meth c H1 locs1 cells slots Q (F0 m (pc + 3) ls rest)) : W p l e R s m args below meth c H locs cells slots Q (F0 m pc ls (.int x :: .ref (md 0) :: rest)) := by
  refine va_put (ci := 2) (C := RX2) (T := TX2) (N := 23) (ty := .int) hexec hb hts hin tyX2 tyX2_ok nmX2 hown hK hP hD hS 0 rfl rfl (10 + k) (by omega) hlink (fun x h => by rw [um_T_own hk] at h; exact h) (um_T_fin hk) (um_T_int hk) rfl rfl (by show 10 + k < 23; omega) hdg ?_
  rw [um_o_set hk]
  exact kk
end UMR
