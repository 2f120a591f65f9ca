/-! GROWTH. Cells are made in a fixed order; zs: their sizes. 'DG': as Den, for every layout of addresses that goes on from the first one. -/
def zs : List Nat := [17, 4, 200, 2, 4, 9, 42, 5, 36, 216, 12, 9, 42, 5, 36, 216, 12, 2, 2, 2, 8, 8, 8, 12, 25, 9, 2, 200, 60, 42, 6, 24]
def sl (n : Nat) : Nat := (zs.take n).sum
theorem sl_succ {n N : Nat} (h : zs[n]? = some N) : sl (n + 1) = sl n + N := by
  unfold sl
  rw [List.take_add_one, h]
  simp
theorem sl_mono {a b : Nat} (h : a ≤ b) : sl a ≤ sl b := by
  have e := List.take_append_drop a (zs.take b)
  rw [List.take_take, Nat.min_eq_left h] at e
  have e2 : (zs.take b).sum = (zs.take a).sum + ((zs.take b).drop a).sum := by rw [← List.sum_append, e]
  unfold sl
  omega
theorem zs_le : ∀ x ∈ zs, x ≤ 216 := by decide +kernel
def okv (n : Nat) : Value → Bool
  | .ref k => decide (k < n ∨ 1000 ≤ k)
  | _ => true
def oke (n : Nat) : va_E → Bool
  | .inl _ => true
  | .inr o => o.2.all (okv n)
def Agr (ad ad' : Nat → Nat) (n : Nat) : Prop := ∀ k : Nat, (k < n ∨ 1000 ≤ k) → ad' k = ad k
theorem mv_agr {ad ad' : Nat → Nat} {n : Nat} {v : Value} (h : Agr ad ad' n) (hv : okv n v = true) : mv ad' v = mv ad v := by
  cases v with
  | ref k =>
    have hk : k < n ∨ 1000 ≤ k := of_decide_eq_true hv
    show Value.ref (ad' k) = Value.ref (ad k)
    rw [h k hk]
  | _ => rfl
theorem mvs_agr {ad ad' : Nat → Nat} {n : Nat} {vs : List Value} (h : Agr ad ad' n) (hv : vs.all (okv n) = true) : vs.map (mv ad') = vs.map (mv ad) :=
  List.map_congr_left (fun v hm => mv_agr h (List.all_eq_true.mp hv v hm))
theorem me_agr {ad ad' : Nat → Nat} {tg : Nat → ClassId} {n : Nat} {e : va_E} (h : Agr ad ad' n) (he : oke n e = true) : me ad' tg e = me ad tg e := by
  cases e with
  | inl a => rfl
  | inr o =>
    show (Sum.inr (o.1, o.2.map (mv ad')) : va_E) = .inr (o.1, o.2.map (mv ad))
    rw [mvs_agr h he]
theorem mw_agr {ad ad' : Nat → Nat} {tg : Nat → ClassId} {n : Nat} (h : Agr ad ad' n) : ∀ (w : List va_E) (i : Nat), i + w.length ≤ n → w.all (oke n) = true → mw ad' tg i w = mw ad tg i w
  | [], _, _, _ => rfl
  | e :: t, i, hi, hw => by
    rw [List.length_cons] at hi
    rw [List.all_cons, Bool.and_eq_true] at hw
    show (ad' i, me ad' tg e) :: mw ad' tg (i + 1) t = (ad i, me ad tg e) :: mw ad tg (i + 1) t
    rw [mw_agr h t (i + 1) (by omega) hw.2, me_agr h hw.1, h i (Or.inl (by omega))]
theorem mw_app {ad : Nat → Nat} {tg : Nat → ClassId} {e : va_E} : ∀ (w : List va_E) (i : Nat), mw ad tg i (w ++ [e]) = mw ad tg i w ++ [(ad (i + w.length), me ad tg e)]
  | [], i => rfl
  | x :: t, i => by
    show (ad i, me ad tg x) :: mw ad tg (i + 1) (t ++ [e]) = (ad i, me ad tg x) :: (mw ad tg (i + 1) t ++ [(ad (i + (t.length + 1)), me ad tg e)])
    rw [mw_app t (i + 1), show i + 1 + t.length = i + (t.length + 1) by omega]
theorem mw_len {ad : Nat → Nat} {tg : Nat → ClassId} : ∀ (w : List va_E) (i : Nat), (mw ad tg i w).length = w.length
  | [], _ => rfl
  | x :: t, i => by
    show (mw ad tg (i + 1) t).length + 1 = t.length + 1
    rw [mw_len t (i + 1)]
theorem lpr_agr {ad ad' : Nat → Nat} {n : Nat} (h : Agr ad ad' n) : ∀ (L : List Value) (i : Nat), L.all (okv n) = true → lpr ad' i L = lpr ad i L
  | [], _, _ => rfl
  | v :: t, i, hL => by
    rw [List.all_cons, Bool.and_eq_true] at hL
    unfold lpr
    rw [lpr_agr h t (i + 1) hL.2, mv_agr h hL.1]
theorem lp_agr {ad ad' : Nat → Nat} {n nL : Nat} {ls : Array Slot} {L : List Value} (h : Agr ad ad' n) (hL : L.all (okv n) = true) (hl : lp ad nL ls L) : lp ad' nL ls L := by
  unfold lp
  rw [lpr_agr h L 0 hL]
  exact hl
theorem mX.agr {ad ad' : Nat → Nat} {A : Nat → Prop} {U : State} (h : ∀ k : Nat, 1000 ≤ k → ad' k = ad k) (hX : mX ad A U) : mX ad' A U := by
  obtain ⟨h1, h2, h3, h4, h5, h6⟩ := hX
  have e1 : ad' 2000 = ad 2000 := h _ (by omega)
  have e2 : (fun i => ad' (1000 + i)) = fun i => ad (1000 + i) := funext fun i => h _ (by omega)
  have e3 : (fun i => ad' (1100 + i)) = fun i => ad (1100 + i) := funext fun i => h _ (by omega)
  have e4 : ad' 3001 = ad 3001 := h _ (by omega)
  refine ⟨by rw [e1]; exact h1, by rw [e1]; exact h2, h3, by rw [e2, e3]; exact h4, fun i hi => ?_, by rw [e4]; exact h6⟩
  rw [h (1000 + i) (by omega)]
  exact h5 i hi
theorem mKn.agr {G : va_G} {tg : Nat → ClassId} {ad ad' : Nat → Nat} {A : Nat → Prop} {U : State} (h : ∀ k : Nat, 1000 ≤ k → ad' k = ad k) (hK : mKn G tg ad A U) : mKn G tg ad' A U := ⟨hK.1, hK.2.1, hK.2.2.agr h⟩
def adn (ad : Nat → Nat) (n q : Nat) : Nat → Nat := fun k => if k = n then q else ad k
theorem adn_agr {ad : Nat → Nat} {n q : Nat} (hn : n < 1000) : Agr ad (adn ad n q) n := fun k hk => by
  unfold adn
  rw [if_neg (by omega)]
theorem adn_self {ad : Nat → Nat} {n q : Nat} : adn ad n q n = q := by
  unfold adn
  rw [if_pos rfl]
theorem g_mA {ad : Nat → Nat} {tg : Nat → ClassId} {A : Nat → Prop} {n q : Nat} {w : List va_E} {e : va_E} (hA : mA A ad n) (hn : w.length = n) (hlt : n < 1000) (hD : va_D A (mw ad tg 0 w ++ [(q, e)])) : mA A (adn ad n q) (n + 1) := by
  have hag := adn_agr (ad := ad) (q := q) hlt
  have hl : (mw ad tg 0 w).length = n := by rw [mw_len, hn]
  have hlast : (mw ad tg 0 w ++ [(q, e)])[n]? = some (q, e) := by
    rw [List.getElem?_append_right (by omega), hl]
    simp
  have hold : ∀ k, k < n → ∃ x, (mw ad tg 0 w ++ [(q, e)])[k]? = some (ad k, x) := fun k hk => by
    rw [List.getElem?_append_left (by omega), mw_get, List.getElem?_eq_getElem (by omega)]
    exact ⟨_, by simp; rfl⟩
  have hne : ∀ k, k < n → ad k ≠ q := fun k hk hq => by
    obtain ⟨x, hx⟩ := hold k hk
    have := hD.1 k n _ _ hx hlast hq
    omega
  refine ⟨fun i j hi hj hij => ?_, fun k hk => ?_⟩
  · by_cases h1 : i = n
    · subst h1
      by_cases h2 : j = i
      · exact h2.symm
      · rw [adn_self, hag j (Or.inl (by omega))] at hij
        exact absurd hij.symm (hne j (by omega))
    · by_cases h2 : j = n
      · subst h2
        rw [adn_self, hag i (Or.inl (by omega))] at hij
        exact absurd hij (hne i (by omega))
      · rw [hag i (Or.inl (by omega)), hag j (Or.inl (by omega))] at hij
        exact hA.1 i j (by omega) (by omega) hij
  · by_cases h1 : k = n
    · subst h1
      rw [adn_self]
      exact hD.2 k _ hlast
    · rw [hag k (Or.inl (by omega))]
      exact hA.2 k (by omega)
theorem g_mw {ad : Nat → Nat} {tg : Nat → ClassId} {n q : Nat} {w : List va_E} {e : va_E} (hn : w.length = n) (hlt : n < 1000) (hw : w.all (oke n) = true) (he : oke n e = true) : mw (adn ad n q) tg 0 (w ++ [e]) = mw ad tg 0 w ++ [(q, me ad tg e)] := by
  have hag := adn_agr (ad := ad) (q := q) hlt
  rw [mw_app, mw_agr hag w 0 (by omega) hw, me_agr hag he, Nat.zero_add, hn, adn_self]
def mC.n (X : mC) : Nat := X.2.2.2.2.2.2.2.2.2.2.2.2.2.1
def gX (X : mC) (ad : Nat → Nat) (n : Nat) : mC := match X with
  | (p, l, e, s, m, args, below, meth, c, G, tg, _, A, n0, _, _, Qp) => (p, l, e, s, m, args, below, meth, c, G, tg, ad, A, n, n - n0, sl n - sl n0, Qp)
def gOK (X : mC) (R : Room) (ad : Nat → Nat) (n : Nat) : Prop := match X with
  | (_, _, _, s, _, _, _, _, _, G, tg, ad0, A, n0, _, _, _) => mKn G tg ad A s ∧ mA A ad n ∧ n0 ≤ n ∧ Agr ad0 ad n0 ∧ n - n0 ≤ R.cells ∧ sl n - sl n0 ≤ R.slots
def DG (X : mC) (R : Room) (nL pc : Nat) (f : mK) : Prop := ∀ (ad : Nat → Nat) (n : Nat), gOK X R ad n → Den (gX X ad n) R nL pc f
def Ax (X : mC) : Prop := match X with
  | (_, _, _, s, _, _, _, _, _, _, _, _, A, _, _, _, _) => ∀ q : Nat, s.heap.size ≤ q → A q
def Ix (X : mC) : Prop := match X with
  | (_, _, _, _, _, _, _, meth, _, _, _, _, _, _, _, _, _) => meth.name = "<init>"
def mQG (G : va_G) (tg : Nat → ClassId) (ad : Nat → Nat) (A : Nat → Prop) (n : Nat) (w : List va_E) : Array Value → State → Outcome → State → Prop := fun _ st oc t =>
  oc = .returned none ∧ (∃ ad' : Nat → Nat, Agr ad ad' n ∧ mA A ad' w.length ∧ va_P G vwCl (mw ad' tg 0 w) t.heap) ∧ va_F A st t
def mPcG (G : va_G) (tg : Nat → ClassId) (ad : Nat → Nat) (A : Nat → Prop) (sz : Nat) (av : List Value) (w : List va_E) : Array Value → State → Prop :=
  va_Pc (av.map (mv ad)) (fun U => va_P G vwCl (mw ad tg 0 w) U.heap ∧ mKn G tg ad A U ∧ sz ≤ U.heap.size)
def CG (l : Launch) (G : va_G) (tg : Nat → ClassId) (y : MethodName) (cc : ByteArray) (nL : Nat) (rm : Room) (F : mF) : Prop :=
  ∀ (ad : Nat → Nat) (A : Nat → Prop) (n sz : Nat), mA A ad n → (∀ q, sz ≤ q → A q) → ∀ (av : List Value) (w w' : List va_E), F av w = some (none, w') → w.length = n →
    Met l y (.code y cc nL none :: gW) rm (mPcG G tg ad A sz av w) (mQG G tg ad A n w') (w'.length - n) (sl w'.length - sl n) A
def RxG (X : mC) : Prop := match X with
  | (_, _, _, s, _, args, below, _, _, G, tg, ad, A, n, _, _, Qp) => Qp = fun _ w' => MQ below (mQG G tg ad A n w') args s (w'.length - n) (sl w'.length - sl n) A
theorem Cx.g {X : mC} {R : Room} {cc : ByteArray} {nL : Nat} {own : String} {ret : Option FieldType} {ad : Nat → Nat} {n : Nat} (C : Cx X R cc nL own ret) (g : gOK X R ad n) : Cx (gX X ad n) R cc nL own ret := by
  obtain ⟨p, l, e, s, m, args, below, meth, c, G, tg, ad0, A, n0, cells, slots, Qp⟩ := X
  obtain ⟨hx, hb, hml, hr, hlk, hown, hts, hK, hA, hcl, hsl⟩ := C
  exact ⟨hx, hb, hml, hr, hlk, hown, hts, g.1, g.2.1, g.2.2.2.2.1, g.2.2.2.2.2⟩
def mEntG (nL : Nat) (f : Nat → mK) : mF := fun av w => mEnt nL (f w.length) av w
theorem CG.of {l : Launch} {G : va_G} {tg : Nat → ClassId} {y : MethodName} {cc : ByteArray} {nL : Nat} {rm : Room} {f : Nat → mK} (own : String) (hy : plainName y.cls = true) (hyc : y.cls = own) (hyn : y.name = "<init>") (h : ∀ X : mC, Cx X rm cc nL own none → RxG X → Ax X → Ix X → DG X rm nL 0 (f X.n)) : CG l G tg y cc nL rm (mEntG nL f) := by
  intro ad A n sz hA hsA av w w' hF hn
  unfold mEntG mEnt at hF
  split at hF
  · rename_i hsz
    refine Met.ofW (cc := cc) (maxL := nL) (ret := none) hy rfl ?_
    intro p e s m args below meth c s₁ B hml hv
    obtain ⟨rfl, hP, hK, hse⟩ := hv
    have hts := atoms_spec (ws := .code y cc nL none :: gW) B.pre
    have hown : s.vm.findClass own = some m.cls := hyc ▸ findClass_of_methodNamed B.named
    have hin : meth.name = "<init>" := (name_of_methodNamed B.named B.method).1.trans hyn
    have hl := lv_entry (av.map (mv ad)) (n := nL) (by rw [lsz_eq]; exact hsz)
    rw [lg_entry_eq]
    have hD := h (p, l, e, s, m, (av.map (mv ad)).toArray, below, meth, c, G, tg, ad, A, n, 0, 0, fun _ w' => MQ below (mQG G tg ad A n w') (av.map (mv ad)).toArray s (w'.length - n) (sl w'.length - sl n) A) ⟨B.exec, B.bytes, hml, B.returns, B.notSynchronized, hown, fun w hw => hts w (List.mem_cons_of_mem _ hw), hK, hA, Nat.zero_le _, Nat.zero_le _⟩ rfl (fun q hq => hsA q (Nat.le_trans hse hq)) hin ad n ⟨hK, hA, Nat.le_refl _, fun _ _ => rfl, by omega, by omega⟩
    rw [hn] at hF
    have hW := hD [] (lin nL av) w none w' hF hn s.heap [] _ hP va_S.rf ⟨hl.1, hl.2.1, fun q hq => hl.2.2 q (lin_mem ad av nL 0 hq)⟩
    have e1 : n - n = 0 := by omega
    have e2 : sl n - sl n = 0 := by omega
    rw [e1, e2] at hW
    exact hW
  · cases hF
section GROW
variable {X : mC} {R : Room} {cc : ByteArray} {nL : Nat} {own : String} {ret : Option FieldType} {pc q n : Nat} {ad : Nat → Nat} {k : mK}
theorem Dn_vretG (C : Cx X R cc nL own none) (hX : RxG X) (g : gOK X R ad n) (hd : decode cc pc = .ok (.return_, 1)) : Den (gX X ad n) R nL pc i_vret := by
  obtain ⟨p, l, e, s, m, args, below, meth, c, G, tg, ad0, A, n0, cells, slots, Qp⟩ := X
  obtain ⟨hx, hb, hml, hr, hlk, hown, hts, hK0, hA0, hcl0, hsl0⟩ := C
  obtain ⟨hK, hA, hn0, hag, hgc, hgs⟩ := g
  intro st L w r w' hf hn H locs ls hP hS hl
  have hX : Qp = fun _ w' => MQ below (mQG G tg ad0 A n0 w') args s (w'.length - n0) (sl w'.length - sl n0) A := hX
  subst hX
  unfold i_vret at hf
  split at hf
  · cases hf
    subst hn
    exact W.vret hx hb hr (fun t ht hW => ⟨rfl, ⟨ad, hag, hA, by rw [ht]; exact hP⟩, hS.F ht⟩) hS.2.2 hd hlk
  · cases hf
def i_oi (k : mK) : mK := fun st L w => match st with
  | [.ref _] => k [] L w
  | _ => none
theorem Dn_oi {ix : Nat} (C : Cx X R cc nL own ret) (hlink : Cond.methodLink own ix objectInit ∈ gW) (hinst : Cond.instanceMethod objectInit ∈ gW) (hcode : Cond.code objectInit ⟨#[0xb1]⟩ 1 none ∈ gW) (hfr : 1 ≤ R.frames) (hlo : 12 ≤ R.locals) (hd : decode cc pc = .ok (.invokespecial ix, 3)) (hq : pc + 3 = q) (h : Den X R nL q k) : Den X R nL pc (i_oi k) := by
  obtain ⟨p, l, e, s, m, args, below, meth, c, G, tg, ad, A, n, cells, slots, Qp⟩ := X
  obtain ⟨hx, hb, hml, hr, hlk, hown, hts, hK, hA, hcl, hsl⟩ := C
  subst hq
  intro st L w r w' hf hn H locs ls hP hS hl
  unfold i_oi at hf
  split at hf
  · rename_i a
    exact W.objInit (a := ad a) (rest := []) hx hb hown (hts _ hlink) (hts _ hinst) (hts _ hcode) rfl (by rw [hml]; exact hl.1) rfl hd hfr hlo (h _ _ _ _ _ hf hn H locs ls hP hS hl)
  · cases hf
def i_puta (ci j : Nat) (k : mK) : mK := fun st L w => match st with
  | .ref x :: .ref a :: r => (match w[a]? with
    | some (.inr o) => if o.1 = ci ∧ j < o.2.length then k r L (w.set a (.inr (o.1, o.2.set j (.ref x)))) else none
    | _ => none)
  | _ => none
theorem Dn_puta {ci j ix N : Nat} {T : u_T} {Cn : String} {ty : FieldType} (C : Cx X R cc nL own ret) (hI : Ix X) (hc : vwCl[ci]? = some (Cn, T, N)) (hin : ∀ w ∈ u_ws Cn T N, w ∈ gW) (ty0 : Nat → FieldType) (hty : ∀ k, k < N → parseFieldDescriptor (T k).2.2.1 = some (ty0 k)) (hnm : ∀ a, a < N → ∀ b, b < N → a ≠ b → (T a).2.1 ≠ (T b).2.1) (hj : j < N) (hlink : Cond.fieldLink own ix (T j).1 (T j).2.1 (T j).2.2.1 ∈ gW) (hfin : (T j).2.2.2 = true) (hdecl : (T j).1 = own) (hft : parseFieldDescriptor (T j).2.2.1 = some ty) (hnr : ∀ z, narrow ty (.ref z) = .ref z) (hfi : ∀ z, fits ty (.ref z) = true) (hd : decode cc pc = .ok (.putfield ix, 3)) (hq : pc + 3 = q) (h : Den X R nL q k) : Den X R nL pc (i_puta ci j k) := by
  obtain ⟨p, l, e, s, m, args, below, meth, c, G, tg, ad, A, n, cells, slots, Qp⟩ := X
  obtain ⟨hx, hb, hml, hr, hlk, hown, hts, hK, hA, hcl, hsl⟩ := C
  subst hq
  intro st L w r w' hf hn H locs ls hP hS hl
  unfold i_puta at hf
  split at hf
  · rename_i x a rest
    split at hf
    · rename_i o hw
      split at hf
      · rename_i ho
        obtain ⟨ho, hlt⟩ := ho
        subst ho
        refine va_putF (D := G) (ci := o.1) (v := .ref (ad x)) (ty := ty) (fs := o.2.map (mv ad)) hx hb hts hin ty0 hty hnm hown hK.1 hP (hA.D hn) hS a (mw_at hw) hc j hj (hts _ hlink) (fun _ h9 => h9) hfin hI hdecl hft (hnr _) (hfi _) (by simpa using hlt) hd (fun H1 locs1 hP1 _ hS1 => h _ _ _ _ _ hf (by rw [List.length_set]; exact hn) H1 locs1 ls ?_ hS1 hl)
        rw [← mw_put]
        have e1 : me ad tg (.inr (o.1, o.2.set j (.ref x))) = .inr (o.1, (o.2.map (mv ad)).set j (.ref (ad x))) := by simp [me, List.map_set, mv]
        rw [e1]
        exact hP1
      · cases hf
    · cases hf
  · cases hf
def i_new (n0 : Nat) (R : Room) (ci N : Nat) (fs : List Value) (k : mK) : mK := fun st L w =>
  if zs[w.length]? = some N ∧ w.length + 1 - n0 ≤ R.cells ∧ sl (w.length + 1) - sl n0 ≤ R.slots ∧ st.all (okv w.length) = true ∧ L.all (okv w.length) = true ∧ w.all (oke w.length) = true then k (.ref w.length :: st) L (w ++ [.inr (ci, fs)]) else none
theorem DnG_new {ci N ix : Nat} {T : u_T} {Cn : String} {fs : List Value} (C : Cx X R cc nL own ret) (hAx : Ax X) (g : gOK X R ad n) (hc : vwCl[ci]? = some (Cn, T, N)) (hin : ∀ w ∈ u_ws Cn T N, w ∈ gW) (ty : Nat → FieldType) (hty : ∀ k, k < N → parseFieldDescriptor (T k).2.2.1 = some (ty k)) (hcl : Cond.classLink own ix Cn ∈ gW) (hinst : Cond.instantiable Cn N ∈ gW) (hini : Cond.initialized Cn ∈ gW) (hfs : ∀ j, j < N → defaultValue (ty j) = vp_V fs j) (hf0 : ∀ a : Nat → Nat, fs.map (mv a) = fs) (hfo : ∀ n : Nat, fs.all (okv n) = true) (hd : decode cc pc = .ok (.new ix, 3)) (hq : pc + 3 = q) (h : DG X R nL q k) : Den (gX X ad n) R nL pc (i_new X.n R ci N fs k) := by
  obtain ⟨p, l, e, s, m, args, below, meth, c, G, tg, ad0, A, n0, cells, slots, Qp⟩ := X
  obtain ⟨hx, hb, hml, hr, hlk, hown, hts, hK0, hA0, hcl0, hsl0⟩ := C
  obtain ⟨hK, hA, hn0, hag, hgc, hgs⟩ := g
  subst hq
  intro st L w r w' hf hn H locs ls hP hS hl
  unfold i_new at hf
  split at hf
  · rename_i hh
    rw [hn] at hh hf
    obtain ⟨z1, z2, z3, z4, z5, z6⟩ := hh
    have z2 : n + 1 - n0 ≤ R.cells := z2
    have z3 : sl (n + 1) - sl n0 ≤ R.slots := z3
    have hlt : n < 32 := (List.getElem?_eq_some_iff.mp z1).1
    have hsl := sl_succ z1
    have hmo := sl_mono hn0
    have hAx : ∀ q : Nat, s.heap.size ≤ q → A q := hAx
    refine va_new (ci := ci) (fs := fs) (C := Cn) (T := T) (N := N) hx hb hts hin ty hty hown (hts _ hcl) (hts _ hinst) (hts _ hini) hK.1 hP (hA.D hn) hS hAx hc hfs (show n - n0 + 1 ≤ R.cells by omega) (show sl n - sl n0 + N ≤ R.slots by omega) hd (fun a H1 hP1 hD1 hS1 => ?_)
    have ha := adn_agr (ad := ad) (q := a) (n := n) (by omega)
    have hd' := h (adn ad n a) (n + 1) ⟨hK.agr (fun k hk => ha k (Or.inr hk)), g_mA hA hn (by omega) hD1, by omega, fun k hk => (ha k (by omega)).trans (hag k hk), by omega, by omega⟩ (.ref n :: st) L (w ++ [.inr (ci, fs)]) r w' hf (by rw [List.length_append, hn]; rfl) H1 locs ls (by
      rw [g_mw (e := .inr (ci, fs)) hn (by omega) z6 (hfo n)]
      have e9 : me ad tg (.inr (ci, fs)) = .inr (ci, fs) := by
        show (Sum.inr (ci, fs.map (mv ad)) : va_E) = .inr (ci, fs)
        rw [hf0]
      rw [e9]
      exact hP1) hS1 (lp_agr ha z5 hl)
    have e1 : n + 1 - n0 = n - n0 + 1 := by omega
    have e2 : sl (n + 1) - sl n0 = sl n - sl n0 + N := by omega
    have e3 : (Value.ref n :: st).map (mv (adn ad n a)) = .ref a :: st.map (mv ad) := by
      rw [List.map_cons, mvs_agr ha z4]
      show Value.ref (adn ad n a n) :: _ = _
      rw [adn_self]
    rw [e1, e2, e3] at hd'
    exact hd'
  · cases hf
def i_newa (n0 : Nat) (R : Room) (t : Nat) (z : (Nat → Int32) ⊕ (Nat → Int64) ⊕ (Nat → UInt32) ⊕ (Nat → UInt64) ⊕ (Nat → Option Nat)) (k : mK) : mK := fun st L w => match st with
  | .int x :: r => if 0 ≤ x.toInt ∧ zs[w.length]? = some x.toNatClampNeg ∧ w.length + 1 - n0 ≤ R.cells ∧ sl (w.length + 1) - sl n0 ≤ R.slots ∧ r.all (okv w.length) = true ∧ L.all (okv w.length) = true ∧ w.all (oke w.length) = true then k (.ref w.length :: r) L (w ++ [.inl (t, x.toNatClampNeg, z)]) else none
  | _ => none
theorem DnG_newa {t : Nat} {z : (Nat → Int32) ⊕ (Nat → Int64) ⊕ (Nat → UInt32) ⊕ (Nat → UInt64) ⊕ (Nat → Option Nat)} {aty : ArrayType} {ty : FieldType} (C : Cx X R cc nL own ret) (hAx : Ax X) (g : gOK X R ad n) (harr : Cond.arrayClass (newarray.typeOf aty) ∈ gW) (hty : newarray.typeOf aty = ty) (hz : ∀ (N : Nat) (cA : ClassId), vp_cell cA (N, z) = arrV cA N (fun _ => defaultValue ty)) (ht : ∀ tg : Nat → ClassId, [(tg 0, FieldType.int), (tg 1, .long), (tg 2, .boolean)][t]? = some (tg t, ty)) (hra : ∀ (U : State) (c1 c2 : ClassId), va_RA U c1 ty → va_RA U c2 ty → c1 = c2) (hcb : componentBytes ty ≤ 8) (hd : decode cc pc = .ok (.newarray aty, 2)) (hq : pc + 2 = q) (h : DG X R nL q k) : Den (gX X ad n) R nL pc (i_newa X.n R t z k) := by
  obtain ⟨p, l, e, s, m, args, below, meth, c, G, tg, ad0, A, n0, cells, slots, Qp⟩ := X
  obtain ⟨hx, hb, hml, hr, hlk, hown, hts, hK0, hA0, hcl0, hsl0⟩ := C
  obtain ⟨hK, hA, hn0, hag, hgc, hgs⟩ := g
  subst hq
  intro st L w r w' hf hn H locs ls hP hS hl
  unfold i_newa at hf
  split at hf
  · rename_i x rest
    split at hf
    · rename_i hh
      rw [hn] at hh hf
      obtain ⟨z0, z1, z2, z3, z4, z5, z6⟩ := hh
      have z2 : n + 1 - n0 ≤ R.cells := z2
      have z3 : sl (n + 1) - sl n0 ≤ R.slots := z3
      have hlt : n < 32 := (List.getElem?_eq_some_iff.mp z1).1
      have hsl := sl_succ z1
      have hmo := sl_mono hn0
      have hAx : ∀ q : Nat, s.heap.size ≤ q → A q := hAx
      have h216 := zs_le _ (List.mem_of_getElem? z1)
      have hby : x.toNatClampNeg * componentBytes ty ≤ 536870912 := Nat.le_trans (Nat.mul_le_mul h216 hcb) (by decide)
      have hx0 : ¬ x < 0 := by
        intro hlt0
        have := Int32.lt_iff_toInt_lt.mp hlt0
        have e0 : (0 : Int32).toInt = 0 := rfl
        omega
      refine va_newa (a0 := (x.toNatClampNeg, z)) hx hb (hts _ harr) hty hK.1 hP (hA.D hn) hS hAx (hz _) hx0 rfl hby (show n - n0 + 1 ≤ R.cells by omega) (show sl n - sl n0 + x.toNatClampNeg ≤ R.slots by omega) hd (fun a cA H1 hK1 hP1 hD1 hS1 => ?_)
      have hcA : tg t = cA := hra s _ _ (hK.1.2 t _ (ht tg)).2 (hK1.2 3 (cA, ty) rfl).2
      subst hcA
      have ha := adn_agr (ad := ad) (q := a) (n := n) (by omega)
      have hd' := h (adn ad n a) (n + 1) ⟨hK.agr (fun k hk => ha k (Or.inr hk)), g_mA hA hn (by omega) hD1, by omega, fun k hk => (ha k (by omega)).trans (hag k hk), by omega, by omega⟩ (.ref n :: rest) L (w ++ [.inl (t, x.toNatClampNeg, z)]) r w' hf (by rw [List.length_append, hn]; rfl) H1 locs ls (by
        rw [g_mw hn (by omega) z6 rfl]
        exact hP1) hS1 (lp_agr ha z5 hl)
      have e1 : n + 1 - n0 = n - n0 + 1 := by omega
      have e2 : sl (n + 1) - sl n0 = sl n - sl n0 + x.toNatClampNeg := by omega
      have e3 : (Value.ref n :: rest).map (mv (adn ad n a)) = .ref a :: rest.map (mv ad) := by
        rw [List.map_cons, mvs_agr ha z4]
        show Value.ref (adn ad n a n) :: _ = _
        rw [adn_self]
      rw [e1, e2, e3] at hd'
      exact hd'
    · cases hf
  · cases hf
end GROW
section GCALL
variable {p : Program} {l : Launch} {e : Env} {R : Room} {s : State} {m : MethodId} {args : Array Value} {below : List Frame} {meth : Method} {c : Code} {H : Heap} {locs : List Loc} {cells slots mc ms : Nat} {Q : State → Prop} {G : va_G} {tg : Nat → ClassId} {ad : Nat → Nat} {A : Nat → Prop} {n : Nat}
theorem run_goG {pc : Nat} {ls : Array Slot} {st0 rest : List Value} {w' : List va_E} {a : Array Value} (hr : va_Run p l e R s m args below meth c H locs cells slots mc ms (F0 m pc ls st0) rest (mQG G tg ad A n w' a) A) (hS : va_S A s.heap H locs)
    (kk : ∀ (ad' : Nat → Nat) (H1 : Heap) (locs1 : List Loc), Agr ad ad' n → mA A ad' w'.length → va_P G vwCl (mw ad' tg 0 w') H1 → va_S A s.heap H1 locs1 → W p l e R s m args below meth c H1 locs1 (cells + mc) (slots + ms) Q (F0 m (pc + 3) ls rest)) : W p l e R s m args below meth c H locs cells slots Q (F0 m pc ls st0) := by
  intro T hT X
  obtain ⟨v, st₀, t, T', L, h0, X', hL, e1, e2, ⟨hv, ⟨ad', g1, g2, hp⟩, hz, hk⟩, st⟩ := hr T hT X
  cases hv
  rw [h0] at hz hk
  obtain ⟨t2, a1, b1⟩ := kk ad' T'.heap (locs ++ L) g1 g2 (by rw [e1]; exact hp)
    ⟨Nat.le_trans hS.1 (by rw [e1]; exact hz), fun q h1 h2 => by rw [e1, hk q (Nat.lt_of_lt_of_le h1 hS.1) h2]; exact hS.2.1 q h1 h2, fun q hq => by
      rcases List.mem_append.mp hq with h | h
      · exact hS.2.2 q h
      · exact hL q h⟩ T' rfl X'
  exact ⟨t2, st t2 a1, b1⟩
theorem pre_SG {w : List va_E} {av : List Value} (hK : mKn G tg ad A s) (hS : va_S A s.heap H locs) (hP : va_P G vwCl (mw ad tg 0 w) H) : PreS s H (mPcG G tg ad A s.heap.size av w) (av.map (mv ad)) :=
  ⟨fun _ _ _ _ h => ⟨h.1, h.2.1, h.2.2.1.calling, h.2.2.2⟩, fun U hU hW => ⟨rfl, by rw [hU]; exact hP, hK.to hW (fun a h1 h2 => by rw [hU]; exact hS.2.1 a h1 h2), by rw [hU]; exact hS.1⟩⟩
end GCALL
section GROW2
variable {X : mC} {R : Room} {cc : ByteArray} {nL : Nat} {own : String} {ret : Option FieldType} {pc q n : Nat} {ad : Nat → Nat} {k : mK}
/-- a call of a constructor without arguments -/
def i_callC (n0 : Nat) (R : Room) (F : mF) (dc ds : Nat) (k : mK) : mK := fun st L w => match st with
  | .ref b :: r => if r.length ≤ 4 ∧ r.all (okv w.length) = true ∧ L.all (okv w.length) = true then (match F [.ref b] w with
    | some (none, w') => if w'.length = w.length + dc ∧ sl w'.length = sl w.length + ds ∧ w'.length - n0 ≤ R.cells ∧ sl w'.length - sl n0 ≤ R.slots then k r L w' else none
    | _ => none) else none
  | _ => none
theorem DnG_callC {ix dc ds : Nat} {y : MethodName} {cy : ByteArray} {ny : Nat} {rm : Room} {F : mF} (C : Cx X R cc nL own ret) (hAx : Ax X) (g : gOK X R ad n) (hM : CG X.l X.G X.tg y cy ny rm F) (hcode : Cond.code y cy ny none ∈ gW) (hlink : Cond.methodLink own ix y ∈ gW ∨ ∃ host, (own, ix, y, host) ∈ nW) (hinst : Cond.instanceMethod y ∈ gW) (hini : Cond.initialized y.cls ∈ gW) (hyn : y.name = "<init>") (hrc : rm.cells = dc ∧ rm.slots = ds)
    (hd0 : y.cls ≠ "java/lang/invoke/MethodHandle" ∧ y.cls ≠ "java/lang/invoke/VarHandle" ∧ (parseMethodDescriptor y.desc).map (fun d => d.parameters.length) = some 0) (hR : rm.frames + 1 ≤ R.frames ∧ 8 + (ny + 11) + rm.locals ≤ R.locals) (hd : decode cc pc = .ok (.invokespecial ix, 3)) (hq : pc + 3 = q) (h : DG X R nL q k) : Den (gX X ad n) R nL pc (i_callC X.n R F dc ds k) := by
  obtain ⟨p, l, e, s, m, args, below, meth, c, G, tg, ad0, A, n0, cells, slots, Qp⟩ := X
  obtain ⟨hx, hb, hml, hr, hlk, hown, hts, hK0, hA0, hcl0, hsl0⟩ := C
  obtain ⟨hK, hA, hn0, hag, hgc, hgs⟩ := g
  subst hq
  intro st L w r w' hf hn H locs ls hP hS hl
  have hAx : ∀ q : Nat, s.heap.size ≤ q → A q := hAx
  unfold i_callC at hf
  split at hf
  · rename_i b rest
    split at hf
    · rename_i hh
      split at hf
      · rename_i w1 hF
        split at hf
        · rename_i hh2
          rw [hn] at hh hh2
          obtain ⟨y1, y2, y3⟩ := hh
          obtain ⟨z1, z2, z3, z4⟩ := hh2
          have z3 : w1.length - n0 ≤ R.cells := z3
          have z4 : sl w1.length - sl n0 ≤ R.slots := z4
          have hmo := sl_mono hn0
          have hmet := hM ad A n s.heap.size hA hAx [.ref b] w w1 hF hn
          have e1 : w1.length - n = dc := by omega
          have e2 : sl w1.length - sl n = ds := by omega
          rw [e1, e2] at hmet
          have hrm := mv_room ad (r := rest) (n := 4) y1
          have hpre := pre_SG (av := [.ref b]) hK hS hP
          have hcells : n - n0 + dc ≤ R.cells ∧ sl n - sl n0 + ds ≤ R.slots := ⟨by omega, by omega⟩
          have hgo : ∀ (ad' : Nat → Nat) (H1 : Heap) (locs1 : List Loc), Agr ad ad' n → mA A ad' w1.length → va_P G vwCl (mw ad' tg 0 w1) H1 → va_S A s.heap H1 locs1 → W p l e R s m args below meth c H1 locs1 (n - n0 + dc) (sl n - sl n0 + ds) (Qp r w') (F0 m (pc + 3) ls (rest.map (mv ad))) := by
            intro ad' H1 locs1 g1 g2 hP1 hS1
            have hd' := h ad' w1.length ⟨hK.agr (fun k hk => g1 k (Or.inr hk)), g2, by omega, fun k hk => (g1 k (by omega)).trans (hag k hk), z3, z4⟩ rest L w1 r w' hf rfl H1 locs1 ls hP1 hS1 (lp_agr g1 y3 hl)
            have e3 : w1.length - n0 = n - n0 + dc := by omega
            have e4 : sl w1.length - sl n0 = sl n - sl n0 + ds := by omega
            rw [e3, e4, mvs_agr g1 y2] at hd'
            exact hd'
          rcases hlink with hlink | ⟨host, hlink⟩
          · exact run_goG (va_runI (As := []) (b := ad b) (rest := rest.map (mv ad)) ⟨hx, hb, hml, hown, hts⟩ hmet (cwI 0 hts (gW_goodIn hcode) rfl hrc.1 hrc.2 (hts _ hini) (hts _ hlink) (hts _ hinst) hyn hd0 hR) hpre rfl rfl hl.1 rfl (lv_room (by omega)) hd hcells) hS hgo
          · exact run_goG (va_runIN (As := []) (b := ad b) (rest := rest.map (mv ad)) ⟨hx, hb, hml, hown, hts⟩ hmet ⟨va_cnB 0 hts (gW_goodIn hcode) rfl hrc.1 hrc.2 (hK.2.1 _ hlink) (hts _ hini) hd0 hR, hyn, hts _ hinst⟩ hpre rfl rfl hl.1 rfl (lv_room (by omega)) hd hcells) hS hgo
        · cases hf
      · cases hf
    · cases hf
  · cases hf
end GROW2
