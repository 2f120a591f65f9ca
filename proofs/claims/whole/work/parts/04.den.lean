
/-! A SMALL MACHINE. A state: operand stack, locals, cells; a reference k is the cell at the address ad k. A denotation is a function of these by continuation; 'Den X R nL pc f': from pc on the machine does what f says, where f says something. -/
abbrev mK : Type := List Value → List Value → List va_E → Option (Option Value × List va_E)
abbrev mF : Type := List Value → List va_E → Option (Option Value × List va_E)
def mv (ad : Nat → Nat) : Value → Value
  | .ref k => .ref (ad k)
  | v => v
theorem mv_cat (ad : Nat → Nat) (v : Value) : (mv ad v).category = v.category := by cases v <;> rfl
def me (ad : Nat → Nat) (tg : Nat → ClassId) : va_E → va_E
  | .inl a => .inl (tg a.1, a.2)
  | .inr o => .inr (o.1, o.2.map (mv ad))
def mw (ad : Nat → Nat) (tg : Nat → ClassId) : Nat → List va_E → va_W
  | _, [] => []
  | i, e :: t => (ad i, me ad tg e) :: mw ad tg (i + 1) t
theorem mw_get (ad : Nat → Nat) (tg : Nat → ClassId) : ∀ (w : List va_E) (i k : Nat), (mw ad tg i w)[k]? = (w[k]?).map (fun e => (ad (i + k), me ad tg e))
  | [], i, k => by simp [mw]
  | e :: t, i, 0 => by simp [mw]
  | e :: t, i, k + 1 => by
    have h := mw_get ad tg t (i + 1) k
    rw [show i + 1 + k = i + (k + 1) by omega] at h
    simpa [mw] using h
theorem mw_set (ad : Nat → Nat) (tg : Nat → ClassId) : ∀ (w : List va_E) (i k : Nat) (e : va_E), mw ad tg i (w.set k e) = (mw ad tg i w).set k (ad (i + k), me ad tg e)
  | [], i, k, e => by simp [mw]
  | e0 :: t, i, 0, e => by simp [mw]
  | e0 :: t, i, k + 1, e => by
    have h := mw_set ad tg t (i + 1) k e
    rw [show i + 1 + k = i + (k + 1) by omega] at h
    simpa [mw] using h
theorem mw_at {ad : Nat → Nat} {tg : Nat → ClassId} {w : List va_E} {k : Nat} {e : va_E} (h : w[k]? = some e) : (mw ad tg 0 w)[k]? = some (ad k, me ad tg e) := by
  rw [mw_get, h]; simp
theorem mw_put {ad : Nat → Nat} {tg : Nat → ClassId} {w : List va_E} {k : Nat} {e : va_E} : (mw ad tg 0 w).set k (ad k, me ad tg e) = mw ad tg 0 (w.set k e) := by
  rw [mw_set]; simp
def mA (A : Nat → Prop) (ad : Nat → Nat) (n : Nat) : Prop := (∀ i j, i < n → j < n → ad i = ad j → i = j) ∧ ∀ k, k < n → A (ad k)
theorem mA.D {A : Nat → Prop} {ad : Nat → Nat} {n : Nat} {tg : Nat → ClassId} {w : List va_E} (h : mA A ad n) (hw : w.length = n) : va_D A (mw ad tg 0 w) := by
  have key : ∀ (k : Nat) (q : Nat × va_E), (mw ad tg 0 w)[k]? = some q → k < n ∧ q.1 = ad k := by
    intro k q hq
    rw [mw_get] at hq
    cases hk : w[k]? with
    | none => rw [hk] at hq; cases hq
    | some e =>
      rw [hk] at hq
      have hl := (List.getElem?_eq_some_iff.mp hk).1
      cases hq
      exact ⟨by omega, by simp⟩
  refine ⟨fun i j x y hi hj hxy => ?_, fun k q hk => ?_⟩
  · obtain ⟨a1, a2⟩ := key i x hi
    obtain ⟨b1, b2⟩ := key j y hj
    exact h.1 i j a1 b1 (by rw [← a2, ← b2]; exact hxy)
  · obtain ⟨a1, a2⟩ := key k q hk
    rw [a2]
    exact h.2 k a1
/-! constants: the twelve words, the semicolon; the table of how many numbers a line has -/
def sK : List Nat := [80, 82, 84, 86, 88, 90, 92, 94, 96, 98, 100, 102, 45]
def sT : List String := ["park", "fall", "flute", "plain", "brass", "choir", "drum", "worth", "side", "hedge", "walk", "still", ";"]
def sN : List Nat := [4, 4, 5, 5, 5, 5, 4, 5, 4, 5, 4, 5, 1]
def sB : List (List Int32) := [[112, 97, 114, 107], [102, 97, 108, 108], [102, 108, 117, 116, 101], [112, 108, 97, 105, 110], [98, 114, 97, 115, 115], [99, 104, 111, 105, 114], [100, 114, 117, 109], [119, 111, 114, 116, 104], [115, 105, 100, 101], [104, 101, 100, 103, 101], [119, 97, 108, 107], [115, 116, 105, 108, 108], [59]]
def nT : List Int32 := [2, 1, 2, 4, 4, 4, 4, 2, 2, 1, 2, 0]
def mX (ad : Nat → Nat) (A : Nat → Prop) (U : State) : Prop :=
  va_Z "FlutePark$Reader" "NUMBERS" "[I" (.ref (ad 2000)) A U U.heap ∧ va_T .int (ad 2000) 12 (fun j => .int (nT.getD j 0)) A U U.heap ∧ va_Z "java/lang/String" "COMPACT_STRINGS" "Z" (.int 1) A U U.heap ∧ vk_S 13 sN sB (fun i => ad (1000 + i)) (fun i => ad (1100 + i)) A U U.heap ∧ (∀ i, i < 13 → vk_R RX2 (sK.getD i 0) (sT.getD i "") (ad (1000 + i)) U) ∧ (va_Z "jdk/internal/util/Preconditions" "SIOOBE_FORMATTER" "Ljava/util/function/BiFunction;" .null A U U.heap ∨ va_Z "jdk/internal/util/Preconditions" "SIOOBE_FORMATTER" "Ljava/util/function/BiFunction;" (.ref (ad 3001)) A U U.heap)
def nW : List (String × Nat × MethodName × String) := [(RX4, 9, yX3_init, "FlutePark"), (RX4, 18, yX2_init, "FlutePark"), (RX4, 32, yX0_init, "FlutePark"), (RX0, 59, yX4_isHour, "FlutePark"), (RX0, 66, yX4_isIn, "FlutePark"), (RX1, 85, yX4_isIn, "FlutePark")]
def mKn (G : va_G) (tg : Nat → ClassId) (ad : Nat → Nat) (A : Nat → Prop) (U : State) : Prop :=
  va_K G vwCl [(tg 0, .int), (tg 1, .long), (tg 2, .boolean)] U ∧ (∀ q ∈ nW, va_Nw (.methodLinkNest q.1 q.2.1 q.2.2.1 q.2.2.2) U) ∧ mX ad A U
theorem mX.to {ad : Nat → Nat} {A : Nat → Prop} {s U : State} (hW : s.WarmedH U.vm) (hq : ∀ a : Nat, a < s.heap.size → ¬ A a → U.heap[a]? = s.heap[a]?) (h : mX ad A s) : mX ad A U := by
  obtain ⟨h1, h2, h3, h4, h5, h6⟩ := h
  have ha := hW.alike
  exact ⟨(h1.moved ha).kept hq, (h2.moved ha).kept hq, (h3.moved ha).kept hq, (h4.moved ha).kept hq, fun i hi => (h5 i hi).warm hW, h6.elim (fun z => Or.inl ((z.moved ha).kept hq)) (fun z => Or.inr ((z.moved ha).kept hq))⟩
theorem mKn.to {G : va_G} {tg : Nat → ClassId} {ad : Nat → Nat} {A : Nat → Prop} {s U : State} (hW : s.WarmedH U.vm) (hq : ∀ a : Nat, a < s.heap.size → ¬ A a → U.heap[a]? = s.heap[a]?) (h : mKn G tg ad A s) : mKn G tg ad A U :=
  ⟨va_K.moved hW.alike h.1, fun q hq => va_Nw.warmM hW (h.2.1 q hq), h.2.2.to hW hq⟩
theorem mKn.calling {G : va_G} {tg : Nat → ClassId} {ad : Nat → Nat} {A : Nat → Prop} {U : State} {g : JFrame} {mk : MethodId} {a : Array Value} (h : mKn G tg ad A U) : mKn G tg ad A (U.calling g mk a) := by
  obtain ⟨h1, h2, k1, k2, k3, k4, k5, k6⟩ := h
  refine ⟨va_K.moved (u := U) (U := U.calling g mk a) (Vm.Alike.refl U.vm) h1, fun q hq => va_Nw.same rfl rfl (h2 q hq), ?_, ?_, ?_, ?_, fun i hi => vk_R.same rfl (k5 i hi), k6.elim (fun z => Or.inl (va_Z.moved (u := U) (U := U.calling g mk a) (Vm.Alike.refl U.vm) z)) (fun z => Or.inr (va_Z.moved (u := U) (U := U.calling g mk a) (Vm.Alike.refl U.vm) z))⟩
  · exact va_Z.moved (u := U) (U := U.calling g mk a) (Vm.Alike.refl U.vm) k1
  · exact va_T.moved (u := U) (U := U.calling g mk a) (Vm.Alike.refl U.vm) k2
  · exact va_Z.moved (u := U) (U := U.calling g mk a) (Vm.Alike.refl U.vm) k3
  · exact vk_S.moved (u := U) (U := U.calling g mk a) (Vm.Alike.refl U.vm) k4
/-! locals: a list; retAddr stands for what isn't known -/
def nR : Value → Bool
  | .retAddr _ => false
  | _ => true
def lpr (ad : Nat → Nat) : Nat → List Value → List (Nat × Value)
  | _, [] => []
  | i, v :: t => if nR v then (i, mv ad v) :: lpr ad (i + 1) t else lpr ad (i + 1) t
theorem lpr_mem {ad : Nat → Nat} {q : Nat × Value} : ∀ (L : List Value) (i : Nat), q ∈ lpr ad i L ↔ ∃ (k : Nat) (v : Value), L[k]? = some v ∧ nR v = true ∧ q = (i + k, mv ad v)
  | [], i => by simp [lpr]
  | v :: t, i => by
    have ih := lpr_mem (ad := ad) (q := q) t (i + 1)
    constructor
    · intro h
      by_cases hv : nR v = true
      · simp only [lpr, hv, if_true, List.mem_cons] at h
        rcases h with h | h
        · exact ⟨0, v, by simp, hv, by simpa using h⟩
        · obtain ⟨k, x, h1, h2, h3⟩ := ih.mp h
          exact ⟨k + 1, x, by simpa using h1, h2, by rw [h3, show i + 1 + k = i + (k + 1) by omega]⟩
      · simp only [lpr, hv] at h
        obtain ⟨k, x, h1, h2, h3⟩ := ih.mp h
        exact ⟨k + 1, x, by simpa using h1, h2, by rw [h3, show i + 1 + k = i + (k + 1) by omega]⟩
    · rintro ⟨k, x, h1, h2, h3⟩
      cases k with
      | zero =>
        simp at h1
        subst h1
        simp [lpr, h2, h3]
      | succ k =>
        have hm : q ∈ lpr ad (i + 1) t := ih.mpr ⟨k, x, by simpa using h1, h2, by rw [h3, show i + 1 + k = i + (k + 1) by omega]⟩
        by_cases hv : nR v = true
        · simp only [lpr, hv, if_true, List.mem_cons]
          exact Or.inr hm
        · simp only [lpr, hv]
          exact hm
def lp (ad : Nat → Nat) (nL : Nat) (ls : Array Slot) (L : List Value) : Prop := lv_has ls nL (lpr ad 0 L)
theorem lp_get {ad : Nat → Nat} {nL : Nat} {ls : Array Slot} {L : List Value} {i : Nat} {v : Value} (h : lp ad nL ls L) (hi : L[i]? = some v) (hv : nR v = true) : ls[i]? = some (.val (mv ad v)) :=
  h.2.2 (i, mv ad v) ((lpr_mem L 0).mpr ⟨i, v, hi, hv, by simp⟩)
/-- store at i: a long ahead of it is lost -/
def sto (i : Nat) (v : Value) (L : List Value) : List Value := match i with
  | 0 => L.set 0 v
  | j + 1 => match L[j]? with
    | some (.long _) => (L.set j (.retAddr 0)).set (j + 1) v
    | some (.double _) => (L.set j (.retAddr 0)).set (j + 1) v
    | _ => L.set (j + 1) v
def stoL (i : Nat) (v : Value) (L : List Value) : List Value := (sto i v L).set (i + 1) (.retAddr 0)
theorem sto_get {i k : Nat} {v x : Value} {L : List Value} (h : (sto i v L)[k]? = some x) (hx : nR x = true) : (k = i ∧ x = v) ∨ (k ≠ i ∧ L[k]? = some x ∧ ¬ (k + 1 = i ∧ x.category = 2)) := by
  have set_get : ∀ (M : List Value) (a : Nat) (y : Value), (M.set a y)[k]? = some x → (k = a ∧ x = y) ∨ (k ≠ a ∧ M[k]? = some x) := by
    intro M a y hM
    by_cases hk : k = a
    · subst hk
      have hl : k < (M.set k y).length := (List.getElem?_eq_some_iff.mp hM).1
      rw [List.length_set] at hl
      rw [List.getElem?_set_self hl] at hM
      cases hM
      exact Or.inl ⟨rfl, rfl⟩
    · rw [List.getElem?_set_ne (Ne.symm hk)] at hM
      exact Or.inr ⟨hk, hM⟩
  cases i with
  | zero =>
    rcases set_get L 0 v h with q | ⟨q1, q2⟩
    · exact Or.inl q
    · exact Or.inr ⟨q1, q2, by omega⟩
  | succ j =>
    have lost : ∀ M : List Value, M = L.set j (.retAddr 0) → (M.set (j + 1) v)[k]? = some x → (k = j + 1 ∧ x = v) ∨ (k ≠ j + 1 ∧ L[k]? = some x ∧ ¬ (k + 1 = j + 1 ∧ x.category = 2)) := by
      intro M hM h2
      subst hM
      rcases set_get _ _ _ h2 with q | ⟨q1, q2⟩
      · exact Or.inl q
      · rcases set_get _ _ _ q2 with ⟨-, z⟩ | ⟨z1, z2⟩
        · subst z; cases hx
        · exact Or.inr ⟨q1, z2, by omega⟩
    unfold sto at h
    dsimp only at h
    split at h
    · exact lost _ rfl h
    · exact lost _ rfl h
    · rename_i hn1 hn2
      rcases set_get L (j + 1) v h with q | ⟨q1, q2⟩
      · exact Or.inl q
      · refine Or.inr ⟨q1, q2, ?_⟩
        rintro ⟨z1, z2⟩
        have hk : k = j := by omega
        subst hk
        cases x <;> simp [Value.category] at z2
        · exact hn1 _ q2
        · exact hn2 _ q2
theorem lp_sto {ad : Nat → Nat} {nL : Nat} {ls : Array Slot} {L : List Value} {i : Nat} {v : Value} (h : lv_has ls nL ((i, mv ad v) :: (lpr ad 0 L).filter (fun q => !(q.1 == i) && !(q.1 + 1 == i && q.2.category == 2)))) : lp ad nL ls (sto i v L) := by
  refine ⟨h.1, h.2.1, fun q hq => ?_⟩
  obtain ⟨k, x, h1, h2, rfl⟩ := (lpr_mem _ 0).mp hq
  refine h.2.2 _ ?_
  rcases sto_get h1 h2 with ⟨rfl, rfl⟩ | ⟨q1, q2, q3⟩
  · simp
  · refine List.mem_cons_of_mem _ (List.mem_filter.mpr ⟨(lpr_mem L 0).mpr ⟨k, x, q2, h2, rfl⟩, ?_⟩)
    simp only [Nat.zero_add, mv_cat, Bool.and_eq_true, Bool.not_eq_true', beq_eq_false_iff_ne, ne_eq, Bool.and_eq_false_iff]
    refine ⟨q1, ?_⟩
    by_cases z : k + 1 = i
    · exact Or.inr (fun y => q3 ⟨z, y⟩)
    · exact Or.inl z
theorem lp_stoL {ad : Nat → Nat} {nL : Nat} {ls : Array Slot} {L : List Value} {i : Nat} {v : Value} (h : lv_has ls nL ((i, mv ad v) :: (lpr ad 0 L).filter (fun q => !(q.1 == i) && (!(q.1 == i + 1) && !(q.1 + 1 == i && q.2.category == 2))))) : lp ad nL ls (stoL i v L) := by
  refine ⟨h.1, h.2.1, fun q hq => ?_⟩
  obtain ⟨k, x, h1, h2, rfl⟩ := (lpr_mem _ 0).mp hq
  refine h.2.2 _ ?_
  have hk1 : k ≠ i + 1 := by
    intro hk
    subst hk
    have hl := (List.getElem?_eq_some_iff.mp h1).1
    rw [stoL, List.length_set] at hl
    rw [stoL, List.getElem?_set_self hl] at h1
    cases h1
    cases h2
  rw [stoL, List.getElem?_set_ne (Ne.symm hk1)] at h1
  rcases sto_get h1 h2 with ⟨rfl, rfl⟩ | ⟨q1, q2, q3⟩
  · simp
  · refine List.mem_cons_of_mem _ (List.mem_filter.mpr ⟨(lpr_mem L 0).mpr ⟨k, x, q2, h2, rfl⟩, ?_⟩)
    simp only [Nat.zero_add, mv_cat, Bool.and_eq_true, Bool.not_eq_true', beq_eq_false_iff_ne, ne_eq, Bool.and_eq_false_iff]
    refine ⟨q1, hk1, ?_⟩
    by_cases z : k + 1 = i
    · exact Or.inr (fun y => q3 ⟨z, y⟩)
    · exact Or.inl z
/-! contracts -/
def mQ (G : va_G) (tg : Nat → ClassId) (ad : Nat → Nat) (A : Nat → Prop) (n : Nat) (r : Option Value) (w : List va_E) : Array Value → State → Outcome → State → Prop := fun _ st oc t =>
  oc = .returned (r.map (mv ad)) ∧ va_P G vwCl (mw ad tg 0 w) t.heap ∧ w.length = n ∧ va_F A st t
def mPc (G : va_G) (tg : Nat → ClassId) (ad : Nat → Nat) (A : Nat → Prop) (av : List Value) (w : List va_E) : Array Value → State → Prop :=
  va_Pc (av.map (mv ad)) (fun U => va_P G vwCl (mw ad tg 0 w) U.heap ∧ mKn G tg ad A U)
def Ct (l : Launch) (G : va_G) (tg : Nat → ClassId) (y : MethodName) (cc : ByteArray) (nL : Nat) (ret : Option FieldType) (rm : Room) (F : mF) : Prop :=
  ∀ (ad : Nat → Nat) (A : Nat → Prop) (n : Nat), mA A ad n → ∀ (av : List Value) (w : List va_E) (r : Option Value) (w' : List va_E), F av w = some (r, w') → w.length = n →
    Met l y (.code y cc nL ret :: gW) rm (mPc G tg ad A av w) (mQ G tg ad A n r w') 0 0 A
abbrev mC : Type := Program × Launch × Env × State × MethodId × Array Value × List Frame × Method × Code × va_G × (Nat → ClassId) × (Nat → Nat) × (Nat → Prop) × Nat × Nat × Nat × (Option Value → List va_E → State → Prop)
def mC.l (X : mC) : Launch := X.2.1
def mC.G (X : mC) : va_G := X.2.2.2.2.2.2.2.2.2.1
def mC.tg (X : mC) : Nat → ClassId := X.2.2.2.2.2.2.2.2.2.2.1
def Cx (X : mC) (R : Room) (cc : ByteArray) (nL : Nat) (own : String) (ret : Option FieldType) : Prop := match X with
  | (p, _, _, s, m, args, _, meth, c, G, tg, ad, A, n, cells, slots, _) => p.tables.exec = Jvm.exec ∧ c.code = cc ∧ c.maxLocals = nL ∧ meth.sig.returnType = ret ∧ meth.locks = false ∧ s.vm.findClass own = some m.cls ∧ (∀ w ∈ gW, w.before args s = true) ∧ mKn G tg ad A s ∧ mA A ad n ∧ cells ≤ R.cells ∧ slots ≤ R.slots
/-- the end of a method that makes nothing -/
def Rx (X : mC) : Prop := match X with
  | (_, _, _, s, _, args, below, _, _, G, tg, ad, A, n, cells, slots, Qp) => cells = 0 ∧ slots = 0 ∧ Qp = fun r w' => MQ below (mQ G tg ad A n r w') args s 0 0 A
def Den (X : mC) (R : Room) (nL : Nat) (pc : Nat) (f : mK) : Prop := match X with
  | (p, l, e, s, m, args, below, meth, c, G, tg, ad, A, n, cells, slots, Qp) => ∀ (st L : List Value) (w : List va_E) (r : Option Value) (w' : List va_E), f st L w = some (r, w') → w.length = n → ∀ (H : Heap) (locs : List Loc) (ls : Array Slot), va_P G vwCl (mw ad tg 0 w) H → va_S A s.heap H locs → lp ad nL ls L →
    W p l e R s m args below meth c H locs cells slots (Qp r w') (F0 m pc ls (st.map (mv ad)))
/-- locals at the entry -/
def lin (nL : Nat) : List Value → List Value
  | [] => List.replicate nL (.retAddr 0)
  | v :: t => if v.category = 2 then v :: .retAddr 0 :: lin (nL - 2) t else v :: lin (nL - 1) t
def lsz : List Value → Nat
  | [] => 0
  | v :: t => (if v.category = 2 then 2 else 1) + lsz t
def mEnt (nL : Nat) (f : mK) : mF := fun av w => if lsz av ≤ nL then f [] (lin nL av) w else none
theorem lsz_eq (ad : Nat → Nat) : ∀ av : List Value, (lg_sl (av.map (mv ad))).length = lsz av
  | [] => rfl
  | v :: t => by
    have h := lsz_eq ad t
    have e1 : lg_sl ((v :: t).map (mv ad)) = (if (mv ad v).category = 2 then [.val (mv ad v), .second] else [.val (mv ad v)]) ++ lg_sl (t.map (mv ad)) := by
      simp [lg_sl]
    rw [e1, List.length_append, h, mv_cat, lsz]
    by_cases hc : v.category = 2 <;> simp [hc]
theorem lin_mem (ad : Nat → Nat) {q : Nat × Value} : ∀ (av : List Value) (nL i : Nat), q ∈ lpr ad i (lin nL av) → q ∈ lv_args i (av.map (mv ad))
  | [], nL, i => by
    intro h
    obtain ⟨k, v, h1, h2, -⟩ := (lpr_mem _ i).mp h
    have := List.eq_of_mem_replicate (List.mem_of_getElem? h1)
    subst this
    cases h2
  | v :: t, nL, i => by
    intro h
    by_cases hv : v.category = 2
    · rw [lin, if_pos hv] at h
      simp only [List.map_cons, lv_args, mv_cat, hv, if_true, List.mem_cons]
      have h3 : q ∈ lpr ad (i + 1 + 1) (lin (nL - 2) t) ∨ q = (i, mv ad v) := by
        by_cases z : nR v = true
        · rw [lpr, if_pos z, lpr, if_neg (by simp [nR])] at h
          rcases List.mem_cons.mp h with h | h
          · exact Or.inr h
          · exact Or.inl h
        · rw [lpr, if_neg z, lpr, if_neg (by simp [nR])] at h
          exact Or.inl h
      rcases h3 with h3 | h3
      · exact Or.inr (lin_mem ad t (nL - 2) (i + 2) h3)
      · exact Or.inl h3
    · rw [lin, if_neg hv] at h
      simp only [List.map_cons, lv_args, mv_cat, hv, if_false, List.mem_cons]
      have h3 : q ∈ lpr ad (i + 1) (lin (nL - 1) t) ∨ q = (i, mv ad v) := by
        by_cases z : nR v = true
        · simp [lpr, z] at h
          rcases h with h | h
          · exact Or.inr h
          · exact Or.inl h
        · simp [lpr, z] at h
          exact Or.inl h
      rcases h3 with h3 | h3
      · exact Or.inr (lin_mem ad t (nL - 1) (i + 1) h3)
      · exact Or.inl h3
theorem Ct.of {l : Launch} {G : va_G} {tg : Nat → ClassId} {y : MethodName} {cc : ByteArray} {nL : Nat} {ret : Option FieldType} {rm : Room} {f : mK} (own : String) (hy : plainName y.cls = true) (hyc : y.cls = own) (h : ∀ X : mC, Cx X rm cc nL own ret → Rx X → Den X rm nL 0 f) : Ct l G tg y cc nL ret rm (mEnt nL f) := by
  intro ad A n hA av w r w' hF hn
  unfold mEnt at hF
  split at hF
  · rename_i hsz
    refine Met.ofW (cc := cc) (maxL := nL) (ret := ret) hy rfl ?_
    intro p e s m args below meth c s₁ B hml hv
    obtain ⟨rfl, hP, hK⟩ := hv
    have hts := atoms_spec (ws := .code y cc nL ret :: gW) B.pre
    have hown : s.vm.findClass own = some m.cls := hyc ▸ findClass_of_methodNamed B.named
    have hl := lv_entry (av.map (mv ad)) (n := nL) (by rw [lsz_eq]; exact hsz)
    rw [lg_entry_eq]
    have hD := h (p, l, e, s, m, (av.map (mv ad)).toArray, below, meth, c, G, tg, ad, A, n, 0, 0, fun r w' => MQ below (mQ G tg ad A n r w') (av.map (mv ad)).toArray s 0 0 A) ⟨B.exec, B.bytes, hml, B.returns, B.notSynchronized, hown, fun w hw => hts w (List.mem_cons_of_mem _ hw), hK, hA, Nat.zero_le _, Nat.zero_le _⟩ ⟨rfl, rfl, rfl⟩
    exact hD [] (lin nL av) w r w' hF hn s.heap [] _ hP va_S.rf ⟨hl.1, hl.2.1, fun q hq => hl.2.2 q (lin_mem ad av nL 0 hq)⟩
  · cases hF

/-! instructions and their rules -/
section DEN
variable {X : mC} {R : Room} {cc : ByteArray} {nL : Nat} {own : String} {ret : Option FieldType} {pc q : Nat} {k kt kf : mK}
theorem Den.none : Den X R nL pc (fun _ _ _ => none) := by
  obtain ⟨p, l, e, s, m, args, below, meth, c, G, tg, ad, A, n, cells, slots, Qp⟩ := X
  intro st L w r w' hf
  cases hf
def i_push (v : Value) (k : mK) : mK := fun st L w => k (v :: st) L w
theorem Dn_iconst {z : Int} {v : Int32} (C : Cx X R cc nL own ret) (hd : decode cc pc = .ok (.iconst z, 1)) (hv : Int32.ofInt z = v) (hq : pc + 1 = q) (h : Den X R nL q k) : Den X R nL pc (i_push (.int v) k) := by
  obtain ⟨p, l, e, s, m, args, below, meth, c, G, tg, ad, A, n, cells, slots, Qp⟩ := X
  obtain ⟨hx, hb, hml, hr, hlk, hown, hts, hK, hA, hcl, hsl⟩ := C
  try subst hq
  intro st L w r w' hf hn H locs ls hP hS hl
  exact lv_iconst hx hb hd hv (h _ _ _ _ _ hf hn H locs ls hP hS hl)
theorem Dn_bipush {z : Int} {v : Int32} (C : Cx X R cc nL own ret) (hd : decode cc pc = .ok (.bipush z, 2)) (hv : (Int8.ofInt z).toInt32 = v) (hq : pc + 2 = q) (h : Den X R nL q k) : Den X R nL pc (i_push (.int v) k) := by
  obtain ⟨p, l, e, s, m, args, below, meth, c, G, tg, ad, A, n, cells, slots, Qp⟩ := X
  obtain ⟨hx, hb, hml, hr, hlk, hown, hts, hK, hA, hcl, hsl⟩ := C
  try subst hq
  intro st L w r w' hf hn H locs ls hP hS hl
  exact lv_bipush hx hb hd hv (h _ _ _ _ _ hf hn H locs ls hP hS hl)
theorem Dn_sipush {z : Int} {v : Int32} (C : Cx X R cc nL own ret) (hd : decode cc pc = .ok (.sipush z, 3)) (hv : (Int16.ofInt z).toInt32 = v) (hq : pc + 3 = q) (h : Den X R nL q k) : Den X R nL pc (i_push (.int v) k) := by
  obtain ⟨p, l, e, s, m, args, below, meth, c, G, tg, ad, A, n, cells, slots, Qp⟩ := X
  obtain ⟨hx, hb, hml, hr, hlk, hown, hts, hK, hA, hcl, hsl⟩ := C
  try subst hq
  intro st L w r w' hf hn H locs ls hP hS hl
  exact lv_sipush hx hb hd hv (h _ _ _ _ _ hf hn H locs ls hP hS hl)
theorem Dn_lconst {z : Fin 2} {v : Int64} (C : Cx X R cc nL own ret) (hd : decode cc pc = .ok (.lconst z, 1)) (hv : Int64.ofNat (z : Nat) = v) (hq : pc + 1 = q) (h : Den X R nL q k) : Den X R nL pc (i_push (.long v) k) := by
  obtain ⟨p, l, e, s, m, args, below, meth, c, G, tg, ad, A, n, cells, slots, Qp⟩ := X
  obtain ⟨hx, hb, hml, hr, hlk, hown, hts, hK, hA, hcl, hsl⟩ := C
  try subst hq
  intro st L w r w' hf hn H locs ls hP hS hl
  exact lv_lconst hx hb hd hv (h _ _ _ _ _ hf hn H locs ls hP hS hl)
theorem Dn_ldc {z : Nat} {v : Int32} (C : Cx X R cc nL own ret) (hd : decode cc pc = .ok (.ldc z, 2)) (hv : Cond.constant own z v ∈ gW) (hq : pc + 2 = q) (h : Den X R nL q k) : Den X R nL pc (i_push (.int v) k) := by
  obtain ⟨p, l, e, s, m, args, below, meth, c, G, tg, ad, A, n, cells, slots, Qp⟩ := X
  obtain ⟨hx, hb, hml, hr, hlk, hown, hts, hK, hA, hcl, hsl⟩ := C
  try subst hq
  intro st L w r w' hf hn H locs ls hP hS hl
  exact lv_ldc hx hb hown (hts _ hv) hd (h _ _ _ _ _ hf hn H locs ls hP hS hl)
theorem Dn_ldc2 {z : Nat} {v : Int64} (C : Cx X R cc nL own ret) (hd : decode cc pc = .ok (.ldc2_w z, 3)) (hv : Cond.constantLong own z v ∈ gW) (hq : pc + 3 = q) (h : Den X R nL q k) : Den X R nL pc (i_push (.long v) k) := by
  obtain ⟨p, l, e, s, m, args, below, meth, c, G, tg, ad, A, n, cells, slots, Qp⟩ := X
  obtain ⟨hx, hb, hml, hr, hlk, hown, hts, hK, hA, hcl, hsl⟩ := C
  try subst hq
  intro st L w r w' hf hn H locs ls hP hS hl
  exact lv_ldc2 hx hb hown (hts _ hv) hd (h _ _ _ _ _ hf hn H locs ls hP hS hl)
def i_ild (i : Nat) (k : mK) : mK := fun st L w => match L[i]? with
  | some (.int x) => k (.int x :: st) L w
  | _ => none
theorem Dn_ild {i : Nat}  (C : Cx X R cc nL own ret) (hd : decode cc pc = .ok (.iload i, 2))  (hq : pc + 2 = q) (h : Den X R nL q k) : Den X R nL pc (i_ild i k) := by
  obtain ⟨p, l, e, s, m, args, below, meth, c, G, tg, ad, A, n, cells, slots, Qp⟩ := X
  obtain ⟨hx, hb, hml, hr, hlk, hown, hts, hK, hA, hcl, hsl⟩ := C
  try subst hq
  intro st L w r w' hf hn H locs ls hP hS hl
  unfold i_ild at hf
  split at hf
  · rename_i x hg
    exact lv_iload hx hb hd (lp_get hl hg rfl) (h _ _ _ _ _ hf hn H locs ls hP hS hl)
  · cases hf
theorem Dn_ild_n {i : Nat} {j : Fin 4} (C : Cx X R cc nL own ret) (hd : decode cc pc = .ok (.iload_n j, 1)) (hi : (j : Nat) = i) (hq : pc + 1 = q) (h : Den X R nL q k) : Den X R nL pc (i_ild i k) := by
  obtain ⟨p, l, e, s, m, args, below, meth, c, G, tg, ad, A, n, cells, slots, Qp⟩ := X
  obtain ⟨hx, hb, hml, hr, hlk, hown, hts, hK, hA, hcl, hsl⟩ := C
  try subst hq
  intro st L w r w' hf hn H locs ls hP hS hl
  unfold i_ild at hf
  split at hf
  · rename_i x hg
    exact lv_iload_n hx hb hd hi (lp_get hl hg rfl) (h _ _ _ _ _ hf hn H locs ls hP hS hl)
  · cases hf
def i_lld (i : Nat) (k : mK) : mK := fun st L w => match L[i]? with
  | some (.long x) => k (.long x :: st) L w
  | _ => none
theorem Dn_lld {i : Nat}  (C : Cx X R cc nL own ret) (hd : decode cc pc = .ok (.lload i, 2))  (hq : pc + 2 = q) (h : Den X R nL q k) : Den X R nL pc (i_lld i k) := by
  obtain ⟨p, l, e, s, m, args, below, meth, c, G, tg, ad, A, n, cells, slots, Qp⟩ := X
  obtain ⟨hx, hb, hml, hr, hlk, hown, hts, hK, hA, hcl, hsl⟩ := C
  try subst hq
  intro st L w r w' hf hn H locs ls hP hS hl
  unfold i_lld at hf
  split at hf
  · rename_i x hg
    exact lv_lload hx hb hd (lp_get hl hg rfl) (h _ _ _ _ _ hf hn H locs ls hP hS hl)
  · cases hf
theorem Dn_lld_n {i : Nat} {j : Fin 4} (C : Cx X R cc nL own ret) (hd : decode cc pc = .ok (.lload_n j, 1)) (hi : (j : Nat) = i) (hq : pc + 1 = q) (h : Den X R nL q k) : Den X R nL pc (i_lld i k) := by
  obtain ⟨p, l, e, s, m, args, below, meth, c, G, tg, ad, A, n, cells, slots, Qp⟩ := X
  obtain ⟨hx, hb, hml, hr, hlk, hown, hts, hK, hA, hcl, hsl⟩ := C
  try subst hq
  intro st L w r w' hf hn H locs ls hP hS hl
  unfold i_lld at hf
  split at hf
  · rename_i x hg
    exact lv_lload_n hx hb hd hi (lp_get hl hg rfl) (h _ _ _ _ _ hf hn H locs ls hP hS hl)
  · cases hf
def i_ald (i : Nat) (k : mK) : mK := fun st L w => match L[i]? with
  | some (.ref x) => k (.ref x :: st) L w
  | _ => none
theorem Dn_ald {i : Nat}  (C : Cx X R cc nL own ret) (hd : decode cc pc = .ok (.aload i, 2))  (hq : pc + 2 = q) (h : Den X R nL q k) : Den X R nL pc (i_ald i k) := by
  obtain ⟨p, l, e, s, m, args, below, meth, c, G, tg, ad, A, n, cells, slots, Qp⟩ := X
  obtain ⟨hx, hb, hml, hr, hlk, hown, hts, hK, hA, hcl, hsl⟩ := C
  try subst hq
  intro st L w r w' hf hn H locs ls hP hS hl
  unfold i_ald at hf
  split at hf
  · rename_i x hg
    exact lv_aload hx hb hd (lp_get hl hg rfl) (h _ _ _ _ _ hf hn H locs ls hP hS hl)
  · cases hf
theorem Dn_ald_n {i : Nat} {j : Fin 4} (C : Cx X R cc nL own ret) (hd : decode cc pc = .ok (.aload_n j, 1)) (hi : (j : Nat) = i) (hq : pc + 1 = q) (h : Den X R nL q k) : Den X R nL pc (i_ald i k) := by
  obtain ⟨p, l, e, s, m, args, below, meth, c, G, tg, ad, A, n, cells, slots, Qp⟩ := X
  obtain ⟨hx, hb, hml, hr, hlk, hown, hts, hK, hA, hcl, hsl⟩ := C
  try subst hq
  intro st L w r w' hf hn H locs ls hP hS hl
  unfold i_ald at hf
  split at hf
  · rename_i x hg
    exact lv_aload_n hx hb hd hi (lp_get hl hg rfl) (h _ _ _ _ _ hf hn H locs ls hP hS hl)
  · cases hf
def i_ist (i : Nat) (k : mK) : mK := fun st L w => match st with
  | .int x :: r => k r (sto i (.int x) L) w
  | _ => none
theorem Dn_ist {i : Nat}  (C : Cx X R cc nL own ret) (hd : decode cc pc = .ok (.istore i, 2))  (hin : i < nL) (hq : pc + 2 = q) (h : Den X R nL q k) : Den X R nL pc (i_ist i k) := by
  obtain ⟨p, l, e, s, m, args, below, meth, c, G, tg, ad, A, n, cells, slots, Qp⟩ := X
  obtain ⟨hx, hb, hml, hr, hlk, hown, hts, hK, hA, hcl, hsl⟩ := C
  try subst hq
  intro st L w r w' hf hn H locs ls hP hS hl
  unfold i_ist at hf
  split at hf
  · rename_i x rest
    exact lv_istore (lv := lpr ad 0 L) hx hb hd hl hin rfl (fun ls' h' => h _ _ _ _ _ hf hn H locs ls' hP hS (lp_sto (v := .int x) h'))
  · cases hf
theorem Dn_ist_n {i : Nat} {j : Fin 4} (C : Cx X R cc nL own ret) (hd : decode cc pc = .ok (.istore_n j, 1)) (hi : (j : Nat) = i) (hin : i < nL) (hq : pc + 1 = q) (h : Den X R nL q k) : Den X R nL pc (i_ist i k) := by
  obtain ⟨p, l, e, s, m, args, below, meth, c, G, tg, ad, A, n, cells, slots, Qp⟩ := X
  obtain ⟨hx, hb, hml, hr, hlk, hown, hts, hK, hA, hcl, hsl⟩ := C
  try subst hq
  intro st L w r w' hf hn H locs ls hP hS hl
  unfold i_ist at hf
  split at hf
  · rename_i x rest
    exact lv_istore_n (lv := lpr ad 0 L) hx hb hd hi hl hin rfl (fun ls' h' => h _ _ _ _ _ hf hn H locs ls' hP hS (lp_sto (v := .int x) h'))
  · cases hf
def i_ast (i : Nat) (k : mK) : mK := fun st L w => match st with
  | .ref x :: r => k r (sto i (.ref x) L) w
  | _ => none
theorem Dn_ast {i : Nat}  (C : Cx X R cc nL own ret) (hd : decode cc pc = .ok (.astore i, 2))  (hin : i < nL) (hq : pc + 2 = q) (h : Den X R nL q k) : Den X R nL pc (i_ast i k) := by
  obtain ⟨p, l, e, s, m, args, below, meth, c, G, tg, ad, A, n, cells, slots, Qp⟩ := X
  obtain ⟨hx, hb, hml, hr, hlk, hown, hts, hK, hA, hcl, hsl⟩ := C
  try subst hq
  intro st L w r w' hf hn H locs ls hP hS hl
  unfold i_ast at hf
  split at hf
  · rename_i x rest
    exact lv_astore (lv := lpr ad 0 L) hx hb hd hl hin rfl (fun ls' h' => h _ _ _ _ _ hf hn H locs ls' hP hS (lp_sto (v := .ref x) h'))
  · cases hf
theorem Dn_ast_n {i : Nat} {j : Fin 4} (C : Cx X R cc nL own ret) (hd : decode cc pc = .ok (.astore_n j, 1)) (hi : (j : Nat) = i) (hin : i < nL) (hq : pc + 1 = q) (h : Den X R nL q k) : Den X R nL pc (i_ast i k) := by
  obtain ⟨p, l, e, s, m, args, below, meth, c, G, tg, ad, A, n, cells, slots, Qp⟩ := X
  obtain ⟨hx, hb, hml, hr, hlk, hown, hts, hK, hA, hcl, hsl⟩ := C
  try subst hq
  intro st L w r w' hf hn H locs ls hP hS hl
  unfold i_ast at hf
  split at hf
  · rename_i x rest
    exact lv_astore_n (lv := lpr ad 0 L) hx hb hd hi hl hin rfl (fun ls' h' => h _ _ _ _ _ hf hn H locs ls' hP hS (lp_sto (v := .ref x) h'))
  · cases hf
def i_lst (i : Nat) (k : mK) : mK := fun st L w => match st with
  | .long x :: r => k r (stoL i (.long x) L) w
  | _ => none
theorem Dn_lst {i : Nat}  (C : Cx X R cc nL own ret) (hd : decode cc pc = .ok (.lstore i, 2))  (hin : i + 1 < nL) (hq : pc + 2 = q) (h : Den X R nL q k) : Den X R nL pc (i_lst i k) := by
  obtain ⟨p, l, e, s, m, args, below, meth, c, G, tg, ad, A, n, cells, slots, Qp⟩ := X
  obtain ⟨hx, hb, hml, hr, hlk, hown, hts, hK, hA, hcl, hsl⟩ := C
  try subst hq
  intro st L w r w' hf hn H locs ls hP hS hl
  unfold i_lst at hf
  split at hf
  · rename_i x rest
    exact lv_lstore (lv := lpr ad 0 L) hx hb hd hl hin rfl (fun ls' h' => h _ _ _ _ _ hf hn H locs ls' hP hS (lp_stoL (v := .long x) h'))
  · cases hf
theorem Dn_lst_n {i : Nat} {j : Fin 4} (C : Cx X R cc nL own ret) (hd : decode cc pc = .ok (.lstore_n j, 1)) (hi : (j : Nat) = i) (hin : i + 1 < nL) (hq : pc + 1 = q) (h : Den X R nL q k) : Den X R nL pc (i_lst i k) := by
  obtain ⟨p, l, e, s, m, args, below, meth, c, G, tg, ad, A, n, cells, slots, Qp⟩ := X
  obtain ⟨hx, hb, hml, hr, hlk, hown, hts, hK, hA, hcl, hsl⟩ := C
  try subst hq
  intro st L w r w' hf hn H locs ls hP hS hl
  unfold i_lst at hf
  split at hf
  · rename_i x rest
    exact lv_lstore_n (lv := lpr ad 0 L) hx hb hd hi hl hin rfl (fun ls' h' => h _ _ _ _ _ hf hn H locs ls' hP hS (lp_stoL (v := .long x) h'))
  · cases hf
def i_inc (i : Nat) (z : Int32) (k : mK) : mK := fun st L w => match L[i]? with
  | some (.int x) => k st (sto i (.int (x + z)) L) w
  | _ => none
theorem Dn_inc {i : Nat} {d : Int} {z : Int32} (C : Cx X R cc nL own ret) (hd : decode cc pc = .ok (.iinc i d, 3)) (hz : Int32.ofInt d = z) (hin : i < nL) (hq : pc + 3 = q) (h : Den X R nL q k) : Den X R nL pc (i_inc i z k) := by
  obtain ⟨p, l, e, s, m, args, below, meth, c, G, tg, ad, A, n, cells, slots, Qp⟩ := X
  obtain ⟨hx, hb, hml, hr, hlk, hown, hts, hK, hA, hcl, hsl⟩ := C
  try subst hq
  intro st L w r w' hf hn H locs ls hP hS hl
  subst hz
  unfold i_inc at hf
  split at hf
  · rename_i x hg
    have hm : (i, Value.int x) ∈ lpr ad 0 L := (lpr_mem L 0).mpr ⟨i, .int x, hg, rfl, by simp [mv]⟩
    obtain ⟨j, hj⟩ := List.getElem?_of_mem hm
    exact lv_iinc (lv := lpr ad 0 L) (k := j) hx hb hd hl hj rfl hin rfl (fun ls' h' => h _ _ _ _ _ hf hn H locs ls' hP hS (lp_sto (v := .int (x + Int32.ofInt d)) h'))
  · cases hf
def i_ib (g : Int32 → Int32 → Int32) (k : mK) : mK := fun st L w => match st with
  | .int y :: .int x :: r => k (.int (g x y) :: r) L w
  | _ => none
def i_lb (g : Int64 → Int64 → Int64) (k : mK) : mK := fun st L w => match st with
  | .long y :: .long x :: r => k (.long (g x y) :: r) L w
  | _ => none
def i_ls (g : Int64 → Int32 → Int64) (k : mK) : mK := fun st L w => match st with
  | .int y :: .long x :: r => k (.long (g x y) :: r) L w
  | _ => none
def i_ii (g : Int32 → Int32) (k : mK) : mK := fun st L w => match st with
  | .int x :: r => k (.int (g x) :: r) L w
  | _ => none
def i_i2l (k : mK) : mK := fun st L w => match st with
  | .int x :: r => k (.long x.toInt64 :: r) L w
  | _ => none
def i_l2i (k : mK) : mK := fun st L w => match st with
  | .long x :: r => k (.int x.toInt32 :: r) L w
  | _ => none
def i_lcmp (k : mK) : mK := fun st L w => match st with
  | .long y :: .long x :: r => k (.int (lg_cmp x y) :: r) L w
  | _ => none
def i_idiv (k : mK) : mK := fun st L w => match st with
  | .int y :: .int x :: r => if y = 0 then none else k (.int (x / y) :: r) L w
  | _ => none
def i_irem (k : mK) : mK := fun st L w => match st with
  | .int y :: .int x :: r => if y = 0 then none else k (.int (x - x / y * y) :: r) L w
  | _ => none
def i_dup (k : mK) : mK := fun st L w => match st with
  | .int x :: r => k (.int x :: .int x :: r) L w
  | .ref x :: r => k (.ref x :: .ref x :: r) L w
  | _ => none
def i_dup2 (k : mK) : mK := fun st L w => match st with
  | .int y :: .ref x :: r => k (.int y :: .ref x :: .int y :: .ref x :: r) L w
  | _ => none
def i_pop (k : mK) : mK := fun st L w => match st with
  | .int _ :: r => k r L w
  | _ => none
theorem Dn_iadd (C : Cx X R cc nL own ret) (hd : decode cc pc = .ok (.iadd, 1)) (hq : pc + 1 = q) (h : Den X R nL q k) : Den X R nL pc (i_ib (fun x y => x + y) k) := by
  obtain ⟨p, l, e, s, m, args, below, meth, c, G, tg, ad, A, n, cells, slots, Qp⟩ := X
  obtain ⟨hx, hb, hml, hr, hlk, hown, hts, hK, hA, hcl, hsl⟩ := C
  try subst hq
  intro st L w r w' hf hn H locs ls hP hS hl
  unfold i_ib at hf
  split at hf
  · exact lv_iadd hx hb hd (h _ _ _ _ _ hf hn H locs ls hP hS hl)
  · cases hf
theorem Dn_isub (C : Cx X R cc nL own ret) (hd : decode cc pc = .ok (.isub, 1)) (hq : pc + 1 = q) (h : Den X R nL q k) : Den X R nL pc (i_ib (fun x y => x - y) k) := by
  obtain ⟨p, l, e, s, m, args, below, meth, c, G, tg, ad, A, n, cells, slots, Qp⟩ := X
  obtain ⟨hx, hb, hml, hr, hlk, hown, hts, hK, hA, hcl, hsl⟩ := C
  try subst hq
  intro st L w r w' hf hn H locs ls hP hS hl
  unfold i_ib at hf
  split at hf
  · exact lv_isub hx hb hd (h _ _ _ _ _ hf hn H locs ls hP hS hl)
  · cases hf
theorem Dn_imul (C : Cx X R cc nL own ret) (hd : decode cc pc = .ok (.imul, 1)) (hq : pc + 1 = q) (h : Den X R nL q k) : Den X R nL pc (i_ib (fun x y => x * y) k) := by
  obtain ⟨p, l, e, s, m, args, below, meth, c, G, tg, ad, A, n, cells, slots, Qp⟩ := X
  obtain ⟨hx, hb, hml, hr, hlk, hown, hts, hK, hA, hcl, hsl⟩ := C
  try subst hq
  intro st L w r w' hf hn H locs ls hP hS hl
  unfold i_ib at hf
  split at hf
  · exact lv_imul hx hb hd (h _ _ _ _ _ hf hn H locs ls hP hS hl)
  · cases hf
theorem Dn_iand (C : Cx X R cc nL own ret) (hd : decode cc pc = .ok (.iand, 1)) (hq : pc + 1 = q) (h : Den X R nL q k) : Den X R nL pc (i_ib (fun x y => x &&& y) k) := by
  obtain ⟨p, l, e, s, m, args, below, meth, c, G, tg, ad, A, n, cells, slots, Qp⟩ := X
  obtain ⟨hx, hb, hml, hr, hlk, hown, hts, hK, hA, hcl, hsl⟩ := C
  try subst hq
  intro st L w r w' hf hn H locs ls hP hS hl
  unfold i_ib at hf
  split at hf
  · exact lv_iand hx hb hd (h _ _ _ _ _ hf hn H locs ls hP hS hl)
  · cases hf
theorem Dn_ior (C : Cx X R cc nL own ret) (hd : decode cc pc = .ok (.ior, 1)) (hq : pc + 1 = q) (h : Den X R nL q k) : Den X R nL pc (i_ib (fun x y => x ||| y) k) := by
  obtain ⟨p, l, e, s, m, args, below, meth, c, G, tg, ad, A, n, cells, slots, Qp⟩ := X
  obtain ⟨hx, hb, hml, hr, hlk, hown, hts, hK, hA, hcl, hsl⟩ := C
  try subst hq
  intro st L w r w' hf hn H locs ls hP hS hl
  unfold i_ib at hf
  split at hf
  · exact lv_ior hx hb hd (h _ _ _ _ _ hf hn H locs ls hP hS hl)
  · cases hf
theorem Dn_ixor (C : Cx X R cc nL own ret) (hd : decode cc pc = .ok (.ixor, 1)) (hq : pc + 1 = q) (h : Den X R nL q k) : Den X R nL pc (i_ib (fun x y => x ^^^ y) k) := by
  obtain ⟨p, l, e, s, m, args, below, meth, c, G, tg, ad, A, n, cells, slots, Qp⟩ := X
  obtain ⟨hx, hb, hml, hr, hlk, hown, hts, hK, hA, hcl, hsl⟩ := C
  try subst hq
  intro st L w r w' hf hn H locs ls hP hS hl
  unfold i_ib at hf
  split at hf
  · exact lv_ixor hx hb hd (h _ _ _ _ _ hf hn H locs ls hP hS hl)
  · cases hf
theorem Dn_ishl (C : Cx X R cc nL own ret) (hd : decode cc pc = .ok (.ishl, 1)) (hq : pc + 1 = q) (h : Den X R nL q k) : Den X R nL pc (i_ib (fun x y => x <<< (y &&& 31)) k) := by
  obtain ⟨p, l, e, s, m, args, below, meth, c, G, tg, ad, A, n, cells, slots, Qp⟩ := X
  obtain ⟨hx, hb, hml, hr, hlk, hown, hts, hK, hA, hcl, hsl⟩ := C
  try subst hq
  intro st L w r w' hf hn H locs ls hP hS hl
  unfold i_ib at hf
  split at hf
  · exact lv_ishl hx hb hd (h _ _ _ _ _ hf hn H locs ls hP hS hl)
  · cases hf
theorem Dn_ishr (C : Cx X R cc nL own ret) (hd : decode cc pc = .ok (.ishr, 1)) (hq : pc + 1 = q) (h : Den X R nL q k) : Den X R nL pc (i_ib (fun x y => x >>> (y &&& 31)) k) := by
  obtain ⟨p, l, e, s, m, args, below, meth, c, G, tg, ad, A, n, cells, slots, Qp⟩ := X
  obtain ⟨hx, hb, hml, hr, hlk, hown, hts, hK, hA, hcl, hsl⟩ := C
  try subst hq
  intro st L w r w' hf hn H locs ls hP hS hl
  unfold i_ib at hf
  split at hf
  · exact lv_ishr hx hb hd (h _ _ _ _ _ hf hn H locs ls hP hS hl)
  · cases hf
theorem Dn_ineg (C : Cx X R cc nL own ret) (hd : decode cc pc = .ok (.ineg, 1)) (hq : pc + 1 = q) (h : Den X R nL q k) : Den X R nL pc (i_ii (fun x => 0 - x) k) := by
  obtain ⟨p, l, e, s, m, args, below, meth, c, G, tg, ad, A, n, cells, slots, Qp⟩ := X
  obtain ⟨hx, hb, hml, hr, hlk, hown, hts, hK, hA, hcl, hsl⟩ := C
  try subst hq
  intro st L w r w' hf hn H locs ls hP hS hl
  unfold i_ii at hf
  split at hf
  · exact lv_ineg hx hb hd (h _ _ _ _ _ hf hn H locs ls hP hS hl)
  · cases hf
theorem Dn_i2c (C : Cx X R cc nL own ret) (hd : decode cc pc = .ok (.i2c, 1)) (hq : pc + 1 = q) (h : Den X R nL q k) : Den X R nL pc (i_ii (fun x => (x.toUInt32 % 65536).toInt32) k) := by
  obtain ⟨p, l, e, s, m, args, below, meth, c, G, tg, ad, A, n, cells, slots, Qp⟩ := X
  obtain ⟨hx, hb, hml, hr, hlk, hown, hts, hK, hA, hcl, hsl⟩ := C
  try subst hq
  intro st L w r w' hf hn H locs ls hP hS hl
  unfold i_ii at hf
  split at hf
  · exact lv_i2c hx hb hd rfl (h _ _ _ _ _ hf hn H locs ls hP hS hl)
  · cases hf
theorem Dn_ladd (C : Cx X R cc nL own ret) (hd : decode cc pc = .ok (.ladd, 1)) (hq : pc + 1 = q) (h : Den X R nL q k) : Den X R nL pc (i_lb (fun x y => x + y) k) := by
  obtain ⟨p, l, e, s, m, args, below, meth, c, G, tg, ad, A, n, cells, slots, Qp⟩ := X
  obtain ⟨hx, hb, hml, hr, hlk, hown, hts, hK, hA, hcl, hsl⟩ := C
  try subst hq
  intro st L w r w' hf hn H locs ls hP hS hl
  unfold i_lb at hf
  split at hf
  · exact lv_ladd hx hb hd (h _ _ _ _ _ hf hn H locs ls hP hS hl)
  · cases hf
theorem Dn_lsub (C : Cx X R cc nL own ret) (hd : decode cc pc = .ok (.lsub, 1)) (hq : pc + 1 = q) (h : Den X R nL q k) : Den X R nL pc (i_lb (fun x y => x - y) k) := by
  obtain ⟨p, l, e, s, m, args, below, meth, c, G, tg, ad, A, n, cells, slots, Qp⟩ := X
  obtain ⟨hx, hb, hml, hr, hlk, hown, hts, hK, hA, hcl, hsl⟩ := C
  try subst hq
  intro st L w r w' hf hn H locs ls hP hS hl
  unfold i_lb at hf
  split at hf
  · exact lv_lsub hx hb hd (h _ _ _ _ _ hf hn H locs ls hP hS hl)
  · cases hf
theorem Dn_land (C : Cx X R cc nL own ret) (hd : decode cc pc = .ok (.land, 1)) (hq : pc + 1 = q) (h : Den X R nL q k) : Den X R nL pc (i_lb (fun x y => x &&& y) k) := by
  obtain ⟨p, l, e, s, m, args, below, meth, c, G, tg, ad, A, n, cells, slots, Qp⟩ := X
  obtain ⟨hx, hb, hml, hr, hlk, hown, hts, hK, hA, hcl, hsl⟩ := C
  try subst hq
  intro st L w r w' hf hn H locs ls hP hS hl
  unfold i_lb at hf
  split at hf
  · exact lv_land hx hb hd (h _ _ _ _ _ hf hn H locs ls hP hS hl)
  · cases hf
theorem Dn_lor (C : Cx X R cc nL own ret) (hd : decode cc pc = .ok (.lor, 1)) (hq : pc + 1 = q) (h : Den X R nL q k) : Den X R nL pc (i_lb (fun x y => x ||| y) k) := by
  obtain ⟨p, l, e, s, m, args, below, meth, c, G, tg, ad, A, n, cells, slots, Qp⟩ := X
  obtain ⟨hx, hb, hml, hr, hlk, hown, hts, hK, hA, hcl, hsl⟩ := C
  try subst hq
  intro st L w r w' hf hn H locs ls hP hS hl
  unfold i_lb at hf
  split at hf
  · exact lv_lor hx hb hd (h _ _ _ _ _ hf hn H locs ls hP hS hl)
  · cases hf
theorem Dn_lxor (C : Cx X R cc nL own ret) (hd : decode cc pc = .ok (.lxor, 1)) (hq : pc + 1 = q) (h : Den X R nL q k) : Den X R nL pc (i_lb (fun x y => x ^^^ y) k) := by
  obtain ⟨p, l, e, s, m, args, below, meth, c, G, tg, ad, A, n, cells, slots, Qp⟩ := X
  obtain ⟨hx, hb, hml, hr, hlk, hown, hts, hK, hA, hcl, hsl⟩ := C
  try subst hq
  intro st L w r w' hf hn H locs ls hP hS hl
  unfold i_lb at hf
  split at hf
  · exact lv_lxor hx hb hd (h _ _ _ _ _ hf hn H locs ls hP hS hl)
  · cases hf
theorem Dn_lshl (C : Cx X R cc nL own ret) (hd : decode cc pc = .ok (.lshl, 1)) (hq : pc + 1 = q) (h : Den X R nL q k) : Den X R nL pc (i_ls (fun x y => x <<< (y.toInt64 &&& 63)) k) := by
  obtain ⟨p, l, e, s, m, args, below, meth, c, G, tg, ad, A, n, cells, slots, Qp⟩ := X
  obtain ⟨hx, hb, hml, hr, hlk, hown, hts, hK, hA, hcl, hsl⟩ := C
  try subst hq
  intro st L w r w' hf hn H locs ls hP hS hl
  unfold i_ls at hf
  split at hf
  · exact lv_lshl hx hb hd rfl (h _ _ _ _ _ hf hn H locs ls hP hS hl)
  · cases hf
theorem Dn_lshr (C : Cx X R cc nL own ret) (hd : decode cc pc = .ok (.lshr, 1)) (hq : pc + 1 = q) (h : Den X R nL q k) : Den X R nL pc (i_ls (fun x y => x >>> (y.toInt64 &&& 63)) k) := by
  obtain ⟨p, l, e, s, m, args, below, meth, c, G, tg, ad, A, n, cells, slots, Qp⟩ := X
  obtain ⟨hx, hb, hml, hr, hlk, hown, hts, hK, hA, hcl, hsl⟩ := C
  try subst hq
  intro st L w r w' hf hn H locs ls hP hS hl
  unfold i_ls at hf
  split at hf
  · exact lv_lshr hx hb hd rfl (h _ _ _ _ _ hf hn H locs ls hP hS hl)
  · cases hf
theorem Dn_lushr (C : Cx X R cc nL own ret) (hd : decode cc pc = .ok (.lushr, 1)) (hq : pc + 1 = q) (h : Den X R nL q k) : Den X R nL pc (i_ls (fun x y => (x.toUInt64 >>> (y.toInt64.toUInt64 &&& Int64.toUInt64 63)).toInt64) k) := by
  obtain ⟨p, l, e, s, m, args, below, meth, c, G, tg, ad, A, n, cells, slots, Qp⟩ := X
  obtain ⟨hx, hb, hml, hr, hlk, hown, hts, hK, hA, hcl, hsl⟩ := C
  try subst hq
  intro st L w r w' hf hn H locs ls hP hS hl
  unfold i_ls at hf
  split at hf
  · exact lv_lushr hx hb hd rfl (h _ _ _ _ _ hf hn H locs ls hP hS hl)
  · cases hf
theorem Dn_i2l (C : Cx X R cc nL own ret) (hd : decode cc pc = .ok (.i2l, 1)) (hq : pc + 1 = q) (h : Den X R nL q k) : Den X R nL pc (i_i2l k) := by
  obtain ⟨p, l, e, s, m, args, below, meth, c, G, tg, ad, A, n, cells, slots, Qp⟩ := X
  obtain ⟨hx, hb, hml, hr, hlk, hown, hts, hK, hA, hcl, hsl⟩ := C
  try subst hq
  intro st L w r w' hf hn H locs ls hP hS hl
  unfold i_i2l at hf
  split at hf
  · exact lv_i2l hx hb hd rfl (h _ _ _ _ _ hf hn H locs ls hP hS hl)
  · cases hf
theorem Dn_l2i (C : Cx X R cc nL own ret) (hd : decode cc pc = .ok (.l2i, 1)) (hq : pc + 1 = q) (h : Den X R nL q k) : Den X R nL pc (i_l2i k) := by
  obtain ⟨p, l, e, s, m, args, below, meth, c, G, tg, ad, A, n, cells, slots, Qp⟩ := X
  obtain ⟨hx, hb, hml, hr, hlk, hown, hts, hK, hA, hcl, hsl⟩ := C
  try subst hq
  intro st L w r w' hf hn H locs ls hP hS hl
  unfold i_l2i at hf
  split at hf
  · exact lv_l2i hx hb hd rfl (h _ _ _ _ _ hf hn H locs ls hP hS hl)
  · cases hf
theorem Dn_lcmp (C : Cx X R cc nL own ret) (hd : decode cc pc = .ok (.lcmp, 1)) (hq : pc + 1 = q) (h : Den X R nL q k) : Den X R nL pc (i_lcmp k) := by
  obtain ⟨p, l, e, s, m, args, below, meth, c, G, tg, ad, A, n, cells, slots, Qp⟩ := X
  obtain ⟨hx, hb, hml, hr, hlk, hown, hts, hK, hA, hcl, hsl⟩ := C
  try subst hq
  intro st L w r w' hf hn H locs ls hP hS hl
  unfold i_lcmp at hf
  split at hf
  · exact W.lcmp hx hb hd (h _ _ _ _ _ hf hn H locs ls hP hS hl)
  · cases hf
theorem Dn_idiv (C : Cx X R cc nL own ret) (hd : decode cc pc = .ok (.idiv, 1)) (hq : pc + 1 = q) (h : Den X R nL q k) : Den X R nL pc (i_idiv k) := by
  obtain ⟨p, l, e, s, m, args, below, meth, c, G, tg, ad, A, n, cells, slots, Qp⟩ := X
  obtain ⟨hx, hb, hml, hr, hlk, hown, hts, hK, hA, hcl, hsl⟩ := C
  try subst hq
  intro st L w r w' hf hn H locs ls hP hS hl
  unfold i_idiv at hf
  split at hf
  · split at hf
    · cases hf
    · rename_i hne
      exact lv_idiv hx hb hd hne (h _ _ _ _ _ hf hn H locs ls hP hS hl)
  · cases hf
theorem Dn_irem (C : Cx X R cc nL own ret) (hd : decode cc pc = .ok (.irem, 1)) (hq : pc + 1 = q) (h : Den X R nL q k) : Den X R nL pc (i_irem k) := by
  obtain ⟨p, l, e, s, m, args, below, meth, c, G, tg, ad, A, n, cells, slots, Qp⟩ := X
  obtain ⟨hx, hb, hml, hr, hlk, hown, hts, hK, hA, hcl, hsl⟩ := C
  try subst hq
  intro st L w r w' hf hn H locs ls hP hS hl
  unfold i_irem at hf
  split at hf
  · split at hf
    · cases hf
    · rename_i hne
      exact lv_irem hx hb hd hne (h _ _ _ _ _ hf hn H locs ls hP hS hl)
  · cases hf
theorem Dn_dup (C : Cx X R cc nL own ret) (hd : decode cc pc = .ok (.dup, 1)) (hq : pc + 1 = q) (h : Den X R nL q k) : Den X R nL pc (i_dup k) := by
  obtain ⟨p, l, e, s, m, args, below, meth, c, G, tg, ad, A, n, cells, slots, Qp⟩ := X
  obtain ⟨hx, hb, hml, hr, hlk, hown, hts, hK, hA, hcl, hsl⟩ := C
  try subst hq
  intro st L w r w' hf hn H locs ls hP hS hl
  unfold i_dup at hf
  split at hf
  · exact lv_dup hx hb hd rfl (h _ _ _ _ _ hf hn H locs ls hP hS hl)
  · exact lv_dup hx hb hd rfl (h _ _ _ _ _ hf hn H locs ls hP hS hl)
  · cases hf
theorem Dn_dup2 (C : Cx X R cc nL own ret) (hd : decode cc pc = .ok (.dup2, 1)) (hq : pc + 1 = q) (h : Den X R nL q k) : Den X R nL pc (i_dup2 k) := by
  obtain ⟨p, l, e, s, m, args, below, meth, c, G, tg, ad, A, n, cells, slots, Qp⟩ := X
  obtain ⟨hx, hb, hml, hr, hlk, hown, hts, hK, hA, hcl, hsl⟩ := C
  try subst hq
  intro st L w r w' hf hn H locs ls hP hS hl
  unfold i_dup2 at hf
  split at hf
  · exact lv_dup2_11 hx hb hd rfl rfl (h _ _ _ _ _ hf hn H locs ls hP hS hl)
  · cases hf
theorem Dn_pop (C : Cx X R cc nL own ret) (hd : decode cc pc = .ok (.pop, 1)) (hq : pc + 1 = q) (h : Den X R nL q k) : Den X R nL pc (i_pop k) := by
  obtain ⟨p, l, e, s, m, args, below, meth, c, G, tg, ad, A, n, cells, slots, Qp⟩ := X
  obtain ⟨hx, hb, hml, hr, hlk, hown, hts, hK, hA, hcl, hsl⟩ := C
  try subst hq
  intro st L w r w' hf hn H locs ls hP hS hl
  unfold i_pop at hf
  split at hf
  · exact lv_pop hx hb hd rfl (h _ _ _ _ _ hf hn H locs ls hP hS hl)
  · cases hf
def i_ifeq (kt kf : mK) : mK := fun st L w => match st with
  | .int x :: r => if x = 0 then kt r L w else kf r L w
  | _ => none
def i_iceq (kt kf : mK) : mK := fun st L w => match st with
  | .int y :: .int x :: r => if x = y then kt r L w else kf r L w
  | _ => none
theorem Dn_ifeq {off : Int} {t : Nat} (C : Cx X R cc nL own ret) (hd : decode cc pc = .ok (.ifCond .eq off, 3)) (ht : (pc : Int) + off = (t : Int)) (hq : pc + 3 = q) (h1 : Den X R nL t kt) (h2 : Den X R nL q kf) : Den X R nL pc (i_ifeq kt kf) := by
  obtain ⟨p, l, e, s, m, args, below, meth, c, G, tg, ad, A, n, cells, slots, Qp⟩ := X
  obtain ⟨hx, hb, hml, hr, hlk, hown, hts, hK, hA, hcl, hsl⟩ := C
  try subst hq
  intro st L w r w' hf hn H locs ls hP hS hl
  unfold i_ifeq at hf
  split at hf
  · exact lv_if_eq hx hb hd ht (fun hc => by rw [if_pos hc] at hf; exact h1 _ _ _ _ _ hf hn H locs ls hP hS hl) (fun hc => by rw [if_neg hc] at hf; exact h2 _ _ _ _ _ hf hn H locs ls hP hS hl)
  · cases hf
theorem Dn_iceq {off : Int} {t : Nat} (C : Cx X R cc nL own ret) (hd : decode cc pc = .ok (.if_icmp .eq off, 3)) (ht : (pc : Int) + off = (t : Int)) (hq : pc + 3 = q) (h1 : Den X R nL t kt) (h2 : Den X R nL q kf) : Den X R nL pc (i_iceq kt kf) := by
  obtain ⟨p, l, e, s, m, args, below, meth, c, G, tg, ad, A, n, cells, slots, Qp⟩ := X
  obtain ⟨hx, hb, hml, hr, hlk, hown, hts, hK, hA, hcl, hsl⟩ := C
  try subst hq
  intro st L w r w' hf hn H locs ls hP hS hl
  unfold i_iceq at hf
  split at hf
  · exact lv_icmp_eq hx hb hd ht (fun hc => by rw [if_pos hc] at hf; exact h1 _ _ _ _ _ hf hn H locs ls hP hS hl) (fun hc => by rw [if_neg hc] at hf; exact h2 _ _ _ _ _ hf hn H locs ls hP hS hl)
  · cases hf
def i_ifne (kt kf : mK) : mK := fun st L w => match st with
  | .int x :: r => if x = 0 then kf r L w else kt r L w
  | _ => none
def i_icne (kt kf : mK) : mK := fun st L w => match st with
  | .int y :: .int x :: r => if x = y then kf r L w else kt r L w
  | _ => none
theorem Dn_ifne {off : Int} {t : Nat} (C : Cx X R cc nL own ret) (hd : decode cc pc = .ok (.ifCond .ne off, 3)) (ht : (pc : Int) + off = (t : Int)) (hq : pc + 3 = q) (h1 : Den X R nL t kt) (h2 : Den X R nL q kf) : Den X R nL pc (i_ifne kt kf) := by
  obtain ⟨p, l, e, s, m, args, below, meth, c, G, tg, ad, A, n, cells, slots, Qp⟩ := X
  obtain ⟨hx, hb, hml, hr, hlk, hown, hts, hK, hA, hcl, hsl⟩ := C
  try subst hq
  intro st L w r w' hf hn H locs ls hP hS hl
  unfold i_ifne at hf
  split at hf
  · exact lv_if_ne hx hb hd ht (fun hc => by rw [if_neg hc] at hf; exact h1 _ _ _ _ _ hf hn H locs ls hP hS hl) (fun hc => by rw [if_pos hc] at hf; exact h2 _ _ _ _ _ hf hn H locs ls hP hS hl)
  · cases hf
theorem Dn_icne {off : Int} {t : Nat} (C : Cx X R cc nL own ret) (hd : decode cc pc = .ok (.if_icmp .ne off, 3)) (ht : (pc : Int) + off = (t : Int)) (hq : pc + 3 = q) (h1 : Den X R nL t kt) (h2 : Den X R nL q kf) : Den X R nL pc (i_icne kt kf) := by
  obtain ⟨p, l, e, s, m, args, below, meth, c, G, tg, ad, A, n, cells, slots, Qp⟩ := X
  obtain ⟨hx, hb, hml, hr, hlk, hown, hts, hK, hA, hcl, hsl⟩ := C
  try subst hq
  intro st L w r w' hf hn H locs ls hP hS hl
  unfold i_icne at hf
  split at hf
  · exact lv_icmp_ne hx hb hd ht (fun hc => by rw [if_neg hc] at hf; exact h1 _ _ _ _ _ hf hn H locs ls hP hS hl) (fun hc => by rw [if_pos hc] at hf; exact h2 _ _ _ _ _ hf hn H locs ls hP hS hl)
  · cases hf
def i_iflt (kt kf : mK) : mK := fun st L w => match st with
  | .int x :: r => if x < 0 then kt r L w else kf r L w
  | _ => none
def i_iclt (kt kf : mK) : mK := fun st L w => match st with
  | .int y :: .int x :: r => if x < y then kt r L w else kf r L w
  | _ => none
theorem Dn_iflt {off : Int} {t : Nat} (C : Cx X R cc nL own ret) (hd : decode cc pc = .ok (.ifCond .lt off, 3)) (ht : (pc : Int) + off = (t : Int)) (hq : pc + 3 = q) (h1 : Den X R nL t kt) (h2 : Den X R nL q kf) : Den X R nL pc (i_iflt kt kf) := by
  obtain ⟨p, l, e, s, m, args, below, meth, c, G, tg, ad, A, n, cells, slots, Qp⟩ := X
  obtain ⟨hx, hb, hml, hr, hlk, hown, hts, hK, hA, hcl, hsl⟩ := C
  try subst hq
  intro st L w r w' hf hn H locs ls hP hS hl
  unfold i_iflt at hf
  split at hf
  · exact lv_if_lt hx hb hd ht (fun hc => by rw [if_pos hc] at hf; exact h1 _ _ _ _ _ hf hn H locs ls hP hS hl) (fun hc => by rw [if_neg hc] at hf; exact h2 _ _ _ _ _ hf hn H locs ls hP hS hl)
  · cases hf
theorem Dn_iclt {off : Int} {t : Nat} (C : Cx X R cc nL own ret) (hd : decode cc pc = .ok (.if_icmp .lt off, 3)) (ht : (pc : Int) + off = (t : Int)) (hq : pc + 3 = q) (h1 : Den X R nL t kt) (h2 : Den X R nL q kf) : Den X R nL pc (i_iclt kt kf) := by
  obtain ⟨p, l, e, s, m, args, below, meth, c, G, tg, ad, A, n, cells, slots, Qp⟩ := X
  obtain ⟨hx, hb, hml, hr, hlk, hown, hts, hK, hA, hcl, hsl⟩ := C
  try subst hq
  intro st L w r w' hf hn H locs ls hP hS hl
  unfold i_iclt at hf
  split at hf
  · exact lv_icmp_lt hx hb hd ht (fun hc => by rw [if_pos hc] at hf; exact h1 _ _ _ _ _ hf hn H locs ls hP hS hl) (fun hc => by rw [if_neg hc] at hf; exact h2 _ _ _ _ _ hf hn H locs ls hP hS hl)
  · cases hf
def i_ifge (kt kf : mK) : mK := fun st L w => match st with
  | .int x :: r => if 0 ≤ x then kt r L w else kf r L w
  | _ => none
def i_icge (kt kf : mK) : mK := fun st L w => match st with
  | .int y :: .int x :: r => if y ≤ x then kt r L w else kf r L w
  | _ => none
theorem Dn_ifge {off : Int} {t : Nat} (C : Cx X R cc nL own ret) (hd : decode cc pc = .ok (.ifCond .ge off, 3)) (ht : (pc : Int) + off = (t : Int)) (hq : pc + 3 = q) (h1 : Den X R nL t kt) (h2 : Den X R nL q kf) : Den X R nL pc (i_ifge kt kf) := by
  obtain ⟨p, l, e, s, m, args, below, meth, c, G, tg, ad, A, n, cells, slots, Qp⟩ := X
  obtain ⟨hx, hb, hml, hr, hlk, hown, hts, hK, hA, hcl, hsl⟩ := C
  try subst hq
  intro st L w r w' hf hn H locs ls hP hS hl
  unfold i_ifge at hf
  split at hf
  · exact lv_if_ge hx hb hd ht (fun hc => by rw [if_pos hc] at hf; exact h1 _ _ _ _ _ hf hn H locs ls hP hS hl) (fun hc => by rw [if_neg hc] at hf; exact h2 _ _ _ _ _ hf hn H locs ls hP hS hl)
  · cases hf
theorem Dn_icge {off : Int} {t : Nat} (C : Cx X R cc nL own ret) (hd : decode cc pc = .ok (.if_icmp .ge off, 3)) (ht : (pc : Int) + off = (t : Int)) (hq : pc + 3 = q) (h1 : Den X R nL t kt) (h2 : Den X R nL q kf) : Den X R nL pc (i_icge kt kf) := by
  obtain ⟨p, l, e, s, m, args, below, meth, c, G, tg, ad, A, n, cells, slots, Qp⟩ := X
  obtain ⟨hx, hb, hml, hr, hlk, hown, hts, hK, hA, hcl, hsl⟩ := C
  try subst hq
  intro st L w r w' hf hn H locs ls hP hS hl
  unfold i_icge at hf
  split at hf
  · exact lv_icmp_ge hx hb hd ht (fun hc => by rw [if_pos hc] at hf; exact h1 _ _ _ _ _ hf hn H locs ls hP hS hl) (fun hc => by rw [if_neg hc] at hf; exact h2 _ _ _ _ _ hf hn H locs ls hP hS hl)
  · cases hf
def i_ifgt (kt kf : mK) : mK := fun st L w => match st with
  | .int x :: r => if 0 < x then kt r L w else kf r L w
  | _ => none
def i_icgt (kt kf : mK) : mK := fun st L w => match st with
  | .int y :: .int x :: r => if y < x then kt r L w else kf r L w
  | _ => none
theorem Dn_ifgt {off : Int} {t : Nat} (C : Cx X R cc nL own ret) (hd : decode cc pc = .ok (.ifCond .gt off, 3)) (ht : (pc : Int) + off = (t : Int)) (hq : pc + 3 = q) (h1 : Den X R nL t kt) (h2 : Den X R nL q kf) : Den X R nL pc (i_ifgt kt kf) := by
  obtain ⟨p, l, e, s, m, args, below, meth, c, G, tg, ad, A, n, cells, slots, Qp⟩ := X
  obtain ⟨hx, hb, hml, hr, hlk, hown, hts, hK, hA, hcl, hsl⟩ := C
  try subst hq
  intro st L w r w' hf hn H locs ls hP hS hl
  unfold i_ifgt at hf
  split at hf
  · exact lv_if_gt hx hb hd ht (fun hc => by rw [if_pos hc] at hf; exact h1 _ _ _ _ _ hf hn H locs ls hP hS hl) (fun hc => by rw [if_neg hc] at hf; exact h2 _ _ _ _ _ hf hn H locs ls hP hS hl)
  · cases hf
theorem Dn_icgt {off : Int} {t : Nat} (C : Cx X R cc nL own ret) (hd : decode cc pc = .ok (.if_icmp .gt off, 3)) (ht : (pc : Int) + off = (t : Int)) (hq : pc + 3 = q) (h1 : Den X R nL t kt) (h2 : Den X R nL q kf) : Den X R nL pc (i_icgt kt kf) := by
  obtain ⟨p, l, e, s, m, args, below, meth, c, G, tg, ad, A, n, cells, slots, Qp⟩ := X
  obtain ⟨hx, hb, hml, hr, hlk, hown, hts, hK, hA, hcl, hsl⟩ := C
  try subst hq
  intro st L w r w' hf hn H locs ls hP hS hl
  unfold i_icgt at hf
  split at hf
  · exact lv_icmp_gt hx hb hd ht (fun hc => by rw [if_pos hc] at hf; exact h1 _ _ _ _ _ hf hn H locs ls hP hS hl) (fun hc => by rw [if_neg hc] at hf; exact h2 _ _ _ _ _ hf hn H locs ls hP hS hl)
  · cases hf
def i_ifle (kt kf : mK) : mK := fun st L w => match st with
  | .int x :: r => if x ≤ 0 then kt r L w else kf r L w
  | _ => none
def i_icle (kt kf : mK) : mK := fun st L w => match st with
  | .int y :: .int x :: r => if x ≤ y then kt r L w else kf r L w
  | _ => none
theorem Dn_ifle {off : Int} {t : Nat} (C : Cx X R cc nL own ret) (hd : decode cc pc = .ok (.ifCond .le off, 3)) (ht : (pc : Int) + off = (t : Int)) (hq : pc + 3 = q) (h1 : Den X R nL t kt) (h2 : Den X R nL q kf) : Den X R nL pc (i_ifle kt kf) := by
  obtain ⟨p, l, e, s, m, args, below, meth, c, G, tg, ad, A, n, cells, slots, Qp⟩ := X
  obtain ⟨hx, hb, hml, hr, hlk, hown, hts, hK, hA, hcl, hsl⟩ := C
  try subst hq
  intro st L w r w' hf hn H locs ls hP hS hl
  unfold i_ifle at hf
  split at hf
  · exact lv_if_le hx hb hd ht (fun hc => by rw [if_pos hc] at hf; exact h1 _ _ _ _ _ hf hn H locs ls hP hS hl) (fun hc => by rw [if_neg hc] at hf; exact h2 _ _ _ _ _ hf hn H locs ls hP hS hl)
  · cases hf
theorem Dn_icle {off : Int} {t : Nat} (C : Cx X R cc nL own ret) (hd : decode cc pc = .ok (.if_icmp .le off, 3)) (ht : (pc : Int) + off = (t : Int)) (hq : pc + 3 = q) (h1 : Den X R nL t kt) (h2 : Den X R nL q kf) : Den X R nL pc (i_icle kt kf) := by
  obtain ⟨p, l, e, s, m, args, below, meth, c, G, tg, ad, A, n, cells, slots, Qp⟩ := X
  obtain ⟨hx, hb, hml, hr, hlk, hown, hts, hK, hA, hcl, hsl⟩ := C
  try subst hq
  intro st L w r w' hf hn H locs ls hP hS hl
  unfold i_icle at hf
  split at hf
  · exact lv_icmp_le hx hb hd ht (fun hc => by rw [if_pos hc] at hf; exact h1 _ _ _ _ _ hf hn H locs ls hP hS hl) (fun hc => by rw [if_neg hc] at hf; exact h2 _ _ _ _ _ hf hn H locs ls hP hS hl)
  · cases hf
theorem Dn_goto {off : Int} {t : Nat} (C : Cx X R cc nL own ret) (hd : decode cc pc = .ok (.goto off, 3)) (ht : (pc : Int) + off = (t : Int)) (h : Den X R nL t k) : Den X R nL pc k := by
  obtain ⟨p, l, e, s, m, args, below, meth, c, G, tg, ad, A, n, cells, slots, Qp⟩ := X
  obtain ⟨hx, hb, hml, hr, hlk, hown, hts, hK, hA, hcl, hsl⟩ := C
  try subst hq
  intro st L w r w' hf hn H locs ls hP hS hl
  exact lv_goto hx hb hd ht (h _ _ _ _ _ hf hn H locs ls hP hS hl)
/-- tableswitch from lo on -/
def i_sw (lo hi : Int) (ks : List mK) (kd : mK) : mK := fun st L w => match st with
  | .int x :: r => if x.toInt < lo ∨ hi < x.toInt then kd r L w else (match ks[(x.toInt - lo).toNat]? with | some f => f r L w | none => none)
  | _ => none
theorem Dn_sw {dflt lo hi : Int} {offs : Array Int} {len td : Nat} {ts : List Nat} {ks : List mK} {kd : mK} (C : Cx X R cc nL own ret) (hd : decode cc pc = .ok (.tableswitch dflt lo hi offs, len)) (htd : (pc : Int) + dflt = (td : Int)) (hts : offs.toList.map (fun o => (pc : Int) + o) = ts.map (fun (t : Nat) => (t : Int))) (hlen : ks.length = ts.length) (hkd : Den X R nL td kd) (hks : ∀ (i : Nat) (t : Nat) (f : mK), ts[i]? = some t → ks[i]? = some f → Den X R nL t f) : Den X R nL pc (i_sw lo hi ks kd) := by
  obtain ⟨p, l, e, s, m, args, below, meth, c, G, tg, ad, A, n, cells, slots, Qp⟩ := X
  obtain ⟨hx, hb, hml, hr, hlk, hown, htw, hK, hA, hcl, hsl⟩ := C
  try subst hq
  intro st L w r w' hf hn H locs ls hP hS hl
  unfold i_sw at hf
  split at hf
  · rename_i x rest
    split at hf
    · rename_i hc
      exact lv_tableOut hx hb hd hc htd (hkd _ _ _ _ _ hf hn H locs ls hP hS hl)
    · rename_i hc
      split at hf
      · rename_i f hkf
        have hi' : (offs.toList.map (fun o => (pc : Int) + o))[(x.toInt - lo).toNat]? = (ts.map (fun (t : Nat) => (t : Int)))[(x.toInt - lo).toNat]? := by rw [hts]
        rw [List.getElem?_map, List.getElem?_map] at hi'
        cases ho : offs[(x.toInt - lo).toNat]? with
        | none =>
          exact False.elim (by
            have h1 : offs.toList[(x.toInt - lo).toNat]? = none := by rw [Array.getElem?_toList]; exact ho
            rw [h1] at hi'
            cases hz : ts[(x.toInt - lo).toNat]? with
            | none =>
              have h2 := (List.getElem?_eq_some_iff.mp hkf).1
              have h3 := List.getElem?_eq_none_iff.mp hz
              omega
            | some t => rw [hz] at hi'; cases hi')
        | some off =>
          have h1 : offs.toList[(x.toInt - lo).toNat]? = some off := by rw [Array.getElem?_toList]; exact ho
          rw [h1] at hi'
          cases hz : ts[(x.toInt - lo).toNat]? with
          | none => rw [hz] at hi'; cases hi'
          | some t =>
            rw [hz] at hi'
            exact lv_tableIn hx hb hd (fun z => hc (Or.inl z)) (fun z => hc (Or.inr z)) ho (Option.some.inj hi') (hks _ t f hz hkf _ _ _ _ _ hf hn H locs ls hP hS hl)
      · cases hf
  · cases hf
def i_iret : mK := fun st _ w => match st with
  | [.int v] => some (some (.int v), w)
  | _ => none
theorem Dn_iret (C : Cx X R cc nL own (some .int)) (hX : Rx X) (hd : decode cc pc = .ok (.ireturn, 1)) : Den X R nL pc i_iret := by
  obtain ⟨p, l, e, s, m, args, below, meth, c, G, tg, ad, A, n, cells, slots, Qp⟩ := X
  obtain ⟨hx, hb, hml, hr, hlk, hown, hts, hK, hA, hcl, hsl⟩ := C
  try subst hq
  intro st L w r w' hf hn H locs ls hP hS hl
  obtain ⟨rfl, rfl, rfl⟩ := hX
  unfold i_iret at hf
  split at hf
  · rename_i v
    cases hf
    exact W.iret hx hb hr (fun t ht hW => ⟨rfl, by rw [ht]; exact hP, hn, hS.F ht⟩) hS.2.2 hd hlk
  · cases hf
def i_nret (ty : FieldType) : mK := fun st _ w => match st with
  | [.int v] => if narrow ty (.int v) = .int v then some (some (.int v), w) else none
  | _ => none
theorem Dn_nret {ty : FieldType} (C : Cx X R cc nL own (some ty)) (hX : Rx X) (hd : decode cc pc = .ok (.ireturn, 1)) : Den X R nL pc (i_nret ty) := by
  obtain ⟨p, l, e, s, m, args, below, meth, c, G, tg, ad, A, n, cells, slots, Qp⟩ := X
  obtain ⟨hx, hb, hml, hr, hlk, hown, hts, hK, hA, hcl, hsl⟩ := C
  try subst hq
  intro st L w r w' hf hn H locs ls hP hS hl
  obtain ⟨rfl, rfl, rfl⟩ := hX
  unfold i_nret at hf
  split at hf
  · rename_i v
    split at hf
    · rename_i hnar
      cases hf
      exact W.zret hx hb hr hnar (fun t ht hW => ⟨rfl, by rw [ht]; exact hP, hn, hS.F ht⟩) hS.2.2 hd hlk
    · cases hf
  · cases hf
def i_lret : mK := fun st _ w => match st with
  | [.long v] => some (some (.long v), w)
  | _ => none
theorem Dn_lret (C : Cx X R cc nL own (some .long)) (hX : Rx X) (hd : decode cc pc = .ok (.lreturn, 1)) : Den X R nL pc i_lret := by
  obtain ⟨p, l, e, s, m, args, below, meth, c, G, tg, ad, A, n, cells, slots, Qp⟩ := X
  obtain ⟨hx, hb, hml, hr, hlk, hown, hts, hK, hA, hcl, hsl⟩ := C
  try subst hq
  intro st L w r w' hf hn H locs ls hP hS hl
  obtain ⟨rfl, rfl, rfl⟩ := hX
  unfold i_lret at hf
  split at hf
  · rename_i v
    cases hf
    exact W.lret hx hb hr (fun t ht hW => ⟨rfl, by rw [ht]; exact hP, hn, hS.F ht⟩) hS.2.2 hd hlk
  · cases hf
def i_aret : mK := fun st _ w => match st with
  | [.ref v] => some (some (.ref v), w)
  | _ => none
theorem Dn_aret {nm : String} (C : Cx X R cc nL own (some (.object nm))) (hX : Rx X) (hd : decode cc pc = .ok (.areturn, 1)) : Den X R nL pc i_aret := by
  obtain ⟨p, l, e, s, m, args, below, meth, c, G, tg, ad, A, n, cells, slots, Qp⟩ := X
  obtain ⟨hx, hb, hml, hr, hlk, hown, hts, hK, hA, hcl, hsl⟩ := C
  try subst hq
  intro st L w r w' hf hn H locs ls hP hS hl
  obtain ⟨rfl, rfl, rfl⟩ := hX
  unfold i_aret at hf
  split at hf
  · rename_i v
    cases hf
    exact W.aret hx hb hr (Or.inl ⟨nm, rfl⟩) (Or.inr ⟨_, rfl⟩) (fun t ht hW => ⟨rfl, by rw [ht]; exact hP, hn, hS.F ht⟩) hS.2.2 hd hlk
  · cases hf
def i_vret : mK := fun st _ w => match st with
  | [] => some (none, w)
  | _ => none
theorem Dn_vret (C : Cx X R cc nL own none) (hX : Rx X) (hd : decode cc pc = .ok (.return_, 1)) : Den X R nL pc i_vret := by
  obtain ⟨p, l, e, s, m, args, below, meth, c, G, tg, ad, A, n, cells, slots, Qp⟩ := X
  obtain ⟨hx, hb, hml, hr, hlk, hown, hts, hK, hA, hcl, hsl⟩ := C
  try subst hq
  intro st L w r w' hf hn H locs ls hP hS hl
  obtain ⟨rfl, rfl, rfl⟩ := hX
  unfold i_vret at hf
  split at hf
  · cases hf
    exact W.vret hx hb hr (fun t ht hW => ⟨rfl, by rw [ht]; exact hP, hn, hS.F ht⟩) hS.2.2 hd hlk
  · cases hf
/-- a loop of at most n turns -/
def i_loop (F : mK → mK) : Nat → mK
  | 0 => fun _ _ _ => none
  | n + 1 => F (i_loop F n)
theorem Dn_loop {F : mK → mK} (h : ∀ B, Den X R nL pc B → Den X R nL pc (F B)) : ∀ n, Den X R nL pc (i_loop F n)
  | 0 => Den.none
  | n + 1 => h _ (Dn_loop h n)
def i_get (ci j : Nat) (k : mK) : mK := fun st L w => match st with
  | .ref a :: r => (match w[a]? with
    | some (.inr o) => if o.1 = ci then (match o.2[j]? with | some v => k (v :: r) L w | none => none) else none
    | _ => none)
  | _ => none
theorem Dn_get {ci j ix N : Nat} {T : u_T} {Cn : String} (C : Cx X R cc nL own ret) (hc : vwCl[ci]? = some (Cn, T, N)) (hin : ∀ w ∈ u_ws Cn T N, w ∈ gW) (hj : j < N) (hlink : Cond.fieldLink own ix (T j).1 (T j).2.1 (T j).2.2.1 ∈ gW) (hd : decode cc pc = .ok (.getfield ix, 3)) (hq : pc + 3 = q) (h : Den X R nL q k) : Den X R nL pc (i_get ci j k) := by
  obtain ⟨p, l, e, s, m, args, below, meth, c, G, tg, ad, A, n, cells, slots, Qp⟩ := X
  obtain ⟨hx, hb, hml, hr, hlk, hown, hts, hK, hA, hcl, hsl⟩ := C
  try subst hq
  intro st L w r w' hf hn H locs ls hP hS hl
  unfold i_get at hf
  split at hf
  · rename_i a rest
    split at hf
    · rename_i o hw
      split at hf
      · rename_i ho
        split at hf
        · rename_i v hv
          subst ho
          exact va_get (D := G) (ci := o.1) (v := mv ad v) (fs := o.2.map (mv ad)) hx hb hts hin hown hK.1 hP a (mw_at hw) hc j hj (hts _ hlink) (fun _ h9 => h9) (by rw [List.getElem?_map, hv]; rfl) hd (h _ _ _ _ _ hf hn H locs ls hP hS hl)
        · cases hf
      · cases hf
    · cases hf
  · cases hf
def i_puti (ci j : Nat) (k : mK) : mK := fun st L w => match st with
  | .int x :: .ref a :: r => (match w[a]? with
    | some (.inr o) => if o.1 = ci ∧ j < o.2.length then k r L (w.set a (.inr (o.1, o.2.set j (.int x)))) else none
    | _ => none)
  | _ => none
theorem Dn_puti {ci j ix N : Nat} {T : u_T} {Cn : String} (C : Cx X R cc nL own ret) (hc : vwCl[ci]? = some (Cn, T, N)) (hin : ∀ w ∈ u_ws Cn T N, w ∈ gW) (ty0 : Nat → FieldType) (hty : ∀ k, k < N → parseFieldDescriptor (T k).2.2.1 = some (ty0 k)) (hnm : ∀ a, a < N → ∀ b, b < N → a ≠ b → (T a).2.1 ≠ (T b).2.1) (hj : j < N) (hlink : Cond.fieldLink own ix (T j).1 (T j).2.1 (T j).2.2.1 ∈ gW) (hfin : (T j).2.2.2 = false) (hft : parseFieldDescriptor (T j).2.2.1 = some .int) (hd : decode cc pc = .ok (.putfield ix, 3)) (hq : pc + 3 = q) (h : Den X R nL q k) : Den X R nL pc (i_puti ci j k) := by
  obtain ⟨p, l, e, s, m, args, below, meth, c, G, tg, ad, A, n, cells, slots, Qp⟩ := X
  obtain ⟨hx, hb, hml, hr, hlk, hown, hts, hK, hA, hcl, hsl⟩ := C
  try subst hq
  intro st L w r w' hf hn H locs ls hP hS hl
  unfold i_puti at hf
  split at hf
  · rename_i x a rest
    split at hf
    · rename_i o hw
      split at hf
      · rename_i ho
        obtain ⟨ho, hlt⟩ := ho
        subst ho
        refine va_put (D := G) (ci := o.1) (v := .int x) (ty := .int) (fs := o.2.map (mv ad)) hx hb hts hin ty0 hty hnm hown hK.1 hP (hA.D hn) hS a (mw_at hw) hc j hj (hts _ hlink) (fun _ h9 => h9) hfin hft rfl rfl (by simpa using hlt) hd (fun H1 locs1 hP1 _ hS1 => h _ _ _ _ _ hf (by rw [List.length_set]; exact hn) H1 locs1 ls ?_ hS1 hl)
        rw [← mw_put]
        have e1 : me ad tg (.inr (o.1, o.2.set j (.int x))) = .inr (o.1, (o.2.map (mv ad)).set j (.int x)) := by simp [me, List.map_set, mv]
        rw [e1]
        exact hP1
      · cases hf
    · cases hf
  · cases hf
def i_putl (ci j : Nat) (k : mK) : mK := fun st L w => match st with
  | .long x :: .ref a :: r => (match w[a]? with
    | some (.inr o) => if o.1 = ci ∧ j < o.2.length then k r L (w.set a (.inr (o.1, o.2.set j (.long x)))) else none
    | _ => none)
  | _ => none
theorem Dn_putl {ci j ix N : Nat} {T : u_T} {Cn : String} (C : Cx X R cc nL own ret) (hc : vwCl[ci]? = some (Cn, T, N)) (hin : ∀ w ∈ u_ws Cn T N, w ∈ gW) (ty0 : Nat → FieldType) (hty : ∀ k, k < N → parseFieldDescriptor (T k).2.2.1 = some (ty0 k)) (hnm : ∀ a, a < N → ∀ b, b < N → a ≠ b → (T a).2.1 ≠ (T b).2.1) (hj : j < N) (hlink : Cond.fieldLink own ix (T j).1 (T j).2.1 (T j).2.2.1 ∈ gW) (hfin : (T j).2.2.2 = false) (hft : parseFieldDescriptor (T j).2.2.1 = some .long) (hd : decode cc pc = .ok (.putfield ix, 3)) (hq : pc + 3 = q) (h : Den X R nL q k) : Den X R nL pc (i_putl ci j k) := by
  obtain ⟨p, l, e, s, m, args, below, meth, c, G, tg, ad, A, n, cells, slots, Qp⟩ := X
  obtain ⟨hx, hb, hml, hr, hlk, hown, hts, hK, hA, hcl, hsl⟩ := C
  try subst hq
  intro st L w r w' hf hn H locs ls hP hS hl
  unfold i_putl at hf
  split at hf
  · rename_i x a rest
    split at hf
    · rename_i o hw
      split at hf
      · rename_i ho
        obtain ⟨ho, hlt⟩ := ho
        subst ho
        refine va_put (D := G) (ci := o.1) (v := .long x) (ty := .long) (fs := o.2.map (mv ad)) hx hb hts hin ty0 hty hnm hown hK.1 hP (hA.D hn) hS a (mw_at hw) hc j hj (hts _ hlink) (fun _ h9 => h9) hfin hft rfl rfl (by simpa using hlt) hd (fun H1 locs1 hP1 _ hS1 => h _ _ _ _ _ hf (by rw [List.length_set]; exact hn) H1 locs1 ls ?_ hS1 hl)
        rw [← mw_put]
        have e1 : me ad tg (.inr (o.1, o.2.set j (.long x))) = .inr (o.1, (o.2.map (mv ad)).set j (.long x)) := by simp [me, List.map_set, mv]
        rw [e1]
        exact hP1
      · cases hf
    · cases hf
  · cases hf
def i_iald (k : mK) : mK := fun st L w => match st with
  | .int i :: .ref a :: r => (match w[a]? with
    | some (.inl (c, n, .inl f)) => if c = 0 ∧ 0 ≤ i.toInt ∧ i.toInt < n then k (.int (f i.toNatClampNeg) :: r) L w else none
    | _ => none)
  | _ => none
theorem Dn_iald (C : Cx X R cc nL own ret) (hd : decode cc pc = .ok (.iaload, 1)) (hq : pc + 1 = q) (h : Den X R nL q k) : Den X R nL pc (i_iald k) := by
  obtain ⟨p, l, e, s, m, args, below, meth, c, G, tg, ad, A, n, cells, slots, Qp⟩ := X
  obtain ⟨hx, hb, hml, hr, hlk, hown, hts, hK, hA, hcl, hsl⟩ := C
  try subst hq
  intro st L w r w' hf hn H locs ls hP hS hl
  unfold i_iald at hf
  split at hf
  · rename_i i a rest
    split at hf
    · rename_i c0 n0 f hw
      split at hf
      · rename_i ho
        obtain ⟨ho, h1, h2⟩ := ho
        subst ho
        exact va_iald hx hb hK.1 hP a 0 (mw_at hw) rfl (vp_in_iff.mpr ⟨h1, h2⟩) hd (h _ _ _ _ _ hf hn H locs ls hP hS hl)
      · cases hf
    · cases hf
  · cases hf
def i_zald (k : mK) : mK := fun st L w => match st with
  | .int i :: .ref a :: r => (match w[a]? with
    | some (.inl (c, n, .inl f)) => if c = 2 ∧ 0 ≤ i.toInt ∧ i.toInt < n then k (.int (f i.toNatClampNeg) :: r) L w else none
    | _ => none)
  | _ => none
theorem Dn_zald (C : Cx X R cc nL own ret) (hd : decode cc pc = .ok (.baload, 1)) (hq : pc + 1 = q) (h : Den X R nL q k) : Den X R nL pc (i_zald k) := by
  obtain ⟨p, l, e, s, m, args, below, meth, c, G, tg, ad, A, n, cells, slots, Qp⟩ := X
  obtain ⟨hx, hb, hml, hr, hlk, hown, hts, hK, hA, hcl, hsl⟩ := C
  try subst hq
  intro st L w r w' hf hn H locs ls hP hS hl
  unfold i_zald at hf
  split at hf
  · rename_i i a rest
    split at hf
    · rename_i c0 n0 f hw
      split at hf
      · rename_i ho
        obtain ⟨ho, h1, h2⟩ := ho
        subst ho
        exact va_zald hx hb hK.1 hP a 2 (mw_at hw) rfl (vp_in_iff.mpr ⟨h1, h2⟩) hd (h _ _ _ _ _ hf hn H locs ls hP hS hl)
      · cases hf
    · cases hf
  · cases hf
def i_lald (k : mK) : mK := fun st L w => match st with
  | .int i :: .ref a :: r => (match w[a]? with
    | some (.inl (c, n, .inr (.inl f))) => if c = 1 ∧ 0 ≤ i.toInt ∧ i.toInt < n then k (.long (f i.toNatClampNeg) :: r) L w else none
    | _ => none)
  | _ => none
theorem Dn_lald (C : Cx X R cc nL own ret) (hd : decode cc pc = .ok (.laload, 1)) (hq : pc + 1 = q) (h : Den X R nL q k) : Den X R nL pc (i_lald k) := by
  obtain ⟨p, l, e, s, m, args, below, meth, c, G, tg, ad, A, n, cells, slots, Qp⟩ := X
  obtain ⟨hx, hb, hml, hr, hlk, hown, hts, hK, hA, hcl, hsl⟩ := C
  try subst hq
  intro st L w r w' hf hn H locs ls hP hS hl
  unfold i_lald at hf
  split at hf
  · rename_i i a rest
    split at hf
    · rename_i c0 n0 f hw
      split at hf
      · rename_i ho
        obtain ⟨ho, h1, h2⟩ := ho
        subst ho
        exact va_lald hx hb hK.1 hP a 1 (mw_at hw) rfl (vp_in_iff.mpr ⟨h1, h2⟩) hd (h _ _ _ _ _ hf hn H locs ls hP hS hl)
      · cases hf
    · cases hf
  · cases hf
def i_iast (k : mK) : mK := fun st L w => match st with
  | .int x :: .int i :: .ref a :: r => (match w[a]? with
    | some (.inl (c, n, .inl f)) => if c = 0 ∧ 0 ≤ i.toInt ∧ i.toInt < n then k r L (w.set a (.inl (c, n, .inl (upd f i.toNatClampNeg x)))) else none
    | _ => none)
  | _ => none
theorem Dn_iast (C : Cx X R cc nL own ret) (hd : decode cc pc = .ok (.iastore, 1)) (hq : pc + 1 = q) (h : Den X R nL q k) : Den X R nL pc (i_iast k) := by
  obtain ⟨p, l, e, s, m, args, below, meth, c, G, tg, ad, A, n, cells, slots, Qp⟩ := X
  obtain ⟨hx, hb, hml, hr, hlk, hown, hts, hK, hA, hcl, hsl⟩ := C
  try subst hq
  intro st L w r w' hf hn H locs ls hP hS hl
  unfold i_iast at hf
  split at hf
  · rename_i x i a rest
    split at hf
    · rename_i c0 n0 f hw
      split at hf
      · rename_i ho
        obtain ⟨ho, h1, h2⟩ := ho
        subst ho
        refine va_iast hx hb hK.1 hP (hA.D hn) hS a 0 (mw_at hw) rfl (vp_in_iff.mpr ⟨h1, h2⟩) hd (fun H1 locs1 hP1 _ hS1 => h _ _ _ _ _ hf (by rw [List.length_set]; exact hn) H1 locs1 ls ?_ hS1 hl)
        rw [← mw_put]
        exact hP1
      · cases hf
    · cases hf
  · cases hf
def i_zast (k : mK) : mK := fun st L w => match st with
  | .int x :: .int i :: .ref a :: r => (match w[a]? with
    | some (.inl (c, n, .inl f)) => if c = 2 ∧ 0 ≤ i.toInt ∧ i.toInt < n then k r L (w.set a (.inl (c, n, .inl (upd f i.toNatClampNeg (vp_nar .boolean x))))) else none
    | _ => none)
  | _ => none
theorem Dn_zast (C : Cx X R cc nL own ret) (hd : decode cc pc = .ok (.bastore, 1)) (hq : pc + 1 = q) (h : Den X R nL q k) : Den X R nL pc (i_zast k) := by
  obtain ⟨p, l, e, s, m, args, below, meth, c, G, tg, ad, A, n, cells, slots, Qp⟩ := X
  obtain ⟨hx, hb, hml, hr, hlk, hown, hts, hK, hA, hcl, hsl⟩ := C
  try subst hq
  intro st L w r w' hf hn H locs ls hP hS hl
  unfold i_zast at hf
  split at hf
  · rename_i x i a rest
    split at hf
    · rename_i c0 n0 f hw
      split at hf
      · rename_i ho
        obtain ⟨ho, h1, h2⟩ := ho
        subst ho
        refine va_zast hx hb hK.1 hP (hA.D hn) hS a 2 (mw_at hw) rfl (vp_in_iff.mpr ⟨h1, h2⟩) hd (fun H1 locs1 hP1 _ hS1 => h _ _ _ _ _ hf (by rw [List.length_set]; exact hn) H1 locs1 ls ?_ hS1 hl)
        rw [← mw_put]
        exact hP1
      · cases hf
    · cases hf
  · cases hf
def i_last (k : mK) : mK := fun st L w => match st with
  | .long x :: .int i :: .ref a :: r => (match w[a]? with
    | some (.inl (c, n, .inr (.inl f))) => if c = 1 ∧ 0 ≤ i.toInt ∧ i.toInt < n then k r L (w.set a (.inl (c, n, .inr (.inl (vp_updL f i.toNatClampNeg x))))) else none
    | _ => none)
  | _ => none
theorem Dn_last (C : Cx X R cc nL own ret) (hd : decode cc pc = .ok (.lastore, 1)) (hq : pc + 1 = q) (h : Den X R nL q k) : Den X R nL pc (i_last k) := by
  obtain ⟨p, l, e, s, m, args, below, meth, c, G, tg, ad, A, n, cells, slots, Qp⟩ := X
  obtain ⟨hx, hb, hml, hr, hlk, hown, hts, hK, hA, hcl, hsl⟩ := C
  try subst hq
  intro st L w r w' hf hn H locs ls hP hS hl
  unfold i_last at hf
  split at hf
  · rename_i x i a rest
    split at hf
    · rename_i c0 n0 f hw
      split at hf
      · rename_i ho
        obtain ⟨ho, h1, h2⟩ := ho
        subst ho
        refine va_last hx hb hK.1 hP (hA.D hn) hS a 1 (mw_at hw) rfl (vp_in_iff.mpr ⟨h1, h2⟩) hd (fun H1 locs1 hP1 _ hS1 => h _ _ _ _ _ hf (by rw [List.length_set]; exact hn) H1 locs1 ls ?_ hS1 hl)
        rw [← mw_put]
        exact hP1
      · cases hf
    · cases hf
  · cases hf
def i_alen (k : mK) : mK := fun st L w => match st with
  | .ref a :: r => (match w[a]? with
    | some (.inl (c, x)) => if c = 0 then k (.int (Int32.ofNat x.1) :: r) L w else none
    | _ => none)
  | _ => none
theorem Dn_alen (C : Cx X R cc nL own ret) (hd : decode cc pc = .ok (.arraylength, 1)) (hq : pc + 1 = q) (h : Den X R nL q k) : Den X R nL pc (i_alen k) := by
  obtain ⟨p, l, e, s, m, args, below, meth, c, G, tg, ad, A, n, cells, slots, Qp⟩ := X
  obtain ⟨hx, hb, hml, hr, hlk, hown, hts, hK, hA, hcl, hsl⟩ := C
  try subst hq
  intro st L w r w' hf hn H locs ls hP hS hl
  unfold i_alen at hf
  split at hf
  · rename_i a rest
    split at hf
    · rename_i c0 x0 hw
      split at hf
      · rename_i ho
        subst ho
        exact va_alen hx hb hK.1 hP a 0 (mw_at hw) rfl rfl hd (h _ _ _ _ _ hf hn H locs ls hP hS hl)
      · cases hf
    · cases hf
  · cases hf
/-- arraycopy of ints -/
def i_copy (k : mK) : mK := fun st L w => match st with
  | .int n :: .int dp :: .ref b :: .int sp :: .ref a :: r => (match w[a]?, w[b]? with
    | some (.inl (c0, n0, .inl f)), some (.inl (c1, n1, .inl g)) => if c0 = 0 ∧ c1 = 0 ∧ ¬ sp < 0 ∧ ¬ dp < 0 ∧ ¬ n < 0 ∧ sp.toNatClampNeg + n.toNatClampNeg ≤ n0 ∧ dp.toNatClampNeg + n.toNatClampNeg ≤ n1 ∧ r.length ≤ 4 then k r L (w.set b (.inl (c1, n1, .inl (va_cpy f g sp.toNatClampNeg dp.toNatClampNeg n.toNatClampNeg)))) else none
    | _, _ => none)
  | _ => none
theorem mv_room (ad : Nat → Nat) : ∀ {r : List Value} {n : Nat}, r.length ≤ n → ((r.map (mv ad)).map fun v => v.category).sum ≤ 2 * n
  | [], n, _ => by simp
  | v :: t, n, h => by
    have h1 : t.length ≤ n - 1 := by simp at h; omega
    have h2 : 1 ≤ n := by simp at h; omega
    have h3 := mv_room ad h1
    have h4 : (mv ad v).category ≤ 2 := by rcases lv_cat (mv ad v) with z | z <;> omega
    simp only [List.map_cons, List.sum_cons]
    omega
theorem Dn_copy {ix : Nat} (C : Cx X R cc nL own ret) (hlink : Cond.methodLink own ix arraycopyName ∈ gW) (hnat : Cond.native arraycopyName ∈ gW) (hstat : Cond.static arraycopyName ∈ gW) (hini : Cond.initialized "java/lang/System" ∈ gW) (hfr : 1 ≤ R.frames) (hlo : 8 + (nativeFrameWords "java/lang/System" "arraycopy" 5 + 11) ≤ R.locals) (hd : decode cc pc = .ok (.invokestatic ix, 3)) (hq : pc + 3 = q) (h : Den X R nL q k) : Den X R nL pc (i_copy k) := by
  obtain ⟨p, l, e, s, m, args, below, meth, c, G, tg, ad, A, n, cells, slots, Qp⟩ := X
  obtain ⟨hx, hb, hml, hr, hlk, hown, hts, hK, hA, hcl, hsl⟩ := C
  try subst hq
  intro st L w r w' hf hn H locs ls hP hS hl
  unfold i_copy at hf
  split at hf
  · rename_i z dp b sp a rest
    split at hf
    · rename_i c0 n0 f c1 n1 g hw0 hw1
      split at hf
      · rename_i ho
        obtain ⟨e0, e1, h1, h2, h3, h4, h5, h6⟩ := ho
        subst e0; subst e1
        have hrm := mv_room ad h6
        refine va_copyi hx hb (by rw [hml]; exact hl.1.symm) hown (hts _ hlink) (hts _ hnat) (hts _ hstat) (hts _ hini) hK.1 hP (hA.D hn) hS a b 0 0 (mw_at hw0) (mw_at hw1) (ty := .int) rfl rfl rfl h1 h2 h3 h4 h5 (fun _ _ => rfl) hfr (by omega) hd (fun H1 locs1 hP1 _ hS1 => h _ _ _ _ _ hf (by rw [List.length_set]; exact hn) H1 locs1 ls ?_ hS1 hl)
        rw [← mw_put]
        exact hP1
      · cases hf
    · cases hf
  · cases hf
end DEN
section DCALL
variable {p : Program} {l : Launch} {e : Env} {R : Room} {s : State} {m : MethodId} {args : Array Value} {below : List Frame} {meth : Method} {c : Code} {H : Heap} {locs : List Loc} {cells slots : Nat} {Q : State → Prop} {G : va_G} {tg : Nat → ClassId} {ad : Nat → Nat} {A : Nat → Prop} {n : Nat}
theorem run_go {pc : Nat} {ls : Array Slot} {st0 rest : List Value} {r : Option Value} {w' : List va_E} {a : Array Value} (hr : va_Run p l e R s m args below meth c H locs cells slots 0 0 (F0 m pc ls st0) rest (mQ G tg ad A n r w' a) A) (hS : va_S A s.heap H locs)
    (kk : ∀ (H1 : Heap) (locs1 : List Loc), va_P G vwCl (mw ad tg 0 w') H1 → w'.length = n → va_S A s.heap H1 locs1 → W p l e R s m args below meth c H1 locs1 cells slots Q (F0 m (pc + 3) ls ((r.map (mv ad)).toList ++ rest))) : W p l e R s m args below meth c H locs cells slots Q (F0 m pc ls st0) := by
  intro T hT X
  obtain ⟨v, st₀, t, T', L, h0, X', hL, e1, e2, ⟨hv, hp, hn, hz, hk⟩, st⟩ := hr T hT X
  cases hv
  rw [h0] at hz hk
  obtain ⟨t2, a1, b1⟩ := kk T'.heap (locs ++ L) (by rw [e1]; exact hp) hn
    ⟨Nat.le_trans hS.1 (by rw [e1]; exact hz), fun q h1 h2 => by rw [e1, hk q (Nat.lt_of_lt_of_le h1 hS.1) h2]; exact hS.2.1 q h1 h2, fun q hq => by
      rcases List.mem_append.mp hq with h | h
      · exact hS.2.2 q h
      · exact hL q h⟩ T' rfl X'
  exact ⟨t2, st t2 a1, b1⟩
theorem pre_S {w : List va_E} {av : List Value} (hK : mKn G tg ad A s) (hS : va_S A s.heap H locs) (hP : va_P G vwCl (mw ad tg 0 w) H) : PreS s H (mPc G tg ad A av w) (av.map (mv ad)) :=
  ⟨fun _ _ _ _ h => ⟨h.1, h.2.1, h.2.2.calling⟩, fun U hU hW => ⟨rfl, by rw [hU]; exact hP, hK.to hW (fun a h1 h2 => by rw [hU]; exact hS.2.1 a h1 h2)⟩⟩
end DCALL
section DEN2
variable {X : mC} {R : Room} {cc : ByteArray} {nL : Nat} {own : String} {ret : Option FieldType} {pc q : Nat} {k kt kf : mK}
/-- a call of F with ar words from the stack, the last argument on top -/
def i_call (ar : Nat) (F : mF) (k : mK) : mK := fun st L w => if ar ≤ st.length ∧ st.length ≤ ar + 4 then (match F (st.take ar).reverse w with
  | some (some v, w') => k (v :: st.drop ar) L w'
  | some (none, w') => k (st.drop ar) L w'
  | none => none) else none
theorem Dn_callS {ix ar : Nat} {y : MethodName} {cy : ByteArray} {ny : Nat} {ry : Option FieldType} {rm : Room} {F : mF} (C : Cx X R cc nL own ret) (hM : Ct X.l X.G X.tg y cy ny ry rm F) (hcode : Cond.code y cy ny ry ∈ gW) (hlink : Cond.methodLink own ix y ∈ gW) (hstat : Cond.static y ∈ gW) (hini : Cond.initialized y.cls ∈ gW) (hrc : rm.cells = 0 ∧ rm.slots = 0)
    (hd0 : y.cls ≠ "java/lang/invoke/MethodHandle" ∧ y.cls ≠ "java/lang/invoke/VarHandle" ∧ (parseMethodDescriptor y.desc).map (fun d => d.parameters.length) = some ar) (hR : rm.frames + 1 ≤ R.frames ∧ 8 + (ny + 11) + rm.locals ≤ R.locals) (hd : decode cc pc = .ok (.invokestatic ix, 3)) (hq : pc + 3 = q) (h : Den X R nL q k) : Den X R nL pc (i_call ar F k) := by
  obtain ⟨p, l, e, s, m, args, below, meth, c, G, tg, ad, A, n, cells, slots, Qp⟩ := X
  obtain ⟨hx, hb, hml, hr, hlk, hown, hts, hK, hA, hcl, hsl⟩ := C
  try subst hq
  intro st L w r w' hf hn H locs ls hP hS hl
  unfold i_call at hf
  split at hf
  · rename_i har
    have hrm := mv_room ad (r := st.drop ar) (n := 4) (by simp; omega)
    have hlen : ((st.take ar).reverse.map (mv ad)).length = ar := by simp; omega
    have hstk : st.map (mv ad) = ((st.take ar).reverse.map (mv ad)).reverse ++ (st.drop ar).map (mv ad) := by
      rw [← List.map_reverse, List.reverse_reverse, ← List.map_append, List.take_append_drop]
    split at hf
    · rename_i v w1 hF
      exact run_go (va_runS (As := (st.take ar).reverse.map (mv ad)) (rest := (st.drop ar).map (mv ad)) ⟨hx, hb, hml, hown, hts⟩ (hM ad A n hA _ _ _ _ hF hn) ⟨callB_of ar hts (gW_goodIn hcode) rfl hrc.1 hrc.2 (hts _ hini) (hts _ hlink) hd0 hR, hts _ hstat⟩ (pre_S hK hS hP) rfl hlen hl.1 hstk (lv_room (by omega)) hd ⟨by omega, by omega⟩) hS (fun H1 locs1 hP1 hn1 hS1 => h _ _ _ _ _ hf hn1 H1 locs1 ls hP1 hS1 hl)
    · rename_i w1 hF
      exact run_go (va_runS (As := (st.take ar).reverse.map (mv ad)) (rest := (st.drop ar).map (mv ad)) ⟨hx, hb, hml, hown, hts⟩ (hM ad A n hA _ _ _ _ hF hn) ⟨callB_of ar hts (gW_goodIn hcode) rfl hrc.1 hrc.2 (hts _ hini) (hts _ hlink) hd0 hR, hts _ hstat⟩ (pre_S hK hS hP) rfl hlen hl.1 hstk (lv_room (by omega)) hd ⟨by omega, by omega⟩) hS (fun H1 locs1 hP1 hn1 hS1 => h _ _ _ _ _ hf hn1 H1 locs1 ls hP1 hS1 hl)
    · cases hf
  · cases hf
theorem Dn_callSN {ix ar : Nat} {host : String} {y : MethodName} {cy : ByteArray} {ny : Nat} {ry : Option FieldType} {rm : Room} {F : mF} (C : Cx X R cc nL own ret) (hM : Ct X.l X.G X.tg y cy ny ry rm F) (hcode : Cond.code y cy ny ry ∈ gW) (hlink : (own, ix, y, host) ∈ nW) (hstat : Cond.static y ∈ gW) (hini : Cond.initialized y.cls ∈ gW) (hrc : rm.cells = 0 ∧ rm.slots = 0)
    (hd0 : y.cls ≠ "java/lang/invoke/MethodHandle" ∧ y.cls ≠ "java/lang/invoke/VarHandle" ∧ (parseMethodDescriptor y.desc).map (fun d => d.parameters.length) = some ar) (hR : rm.frames + 1 ≤ R.frames ∧ 8 + (ny + 11) + rm.locals ≤ R.locals) (hd : decode cc pc = .ok (.invokestatic ix, 3)) (hq : pc + 3 = q) (h : Den X R nL q k) : Den X R nL pc (i_call ar F k) := by
  obtain ⟨p, l, e, s, m, args, below, meth, c, G, tg, ad, A, n, cells, slots, Qp⟩ := X
  obtain ⟨hx, hb, hml, hr, hlk, hown, hts, hK, hA, hcl, hsl⟩ := C
  try subst hq
  intro st L w r w' hf hn H locs ls hP hS hl
  unfold i_call at hf
  split at hf
  · rename_i har
    have hrm := mv_room ad (r := st.drop ar) (n := 4) (by simp; omega)
    have hlen : ((st.take ar).reverse.map (mv ad)).length = ar := by simp; omega
    have hstk : st.map (mv ad) = ((st.take ar).reverse.map (mv ad)).reverse ++ (st.drop ar).map (mv ad) := by
      rw [← List.map_reverse, List.reverse_reverse, ← List.map_append, List.take_append_drop]
    split at hf
    · rename_i v w1 hF
      exact run_go (va_runSN (As := (st.take ar).reverse.map (mv ad)) (rest := (st.drop ar).map (mv ad)) ⟨hx, hb, hml, hown, hts⟩ (hM ad A n hA _ _ _ _ hF hn) ⟨va_cnB ar hts (gW_goodIn hcode) rfl hrc.1 hrc.2 (hK.2.1 _ hlink) (hts _ hini) hd0 hR, hts _ hstat, trivial⟩ (pre_S hK hS hP) rfl hlen hl.1 hstk (lv_room (by omega)) hd ⟨by omega, by omega⟩) hS (fun H1 locs1 hP1 hn1 hS1 => h _ _ _ _ _ hf hn1 H1 locs1 ls hP1 hS1 hl)
    · rename_i w1 hF
      exact run_go (va_runSN (As := (st.take ar).reverse.map (mv ad)) (rest := (st.drop ar).map (mv ad)) ⟨hx, hb, hml, hown, hts⟩ (hM ad A n hA _ _ _ _ hF hn) ⟨va_cnB ar hts (gW_goodIn hcode) rfl hrc.1 hrc.2 (hK.2.1 _ hlink) (hts _ hini) hd0 hR, hts _ hstat, trivial⟩ (pre_S hK hS hP) rfl hlen hl.1 hstk (lv_room (by omega)) hd ⟨by omega, by omega⟩) hS (fun H1 locs1 hP1 hn1 hS1 => h _ _ _ _ _ hf hn1 H1 locs1 ls hP1 hS1 hl)
    · cases hf
  · cases hf
/-- a call on a receiver of the class numbered ci, with ar arguments behind it -/
def i_callV (ci ar : Nat) (F : mF) (k : mK) : mK := fun st L w => match st[ar]? with
  | some (.ref b) => (match w[b]? with
    | some (.inr o) => if o.1 = ci then i_call (ar + 1) F k st L w else none
    | _ => none)
  | _ => none
theorem Dn_callV {ix ar ci N : Nat} {T : u_T} {y : MethodName} {cy : ByteArray} {ny : Nat} {ry : Option FieldType} {rm : Room} {F : mF} (C : Cx X R cc nL own ret) (hc : vwCl[ci]? = some (y.cls, T, N)) (hM : Ct X.l X.G X.tg y cy ny ry rm F) (hcode : Cond.code y cy ny ry ∈ gW) (hlink : Cond.methodLink own ix y ∈ gW) (hinst : Cond.instanceMethod y ∈ gW) (hsel : Cond.selects y.cls y y ∈ gW) (hini : Cond.initialized y.cls ∈ gW) (hrc : rm.cells = 0 ∧ rm.slots = 0)
    (hd0 : y.cls ≠ "java/lang/invoke/MethodHandle" ∧ y.cls ≠ "java/lang/invoke/VarHandle" ∧ (parseMethodDescriptor y.desc).map (fun d => d.parameters.length) = some ar) (hR : rm.frames + 1 ≤ R.frames ∧ 8 + (ny + 11) + rm.locals ≤ R.locals) (hd : decode cc pc = .ok (.invokevirtual ix, 3)) (hq : pc + 3 = q) (h : Den X R nL q k) : Den X R nL pc (i_callV ci ar F k) := by
  obtain ⟨p, l, e, s, m, args, below, meth, c, G, tg, ad, A, n, cells, slots, Qp⟩ := X
  obtain ⟨hx, hb, hml, hr, hlk, hown, hts, hK, hA, hcl, hsl⟩ := C
  try subst hq
  intro st L w r w' hf hn H locs ls hP hS hl
  unfold i_callV at hf
  split at hf
  · rename_i b hst
    split at hf
    · rename_i o hw
      split at hf
      · rename_i ho
        subst ho
        unfold i_call at hf
        split at hf
        · rename_i har
          have hrm := mv_room ad (r := st.drop (ar + 1)) (n := 4) (by simp; omega)
          have htk : st.take (ar + 1) = st.take ar ++ [.ref b] := by
            rw [List.take_add_one, hst]; rfl
          have hrv : (st.take (ar + 1)).reverse = .ref b :: (st.take ar).reverse := by rw [htk]; simp
          have hlen : ((st.take ar).reverse.map (mv ad)).length = ar := by simp; omega
          have hstk : st.map (mv ad) = ((st.take ar).reverse.map (mv ad)).reverse ++ .ref (ad b) :: (st.drop (ar + 1)).map (mv ad) := by
            rw [← List.map_reverse, List.reverse_reverse]
            have e1 : Value.ref (ad b) :: (st.drop (ar + 1)).map (mv ad) = [Value.ref b].map (mv ad) ++ (st.drop (ar + 1)).map (mv ad) := rfl
            rw [e1, ← List.append_assoc, ← List.map_append, ← htk, ← List.map_append, List.take_append_drop]
          have hpre : PreV s H y.cls (ad b) (mPc G tg ad A (st.take (ar + 1)).reverse w) ((st.take ar).reverse.map (mv ad)) := by
            have h1 := pre_S (av := (st.take (ar + 1)).reverse) hK hS hP
            refine ⟨h1.1, va_recv hK.1 hP hc (q0 := b) (fs := o.2.map (mv ad)) (mw_at hw), fun U hU hW => ?_⟩
            have h2 := h1.2 U hU hW
            rw [hrv] at h2 ⊢
            exact h2
          have hcw : CallW R s args own y.cls ix y cy ny ry (.code y cy ny ry :: gW) rm 0 0 ar := ⟨callB_of ar hts (gW_goodIn hcode) rfl hrc.1 hrc.2 (hts _ hini) (hts _ hlink) hd0 hR, hts _ hinst, hts _ hsel⟩
          split at hf
          · rename_i v w1 hF
            exact run_go (va_runV (As := (st.take ar).reverse.map (mv ad)) (rest := (st.drop (ar + 1)).map (mv ad)) ⟨hx, hb, hml, hown, hts⟩ (hM ad A n hA _ _ _ _ hF hn) hcw hpre rfl hlen hl.1 hstk (lv_room (by omega)) hd ⟨by omega, by omega⟩) hS (fun H1 locs1 hP1 hn1 hS1 => h _ _ _ _ _ hf hn1 H1 locs1 ls hP1 hS1 hl)
          · rename_i w1 hF
            exact run_go (va_runV (As := (st.take ar).reverse.map (mv ad)) (rest := (st.drop (ar + 1)).map (mv ad)) ⟨hx, hb, hml, hown, hts⟩ (hM ad A n hA _ _ _ _ hF hn) hcw hpre rfl hlen hl.1 hstk (lv_room (by omega)) hd ⟨by omega, by omega⟩) hS (fun H1 locs1 hP1 hn1 hS1 => h _ _ _ _ _ hf hn1 H1 locs1 ls hP1 hS1 hl)
          · cases hf
        · cases hf
      · cases hf
    · cases hf
  · cases hf
/-! the constants -/
theorem Dn_num {ix : Nat} (C : Cx X R cc nL own ret) (hlink : Cond.fieldLink own ix "FlutePark$Reader" "NUMBERS" "[I" ∈ gW) (hd : decode cc pc = .ok (.getstatic ix, 3)) (hq : pc + 3 = q) (h : Den X R nL q k) : Den X R nL pc (i_push (.ref 2000) k) := by
  obtain ⟨p, l, e, s, m, args, below, meth, c, G, tg, ad, A, n, cells, slots, Qp⟩ := X
  obtain ⟨hx, hb, hml, hr, hlk, hown, hts, hK, hA, hcl, hsl⟩ := C
  try subst hq
  intro st L w r w' hf hn H locs ls hP hS hl
  exact va_gets hx hb hK.2.2.1 hS hown (hts _ hlink) (fun _ h9 => h9) hd (h _ _ _ _ _ hf hn H locs ls hP hS hl)
def i_nald (k : mK) : mK := fun st L w => match st with
  | .int i :: .ref a :: r => if a = 2000 ∧ 0 ≤ i.toInt ∧ i.toInt < 12 then k (.int (nT.getD i.toNatClampNeg 0) :: r) L w else none
  | _ => none
theorem Dn_nald (C : Cx X R cc nL own ret) (hd : decode cc pc = .ok (.iaload, 1)) (hq : pc + 1 = q) (h : Den X R nL q k) : Den X R nL pc (i_nald k) := by
  obtain ⟨p, l, e, s, m, args, below, meth, c, G, tg, ad, A, n, cells, slots, Qp⟩ := X
  obtain ⟨hx, hb, hml, hr, hlk, hown, hts, hK, hA, hcl, hsl⟩ := C
  try subst hq
  intro st L w r w' hf hn H locs ls hP hS hl
  unfold i_nald at hf
  split at hf
  · split at hf
    · rename_i ho
      obtain ⟨ho, h1, h2⟩ := ho
      subst ho
      exact va_ti hx hb hK.2.2.2.1 hS (vp_in_iff.mpr ⟨h1, h2⟩) rfl hd (h _ _ _ _ _ hf hn H locs ls hP hS hl)
    · cases hf
  · cases hf
def i_nlen (k : mK) : mK := fun st L w => match st with
  | .ref a :: r => if a = 2000 then k (.int 12 :: r) L w else none
  | _ => none
theorem Dn_nlen (C : Cx X R cc nL own ret) (hd : decode cc pc = .ok (.arraylength, 1)) (hq : pc + 1 = q) (h : Den X R nL q k) : Den X R nL pc (i_nlen k) := by
  obtain ⟨p, l, e, s, m, args, below, meth, c, G, tg, ad, A, n, cells, slots, Qp⟩ := X
  obtain ⟨hx, hb, hml, hr, hlk, hown, hts, hK, hA, hcl, hsl⟩ := C
  try subst hq
  intro st L w r w' hf hn H locs ls hP hS hl
  unfold i_nlen at hf
  split at hf
  · split at hf
    · rename_i ho
      subst ho
      exact va_tlen hx hb hK.2.2.2.1 hS rfl hd (h _ _ _ _ _ hf hn H locs ls hP hS hl)
    · cases hf
  · cases hf
theorem Dn_ldcS {ix i : Nat} (C : Cx X R cc nL RX2 ret) (hi : i < 13) (hix : sK.getD i 0 = ix) (hd : decode cc pc = .ok (.ldc ix, 2)) (hq : pc + 2 = q) (h : Den X R nL q k) : Den X R nL pc (i_push (.ref (1000 + i)) k) := by
  obtain ⟨p, l, e, s, m, args, below, meth, c, G, tg, ad, A, n, cells, slots, Qp⟩ := X
  obtain ⟨hx, hb, hml, hr, hlk, hown, hts, hK, hA, hcl, hsl⟩ := C
  try subst hq
  intro st L w r w' hf hn H locs ls hP hS hl
  subst hix
  exact va_ldcS hx hb hown (hK.2.2.2.2.2.2.1 i hi) hd (h _ _ _ _ _ hf hn H locs ls hP hS hl)
end DEN2
