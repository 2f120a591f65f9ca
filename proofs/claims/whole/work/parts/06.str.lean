theorem adr {a b c : Nat} (h1 : b ≤ a) (h2 : a < c) : ∃ i : Nat, i < c - b ∧ a = b + i := ⟨a - b, by omega, by omega⟩
section DSTR
variable {X : mC} {R : Room} {cc : ByteArray} {nL : Nat} {own : String} {ret : Option FieldType} {pc q : Nat} {k kt kf : mK}
theorem Dn_cmp {ix : Nat} (C : Cx X R cc nL own ret) (hlink : Cond.fieldLink own ix "java/lang/String" "COMPACT_STRINGS" "Z" ∈ gW) (hd : decode cc pc = .ok (.getstatic ix, 3)) (hq : pc + 3 = q) (h : Den X R nL q k) : Den X R nL pc (i_push (.int 1) k) := by
  obtain ⟨p, l, e, s, m, args, below, meth, c, G, tg, ad, A, n, cells, slots, Qp⟩ := X
  obtain ⟨hx, hb, hml, hr, hlk, hown, hts, hK, hA, hcl, hsl⟩ := C
  try subst hq
  intro st L w r w' hf hn H locs ls hP hS hl
  exact va_gets hx hb hK.2.2.2.2.1 hS hown (hts _ hlink) (fun _ h9 => h9) hd (h _ _ _ _ _ hf hn H locs ls hP hS hl)
def i_sgc (k : mK) : mK := fun st L w => match st with
  | .ref a :: r => if 1000 ≤ a ∧ a < 1013 then k (.int 0 :: r) L w else none
  | _ => none
theorem Dn_sgc {ix : Nat} (C : Cx X R cc nL own ret) (hlink : Cond.fieldLink own ix "java/lang/String" "coder" "B" ∈ gW) (hd : decode cc pc = .ok (.getfield ix, 3)) (hq : pc + 3 = q) (h : Den X R nL q k) : Den X R nL pc (i_sgc k) := by
  obtain ⟨p, l, e, s, m, args, below, meth, c, G, tg, ad, A, n, cells, slots, Qp⟩ := X
  obtain ⟨hx, hb, hml, hr, hlk, hown, hts, hK, hA, hcl, hsl⟩ := C
  try subst hq
  intro st L w r w' hf hn H locs ls hP hS hl
  unfold i_sgc at hf
  split at hf
  · split at hf
    · rename_i a rest ho
      obtain ⟨i, hi, rfl⟩ := adr (b := 1000) (c := 1013) ho.1 ho.2
      exact vk_getf hx hb ((hK.2.2.2.2.2.1.1 i hi).2.1) hS hown (hts _ hlink) (fun _ h9 => h9) hd (h _ _ _ _ _ hf hn H locs ls hP hS hl)
    · cases hf
  · cases hf
def i_sgv (k : mK) : mK := fun st L w => match st with
  | .ref a :: r => if 1000 ≤ a ∧ a < 1013 then k (.ref (1100 + (a - 1000)) :: r) L w else none
  | _ => none
theorem Dn_sgv {ix : Nat} (C : Cx X R cc nL own ret) (hlink : Cond.fieldLink own ix "java/lang/String" "value" "[B" ∈ gW) (hd : decode cc pc = .ok (.getfield ix, 3)) (hq : pc + 3 = q) (h : Den X R nL q k) : Den X R nL pc (i_sgv k) := by
  obtain ⟨p, l, e, s, m, args, below, meth, c, G, tg, ad, A, n, cells, slots, Qp⟩ := X
  obtain ⟨hx, hb, hml, hr, hlk, hown, hts, hK, hA, hcl, hsl⟩ := C
  try subst hq
  intro st L w r w' hf hn H locs ls hP hS hl
  unfold i_sgv at hf
  split at hf
  · split at hf
    · rename_i a rest ho
      obtain ⟨i, hi, rfl⟩ := adr (b := 1000) (c := 1013) ho.1 ho.2
      rw [show 1000 + i - 1000 = i from Nat.add_sub_cancel_left _ _] at hf
      exact vk_getf hx hb ((hK.2.2.2.2.2.1.1 i hi).2.2.1) hS hown (hts _ hlink) (fun _ h9 => h9) hd (h _ _ _ _ _ hf hn H locs ls hP hS hl)
    · cases hf
  · cases hf
def i_sal (k : mK) : mK := fun st L w => match st with
  | .ref a :: r => if 1100 ≤ a ∧ a < 1113 then k (.int (Int32.ofNat (sN.getD (a - 1100) 0)) :: r) L w else none
  | _ => none
theorem Dn_sal (C : Cx X R cc nL own ret) (hd : decode cc pc = .ok (.arraylength, 1)) (hq : pc + 1 = q) (h : Den X R nL q k) : Den X R nL pc (i_sal k) := by
  obtain ⟨p, l, e, s, m, args, below, meth, c, G, tg, ad, A, n, cells, slots, Qp⟩ := X
  obtain ⟨hx, hb, hml, hr, hlk, hown, hts, hK, hA, hcl, hsl⟩ := C
  try subst hq
  intro st L w r w' hf hn H locs ls hP hS hl
  unfold i_sal at hf
  split at hf
  · split at hf
    · rename_i a rest ho
      obtain ⟨i, hi, rfl⟩ := adr (b := 1100) (c := 1113) ho.1 ho.2
      rw [show 1100 + i - 1100 = i from Nat.add_sub_cancel_left _ _] at hf
      exact va_tlen hx hb ((hK.2.2.2.2.2.1.1 i hi).2.2.2) hS rfl hd (h _ _ _ _ _ hf hn H locs ls hP hS hl)
    · cases hf
  · cases hf
def i_sbl (k : mK) : mK := fun st L w => match st with
  | .int j :: .ref a :: r => if 1100 ≤ a ∧ a < 1113 ∧ 0 ≤ j.toInt ∧ j.toInt < (sN.getD (a - 1100) 0 : Nat) then k (.int ((sB.getD (a - 1100) []).getD j.toNatClampNeg 0) :: r) L w else none
  | _ => none
theorem Dn_sbl (C : Cx X R cc nL own ret) (hd : decode cc pc = .ok (.baload, 1)) (hq : pc + 1 = q) (h : Den X R nL q k) : Den X R nL pc (i_sbl k) := by
  obtain ⟨p, l, e, s, m, args, below, meth, c, G, tg, ad, A, n, cells, slots, Qp⟩ := X
  obtain ⟨hx, hb, hml, hr, hlk, hown, hts, hK, hA, hcl, hsl⟩ := C
  try subst hq
  intro st L w r w' hf hn H locs ls hP hS hl
  unfold i_sbl at hf
  split at hf
  · split at hf
    · rename_i j a rest ho
      obtain ⟨i, hi, rfl⟩ := adr (b := 1100) (c := 1113) ho.1 ho.2.1
      rw [show 1100 + i - 1100 = i from Nat.add_sub_cancel_left _ _] at hf ho
      exact va_tb hx hb ((hK.2.2.2.2.2.1.1 i hi).2.2.2) hS (vp_in_iff.mpr ⟨ho.2.2.1, ho.2.2.2⟩) rfl hd (h _ _ _ _ _ hf hn H locs ls hP hS hl)
    · cases hf
  · cases hf
/-- a call on one of the texts -/
def i_callT (ar : Nat) (F : mF) (k : mK) : mK := fun st L w => match st[ar]? with
  | some (.ref b) => if 1000 ≤ b ∧ b < 1013 then i_call (ar + 1) F k st L w else none
  | _ => none
theorem Dn_callT {ix ar : Nat} {y : MethodName} {cy : ByteArray} {ny : Nat} {ry : Option FieldType} {rm : Room} {F : mF} (C : Cx X R cc nL own ret) (hyc : y.cls = "java/lang/String") (hM : Ct X.l X.G X.tg y cy ny ry rm F) (hcode : Cond.code y cy ny ry ∈ gW) (hlink : Cond.methodLink own ix y ∈ gW) (hinst : Cond.instanceMethod y ∈ gW) (hsel : Cond.selects y.cls y y ∈ gW) (hini : Cond.initialized y.cls ∈ gW) (hrc : rm.cells = 0 ∧ rm.slots = 0)
    (hd0 : y.cls ≠ "java/lang/invoke/MethodHandle" ∧ y.cls ≠ "java/lang/invoke/VarHandle" ∧ (parseMethodDescriptor y.desc).map (fun d => d.parameters.length) = some ar) (hR : rm.frames + 1 ≤ R.frames ∧ 8 + (ny + 11) + rm.locals ≤ R.locals) (hd : decode cc pc = .ok (.invokevirtual ix, 3)) (hq : pc + 3 = q) (h : Den X R nL q k) : Den X R nL pc (i_callT ar F k) := by
  obtain ⟨p, l, e, s, m, args, below, meth, c, G, tg, ad, A, n, cells, slots, Qp⟩ := X
  obtain ⟨hx, hb, hml, hr, hlk, hown, hts, hK, hA, hcl, hsl⟩ := C
  try subst hq
  intro st L w r w' hf hn H locs ls hP hS hl
  unfold i_callT at hf
  split at hf
  · rename_i b hst
    split at hf
    · rename_i ho
      unfold i_call at hf
      split at hf
      · rename_i har
        have hrm := mv_room ad (r := st.drop (ar + 1)) (n := 4) (by simp; omega)
        have htk : st.take (ar + 1) = st.take ar ++ [.ref b] := by
          rw [List.take_add_one, hst]; rfl
        have hrv : (st.take (ar + 1)).reverse = .ref b :: (st.take ar).reverse := by rw [htk]; simp
        have hlen : ((st.take ar).reverse.map (mv ad)).length = ar := by simp; omega
        have hstk : st.map (mv ad) = ((st.take ar).reverse.map (mv ad)).reverse ++ .ref (ad b) :: (st.drop (ar + 1)).map (mv ad) := by
          rw [← List.map_reverse, List.reverse_reverse]
          have e1 : Value.ref (ad b) :: (st.drop (ar + 1)).map (mv ad) = [Value.ref b].map (mv ad) ++ (st.drop (ar + 1)).map (mv ad) := rfl
          rw [e1, ← List.append_assoc, ← List.map_append, ← htk, ← List.map_append, List.take_append_drop]
        have hpre : PreV s H y.cls (ad b) (mPc G tg ad A (st.take (ar + 1)).reverse w) ((st.take ar).reverse.map (mv ad)) := by
          have h1 := pre_S (av := (st.take (ar + 1)).reverse) hK hS hP
          obtain ⟨i, hi, rfl⟩ := adr (b := 1000) (c := 1013) ho.1 ho.2
          have hrc := vk_recv hK.2.2.2.2.2.1 (i := i) hi hS
          refine ⟨h1.1, by rw [hyc]; exact hrc, fun U hU hW => ?_⟩
          have h2 := h1.2 U hU hW
          rw [hrv] at h2 ⊢
          exact h2
        have hcw : CallW R s args own y.cls ix y cy ny ry (.code y cy ny ry :: gW) rm 0 0 ar := ⟨callB_of ar hts (gW_goodIn hcode) rfl hrc.1 hrc.2 (hts _ hini) (hts _ hlink) hd0 hR, hts _ hinst, hts _ hsel⟩
        split at hf
        · rename_i v w1 hF
          exact run_go (va_runV (As := (st.take ar).reverse.map (mv ad)) (rest := (st.drop (ar + 1)).map (mv ad)) ⟨hx, hb, hml, hown, hts⟩ (hM ad A n hA _ _ _ _ hF hn) hcw hpre rfl hlen hl.1 hstk (lv_room (by omega)) hd ⟨by omega, by omega⟩) hS (fun H1 locs1 hP1 hn1 hS1 => h _ _ _ _ _ hf hn1 H1 locs1 ls hP1 hS1 hl)
        · rename_i w1 hF
          exact run_go (va_runV (As := (st.take ar).reverse.map (mv ad)) (rest := (st.drop (ar + 1)).map (mv ad)) ⟨hx, hb, hml, hown, hts⟩ (hM ad A n hA _ _ _ _ hF hn) hcw hpre rfl hlen hl.1 hstk (lv_room (by omega)) hd ⟨by omega, by omega⟩) hS (fun H1 locs1 hP1 hn1 hS1 => h _ _ _ _ _ hf hn1 H1 locs1 ls hP1 hS1 hl)
        · cases hf
      · cases hf
    · cases hf
  · cases hf
/-- the formatter (null or not), Preconditions.checkIndex, pop -/
def i_chk (k : mK) : mK := fun st L w => match st with
  | .int z :: .int j :: r => if 0 ≤ j ∧ j < z ∧ r.length ≤ 4 then k r L w else none
  | _ => none
theorem Dn_chk {ix iy : Nat} {y : MethodName} {cy : ByteArray} {ny : Nat} {ry : Option FieldType} {rm : Room} {F : mF} {q1 q2 : Nat} (C : Cx X R cc nL own ret) (hfl : Cond.fieldLink own ix "jdk/internal/util/Preconditions" "SIOOBE_FORMATTER" "Ljava/util/function/BiFunction;" ∈ gW) (hM : Ct X.l X.G X.tg y cy ny ry rm F) (hcode : Cond.code y cy ny ry ∈ gW) (hlink : Cond.methodLink own iy y ∈ gW) (hstat : Cond.static y ∈ gW) (hini : Cond.initialized y.cls ∈ gW) (hrc : rm.cells = 0 ∧ rm.slots = 0)
    (hd0 : y.cls ≠ "java/lang/invoke/MethodHandle" ∧ y.cls ≠ "java/lang/invoke/VarHandle" ∧ (parseMethodDescriptor y.desc).map (fun d => d.parameters.length) = some 3) (hR : rm.frames + 1 ≤ R.frames ∧ 8 + (ny + 11) + rm.locals ≤ R.locals) (hF : ∀ (j z : Int32) (w : List va_E) (v : Value), 0 ≤ j → j < z → (v = .null ∨ v = .ref 3001) → F [.int j, .int z, v] w = some (some (.int j), w)) (hd : decode cc pc = .ok (.getstatic ix, 3)) (hd1 : decode cc q1 = .ok (.invokestatic iy, 3)) (hd2 : decode cc q2 = .ok (.pop, 1)) (hq1 : pc + 3 = q1) (hq2 : q1 + 3 = q2) (hq : q2 + 1 = q) (h : Den X R nL q k) : Den X R nL pc (i_chk k) := by
  subst hq1; subst hq2
  obtain ⟨p, l, e, s, m, args, below, meth, c, G, tg, ad, A, n, cells, slots, Qp⟩ := X
  obtain ⟨hx, hb, hml, hr, hlk, hown, hts, hK, hA, hcl, hsl⟩ := C
  try subst hq
  intro st L w r w' hf hn H locs ls hP hS hl
  unfold i_chk at hf
  split at hf
  · rename_i z j rest
    split at hf
    · rename_i ho
      obtain ⟨h1, h2, h3⟩ := ho
      have h4 := hF j z w .null h1 h2 (Or.inl rfl)
      have h5 := hF j z w (.ref 3001) h1 h2 (Or.inr rfl)
      have hrm := mv_room ad h3
      rcases hK.2.2.2.2.2.2.2 with hz | hz
      · refine va_gets hx hb hz hS hown (hts _ hfl) (fun _ h9 => h9) hd ?_
        refine run_go (va_runS (As := ([.int j, .int z, .null] : List Value).map (mv ad)) (rest := rest.map (mv ad)) ⟨hx, hb, hml, hown, hts⟩ (hM ad A n hA _ _ _ _ h4 hn) ⟨callB_of 3 hts (gW_goodIn hcode) rfl hrc.1 hrc.2 (hts _ hini) (hts _ hlink) hd0 hR, hts _ hstat⟩ (pre_S hK hS hP) rfl rfl hl.1 rfl (lv_room (by omega)) hd1 ⟨by omega, by omega⟩) hS (fun H1 locs1 hP1 hn1 hS1 => ?_)
        exact lv_pop hx hb hd2 rfl (h _ _ _ _ _ hf hn1 H1 locs1 ls hP1 hS1 hl)
      · refine va_gets hx hb hz hS hown (hts _ hfl) (fun _ h9 => h9) hd ?_
        refine run_go (va_runS (As := ([.int j, .int z, .ref 3001] : List Value).map (mv ad)) (rest := rest.map (mv ad)) ⟨hx, hb, hml, hown, hts⟩ (hM ad A n hA _ _ _ _ h5 hn) ⟨callB_of 3 hts (gW_goodIn hcode) rfl hrc.1 hrc.2 (hts _ hini) (hts _ hlink) hd0 hR, hts _ hstat⟩ (pre_S hK hS hP) rfl rfl hl.1 rfl (lv_room (by omega)) hd1 ⟨by omega, by omega⟩) hS (fun H1 locs1 hP1 hn1 hS1 => ?_)
        exact lv_pop hx hb hd2 rfl (h _ _ _ _ _ hf hn1 H1 locs1 ls hP1 hS1 hl)
    · cases hf
  · cases hf
end DSTR
section DMATHmax
variable {X : mC} {R : Room} {cc : ByteArray} {nL : Nat} {own : String} {ret : Option FieldType} {pc q : Nat} {k kt kf : mK}
def i_mmax (k : mK) : mK := fun st L w => match st with
  | .int y :: .int x :: r => if r.length ≤ 4 then k (.int (if x < y then y else x) :: r) L w else none
  | _ => none
theorem Dn_mmax {ix : Nat} (C : Cx X R cc nL own ret) (hlink : Cond.methodLink own ix Lib.Math.max.name ∈ gW) (hstat : Cond.static Lib.Math.max.name ∈ gW) (hini : Cond.initialized "java/lang/Math" ∈ gW) (hcode : Cond.code Lib.Math.max.name Lib.Math.max.code 2 (some .int) ∈ gW) (hfr : 1 ≤ R.frames) (hlo : 21 ≤ R.locals) (hd : decode cc pc = .ok (.invokestatic ix, 3)) (hq : pc + 3 = q) (h : Den X R nL q k) : Den X R nL pc (i_mmax k) := by
  obtain ⟨p, l, e, s, m, args, below, meth, c, G, tg, ad, A, n, cells, slots, Qp⟩ := X
  obtain ⟨hx, hb, hml, hr, hlk, hown, hts, hK, hA, hcl, hsl⟩ := C
  try subst hq
  intro st L w r w' hf hn H locs ls hP hS hl
  unfold i_mmax at hf
  split at hf
  · split at hf
    · rename_i ho
      have hrm := mv_room ad ho
      exact va_mmax hx hb (by rw [hml]; exact hl.1.symm) hown (hts _ hlink) (hts _ hstat) (hts _ hini) (hts _ hcode) hfr (by omega) hcl hsl hd (h _ _ _ _ _ hf hn H locs ls hP hS hl)
    · cases hf
  · cases hf
end DMATHmax
section DMATHmin
variable {X : mC} {R : Room} {cc : ByteArray} {nL : Nat} {own : String} {ret : Option FieldType} {pc q : Nat} {k kt kf : mK}
def i_mmin (k : mK) : mK := fun st L w => match st with
  | .int y :: .int x :: r => if r.length ≤ 4 then k (.int (if y < x then y else x) :: r) L w else none
  | _ => none
theorem Dn_mmin {ix : Nat} (C : Cx X R cc nL own ret) (hlink : Cond.methodLink own ix Lib.Math.min.name ∈ gW) (hstat : Cond.static Lib.Math.min.name ∈ gW) (hini : Cond.initialized "java/lang/Math" ∈ gW) (hcode : Cond.code Lib.Math.min.name Lib.Math.min.code 2 (some .int) ∈ gW) (hfr : 1 ≤ R.frames) (hlo : 21 ≤ R.locals) (hd : decode cc pc = .ok (.invokestatic ix, 3)) (hq : pc + 3 = q) (h : Den X R nL q k) : Den X R nL pc (i_mmin k) := by
  obtain ⟨p, l, e, s, m, args, below, meth, c, G, tg, ad, A, n, cells, slots, Qp⟩ := X
  obtain ⟨hx, hb, hml, hr, hlk, hown, hts, hK, hA, hcl, hsl⟩ := C
  try subst hq
  intro st L w r w' hf hn H locs ls hP hS hl
  unfold i_mmin at hf
  split at hf
  · split at hf
    · rename_i ho
      have hrm := mv_room ad ho
      exact va_mmin hx hb (by rw [hml]; exact hl.1.symm) hown (hts _ hlink) (hts _ hstat) (hts _ hini) (hts _ hcode) hfr (by omega) hcl hsl hd (h _ _ _ _ _ hf hn H locs ls hP hS hl)
    · cases hf
  · cases hf
end DMATHmin
section DMATHabs
variable {X : mC} {R : Room} {cc : ByteArray} {nL : Nat} {own : String} {ret : Option FieldType} {pc q : Nat} {k kt kf : mK}
def i_mabs (k : mK) : mK := fun st L w => match st with
  | .int x :: r => if r.length ≤ 4 then k (.int (if 0 ≤ x then x else 0 - x) :: r) L w else none
  | _ => none
theorem Dn_mabs {ix : Nat} (C : Cx X R cc nL own ret) (hlink : Cond.methodLink own ix Lib.Math.abs.name ∈ gW) (hstat : Cond.static Lib.Math.abs.name ∈ gW) (hini : Cond.initialized "java/lang/Math" ∈ gW) (hcode : Cond.code Lib.Math.abs.name Lib.Math.abs.code 1 (some .int) ∈ gW) (hfr : 1 ≤ R.frames) (hlo : 21 ≤ R.locals) (hd : decode cc pc = .ok (.invokestatic ix, 3)) (hq : pc + 3 = q) (h : Den X R nL q k) : Den X R nL pc (i_mabs k) := by
  obtain ⟨p, l, e, s, m, args, below, meth, c, G, tg, ad, A, n, cells, slots, Qp⟩ := X
  obtain ⟨hx, hb, hml, hr, hlk, hown, hts, hK, hA, hcl, hsl⟩ := C
  try subst hq
  intro st L w r w' hf hn H locs ls hP hS hl
  unfold i_mabs at hf
  split at hf
  · split at hf
    · rename_i ho
      have hrm := mv_room ad ho
      exact va_mabs hx hb (by rw [hml]; exact hl.1.symm) hown (hts _ hlink) (hts _ hstat) (hts _ hini) (hts _ hcode) hfr (by omega) hcl hsl hd (h _ _ _ _ _ hf hn H locs ls hP hS hl)
    · cases hf
  · cases hf
end DMATHabs
def DenL (X : mC) (R : Room) (nL : Nat) (ts : List Nat) (ks : List mK) : Prop := ∀ (i : Nat) (t : Nat) (f : mK), ts[i]? = some t → ks[i]? = some f → Den X R nL t f
theorem DenL_nil {X : mC} {R : Room} {nL : Nat} : DenL X R nL [] [] := fun i t f h => by simp at h
theorem DenL_cons {X : mC} {R : Room} {nL t : Nat} {f : mK} {ts : List Nat} {ks : List mK} (h : Den X R nL t f) (hs : DenL X R nL ts ks) : DenL X R nL (t :: ts) (f :: ks) := by
  intro i t' f' h1 h2
  cases i with
  | zero =>
    simp at h1 h2
    subst h1; subst h2
    exact h
  | succ i => exact hs i t' f' (by simpa using h1) (by simpa using h2)
