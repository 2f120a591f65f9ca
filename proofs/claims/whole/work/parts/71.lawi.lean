def R_law : String := "FluteParkLaw"
def lw_P (b : Addr) (xs : List Int32) (args : Array Value) (s : State) : Prop := args = #[.ref b] ∧ s.IntsAt b xs ∧ xs.length ≤ 2560 ∧ (Jvm.Cond.and given_1 narrow_1).before args s = true
def lw_Q (_ : Array Value) (s : State) (o : Outcome) (t : State) : Prop := o = .returned (some (.int 1)) ∧ Framed s o t [] 32 1277
def lw_Z (below : List Frame) (a : Array Value) (s : State) : State → Prop := fun t => ∃ o, t.status = .running ∧ Ended t below o ∧ lw_Q a s o t
/-- the law's own end, with 1 on the stack, nothing written that was there before, its room as the claim has it -/
theorem lw_ret {p : Program} {l : Launch} {e : Env} {s : State} {m : MethodId} {below : List Frame} {meth : Method} {c : Code} {b : Nat} (hx : p.tables.exec = Jvm.exec) (hb : c.code = code) (hr : meth.sig.returnType = ret) (hlocks : meth.locks = false) {pc : Nat} {H : Heap} {ls : Array Slot} (hdg : decode code pc = .ok (.ireturn, 1)) : W p l e room_1 s m #[Value.ref b] below meth c H [] 32 1277 (lw_Z below #[Value.ref b] s) (F0 m pc ls [.int 1]) := by
  intro T hT X
  obtain ⟨fs, hret, hrun, hended, hW, hframe⟩ := X.leave (v := some (.int 1)) (hlocks := hlocks) (fun h => by rw [hr] at h; cases h)
  have hmeth' : T.vm.method? m = some meth := X.method'
  refine ⟨T.setFrames fs, ?_, .returned (some (.int 1)), hrun, hended, rfl, ⟨_, rfl⟩, hW, hframe⟩
  jvm_step X.here [X.here.top, hx, hb, hdg, hmeth', hr, ret, narrow_b1]
  (try refine ⟨rfl, ?_⟩); (try refine ⟨rfl, ?_⟩)
  first | (intro acts; rw [hret _ acts rfl rfl rfl]) | rw [hret _ _ rfl rfl rfl]
  exact Steps.refl _
/-- what holds at the law's entry: the machine, the code, the tables' words (any of lw_tbl by 'hts w (by decide +kernel)'), the script of L ints xs at the cell b, what the Statement gives of the start (any of its parts by flat_of_before) -/
def lw_At (p : Program) (s : State) (m : MethodId) (meth : Method) (c : Code) (b L : Nat) (xs : Nat → Int32) : Prop :=
  p.tables.exec = Jvm.exec ∧ c.code = code ∧ meth.sig.returnType = ret ∧ c.maxLocals = 4 ∧ s.vm.findClass R_law = some m.cls ∧ (∀ w ∈ lw_tbl, w.before #[Value.ref b] s = true) ∧ va_X b L xs s s.heap ∧ b < s.heap.size ∧ meth.locks = false ∧ (Jvm.Cond.and given_1 narrow_1).before #[Value.ref b] s = true
theorem Ix.g {X : mC} {ad : Nat → Nat} {n : Nat} (h : Ix X) : Ix (gX X ad n) := by
  obtain ⟨p, l, e, s, m, args, below, meth, c, G, tg, ad0, A, n0, cells, slots, Qp⟩ := X
  exact h
/-- the script: the cell b, at my place 3000 -/
def Lx (X : mC) (b Ls : Nat) (xs : Nat → Int32) : Prop := match X with
  | (_, _, _, s, _, _, _, _, _, _, _, ad, A, _, _, _, _) => ad 3000 = b ∧ va_X b Ls xs s s.heap ∧ b < s.heap.size ∧ ¬ A b
theorem Lx.g {X : mC} {R : Room} {ad : Nat → Nat} {n b Ls : Nat} {xs : Nat → Int32} (h : Lx X b Ls xs) (g : gOK X R ad n) : Lx (gX X ad n) b Ls xs := by
  obtain ⟨p, l, e, s, m, args, below, meth, c, G, tg, ad0, A, n0, cells, slots, Qp⟩ := X
  obtain ⟨h1, h2, h3, h4⟩ := h
  exact ⟨(g.2.2.2.1 3000 (Or.inr (by omega))).trans h1, h2, h3, h4⟩
/-- the law's end -/
def Ex (X : mC) : Prop := match X with
  | (_, _, _, s, _, args, below, _, _, _, _, _, A, _, _, _, Qp) => (Qp = fun _ _ => lw_Z below args s) ∧ (∀ q, A q → s.heap.size ≤ q) ∧ ∃ b : Addr, args = #[Value.ref b]
theorem Ex.g {X : mC} {ad : Nat → Nat} {n : Nat} (h : Ex X) : Ex (gX X ad n) := by
  obtain ⟨p, l, e, s, m, args, below, meth, c, G, tg, ad0, A, n0, cells, slots, Qp⟩ := X
  exact h
section LAWI
variable {X : mC} {cc : ByteArray} {nL : Nat} {own : String} {pc q : Nat} {k : mK} {R : Room} {rt : Option FieldType}
def i_sld (Ls : Nat) (xs : Nat → Int32) (k : mK) : mK := fun st L w => match st with
  | .int i :: .ref a :: r => if a = 3000 ∧ 0 ≤ i.toInt ∧ i.toInt < Ls then k (.int (xs i.toNatClampNeg) :: r) L w else none
  | _ => none
theorem Dn_sld {b Ls : Nat} {xs : Nat → Int32} (C : Cx X R cc nL own rt) (hL : Lx X b Ls xs) (hd : decode cc pc = .ok (.iaload, 1)) (hq : pc + 1 = q) (h : Den X R nL q k) : Den X R nL pc (i_sld Ls xs k) := by
  obtain ⟨p, l, e, s, m, args, below, meth, c, G, tg, ad, A, n, cells, slots, Qp⟩ := X
  obtain ⟨hx, hb, hml, hr, hlk, hown, hts, hK, hA, hcl, hsl⟩ := C
  obtain ⟨h1, h2, h3, h4⟩ := hL
  subst hq
  intro st L w r w' hf hn H locs ls hP hS hl
  unfold i_sld at hf
  split at hf
  · rename_i i a rest
    split at hf
    · rename_i ho
      obtain ⟨ho, g1, g2⟩ := ho
      subst ho
      have hb2 : mv ad (.ref 3000) = .ref b := by
        show Value.ref (ad 3000) = _
        rw [h1]
      show W p l e R s m args below meth c H locs cells slots (Qp r w') (F0 m pc ls (.int i :: mv ad (.ref 3000) :: rest.map (mv ad)))
      rw [hb2]
      exact va_sld hx hb h2 h3 h4 hS (vp_in_iff.mpr ⟨g1, g2⟩) hd (h _ _ _ _ _ hf hn H locs ls hP hS hl)
    · cases hf
  · cases hf
def i_slen (Ls : Nat) (k : mK) : mK := fun st L w => match st with
  | .ref a :: r => if a = 3000 then k (.int (Int32.ofNat Ls) :: r) L w else none
  | _ => none
theorem Dn_slen {b Ls : Nat} {xs : Nat → Int32} (C : Cx X R cc nL own rt) (hL : Lx X b Ls xs) (hd : decode cc pc = .ok (.arraylength, 1)) (hq : pc + 1 = q) (h : Den X R nL q k) : Den X R nL pc (i_slen Ls k) := by
  obtain ⟨p, l, e, s, m, args, below, meth, c, G, tg, ad, A, n, cells, slots, Qp⟩ := X
  obtain ⟨hx, hb, hml, hr, hlk, hown, hts, hK, hA, hcl, hsl⟩ := C
  obtain ⟨h1, h2, h3, h4⟩ := hL
  subst hq
  intro st L w r w' hf hn H locs ls hP hS hl
  unfold i_slen at hf
  split at hf
  · rename_i a rest
    split at hf
    · rename_i ho
      subst ho
      have hb2 : mv ad (.ref 3000) = .ref b := by
        show Value.ref (ad 3000) = _
        rw [h1]
      show W p l e R s m args below meth c H locs cells slots (Qp r w') (F0 m pc ls (mv ad (.ref 3000) :: rest.map (mv ad)))
      rw [hb2]
      exact va_slen hx hb h2 h3 h4 hS hd (h _ _ _ _ _ hf hn H locs ls hP hS hl)
    · cases hf
  · cases hf
def i_ret1 : mK := fun st _ w => match st with
  | [.int x] => if x = 1 then some (some (.int 1), w) else none
  | _ => none
theorem Dn_ret1 (C : Cx X room_1 code nL own ret) (hX : Ex X) (hd : decode code pc = .ok (.ireturn, 1)) : Den X room_1 nL pc i_ret1 := by
  obtain ⟨p, l, e, s, m, args, below, meth, c, G, tg, ad, A, n, cells, slots, Qp⟩ := X
  obtain ⟨hx, hb, hml, hr, hlk, hown, hts, hK, hA, hcl, hsl⟩ := C
  obtain ⟨h1, h2, b, h3⟩ := hX
  subst h1
  subst h3
  intro st L w r w' hf hn H locs ls hP hS hl
  unfold i_ret1 at hf
  split at hf
  · rename_i x
    split at hf
    · rename_i ho
      subst ho
      exact W.widen (k := 32) (n := 1277) hcl hsl (va_forget (fun q hq => h2 _ (hS.2.2 q hq)) (lw_ret hx hb hr hlk hd))
    · cases hf
  · cases hf
end LAWI
