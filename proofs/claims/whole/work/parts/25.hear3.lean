/-! margins -/
def IsMin (S : Int32 → Prop) (m : Int32) : Prop := S m ∧ ∀ x, S x → m ≤ x
theorem IsMin.one {S : Int32 → Prop} {a b : Int32} (ha : IsMin S a) (hb : IsMin S b) : a = b := Int32.le_antisymm (ha.2 b hb.1) (hb.2 a ha.1)
theorem IsMin.cong {S T : Int32 → Prop} {a : Int32} (h : IsMin S a) (hST : ∀ x, S x ↔ T x) : IsMin T a := ⟨(hST a).mp h.1, fun x hx => h.2 x ((hST x).mpr hx)⟩
theorem IsMin.add {S : Int32 → Prop} {a : Int32} (h : IsMin S a) (v : Int32) : IsMin (fun x => S x ∨ x = v) (if v < a then v else a) := by
  by_cases c : v < a
  · rw [if_pos c]
    refine ⟨Or.inr rfl, fun x hx => ?_⟩
    rcases hx with hx | hx
    · exact Int32.le_of_lt (Int32.lt_of_lt_of_le c (h.2 x hx))
    · rw [hx]; exact Int32.le_refl _
  · rw [if_neg c]
    refine ⟨Or.inl h.1, fun x hx => ?_⟩
    rcases hx with hx | hx
    · exact h.2 x hx
    · rw [hx]; exact Int32.not_lt.mp c
/-- by how much the flute is above a set's noise, at the places of walk in an hour -/
def valS (P : Pk) (s h n : Nat) (x : Int32) : Prop := ∃ p, p < n ∧ (pW P).testBit p = true ∧ x = flS P p - noS P s p h
def mgSet (P : Pk) (s k : Nat) (x : Int32) : Prop := x = 999 ∨ ∃ h, h < k ∧ valS P s h (pn P) x
def minW (g : Nat → Int32) (ok : Nat → Bool) : Nat → Int32 → Int32
  | 0, a => a
  | k + 1, a => if ok k then (if g k < minW g ok k a then g k else minW g ok k a) else minW g ok k a
theorem minW_is {g : Nat → Int32} {ok : Nat → Bool} {S : Int32 → Prop} {a : Int32} (h : IsMin S a) : ∀ k, IsMin (fun x => S x ∨ ∃ p, p < k ∧ ok p = true ∧ x = g p) (minW g ok k a)
  | 0 => h.cong (fun x => ⟨Or.inl, fun z => z.elim id (fun ⟨p, hp, _⟩ => absurd hp (by omega))⟩)
  | k + 1 => by
    have ih := minW_is h k (g := g) (ok := ok)
    rw [minW]
    by_cases c : ok k = true
    · rw [if_pos c]
      refine (ih.add (g k)).cong (fun x => ?_)
      constructor
      · rintro ((h1 | ⟨p, h1, h2, h3⟩) | h1)
        · exact Or.inl h1
        · exact Or.inr ⟨p, by omega, h2, h3⟩
        · exact Or.inr ⟨k, by omega, c, h1⟩
      · rintro (h1 | ⟨p, h1, h2, h3⟩)
        · exact Or.inl (Or.inl h1)
        · by_cases hp : p = k
          · subst hp; exact Or.inr h3
          · exact Or.inl (Or.inr ⟨p, by omega, h2, h3⟩)
    · rw [if_neg c]
      refine ih.cong (fun x => ?_)
      constructor
      · rintro (h1 | ⟨p, h1, h2, h3⟩)
        · exact Or.inl h1
        · exact Or.inr ⟨p, by omega, h2, h3⟩
      · rintro (h1 | ⟨p, h1, h2, h3⟩)
        · exact Or.inl h1
        · exact Or.inr ⟨p, by
            have : p ≠ k := fun z => c (z ▸ h2)
            omega, h2, h3⟩
/-- MARGIN -/
def mgS (P : Pk) (s : Nat) : Nat → Int32
  | 0 => 999
  | h + 1 => minW (fun p => flS P p - noS P s p h) (fun p => (pW P).testBit p) (pn P) (mgS P s h)
theorem mgS_is (P : Pk) (s : Nat) : ∀ k, IsMin (mgSet P s k) (mgS P s k)
  | 0 => ⟨Or.inl rfl, fun x hx => by
      rcases hx with rfl | ⟨h, hh, -⟩
      · exact Int32.le_refl _
      · omega⟩
  | k + 1 => by
    rw [mgS]
    refine (minW_is (mgS_is P s k) (pn P)).cong (fun x => ?_)
    constructor
    · rintro ((h1 | ⟨h, h1, h2⟩) | h1)
      · exact Or.inl h1
      · exact Or.inr ⟨h, by omega, h2⟩
      · exact Or.inr ⟨k, by omega, h1⟩
    · rintro (h1 | ⟨h, h1, h2⟩)
      · exact Or.inl (Or.inl h1)
      · by_cases hk : h = k
        · subst hk; exact Or.inr h2
        · exact Or.inl (Or.inr ⟨h, by omega, h2⟩)
def marS (P : Pk) (s : Nat) : Int32 := mgS P s 12
def holdS (P : Pk) (s : Nat) : Bool := decide (0 < marS P s)
section HEAR3
variable {w : List va_E} {i j1 j2 j3 : Nat} {P : Pk}
theorem s_marginBy (h : HrAt w i j1 j2 j3 P) (hP : PkOK P) {m : Nat} (hm : m < 2 ^ pN P) : FX0_marginBy [.ref i, .int (nI m)] w = some (some (.int (minW (fun p => flS P p - sumTo (fun b => if m.testBit b then bsS P b p else 0) (pN P)) (fun p => (pW P).testBit p) (pn P) 999)), w) := by
  have h' := h
  obtain ⟨fs, bs, ms, ⟨h1, -⟩, -⟩ := h'
  have hr : rc 0 i w = true := rc_of h1
  have hn := pn_le hP
  have hW : pW P < 2 ^ 36 := Nat.lt_of_lt_of_le hP.2.2.2.2.2.2.1 (Nat.pow_le_pow_right (by decide) hn)
  have g0 : gt 0 0 i w = some (.int (nI (pn P))) := gt_of h1 rfl
  have g1 : gt 0 1 i w = some (.long (lN (pW P))) := gt_of h1 rfl
  have hl : jX0_marginBy_6 [] [.ref i, .int (nI m), .int 999, .int 0] w = some (some (.int (minW (fun p => flS P p - sumTo (fun b => if m.testBit b then bsS P b p else 0) (pN P)) (fun p => (pW P).testBit p) (pn P) 999)), w) := by
    refine loop_run (pn P) (fun k => ([], [.ref i, .int (nI m), .int (minW (fun p => flS P p - sumTo (fun b => if m.testBit b then bsS P b p else 0) (pN P)) (fun p => (pW P).testBit p) k 999), .int (nI k)], w)) rfl ?_ ?_ 1000 (by omega)
    · intro k hk B
      have c1 : ¬ nI (pn P) ≤ nI k := nI_ge hk (by omega)
      have e1 := bitU (W := pW P) (p := k) (by omega) (by omega)
      by_cases c2 : (pW P).testBit k = true
      · have c2' := e1.mpr c2
        simp only [jX0_marginBy_44, e_push, e_ild_0, e_lld_0, e_ald_0, e_inc_0, e_ild_1, e_lld_1, e_ald_1, e_inc_1, e_ild_2, e_lld_2, e_ald_2, e_inc_2, e_ild_3, e_lld_3, e_ald_3, e_inc_3, e_ild_4, e_lld_4, e_ald_4, e_inc_4, e_ild_5, e_lld_5, e_ald_5, e_inc_5, e_ild_6, e_lld_6, e_ald_6, e_inc_6, e_ild_7, e_lld_7, e_ald_7, e_inc_7, e_ild_8, e_lld_8, e_ald_8, e_inc_8, e_ild_9, e_lld_9, e_ald_9, e_inc_9, e_ild_10, e_lld_10, e_ald_10, e_inc_10, e_ild_11, e_lld_11, e_ald_11, e_inc_11, e_ild_12, e_lld_12, e_ald_12, e_inc_12, e_ist, e_ast, e_lst, e_sto_0, e_sto_1i, e_sto_1r, e_sto_1u, e_sto_1l, e_sto_2i, e_sto_2r, e_sto_2u, e_sto_2l, e_sto_3i, e_sto_3r, e_sto_3u, e_sto_3l, e_sto_4i, e_sto_4r, e_sto_4u, e_sto_4l, e_sto_5i, e_sto_5r, e_sto_5u, e_sto_5l, e_sto_6i, e_sto_6r, e_sto_6u, e_sto_6l, e_sto_7i, e_sto_7r, e_sto_7u, e_sto_7l, e_sto_8i, e_sto_8r, e_sto_8u, e_sto_8l, e_sto_9i, e_sto_9r, e_sto_9u, e_sto_9l, e_sto_10i, e_sto_10r, e_sto_10u, e_sto_10l, e_sto_11i, e_sto_11r, e_sto_11u, e_sto_11l, e_sto_12i, e_sto_12r, e_sto_12u, e_sto_12l, e_stoL_0, e_stoL_1i, e_stoL_1r, e_stoL_1u, e_stoL_2i, e_stoL_2r, e_stoL_2u, e_stoL_3i, e_stoL_3r, e_stoL_3u, e_stoL_4i, e_stoL_4r, e_stoL_4u, e_stoL_5i, e_stoL_5r, e_stoL_5u, e_stoL_6i, e_stoL_6r, e_stoL_6u, e_stoL_7i, e_stoL_7r, e_stoL_7u, e_stoL_8i, e_stoL_8r, e_stoL_8u, e_stoL_9i, e_stoL_9r, e_stoL_9u, e_stoL_10i, e_stoL_10r, e_stoL_10u, e_stoL_11i, e_stoL_11r, e_stoL_11u, e_stoL_12i, e_stoL_12r, e_stoL_12u, e_ib, e_lb, e_ls, e_ii, e_i2l, e_l2i, e_lcmp, e_idiv, e_irem, e_dup_i, e_dup_r, e_dup2, e_pop, e_ifeq, e_iceq, e_ifne, e_icne, e_iflt, e_iclt, e_ifge, e_icge, e_ifgt, e_icgt, e_ifle, e_icle, e_sw, e_iret, e_nret, e_lret, e_aret, e_vret, e_get, e_puti, e_putl, e_iald, e_zald, e_iast, e_zast, e_lald, e_last, e_alen, e_nald, e_nlen, e_mmax, e_mmin, e_mabs, cont_v, cont_u, e_call0, e_call1, e_call2, e_call3, e_call4, e_call5, e_call6, e_callV0, e_callT0, e_callV1, e_callT1, e_callV2, e_callT2, e_callV3, e_callT3, e_callV4, e_callT4, e_callV5, e_callT5, lin_i, lin_r, lin_l, lin_n, lsz_i, lsz_r, lsz_l, lsz_n, rep_s, rep_0, mEnt_e, c1, g0, g1, c2', c2, hr, s_fluteAt h hP hk, s_soundsOf h hP hm hk, minW, nI_1, if_true, if_false, Bool.false_eq_true, Option.bind_some, List.length_cons, List.length_nil, Nat.reduceAdd, Nat.reduceLeDiff]
      · have c2' : ¬ _ := fun z => c2 (e1.mp z)
        simp only [jX0_marginBy_44, e_push, e_ild_0, e_lld_0, e_ald_0, e_inc_0, e_ild_1, e_lld_1, e_ald_1, e_inc_1, e_ild_2, e_lld_2, e_ald_2, e_inc_2, e_ild_3, e_lld_3, e_ald_3, e_inc_3, e_ild_4, e_lld_4, e_ald_4, e_inc_4, e_ild_5, e_lld_5, e_ald_5, e_inc_5, e_ild_6, e_lld_6, e_ald_6, e_inc_6, e_ild_7, e_lld_7, e_ald_7, e_inc_7, e_ild_8, e_lld_8, e_ald_8, e_inc_8, e_ild_9, e_lld_9, e_ald_9, e_inc_9, e_ild_10, e_lld_10, e_ald_10, e_inc_10, e_ild_11, e_lld_11, e_ald_11, e_inc_11, e_ild_12, e_lld_12, e_ald_12, e_inc_12, e_ist, e_ast, e_lst, e_sto_0, e_sto_1i, e_sto_1r, e_sto_1u, e_sto_1l, e_sto_2i, e_sto_2r, e_sto_2u, e_sto_2l, e_sto_3i, e_sto_3r, e_sto_3u, e_sto_3l, e_sto_4i, e_sto_4r, e_sto_4u, e_sto_4l, e_sto_5i, e_sto_5r, e_sto_5u, e_sto_5l, e_sto_6i, e_sto_6r, e_sto_6u, e_sto_6l, e_sto_7i, e_sto_7r, e_sto_7u, e_sto_7l, e_sto_8i, e_sto_8r, e_sto_8u, e_sto_8l, e_sto_9i, e_sto_9r, e_sto_9u, e_sto_9l, e_sto_10i, e_sto_10r, e_sto_10u, e_sto_10l, e_sto_11i, e_sto_11r, e_sto_11u, e_sto_11l, e_sto_12i, e_sto_12r, e_sto_12u, e_sto_12l, e_stoL_0, e_stoL_1i, e_stoL_1r, e_stoL_1u, e_stoL_2i, e_stoL_2r, e_stoL_2u, e_stoL_3i, e_stoL_3r, e_stoL_3u, e_stoL_4i, e_stoL_4r, e_stoL_4u, e_stoL_5i, e_stoL_5r, e_stoL_5u, e_stoL_6i, e_stoL_6r, e_stoL_6u, e_stoL_7i, e_stoL_7r, e_stoL_7u, e_stoL_8i, e_stoL_8r, e_stoL_8u, e_stoL_9i, e_stoL_9r, e_stoL_9u, e_stoL_10i, e_stoL_10r, e_stoL_10u, e_stoL_11i, e_stoL_11r, e_stoL_11u, e_stoL_12i, e_stoL_12r, e_stoL_12u, e_ib, e_lb, e_ls, e_ii, e_i2l, e_l2i, e_lcmp, e_idiv, e_irem, e_dup_i, e_dup_r, e_dup2, e_pop, e_ifeq, e_iceq, e_ifne, e_icne, e_iflt, e_iclt, e_ifge, e_icge, e_ifgt, e_icgt, e_ifle, e_icle, e_sw, e_iret, e_nret, e_lret, e_aret, e_vret, e_get, e_puti, e_putl, e_iald, e_zald, e_iast, e_zast, e_lald, e_last, e_alen, e_nald, e_nlen, e_mmax, e_mmin, e_mabs, cont_v, cont_u, e_call0, e_call1, e_call2, e_call3, e_call4, e_call5, e_call6, e_callV0, e_callT0, e_callV1, e_callT1, e_callV2, e_callT2, e_callV3, e_callT3, e_callV4, e_callT4, e_callV5, e_callT5, lin_i, lin_r, lin_l, lin_n, lsz_i, lsz_r, lsz_l, lsz_n, rep_s, rep_0, mEnt_e, c1, g0, g1, c2', c2, minW, nI_1, if_true, if_false, Bool.false_eq_true, Option.bind_some, List.length_cons, List.length_nil, Nat.reduceAdd, Nat.reduceLeDiff]
    · intro B
      have c1 : nI (pn P) ≤ nI (pn P) := nI_le (Nat.le_refl _) (by omega)
      simp only [e_push, e_ild_0, e_lld_0, e_ald_0, e_inc_0, e_ild_1, e_lld_1, e_ald_1, e_inc_1, e_ild_2, e_lld_2, e_ald_2, e_inc_2, e_ild_3, e_lld_3, e_ald_3, e_inc_3, e_ild_4, e_lld_4, e_ald_4, e_inc_4, e_ild_5, e_lld_5, e_ald_5, e_inc_5, e_ild_6, e_lld_6, e_ald_6, e_inc_6, e_ild_7, e_lld_7, e_ald_7, e_inc_7, e_ild_8, e_lld_8, e_ald_8, e_inc_8, e_ild_9, e_lld_9, e_ald_9, e_inc_9, e_ild_10, e_lld_10, e_ald_10, e_inc_10, e_ild_11, e_lld_11, e_ald_11, e_inc_11, e_ild_12, e_lld_12, e_ald_12, e_inc_12, e_ist, e_ast, e_lst, e_sto_0, e_sto_1i, e_sto_1r, e_sto_1u, e_sto_1l, e_sto_2i, e_sto_2r, e_sto_2u, e_sto_2l, e_sto_3i, e_sto_3r, e_sto_3u, e_sto_3l, e_sto_4i, e_sto_4r, e_sto_4u, e_sto_4l, e_sto_5i, e_sto_5r, e_sto_5u, e_sto_5l, e_sto_6i, e_sto_6r, e_sto_6u, e_sto_6l, e_sto_7i, e_sto_7r, e_sto_7u, e_sto_7l, e_sto_8i, e_sto_8r, e_sto_8u, e_sto_8l, e_sto_9i, e_sto_9r, e_sto_9u, e_sto_9l, e_sto_10i, e_sto_10r, e_sto_10u, e_sto_10l, e_sto_11i, e_sto_11r, e_sto_11u, e_sto_11l, e_sto_12i, e_sto_12r, e_sto_12u, e_sto_12l, e_stoL_0, e_stoL_1i, e_stoL_1r, e_stoL_1u, e_stoL_2i, e_stoL_2r, e_stoL_2u, e_stoL_3i, e_stoL_3r, e_stoL_3u, e_stoL_4i, e_stoL_4r, e_stoL_4u, e_stoL_5i, e_stoL_5r, e_stoL_5u, e_stoL_6i, e_stoL_6r, e_stoL_6u, e_stoL_7i, e_stoL_7r, e_stoL_7u, e_stoL_8i, e_stoL_8r, e_stoL_8u, e_stoL_9i, e_stoL_9r, e_stoL_9u, e_stoL_10i, e_stoL_10r, e_stoL_10u, e_stoL_11i, e_stoL_11r, e_stoL_11u, e_stoL_12i, e_stoL_12r, e_stoL_12u, e_ib, e_lb, e_ls, e_ii, e_i2l, e_l2i, e_lcmp, e_idiv, e_irem, e_dup_i, e_dup_r, e_dup2, e_pop, e_ifeq, e_iceq, e_ifne, e_icne, e_iflt, e_iclt, e_ifge, e_icge, e_ifgt, e_icgt, e_ifle, e_icle, e_sw, e_iret, e_nret, e_lret, e_aret, e_vret, e_get, e_puti, e_putl, e_iald, e_zald, e_iast, e_zast, e_lald, e_last, e_alen, e_nald, e_nlen, e_mmax, e_mmin, e_mabs, cont_v, cont_u, e_call0, e_call1, e_call2, e_call3, e_call4, e_call5, e_call6, e_callV0, e_callT0, e_callV1, e_callT1, e_callV2, e_callT2, e_callV3, e_callT3, e_callV4, e_callT4, e_callV5, e_callT5, lin_i, lin_r, lin_l, lin_n, lsz_i, lsz_r, lsz_l, lsz_n, rep_s, rep_0, mEnt_e, c1, g0, if_true, if_false, Bool.false_eq_true, Option.bind_some, List.length_cons, List.length_nil, Nat.reduceAdd, Nat.reduceLeDiff]
  simp only [FX0_marginBy, jX0_marginBy_44, jX0_marginBy, e_push, e_ild_0, e_lld_0, e_ald_0, e_inc_0, e_ild_1, e_lld_1, e_ald_1, e_inc_1, e_ild_2, e_lld_2, e_ald_2, e_inc_2, e_ild_3, e_lld_3, e_ald_3, e_inc_3, e_ild_4, e_lld_4, e_ald_4, e_inc_4, e_ild_5, e_lld_5, e_ald_5, e_inc_5, e_ild_6, e_lld_6, e_ald_6, e_inc_6, e_ild_7, e_lld_7, e_ald_7, e_inc_7, e_ild_8, e_lld_8, e_ald_8, e_inc_8, e_ild_9, e_lld_9, e_ald_9, e_inc_9, e_ild_10, e_lld_10, e_ald_10, e_inc_10, e_ild_11, e_lld_11, e_ald_11, e_inc_11, e_ild_12, e_lld_12, e_ald_12, e_inc_12, e_ist, e_ast, e_lst, e_sto_0, e_sto_1i, e_sto_1r, e_sto_1u, e_sto_1l, e_sto_2i, e_sto_2r, e_sto_2u, e_sto_2l, e_sto_3i, e_sto_3r, e_sto_3u, e_sto_3l, e_sto_4i, e_sto_4r, e_sto_4u, e_sto_4l, e_sto_5i, e_sto_5r, e_sto_5u, e_sto_5l, e_sto_6i, e_sto_6r, e_sto_6u, e_sto_6l, e_sto_7i, e_sto_7r, e_sto_7u, e_sto_7l, e_sto_8i, e_sto_8r, e_sto_8u, e_sto_8l, e_sto_9i, e_sto_9r, e_sto_9u, e_sto_9l, e_sto_10i, e_sto_10r, e_sto_10u, e_sto_10l, e_sto_11i, e_sto_11r, e_sto_11u, e_sto_11l, e_sto_12i, e_sto_12r, e_sto_12u, e_sto_12l, e_stoL_0, e_stoL_1i, e_stoL_1r, e_stoL_1u, e_stoL_2i, e_stoL_2r, e_stoL_2u, e_stoL_3i, e_stoL_3r, e_stoL_3u, e_stoL_4i, e_stoL_4r, e_stoL_4u, e_stoL_5i, e_stoL_5r, e_stoL_5u, e_stoL_6i, e_stoL_6r, e_stoL_6u, e_stoL_7i, e_stoL_7r, e_stoL_7u, e_stoL_8i, e_stoL_8r, e_stoL_8u, e_stoL_9i, e_stoL_9r, e_stoL_9u, e_stoL_10i, e_stoL_10r, e_stoL_10u, e_stoL_11i, e_stoL_11r, e_stoL_11u, e_stoL_12i, e_stoL_12r, e_stoL_12u, e_ib, e_lb, e_ls, e_ii, e_i2l, e_l2i, e_lcmp, e_idiv, e_irem, e_dup_i, e_dup_r, e_dup2, e_pop, e_ifeq, e_iceq, e_ifne, e_icne, e_iflt, e_iclt, e_ifge, e_icge, e_ifgt, e_icgt, e_ifle, e_icle, e_sw, e_iret, e_nret, e_lret, e_aret, e_vret, e_get, e_puti, e_putl, e_iald, e_zald, e_iast, e_zast, e_lald, e_last, e_alen, e_nald, e_nlen, e_mmax, e_mmin, e_mabs, cont_v, cont_u, e_call0, e_call1, e_call2, e_call3, e_call4, e_call5, e_call6, e_callV0, e_callT0, e_callV1, e_callT1, e_callV2, e_callT2, e_callV3, e_callT3, e_callV4, e_callT4, e_callV5, e_callT5, lin_i, lin_r, lin_l, lin_n, lsz_i, lsz_r, lsz_l, lsz_n, rep_s, rep_0, mEnt_e, hl, if_true, if_false, Bool.false_eq_true, Option.bind_some, List.length_cons, List.length_nil, Nat.reduceAdd, Nat.reduceLeDiff]
theorem s_marginOf (h : HrAt w i j1 j2 j3 P) (hP : PkOK P) {s : Nat} (hs : s < 2 ^ pN P) : FX0_marginOf [.ref i, .int (nI s)] w = some (some (.int (marS P s)), w) := by
  have h' := h
  obtain ⟨fs, bs, ms, ⟨h1, -, -, h2, h2'⟩, -, -, h3⟩ := h'
  have hr : rc 0 i w = true := rc_of h1
  have hN := hP.2.2.2.2.1
  have g4 : gt 0 4 i w = some (.ref j3) := gt_of h1 rfl
  have hlt : ∀ t, s &&& ms t < 2 ^ pN P := fun t => Nat.lt_of_le_of_lt Nat.and_le_left hs
  have hno : ∀ t, t < 12 → ∀ p, sumTo (fun b => if (s &&& ms t).testBit b then bsS P b p else 0) (pN P) = noS P s p t := by
    intro t ht p
    refine sumTo_cong (fun k hk => ?_)
    rw [Nat.testBit_and, h3 t ht k hk]
  obtain ⟨r, k1, k2⟩ := loop_inv (F := fun B9 => i_ild 5 (i_push (.int 12) (i_icge (i_ild 2 (i_iret)) (i_ild 1 (i_ald 0 (i_get 0 4 (i_ild 5 (i_iald (i_ib (fun x y => x &&& y) (i_ist 6 (i_lld 3 (i_ild 6 (i_ls (fun x y => (x.toUInt64 >>> (y.toInt64.toUInt64 &&& Int64.toUInt64 63)).toInt64) (i_push (.long 1) (i_lb (fun x y => x &&& y) (i_push (.long 0) (i_lcmp (i_ifne ((jX0_marginOf_56 B9)) (i_lld 3 (i_push (.long 1) (i_ild 6 (i_ls (fun x y => x <<< (y.toInt64 &&& 63)) (i_lb (fun x y => x ||| y) (i_lst 3 (i_ild 2 (i_ald 0 (i_ild 6 (i_callV 0 1 FX0_marginBy (i_mmin (i_ist 2 ((jX0_marginOf_56 B9))))))))))))))))))))))))))))))))
    (st := []) (L := [.ref i, .int (nI s), .int 999, .long 0, .retAddr 0, .int 0, .retAddr 0]) (w := w) 12
    (fun k st L w' => w' = w ∧ st = [] ∧ ∃ (a : Int32) (J : Nat) (v : Value), IsMin (mgSet P s k) a ∧ J < 2 ^ 64 ∧ (∀ m, m < 64 → (J.testBit m = true ↔ ∃ t, t < k ∧ s &&& ms t = m)) ∧ nR v = (match v with | .int _ => true | _ => false) ∧ L = [.ref i, .int (nI s), .int a, .long (lN J), .retAddr 0, .int (nI k), v])
    (fun r => r = some (some (.int (marS P s)), w))
    ⟨rfl, rfl, 999, 0, .retAddr 0, mgS_is P s 0, by decide, fun m _ => by simp, rfl, rfl⟩
    (by
      rintro k hk st L w1 ⟨rfl, rfl, a, J, v, ha, hJ, hJ2, hv, rfl⟩
      have c1 : ¬ (12 : Int32) ≤ nI k := nI_ge (b := 12) hk (by omega)
      have e1 : ial 0 j3 (nI k) w1 = some (nI (ms k)) := h2.get rfl hk (by omega)
      have hm64 : s &&& ms k < 64 := Nat.lt_of_lt_of_le (hlt k) (two6 hN)
      have e2 := wb_bit hJ (k := s &&& ms k) hm64
      have e5 : ∀ x, sto 6 (.int (nI (s &&& ms k))) [.ref i, .int (nI s), .int a, .long (lN J), .retAddr 0, .int (nI k), x] = [.ref i, .int (nI s), .int a, .long (lN J), .retAddr 0, .int (nI k), .int (nI (s &&& ms k))] := fun _ => rfl
      by_cases c2 : J.testBit (s &&& ms k) = true
      · have c3 : ¬ lg_cmp (lN (J / 2 ^ (s &&& ms k) % 2)) 0 = 0 := by rw [(tb_iff _ _).mp c2]; decide
        refine ⟨[], [.ref i, .int (nI s), .int a, .long (lN J), .retAddr 0, .int (nI (k + 1)), .int (nI (s &&& ms k))], w1, ⟨rfl, rfl, a, J, _, ?_, hJ, ?_, rfl, rfl⟩, fun B => ?_⟩
        · obtain ⟨t, ht, hts⟩ := (hJ2 _ hm64).mp c2
          refine ha.cong (fun x => ?_)
          constructor
          · rintro (z | ⟨u, z1, z2⟩)
            · exact Or.inl z
            · exact Or.inr ⟨u, by omega, z2⟩
          · rintro (z | ⟨u, z1, z2⟩)
            · exact Or.inl z
            · by_cases hu : u = k
              · subst hu
                obtain ⟨p, p1, p2, p3⟩ := z2
                exact Or.inr ⟨t, ht, p, p1, p2, by rw [p3, ← hno u hk, ← hno t (by omega), hts]⟩
              · exact Or.inr ⟨u, by omega, z2⟩
        · intro m hm
          rw [hJ2 m hm]
          constructor
          · rintro ⟨t, z1, z2⟩; exact ⟨t, by omega, z2⟩
          · rintro ⟨t, z1, z2⟩
            by_cases ht : t = k
            · subst ht; rw [z2] at c2; exact (hJ2 m hm).mp c2
            · exact ⟨t, by omega, z2⟩
        · simp only [jX0_marginOf_56, e_push, e_ild_0, e_lld_0, e_ald_0, e_inc_0, e_ild_1, e_lld_1, e_ald_1, e_inc_1, e_ild_2, e_lld_2, e_ald_2, e_inc_2, e_ild_3, e_lld_3, e_ald_3, e_inc_3, e_ild_4, e_lld_4, e_ald_4, e_inc_4, e_ild_5, e_lld_5, e_ald_5, e_inc_5, e_ild_6, e_lld_6, e_ald_6, e_inc_6, e_ild_7, e_lld_7, e_ald_7, e_inc_7, e_ild_8, e_lld_8, e_ald_8, e_inc_8, e_ild_9, e_lld_9, e_ald_9, e_inc_9, e_ild_10, e_lld_10, e_ald_10, e_inc_10, e_ild_11, e_lld_11, e_ald_11, e_inc_11, e_ild_12, e_lld_12, e_ald_12, e_inc_12, e_ist, e_ast, e_lst, e_sto_0, e_sto_1i, e_sto_1r, e_sto_1u, e_sto_1l, e_sto_2i, e_sto_2r, e_sto_2u, e_sto_2l, e_sto_3i, e_sto_3r, e_sto_3u, e_sto_3l, e_sto_4i, e_sto_4r, e_sto_4u, e_sto_4l, e_sto_5i, e_sto_5r, e_sto_5u, e_sto_5l, e_sto_6i, e_sto_6r, e_sto_6u, e_sto_6l, e_sto_7i, e_sto_7r, e_sto_7u, e_sto_7l, e_sto_8i, e_sto_8r, e_sto_8u, e_sto_8l, e_sto_9i, e_sto_9r, e_sto_9u, e_sto_9l, e_sto_10i, e_sto_10r, e_sto_10u, e_sto_10l, e_sto_11i, e_sto_11r, e_sto_11u, e_sto_11l, e_sto_12i, e_sto_12r, e_sto_12u, e_sto_12l, e_stoL_0, e_stoL_1i, e_stoL_1r, e_stoL_1u, e_stoL_2i, e_stoL_2r, e_stoL_2u, e_stoL_3i, e_stoL_3r, e_stoL_3u, e_stoL_4i, e_stoL_4r, e_stoL_4u, e_stoL_5i, e_stoL_5r, e_stoL_5u, e_stoL_6i, e_stoL_6r, e_stoL_6u, e_stoL_7i, e_stoL_7r, e_stoL_7u, e_stoL_8i, e_stoL_8r, e_stoL_8u, e_stoL_9i, e_stoL_9r, e_stoL_9u, e_stoL_10i, e_stoL_10r, e_stoL_10u, e_stoL_11i, e_stoL_11r, e_stoL_11u, e_stoL_12i, e_stoL_12r, e_stoL_12u, e_ib, e_lb, e_ls, e_ii, e_i2l, e_l2i, e_lcmp, e_idiv, e_irem, e_dup_i, e_dup_r, e_dup2, e_pop, e_ifeq, e_iceq, e_ifne, e_icne, e_iflt, e_iclt, e_ifge, e_icge, e_ifgt, e_icgt, e_ifle, e_icle, e_sw, e_iret, e_nret, e_lret, e_aret, e_vret, e_get, e_puti, e_putl, e_iald, e_zald, e_iast, e_zast, e_lald, e_last, e_alen, e_nald, e_nlen, e_mmax, e_mmin, e_mabs, cont_v, cont_u, e_call0, e_call1, e_call2, e_call3, e_call4, e_call5, e_call6, e_callV0, e_callT0, e_callV1, e_callT1, e_callV2, e_callT2, e_callV3, e_callT3, e_callV4, e_callT4, e_callV5, e_callT5, lin_i, lin_r, lin_l, lin_n, lsz_i, lsz_r, lsz_l, lsz_n, rep_s, rep_0, mEnt_e, c1, g4, e1, e5, fa_and, e2, c3, nI_1, if_true, if_false, Bool.false_eq_true, Option.bind_some, List.length_cons, List.length_nil, Nat.reduceAdd, Nat.reduceLeDiff]
      · have c2' : J.testBit (s &&& ms k) = false := by simpa using c2
        have c3 : lg_cmp (lN (J / 2 ^ (s &&& ms k) % 2)) 0 = 0 := by
          have z := (tb_iff0 _ _).mp c2'
          have z2 : J / 2 ^ (s &&& ms k) % 2 = 0 := by omega
          rw [z2]; decide
        have e3 : (1 : Int64) <<< ((nI (s &&& ms k)).toInt64 &&& 63) = lN (2 ^ (s &&& ms k)) := by
          have z := wb_shl 1 (k := s &&& ms k) hm64
          rw [Nat.one_mul] at z; exact z
        have e4 := s_marginBy h hP (hlt k)
        have hfun : (fun p => flS P p - sumTo (fun b => if (s &&& ms k).testBit b then bsS P b p else 0) (pN P)) = (fun p => flS P p - noS P s p k) := funext (fun p => by rw [hno k hk p])
        rw [hfun] at e4
        have hmin := minW_is (g := fun p => flS P p - noS P s p k) (ok := fun p => (pW P).testBit p) (S := fun x => x = 999) (a := 999) ⟨rfl, fun x hx => by rw [hx]; exact Int32.le_refl _⟩ (pn P)
        refine ⟨[], [.ref i, .int (nI s), .int (if minW (fun p => flS P p - noS P s p k) (fun p => (pW P).testBit p) (pn P) 999 < a then minW (fun p => flS P p - noS P s p k) (fun p => (pW P).testBit p) (pn P) 999 else a), .long (lN (J ||| 2 ^ (s &&& ms k))), .retAddr 0, .int (nI (k + 1)), .int (nI (s &&& ms k))], w1, ⟨rfl, rfl, _, J ||| 2 ^ (s &&& ms k), _, ?_, Nat.or_lt_two_pow hJ (Nat.pow_lt_pow_right (by decide) (by omega)), ?_, rfl, rfl⟩, fun B => ?_⟩
        · refine ⟨?_, fun x hx => ?_⟩
          · split
            · rcases hmin.1 with z | ⟨p, z⟩
              · exact Or.inl z
              · exact Or.inr ⟨k, by omega, p, z⟩
            · rcases ha.1 with z | ⟨u, z1, z2⟩
              · exact Or.inl z
              · exact Or.inr ⟨u, by omega, z2⟩
          · have hle1 : (if minW (fun p => flS P p - noS P s p k) (fun p => (pW P).testBit p) (pn P) 999 < a then minW (fun p => flS P p - noS P s p k) (fun p => (pW P).testBit p) (pn P) 999 else a) ≤ a := by
              split
              · rename_i z; exact Int32.le_of_lt z
              · exact Int32.le_refl _
            have hle2 : (if minW (fun p => flS P p - noS P s p k) (fun p => (pW P).testBit p) (pn P) 999 < a then minW (fun p => flS P p - noS P s p k) (fun p => (pW P).testBit p) (pn P) 999 else a) ≤ minW (fun p => flS P p - noS P s p k) (fun p => (pW P).testBit p) (pn P) 999 := by
              split
              · exact Int32.le_refl _
              · rename_i z; exact Int32.not_lt.mp z
            rcases hx with z | ⟨u, z1, z2⟩
            · exact Int32.le_trans hle1 (ha.2 x (Or.inl z))
            · by_cases hu : u = k
              · subst hu
                exact Int32.le_trans hle2 (hmin.2 x (Or.inr z2))
              · exact Int32.le_trans hle1 (ha.2 x (Or.inr ⟨u, by omega, z2⟩))
        · intro m hm
          rw [fb_bit_set, Bool.or_eq_true, hJ2 m hm, decide_eq_true_eq]
          constructor
          · rintro (⟨t, z1, z2⟩ | z)
            · exact ⟨t, by omega, z2⟩
            · exact ⟨k, by omega, z.symm⟩
          · rintro ⟨t, z1, z2⟩
            by_cases ht : t = k
            · subst ht; exact Or.inr z2.symm
            · exact Or.inl ⟨t, by omega, z2⟩
        · simp only [jX0_marginOf_56, e_push, e_ild_0, e_lld_0, e_ald_0, e_inc_0, e_ild_1, e_lld_1, e_ald_1, e_inc_1, e_ild_2, e_lld_2, e_ald_2, e_inc_2, e_ild_3, e_lld_3, e_ald_3, e_inc_3, e_ild_4, e_lld_4, e_ald_4, e_inc_4, e_ild_5, e_lld_5, e_ald_5, e_inc_5, e_ild_6, e_lld_6, e_ald_6, e_inc_6, e_ild_7, e_lld_7, e_ald_7, e_inc_7, e_ild_8, e_lld_8, e_ald_8, e_inc_8, e_ild_9, e_lld_9, e_ald_9, e_inc_9, e_ild_10, e_lld_10, e_ald_10, e_inc_10, e_ild_11, e_lld_11, e_ald_11, e_inc_11, e_ild_12, e_lld_12, e_ald_12, e_inc_12, e_ist, e_ast, e_lst, e_sto_0, e_sto_1i, e_sto_1r, e_sto_1u, e_sto_1l, e_sto_2i, e_sto_2r, e_sto_2u, e_sto_2l, e_sto_3i, e_sto_3r, e_sto_3u, e_sto_3l, e_sto_4i, e_sto_4r, e_sto_4u, e_sto_4l, e_sto_5i, e_sto_5r, e_sto_5u, e_sto_5l, e_sto_6i, e_sto_6r, e_sto_6u, e_sto_6l, e_sto_7i, e_sto_7r, e_sto_7u, e_sto_7l, e_sto_8i, e_sto_8r, e_sto_8u, e_sto_8l, e_sto_9i, e_sto_9r, e_sto_9u, e_sto_9l, e_sto_10i, e_sto_10r, e_sto_10u, e_sto_10l, e_sto_11i, e_sto_11r, e_sto_11u, e_sto_11l, e_sto_12i, e_sto_12r, e_sto_12u, e_sto_12l, e_stoL_0, e_stoL_1i, e_stoL_1r, e_stoL_1u, e_stoL_2i, e_stoL_2r, e_stoL_2u, e_stoL_3i, e_stoL_3r, e_stoL_3u, e_stoL_4i, e_stoL_4r, e_stoL_4u, e_stoL_5i, e_stoL_5r, e_stoL_5u, e_stoL_6i, e_stoL_6r, e_stoL_6u, e_stoL_7i, e_stoL_7r, e_stoL_7u, e_stoL_8i, e_stoL_8r, e_stoL_8u, e_stoL_9i, e_stoL_9r, e_stoL_9u, e_stoL_10i, e_stoL_10r, e_stoL_10u, e_stoL_11i, e_stoL_11r, e_stoL_11u, e_stoL_12i, e_stoL_12r, e_stoL_12u, e_ib, e_lb, e_ls, e_ii, e_i2l, e_l2i, e_lcmp, e_idiv, e_irem, e_dup_i, e_dup_r, e_dup2, e_pop, e_ifeq, e_iceq, e_ifne, e_icne, e_iflt, e_iclt, e_ifge, e_icge, e_ifgt, e_icgt, e_ifle, e_icle, e_sw, e_iret, e_nret, e_lret, e_aret, e_vret, e_get, e_puti, e_putl, e_iald, e_zald, e_iast, e_zast, e_lald, e_last, e_alen, e_nald, e_nlen, e_mmax, e_mmin, e_mabs, cont_v, cont_u, e_call0, e_call1, e_call2, e_call3, e_call4, e_call5, e_call6, e_callV0, e_callT0, e_callV1, e_callT1, e_callV2, e_callT2, e_callV3, e_callT3, e_callV4, e_callT4, e_callV5, e_callT5, lin_i, lin_r, lin_l, lin_n, lsz_i, lsz_r, lsz_l, lsz_n, rep_s, rep_0, mEnt_e, c1, g4, e1, e5, fa_and, e2, c3, e3, hr, e4, fb_orL, nI_1, if_true, if_false, Bool.false_eq_true, Option.bind_some, List.length_cons, List.length_nil, Nat.reduceAdd, Nat.reduceLeDiff])
    (by
      rintro st L w1 ⟨rfl, rfl, a, J, v, ha, hJ, hJ2, hv, rfl⟩
      refine ⟨_, rfl, fun B => ?_⟩
      have c1 : (12 : Int32) ≤ nI 12 := by decide
      have e1 : a = marS P s := ha.one (mgS_is P s 12)
      simp only [e_push, e_ild_0, e_lld_0, e_ald_0, e_inc_0, e_ild_1, e_lld_1, e_ald_1, e_inc_1, e_ild_2, e_lld_2, e_ald_2, e_inc_2, e_ild_3, e_lld_3, e_ald_3, e_inc_3, e_ild_4, e_lld_4, e_ald_4, e_inc_4, e_ild_5, e_lld_5, e_ald_5, e_inc_5, e_ild_6, e_lld_6, e_ald_6, e_inc_6, e_ild_7, e_lld_7, e_ald_7, e_inc_7, e_ild_8, e_lld_8, e_ald_8, e_inc_8, e_ild_9, e_lld_9, e_ald_9, e_inc_9, e_ild_10, e_lld_10, e_ald_10, e_inc_10, e_ild_11, e_lld_11, e_ald_11, e_inc_11, e_ild_12, e_lld_12, e_ald_12, e_inc_12, e_ist, e_ast, e_lst, e_sto_0, e_sto_1i, e_sto_1r, e_sto_1u, e_sto_1l, e_sto_2i, e_sto_2r, e_sto_2u, e_sto_2l, e_sto_3i, e_sto_3r, e_sto_3u, e_sto_3l, e_sto_4i, e_sto_4r, e_sto_4u, e_sto_4l, e_sto_5i, e_sto_5r, e_sto_5u, e_sto_5l, e_sto_6i, e_sto_6r, e_sto_6u, e_sto_6l, e_sto_7i, e_sto_7r, e_sto_7u, e_sto_7l, e_sto_8i, e_sto_8r, e_sto_8u, e_sto_8l, e_sto_9i, e_sto_9r, e_sto_9u, e_sto_9l, e_sto_10i, e_sto_10r, e_sto_10u, e_sto_10l, e_sto_11i, e_sto_11r, e_sto_11u, e_sto_11l, e_sto_12i, e_sto_12r, e_sto_12u, e_sto_12l, e_stoL_0, e_stoL_1i, e_stoL_1r, e_stoL_1u, e_stoL_2i, e_stoL_2r, e_stoL_2u, e_stoL_3i, e_stoL_3r, e_stoL_3u, e_stoL_4i, e_stoL_4r, e_stoL_4u, e_stoL_5i, e_stoL_5r, e_stoL_5u, e_stoL_6i, e_stoL_6r, e_stoL_6u, e_stoL_7i, e_stoL_7r, e_stoL_7u, e_stoL_8i, e_stoL_8r, e_stoL_8u, e_stoL_9i, e_stoL_9r, e_stoL_9u, e_stoL_10i, e_stoL_10r, e_stoL_10u, e_stoL_11i, e_stoL_11r, e_stoL_11u, e_stoL_12i, e_stoL_12r, e_stoL_12u, e_ib, e_lb, e_ls, e_ii, e_i2l, e_l2i, e_lcmp, e_idiv, e_irem, e_dup_i, e_dup_r, e_dup2, e_pop, e_ifeq, e_iceq, e_ifne, e_icne, e_iflt, e_iclt, e_ifge, e_icge, e_ifgt, e_icgt, e_ifle, e_icle, e_sw, e_iret, e_nret, e_lret, e_aret, e_vret, e_get, e_puti, e_putl, e_iald, e_zald, e_iast, e_zast, e_lald, e_last, e_alen, e_nald, e_nlen, e_mmax, e_mmin, e_mabs, cont_v, cont_u, e_call0, e_call1, e_call2, e_call3, e_call4, e_call5, e_call6, e_callV0, e_callT0, e_callV1, e_callT1, e_callV2, e_callT2, e_callV3, e_callT3, e_callV4, e_callT4, e_callV5, e_callT5, lin_i, lin_r, lin_l, lin_n, lsz_i, lsz_r, lsz_l, lsz_n, rep_s, rep_0, mEnt_e, c1, e1, if_true, if_false, Bool.false_eq_true, Option.bind_some, List.length_cons, List.length_nil, Nat.reduceAdd, Nat.reduceLeDiff]) 1000 (by omega)
  have k3 : jX0_marginOf_9 [] [.ref i, .int (nI s), .int 999, .long 0, .retAddr 0, .int 0, .retAddr 0] w = some (some (.int (marS P s)), w) := k1.trans k2
  simp only [FX0_marginOf, jX0_marginOf_56, jX0_marginOf, e_push, e_ild_0, e_lld_0, e_ald_0, e_inc_0, e_ild_1, e_lld_1, e_ald_1, e_inc_1, e_ild_2, e_lld_2, e_ald_2, e_inc_2, e_ild_3, e_lld_3, e_ald_3, e_inc_3, e_ild_4, e_lld_4, e_ald_4, e_inc_4, e_ild_5, e_lld_5, e_ald_5, e_inc_5, e_ild_6, e_lld_6, e_ald_6, e_inc_6, e_ild_7, e_lld_7, e_ald_7, e_inc_7, e_ild_8, e_lld_8, e_ald_8, e_inc_8, e_ild_9, e_lld_9, e_ald_9, e_inc_9, e_ild_10, e_lld_10, e_ald_10, e_inc_10, e_ild_11, e_lld_11, e_ald_11, e_inc_11, e_ild_12, e_lld_12, e_ald_12, e_inc_12, e_ist, e_ast, e_lst, e_sto_0, e_sto_1i, e_sto_1r, e_sto_1u, e_sto_1l, e_sto_2i, e_sto_2r, e_sto_2u, e_sto_2l, e_sto_3i, e_sto_3r, e_sto_3u, e_sto_3l, e_sto_4i, e_sto_4r, e_sto_4u, e_sto_4l, e_sto_5i, e_sto_5r, e_sto_5u, e_sto_5l, e_sto_6i, e_sto_6r, e_sto_6u, e_sto_6l, e_sto_7i, e_sto_7r, e_sto_7u, e_sto_7l, e_sto_8i, e_sto_8r, e_sto_8u, e_sto_8l, e_sto_9i, e_sto_9r, e_sto_9u, e_sto_9l, e_sto_10i, e_sto_10r, e_sto_10u, e_sto_10l, e_sto_11i, e_sto_11r, e_sto_11u, e_sto_11l, e_sto_12i, e_sto_12r, e_sto_12u, e_sto_12l, e_stoL_0, e_stoL_1i, e_stoL_1r, e_stoL_1u, e_stoL_2i, e_stoL_2r, e_stoL_2u, e_stoL_3i, e_stoL_3r, e_stoL_3u, e_stoL_4i, e_stoL_4r, e_stoL_4u, e_stoL_5i, e_stoL_5r, e_stoL_5u, e_stoL_6i, e_stoL_6r, e_stoL_6u, e_stoL_7i, e_stoL_7r, e_stoL_7u, e_stoL_8i, e_stoL_8r, e_stoL_8u, e_stoL_9i, e_stoL_9r, e_stoL_9u, e_stoL_10i, e_stoL_10r, e_stoL_10u, e_stoL_11i, e_stoL_11r, e_stoL_11u, e_stoL_12i, e_stoL_12r, e_stoL_12u, e_ib, e_lb, e_ls, e_ii, e_i2l, e_l2i, e_lcmp, e_idiv, e_irem, e_dup_i, e_dup_r, e_dup2, e_pop, e_ifeq, e_iceq, e_ifne, e_icne, e_iflt, e_iclt, e_ifge, e_icge, e_ifgt, e_icgt, e_ifle, e_icle, e_sw, e_iret, e_nret, e_lret, e_aret, e_vret, e_get, e_puti, e_putl, e_iald, e_zald, e_iast, e_zast, e_lald, e_last, e_alen, e_nald, e_nlen, e_mmax, e_mmin, e_mabs, cont_v, cont_u, e_call0, e_call1, e_call2, e_call3, e_call4, e_call5, e_call6, e_callV0, e_callT0, e_callV1, e_callT1, e_callV2, e_callT2, e_callV3, e_callT3, e_callV4, e_callT4, e_callV5, e_callT5, lin_i, lin_r, lin_l, lin_n, lsz_i, lsz_r, lsz_l, lsz_n, rep_s, rep_0, mEnt_e, k3, if_true, if_false, Bool.false_eq_true, Option.bind_some, List.length_cons, List.length_nil, Nat.reduceAdd, Nat.reduceLeDiff]
theorem s_holds (h : HrAt w i j1 j2 j3 P) (hP : PkOK P) {s : Nat} (hs : s < 2 ^ pN P) : FX0_holds [.ref i, .int (nI s)] w = some (some (.int (if holdS P s then 1 else 0)), w) := by
  have h' := h
  obtain ⟨fs, bs, ms, ⟨h1, -⟩, -⟩ := h'
  have hr : rc 0 i w = true := rc_of h1
  by_cases c : 0 < marS P s
  · have c' : ¬ marS P s ≤ 0 := Int32.not_le.mpr c
    simp [FX0_holds, jX0_holds_13, jX0_holds, e_push, e_ild_0, e_lld_0, e_ald_0, e_inc_0, e_ild_1, e_lld_1, e_ald_1, e_inc_1, e_ild_2, e_lld_2, e_ald_2, e_inc_2, e_ild_3, e_lld_3, e_ald_3, e_inc_3, e_ild_4, e_lld_4, e_ald_4, e_inc_4, e_ild_5, e_lld_5, e_ald_5, e_inc_5, e_ild_6, e_lld_6, e_ald_6, e_inc_6, e_ild_7, e_lld_7, e_ald_7, e_inc_7, e_ild_8, e_lld_8, e_ald_8, e_inc_8, e_ild_9, e_lld_9, e_ald_9, e_inc_9, e_ild_10, e_lld_10, e_ald_10, e_inc_10, e_ild_11, e_lld_11, e_ald_11, e_inc_11, e_ild_12, e_lld_12, e_ald_12, e_inc_12, e_ist, e_ast, e_lst, e_sto_0, e_sto_1i, e_sto_1r, e_sto_1u, e_sto_1l, e_sto_2i, e_sto_2r, e_sto_2u, e_sto_2l, e_sto_3i, e_sto_3r, e_sto_3u, e_sto_3l, e_sto_4i, e_sto_4r, e_sto_4u, e_sto_4l, e_sto_5i, e_sto_5r, e_sto_5u, e_sto_5l, e_sto_6i, e_sto_6r, e_sto_6u, e_sto_6l, e_sto_7i, e_sto_7r, e_sto_7u, e_sto_7l, e_sto_8i, e_sto_8r, e_sto_8u, e_sto_8l, e_sto_9i, e_sto_9r, e_sto_9u, e_sto_9l, e_sto_10i, e_sto_10r, e_sto_10u, e_sto_10l, e_sto_11i, e_sto_11r, e_sto_11u, e_sto_11l, e_sto_12i, e_sto_12r, e_sto_12u, e_sto_12l, e_stoL_0, e_stoL_1i, e_stoL_1r, e_stoL_1u, e_stoL_2i, e_stoL_2r, e_stoL_2u, e_stoL_3i, e_stoL_3r, e_stoL_3u, e_stoL_4i, e_stoL_4r, e_stoL_4u, e_stoL_5i, e_stoL_5r, e_stoL_5u, e_stoL_6i, e_stoL_6r, e_stoL_6u, e_stoL_7i, e_stoL_7r, e_stoL_7u, e_stoL_8i, e_stoL_8r, e_stoL_8u, e_stoL_9i, e_stoL_9r, e_stoL_9u, e_stoL_10i, e_stoL_10r, e_stoL_10u, e_stoL_11i, e_stoL_11r, e_stoL_11u, e_stoL_12i, e_stoL_12r, e_stoL_12u, e_ib, e_lb, e_ls, e_ii, e_i2l, e_l2i, e_lcmp, e_idiv, e_irem, e_dup_i, e_dup_r, e_dup2, e_pop, e_ifeq, e_iceq, e_ifne, e_icne, e_iflt, e_iclt, e_ifge, e_icge, e_ifgt, e_icgt, e_ifle, e_icle, e_sw, e_iret, e_nret, e_lret, e_aret, e_vret, e_get, e_puti, e_putl, e_iald, e_zald, e_iast, e_zast, e_lald, e_last, e_alen, e_nald, e_nlen, e_mmax, e_mmin, e_mabs, cont_v, cont_u, e_call0, e_call1, e_call2, e_call3, e_call4, e_call5, e_call6, e_callV0, e_callT0, e_callV1, e_callT1, e_callV2, e_callT2, e_callV3, e_callT3, e_callV4, e_callT4, e_callV5, e_callT5, lin_i, lin_r, lin_l, lin_n, lsz_i, lsz_r, lsz_l, lsz_n, rep_s, rep_0, mEnt_e, hr, s_marginOf h hP hs, c, c', holdS, nrb1]
  · have c' : marS P s ≤ 0 := Int32.not_lt.mp c
    simp [FX0_holds, jX0_holds_13, jX0_holds, e_push, e_ild_0, e_lld_0, e_ald_0, e_inc_0, e_ild_1, e_lld_1, e_ald_1, e_inc_1, e_ild_2, e_lld_2, e_ald_2, e_inc_2, e_ild_3, e_lld_3, e_ald_3, e_inc_3, e_ild_4, e_lld_4, e_ald_4, e_inc_4, e_ild_5, e_lld_5, e_ald_5, e_inc_5, e_ild_6, e_lld_6, e_ald_6, e_inc_6, e_ild_7, e_lld_7, e_ald_7, e_inc_7, e_ild_8, e_lld_8, e_ald_8, e_inc_8, e_ild_9, e_lld_9, e_ald_9, e_inc_9, e_ild_10, e_lld_10, e_ald_10, e_inc_10, e_ild_11, e_lld_11, e_ald_11, e_inc_11, e_ild_12, e_lld_12, e_ald_12, e_inc_12, e_ist, e_ast, e_lst, e_sto_0, e_sto_1i, e_sto_1r, e_sto_1u, e_sto_1l, e_sto_2i, e_sto_2r, e_sto_2u, e_sto_2l, e_sto_3i, e_sto_3r, e_sto_3u, e_sto_3l, e_sto_4i, e_sto_4r, e_sto_4u, e_sto_4l, e_sto_5i, e_sto_5r, e_sto_5u, e_sto_5l, e_sto_6i, e_sto_6r, e_sto_6u, e_sto_6l, e_sto_7i, e_sto_7r, e_sto_7u, e_sto_7l, e_sto_8i, e_sto_8r, e_sto_8u, e_sto_8l, e_sto_9i, e_sto_9r, e_sto_9u, e_sto_9l, e_sto_10i, e_sto_10r, e_sto_10u, e_sto_10l, e_sto_11i, e_sto_11r, e_sto_11u, e_sto_11l, e_sto_12i, e_sto_12r, e_sto_12u, e_sto_12l, e_stoL_0, e_stoL_1i, e_stoL_1r, e_stoL_1u, e_stoL_2i, e_stoL_2r, e_stoL_2u, e_stoL_3i, e_stoL_3r, e_stoL_3u, e_stoL_4i, e_stoL_4r, e_stoL_4u, e_stoL_5i, e_stoL_5r, e_stoL_5u, e_stoL_6i, e_stoL_6r, e_stoL_6u, e_stoL_7i, e_stoL_7r, e_stoL_7u, e_stoL_8i, e_stoL_8r, e_stoL_8u, e_stoL_9i, e_stoL_9r, e_stoL_9u, e_stoL_10i, e_stoL_10r, e_stoL_10u, e_stoL_11i, e_stoL_11r, e_stoL_11u, e_stoL_12i, e_stoL_12r, e_stoL_12u, e_ib, e_lb, e_ls, e_ii, e_i2l, e_l2i, e_lcmp, e_idiv, e_irem, e_dup_i, e_dup_r, e_dup2, e_pop, e_ifeq, e_iceq, e_ifne, e_icne, e_iflt, e_iclt, e_ifge, e_icge, e_ifgt, e_icgt, e_ifle, e_icle, e_sw, e_iret, e_nret, e_lret, e_aret, e_vret, e_get, e_puti, e_putl, e_iald, e_zald, e_iast, e_zast, e_lald, e_last, e_alen, e_nald, e_nlen, e_mmax, e_mmin, e_mabs, cont_v, cont_u, e_call0, e_call1, e_call2, e_call3, e_call4, e_call5, e_call6, e_callV0, e_callT0, e_callV1, e_callT1, e_callV2, e_callT2, e_callV3, e_callT3, e_callV4, e_callT4, e_callV5, e_callT5, lin_i, lin_r, lin_l, lin_n, lsz_i, lsz_r, lsz_l, lsz_n, rep_s, rep_0, mEnt_e, hr, s_marginOf h hP hs, c, c', holdS, nrb0]
end HEAR3
