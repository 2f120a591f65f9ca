/-! hedged -/
def setH (P : Pk) (H : Nat) : Pk := (pC P, pR P, pN P, pf P, pl P, pp P, pW P, H, pT P)
theorem setH_ok {P : Pk} (hP : PkOK P) {H : Nat} (h : H < 2 ^ pn P) : PkOK (setH P H) := by
  obtain ⟨h1, h2, h3, h4, h5, h6, h7, h8, h9⟩ := hP
  exact ⟨h1, h2, h3, h4, h5, h6, h7, h, h9⟩
/-- good: places for hedges with which the licensed hold -/
def gdS (P : Pk) (s x : Nat) : Bool := holdS (setH P (pH P ||| x)) s
def oL (o : Option Nat) : Int64 := match o with
  | none => -1
  | some b => lN b
def GK (P : Pk) (s : Nat) (k x : Nat) : Prop := (∃ c, c < k ∧ x = anS (placesS P c (pN P)) (pH P)) ∧ gdS P s x = true
theorem lg0 {x : Nat} (h : x < 2 ^ 62) : ¬ lg_cmp (lN x) (-1) = 0 := by
  intro z
  have e : lN x = -1 := by
    rw [lg_cmp] at z
    split at z
    · exact absurd z (by decide)
    · split at z
      · assumption
      · exact absurd z (by decide)
  have e2 := wb_tn (n := x) (by omega)
  rw [e] at e2
  have e3 : (-1 : Int64).toBitVec.toNat = 2 ^ 64 - 1 := by decide
  omega
def hgS (x : Int32) (o : Option Nat) : Int64 := match o with
  | none => -1
  | some b => if x = 0 then (nI (cnt b)).toInt64 else lN b
section API9
variable {w : List va_E} {P : Pk} {lic : Nat} {wh : Int32} {hr ln : Nat} {tb : Nat → Int32} {sc : Nat} {sp sh sg : Nat → Int32} {kp : Kp}
theorem s_areFewer {a b : Nat} (ha : a < 2 ^ 36) (hb : b < 2 ^ 36) : FX4_areFewer [.long (lN a), .long (lN b)] w = some (some (.int (if cnt a < cnt b ∨ (cnt a = cnt b ∧ a < b) then 1 else 0)), w) := by
  have e1 := j_bitCount (w := w) (x := a) (by omega)
  have e2 := j_bitCount (w := w) (x := b) (by omega)
  have h1 : cnt a ≤ 40 := fb_ct_le _ _
  have h2 : cnt b ≤ 40 := fb_ct_le _ _
  have k1 : (nI (cnt b) - nI (cnt a) ≤ 0) ↔ ¬ cnt a < cnt b := by
    rw [Int32.le_iff_toInt_le, fb_subI (by rw [nI_toInt (by omega), nI_toInt (by omega)]; omega) (by rw [nI_toInt (by omega), nI_toInt (by omega)]; omega), nI_toInt (by omega), nI_toInt (by omega)]
    have : (0 : Int32).toInt = 0 := by decide
    omega
  have k2 : (nI (cnt b) - nI (cnt a) = 0) ↔ cnt a = cnt b := by
    rw [← Int32.toInt_inj, fb_subI (by rw [nI_toInt (by omega), nI_toInt (by omega)]; omega) (by rw [nI_toInt (by omega), nI_toInt (by omega)]; omega), nI_toInt (by omega), nI_toInt (by omega)]
    have : (0 : Int32).toInt = 0 := by decide
    omega
  have k1' : (0 < nI (cnt b) - nI (cnt a)) ↔ cnt a < cnt b := by
    rw [← Int32.not_le, k1]; exact Classical.not_not
  have k3 : (0 ≤ lg_cmp (lN a) (lN b)) ↔ ¬ a < b := by
    have la : lN b < lN a ↔ b < a := by
      rw [Int64.lt_iff_toInt_lt, lN_ti (by omega), lN_ti (by omega), if_pos (by omega), if_pos (by omega)]
      omega
    have le : lN a = lN b ↔ a = b := fb_lN_inj (by omega) (by omega)
    have y1 : (0 : Int32) ≤ 1 := by decide
    have y2 : ¬ (0 : Int32) ≤ -1 := by decide
    rw [lg_cmp]
    by_cases c : b < a
    · rw [if_pos (show lN a > lN b from la.mpr c)]
      exact ⟨fun _ => by omega, fun _ => y1⟩
    · rw [if_neg (show ¬ lN a > lN b from fun z => c (la.mp z))]
      by_cases c2 : a = b
      · rw [if_pos (le.mpr c2)]
        exact ⟨fun _ => by omega, fun _ => Int32.le_refl _⟩
      · rw [if_neg (fun z => c2 (le.mp z))]
        exact ⟨fun z => absurd z y2, fun z => by omega⟩
  have n10 : ¬ (1 : Int32) = 0 := by decide
  by_cases c1 : cnt a < cnt b
  · have d1 := k1'.mpr c1
    have d1' : ¬ nI (cnt b) - nI (cnt a) ≤ 0 := fun z => (k1.mp z) c1
    have c3 : cnt a < cnt b ∨ (cnt a = cnt b ∧ a < b) := Or.inl c1
    rw [if_pos c3]
    simp only [FX4_areFewer, jX4_areFewer_32, jX4_areFewer_31, jX4_areFewer_27, jX4_areFewer, e_push, e_ild_0, e_lld_0, e_ald_0, e_inc_0, e_ild_1, e_lld_1, e_ald_1, e_inc_1, e_ild_2, e_lld_2, e_ald_2, e_inc_2, e_ild_3, e_lld_3, e_ald_3, e_inc_3, e_ild_4, e_lld_4, e_ald_4, e_inc_4, e_ild_5, e_lld_5, e_ald_5, e_inc_5, e_ild_6, e_lld_6, e_ald_6, e_inc_6, e_ild_7, e_lld_7, e_ald_7, e_inc_7, e_ild_8, e_lld_8, e_ald_8, e_inc_8, e_ild_9, e_lld_9, e_ald_9, e_inc_9, e_ild_10, e_lld_10, e_ald_10, e_inc_10, e_ild_11, e_lld_11, e_ald_11, e_inc_11, e_ild_12, e_lld_12, e_ald_12, e_inc_12, e_ist, e_ast, e_lst, e_sto_0, e_sto_1i, e_sto_1r, e_sto_1u, e_sto_1l, e_sto_2i, e_sto_2r, e_sto_2u, e_sto_2l, e_sto_3i, e_sto_3r, e_sto_3u, e_sto_3l, e_sto_4i, e_sto_4r, e_sto_4u, e_sto_4l, e_sto_5i, e_sto_5r, e_sto_5u, e_sto_5l, e_sto_6i, e_sto_6r, e_sto_6u, e_sto_6l, e_sto_7i, e_sto_7r, e_sto_7u, e_sto_7l, e_sto_8i, e_sto_8r, e_sto_8u, e_sto_8l, e_sto_9i, e_sto_9r, e_sto_9u, e_sto_9l, e_sto_10i, e_sto_10r, e_sto_10u, e_sto_10l, e_sto_11i, e_sto_11r, e_sto_11u, e_sto_11l, e_sto_12i, e_sto_12r, e_sto_12u, e_sto_12l, e_stoL_0, e_stoL_1i, e_stoL_1r, e_stoL_1u, e_stoL_2i, e_stoL_2r, e_stoL_2u, e_stoL_3i, e_stoL_3r, e_stoL_3u, e_stoL_4i, e_stoL_4r, e_stoL_4u, e_stoL_5i, e_stoL_5r, e_stoL_5u, e_stoL_6i, e_stoL_6r, e_stoL_6u, e_stoL_7i, e_stoL_7r, e_stoL_7u, e_stoL_8i, e_stoL_8r, e_stoL_8u, e_stoL_9i, e_stoL_9r, e_stoL_9u, e_stoL_10i, e_stoL_10r, e_stoL_10u, e_stoL_11i, e_stoL_11r, e_stoL_11u, e_stoL_12i, e_stoL_12r, e_stoL_12u, e_ib, e_lb, e_ls, e_ii, e_i2l, e_l2i, e_lcmp, e_idiv, e_irem, e_dup_i, e_dup_r, e_dup2, e_pop, e_ifeq, e_iceq, e_ifne, e_icne, e_iflt, e_iclt, e_ifge, e_icge, e_ifgt, e_icgt, e_ifle, e_icle, e_sw, e_iret, e_nret, e_lret, e_aret, e_vret, e_get, e_puti, e_putl, e_iald, e_zald, e_iast, e_zast, e_lald, e_last, e_alen, e_nald, e_nlen, e_mmax, e_mmin, e_mabs, cont_v, cont_u, e_call0, e_call1, e_call2, e_call3, e_call4, e_call5, e_call6, e_callV0, e_callT0, e_callV1, e_callT1, e_callV2, e_callT2, e_callV3, e_callT3, e_callV4, e_callT4, e_callV5, e_callT5, lin_i, lin_r, lin_l, lin_n, lsz_i, lsz_r, lsz_l, lsz_n, rep_s, rep_0, mEnt_e, e1, e2, d1, d1', nrb1, if_true, if_false, Bool.false_eq_true, Option.bind_some, List.length_cons, List.length_nil, Nat.reduceAdd, Nat.reduceLeDiff]
  · have d1 : ¬ 0 < nI (cnt b) - nI (cnt a) := fun z => c1 (k1'.mp z)
    have d1' := k1.mpr c1
    by_cases c2 : cnt a = cnt b
    · have d2 := k2.mpr c2
      by_cases c4 : a < b
      · have d3 : ¬ 0 ≤ lg_cmp (lN a) (lN b) := fun z => (k3.mp z) c4
        have c3 : cnt a < cnt b ∨ (cnt a = cnt b ∧ a < b) := Or.inr ⟨c2, c4⟩
        rw [if_pos c3]
        simp only [FX4_areFewer, jX4_areFewer_32, jX4_areFewer_31, jX4_areFewer_27, jX4_areFewer, e_push, e_ild_0, e_lld_0, e_ald_0, e_inc_0, e_ild_1, e_lld_1, e_ald_1, e_inc_1, e_ild_2, e_lld_2, e_ald_2, e_inc_2, e_ild_3, e_lld_3, e_ald_3, e_inc_3, e_ild_4, e_lld_4, e_ald_4, e_inc_4, e_ild_5, e_lld_5, e_ald_5, e_inc_5, e_ild_6, e_lld_6, e_ald_6, e_inc_6, e_ild_7, e_lld_7, e_ald_7, e_inc_7, e_ild_8, e_lld_8, e_ald_8, e_inc_8, e_ild_9, e_lld_9, e_ald_9, e_inc_9, e_ild_10, e_lld_10, e_ald_10, e_inc_10, e_ild_11, e_lld_11, e_ald_11, e_inc_11, e_ild_12, e_lld_12, e_ald_12, e_inc_12, e_ist, e_ast, e_lst, e_sto_0, e_sto_1i, e_sto_1r, e_sto_1u, e_sto_1l, e_sto_2i, e_sto_2r, e_sto_2u, e_sto_2l, e_sto_3i, e_sto_3r, e_sto_3u, e_sto_3l, e_sto_4i, e_sto_4r, e_sto_4u, e_sto_4l, e_sto_5i, e_sto_5r, e_sto_5u, e_sto_5l, e_sto_6i, e_sto_6r, e_sto_6u, e_sto_6l, e_sto_7i, e_sto_7r, e_sto_7u, e_sto_7l, e_sto_8i, e_sto_8r, e_sto_8u, e_sto_8l, e_sto_9i, e_sto_9r, e_sto_9u, e_sto_9l, e_sto_10i, e_sto_10r, e_sto_10u, e_sto_10l, e_sto_11i, e_sto_11r, e_sto_11u, e_sto_11l, e_sto_12i, e_sto_12r, e_sto_12u, e_sto_12l, e_stoL_0, e_stoL_1i, e_stoL_1r, e_stoL_1u, e_stoL_2i, e_stoL_2r, e_stoL_2u, e_stoL_3i, e_stoL_3r, e_stoL_3u, e_stoL_4i, e_stoL_4r, e_stoL_4u, e_stoL_5i, e_stoL_5r, e_stoL_5u, e_stoL_6i, e_stoL_6r, e_stoL_6u, e_stoL_7i, e_stoL_7r, e_stoL_7u, e_stoL_8i, e_stoL_8r, e_stoL_8u, e_stoL_9i, e_stoL_9r, e_stoL_9u, e_stoL_10i, e_stoL_10r, e_stoL_10u, e_stoL_11i, e_stoL_11r, e_stoL_11u, e_stoL_12i, e_stoL_12r, e_stoL_12u, e_ib, e_lb, e_ls, e_ii, e_i2l, e_l2i, e_lcmp, e_idiv, e_irem, e_dup_i, e_dup_r, e_dup2, e_pop, e_ifeq, e_iceq, e_ifne, e_icne, e_iflt, e_iclt, e_ifge, e_icge, e_ifgt, e_icgt, e_ifle, e_icle, e_sw, e_iret, e_nret, e_lret, e_aret, e_vret, e_get, e_puti, e_putl, e_iald, e_zald, e_iast, e_zast, e_lald, e_last, e_alen, e_nald, e_nlen, e_mmax, e_mmin, e_mabs, cont_v, cont_u, e_call0, e_call1, e_call2, e_call3, e_call4, e_call5, e_call6, e_callV0, e_callT0, e_callV1, e_callT1, e_callV2, e_callT2, e_callV3, e_callT3, e_callV4, e_callT4, e_callV5, e_callT5, lin_i, lin_r, lin_l, lin_n, lsz_i, lsz_r, lsz_l, lsz_n, rep_s, rep_0, mEnt_e, e1, e2, d1, d1', d2, d3, nrb1, if_true, if_false, Bool.false_eq_true, Option.bind_some, List.length_cons, List.length_nil, Nat.reduceAdd, Nat.reduceLeDiff]
        simp [nrb1]
      · have d3 := k3.mpr c4
        have c3 : ¬ (cnt a < cnt b ∨ (cnt a = cnt b ∧ a < b)) := by omega
        rw [if_neg c3]
        simp only [FX4_areFewer, jX4_areFewer_32, jX4_areFewer_31, jX4_areFewer_27, jX4_areFewer, e_push, e_ild_0, e_lld_0, e_ald_0, e_inc_0, e_ild_1, e_lld_1, e_ald_1, e_inc_1, e_ild_2, e_lld_2, e_ald_2, e_inc_2, e_ild_3, e_lld_3, e_ald_3, e_inc_3, e_ild_4, e_lld_4, e_ald_4, e_inc_4, e_ild_5, e_lld_5, e_ald_5, e_inc_5, e_ild_6, e_lld_6, e_ald_6, e_inc_6, e_ild_7, e_lld_7, e_ald_7, e_inc_7, e_ild_8, e_lld_8, e_ald_8, e_inc_8, e_ild_9, e_lld_9, e_ald_9, e_inc_9, e_ild_10, e_lld_10, e_ald_10, e_inc_10, e_ild_11, e_lld_11, e_ald_11, e_inc_11, e_ild_12, e_lld_12, e_ald_12, e_inc_12, e_ist, e_ast, e_lst, e_sto_0, e_sto_1i, e_sto_1r, e_sto_1u, e_sto_1l, e_sto_2i, e_sto_2r, e_sto_2u, e_sto_2l, e_sto_3i, e_sto_3r, e_sto_3u, e_sto_3l, e_sto_4i, e_sto_4r, e_sto_4u, e_sto_4l, e_sto_5i, e_sto_5r, e_sto_5u, e_sto_5l, e_sto_6i, e_sto_6r, e_sto_6u, e_sto_6l, e_sto_7i, e_sto_7r, e_sto_7u, e_sto_7l, e_sto_8i, e_sto_8r, e_sto_8u, e_sto_8l, e_sto_9i, e_sto_9r, e_sto_9u, e_sto_9l, e_sto_10i, e_sto_10r, e_sto_10u, e_sto_10l, e_sto_11i, e_sto_11r, e_sto_11u, e_sto_11l, e_sto_12i, e_sto_12r, e_sto_12u, e_sto_12l, e_stoL_0, e_stoL_1i, e_stoL_1r, e_stoL_1u, e_stoL_2i, e_stoL_2r, e_stoL_2u, e_stoL_3i, e_stoL_3r, e_stoL_3u, e_stoL_4i, e_stoL_4r, e_stoL_4u, e_stoL_5i, e_stoL_5r, e_stoL_5u, e_stoL_6i, e_stoL_6r, e_stoL_6u, e_stoL_7i, e_stoL_7r, e_stoL_7u, e_stoL_8i, e_stoL_8r, e_stoL_8u, e_stoL_9i, e_stoL_9r, e_stoL_9u, e_stoL_10i, e_stoL_10r, e_stoL_10u, e_stoL_11i, e_stoL_11r, e_stoL_11u, e_stoL_12i, e_stoL_12r, e_stoL_12u, e_ib, e_lb, e_ls, e_ii, e_i2l, e_l2i, e_lcmp, e_idiv, e_irem, e_dup_i, e_dup_r, e_dup2, e_pop, e_ifeq, e_iceq, e_ifne, e_icne, e_iflt, e_iclt, e_ifge, e_icge, e_ifgt, e_icgt, e_ifle, e_icle, e_sw, e_iret, e_nret, e_lret, e_aret, e_vret, e_get, e_puti, e_putl, e_iald, e_zald, e_iast, e_zast, e_lald, e_last, e_alen, e_nald, e_nlen, e_mmax, e_mmin, e_mabs, cont_v, cont_u, e_call0, e_call1, e_call2, e_call3, e_call4, e_call5, e_call6, e_callV0, e_callT0, e_callV1, e_callT1, e_callV2, e_callT2, e_callV3, e_callT3, e_callV4, e_callT4, e_callV5, e_callT5, lin_i, lin_r, lin_l, lin_n, lsz_i, lsz_r, lsz_l, lsz_n, rep_s, rep_0, mEnt_e, e1, e2, d1, d1', d2, d3, nrb0, if_true, if_false, Bool.false_eq_true, Option.bind_some, List.length_cons, List.length_nil, Nat.reduceAdd, Nat.reduceLeDiff]
        simp [nrb0]
    · have d2 : ¬ nI (cnt b) - nI (cnt a) = 0 := fun z => c2 (k2.mp z)
      have c3 : ¬ (cnt a < cnt b ∨ (cnt a = cnt b ∧ a < b)) := by omega
      rw [if_neg c3]
      simp only [FX4_areFewer, jX4_areFewer_32, jX4_areFewer_31, jX4_areFewer_27, jX4_areFewer, e_push, e_ild_0, e_lld_0, e_ald_0, e_inc_0, e_ild_1, e_lld_1, e_ald_1, e_inc_1, e_ild_2, e_lld_2, e_ald_2, e_inc_2, e_ild_3, e_lld_3, e_ald_3, e_inc_3, e_ild_4, e_lld_4, e_ald_4, e_inc_4, e_ild_5, e_lld_5, e_ald_5, e_inc_5, e_ild_6, e_lld_6, e_ald_6, e_inc_6, e_ild_7, e_lld_7, e_ald_7, e_inc_7, e_ild_8, e_lld_8, e_ald_8, e_inc_8, e_ild_9, e_lld_9, e_ald_9, e_inc_9, e_ild_10, e_lld_10, e_ald_10, e_inc_10, e_ild_11, e_lld_11, e_ald_11, e_inc_11, e_ild_12, e_lld_12, e_ald_12, e_inc_12, e_ist, e_ast, e_lst, e_sto_0, e_sto_1i, e_sto_1r, e_sto_1u, e_sto_1l, e_sto_2i, e_sto_2r, e_sto_2u, e_sto_2l, e_sto_3i, e_sto_3r, e_sto_3u, e_sto_3l, e_sto_4i, e_sto_4r, e_sto_4u, e_sto_4l, e_sto_5i, e_sto_5r, e_sto_5u, e_sto_5l, e_sto_6i, e_sto_6r, e_sto_6u, e_sto_6l, e_sto_7i, e_sto_7r, e_sto_7u, e_sto_7l, e_sto_8i, e_sto_8r, e_sto_8u, e_sto_8l, e_sto_9i, e_sto_9r, e_sto_9u, e_sto_9l, e_sto_10i, e_sto_10r, e_sto_10u, e_sto_10l, e_sto_11i, e_sto_11r, e_sto_11u, e_sto_11l, e_sto_12i, e_sto_12r, e_sto_12u, e_sto_12l, e_stoL_0, e_stoL_1i, e_stoL_1r, e_stoL_1u, e_stoL_2i, e_stoL_2r, e_stoL_2u, e_stoL_3i, e_stoL_3r, e_stoL_3u, e_stoL_4i, e_stoL_4r, e_stoL_4u, e_stoL_5i, e_stoL_5r, e_stoL_5u, e_stoL_6i, e_stoL_6r, e_stoL_6u, e_stoL_7i, e_stoL_7r, e_stoL_7u, e_stoL_8i, e_stoL_8r, e_stoL_8u, e_stoL_9i, e_stoL_9r, e_stoL_9u, e_stoL_10i, e_stoL_10r, e_stoL_10u, e_stoL_11i, e_stoL_11r, e_stoL_11u, e_stoL_12i, e_stoL_12r, e_stoL_12u, e_ib, e_lb, e_ls, e_ii, e_i2l, e_l2i, e_lcmp, e_idiv, e_irem, e_dup_i, e_dup_r, e_dup2, e_pop, e_ifeq, e_iceq, e_ifne, e_icne, e_iflt, e_iclt, e_ifge, e_icge, e_ifgt, e_icgt, e_ifle, e_icle, e_sw, e_iret, e_nret, e_lret, e_aret, e_vret, e_get, e_puti, e_putl, e_iald, e_zald, e_iast, e_zast, e_lald, e_last, e_alen, e_nald, e_nlen, e_mmax, e_mmin, e_mabs, cont_v, cont_u, e_call0, e_call1, e_call2, e_call3, e_call4, e_call5, e_call6, e_callV0, e_callT0, e_callV1, e_callT1, e_callV2, e_callT2, e_callV3, e_callT3, e_callV4, e_callT4, e_callV5, e_callT5, lin_i, lin_r, lin_l, lin_n, lsz_i, lsz_r, lsz_l, lsz_n, rep_s, rep_0, mEnt_e, e1, e2, d1, d1', d2, nrb0, if_true, if_false, Bool.false_eq_true, Option.bind_some, List.length_cons, List.length_nil, Nat.reduceAdd, Nat.reduceLeDiff]
theorem x_holdsWithHedges {w' : List va_E} (hO : XO w' lic wh hr sc) (hPk : PkAt w' 5 6 P) (hP : PkOK P) (hlic : lic < 2 ^ pN P) {H0 n0 W0 : Nat} {fs0 bs0 : Nat → Int32} {ms0 : Nat → Nat} (hQ : PkAt w' 11 12 (setH P H0)) (hH : HrRaw w' 13 14 15 16 n0 W0 fs0 bs0 ms0) {x : Nat} (hx : x < 2 ^ pn P) : ∃ w2, FX4_holdsWithHedges [.ref 0, .long (lN x)] w' = some (some (.int (if gdS P lic x then 1 else 0)), w2) ∧ (∃ H, PkAt w2 11 12 (setH P H)) ∧ (∃ n W fs bs ms, HrRaw w2 13 14 15 16 n W fs bs ms) ∧ Sm [11, 12, 13, 14, 15, 16] w' w2 := by
  have hH1 : pH P ||| x < 2 ^ pn P := Nat.or_lt_two_pow hP.2.2.2.2.2.2.2.1 hx
  have q4 : gt 4 4 0 w' = some (.ref 11) := gt_of hO rfl
  have q2 : gt 4 2 0 w' = some (.ref 5) := gt_of hO rfl
  have g7 : gt 1 7 5 w' = some (.long (lN (pH P))) := gt_of hPk.1 rfl
  have p7 : pt 1 7 11 (.long (lN (pH P ||| x))) w' = some (w'.set 11 (pkc (setH P (pH P ||| x)) 12)) := pt_of hQ.1 (Nat.le_of_ble_eq_true rfl)
  have m1 : Sm [11] w' (w'.set 11 (pkc (setH P (pH P ||| x)) 12)) := Sm.set (by simp)
  have hQ1 : PkAt (w'.set 11 (pkc (setH P (pH P ||| x)) 12)) 11 12 (setH P (pH P ||| x)) := ⟨set_at hQ.1, hQ.2.kept (m1.2 12 (by decide))⟩
  have hHa : HrRaw (w'.set 11 (pkc (setH P (pH P ||| x)) 12)) 13 14 15 16 n0 W0 fs0 bs0 ms0 := hH.kept (m1.2 13 (by decide)) (m1.2 14 (by decide)) (m1.2 15 (by decide)) (m1.2 16 (by decide))
  have o1 : XO (w'.set 11 (pkc (setH P (pH P ||| x)) 12)) lic wh hr sc := (m1.2 0 (by decide)).trans hO
  have hPok := setH_ok hP hH1
  obtain ⟨w2, a1, a2, a3, a4⟩ := s_listen hHa hQ1 hPok (by decide)
  have o2 : XO w2 lic wh hr sc := (a4.2 0 (by decide)).trans o1
  have v1 : gt 4 5 0 (w'.set 11 (pkc (setH P (pH P ||| x)) 12)) = some (.ref 13) := gt_of o1 rfl
  have v2 : gt 4 4 0 (w'.set 11 (pkc (setH P (pH P ||| x)) 12)) = some (.ref 11) := gt_of o1 rfl
  have v3 : rc 0 13 (w'.set 11 (pkc (setH P (pH P ||| x)) 12)) = true := rc_of hHa.1
  have v4 : gt 4 5 0 w2 = some (.ref 13) := gt_of o2 rfl
  have v5 : gt 4 6 0 w2 = some (.int (nI lic)) := gt_of o2 rfl
  have v6 : rc 0 13 w2 = true := by obtain ⟨fs, bs, ms, ⟨z, -⟩, -⟩ := a2; exact rc_of z
  have e1 : FX0_holds [.ref 13, .int (nI lic)] w2 = some (some (.int (if gdS P lic x then 1 else 0)), w2) := s_holds a2 hPok hlic
  have e2 : narrow .boolean (.int (if gdS P lic x then 1 else 0)) = .int (if gdS P lic x then 1 else 0) := by cases gdS P lic x <;> rfl
  refine ⟨w2, ?_, ⟨_, a3⟩, ?_, (m1.mono (by decide)).tr (a4.mono (by decide))⟩
  · simp only [FX4_holdsWithHedges, jX4_holdsWithHedges, e_push, e_ild_0, e_lld_0, e_ald_0, e_inc_0, e_ild_1, e_lld_1, e_ald_1, e_inc_1, e_ild_2, e_lld_2, e_ald_2, e_inc_2, e_ild_3, e_lld_3, e_ald_3, e_inc_3, e_ild_4, e_lld_4, e_ald_4, e_inc_4, e_ild_5, e_lld_5, e_ald_5, e_inc_5, e_ild_6, e_lld_6, e_ald_6, e_inc_6, e_ild_7, e_lld_7, e_ald_7, e_inc_7, e_ild_8, e_lld_8, e_ald_8, e_inc_8, e_ild_9, e_lld_9, e_ald_9, e_inc_9, e_ild_10, e_lld_10, e_ald_10, e_inc_10, e_ild_11, e_lld_11, e_ald_11, e_inc_11, e_ild_12, e_lld_12, e_ald_12, e_inc_12, e_ist, e_ast, e_lst, e_sto_0, e_sto_1i, e_sto_1r, e_sto_1u, e_sto_1l, e_sto_2i, e_sto_2r, e_sto_2u, e_sto_2l, e_sto_3i, e_sto_3r, e_sto_3u, e_sto_3l, e_sto_4i, e_sto_4r, e_sto_4u, e_sto_4l, e_sto_5i, e_sto_5r, e_sto_5u, e_sto_5l, e_sto_6i, e_sto_6r, e_sto_6u, e_sto_6l, e_sto_7i, e_sto_7r, e_sto_7u, e_sto_7l, e_sto_8i, e_sto_8r, e_sto_8u, e_sto_8l, e_sto_9i, e_sto_9r, e_sto_9u, e_sto_9l, e_sto_10i, e_sto_10r, e_sto_10u, e_sto_10l, e_sto_11i, e_sto_11r, e_sto_11u, e_sto_11l, e_sto_12i, e_sto_12r, e_sto_12u, e_sto_12l, e_stoL_0, e_stoL_1i, e_stoL_1r, e_stoL_1u, e_stoL_2i, e_stoL_2r, e_stoL_2u, e_stoL_3i, e_stoL_3r, e_stoL_3u, e_stoL_4i, e_stoL_4r, e_stoL_4u, e_stoL_5i, e_stoL_5r, e_stoL_5u, e_stoL_6i, e_stoL_6r, e_stoL_6u, e_stoL_7i, e_stoL_7r, e_stoL_7u, e_stoL_8i, e_stoL_8r, e_stoL_8u, e_stoL_9i, e_stoL_9r, e_stoL_9u, e_stoL_10i, e_stoL_10r, e_stoL_10u, e_stoL_11i, e_stoL_11r, e_stoL_11u, e_stoL_12i, e_stoL_12r, e_stoL_12u, e_ib, e_lb, e_ls, e_ii, e_i2l, e_l2i, e_lcmp, e_idiv, e_irem, e_dup_i, e_dup_r, e_dup2, e_pop, e_ifeq, e_iceq, e_ifne, e_icne, e_iflt, e_iclt, e_ifge, e_icge, e_ifgt, e_icgt, e_ifle, e_icle, e_sw, e_iret, e_nret, e_lret, e_aret, e_vret, e_get, e_puti, e_putl, e_iald, e_zald, e_iast, e_zast, e_lald, e_last, e_alen, e_nald, e_nlen, e_mmax, e_mmin, e_mabs, cont_v, cont_u, e_call0, e_call1, e_call2, e_call3, e_call4, e_call5, e_call6, e_callV0, e_callT0, e_callV1, e_callT1, e_callV2, e_callT2, e_callV3, e_callT3, e_callV4, e_callT4, e_callV5, e_callT5, lin_i, lin_r, lin_l, lin_n, lsz_i, lsz_r, lsz_l, lsz_n, rep_s, rep_0, mEnt_e, q4, q2, g7, fb_orL, p7, v1, v2, v3, a1, v4, v5, v6, e1, e2, if_true, if_false, Bool.false_eq_true, Option.bind_some, List.length_cons, List.length_nil, Nat.reduceAdd, Nat.reduceLeDiff]
  · obtain ⟨fs, bs, ms, z, -⟩ := a2
    exact ⟨_, _, _, _, _, z⟩
theorem x_hedged (h : GI w P lic wh hr ln tb sc sp sh sg kp) {x : Int32} (hx : x = 0 ∨ x = 1) : ∃ o w', IsBest (fun z => subS z (spS P) ∧ gdS P lic z = true) o ∧ FX4_hedged [.ref 0, .int x] w = some (some (.long (hgS x o)), w') ∧ XR w' ∧ Sm [11, 12, 13, 14, 15, 16] w w' := by
  obtain ⟨⟨hlen, hO, hT, hR, ⟨hPk, hHr⟩, hK, hSn⟩, ⟨⟨J, hM⟩, ⟨⟨fr, hrow, hf0, hf1, hf2, hfk⟩, fk, hkept, hfk2⟩, hMT, hMJ, hMS⟩, hOK⟩ := id h
  obtain ⟨⟨hP, hLd⟩, hlic, hwh, hhr, hln, htb, hsc, hsn, hkp⟩ := hOK
  have hn := pn_le hP
  have hN := hP.2.2.2.2.1
  have hlic6 : lic < 64 := Nat.lt_of_lt_of_le hlic (two6 hN)
  have r4 : rc 4 0 w = true := rc_of hO
  have r1 : rc 1 5 w = true := rc_of hPk.1
  have r0 : rc 0 7 w = true := by obtain ⟨fs, bs, ms, ⟨z, -⟩, -⟩ := hHr; exact rc_of z
  have r5 : rc 5 24 w = true := rc_of hM.1
  have q0 : gt 4 0 0 w = some (.ref 1) := gt_of hO rfl
  have q2 : gt 4 2 0 w = some (.ref 5) := gt_of hO rfl
  have q3 : gt 4 3 0 w = some (.ref 7) := gt_of hO rfl
  have q6 : gt 4 6 0 w = some (.int (nI lic)) := gt_of hO rfl
  have q7 : gt 4 7 0 w = some (.int wh) := gt_of hO rfl
  have q8 : gt 4 8 0 w = some (.int (nI hr)) := gt_of hO rfl
  have q15 : gt 4 15 0 w = some (.int (nI sc)) := gt_of hO rfl
  have g0 : gt 5 0 24 w = some (.ref 25) := gt_of hM.1 rfl
  have l0 : ial 0 25 0 w = some (nI lic) := by
    have z := hrow.get (i := 0) (m := 0) rfl (by decide) (by decide)
    rw [hf0] at z; exact z
  have l1 : ial 0 25 1 w = some wh := by
    have z := hrow.get (i := 1) (m := 1) rfl (by decide) (by decide)
    rw [hf1] at z; exact z
  have l2 : ial 0 25 2 w = some (nI hr) := by
    have z := hrow.get (i := 2) (m := 2) rfl (by decide) (by decide)
    rw [hf2] at z; exact z
  have n10 : ¬ (1 : Int32) = 0 := by decide
  have hT := two6 hN
  obtain ⟨⟨l, hr1⟩, hr2, ⟨Q, hQ⟩, ⟨n0, W0, fs0, bs0, ms0, hH⟩, hr5⟩ := id hR
  have q4 : gt 4 4 0 w = some (.ref 11) := gt_of hO rfl
  have r11 : rc 1 11 w = true := rc_of hQ.1
  obtain ⟨w1, a1, a2, a3⟩ := s_become hQ hPk (by decide)
  have m1 : Sm [11, 12, 13, 14, 15, 16] w w1 := a3.mono (by decide)
  have ei := s_isBit (w := w) x
  rw [if_pos hx] at ei
  obtain ⟨r, z1, o, w', z2, z3, z4, z5⟩ := loop_inv (F := fun B29 => i_ild 4 (i_ald 0 (i_get 4 2 (i_callV 1 0 FX1_bandSets (i_icge (i_lld 2 (i_push (.long (-1)) (i_lcmp (i_ifne (i_ild 1 (i_ifne (i_lld 2 (jX4_hedged_124)) (i_lld 2 (i_call 1 FJ13_bitCount_95d88 (i_i2l (jX4_hedged_124)))))) (i_push (.long (-1)) (i_lret)))))) (i_ald 0 (i_get 4 2 (i_ild 4 (i_callV 1 1 FX1_placesOf (i_ald 0 (i_get 4 2 (i_get 1 7 (i_push (.long (-1)) (i_lb (fun x y => x ^^^ y) (i_lb (fun x y => x &&& y) (i_lst 5 (i_lld 2 (i_push (.long (-1)) (i_lcmp (i_ifeq ((jX4_hedged_81 B29)) (i_lld 5 (i_lld 2 (i_call 2 FX4_areFewer (i_ifeq ((jX4_hedged_93 B29)) ((jX4_hedged_81 B29))))))))))))))))))))))))))
    (st := []) (L := [.ref 0, .int x, .long (-1), .retAddr 0, .int 0, .retAddr 0, .retAddr 0]) (w := w1) (2 ^ pN P)
    (fun k st L w' => st = [] ∧ (∃ o v5, IsBest (GK P lic k) o ∧ L = [.ref 0, .int x, .long (oL o), .retAddr 0, .int (nI k), v5, .retAddr 0]) ∧ (∃ H, PkAt w' 11 12 (setH P H)) ∧ (∃ n W fs bs ms, HrRaw w' 13 14 15 16 n W fs bs ms) ∧ Sm [11, 12, 13, 14, 15, 16] w w')
    (fun r => ∃ o w', IsBest (GK P lic (2 ^ pN P)) o ∧ r = some (some (.long (hgS x o)), w') ∧ ((∃ Q, PkAt w' 11 12 Q) ∧ ∃ n W fs bs ms, HrRaw w' 13 14 15 16 n W fs bs ms) ∧ Sm [11, 12, 13, 14, 15, 16] w w')
    ⟨rfl, ⟨none, .retAddr 0, fun y hy => by obtain ⟨⟨c, hc, -⟩, -⟩ := hy; omega, rfl⟩, ⟨pH P, a2⟩, ⟨_, _, _, _, _, hH.kept (a3.2 13 (by decide)) (a3.2 14 (by decide)) (a3.2 15 (by decide)) (a3.2 16 (by decide))⟩, m1⟩
    (by
      rintro k hk st L w3 ⟨rfl, ⟨o, v5, d1, rfl⟩, ⟨H, d2⟩, ⟨n3, W3, fs3, bs3, ms3, d3⟩, m3⟩
      have o3 : XO w3 lic wh hr sc := (m3.2 0 (by decide)).trans hO
      have pk3 : PkAt w3 5 6 P := hPk.kept (m3.2 5 (by decide)) (m3.2 6 (by decide))
      have u1 : ¬ nI (2 ^ pN P) ≤ nI k := nI_ge hk (by omega)
      have v1 : gt 4 2 0 w3 = some (.ref 5) := gt_of o3 rfl
      have v2 : rc 1 5 w3 = true := rc_of pk3.1
      have e1 := s_bandSets pk3.1 hP
      have e2 := s_placesOf pk3 hP (s := k) (by omega)
      have v3 : gt 1 7 5 w3 = some (.long (lN (pH P))) := gt_of pk3.1 rfl
      have v4 : rc 4 0 w3 = true := rc_of o3
      have hpl := placesS_lt hP k (pN P) (Nat.le_refl _)
      have hx2 : anS (placesS P k (pN P)) (pH P) < 2 ^ pn P := Nat.lt_of_le_of_lt (anS_le _ _) hpl
      have h36 : anS (placesS P k (pN P)) (pH P) < 2 ^ 36 := Nat.lt_of_lt_of_le hx2 (Nat.pow_le_pow_right (by decide) hn)
      have e3 := anS_L (placesS P k (pN P)) (pH P)
      obtain ⟨w4, f1, f2, f3, f4⟩ := x_holdsWithHedges o3 pk3 hP hlic d2 d3 hx2
      have m4 := m3.tr f4
      generalize hy : anS (placesS P k (pN P)) (pH P) = y at *
      have hstep : ∀ z, GK P lic (k + 1) z ↔ (GK P lic k z ∨ (z = y ∧ gdS P lic y = true)) := by
        intro z
        constructor
        · rintro ⟨⟨c, c1, c2⟩, c3⟩
          by_cases hck : c = k
          · subst hck
            rw [hy] at c2
            exact Or.inr ⟨c2, by rw [← c2]; exact c3⟩
          · exact Or.inl ⟨⟨c, by omega, c2⟩, c3⟩
        · rintro (⟨⟨c, c1, c2⟩, c3⟩ | ⟨c1, c2⟩)
          · exact ⟨⟨c, by omega, c2⟩, c3⟩
          · subst c1
            exact ⟨⟨k, by omega, hy.symm⟩, c2⟩
      cases o with
      | none =>
        have cm : lg_cmp (oL none) (-1) = 0 := by decide
        by_cases c1 : gdS P lic y = true
        · rw [c1] at f1
          refine ⟨[], _, w4, ⟨rfl, ⟨some y, .long (lN y), ⟨(hstep y).mpr (Or.inr ⟨rfl, c1⟩), fun z hz => ?_⟩, rfl⟩, f2, f3, m4⟩, fun B => ?_⟩
          · rcases (hstep z).mp hz with h1 | ⟨h1, -⟩
            · exact absurd h1 (d1 z)
            · subst h1; exact Or.inr ⟨rfl, Nat.le_refl _⟩
          · have cm' : lg_cmp (-1) (-1) = 0 := cm
            simp only [jX4_hedged_81, jX4_hedged_93, e_push, e_ild_0, e_lld_0, e_ald_0, e_inc_0, e_ild_1, e_lld_1, e_ald_1, e_inc_1, e_ild_2, e_lld_2, e_ald_2, e_inc_2, e_ild_3, e_lld_3, e_ald_3, e_inc_3, e_ild_4, e_lld_4, e_ald_4, e_inc_4, e_ild_5, e_lld_5, e_ald_5, e_inc_5, e_ild_6, e_lld_6, e_ald_6, e_inc_6, e_ild_7, e_lld_7, e_ald_7, e_inc_7, e_ild_8, e_lld_8, e_ald_8, e_inc_8, e_ild_9, e_lld_9, e_ald_9, e_inc_9, e_ild_10, e_lld_10, e_ald_10, e_inc_10, e_ild_11, e_lld_11, e_ald_11, e_inc_11, e_ild_12, e_lld_12, e_ald_12, e_inc_12, e_ist, e_ast, e_lst, e_sto_0, e_sto_1i, e_sto_1r, e_sto_1u, e_sto_1l, e_sto_2i, e_sto_2r, e_sto_2u, e_sto_2l, e_sto_3i, e_sto_3r, e_sto_3u, e_sto_3l, e_sto_4i, e_sto_4r, e_sto_4u, e_sto_4l, e_sto_5i, e_sto_5r, e_sto_5u, e_sto_5l, e_sto_6i, e_sto_6r, e_sto_6u, e_sto_6l, e_sto_7i, e_sto_7r, e_sto_7u, e_sto_7l, e_sto_8i, e_sto_8r, e_sto_8u, e_sto_8l, e_sto_9i, e_sto_9r, e_sto_9u, e_sto_9l, e_sto_10i, e_sto_10r, e_sto_10u, e_sto_10l, e_sto_11i, e_sto_11r, e_sto_11u, e_sto_11l, e_sto_12i, e_sto_12r, e_sto_12u, e_sto_12l, e_stoL_0, e_stoL_1i, e_stoL_1r, e_stoL_1u, e_stoL_2i, e_stoL_2r, e_stoL_2u, e_stoL_3i, e_stoL_3r, e_stoL_3u, e_stoL_4i, e_stoL_4r, e_stoL_4u, e_stoL_5i, e_stoL_5r, e_stoL_5u, e_stoL_6i, e_stoL_6r, e_stoL_6u, e_stoL_7i, e_stoL_7r, e_stoL_7u, e_stoL_8i, e_stoL_8r, e_stoL_8u, e_stoL_9i, e_stoL_9r, e_stoL_9u, e_stoL_10i, e_stoL_10r, e_stoL_10u, e_stoL_11i, e_stoL_11r, e_stoL_11u, e_stoL_12i, e_stoL_12r, e_stoL_12u, e_ib, e_lb, e_ls, e_ii, e_i2l, e_l2i, e_lcmp, e_idiv, e_irem, e_dup_i, e_dup_r, e_dup2, e_pop, e_ifeq, e_iceq, e_ifne, e_icne, e_iflt, e_iclt, e_ifge, e_icge, e_ifgt, e_icgt, e_ifle, e_icle, e_sw, e_iret, e_nret, e_lret, e_aret, e_vret, e_get, e_puti, e_putl, e_iald, e_zald, e_iast, e_zast, e_lald, e_last, e_alen, e_nald, e_nlen, e_mmax, e_mmin, e_mabs, cont_v, cont_u, e_call0, e_call1, e_call2, e_call3, e_call4, e_call5, e_call6, e_callV0, e_callT0, e_callV1, e_callT1, e_callV2, e_callT2, e_callV3, e_callT3, e_callV4, e_callT4, e_callV5, e_callT5, lin_i, lin_r, lin_l, lin_n, lsz_i, lsz_r, lsz_l, lsz_n, rep_s, rep_0, mEnt_e, u1, v1, v2, e1, e2, v3, e3, cm', v4, f1, n10, nI_1, oL, if_true, if_false, Bool.false_eq_true, Option.bind_some, List.length_cons, List.length_nil, Nat.reduceAdd, Nat.reduceLeDiff]
        · have c1' : gdS P lic y = false := by simpa using c1
          rw [c1'] at f1
          refine ⟨[], _, w4, ⟨rfl, ⟨none, .long (lN y), fun z hz => ?_, rfl⟩, f2, f3, m4⟩, fun B => ?_⟩
          · rcases (hstep z).mp hz with h1 | ⟨-, h1⟩
            · exact d1 z h1
            · exact c1 h1
          · simp only [jX4_hedged_81, jX4_hedged_93, e_push, e_ild_0, e_lld_0, e_ald_0, e_inc_0, e_ild_1, e_lld_1, e_ald_1, e_inc_1, e_ild_2, e_lld_2, e_ald_2, e_inc_2, e_ild_3, e_lld_3, e_ald_3, e_inc_3, e_ild_4, e_lld_4, e_ald_4, e_inc_4, e_ild_5, e_lld_5, e_ald_5, e_inc_5, e_ild_6, e_lld_6, e_ald_6, e_inc_6, e_ild_7, e_lld_7, e_ald_7, e_inc_7, e_ild_8, e_lld_8, e_ald_8, e_inc_8, e_ild_9, e_lld_9, e_ald_9, e_inc_9, e_ild_10, e_lld_10, e_ald_10, e_inc_10, e_ild_11, e_lld_11, e_ald_11, e_inc_11, e_ild_12, e_lld_12, e_ald_12, e_inc_12, e_ist, e_ast, e_lst, e_sto_0, e_sto_1i, e_sto_1r, e_sto_1u, e_sto_1l, e_sto_2i, e_sto_2r, e_sto_2u, e_sto_2l, e_sto_3i, e_sto_3r, e_sto_3u, e_sto_3l, e_sto_4i, e_sto_4r, e_sto_4u, e_sto_4l, e_sto_5i, e_sto_5r, e_sto_5u, e_sto_5l, e_sto_6i, e_sto_6r, e_sto_6u, e_sto_6l, e_sto_7i, e_sto_7r, e_sto_7u, e_sto_7l, e_sto_8i, e_sto_8r, e_sto_8u, e_sto_8l, e_sto_9i, e_sto_9r, e_sto_9u, e_sto_9l, e_sto_10i, e_sto_10r, e_sto_10u, e_sto_10l, e_sto_11i, e_sto_11r, e_sto_11u, e_sto_11l, e_sto_12i, e_sto_12r, e_sto_12u, e_sto_12l, e_stoL_0, e_stoL_1i, e_stoL_1r, e_stoL_1u, e_stoL_2i, e_stoL_2r, e_stoL_2u, e_stoL_3i, e_stoL_3r, e_stoL_3u, e_stoL_4i, e_stoL_4r, e_stoL_4u, e_stoL_5i, e_stoL_5r, e_stoL_5u, e_stoL_6i, e_stoL_6r, e_stoL_6u, e_stoL_7i, e_stoL_7r, e_stoL_7u, e_stoL_8i, e_stoL_8r, e_stoL_8u, e_stoL_9i, e_stoL_9r, e_stoL_9u, e_stoL_10i, e_stoL_10r, e_stoL_10u, e_stoL_11i, e_stoL_11r, e_stoL_11u, e_stoL_12i, e_stoL_12r, e_stoL_12u, e_ib, e_lb, e_ls, e_ii, e_i2l, e_l2i, e_lcmp, e_idiv, e_irem, e_dup_i, e_dup_r, e_dup2, e_pop, e_ifeq, e_iceq, e_ifne, e_icne, e_iflt, e_iclt, e_ifge, e_icge, e_ifgt, e_icgt, e_ifle, e_icle, e_sw, e_iret, e_nret, e_lret, e_aret, e_vret, e_get, e_puti, e_putl, e_iald, e_zald, e_iast, e_zast, e_lald, e_last, e_alen, e_nald, e_nlen, e_mmax, e_mmin, e_mabs, cont_v, cont_u, e_call0, e_call1, e_call2, e_call3, e_call4, e_call5, e_call6, e_callV0, e_callT0, e_callV1, e_callT1, e_callV2, e_callT2, e_callV3, e_callT3, e_callV4, e_callT4, e_callV5, e_callT5, lin_i, lin_r, lin_l, lin_n, lsz_i, lsz_r, lsz_l, lsz_n, rep_s, rep_0, mEnt_e, u1, v1, v2, e1, e2, v3, e3, cm, v4, f1, n10, nI_1, if_true, if_false, Bool.false_eq_true, Option.bind_some, List.length_cons, List.length_nil, Nat.reduceAdd, Nat.reduceLeDiff]
      | some b =>
        have hb36 : b < 2 ^ 36 := by
          obtain ⟨⟨⟨c, -, c2⟩, -⟩, -⟩ := d1
          have h1 := placesS_40 hP c
          have h2 := anS_le (placesS P c (pN P)) (pH P)
          omega
        have cm : ¬ lg_cmp (oL (some b)) (-1) = 0 := lg0 (by omega)
        have e4 := s_areFewer (w := w3) h36 hb36
        have e4' : FX4_areFewer [.long (lN y), .long (oL (some b))] w3 = _ := e4
        by_cases c2 : cnt y < cnt b ∨ (cnt y = cnt b ∧ y < b)
        · rw [if_pos c2] at e4'
          by_cases c1 : gdS P lic y = true
          · rw [c1] at f1
            refine ⟨[], _, w4, ⟨rfl, ⟨some y, .long (lN y), ⟨(hstep y).mpr (Or.inr ⟨rfl, c1⟩), fun z hz => ?_⟩, rfl⟩, f2, f3, m4⟩, fun B => ?_⟩
            · rcases (hstep z).mp hz with h1 | ⟨h1, -⟩
              · have := d1.2 z h1
                unfold btS at *
                omega
              · subst h1; exact Or.inr ⟨rfl, Nat.le_refl _⟩
            · simp only [jX4_hedged_81, jX4_hedged_93, e_push, e_ild_0, e_lld_0, e_ald_0, e_inc_0, e_ild_1, e_lld_1, e_ald_1, e_inc_1, e_ild_2, e_lld_2, e_ald_2, e_inc_2, e_ild_3, e_lld_3, e_ald_3, e_inc_3, e_ild_4, e_lld_4, e_ald_4, e_inc_4, e_ild_5, e_lld_5, e_ald_5, e_inc_5, e_ild_6, e_lld_6, e_ald_6, e_inc_6, e_ild_7, e_lld_7, e_ald_7, e_inc_7, e_ild_8, e_lld_8, e_ald_8, e_inc_8, e_ild_9, e_lld_9, e_ald_9, e_inc_9, e_ild_10, e_lld_10, e_ald_10, e_inc_10, e_ild_11, e_lld_11, e_ald_11, e_inc_11, e_ild_12, e_lld_12, e_ald_12, e_inc_12, e_ist, e_ast, e_lst, e_sto_0, e_sto_1i, e_sto_1r, e_sto_1u, e_sto_1l, e_sto_2i, e_sto_2r, e_sto_2u, e_sto_2l, e_sto_3i, e_sto_3r, e_sto_3u, e_sto_3l, e_sto_4i, e_sto_4r, e_sto_4u, e_sto_4l, e_sto_5i, e_sto_5r, e_sto_5u, e_sto_5l, e_sto_6i, e_sto_6r, e_sto_6u, e_sto_6l, e_sto_7i, e_sto_7r, e_sto_7u, e_sto_7l, e_sto_8i, e_sto_8r, e_sto_8u, e_sto_8l, e_sto_9i, e_sto_9r, e_sto_9u, e_sto_9l, e_sto_10i, e_sto_10r, e_sto_10u, e_sto_10l, e_sto_11i, e_sto_11r, e_sto_11u, e_sto_11l, e_sto_12i, e_sto_12r, e_sto_12u, e_sto_12l, e_stoL_0, e_stoL_1i, e_stoL_1r, e_stoL_1u, e_stoL_2i, e_stoL_2r, e_stoL_2u, e_stoL_3i, e_stoL_3r, e_stoL_3u, e_stoL_4i, e_stoL_4r, e_stoL_4u, e_stoL_5i, e_stoL_5r, e_stoL_5u, e_stoL_6i, e_stoL_6r, e_stoL_6u, e_stoL_7i, e_stoL_7r, e_stoL_7u, e_stoL_8i, e_stoL_8r, e_stoL_8u, e_stoL_9i, e_stoL_9r, e_stoL_9u, e_stoL_10i, e_stoL_10r, e_stoL_10u, e_stoL_11i, e_stoL_11r, e_stoL_11u, e_stoL_12i, e_stoL_12r, e_stoL_12u, e_ib, e_lb, e_ls, e_ii, e_i2l, e_l2i, e_lcmp, e_idiv, e_irem, e_dup_i, e_dup_r, e_dup2, e_pop, e_ifeq, e_iceq, e_ifne, e_icne, e_iflt, e_iclt, e_ifge, e_icge, e_ifgt, e_icgt, e_ifle, e_icle, e_sw, e_iret, e_nret, e_lret, e_aret, e_vret, e_get, e_puti, e_putl, e_iald, e_zald, e_iast, e_zast, e_lald, e_last, e_alen, e_nald, e_nlen, e_mmax, e_mmin, e_mabs, cont_v, cont_u, e_call0, e_call1, e_call2, e_call3, e_call4, e_call5, e_call6, e_callV0, e_callT0, e_callV1, e_callT1, e_callV2, e_callT2, e_callV3, e_callT3, e_callV4, e_callT4, e_callV5, e_callT5, lin_i, lin_r, lin_l, lin_n, lsz_i, lsz_r, lsz_l, lsz_n, rep_s, rep_0, mEnt_e, u1, v1, v2, e1, e2, v3, e3, cm, e4', v4, f1, n10, nI_1, if_true, if_false, Bool.false_eq_true, Option.bind_some, List.length_cons, List.length_nil, Nat.reduceAdd, Nat.reduceLeDiff]
              rfl
          · have c1' : gdS P lic y = false := by simpa using c1
            rw [c1'] at f1
            refine ⟨[], _, w4, ⟨rfl, ⟨some b, .long (lN y), ⟨(hstep b).mpr (Or.inl d1.1), fun z hz => ?_⟩, rfl⟩, f2, f3, m4⟩, fun B => ?_⟩
            · rcases (hstep z).mp hz with h1 | ⟨-, h1⟩
              · exact d1.2 z h1
              · exact absurd h1 c1
            · simp only [jX4_hedged_81, jX4_hedged_93, e_push, e_ild_0, e_lld_0, e_ald_0, e_inc_0, e_ild_1, e_lld_1, e_ald_1, e_inc_1, e_ild_2, e_lld_2, e_ald_2, e_inc_2, e_ild_3, e_lld_3, e_ald_3, e_inc_3, e_ild_4, e_lld_4, e_ald_4, e_inc_4, e_ild_5, e_lld_5, e_ald_5, e_inc_5, e_ild_6, e_lld_6, e_ald_6, e_inc_6, e_ild_7, e_lld_7, e_ald_7, e_inc_7, e_ild_8, e_lld_8, e_ald_8, e_inc_8, e_ild_9, e_lld_9, e_ald_9, e_inc_9, e_ild_10, e_lld_10, e_ald_10, e_inc_10, e_ild_11, e_lld_11, e_ald_11, e_inc_11, e_ild_12, e_lld_12, e_ald_12, e_inc_12, e_ist, e_ast, e_lst, e_sto_0, e_sto_1i, e_sto_1r, e_sto_1u, e_sto_1l, e_sto_2i, e_sto_2r, e_sto_2u, e_sto_2l, e_sto_3i, e_sto_3r, e_sto_3u, e_sto_3l, e_sto_4i, e_sto_4r, e_sto_4u, e_sto_4l, e_sto_5i, e_sto_5r, e_sto_5u, e_sto_5l, e_sto_6i, e_sto_6r, e_sto_6u, e_sto_6l, e_sto_7i, e_sto_7r, e_sto_7u, e_sto_7l, e_sto_8i, e_sto_8r, e_sto_8u, e_sto_8l, e_sto_9i, e_sto_9r, e_sto_9u, e_sto_9l, e_sto_10i, e_sto_10r, e_sto_10u, e_sto_10l, e_sto_11i, e_sto_11r, e_sto_11u, e_sto_11l, e_sto_12i, e_sto_12r, e_sto_12u, e_sto_12l, e_stoL_0, e_stoL_1i, e_stoL_1r, e_stoL_1u, e_stoL_2i, e_stoL_2r, e_stoL_2u, e_stoL_3i, e_stoL_3r, e_stoL_3u, e_stoL_4i, e_stoL_4r, e_stoL_4u, e_stoL_5i, e_stoL_5r, e_stoL_5u, e_stoL_6i, e_stoL_6r, e_stoL_6u, e_stoL_7i, e_stoL_7r, e_stoL_7u, e_stoL_8i, e_stoL_8r, e_stoL_8u, e_stoL_9i, e_stoL_9r, e_stoL_9u, e_stoL_10i, e_stoL_10r, e_stoL_10u, e_stoL_11i, e_stoL_11r, e_stoL_11u, e_stoL_12i, e_stoL_12r, e_stoL_12u, e_ib, e_lb, e_ls, e_ii, e_i2l, e_l2i, e_lcmp, e_idiv, e_irem, e_dup_i, e_dup_r, e_dup2, e_pop, e_ifeq, e_iceq, e_ifne, e_icne, e_iflt, e_iclt, e_ifge, e_icge, e_ifgt, e_icgt, e_ifle, e_icle, e_sw, e_iret, e_nret, e_lret, e_aret, e_vret, e_get, e_puti, e_putl, e_iald, e_zald, e_iast, e_zast, e_lald, e_last, e_alen, e_nald, e_nlen, e_mmax, e_mmin, e_mabs, cont_v, cont_u, e_call0, e_call1, e_call2, e_call3, e_call4, e_call5, e_call6, e_callV0, e_callT0, e_callV1, e_callT1, e_callV2, e_callT2, e_callV3, e_callT3, e_callV4, e_callT4, e_callV5, e_callT5, lin_i, lin_r, lin_l, lin_n, lsz_i, lsz_r, lsz_l, lsz_n, rep_s, rep_0, mEnt_e, u1, v1, v2, e1, e2, v3, e3, cm, e4', v4, f1, n10, nI_1, if_true, if_false, Bool.false_eq_true, Option.bind_some, List.length_cons, List.length_nil, Nat.reduceAdd, Nat.reduceLeDiff]
        · rw [if_neg c2] at e4'
          refine ⟨[], _, w3, ⟨rfl, ⟨some b, .long (lN y), ⟨(hstep b).mpr (Or.inl d1.1), fun z hz => ?_⟩, rfl⟩, ⟨_, d2⟩, ⟨_, _, _, _, _, d3⟩, m3⟩, fun B => ?_⟩
          · rcases (hstep z).mp hz with h1 | ⟨h1, -⟩
            · exact d1.2 z h1
            · subst h1; unfold btS; omega
          · simp only [jX4_hedged_81, jX4_hedged_93, e_push, e_ild_0, e_lld_0, e_ald_0, e_inc_0, e_ild_1, e_lld_1, e_ald_1, e_inc_1, e_ild_2, e_lld_2, e_ald_2, e_inc_2, e_ild_3, e_lld_3, e_ald_3, e_inc_3, e_ild_4, e_lld_4, e_ald_4, e_inc_4, e_ild_5, e_lld_5, e_ald_5, e_inc_5, e_ild_6, e_lld_6, e_ald_6, e_inc_6, e_ild_7, e_lld_7, e_ald_7, e_inc_7, e_ild_8, e_lld_8, e_ald_8, e_inc_8, e_ild_9, e_lld_9, e_ald_9, e_inc_9, e_ild_10, e_lld_10, e_ald_10, e_inc_10, e_ild_11, e_lld_11, e_ald_11, e_inc_11, e_ild_12, e_lld_12, e_ald_12, e_inc_12, e_ist, e_ast, e_lst, e_sto_0, e_sto_1i, e_sto_1r, e_sto_1u, e_sto_1l, e_sto_2i, e_sto_2r, e_sto_2u, e_sto_2l, e_sto_3i, e_sto_3r, e_sto_3u, e_sto_3l, e_sto_4i, e_sto_4r, e_sto_4u, e_sto_4l, e_sto_5i, e_sto_5r, e_sto_5u, e_sto_5l, e_sto_6i, e_sto_6r, e_sto_6u, e_sto_6l, e_sto_7i, e_sto_7r, e_sto_7u, e_sto_7l, e_sto_8i, e_sto_8r, e_sto_8u, e_sto_8l, e_sto_9i, e_sto_9r, e_sto_9u, e_sto_9l, e_sto_10i, e_sto_10r, e_sto_10u, e_sto_10l, e_sto_11i, e_sto_11r, e_sto_11u, e_sto_11l, e_sto_12i, e_sto_12r, e_sto_12u, e_sto_12l, e_stoL_0, e_stoL_1i, e_stoL_1r, e_stoL_1u, e_stoL_2i, e_stoL_2r, e_stoL_2u, e_stoL_3i, e_stoL_3r, e_stoL_3u, e_stoL_4i, e_stoL_4r, e_stoL_4u, e_stoL_5i, e_stoL_5r, e_stoL_5u, e_stoL_6i, e_stoL_6r, e_stoL_6u, e_stoL_7i, e_stoL_7r, e_stoL_7u, e_stoL_8i, e_stoL_8r, e_stoL_8u, e_stoL_9i, e_stoL_9r, e_stoL_9u, e_stoL_10i, e_stoL_10r, e_stoL_10u, e_stoL_11i, e_stoL_11r, e_stoL_11u, e_stoL_12i, e_stoL_12r, e_stoL_12u, e_ib, e_lb, e_ls, e_ii, e_i2l, e_l2i, e_lcmp, e_idiv, e_irem, e_dup_i, e_dup_r, e_dup2, e_pop, e_ifeq, e_iceq, e_ifne, e_icne, e_iflt, e_iclt, e_ifge, e_icge, e_ifgt, e_icgt, e_ifle, e_icle, e_sw, e_iret, e_nret, e_lret, e_aret, e_vret, e_get, e_puti, e_putl, e_iald, e_zald, e_iast, e_zast, e_lald, e_last, e_alen, e_nald, e_nlen, e_mmax, e_mmin, e_mabs, cont_v, cont_u, e_call0, e_call1, e_call2, e_call3, e_call4, e_call5, e_call6, e_callV0, e_callT0, e_callV1, e_callT1, e_callV2, e_callT2, e_callV3, e_callT3, e_callV4, e_callT4, e_callV5, e_callT5, lin_i, lin_r, lin_l, lin_n, lsz_i, lsz_r, lsz_l, lsz_n, rep_s, rep_0, mEnt_e, u1, v1, v2, e1, e2, v3, e3, cm, e4', n10, nI_1, if_true, if_false, Bool.false_eq_true, Option.bind_some, List.length_cons, List.length_nil, Nat.reduceAdd, Nat.reduceLeDiff])
    (by
      rintro st L w3 ⟨rfl, ⟨o, v5, d1, rfl⟩, ⟨H, d2⟩, d3, m3⟩
      have o3 : XO w3 lic wh hr sc := (m3.2 0 (by decide)).trans hO
      have pk3 : PkAt w3 5 6 P := hPk.kept (m3.2 5 (by decide)) (m3.2 6 (by decide))
      have u1 : nI (2 ^ pN P) ≤ nI (2 ^ pN P) := nI_le (Nat.le_refl _) (by omega)
      have v1 : gt 4 2 0 w3 = some (.ref 5) := gt_of o3 rfl
      have v2 : rc 1 5 w3 = true := rc_of pk3.1
      have e1 := s_bandSets pk3.1 hP
      refine ⟨_, ⟨o, w3, d1, rfl, ⟨⟨_, d2⟩, d3⟩, m3⟩, fun B => ?_⟩
      cases o with
      | none =>
        have cm : lg_cmp (oL none) (-1) = 0 := by decide
        simp only [e_push, e_ild_0, e_lld_0, e_ald_0, e_inc_0, e_ild_1, e_lld_1, e_ald_1, e_inc_1, e_ild_2, e_lld_2, e_ald_2, e_inc_2, e_ild_3, e_lld_3, e_ald_3, e_inc_3, e_ild_4, e_lld_4, e_ald_4, e_inc_4, e_ild_5, e_lld_5, e_ald_5, e_inc_5, e_ild_6, e_lld_6, e_ald_6, e_inc_6, e_ild_7, e_lld_7, e_ald_7, e_inc_7, e_ild_8, e_lld_8, e_ald_8, e_inc_8, e_ild_9, e_lld_9, e_ald_9, e_inc_9, e_ild_10, e_lld_10, e_ald_10, e_inc_10, e_ild_11, e_lld_11, e_ald_11, e_inc_11, e_ild_12, e_lld_12, e_ald_12, e_inc_12, e_ist, e_ast, e_lst, e_sto_0, e_sto_1i, e_sto_1r, e_sto_1u, e_sto_1l, e_sto_2i, e_sto_2r, e_sto_2u, e_sto_2l, e_sto_3i, e_sto_3r, e_sto_3u, e_sto_3l, e_sto_4i, e_sto_4r, e_sto_4u, e_sto_4l, e_sto_5i, e_sto_5r, e_sto_5u, e_sto_5l, e_sto_6i, e_sto_6r, e_sto_6u, e_sto_6l, e_sto_7i, e_sto_7r, e_sto_7u, e_sto_7l, e_sto_8i, e_sto_8r, e_sto_8u, e_sto_8l, e_sto_9i, e_sto_9r, e_sto_9u, e_sto_9l, e_sto_10i, e_sto_10r, e_sto_10u, e_sto_10l, e_sto_11i, e_sto_11r, e_sto_11u, e_sto_11l, e_sto_12i, e_sto_12r, e_sto_12u, e_sto_12l, e_stoL_0, e_stoL_1i, e_stoL_1r, e_stoL_1u, e_stoL_2i, e_stoL_2r, e_stoL_2u, e_stoL_3i, e_stoL_3r, e_stoL_3u, e_stoL_4i, e_stoL_4r, e_stoL_4u, e_stoL_5i, e_stoL_5r, e_stoL_5u, e_stoL_6i, e_stoL_6r, e_stoL_6u, e_stoL_7i, e_stoL_7r, e_stoL_7u, e_stoL_8i, e_stoL_8r, e_stoL_8u, e_stoL_9i, e_stoL_9r, e_stoL_9u, e_stoL_10i, e_stoL_10r, e_stoL_10u, e_stoL_11i, e_stoL_11r, e_stoL_11u, e_stoL_12i, e_stoL_12r, e_stoL_12u, e_ib, e_lb, e_ls, e_ii, e_i2l, e_l2i, e_lcmp, e_idiv, e_irem, e_dup_i, e_dup_r, e_dup2, e_pop, e_ifeq, e_iceq, e_ifne, e_icne, e_iflt, e_iclt, e_ifge, e_icge, e_ifgt, e_icgt, e_ifle, e_icle, e_sw, e_iret, e_nret, e_lret, e_aret, e_vret, e_get, e_puti, e_putl, e_iald, e_zald, e_iast, e_zast, e_lald, e_last, e_alen, e_nald, e_nlen, e_mmax, e_mmin, e_mabs, cont_v, cont_u, e_call0, e_call1, e_call2, e_call3, e_call4, e_call5, e_call6, e_callV0, e_callT0, e_callV1, e_callT1, e_callV2, e_callT2, e_callV3, e_callT3, e_callV4, e_callT4, e_callV5, e_callT5, lin_i, lin_r, lin_l, lin_n, lsz_i, lsz_r, lsz_l, lsz_n, rep_s, rep_0, mEnt_e, u1, v1, v2, e1, cm, hgS, if_true, if_false, Bool.false_eq_true, Option.bind_some, List.length_cons, List.length_nil, Nat.reduceAdd, Nat.reduceLeDiff]
      | some b =>
        have hb36 : b < 2 ^ 36 := by
          obtain ⟨⟨⟨c, -, c2⟩, -⟩, -⟩ := d1
          have h1 := placesS_40 hP c
          have h2 := anS_le (placesS P c (pN P)) (pH P)
          omega
        have cm : ¬ lg_cmp (oL (some b)) (-1) = 0 := lg0 (by omega)
        have e4 : FJ13_bitCount_95d88 [.long (oL (some b))] w3 = some (some (.int (nI (cnt b))), w3) := j_bitCount (w := w3) (x := b) (by omega)
        rcases hx with rfl | rfl
        · simp only [jX4_hedged_124, e_push, e_ild_0, e_lld_0, e_ald_0, e_inc_0, e_ild_1, e_lld_1, e_ald_1, e_inc_1, e_ild_2, e_lld_2, e_ald_2, e_inc_2, e_ild_3, e_lld_3, e_ald_3, e_inc_3, e_ild_4, e_lld_4, e_ald_4, e_inc_4, e_ild_5, e_lld_5, e_ald_5, e_inc_5, e_ild_6, e_lld_6, e_ald_6, e_inc_6, e_ild_7, e_lld_7, e_ald_7, e_inc_7, e_ild_8, e_lld_8, e_ald_8, e_inc_8, e_ild_9, e_lld_9, e_ald_9, e_inc_9, e_ild_10, e_lld_10, e_ald_10, e_inc_10, e_ild_11, e_lld_11, e_ald_11, e_inc_11, e_ild_12, e_lld_12, e_ald_12, e_inc_12, e_ist, e_ast, e_lst, e_sto_0, e_sto_1i, e_sto_1r, e_sto_1u, e_sto_1l, e_sto_2i, e_sto_2r, e_sto_2u, e_sto_2l, e_sto_3i, e_sto_3r, e_sto_3u, e_sto_3l, e_sto_4i, e_sto_4r, e_sto_4u, e_sto_4l, e_sto_5i, e_sto_5r, e_sto_5u, e_sto_5l, e_sto_6i, e_sto_6r, e_sto_6u, e_sto_6l, e_sto_7i, e_sto_7r, e_sto_7u, e_sto_7l, e_sto_8i, e_sto_8r, e_sto_8u, e_sto_8l, e_sto_9i, e_sto_9r, e_sto_9u, e_sto_9l, e_sto_10i, e_sto_10r, e_sto_10u, e_sto_10l, e_sto_11i, e_sto_11r, e_sto_11u, e_sto_11l, e_sto_12i, e_sto_12r, e_sto_12u, e_sto_12l, e_stoL_0, e_stoL_1i, e_stoL_1r, e_stoL_1u, e_stoL_2i, e_stoL_2r, e_stoL_2u, e_stoL_3i, e_stoL_3r, e_stoL_3u, e_stoL_4i, e_stoL_4r, e_stoL_4u, e_stoL_5i, e_stoL_5r, e_stoL_5u, e_stoL_6i, e_stoL_6r, e_stoL_6u, e_stoL_7i, e_stoL_7r, e_stoL_7u, e_stoL_8i, e_stoL_8r, e_stoL_8u, e_stoL_9i, e_stoL_9r, e_stoL_9u, e_stoL_10i, e_stoL_10r, e_stoL_10u, e_stoL_11i, e_stoL_11r, e_stoL_11u, e_stoL_12i, e_stoL_12r, e_stoL_12u, e_ib, e_lb, e_ls, e_ii, e_i2l, e_l2i, e_lcmp, e_idiv, e_irem, e_dup_i, e_dup_r, e_dup2, e_pop, e_ifeq, e_iceq, e_ifne, e_icne, e_iflt, e_iclt, e_ifge, e_icge, e_ifgt, e_icgt, e_ifle, e_icle, e_sw, e_iret, e_nret, e_lret, e_aret, e_vret, e_get, e_puti, e_putl, e_iald, e_zald, e_iast, e_zast, e_lald, e_last, e_alen, e_nald, e_nlen, e_mmax, e_mmin, e_mabs, cont_v, cont_u, e_call0, e_call1, e_call2, e_call3, e_call4, e_call5, e_call6, e_callV0, e_callT0, e_callV1, e_callT1, e_callV2, e_callT2, e_callV3, e_callT3, e_callV4, e_callT4, e_callV5, e_callT5, lin_i, lin_r, lin_l, lin_n, lsz_i, lsz_r, lsz_l, lsz_n, rep_s, rep_0, mEnt_e, u1, v1, v2, e1, cm, e4, hgS, if_true, if_false, Bool.false_eq_true, Option.bind_some, List.length_cons, List.length_nil, Nat.reduceAdd, Nat.reduceLeDiff]
        · simp only [jX4_hedged_124, e_push, e_ild_0, e_lld_0, e_ald_0, e_inc_0, e_ild_1, e_lld_1, e_ald_1, e_inc_1, e_ild_2, e_lld_2, e_ald_2, e_inc_2, e_ild_3, e_lld_3, e_ald_3, e_inc_3, e_ild_4, e_lld_4, e_ald_4, e_inc_4, e_ild_5, e_lld_5, e_ald_5, e_inc_5, e_ild_6, e_lld_6, e_ald_6, e_inc_6, e_ild_7, e_lld_7, e_ald_7, e_inc_7, e_ild_8, e_lld_8, e_ald_8, e_inc_8, e_ild_9, e_lld_9, e_ald_9, e_inc_9, e_ild_10, e_lld_10, e_ald_10, e_inc_10, e_ild_11, e_lld_11, e_ald_11, e_inc_11, e_ild_12, e_lld_12, e_ald_12, e_inc_12, e_ist, e_ast, e_lst, e_sto_0, e_sto_1i, e_sto_1r, e_sto_1u, e_sto_1l, e_sto_2i, e_sto_2r, e_sto_2u, e_sto_2l, e_sto_3i, e_sto_3r, e_sto_3u, e_sto_3l, e_sto_4i, e_sto_4r, e_sto_4u, e_sto_4l, e_sto_5i, e_sto_5r, e_sto_5u, e_sto_5l, e_sto_6i, e_sto_6r, e_sto_6u, e_sto_6l, e_sto_7i, e_sto_7r, e_sto_7u, e_sto_7l, e_sto_8i, e_sto_8r, e_sto_8u, e_sto_8l, e_sto_9i, e_sto_9r, e_sto_9u, e_sto_9l, e_sto_10i, e_sto_10r, e_sto_10u, e_sto_10l, e_sto_11i, e_sto_11r, e_sto_11u, e_sto_11l, e_sto_12i, e_sto_12r, e_sto_12u, e_sto_12l, e_stoL_0, e_stoL_1i, e_stoL_1r, e_stoL_1u, e_stoL_2i, e_stoL_2r, e_stoL_2u, e_stoL_3i, e_stoL_3r, e_stoL_3u, e_stoL_4i, e_stoL_4r, e_stoL_4u, e_stoL_5i, e_stoL_5r, e_stoL_5u, e_stoL_6i, e_stoL_6r, e_stoL_6u, e_stoL_7i, e_stoL_7r, e_stoL_7u, e_stoL_8i, e_stoL_8r, e_stoL_8u, e_stoL_9i, e_stoL_9r, e_stoL_9u, e_stoL_10i, e_stoL_10r, e_stoL_10u, e_stoL_11i, e_stoL_11r, e_stoL_11u, e_stoL_12i, e_stoL_12r, e_stoL_12u, e_ib, e_lb, e_ls, e_ii, e_i2l, e_l2i, e_lcmp, e_idiv, e_irem, e_dup_i, e_dup_r, e_dup2, e_pop, e_ifeq, e_iceq, e_ifne, e_icne, e_iflt, e_iclt, e_ifge, e_icge, e_ifgt, e_icgt, e_ifle, e_icle, e_sw, e_iret, e_nret, e_lret, e_aret, e_vret, e_get, e_puti, e_putl, e_iald, e_zald, e_iast, e_zast, e_lald, e_last, e_alen, e_nald, e_nlen, e_mmax, e_mmin, e_mabs, cont_v, cont_u, e_call0, e_call1, e_call2, e_call3, e_call4, e_call5, e_call6, e_callV0, e_callT0, e_callV1, e_callT1, e_callV2, e_callT2, e_callV3, e_callT3, e_callV4, e_callT4, e_callV5, e_callT5, lin_i, lin_r, lin_l, lin_n, lsz_i, lsz_r, lsz_l, lsz_n, rep_s, rep_0, mEnt_e, u1, v1, v2, e1, cm, n10, hgS, if_true, if_false, Bool.false_eq_true, Option.bind_some, List.length_cons, List.length_nil, Nat.reduceAdd, Nat.reduceLeDiff]
          rfl) 1000 (by omega)
  refine ⟨o, w', z2.cong (fun z => ?_), ?_, ⟨⟨l, (z5.2 3 (by decide)).trans hr1⟩, ?_, z4.1, z4.2, ?_⟩, z5⟩
  · show GK P lic (2 ^ pN P) z ↔ _
    rw [GK, fam_iff hP]
  · have z6 := z1.trans z3
    have z7 : jX4_hedged_29 [] [.ref 0, .int x, .long (-1), .retAddr 0, .int 0, .retAddr 0, .retAddr 0] w1 = _ := z6
    simp only [FX4_hedged, jX4_hedged, e_push, e_ild_0, e_lld_0, e_ald_0, e_inc_0, e_ild_1, e_lld_1, e_ald_1, e_inc_1, e_ild_2, e_lld_2, e_ald_2, e_inc_2, e_ild_3, e_lld_3, e_ald_3, e_inc_3, e_ild_4, e_lld_4, e_ald_4, e_inc_4, e_ild_5, e_lld_5, e_ald_5, e_inc_5, e_ild_6, e_lld_6, e_ald_6, e_inc_6, e_ild_7, e_lld_7, e_ald_7, e_inc_7, e_ild_8, e_lld_8, e_ald_8, e_inc_8, e_ild_9, e_lld_9, e_ald_9, e_inc_9, e_ild_10, e_lld_10, e_ald_10, e_inc_10, e_ild_11, e_lld_11, e_ald_11, e_inc_11, e_ild_12, e_lld_12, e_ald_12, e_inc_12, e_ist, e_ast, e_lst, e_sto_0, e_sto_1i, e_sto_1r, e_sto_1u, e_sto_1l, e_sto_2i, e_sto_2r, e_sto_2u, e_sto_2l, e_sto_3i, e_sto_3r, e_sto_3u, e_sto_3l, e_sto_4i, e_sto_4r, e_sto_4u, e_sto_4l, e_sto_5i, e_sto_5r, e_sto_5u, e_sto_5l, e_sto_6i, e_sto_6r, e_sto_6u, e_sto_6l, e_sto_7i, e_sto_7r, e_sto_7u, e_sto_7l, e_sto_8i, e_sto_8r, e_sto_8u, e_sto_8l, e_sto_9i, e_sto_9r, e_sto_9u, e_sto_9l, e_sto_10i, e_sto_10r, e_sto_10u, e_sto_10l, e_sto_11i, e_sto_11r, e_sto_11u, e_sto_11l, e_sto_12i, e_sto_12r, e_sto_12u, e_sto_12l, e_stoL_0, e_stoL_1i, e_stoL_1r, e_stoL_1u, e_stoL_2i, e_stoL_2r, e_stoL_2u, e_stoL_3i, e_stoL_3r, e_stoL_3u, e_stoL_4i, e_stoL_4r, e_stoL_4u, e_stoL_5i, e_stoL_5r, e_stoL_5u, e_stoL_6i, e_stoL_6r, e_stoL_6u, e_stoL_7i, e_stoL_7r, e_stoL_7u, e_stoL_8i, e_stoL_8r, e_stoL_8u, e_stoL_9i, e_stoL_9r, e_stoL_9u, e_stoL_10i, e_stoL_10r, e_stoL_10u, e_stoL_11i, e_stoL_11r, e_stoL_11u, e_stoL_12i, e_stoL_12r, e_stoL_12u, e_ib, e_lb, e_ls, e_ii, e_i2l, e_l2i, e_lcmp, e_idiv, e_irem, e_dup_i, e_dup_r, e_dup2, e_pop, e_ifeq, e_iceq, e_ifne, e_icne, e_iflt, e_iclt, e_ifge, e_icge, e_ifgt, e_icgt, e_ifle, e_icle, e_sw, e_iret, e_nret, e_lret, e_aret, e_vret, e_get, e_puti, e_putl, e_iald, e_zald, e_iast, e_zast, e_lald, e_last, e_alen, e_nald, e_nlen, e_mmax, e_mmin, e_mabs, cont_v, cont_u, e_call0, e_call1, e_call2, e_call3, e_call4, e_call5, e_call6, e_callV0, e_callT0, e_callV1, e_callT1, e_callV2, e_callT2, e_callV3, e_callT3, e_callV4, e_callT4, e_callV5, e_callT5, lin_i, lin_r, lin_l, lin_n, lsz_i, lsz_r, lsz_l, lsz_n, rep_s, rep_0, mEnt_e, ei, n10, q4, q2, r11, a1, z7, if_true, if_false, Bool.false_eq_true, Option.bind_some, List.length_cons, List.length_nil, Nat.reduceAdd, Nat.reduceLeDiff]
  · obtain ⟨f, hf⟩ := hr2
    exact ⟨f, hf.kept (z5.2 4 (by decide))⟩
  · obtain ⟨g, hg⟩ := hr5
    exact ⟨g, (z5.2 23 (by decide)).trans hg⟩
end API9
